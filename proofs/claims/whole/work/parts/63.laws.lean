theorem p_ifn {p q : Prop} [Decidable p] [Decidable q] (h : p ↔ q) (u v : Int32) : (if ¬ p then u else v) = (if ¬ q then u else v) := by
  by_cases hp : p
  · rw [if_neg (fun r => r hp), if_neg (fun r => r (h.mp hp))]
  · rw [if_pos hp, if_pos (fun r => hp (h.mpr r))]
set_option maxHeartbeats 4000000 in
set_option maxRecDepth 100000 in
theorem lc_relay {E : xm_X} {Q : State → Prop} {b L i kc ks : Nat} {xs : Nat → Int32} (C0 : xm_C E R_Lw b_Lw_law 7 (some .boolean) [] "law" room_1) (hX : xl_X E b L xs) (hL : L ≤ 2560) (hi4 : i + 4 < L) (hk1 : kc + 1 ≤ 601024) (hk2 : ks + 6 ≤ 7293034) {B : wb} {S T : wt_S} {F : wt_F} {H : wt_H} {tt : Int32} {rl : Nat → Int32} {Z : mt_S} {cl : Nat → Int32} {hc : mt_H} {kp : mt_K} {pa : Nat → Int32} {tr : mt_T} {co : Int32} {o : Nat → Int64} (h : pI B rl S F Z cl) (k : ∀ (B : wb) (S T : wt_S) (F : wt_F) (H : wt_H) (tt : Int32) (rl : Nat → Int32) (Z : mt_S) (cl : Nat → Int32) (hc : mt_H) (kp : mt_K) (pa : Nat → Int32) (tr : mt_T) (co : Int32) (o : Nat → Int64), pI B rl S F Z cl → xm_W E 7 Q (kc + 1) (ks + 6) (wB B S T F H tt ++ (wMB B rl Z cl hc 0 tt kp pa tr co ++ [.inl (1, 1, .inr (.inl o))])) 1219 [(0, .retAddr b), (1, .ref 0), (2, .ref 36), (3, .ref 64), (4, .int (nI i))] []) : xm_W E 7 Q kc ks (wB B S T F H tt ++ (wMB B rl Z cl hc 0 tt kp pa tr co ++ [.inl (1, 1, .inr (.inl o))])) 128 [(0, .retAddr b), (1, .ref 0), (2, .ref 36), (3, .ref 64), (4, .int (nI i))] [] := by
  have h16 : B.1.2.2 ≤ 16 := h.1.1.1.1
  by_cases hq : g2 (xs (i + 1)) (xs (i + 2)) ∧ gw (xs (i + 3)) 1 9 ∧ gw (xs (i + 4)) 1 9
  · by_cases hi : B.1.2.2 < 16
    · obtain ⟨hg, hu, hv⟩ := hq
      obtain ⟨⟨c9, S9, F9⟩, H9⟩ : ∃ q, g_laf (b_addR B (xs (i + 1)) (xs (i + 2)) (xs (i + 3)) (xs (i + 4))) S F = q := ⟨_, rfl⟩
      obtain ⟨⟨Z9, hc9⟩, G9⟩ : ∃ q, m_laf (b_addR B (xs (i + 1)) (xs (i + 2)) (xs (i + 3)) (xs (i + 4))) rl cl Z hc = q := ⟨_, rfl⟩
      have hp := pI_laf hc (pI_R h hi hg hu hv)
      rw [H9, G9] at hp
      refine xs_aload_n C0 d_Lw_law_128 rfl 1 rfl ?_
      refine xs_saload C0 d_Lw_law_129 rfl 0 rfl ?_
      refine xs_iload C0 d_Lw_law_130 4 rfl ?_
      refine xs_iconst (v := 1) C0 d_Lw_law_132 (by decide) ?_
      refine xs_iadd C0 d_Lw_law_133 ?_
      refine xs_top (v' := .int (nI (i + 1))) (by rw [show (1 : Int32) = nI 1 from rfl, nI_add]) ?_
      refine xs_sld C0 hX d_Lw_law_134 (vp_in_nI (n := i + 1) (by omega) (by omega)) ?_
      refine xs_top (v' := .int (xs (i + 1))) (by rw [nI_clamp (by omega)]) ?_
      refine xs_saload C0 d_Lw_law_135 rfl 0 rfl ?_
      refine xs_iload C0 d_Lw_law_136 4 rfl ?_
      refine xs_iconst (v := 2) C0 d_Lw_law_138 (by decide) ?_
      refine xs_iadd C0 d_Lw_law_139 ?_
      refine xs_top (v' := .int (nI (i + 2))) (by rw [show (2 : Int32) = nI 2 from rfl, nI_add]) ?_
      refine xs_sld C0 hX d_Lw_law_140 (vp_in_nI (n := i + 2) (by omega) (by omega)) ?_
      refine xs_top (v' := .int (xs (i + 2))) (by rw [nI_clamp (by omega)]) ?_
      refine xs_saload C0 d_Lw_law_141 rfl 0 rfl ?_
      refine xs_pc (pc' := 142) rfl ?_
      refine xs_iload C0 d_Lw_law_142 4 rfl ?_
      refine xs_iconst (v := 3) C0 d_Lw_law_144 (by decide) ?_
      refine xs_iadd C0 d_Lw_law_145 ?_
      refine xs_top (v' := .int (nI (i + 3))) (by rw [show (3 : Int32) = nI 3 from rfl, nI_add]) ?_
      refine xs_sld C0 hX d_Lw_law_146 (vp_in_nI (n := i + 3) (by omega) (by omega)) ?_
      refine xs_top (v' := .int (xs (i + 3))) (by rw [nI_clamp (by omega)]) ?_
      refine xs_saload C0 d_Lw_law_147 rfl 0 rfl ?_
      refine xs_iload C0 d_Lw_law_148 4 rfl ?_
      refine xs_iconst (v := 4) C0 d_Lw_law_150 (by decide) ?_
      refine xs_iadd C0 d_Lw_law_151 ?_
      refine xs_top (v' := .int (nI (i + 4))) (by rw [show (4 : Int32) = nI 4 from rfl, nI_add]) ?_
      refine xs_sld C0 hX d_Lw_law_152 (vp_in_nI (n := i + 4) (by omega) (by omega)) ?_
      refine xs_top (v' := .int (xs (i + 4))) (by rw [nI_clamp (by omega)]) ?_
      refine xs_aload_n C0 d_Lw_law_153 rfl 3 rfl ?_
      refine xs_cS1 (ω' := (wB (b_addR B (xs (i + 1)) (xs (i + 2)) (xs (i + 3)) (xs (i + 4))) S9 T F9 H tt ++ (wMB B rl Z cl hc 0 tt kp pa tr co ++ [.inl (1, 1, .inr (.inl (vp_updL o 0 (nI B.1.2.2).toInt64)))]))) (av := [.ref 0, .int (xs (i + 1)), .int (xs (i + 2)), .int (xs (i + 3)), .int (xs (i + 4)), .ref 64]) (st := []) (kc' := kc) (ks' := ks) (v := .int 0) C0 d_Lw_law_154 l_Lw_68 (l_relay (m_relay h.1.1 hi hg hu hv H9)) rfl rfl rfl (Nat.le_of_ble_eq_true rfl) (Nat.le_of_ble_eq_true rfl) (Nat.le_refl _) (Nat.le_refl _) (Nat.le_of_succ_le hk1) (Nat.le_trans (Nat.le_add_right ks 6) hk2) ?_
      refine xs_istore (lv' := [(5, .int 0), (0, .retAddr b), (1, .ref 0), (2, .ref 36), (3, .ref 64), (4, .int (nI i))]) C0 d_Lw_law_157 (by decide) rfl ?_
      refine xs_pc (pc' := 159) rfl ?_
      refine xs_aload_n C0 d_Lw_law_159 rfl 3 rfl ?_
      refine xs_saload C0 d_Lw_law_160 rfl 1 rfl ?_
      refine xs_iload C0 d_Lw_law_161 5 rfl ?_
      refine xs_iconst (v := 1) C0 d_Lw_law_163 (by decide) ?_
      refine xs_iadd C0 d_Lw_law_164 ?_
      refine xs_top (v' := .int (nI (i + 1))) (by rw [show (1 : Int32) = nI 1 from rfl, nI_add]) ?_
      refine xs_sld C0 hX d_Lw_law_165 (vp_in_nI (n := i + 1) (by omega) (by omega)) ?_
      refine xs_top (v' := .int (xs (i + 1))) (by rw [nI_clamp (by omega)]) ?_
      refine xs_saload C0 d_Lw_law_166 rfl 1 rfl ?_
      refine xs_iload C0 d_Lw_law_167 5 rfl ?_
      refine xs_iconst (v := 2) C0 d_Lw_law_169 (by decide) ?_
      refine xs_iadd C0 d_Lw_law_170 ?_
      refine xs_top (v' := .int (nI (i + 2))) (by rw [show (2 : Int32) = nI 2 from rfl, nI_add]) ?_
      refine xs_sld C0 hX d_Lw_law_171 (vp_in_nI (n := i + 2) (by omega) (by omega)) ?_
      refine xs_top (v' := .int (xs (i + 2))) (by rw [nI_clamp (by omega)]) ?_
      refine xs_saload C0 d_Lw_law_172 rfl 1 rfl ?_
      refine xs_pc (pc' := 173) rfl ?_
      refine xs_iload C0 d_Lw_law_173 5 rfl ?_
      refine xs_iconst (v := 3) C0 d_Lw_law_175 (by decide) ?_
      refine xs_iadd C0 d_Lw_law_176 ?_
      refine xs_top (v' := .int (nI (i + 3))) (by rw [show (3 : Int32) = nI 3 from rfl, nI_add]) ?_
      refine xs_sld C0 hX d_Lw_law_177 (vp_in_nI (n := i + 3) (by omega) (by omega)) ?_
      refine xs_top (v' := .int (xs (i + 3))) (by rw [nI_clamp (by omega)]) ?_
      refine xs_saload C0 d_Lw_law_178 rfl 1 rfl ?_
      refine xs_iload C0 d_Lw_law_179 5 rfl ?_
      refine xs_iconst (v := 4) C0 d_Lw_law_181 (by decide) ?_
      refine xs_iadd C0 d_Lw_law_182 ?_
      refine xs_top (v' := .int (nI (i + 4))) (by rw [show (4 : Int32) = nI 4 from rfl, nI_add]) ?_
      refine xs_sld C0 hX d_Lw_law_183 (vp_in_nI (n := i + 4) (by omega) (by omega)) ?_
      refine xs_top (v' := .int (xs (i + 4))) (by rw [nI_clamp (by omega)]) ?_
      refine xs_cV1 (ω' := (wB (b_addR B (xs (i + 1)) (xs (i + 2)) (xs (i + 3)) (xs (i + 4))) S9 T F9 H tt ++ (wMB (b_addR B (xs (i + 1)) (xs (i + 2)) (xs (i + 3)) (xs (i + 4))) rl Z9 cl hc9 0 tt kp pa tr 0 ++ [.inl (1, 1, .inr (.inl (vp_updL o 0 (nI B.1.2.2).toInt64)))]))) (As := [.int (xs (i + 1)), .int (xs (i + 2)), .int (xs (i + 3)), .int (xs (i + 4))]) (st := []) (kc' := kc) (ks' := ks) (v := .int (nI B.1.2.2)) C0 d_Lw_law_184 l_Lw_73 rfl rfl (d_relay h.1 hi hg hu hv G9) rfl rfl rfl (Nat.le_of_ble_eq_true rfl) (Nat.le_of_ble_eq_true rfl) (Nat.le_refl _) (Nat.le_refl _) (Nat.le_of_succ_le hk1) (Nat.le_trans (Nat.le_add_right ks 6) hk2) ?_
      refine xs_istore (lv' := [(6, .int (nI B.1.2.2)), (5, .int 0), (0, .retAddr b), (1, .ref 0), (2, .ref 36), (3, .ref 64), (4, .int (nI i))]) C0 d_Lw_law_187 (by decide) rfl ?_
      refine xs_aload_n C0 d_Lw_law_189 rfl 4 rfl ?_
      refine xs_pc (pc' := 190) rfl ?_
      refine xs_cV1 (ω' := (wB (b_addR B (xs (i + 1)) (xs (i + 2)) (xs (i + 3)) (xs (i + 4))) S9 T F9 H tt ++ (wMB (b_addR B (xs (i + 1)) (xs (i + 2)) (xs (i + 3)) (xs (i + 4))) rl Z9 cl hc9 0 tt kp pa tr 0 ++ [.inl (1, 1, .inr (.inl (vp_updL o 0 (nI B.1.2.2).toInt64)))]))) (As := []) (st := []) (kc' := kc) (ks' := ks) (v := .int 0) C0 d_Lw_law_190 l_Lw_74 rfl rfl d_thrown rfl rfl rfl (Nat.le_of_ble_eq_true rfl) (Nat.le_of_ble_eq_true rfl) (Nat.le_refl _) (Nat.le_refl _) (Nat.le_of_succ_le hk1) (Nat.le_trans (Nat.le_add_right ks 6) hk2) ?_
      refine xs_iload C0 d_Lw_law_193 1 rfl ?_
      refine xs_icmp_eq (tgt := 200) C0 d_Lw_law_195 (by decide) (fun _ => ?_) (fun c9 => absurd rfl c9)
      refine xs_iload C0 d_Lw_law_200 1 rfl ?_
      refine xs_if_ne (tgt := 217) C0 d_Lw_law_202 (by decide) (fun c9 => absurd rfl c9) (fun _ => ?_)
      refine xs_aload_n C0 d_Lw_law_205 rfl 5 rfl ?_
      refine xs_iconst (v := 0) C0 d_Lw_law_206 (by decide) ?_
      refine xs_top (v' := .int (nI 0)) rfl ?_
      refine xs_lald C0 d_Lw_law_207 rfl (vp_in_nI (n := 0) (by decide) (by decide)) ?_
      refine xs_top (v' := .long ((vp_updL o 0 (nI B.1.2.2).toInt64) 0)) (by rw [nI_clamp (by omega)]) ?_
      refine xs_iload C0 d_Lw_law_208 0 rfl ?_
      refine xs_i2l C0 d_Lw_law_210 ?_
      refine xs_lcmp C0 d_Lw_law_211 ?_
      refine xs_if_eq (tgt := 217) C0 d_Lw_law_212 (by decide) (fun _ => ?_) (fun c9 => absurd (lg_cmp0.mpr rfl) c9)
      refine xs_goto (tgt := 1219) C0 d_Lw_law_217 (by decide) ?_
      refine xs_lv (lv' := [(0, .retAddr b), (1, .ref 0), (2, .ref 36), (3, .ref 64), (4, .int (nI i))]) [2, 3, 4, 5, 6] rfl ?_
      refine xs_more (Nat.le_succ kc) (Nat.le_add_right ks 6) ?_
      exact k _ _ _ _ _ _ _ _ _ _ _ _ _ _ _ hp
    · obtain ⟨hg, hu, hv⟩ := hq
      refine xs_aload_n C0 d_Lw_law_128 rfl 1 rfl ?_
      refine xs_saload C0 d_Lw_law_129 rfl 0 rfl ?_
      refine xs_iload C0 d_Lw_law_130 4 rfl ?_
      refine xs_iconst (v := 1) C0 d_Lw_law_132 (by decide) ?_
      refine xs_iadd C0 d_Lw_law_133 ?_
      refine xs_top (v' := .int (nI (i + 1))) (by rw [show (1 : Int32) = nI 1 from rfl, nI_add]) ?_
      refine xs_sld C0 hX d_Lw_law_134 (vp_in_nI (n := i + 1) (by omega) (by omega)) ?_
      refine xs_top (v' := .int (xs (i + 1))) (by rw [nI_clamp (by omega)]) ?_
      refine xs_saload C0 d_Lw_law_135 rfl 0 rfl ?_
      refine xs_iload C0 d_Lw_law_136 4 rfl ?_
      refine xs_iconst (v := 2) C0 d_Lw_law_138 (by decide) ?_
      refine xs_iadd C0 d_Lw_law_139 ?_
      refine xs_top (v' := .int (nI (i + 2))) (by rw [show (2 : Int32) = nI 2 from rfl, nI_add]) ?_
      refine xs_sld C0 hX d_Lw_law_140 (vp_in_nI (n := i + 2) (by omega) (by omega)) ?_
      refine xs_top (v' := .int (xs (i + 2))) (by rw [nI_clamp (by omega)]) ?_
      refine xs_saload C0 d_Lw_law_141 rfl 0 rfl ?_
      refine xs_pc (pc' := 142) rfl ?_
      refine xs_iload C0 d_Lw_law_142 4 rfl ?_
      refine xs_iconst (v := 3) C0 d_Lw_law_144 (by decide) ?_
      refine xs_iadd C0 d_Lw_law_145 ?_
      refine xs_top (v' := .int (nI (i + 3))) (by rw [show (3 : Int32) = nI 3 from rfl, nI_add]) ?_
      refine xs_sld C0 hX d_Lw_law_146 (vp_in_nI (n := i + 3) (by omega) (by omega)) ?_
      refine xs_top (v' := .int (xs (i + 3))) (by rw [nI_clamp (by omega)]) ?_
      refine xs_saload C0 d_Lw_law_147 rfl 0 rfl ?_
      refine xs_iload C0 d_Lw_law_148 4 rfl ?_
      refine xs_iconst (v := 4) C0 d_Lw_law_150 (by decide) ?_
      refine xs_iadd C0 d_Lw_law_151 ?_
      refine xs_top (v' := .int (nI (i + 4))) (by rw [show (4 : Int32) = nI 4 from rfl, nI_add]) ?_
      refine xs_sld C0 hX d_Lw_law_152 (vp_in_nI (n := i + 4) (by omega) (by omega)) ?_
      refine xs_top (v' := .int (xs (i + 4))) (by rw [nI_clamp (by omega)]) ?_
      refine xs_aload_n C0 d_Lw_law_153 rfl 3 rfl ?_
      refine xs_cS1 (ω' := (wB B S T F H tt ++ (wMB B rl Z cl hc 0 tt kp pa tr co ++ [.inl (1, 1, .inr (.inl o))]))) (av := [.ref 0, .int (xs (i + 1)), .int (xs (i + 2)), .int (xs (i + 3)), .int (xs (i + 4)), .ref 64]) (st := []) (kc' := (kc + 1)) (ks' := (ks + 6)) (v := .int 2) C0 d_Lw_law_154 l_Lw_68 (l_relayX (m_relayX h.1.1 (Nat.le_of_not_lt hi) hg hu hv)) rfl rfl rfl (Nat.le_of_ble_eq_true rfl) (Nat.le_of_ble_eq_true rfl) (Nat.le_refl _) (Nat.le_refl _) hk1 hk2 ?_
      refine xs_istore (lv' := [(5, .int 2), (0, .retAddr b), (1, .ref 0), (2, .ref 36), (3, .ref 64), (4, .int (nI i))]) C0 d_Lw_law_157 (by decide) rfl ?_
      refine xs_pc (pc' := 159) rfl ?_
      refine xs_aload_n C0 d_Lw_law_159 rfl 3 rfl ?_
      refine xs_saload C0 d_Lw_law_160 rfl 1 rfl ?_
      refine xs_iload C0 d_Lw_law_161 5 rfl ?_
      refine xs_iconst (v := 1) C0 d_Lw_law_163 (by decide) ?_
      refine xs_iadd C0 d_Lw_law_164 ?_
      refine xs_top (v' := .int (nI (i + 1))) (by rw [show (1 : Int32) = nI 1 from rfl, nI_add]) ?_
      refine xs_sld C0 hX d_Lw_law_165 (vp_in_nI (n := i + 1) (by omega) (by omega)) ?_
      refine xs_top (v' := .int (xs (i + 1))) (by rw [nI_clamp (by omega)]) ?_
      refine xs_saload C0 d_Lw_law_166 rfl 1 rfl ?_
      refine xs_iload C0 d_Lw_law_167 5 rfl ?_
      refine xs_iconst (v := 2) C0 d_Lw_law_169 (by decide) ?_
      refine xs_iadd C0 d_Lw_law_170 ?_
      refine xs_top (v' := .int (nI (i + 2))) (by rw [show (2 : Int32) = nI 2 from rfl, nI_add]) ?_
      refine xs_sld C0 hX d_Lw_law_171 (vp_in_nI (n := i + 2) (by omega) (by omega)) ?_
      refine xs_top (v' := .int (xs (i + 2))) (by rw [nI_clamp (by omega)]) ?_
      refine xs_saload C0 d_Lw_law_172 rfl 1 rfl ?_
      refine xs_pc (pc' := 173) rfl ?_
      refine xs_iload C0 d_Lw_law_173 5 rfl ?_
      refine xs_iconst (v := 3) C0 d_Lw_law_175 (by decide) ?_
      refine xs_iadd C0 d_Lw_law_176 ?_
      refine xs_top (v' := .int (nI (i + 3))) (by rw [show (3 : Int32) = nI 3 from rfl, nI_add]) ?_
      refine xs_sld C0 hX d_Lw_law_177 (vp_in_nI (n := i + 3) (by omega) (by omega)) ?_
      refine xs_top (v' := .int (xs (i + 3))) (by rw [nI_clamp (by omega)]) ?_
      refine xs_saload C0 d_Lw_law_178 rfl 1 rfl ?_
      refine xs_iload C0 d_Lw_law_179 5 rfl ?_
      refine xs_iconst (v := 4) C0 d_Lw_law_181 (by decide) ?_
      refine xs_iadd C0 d_Lw_law_182 ?_
      refine xs_top (v' := .int (nI (i + 4))) (by rw [show (4 : Int32) = nI 4 from rfl, nI_add]) ?_
      refine xs_sld C0 hX d_Lw_law_183 (vp_in_nI (n := i + 4) (by omega) (by omega)) ?_
      refine xs_top (v' := .int (xs (i + 4))) (by rw [nI_clamp (by omega)]) ?_
      refine xs_cV1 (ω' := (wB B S T F H tt ++ (wMB B rl Z cl hc 0 tt kp pa tr 2 ++ [.inl (1, 1, .inr (.inl o))]))) (As := [.int (xs (i + 1)), .int (xs (i + 2)), .int (xs (i + 3)), .int (xs (i + 4))]) (st := []) (kc' := (kc + 1)) (ks' := (ks + 6)) (v := .int 0) C0 d_Lw_law_184 l_Lw_73 rfl rfl (d_relayX h.1 (Nat.le_of_not_lt hi) hg hu hv) rfl rfl rfl (Nat.le_of_ble_eq_true rfl) (Nat.le_of_ble_eq_true rfl) (Nat.le_refl _) (Nat.le_refl _) hk1 hk2 ?_
      refine xs_istore (lv' := [(6, .int 0), (5, .int 2), (0, .retAddr b), (1, .ref 0), (2, .ref 36), (3, .ref 64), (4, .int (nI i))]) C0 d_Lw_law_187 (by decide) rfl ?_
      refine xs_aload_n C0 d_Lw_law_189 rfl 4 rfl ?_
      refine xs_pc (pc' := 190) rfl ?_
      refine xs_cV1 (ω' := (wB B S T F H tt ++ (wMB B rl Z cl hc 0 tt kp pa tr 2 ++ [.inl (1, 1, .inr (.inl o))]))) (As := []) (st := []) (kc' := (kc + 1)) (ks' := (ks + 6)) (v := .int 2) C0 d_Lw_law_190 l_Lw_74 rfl rfl d_thrown rfl rfl rfl (Nat.le_of_ble_eq_true rfl) (Nat.le_of_ble_eq_true rfl) (Nat.le_refl _) (Nat.le_refl _) hk1 hk2 ?_
      refine xs_iload C0 d_Lw_law_193 1 rfl ?_
      refine xs_icmp_eq (tgt := 200) C0 d_Lw_law_195 (by decide) (fun _ => ?_) (fun c9 => absurd rfl c9)
      refine xs_iload C0 d_Lw_law_200 1 rfl ?_
      refine xs_if_ne (tgt := 217) C0 d_Lw_law_202 (by decide) (fun _ => ?_) (fun c9 => absurd c9 (by decide))
      refine xs_goto (tgt := 1219) C0 d_Lw_law_217 (by decide) ?_
      refine xs_lv (lv' := [(0, .retAddr b), (1, .ref 0), (2, .ref 36), (3, .ref 64), (4, .int (nI i))]) [2, 3, 4, 5, 6] rfl ?_
      exact k _ _ _ _ _ _ _ _ _ _ _ _ _ _ _ h
  · refine xs_aload_n C0 d_Lw_law_128 rfl 1 rfl ?_
    refine xs_saload C0 d_Lw_law_129 rfl 0 rfl ?_
    refine xs_iload C0 d_Lw_law_130 4 rfl ?_
    refine xs_iconst (v := 1) C0 d_Lw_law_132 (by decide) ?_
    refine xs_iadd C0 d_Lw_law_133 ?_
    refine xs_top (v' := .int (nI (i + 1))) (by rw [show (1 : Int32) = nI 1 from rfl, nI_add]) ?_
    refine xs_sld C0 hX d_Lw_law_134 (vp_in_nI (n := i + 1) (by omega) (by omega)) ?_
    refine xs_top (v' := .int (xs (i + 1))) (by rw [nI_clamp (by omega)]) ?_
    refine xs_saload C0 d_Lw_law_135 rfl 0 rfl ?_
    refine xs_iload C0 d_Lw_law_136 4 rfl ?_
    refine xs_iconst (v := 2) C0 d_Lw_law_138 (by decide) ?_
    refine xs_iadd C0 d_Lw_law_139 ?_
    refine xs_top (v' := .int (nI (i + 2))) (by rw [show (2 : Int32) = nI 2 from rfl, nI_add]) ?_
    refine xs_sld C0 hX d_Lw_law_140 (vp_in_nI (n := i + 2) (by omega) (by omega)) ?_
    refine xs_top (v' := .int (xs (i + 2))) (by rw [nI_clamp (by omega)]) ?_
    refine xs_saload C0 d_Lw_law_141 rfl 0 rfl ?_
    refine xs_pc (pc' := 142) rfl ?_
    refine xs_iload C0 d_Lw_law_142 4 rfl ?_
    refine xs_iconst (v := 3) C0 d_Lw_law_144 (by decide) ?_
    refine xs_iadd C0 d_Lw_law_145 ?_
    refine xs_top (v' := .int (nI (i + 3))) (by rw [show (3 : Int32) = nI 3 from rfl, nI_add]) ?_
    refine xs_sld C0 hX d_Lw_law_146 (vp_in_nI (n := i + 3) (by omega) (by omega)) ?_
    refine xs_top (v' := .int (xs (i + 3))) (by rw [nI_clamp (by omega)]) ?_
    refine xs_saload C0 d_Lw_law_147 rfl 0 rfl ?_
    refine xs_iload C0 d_Lw_law_148 4 rfl ?_
    refine xs_iconst (v := 4) C0 d_Lw_law_150 (by decide) ?_
    refine xs_iadd C0 d_Lw_law_151 ?_
    refine xs_top (v' := .int (nI (i + 4))) (by rw [show (4 : Int32) = nI 4 from rfl, nI_add]) ?_
    refine xs_sld C0 hX d_Lw_law_152 (vp_in_nI (n := i + 4) (by omega) (by omega)) ?_
    refine xs_top (v' := .int (xs (i + 4))) (by rw [nI_clamp (by omega)]) ?_
    refine xs_aload_n C0 d_Lw_law_153 rfl 3 rfl ?_
    refine xs_cS1 (ω' := (wB B S T F H tt ++ (wMB B rl Z cl hc 0 tt kp pa tr co ++ [.inl (1, 1, .inr (.inl o))]))) (av := [.ref 0, .int (xs (i + 1)), .int (xs (i + 2)), .int (xs (i + 3)), .int (xs (i + 4)), .ref 64]) (st := []) (kc' := (kc + 1)) (ks' := (ks + 6)) (v := .int 1) C0 d_Lw_law_154 l_Lw_68 (l_relayT (m_relayT h.1.1 hq)) rfl rfl rfl (Nat.le_of_ble_eq_true rfl) (Nat.le_of_ble_eq_true rfl) (Nat.le_refl _) (Nat.le_refl _) hk1 hk2 ?_
    refine xs_istore (lv' := [(5, .int 1), (0, .retAddr b), (1, .ref 0), (2, .ref 36), (3, .ref 64), (4, .int (nI i))]) C0 d_Lw_law_157 (by decide) rfl ?_
    refine xs_pc (pc' := 159) rfl ?_
    refine xs_aload_n C0 d_Lw_law_159 rfl 3 rfl ?_
    refine xs_saload C0 d_Lw_law_160 rfl 1 rfl ?_
    refine xs_iload C0 d_Lw_law_161 5 rfl ?_
    refine xs_iconst (v := 1) C0 d_Lw_law_163 (by decide) ?_
    refine xs_iadd C0 d_Lw_law_164 ?_
    refine xs_top (v' := .int (nI (i + 1))) (by rw [show (1 : Int32) = nI 1 from rfl, nI_add]) ?_
    refine xs_sld C0 hX d_Lw_law_165 (vp_in_nI (n := i + 1) (by omega) (by omega)) ?_
    refine xs_top (v' := .int (xs (i + 1))) (by rw [nI_clamp (by omega)]) ?_
    refine xs_saload C0 d_Lw_law_166 rfl 1 rfl ?_
    refine xs_iload C0 d_Lw_law_167 5 rfl ?_
    refine xs_iconst (v := 2) C0 d_Lw_law_169 (by decide) ?_
    refine xs_iadd C0 d_Lw_law_170 ?_
    refine xs_top (v' := .int (nI (i + 2))) (by rw [show (2 : Int32) = nI 2 from rfl, nI_add]) ?_
    refine xs_sld C0 hX d_Lw_law_171 (vp_in_nI (n := i + 2) (by omega) (by omega)) ?_
    refine xs_top (v' := .int (xs (i + 2))) (by rw [nI_clamp (by omega)]) ?_
    refine xs_saload C0 d_Lw_law_172 rfl 1 rfl ?_
    refine xs_pc (pc' := 173) rfl ?_
    refine xs_iload C0 d_Lw_law_173 5 rfl ?_
    refine xs_iconst (v := 3) C0 d_Lw_law_175 (by decide) ?_
    refine xs_iadd C0 d_Lw_law_176 ?_
    refine xs_top (v' := .int (nI (i + 3))) (by rw [show (3 : Int32) = nI 3 from rfl, nI_add]) ?_
    refine xs_sld C0 hX d_Lw_law_177 (vp_in_nI (n := i + 3) (by omega) (by omega)) ?_
    refine xs_top (v' := .int (xs (i + 3))) (by rw [nI_clamp (by omega)]) ?_
    refine xs_saload C0 d_Lw_law_178 rfl 1 rfl ?_
    refine xs_iload C0 d_Lw_law_179 5 rfl ?_
    refine xs_iconst (v := 4) C0 d_Lw_law_181 (by decide) ?_
    refine xs_iadd C0 d_Lw_law_182 ?_
    refine xs_top (v' := .int (nI (i + 4))) (by rw [show (4 : Int32) = nI 4 from rfl, nI_add]) ?_
    refine xs_sld C0 hX d_Lw_law_183 (vp_in_nI (n := i + 4) (by omega) (by omega)) ?_
    refine xs_top (v' := .int (xs (i + 4))) (by rw [nI_clamp (by omega)]) ?_
    refine xs_cV1 (ω' := (wB B S T F H tt ++ (wMB B rl Z cl hc 0 tt kp pa tr 1 ++ [.inl (1, 1, .inr (.inl o))]))) (As := [.int (xs (i + 1)), .int (xs (i + 2)), .int (xs (i + 3)), .int (xs (i + 4))]) (st := []) (kc' := (kc + 1)) (ks' := (ks + 6)) (v := .int 0) C0 d_Lw_law_184 l_Lw_73 rfl rfl (d_relayT h.1 hq) rfl rfl rfl (Nat.le_of_ble_eq_true rfl) (Nat.le_of_ble_eq_true rfl) (Nat.le_refl _) (Nat.le_refl _) hk1 hk2 ?_
    refine xs_istore (lv' := [(6, .int 0), (5, .int 1), (0, .retAddr b), (1, .ref 0), (2, .ref 36), (3, .ref 64), (4, .int (nI i))]) C0 d_Lw_law_187 (by decide) rfl ?_
    refine xs_aload_n C0 d_Lw_law_189 rfl 4 rfl ?_
    refine xs_pc (pc' := 190) rfl ?_
    refine xs_cV1 (ω' := (wB B S T F H tt ++ (wMB B rl Z cl hc 0 tt kp pa tr 1 ++ [.inl (1, 1, .inr (.inl o))]))) (As := []) (st := []) (kc' := (kc + 1)) (ks' := (ks + 6)) (v := .int 1) C0 d_Lw_law_190 l_Lw_74 rfl rfl d_thrown rfl rfl rfl (Nat.le_of_ble_eq_true rfl) (Nat.le_of_ble_eq_true rfl) (Nat.le_refl _) (Nat.le_refl _) hk1 hk2 ?_
    refine xs_iload C0 d_Lw_law_193 1 rfl ?_
    refine xs_icmp_eq (tgt := 200) C0 d_Lw_law_195 (by decide) (fun _ => ?_) (fun c9 => absurd rfl c9)
    refine xs_iload C0 d_Lw_law_200 1 rfl ?_
    refine xs_if_ne (tgt := 217) C0 d_Lw_law_202 (by decide) (fun _ => ?_) (fun c9 => absurd c9 (by decide))
    refine xs_goto (tgt := 1219) C0 d_Lw_law_217 (by decide) ?_
    refine xs_lv (lv' := [(0, .retAddr b), (1, .ref 0), (2, .ref 36), (3, .ref 64), (4, .int (nI i))]) [2, 3, 4, 5, 6] rfl ?_
    exact k _ _ _ _ _ _ _ _ _ _ _ _ _ _ _ h
set_option maxHeartbeats 4000000 in
set_option maxRecDepth 100000 in
theorem lc_cont {E : xm_X} {Q : State → Prop} {b L i kc ks : Nat} {xs : Nat → Int32} (C0 : xm_C E R_Lw b_Lw_law 7 (some .boolean) [] "law" room_1) (hX : xl_X E b L xs) (hL : L ≤ 2560) (hi4 : i + 4 < L) (hk1 : kc + 1 ≤ 601024) (hk2 : ks + 6 ≤ 7293034) {B : wb} {S T : wt_S} {F : wt_F} {H : wt_H} {tt : Int32} {rl : Nat → Int32} {Z : mt_S} {cl : Nat → Int32} {hc : mt_H} {kp : mt_K} {pa : Nat → Int32} {tr : mt_T} {co : Int32} {o : Nat → Int64} (h : pI B rl S F Z cl) (k : ∀ (B : wb) (S T : wt_S) (F : wt_F) (H : wt_H) (tt : Int32) (rl : Nat → Int32) (Z : mt_S) (cl : Nat → Int32) (hc : mt_H) (kp : mt_K) (pa : Nat → Int32) (tr : mt_T) (co : Int32) (o : Nat → Int64), pI B rl S F Z cl → xm_W E 7 Q (kc + 1) (ks + 6) (wB B S T F H tt ++ (wMB B rl Z cl hc 0 tt kp pa tr co ++ [.inl (1, 1, .inr (.inl o))])) 1219 [(0, .retAddr b), (1, .ref 0), (2, .ref 36), (3, .ref 64), (4, .int (nI i))] []) : xm_W E 7 Q kc ks (wB B S T F H tt ++ (wMB B rl Z cl hc 0 tt kp pa tr co ++ [.inl (1, 1, .inr (.inl o))])) 220 [(0, .retAddr b), (1, .ref 0), (2, .ref 36), (3, .ref 64), (4, .int (nI i))] [] := by
  have h16 : B.1.2.2 ≤ 16 := h.1.1.1.1
  by_cases hq : gw (xs (i + 1)) 0 4 ∧ ((xs (i + 1)) = 4 ∨ gw (xs (i + 2)) 0 (nI B.1.2.2 - 1)) ∧ g2 (xs (i + 3)) (xs (i + 4))
  · by_cases hi : B.2.1.2.2 < 64
    · obtain ⟨hu, hv, hg⟩ := hq
      obtain ⟨⟨c9, S9, F9⟩, H9⟩ : ∃ q, g_laf (b_addC B (xs (i + 1)) (xs (i + 2)) (xs (i + 3)) (xs (i + 4))) S F = q := ⟨_, rfl⟩
      obtain ⟨⟨Z9, hc9⟩, G9⟩ : ∃ q, m_laf (b_addC B (xs (i + 1)) (xs (i + 2)) (xs (i + 3)) (xs (i + 4))) (upd rl B.2.1.2.2 (xs (i + 2))) cl Z hc = q := ⟨_, rfl⟩
      have hp := pI_laf hc (pI_C h hi hu hv hg)
      rw [H9, G9] at hp
      refine xs_aload_n C0 d_Lw_law_220 rfl 1 rfl ?_
      refine xs_saload C0 d_Lw_law_221 rfl 0 rfl ?_
      refine xs_iload C0 d_Lw_law_222 4 rfl ?_
      refine xs_iconst (v := 1) C0 d_Lw_law_224 (by decide) ?_
      refine xs_iadd C0 d_Lw_law_225 ?_
      refine xs_top (v' := .int (nI (i + 1))) (by rw [show (1 : Int32) = nI 1 from rfl, nI_add]) ?_
      refine xs_sld C0 hX d_Lw_law_226 (vp_in_nI (n := i + 1) (by omega) (by omega)) ?_
      refine xs_top (v' := .int (xs (i + 1))) (by rw [nI_clamp (by omega)]) ?_
      refine xs_saload C0 d_Lw_law_227 rfl 0 rfl ?_
      refine xs_iload C0 d_Lw_law_228 4 rfl ?_
      refine xs_iconst (v := 2) C0 d_Lw_law_230 (by decide) ?_
      refine xs_iadd C0 d_Lw_law_231 ?_
      refine xs_top (v' := .int (nI (i + 2))) (by rw [show (2 : Int32) = nI 2 from rfl, nI_add]) ?_
      refine xs_sld C0 hX d_Lw_law_232 (vp_in_nI (n := i + 2) (by omega) (by omega)) ?_
      refine xs_top (v' := .int (xs (i + 2))) (by rw [nI_clamp (by omega)]) ?_
      refine xs_saload C0 d_Lw_law_233 rfl 0 rfl ?_
      refine xs_pc (pc' := 234) rfl ?_
      refine xs_iload C0 d_Lw_law_234 4 rfl ?_
      refine xs_iconst (v := 3) C0 d_Lw_law_236 (by decide) ?_
      refine xs_iadd C0 d_Lw_law_237 ?_
      refine xs_top (v' := .int (nI (i + 3))) (by rw [show (3 : Int32) = nI 3 from rfl, nI_add]) ?_
      refine xs_sld C0 hX d_Lw_law_238 (vp_in_nI (n := i + 3) (by omega) (by omega)) ?_
      refine xs_top (v' := .int (xs (i + 3))) (by rw [nI_clamp (by omega)]) ?_
      refine xs_saload C0 d_Lw_law_239 rfl 0 rfl ?_
      refine xs_iload C0 d_Lw_law_240 4 rfl ?_
      refine xs_iconst (v := 4) C0 d_Lw_law_242 (by decide) ?_
      refine xs_iadd C0 d_Lw_law_243 ?_
      refine xs_top (v' := .int (nI (i + 4))) (by rw [show (4 : Int32) = nI 4 from rfl, nI_add]) ?_
      refine xs_sld C0 hX d_Lw_law_244 (vp_in_nI (n := i + 4) (by omega) (by omega)) ?_
      refine xs_top (v' := .int (xs (i + 4))) (by rw [nI_clamp (by omega)]) ?_
      refine xs_aload_n C0 d_Lw_law_245 rfl 3 rfl ?_
      refine xs_cS1 (ω' := (wB (b_addC B (xs (i + 1)) (xs (i + 2)) (xs (i + 3)) (xs (i + 4))) S9 T F9 H tt ++ (wMB B rl Z cl hc 0 tt kp pa tr co ++ [.inl (1, 1, .inr (.inl (vp_updL o 0 (nI B.2.1.2.2).toInt64)))]))) (av := [.ref 0, .int (xs (i + 1)), .int (xs (i + 2)), .int (xs (i + 3)), .int (xs (i + 4)), .ref 64]) (st := []) (kc' := kc) (ks' := ks) (v := .int 0) C0 d_Lw_law_246 l_Lw_78 (l_contact (m_cont h.1.1 hi hu hv hg H9)) rfl rfl rfl (Nat.le_of_ble_eq_true rfl) (Nat.le_of_ble_eq_true rfl) (Nat.le_refl _) (Nat.le_refl _) (Nat.le_of_succ_le hk1) (Nat.le_trans (Nat.le_add_right ks 6) hk2) ?_
      refine xs_istore (lv' := [(5, .int 0), (0, .retAddr b), (1, .ref 0), (2, .ref 36), (3, .ref 64), (4, .int (nI i))]) C0 d_Lw_law_249 (by decide) rfl ?_
      refine xs_pc (pc' := 251) rfl ?_
      refine xs_aload_n C0 d_Lw_law_251 rfl 3 rfl ?_
      refine xs_saload C0 d_Lw_law_252 rfl 1 rfl ?_
      refine xs_iload C0 d_Lw_law_253 5 rfl ?_
      refine xs_iconst (v := 1) C0 d_Lw_law_255 (by decide) ?_
      refine xs_iadd C0 d_Lw_law_256 ?_
      refine xs_top (v' := .int (nI (i + 1))) (by rw [show (1 : Int32) = nI 1 from rfl, nI_add]) ?_
      refine xs_sld C0 hX d_Lw_law_257 (vp_in_nI (n := i + 1) (by omega) (by omega)) ?_
      refine xs_top (v' := .int (xs (i + 1))) (by rw [nI_clamp (by omega)]) ?_
      refine xs_saload C0 d_Lw_law_258 rfl 1 rfl ?_
      refine xs_iload C0 d_Lw_law_259 5 rfl ?_
      refine xs_iconst (v := 2) C0 d_Lw_law_261 (by decide) ?_
      refine xs_iadd C0 d_Lw_law_262 ?_
      refine xs_top (v' := .int (nI (i + 2))) (by rw [show (2 : Int32) = nI 2 from rfl, nI_add]) ?_
      refine xs_sld C0 hX d_Lw_law_263 (vp_in_nI (n := i + 2) (by omega) (by omega)) ?_
      refine xs_top (v' := .int (xs (i + 2))) (by rw [nI_clamp (by omega)]) ?_
      refine xs_saload C0 d_Lw_law_264 rfl 1 rfl ?_
      refine xs_pc (pc' := 265) rfl ?_
      refine xs_iload C0 d_Lw_law_265 5 rfl ?_
      refine xs_iconst (v := 3) C0 d_Lw_law_267 (by decide) ?_
      refine xs_iadd C0 d_Lw_law_268 ?_
      refine xs_top (v' := .int (nI (i + 3))) (by rw [show (3 : Int32) = nI 3 from rfl, nI_add]) ?_
      refine xs_sld C0 hX d_Lw_law_269 (vp_in_nI (n := i + 3) (by omega) (by omega)) ?_
      refine xs_top (v' := .int (xs (i + 3))) (by rw [nI_clamp (by omega)]) ?_
      refine xs_saload C0 d_Lw_law_270 rfl 1 rfl ?_
      refine xs_iload C0 d_Lw_law_271 5 rfl ?_
      refine xs_iconst (v := 4) C0 d_Lw_law_273 (by decide) ?_
      refine xs_iadd C0 d_Lw_law_274 ?_
      refine xs_top (v' := .int (nI (i + 4))) (by rw [show (4 : Int32) = nI 4 from rfl, nI_add]) ?_
      refine xs_sld C0 hX d_Lw_law_275 (vp_in_nI (n := i + 4) (by omega) (by omega)) ?_
      refine xs_top (v' := .int (xs (i + 4))) (by rw [nI_clamp (by omega)]) ?_
      refine xs_cV1 (ω' := (wB (b_addC B (xs (i + 1)) (xs (i + 2)) (xs (i + 3)) (xs (i + 4))) S9 T F9 H tt ++ (wMB (b_addC B (xs (i + 1)) (xs (i + 2)) (xs (i + 3)) (xs (i + 4))) (upd rl B.2.1.2.2 (xs (i + 2))) Z9 cl hc9 0 tt kp pa tr 0 ++ [.inl (1, 1, .inr (.inl (vp_updL o 0 (nI B.2.1.2.2).toInt64)))]))) (As := [.int (xs (i + 1)), .int (xs (i + 2)), .int (xs (i + 3)), .int (xs (i + 4))]) (st := []) (kc' := kc) (ks' := ks) (v := .int (nI B.2.1.2.2)) C0 d_Lw_law_276 l_Lw_80 rfl rfl (d_cont h.1 hi hu hv hg G9) rfl rfl rfl (Nat.le_of_ble_eq_true rfl) (Nat.le_of_ble_eq_true rfl) (Nat.le_refl _) (Nat.le_refl _) (Nat.le_of_succ_le hk1) (Nat.le_trans (Nat.le_add_right ks 6) hk2) ?_
      refine xs_istore (lv' := [(6, .int (nI B.2.1.2.2)), (5, .int 0), (0, .retAddr b), (1, .ref 0), (2, .ref 36), (3, .ref 64), (4, .int (nI i))]) C0 d_Lw_law_279 (by decide) rfl ?_
      refine xs_aload_n C0 d_Lw_law_281 rfl 4 rfl ?_
      refine xs_pc (pc' := 282) rfl ?_
      refine xs_cV1 (ω' := (wB (b_addC B (xs (i + 1)) (xs (i + 2)) (xs (i + 3)) (xs (i + 4))) S9 T F9 H tt ++ (wMB (b_addC B (xs (i + 1)) (xs (i + 2)) (xs (i + 3)) (xs (i + 4))) (upd rl B.2.1.2.2 (xs (i + 2))) Z9 cl hc9 0 tt kp pa tr 0 ++ [.inl (1, 1, .inr (.inl (vp_updL o 0 (nI B.2.1.2.2).toInt64)))]))) (As := []) (st := []) (kc' := kc) (ks' := ks) (v := .int 0) C0 d_Lw_law_282 l_Lw_74 rfl rfl d_thrown rfl rfl rfl (Nat.le_of_ble_eq_true rfl) (Nat.le_of_ble_eq_true rfl) (Nat.le_refl _) (Nat.le_refl _) (Nat.le_of_succ_le hk1) (Nat.le_trans (Nat.le_add_right ks 6) hk2) ?_
      refine xs_iload C0 d_Lw_law_285 1 rfl ?_
      refine xs_icmp_eq (tgt := 292) C0 d_Lw_law_287 (by decide) (fun _ => ?_) (fun c9 => absurd rfl c9)
      refine xs_iload C0 d_Lw_law_292 1 rfl ?_
      refine xs_if_ne (tgt := 309) C0 d_Lw_law_294 (by decide) (fun c9 => absurd rfl c9) (fun _ => ?_)
      refine xs_aload_n C0 d_Lw_law_297 rfl 5 rfl ?_
      refine xs_iconst (v := 0) C0 d_Lw_law_298 (by decide) ?_
      refine xs_top (v' := .int (nI 0)) rfl ?_
      refine xs_lald C0 d_Lw_law_299 rfl (vp_in_nI (n := 0) (by decide) (by decide)) ?_
      refine xs_top (v' := .long ((vp_updL o 0 (nI B.2.1.2.2).toInt64) 0)) (by rw [nI_clamp (by omega)]) ?_
      refine xs_iload C0 d_Lw_law_300 0 rfl ?_
      refine xs_i2l C0 d_Lw_law_302 ?_
      refine xs_lcmp C0 d_Lw_law_303 ?_
      refine xs_if_eq (tgt := 309) C0 d_Lw_law_304 (by decide) (fun _ => ?_) (fun c9 => absurd (lg_cmp0.mpr rfl) c9)
      refine xs_goto (tgt := 1219) C0 d_Lw_law_309 (by decide) ?_
      refine xs_lv (lv' := [(0, .retAddr b), (1, .ref 0), (2, .ref 36), (3, .ref 64), (4, .int (nI i))]) [2, 3, 4, 5, 6] rfl ?_
      refine xs_more (Nat.le_succ kc) (Nat.le_add_right ks 6) ?_
      exact k _ _ _ _ _ _ _ _ _ _ _ _ _ _ _ hp
    · obtain ⟨hu, hv, hg⟩ := hq
      refine xs_aload_n C0 d_Lw_law_220 rfl 1 rfl ?_
      refine xs_saload C0 d_Lw_law_221 rfl 0 rfl ?_
      refine xs_iload C0 d_Lw_law_222 4 rfl ?_
      refine xs_iconst (v := 1) C0 d_Lw_law_224 (by decide) ?_
      refine xs_iadd C0 d_Lw_law_225 ?_
      refine xs_top (v' := .int (nI (i + 1))) (by rw [show (1 : Int32) = nI 1 from rfl, nI_add]) ?_
      refine xs_sld C0 hX d_Lw_law_226 (vp_in_nI (n := i + 1) (by omega) (by omega)) ?_
      refine xs_top (v' := .int (xs (i + 1))) (by rw [nI_clamp (by omega)]) ?_
      refine xs_saload C0 d_Lw_law_227 rfl 0 rfl ?_
      refine xs_iload C0 d_Lw_law_228 4 rfl ?_
      refine xs_iconst (v := 2) C0 d_Lw_law_230 (by decide) ?_
      refine xs_iadd C0 d_Lw_law_231 ?_
      refine xs_top (v' := .int (nI (i + 2))) (by rw [show (2 : Int32) = nI 2 from rfl, nI_add]) ?_
      refine xs_sld C0 hX d_Lw_law_232 (vp_in_nI (n := i + 2) (by omega) (by omega)) ?_
      refine xs_top (v' := .int (xs (i + 2))) (by rw [nI_clamp (by omega)]) ?_
      refine xs_saload C0 d_Lw_law_233 rfl 0 rfl ?_
      refine xs_pc (pc' := 234) rfl ?_
      refine xs_iload C0 d_Lw_law_234 4 rfl ?_
      refine xs_iconst (v := 3) C0 d_Lw_law_236 (by decide) ?_
      refine xs_iadd C0 d_Lw_law_237 ?_
      refine xs_top (v' := .int (nI (i + 3))) (by rw [show (3 : Int32) = nI 3 from rfl, nI_add]) ?_
      refine xs_sld C0 hX d_Lw_law_238 (vp_in_nI (n := i + 3) (by omega) (by omega)) ?_
      refine xs_top (v' := .int (xs (i + 3))) (by rw [nI_clamp (by omega)]) ?_
      refine xs_saload C0 d_Lw_law_239 rfl 0 rfl ?_
      refine xs_iload C0 d_Lw_law_240 4 rfl ?_
      refine xs_iconst (v := 4) C0 d_Lw_law_242 (by decide) ?_
      refine xs_iadd C0 d_Lw_law_243 ?_
      refine xs_top (v' := .int (nI (i + 4))) (by rw [show (4 : Int32) = nI 4 from rfl, nI_add]) ?_
      refine xs_sld C0 hX d_Lw_law_244 (vp_in_nI (n := i + 4) (by omega) (by omega)) ?_
      refine xs_top (v' := .int (xs (i + 4))) (by rw [nI_clamp (by omega)]) ?_
      refine xs_aload_n C0 d_Lw_law_245 rfl 3 rfl ?_
      refine xs_cS1 (ω' := (wB B S T F H tt ++ (wMB B rl Z cl hc 0 tt kp pa tr co ++ [.inl (1, 1, .inr (.inl o))]))) (av := [.ref 0, .int (xs (i + 1)), .int (xs (i + 2)), .int (xs (i + 3)), .int (xs (i + 4)), .ref 64]) (st := []) (kc' := (kc + 1)) (ks' := (ks + 6)) (v := .int 2) C0 d_Lw_law_246 l_Lw_78 (l_contactX (m_contX h.1.1 (Nat.le_of_not_lt hi) hu hv hg)) rfl rfl rfl (Nat.le_of_ble_eq_true rfl) (Nat.le_of_ble_eq_true rfl) (Nat.le_refl _) (Nat.le_refl _) hk1 hk2 ?_
      refine xs_istore (lv' := [(5, .int 2), (0, .retAddr b), (1, .ref 0), (2, .ref 36), (3, .ref 64), (4, .int (nI i))]) C0 d_Lw_law_249 (by decide) rfl ?_
      refine xs_pc (pc' := 251) rfl ?_
      refine xs_aload_n C0 d_Lw_law_251 rfl 3 rfl ?_
      refine xs_saload C0 d_Lw_law_252 rfl 1 rfl ?_
      refine xs_iload C0 d_Lw_law_253 5 rfl ?_
      refine xs_iconst (v := 1) C0 d_Lw_law_255 (by decide) ?_
      refine xs_iadd C0 d_Lw_law_256 ?_
      refine xs_top (v' := .int (nI (i + 1))) (by rw [show (1 : Int32) = nI 1 from rfl, nI_add]) ?_
      refine xs_sld C0 hX d_Lw_law_257 (vp_in_nI (n := i + 1) (by omega) (by omega)) ?_
      refine xs_top (v' := .int (xs (i + 1))) (by rw [nI_clamp (by omega)]) ?_
      refine xs_saload C0 d_Lw_law_258 rfl 1 rfl ?_
      refine xs_iload C0 d_Lw_law_259 5 rfl ?_
      refine xs_iconst (v := 2) C0 d_Lw_law_261 (by decide) ?_
      refine xs_iadd C0 d_Lw_law_262 ?_
      refine xs_top (v' := .int (nI (i + 2))) (by rw [show (2 : Int32) = nI 2 from rfl, nI_add]) ?_
      refine xs_sld C0 hX d_Lw_law_263 (vp_in_nI (n := i + 2) (by omega) (by omega)) ?_
      refine xs_top (v' := .int (xs (i + 2))) (by rw [nI_clamp (by omega)]) ?_
      refine xs_saload C0 d_Lw_law_264 rfl 1 rfl ?_
      refine xs_pc (pc' := 265) rfl ?_
      refine xs_iload C0 d_Lw_law_265 5 rfl ?_
      refine xs_iconst (v := 3) C0 d_Lw_law_267 (by decide) ?_
      refine xs_iadd C0 d_Lw_law_268 ?_
      refine xs_top (v' := .int (nI (i + 3))) (by rw [show (3 : Int32) = nI 3 from rfl, nI_add]) ?_
      refine xs_sld C0 hX d_Lw_law_269 (vp_in_nI (n := i + 3) (by omega) (by omega)) ?_
      refine xs_top (v' := .int (xs (i + 3))) (by rw [nI_clamp (by omega)]) ?_
      refine xs_saload C0 d_Lw_law_270 rfl 1 rfl ?_
      refine xs_iload C0 d_Lw_law_271 5 rfl ?_
      refine xs_iconst (v := 4) C0 d_Lw_law_273 (by decide) ?_
      refine xs_iadd C0 d_Lw_law_274 ?_
      refine xs_top (v' := .int (nI (i + 4))) (by rw [show (4 : Int32) = nI 4 from rfl, nI_add]) ?_
      refine xs_sld C0 hX d_Lw_law_275 (vp_in_nI (n := i + 4) (by omega) (by omega)) ?_
      refine xs_top (v' := .int (xs (i + 4))) (by rw [nI_clamp (by omega)]) ?_
      refine xs_cV1 (ω' := (wB B S T F H tt ++ (wMB B rl Z cl hc 0 tt kp pa tr 2 ++ [.inl (1, 1, .inr (.inl o))]))) (As := [.int (xs (i + 1)), .int (xs (i + 2)), .int (xs (i + 3)), .int (xs (i + 4))]) (st := []) (kc' := (kc + 1)) (ks' := (ks + 6)) (v := .int 0) C0 d_Lw_law_276 l_Lw_80 rfl rfl (d_contX h.1 (Nat.le_of_not_lt hi) hu hv hg) rfl rfl rfl (Nat.le_of_ble_eq_true rfl) (Nat.le_of_ble_eq_true rfl) (Nat.le_refl _) (Nat.le_refl _) hk1 hk2 ?_
      refine xs_istore (lv' := [(6, .int 0), (5, .int 2), (0, .retAddr b), (1, .ref 0), (2, .ref 36), (3, .ref 64), (4, .int (nI i))]) C0 d_Lw_law_279 (by decide) rfl ?_
      refine xs_aload_n C0 d_Lw_law_281 rfl 4 rfl ?_
      refine xs_pc (pc' := 282) rfl ?_
      refine xs_cV1 (ω' := (wB B S T F H tt ++ (wMB B rl Z cl hc 0 tt kp pa tr 2 ++ [.inl (1, 1, .inr (.inl o))]))) (As := []) (st := []) (kc' := (kc + 1)) (ks' := (ks + 6)) (v := .int 2) C0 d_Lw_law_282 l_Lw_74 rfl rfl d_thrown rfl rfl rfl (Nat.le_of_ble_eq_true rfl) (Nat.le_of_ble_eq_true rfl) (Nat.le_refl _) (Nat.le_refl _) hk1 hk2 ?_
      refine xs_iload C0 d_Lw_law_285 1 rfl ?_
      refine xs_icmp_eq (tgt := 292) C0 d_Lw_law_287 (by decide) (fun _ => ?_) (fun c9 => absurd rfl c9)
      refine xs_iload C0 d_Lw_law_292 1 rfl ?_
      refine xs_if_ne (tgt := 309) C0 d_Lw_law_294 (by decide) (fun _ => ?_) (fun c9 => absurd c9 (by decide))
      refine xs_goto (tgt := 1219) C0 d_Lw_law_309 (by decide) ?_
      refine xs_lv (lv' := [(0, .retAddr b), (1, .ref 0), (2, .ref 36), (3, .ref 64), (4, .int (nI i))]) [2, 3, 4, 5, 6] rfl ?_
      exact k _ _ _ _ _ _ _ _ _ _ _ _ _ _ _ h
  · refine xs_aload_n C0 d_Lw_law_220 rfl 1 rfl ?_
    refine xs_saload C0 d_Lw_law_221 rfl 0 rfl ?_
    refine xs_iload C0 d_Lw_law_222 4 rfl ?_
    refine xs_iconst (v := 1) C0 d_Lw_law_224 (by decide) ?_
    refine xs_iadd C0 d_Lw_law_225 ?_
    refine xs_top (v' := .int (nI (i + 1))) (by rw [show (1 : Int32) = nI 1 from rfl, nI_add]) ?_
    refine xs_sld C0 hX d_Lw_law_226 (vp_in_nI (n := i + 1) (by omega) (by omega)) ?_
    refine xs_top (v' := .int (xs (i + 1))) (by rw [nI_clamp (by omega)]) ?_
    refine xs_saload C0 d_Lw_law_227 rfl 0 rfl ?_
    refine xs_iload C0 d_Lw_law_228 4 rfl ?_
    refine xs_iconst (v := 2) C0 d_Lw_law_230 (by decide) ?_
    refine xs_iadd C0 d_Lw_law_231 ?_
    refine xs_top (v' := .int (nI (i + 2))) (by rw [show (2 : Int32) = nI 2 from rfl, nI_add]) ?_
    refine xs_sld C0 hX d_Lw_law_232 (vp_in_nI (n := i + 2) (by omega) (by omega)) ?_
    refine xs_top (v' := .int (xs (i + 2))) (by rw [nI_clamp (by omega)]) ?_
    refine xs_saload C0 d_Lw_law_233 rfl 0 rfl ?_
    refine xs_pc (pc' := 234) rfl ?_
    refine xs_iload C0 d_Lw_law_234 4 rfl ?_
    refine xs_iconst (v := 3) C0 d_Lw_law_236 (by decide) ?_
    refine xs_iadd C0 d_Lw_law_237 ?_
    refine xs_top (v' := .int (nI (i + 3))) (by rw [show (3 : Int32) = nI 3 from rfl, nI_add]) ?_
    refine xs_sld C0 hX d_Lw_law_238 (vp_in_nI (n := i + 3) (by omega) (by omega)) ?_
    refine xs_top (v' := .int (xs (i + 3))) (by rw [nI_clamp (by omega)]) ?_
    refine xs_saload C0 d_Lw_law_239 rfl 0 rfl ?_
    refine xs_iload C0 d_Lw_law_240 4 rfl ?_
    refine xs_iconst (v := 4) C0 d_Lw_law_242 (by decide) ?_
    refine xs_iadd C0 d_Lw_law_243 ?_
    refine xs_top (v' := .int (nI (i + 4))) (by rw [show (4 : Int32) = nI 4 from rfl, nI_add]) ?_
    refine xs_sld C0 hX d_Lw_law_244 (vp_in_nI (n := i + 4) (by omega) (by omega)) ?_
    refine xs_top (v' := .int (xs (i + 4))) (by rw [nI_clamp (by omega)]) ?_
    refine xs_aload_n C0 d_Lw_law_245 rfl 3 rfl ?_
    refine xs_cS1 (ω' := (wB B S T F H tt ++ (wMB B rl Z cl hc 0 tt kp pa tr co ++ [.inl (1, 1, .inr (.inl o))]))) (av := [.ref 0, .int (xs (i + 1)), .int (xs (i + 2)), .int (xs (i + 3)), .int (xs (i + 4)), .ref 64]) (st := []) (kc' := (kc + 1)) (ks' := (ks + 6)) (v := .int 1) C0 d_Lw_law_246 l_Lw_78 (l_contactT (m_contT h.1.1 hq)) rfl rfl rfl (Nat.le_of_ble_eq_true rfl) (Nat.le_of_ble_eq_true rfl) (Nat.le_refl _) (Nat.le_refl _) hk1 hk2 ?_
    refine xs_istore (lv' := [(5, .int 1), (0, .retAddr b), (1, .ref 0), (2, .ref 36), (3, .ref 64), (4, .int (nI i))]) C0 d_Lw_law_249 (by decide) rfl ?_
    refine xs_pc (pc' := 251) rfl ?_
    refine xs_aload_n C0 d_Lw_law_251 rfl 3 rfl ?_
    refine xs_saload C0 d_Lw_law_252 rfl 1 rfl ?_
    refine xs_iload C0 d_Lw_law_253 5 rfl ?_
    refine xs_iconst (v := 1) C0 d_Lw_law_255 (by decide) ?_
    refine xs_iadd C0 d_Lw_law_256 ?_
    refine xs_top (v' := .int (nI (i + 1))) (by rw [show (1 : Int32) = nI 1 from rfl, nI_add]) ?_
    refine xs_sld C0 hX d_Lw_law_257 (vp_in_nI (n := i + 1) (by omega) (by omega)) ?_
    refine xs_top (v' := .int (xs (i + 1))) (by rw [nI_clamp (by omega)]) ?_
    refine xs_saload C0 d_Lw_law_258 rfl 1 rfl ?_
    refine xs_iload C0 d_Lw_law_259 5 rfl ?_
    refine xs_iconst (v := 2) C0 d_Lw_law_261 (by decide) ?_
    refine xs_iadd C0 d_Lw_law_262 ?_
    refine xs_top (v' := .int (nI (i + 2))) (by rw [show (2 : Int32) = nI 2 from rfl, nI_add]) ?_
    refine xs_sld C0 hX d_Lw_law_263 (vp_in_nI (n := i + 2) (by omega) (by omega)) ?_
    refine xs_top (v' := .int (xs (i + 2))) (by rw [nI_clamp (by omega)]) ?_
    refine xs_saload C0 d_Lw_law_264 rfl 1 rfl ?_
    refine xs_pc (pc' := 265) rfl ?_
    refine xs_iload C0 d_Lw_law_265 5 rfl ?_
    refine xs_iconst (v := 3) C0 d_Lw_law_267 (by decide) ?_
    refine xs_iadd C0 d_Lw_law_268 ?_
    refine xs_top (v' := .int (nI (i + 3))) (by rw [show (3 : Int32) = nI 3 from rfl, nI_add]) ?_
    refine xs_sld C0 hX d_Lw_law_269 (vp_in_nI (n := i + 3) (by omega) (by omega)) ?_
    refine xs_top (v' := .int (xs (i + 3))) (by rw [nI_clamp (by omega)]) ?_
    refine xs_saload C0 d_Lw_law_270 rfl 1 rfl ?_
    refine xs_iload C0 d_Lw_law_271 5 rfl ?_
    refine xs_iconst (v := 4) C0 d_Lw_law_273 (by decide) ?_
    refine xs_iadd C0 d_Lw_law_274 ?_
    refine xs_top (v' := .int (nI (i + 4))) (by rw [show (4 : Int32) = nI 4 from rfl, nI_add]) ?_
    refine xs_sld C0 hX d_Lw_law_275 (vp_in_nI (n := i + 4) (by omega) (by omega)) ?_
    refine xs_top (v' := .int (xs (i + 4))) (by rw [nI_clamp (by omega)]) ?_
    refine xs_cV1 (ω' := (wB B S T F H tt ++ (wMB B rl Z cl hc 0 tt kp pa tr 1 ++ [.inl (1, 1, .inr (.inl o))]))) (As := [.int (xs (i + 1)), .int (xs (i + 2)), .int (xs (i + 3)), .int (xs (i + 4))]) (st := []) (kc' := (kc + 1)) (ks' := (ks + 6)) (v := .int 0) C0 d_Lw_law_276 l_Lw_80 rfl rfl (d_contT h.1 hq) rfl rfl rfl (Nat.le_of_ble_eq_true rfl) (Nat.le_of_ble_eq_true rfl) (Nat.le_refl _) (Nat.le_refl _) hk1 hk2 ?_
    refine xs_istore (lv' := [(6, .int 0), (5, .int 1), (0, .retAddr b), (1, .ref 0), (2, .ref 36), (3, .ref 64), (4, .int (nI i))]) C0 d_Lw_law_279 (by decide) rfl ?_
    refine xs_aload_n C0 d_Lw_law_281 rfl 4 rfl ?_
    refine xs_pc (pc' := 282) rfl ?_
    refine xs_cV1 (ω' := (wB B S T F H tt ++ (wMB B rl Z cl hc 0 tt kp pa tr 1 ++ [.inl (1, 1, .inr (.inl o))]))) (As := []) (st := []) (kc' := (kc + 1)) (ks' := (ks + 6)) (v := .int 1) C0 d_Lw_law_282 l_Lw_74 rfl rfl d_thrown rfl rfl rfl (Nat.le_of_ble_eq_true rfl) (Nat.le_of_ble_eq_true rfl) (Nat.le_refl _) (Nat.le_refl _) hk1 hk2 ?_
    refine xs_iload C0 d_Lw_law_285 1 rfl ?_
    refine xs_icmp_eq (tgt := 292) C0 d_Lw_law_287 (by decide) (fun _ => ?_) (fun c9 => absurd rfl c9)
    refine xs_iload C0 d_Lw_law_292 1 rfl ?_
    refine xs_if_ne (tgt := 309) C0 d_Lw_law_294 (by decide) (fun _ => ?_) (fun c9 => absurd c9 (by decide))
    refine xs_goto (tgt := 1219) C0 d_Lw_law_309 (by decide) ?_
    refine xs_lv (lv' := [(0, .retAddr b), (1, .ref 0), (2, .ref 36), (3, .ref 64), (4, .int (nI i))]) [2, 3, 4, 5, 6] rfl ?_
    exact k _ _ _ _ _ _ _ _ _ _ _ _ _ _ _ h
set_option maxHeartbeats 4000000 in
set_option maxRecDepth 100000 in
theorem lc_knob {E : xm_X} {Q : State → Prop} {b L i kc ks : Nat} {xs : Nat → Int32} (C0 : xm_C E R_Lw b_Lw_law 7 (some .boolean) [] "law" room_1) (hX : xl_X E b L xs) (hL : L ≤ 2560) (hi4 : i + 4 < L) (hk1 : kc + 1 ≤ 601024) (hk2 : ks + 6 ≤ 7293034) {B : wb} {S T : wt_S} {F : wt_F} {H : wt_H} {tt : Int32} {rl : Nat → Int32} {Z : mt_S} {cl : Nat → Int32} {hc : mt_H} {kp : mt_K} {pa : Nat → Int32} {tr : mt_T} {co : Int32} {o : Nat → Int64} (h : pI B rl S F Z cl) (k : ∀ (B : wb) (S T : wt_S) (F : wt_F) (H : wt_H) (tt : Int32) (rl : Nat → Int32) (Z : mt_S) (cl : Nat → Int32) (hc : mt_H) (kp : mt_K) (pa : Nat → Int32) (tr : mt_T) (co : Int32) (o : Nat → Int64), pI B rl S F Z cl → xm_W E 7 Q (kc + 1) (ks + 6) (wB B S T F H tt ++ (wMB B rl Z cl hc 0 tt kp pa tr co ++ [.inl (1, 1, .inr (.inl o))])) 1219 [(0, .retAddr b), (1, .ref 0), (2, .ref 36), (3, .ref 64), (4, .int (nI i))] []) : xm_W E 7 Q kc ks (wB B S T F H tt ++ (wMB B rl Z cl hc 0 tt kp pa tr co ++ [.inl (1, 1, .inr (.inl o))])) 312 [(0, .retAddr b), (1, .ref 0), (2, .ref 36), (3, .ref 64), (4, .int (nI i))] [] := by
  have h16 : B.1.2.2 ≤ 16 := h.1.1.1.1
  by_cases hq : g2 (xs (i + 1)) (xs (i + 2))
  · by_cases hi : B.2.2.1.2.2 < 12
    · have hg := hq
      obtain ⟨⟨c9, S9, F9⟩, H9⟩ : ∃ q, g_laf (b_add2 B (xs (i + 1)) (xs (i + 2))) S F = q := ⟨_, rfl⟩
      obtain ⟨⟨Z9, hc9⟩, G9⟩ : ∃ q, m_laf (b_add2 B (xs (i + 1)) (xs (i + 2))) rl cl Z hc = q := ⟨_, rfl⟩
      have hp := pI_laf hc (pI_2 h hi hg)
      rw [H9, G9] at hp
      refine xs_aload_n C0 d_Lw_law_312 rfl 1 rfl ?_
      refine xs_saload C0 d_Lw_law_313 rfl 0 rfl ?_
      refine xs_iload C0 d_Lw_law_314 4 rfl ?_
      refine xs_iconst (v := 1) C0 d_Lw_law_316 (by decide) ?_
      refine xs_iadd C0 d_Lw_law_317 ?_
      refine xs_top (v' := .int (nI (i + 1))) (by rw [show (1 : Int32) = nI 1 from rfl, nI_add]) ?_
      refine xs_sld C0 hX d_Lw_law_318 (vp_in_nI (n := i + 1) (by omega) (by omega)) ?_
      refine xs_top (v' := .int (xs (i + 1))) (by rw [nI_clamp (by omega)]) ?_
      refine xs_saload C0 d_Lw_law_319 rfl 0 rfl ?_
      refine xs_iload C0 d_Lw_law_320 4 rfl ?_
      refine xs_iconst (v := 2) C0 d_Lw_law_322 (by decide) ?_
      refine xs_iadd C0 d_Lw_law_323 ?_
      refine xs_top (v' := .int (nI (i + 2))) (by rw [show (2 : Int32) = nI 2 from rfl, nI_add]) ?_
      refine xs_sld C0 hX d_Lw_law_324 (vp_in_nI (n := i + 2) (by omega) (by omega)) ?_
      refine xs_top (v' := .int (xs (i + 2))) (by rw [nI_clamp (by omega)]) ?_
      refine xs_aload_n C0 d_Lw_law_325 rfl 3 rfl ?_
      refine xs_pc (pc' := 326) rfl ?_
      refine xs_cS1 (ω' := (wB (b_add2 B (xs (i + 1)) (xs (i + 2))) S9 T F9 H tt ++ (wMB B rl Z cl hc 0 tt kp pa tr co ++ [.inl (1, 1, .inr (.inl (vp_updL o 0 (nI B.2.2.1.2.2).toInt64)))]))) (av := [.ref 0, .int (xs (i + 1)), .int (xs (i + 2)), .ref 64]) (st := []) (kc' := kc) (ks' := ks) (v := .int 0) C0 d_Lw_law_326 l_Lw_81 (l_knob (m_knob h.1.1 hi hg H9)) rfl rfl rfl (Nat.le_of_ble_eq_true rfl) (Nat.le_of_ble_eq_true rfl) (Nat.le_refl _) (Nat.le_refl _) (Nat.le_of_succ_le hk1) (Nat.le_trans (Nat.le_add_right ks 6) hk2) ?_
      refine xs_istore (lv' := [(5, .int 0), (0, .retAddr b), (1, .ref 0), (2, .ref 36), (3, .ref 64), (4, .int (nI i))]) C0 d_Lw_law_329 (by decide) rfl ?_
      refine xs_aload_n C0 d_Lw_law_331 rfl 3 rfl ?_
      refine xs_saload C0 d_Lw_law_332 rfl 1 rfl ?_
      refine xs_iload C0 d_Lw_law_333 5 rfl ?_
      refine xs_iconst (v := 1) C0 d_Lw_law_335 (by decide) ?_
      refine xs_iadd C0 d_Lw_law_336 ?_
      refine xs_top (v' := .int (nI (i + 1))) (by rw [show (1 : Int32) = nI 1 from rfl, nI_add]) ?_
      refine xs_sld C0 hX d_Lw_law_337 (vp_in_nI (n := i + 1) (by omega) (by omega)) ?_
      refine xs_top (v' := .int (xs (i + 1))) (by rw [nI_clamp (by omega)]) ?_
      refine xs_saload C0 d_Lw_law_338 rfl 1 rfl ?_
      refine xs_iload C0 d_Lw_law_339 5 rfl ?_
      refine xs_iconst (v := 2) C0 d_Lw_law_341 (by decide) ?_
      refine xs_iadd C0 d_Lw_law_342 ?_
      refine xs_pc (pc' := 343) rfl ?_
      refine xs_top (v' := .int (nI (i + 2))) (by rw [show (2 : Int32) = nI 2 from rfl, nI_add]) ?_
      refine xs_sld C0 hX d_Lw_law_343 (vp_in_nI (n := i + 2) (by omega) (by omega)) ?_
      refine xs_top (v' := .int (xs (i + 2))) (by rw [nI_clamp (by omega)]) ?_
      refine xs_cV1 (ω' := (wB (b_add2 B (xs (i + 1)) (xs (i + 2))) S9 T F9 H tt ++ (wMB (b_add2 B (xs (i + 1)) (xs (i + 2))) rl Z9 cl hc9 0 tt kp pa tr 0 ++ [.inl (1, 1, .inr (.inl (vp_updL o 0 (nI B.2.2.1.2.2).toInt64)))]))) (As := [.int (xs (i + 1)), .int (xs (i + 2))]) (st := []) (kc' := kc) (ks' := ks) (v := .int (nI B.2.2.1.2.2)) C0 d_Lw_law_344 l_Lw_84 rfl rfl (d_knob h.1 hi hg G9) rfl rfl rfl (Nat.le_of_ble_eq_true rfl) (Nat.le_of_ble_eq_true rfl) (Nat.le_refl _) (Nat.le_refl _) (Nat.le_of_succ_le hk1) (Nat.le_trans (Nat.le_add_right ks 6) hk2) ?_
      refine xs_istore (lv' := [(6, .int (nI B.2.2.1.2.2)), (5, .int 0), (0, .retAddr b), (1, .ref 0), (2, .ref 36), (3, .ref 64), (4, .int (nI i))]) C0 d_Lw_law_347 (by decide) rfl ?_
      refine xs_aload_n C0 d_Lw_law_349 rfl 4 rfl ?_
      refine xs_cV1 (ω' := (wB (b_add2 B (xs (i + 1)) (xs (i + 2))) S9 T F9 H tt ++ (wMB (b_add2 B (xs (i + 1)) (xs (i + 2))) rl Z9 cl hc9 0 tt kp pa tr 0 ++ [.inl (1, 1, .inr (.inl (vp_updL o 0 (nI B.2.2.1.2.2).toInt64)))]))) (As := []) (st := []) (kc' := kc) (ks' := ks) (v := .int 0) C0 d_Lw_law_350 l_Lw_74 rfl rfl d_thrown rfl rfl rfl (Nat.le_of_ble_eq_true rfl) (Nat.le_of_ble_eq_true rfl) (Nat.le_refl _) (Nat.le_refl _) (Nat.le_of_succ_le hk1) (Nat.le_trans (Nat.le_add_right ks 6) hk2) ?_
      refine xs_iload C0 d_Lw_law_353 1 rfl ?_
      refine xs_icmp_eq (tgt := 360) C0 d_Lw_law_355 (by decide) (fun _ => ?_) (fun c9 => absurd rfl c9)
      refine xs_iload C0 d_Lw_law_360 1 rfl ?_
      refine xs_if_ne (tgt := 377) C0 d_Lw_law_362 (by decide) (fun c9 => absurd rfl c9) (fun _ => ?_)
      refine xs_aload_n C0 d_Lw_law_365 rfl 5 rfl ?_
      refine xs_iconst (v := 0) C0 d_Lw_law_366 (by decide) ?_
      refine xs_top (v' := .int (nI 0)) rfl ?_
      refine xs_lald C0 d_Lw_law_367 rfl (vp_in_nI (n := 0) (by decide) (by decide)) ?_
      refine xs_top (v' := .long ((vp_updL o 0 (nI B.2.2.1.2.2).toInt64) 0)) (by rw [nI_clamp (by omega)]) ?_
      refine xs_iload C0 d_Lw_law_368 0 rfl ?_
      refine xs_i2l C0 d_Lw_law_370 ?_
      refine xs_lcmp C0 d_Lw_law_371 ?_
      refine xs_if_eq (tgt := 377) C0 d_Lw_law_372 (by decide) (fun _ => ?_) (fun c9 => absurd (lg_cmp0.mpr rfl) c9)
      refine xs_goto (tgt := 1219) C0 d_Lw_law_377 (by decide) ?_
      refine xs_lv (lv' := [(0, .retAddr b), (1, .ref 0), (2, .ref 36), (3, .ref 64), (4, .int (nI i))]) [2, 3, 4, 5, 6] rfl ?_
      refine xs_more (Nat.le_succ kc) (Nat.le_add_right ks 6) ?_
      exact k _ _ _ _ _ _ _ _ _ _ _ _ _ _ _ hp
    · have hg := hq
      refine xs_aload_n C0 d_Lw_law_312 rfl 1 rfl ?_
      refine xs_saload C0 d_Lw_law_313 rfl 0 rfl ?_
      refine xs_iload C0 d_Lw_law_314 4 rfl ?_
      refine xs_iconst (v := 1) C0 d_Lw_law_316 (by decide) ?_
      refine xs_iadd C0 d_Lw_law_317 ?_
      refine xs_top (v' := .int (nI (i + 1))) (by rw [show (1 : Int32) = nI 1 from rfl, nI_add]) ?_
      refine xs_sld C0 hX d_Lw_law_318 (vp_in_nI (n := i + 1) (by omega) (by omega)) ?_
      refine xs_top (v' := .int (xs (i + 1))) (by rw [nI_clamp (by omega)]) ?_
      refine xs_saload C0 d_Lw_law_319 rfl 0 rfl ?_
      refine xs_iload C0 d_Lw_law_320 4 rfl ?_
      refine xs_iconst (v := 2) C0 d_Lw_law_322 (by decide) ?_
      refine xs_iadd C0 d_Lw_law_323 ?_
      refine xs_top (v' := .int (nI (i + 2))) (by rw [show (2 : Int32) = nI 2 from rfl, nI_add]) ?_
      refine xs_sld C0 hX d_Lw_law_324 (vp_in_nI (n := i + 2) (by omega) (by omega)) ?_
      refine xs_top (v' := .int (xs (i + 2))) (by rw [nI_clamp (by omega)]) ?_
      refine xs_aload_n C0 d_Lw_law_325 rfl 3 rfl ?_
      refine xs_pc (pc' := 326) rfl ?_
      refine xs_cS1 (ω' := (wB B S T F H tt ++ (wMB B rl Z cl hc 0 tt kp pa tr co ++ [.inl (1, 1, .inr (.inl o))]))) (av := [.ref 0, .int (xs (i + 1)), .int (xs (i + 2)), .ref 64]) (st := []) (kc' := (kc + 1)) (ks' := (ks + 6)) (v := .int 2) C0 d_Lw_law_326 l_Lw_81 (l_knobX (m_knobX h.1.1 (Nat.le_of_not_lt hi) hg)) rfl rfl rfl (Nat.le_of_ble_eq_true rfl) (Nat.le_of_ble_eq_true rfl) (Nat.le_refl _) (Nat.le_refl _) hk1 hk2 ?_
      refine xs_istore (lv' := [(5, .int 2), (0, .retAddr b), (1, .ref 0), (2, .ref 36), (3, .ref 64), (4, .int (nI i))]) C0 d_Lw_law_329 (by decide) rfl ?_
      refine xs_aload_n C0 d_Lw_law_331 rfl 3 rfl ?_
      refine xs_saload C0 d_Lw_law_332 rfl 1 rfl ?_
      refine xs_iload C0 d_Lw_law_333 5 rfl ?_
      refine xs_iconst (v := 1) C0 d_Lw_law_335 (by decide) ?_
      refine xs_iadd C0 d_Lw_law_336 ?_
      refine xs_top (v' := .int (nI (i + 1))) (by rw [show (1 : Int32) = nI 1 from rfl, nI_add]) ?_
      refine xs_sld C0 hX d_Lw_law_337 (vp_in_nI (n := i + 1) (by omega) (by omega)) ?_
      refine xs_top (v' := .int (xs (i + 1))) (by rw [nI_clamp (by omega)]) ?_
      refine xs_saload C0 d_Lw_law_338 rfl 1 rfl ?_
      refine xs_iload C0 d_Lw_law_339 5 rfl ?_
      refine xs_iconst (v := 2) C0 d_Lw_law_341 (by decide) ?_
      refine xs_iadd C0 d_Lw_law_342 ?_
      refine xs_pc (pc' := 343) rfl ?_
      refine xs_top (v' := .int (nI (i + 2))) (by rw [show (2 : Int32) = nI 2 from rfl, nI_add]) ?_
      refine xs_sld C0 hX d_Lw_law_343 (vp_in_nI (n := i + 2) (by omega) (by omega)) ?_
      refine xs_top (v' := .int (xs (i + 2))) (by rw [nI_clamp (by omega)]) ?_
      refine xs_cV1 (ω' := (wB B S T F H tt ++ (wMB B rl Z cl hc 0 tt kp pa tr 2 ++ [.inl (1, 1, .inr (.inl o))]))) (As := [.int (xs (i + 1)), .int (xs (i + 2))]) (st := []) (kc' := (kc + 1)) (ks' := (ks + 6)) (v := .int 0) C0 d_Lw_law_344 l_Lw_84 rfl rfl (d_knobX h.1 (Nat.le_of_not_lt hi) hg) rfl rfl rfl (Nat.le_of_ble_eq_true rfl) (Nat.le_of_ble_eq_true rfl) (Nat.le_refl _) (Nat.le_refl _) hk1 hk2 ?_
      refine xs_istore (lv' := [(6, .int 0), (5, .int 2), (0, .retAddr b), (1, .ref 0), (2, .ref 36), (3, .ref 64), (4, .int (nI i))]) C0 d_Lw_law_347 (by decide) rfl ?_
      refine xs_aload_n C0 d_Lw_law_349 rfl 4 rfl ?_
      refine xs_cV1 (ω' := (wB B S T F H tt ++ (wMB B rl Z cl hc 0 tt kp pa tr 2 ++ [.inl (1, 1, .inr (.inl o))]))) (As := []) (st := []) (kc' := (kc + 1)) (ks' := (ks + 6)) (v := .int 2) C0 d_Lw_law_350 l_Lw_74 rfl rfl d_thrown rfl rfl rfl (Nat.le_of_ble_eq_true rfl) (Nat.le_of_ble_eq_true rfl) (Nat.le_refl _) (Nat.le_refl _) hk1 hk2 ?_
      refine xs_iload C0 d_Lw_law_353 1 rfl ?_
      refine xs_icmp_eq (tgt := 360) C0 d_Lw_law_355 (by decide) (fun _ => ?_) (fun c9 => absurd rfl c9)
      refine xs_iload C0 d_Lw_law_360 1 rfl ?_
      refine xs_if_ne (tgt := 377) C0 d_Lw_law_362 (by decide) (fun _ => ?_) (fun c9 => absurd c9 (by decide))
      refine xs_goto (tgt := 1219) C0 d_Lw_law_377 (by decide) ?_
      refine xs_lv (lv' := [(0, .retAddr b), (1, .ref 0), (2, .ref 36), (3, .ref 64), (4, .int (nI i))]) [2, 3, 4, 5, 6] rfl ?_
      exact k _ _ _ _ _ _ _ _ _ _ _ _ _ _ _ h
  · refine xs_aload_n C0 d_Lw_law_312 rfl 1 rfl ?_
    refine xs_saload C0 d_Lw_law_313 rfl 0 rfl ?_
    refine xs_iload C0 d_Lw_law_314 4 rfl ?_
    refine xs_iconst (v := 1) C0 d_Lw_law_316 (by decide) ?_
    refine xs_iadd C0 d_Lw_law_317 ?_
    refine xs_top (v' := .int (nI (i + 1))) (by rw [show (1 : Int32) = nI 1 from rfl, nI_add]) ?_
    refine xs_sld C0 hX d_Lw_law_318 (vp_in_nI (n := i + 1) (by omega) (by omega)) ?_
    refine xs_top (v' := .int (xs (i + 1))) (by rw [nI_clamp (by omega)]) ?_
    refine xs_saload C0 d_Lw_law_319 rfl 0 rfl ?_
    refine xs_iload C0 d_Lw_law_320 4 rfl ?_
    refine xs_iconst (v := 2) C0 d_Lw_law_322 (by decide) ?_
    refine xs_iadd C0 d_Lw_law_323 ?_
    refine xs_top (v' := .int (nI (i + 2))) (by rw [show (2 : Int32) = nI 2 from rfl, nI_add]) ?_
    refine xs_sld C0 hX d_Lw_law_324 (vp_in_nI (n := i + 2) (by omega) (by omega)) ?_
    refine xs_top (v' := .int (xs (i + 2))) (by rw [nI_clamp (by omega)]) ?_
    refine xs_aload_n C0 d_Lw_law_325 rfl 3 rfl ?_
    refine xs_pc (pc' := 326) rfl ?_
    refine xs_cS1 (ω' := (wB B S T F H tt ++ (wMB B rl Z cl hc 0 tt kp pa tr co ++ [.inl (1, 1, .inr (.inl o))]))) (av := [.ref 0, .int (xs (i + 1)), .int (xs (i + 2)), .ref 64]) (st := []) (kc' := (kc + 1)) (ks' := (ks + 6)) (v := .int 1) C0 d_Lw_law_326 l_Lw_81 (l_knobT (m_knobT h.1.1 hq)) rfl rfl rfl (Nat.le_of_ble_eq_true rfl) (Nat.le_of_ble_eq_true rfl) (Nat.le_refl _) (Nat.le_refl _) hk1 hk2 ?_
    refine xs_istore (lv' := [(5, .int 1), (0, .retAddr b), (1, .ref 0), (2, .ref 36), (3, .ref 64), (4, .int (nI i))]) C0 d_Lw_law_329 (by decide) rfl ?_
    refine xs_aload_n C0 d_Lw_law_331 rfl 3 rfl ?_
    refine xs_saload C0 d_Lw_law_332 rfl 1 rfl ?_
    refine xs_iload C0 d_Lw_law_333 5 rfl ?_
    refine xs_iconst (v := 1) C0 d_Lw_law_335 (by decide) ?_
    refine xs_iadd C0 d_Lw_law_336 ?_
    refine xs_top (v' := .int (nI (i + 1))) (by rw [show (1 : Int32) = nI 1 from rfl, nI_add]) ?_
    refine xs_sld C0 hX d_Lw_law_337 (vp_in_nI (n := i + 1) (by omega) (by omega)) ?_
    refine xs_top (v' := .int (xs (i + 1))) (by rw [nI_clamp (by omega)]) ?_
    refine xs_saload C0 d_Lw_law_338 rfl 1 rfl ?_
    refine xs_iload C0 d_Lw_law_339 5 rfl ?_
    refine xs_iconst (v := 2) C0 d_Lw_law_341 (by decide) ?_
    refine xs_iadd C0 d_Lw_law_342 ?_
    refine xs_pc (pc' := 343) rfl ?_
    refine xs_top (v' := .int (nI (i + 2))) (by rw [show (2 : Int32) = nI 2 from rfl, nI_add]) ?_
    refine xs_sld C0 hX d_Lw_law_343 (vp_in_nI (n := i + 2) (by omega) (by omega)) ?_
    refine xs_top (v' := .int (xs (i + 2))) (by rw [nI_clamp (by omega)]) ?_
    refine xs_cV1 (ω' := (wB B S T F H tt ++ (wMB B rl Z cl hc 0 tt kp pa tr 1 ++ [.inl (1, 1, .inr (.inl o))]))) (As := [.int (xs (i + 1)), .int (xs (i + 2))]) (st := []) (kc' := (kc + 1)) (ks' := (ks + 6)) (v := .int 0) C0 d_Lw_law_344 l_Lw_84 rfl rfl (d_knobT h.1 hq) rfl rfl rfl (Nat.le_of_ble_eq_true rfl) (Nat.le_of_ble_eq_true rfl) (Nat.le_refl _) (Nat.le_refl _) hk1 hk2 ?_
    refine xs_istore (lv' := [(6, .int 0), (5, .int 1), (0, .retAddr b), (1, .ref 0), (2, .ref 36), (3, .ref 64), (4, .int (nI i))]) C0 d_Lw_law_347 (by decide) rfl ?_
    refine xs_aload_n C0 d_Lw_law_349 rfl 4 rfl ?_
    refine xs_cV1 (ω' := (wB B S T F H tt ++ (wMB B rl Z cl hc 0 tt kp pa tr 1 ++ [.inl (1, 1, .inr (.inl o))]))) (As := []) (st := []) (kc' := (kc + 1)) (ks' := (ks + 6)) (v := .int 1) C0 d_Lw_law_350 l_Lw_74 rfl rfl d_thrown rfl rfl rfl (Nat.le_of_ble_eq_true rfl) (Nat.le_of_ble_eq_true rfl) (Nat.le_refl _) (Nat.le_refl _) hk1 hk2 ?_
    refine xs_iload C0 d_Lw_law_353 1 rfl ?_
    refine xs_icmp_eq (tgt := 360) C0 d_Lw_law_355 (by decide) (fun _ => ?_) (fun c9 => absurd rfl c9)
    refine xs_iload C0 d_Lw_law_360 1 rfl ?_
    refine xs_if_ne (tgt := 377) C0 d_Lw_law_362 (by decide) (fun _ => ?_) (fun c9 => absurd c9 (by decide))
    refine xs_goto (tgt := 1219) C0 d_Lw_law_377 (by decide) ?_
    refine xs_lv (lv' := [(0, .retAddr b), (1, .ref 0), (2, .ref 36), (3, .ref 64), (4, .int (nI i))]) [2, 3, 4, 5, 6] rfl ?_
    exact k _ _ _ _ _ _ _ _ _ _ _ _ _ _ _ h
set_option maxHeartbeats 4000000 in
set_option maxRecDepth 100000 in
theorem lc_diode {E : xm_X} {Q : State → Prop} {b L i kc ks : Nat} {xs : Nat → Int32} (C0 : xm_C E R_Lw b_Lw_law 7 (some .boolean) [] "law" room_1) (hX : xl_X E b L xs) (hL : L ≤ 2560) (hi4 : i + 4 < L) (hk1 : kc + 1 ≤ 601024) (hk2 : ks + 6 ≤ 7293034) {B : wb} {S T : wt_S} {F : wt_F} {H : wt_H} {tt : Int32} {rl : Nat → Int32} {Z : mt_S} {cl : Nat → Int32} {hc : mt_H} {kp : mt_K} {pa : Nat → Int32} {tr : mt_T} {co : Int32} {o : Nat → Int64} (h : pI B rl S F Z cl) (k : ∀ (B : wb) (S T : wt_S) (F : wt_F) (H : wt_H) (tt : Int32) (rl : Nat → Int32) (Z : mt_S) (cl : Nat → Int32) (hc : mt_H) (kp : mt_K) (pa : Nat → Int32) (tr : mt_T) (co : Int32) (o : Nat → Int64), pI B rl S F Z cl → xm_W E 7 Q (kc + 1) (ks + 6) (wB B S T F H tt ++ (wMB B rl Z cl hc 0 tt kp pa tr co ++ [.inl (1, 1, .inr (.inl o))])) 1219 [(0, .retAddr b), (1, .ref 0), (2, .ref 36), (3, .ref 64), (4, .int (nI i))] []) : xm_W E 7 Q kc ks (wB B S T F H tt ++ (wMB B rl Z cl hc 0 tt kp pa tr co ++ [.inl (1, 1, .inr (.inl o))])) 380 [(0, .retAddr b), (1, .ref 0), (2, .ref 36), (3, .ref 64), (4, .int (nI i))] [] := by
  have h16 : B.1.2.2 ≤ 16 := h.1.1.1.1
  by_cases hq : g2 (xs (i + 1)) (xs (i + 2))
  · by_cases hi : B.2.2.2.1.2.2 < 24
    · have hg := hq
      obtain ⟨⟨c9, S9, F9⟩, H9⟩ : ∃ q, g_laf (b_add3 B (xs (i + 1)) (xs (i + 2))) S F = q := ⟨_, rfl⟩
      obtain ⟨⟨Z9, hc9⟩, G9⟩ : ∃ q, m_laf (b_add3 B (xs (i + 1)) (xs (i + 2))) rl cl Z hc = q := ⟨_, rfl⟩
      have hp := pI_laf hc (pI_3 h hi hg)
      rw [H9, G9] at hp
      refine xs_aload_n C0 d_Lw_law_380 rfl 1 rfl ?_
      refine xs_saload C0 d_Lw_law_381 rfl 0 rfl ?_
      refine xs_iload C0 d_Lw_law_382 4 rfl ?_
      refine xs_iconst (v := 1) C0 d_Lw_law_384 (by decide) ?_
      refine xs_iadd C0 d_Lw_law_385 ?_
      refine xs_top (v' := .int (nI (i + 1))) (by rw [show (1 : Int32) = nI 1 from rfl, nI_add]) ?_
      refine xs_sld C0 hX d_Lw_law_386 (vp_in_nI (n := i + 1) (by omega) (by omega)) ?_
      refine xs_top (v' := .int (xs (i + 1))) (by rw [nI_clamp (by omega)]) ?_
      refine xs_saload C0 d_Lw_law_387 rfl 0 rfl ?_
      refine xs_iload C0 d_Lw_law_388 4 rfl ?_
      refine xs_iconst (v := 2) C0 d_Lw_law_390 (by decide) ?_
      refine xs_iadd C0 d_Lw_law_391 ?_
      refine xs_top (v' := .int (nI (i + 2))) (by rw [show (2 : Int32) = nI 2 from rfl, nI_add]) ?_
      refine xs_sld C0 hX d_Lw_law_392 (vp_in_nI (n := i + 2) (by omega) (by omega)) ?_
      refine xs_top (v' := .int (xs (i + 2))) (by rw [nI_clamp (by omega)]) ?_
      refine xs_aload_n C0 d_Lw_law_393 rfl 3 rfl ?_
      refine xs_pc (pc' := 394) rfl ?_
      refine xs_cS1 (ω' := (wB (b_add3 B (xs (i + 1)) (xs (i + 2))) S9 T F9 H tt ++ (wMB B rl Z cl hc 0 tt kp pa tr co ++ [.inl (1, 1, .inr (.inl (vp_updL o 0 (nI B.2.2.2.1.2.2).toInt64)))]))) (av := [.ref 0, .int (xs (i + 1)), .int (xs (i + 2)), .ref 64]) (st := []) (kc' := kc) (ks' := ks) (v := .int 0) C0 d_Lw_law_394 l_Lw_85 (l_diode (m_diode h.1.1 hi hg H9)) rfl rfl rfl (Nat.le_of_ble_eq_true rfl) (Nat.le_of_ble_eq_true rfl) (Nat.le_refl _) (Nat.le_refl _) (Nat.le_of_succ_le hk1) (Nat.le_trans (Nat.le_add_right ks 6) hk2) ?_
      refine xs_istore (lv' := [(5, .int 0), (0, .retAddr b), (1, .ref 0), (2, .ref 36), (3, .ref 64), (4, .int (nI i))]) C0 d_Lw_law_397 (by decide) rfl ?_
      refine xs_aload_n C0 d_Lw_law_399 rfl 3 rfl ?_
      refine xs_saload C0 d_Lw_law_400 rfl 1 rfl ?_
      refine xs_iload C0 d_Lw_law_401 5 rfl ?_
      refine xs_iconst (v := 1) C0 d_Lw_law_403 (by decide) ?_
      refine xs_iadd C0 d_Lw_law_404 ?_
      refine xs_top (v' := .int (nI (i + 1))) (by rw [show (1 : Int32) = nI 1 from rfl, nI_add]) ?_
      refine xs_sld C0 hX d_Lw_law_405 (vp_in_nI (n := i + 1) (by omega) (by omega)) ?_
      refine xs_top (v' := .int (xs (i + 1))) (by rw [nI_clamp (by omega)]) ?_
      refine xs_saload C0 d_Lw_law_406 rfl 1 rfl ?_
      refine xs_iload C0 d_Lw_law_407 5 rfl ?_
      refine xs_iconst (v := 2) C0 d_Lw_law_409 (by decide) ?_
      refine xs_iadd C0 d_Lw_law_410 ?_
      refine xs_pc (pc' := 411) rfl ?_
      refine xs_top (v' := .int (nI (i + 2))) (by rw [show (2 : Int32) = nI 2 from rfl, nI_add]) ?_
      refine xs_sld C0 hX d_Lw_law_411 (vp_in_nI (n := i + 2) (by omega) (by omega)) ?_
      refine xs_top (v' := .int (xs (i + 2))) (by rw [nI_clamp (by omega)]) ?_
      refine xs_cV1 (ω' := (wB (b_add3 B (xs (i + 1)) (xs (i + 2))) S9 T F9 H tt ++ (wMB (b_add3 B (xs (i + 1)) (xs (i + 2))) rl Z9 cl hc9 0 tt kp pa tr 0 ++ [.inl (1, 1, .inr (.inl (vp_updL o 0 (nI B.2.2.2.1.2.2).toInt64)))]))) (As := [.int (xs (i + 1)), .int (xs (i + 2))]) (st := []) (kc' := kc) (ks' := ks) (v := .int (nI B.2.2.2.1.2.2)) C0 d_Lw_law_412 l_Lw_87 rfl rfl (d_diode h.1 hi hg G9) rfl rfl rfl (Nat.le_of_ble_eq_true rfl) (Nat.le_of_ble_eq_true rfl) (Nat.le_refl _) (Nat.le_refl _) (Nat.le_of_succ_le hk1) (Nat.le_trans (Nat.le_add_right ks 6) hk2) ?_
      refine xs_istore (lv' := [(6, .int (nI B.2.2.2.1.2.2)), (5, .int 0), (0, .retAddr b), (1, .ref 0), (2, .ref 36), (3, .ref 64), (4, .int (nI i))]) C0 d_Lw_law_415 (by decide) rfl ?_
      refine xs_aload_n C0 d_Lw_law_417 rfl 4 rfl ?_
      refine xs_cV1 (ω' := (wB (b_add3 B (xs (i + 1)) (xs (i + 2))) S9 T F9 H tt ++ (wMB (b_add3 B (xs (i + 1)) (xs (i + 2))) rl Z9 cl hc9 0 tt kp pa tr 0 ++ [.inl (1, 1, .inr (.inl (vp_updL o 0 (nI B.2.2.2.1.2.2).toInt64)))]))) (As := []) (st := []) (kc' := kc) (ks' := ks) (v := .int 0) C0 d_Lw_law_418 l_Lw_74 rfl rfl d_thrown rfl rfl rfl (Nat.le_of_ble_eq_true rfl) (Nat.le_of_ble_eq_true rfl) (Nat.le_refl _) (Nat.le_refl _) (Nat.le_of_succ_le hk1) (Nat.le_trans (Nat.le_add_right ks 6) hk2) ?_
      refine xs_iload C0 d_Lw_law_421 1 rfl ?_
      refine xs_icmp_eq (tgt := 428) C0 d_Lw_law_423 (by decide) (fun _ => ?_) (fun c9 => absurd rfl c9)
      refine xs_iload C0 d_Lw_law_428 1 rfl ?_
      refine xs_if_ne (tgt := 445) C0 d_Lw_law_430 (by decide) (fun c9 => absurd rfl c9) (fun _ => ?_)
      refine xs_aload_n C0 d_Lw_law_433 rfl 5 rfl ?_
      refine xs_iconst (v := 0) C0 d_Lw_law_434 (by decide) ?_
      refine xs_top (v' := .int (nI 0)) rfl ?_
      refine xs_lald C0 d_Lw_law_435 rfl (vp_in_nI (n := 0) (by decide) (by decide)) ?_
      refine xs_top (v' := .long ((vp_updL o 0 (nI B.2.2.2.1.2.2).toInt64) 0)) (by rw [nI_clamp (by omega)]) ?_
      refine xs_iload C0 d_Lw_law_436 0 rfl ?_
      refine xs_i2l C0 d_Lw_law_438 ?_
      refine xs_lcmp C0 d_Lw_law_439 ?_
      refine xs_if_eq (tgt := 445) C0 d_Lw_law_440 (by decide) (fun _ => ?_) (fun c9 => absurd (lg_cmp0.mpr rfl) c9)
      refine xs_goto (tgt := 1219) C0 d_Lw_law_445 (by decide) ?_
      refine xs_lv (lv' := [(0, .retAddr b), (1, .ref 0), (2, .ref 36), (3, .ref 64), (4, .int (nI i))]) [2, 3, 4, 5, 6] rfl ?_
      refine xs_more (Nat.le_succ kc) (Nat.le_add_right ks 6) ?_
      exact k _ _ _ _ _ _ _ _ _ _ _ _ _ _ _ hp
    · have hg := hq
      refine xs_aload_n C0 d_Lw_law_380 rfl 1 rfl ?_
      refine xs_saload C0 d_Lw_law_381 rfl 0 rfl ?_
      refine xs_iload C0 d_Lw_law_382 4 rfl ?_
      refine xs_iconst (v := 1) C0 d_Lw_law_384 (by decide) ?_
      refine xs_iadd C0 d_Lw_law_385 ?_
      refine xs_top (v' := .int (nI (i + 1))) (by rw [show (1 : Int32) = nI 1 from rfl, nI_add]) ?_
      refine xs_sld C0 hX d_Lw_law_386 (vp_in_nI (n := i + 1) (by omega) (by omega)) ?_
      refine xs_top (v' := .int (xs (i + 1))) (by rw [nI_clamp (by omega)]) ?_
      refine xs_saload C0 d_Lw_law_387 rfl 0 rfl ?_
      refine xs_iload C0 d_Lw_law_388 4 rfl ?_
      refine xs_iconst (v := 2) C0 d_Lw_law_390 (by decide) ?_
      refine xs_iadd C0 d_Lw_law_391 ?_
      refine xs_top (v' := .int (nI (i + 2))) (by rw [show (2 : Int32) = nI 2 from rfl, nI_add]) ?_
      refine xs_sld C0 hX d_Lw_law_392 (vp_in_nI (n := i + 2) (by omega) (by omega)) ?_
      refine xs_top (v' := .int (xs (i + 2))) (by rw [nI_clamp (by omega)]) ?_
      refine xs_aload_n C0 d_Lw_law_393 rfl 3 rfl ?_
      refine xs_pc (pc' := 394) rfl ?_
      refine xs_cS1 (ω' := (wB B S T F H tt ++ (wMB B rl Z cl hc 0 tt kp pa tr co ++ [.inl (1, 1, .inr (.inl o))]))) (av := [.ref 0, .int (xs (i + 1)), .int (xs (i + 2)), .ref 64]) (st := []) (kc' := (kc + 1)) (ks' := (ks + 6)) (v := .int 2) C0 d_Lw_law_394 l_Lw_85 (l_diodeX (m_diodeX h.1.1 (Nat.le_of_not_lt hi) hg)) rfl rfl rfl (Nat.le_of_ble_eq_true rfl) (Nat.le_of_ble_eq_true rfl) (Nat.le_refl _) (Nat.le_refl _) hk1 hk2 ?_
      refine xs_istore (lv' := [(5, .int 2), (0, .retAddr b), (1, .ref 0), (2, .ref 36), (3, .ref 64), (4, .int (nI i))]) C0 d_Lw_law_397 (by decide) rfl ?_
      refine xs_aload_n C0 d_Lw_law_399 rfl 3 rfl ?_
      refine xs_saload C0 d_Lw_law_400 rfl 1 rfl ?_
      refine xs_iload C0 d_Lw_law_401 5 rfl ?_
      refine xs_iconst (v := 1) C0 d_Lw_law_403 (by decide) ?_
      refine xs_iadd C0 d_Lw_law_404 ?_
      refine xs_top (v' := .int (nI (i + 1))) (by rw [show (1 : Int32) = nI 1 from rfl, nI_add]) ?_
      refine xs_sld C0 hX d_Lw_law_405 (vp_in_nI (n := i + 1) (by omega) (by omega)) ?_
      refine xs_top (v' := .int (xs (i + 1))) (by rw [nI_clamp (by omega)]) ?_
      refine xs_saload C0 d_Lw_law_406 rfl 1 rfl ?_
      refine xs_iload C0 d_Lw_law_407 5 rfl ?_
      refine xs_iconst (v := 2) C0 d_Lw_law_409 (by decide) ?_
      refine xs_iadd C0 d_Lw_law_410 ?_
      refine xs_pc (pc' := 411) rfl ?_
      refine xs_top (v' := .int (nI (i + 2))) (by rw [show (2 : Int32) = nI 2 from rfl, nI_add]) ?_
      refine xs_sld C0 hX d_Lw_law_411 (vp_in_nI (n := i + 2) (by omega) (by omega)) ?_
      refine xs_top (v' := .int (xs (i + 2))) (by rw [nI_clamp (by omega)]) ?_
      refine xs_cV1 (ω' := (wB B S T F H tt ++ (wMB B rl Z cl hc 0 tt kp pa tr 2 ++ [.inl (1, 1, .inr (.inl o))]))) (As := [.int (xs (i + 1)), .int (xs (i + 2))]) (st := []) (kc' := (kc + 1)) (ks' := (ks + 6)) (v := .int 0) C0 d_Lw_law_412 l_Lw_87 rfl rfl (d_diodeX h.1 (Nat.le_of_not_lt hi) hg) rfl rfl rfl (Nat.le_of_ble_eq_true rfl) (Nat.le_of_ble_eq_true rfl) (Nat.le_refl _) (Nat.le_refl _) hk1 hk2 ?_
      refine xs_istore (lv' := [(6, .int 0), (5, .int 2), (0, .retAddr b), (1, .ref 0), (2, .ref 36), (3, .ref 64), (4, .int (nI i))]) C0 d_Lw_law_415 (by decide) rfl ?_
      refine xs_aload_n C0 d_Lw_law_417 rfl 4 rfl ?_
      refine xs_cV1 (ω' := (wB B S T F H tt ++ (wMB B rl Z cl hc 0 tt kp pa tr 2 ++ [.inl (1, 1, .inr (.inl o))]))) (As := []) (st := []) (kc' := (kc + 1)) (ks' := (ks + 6)) (v := .int 2) C0 d_Lw_law_418 l_Lw_74 rfl rfl d_thrown rfl rfl rfl (Nat.le_of_ble_eq_true rfl) (Nat.le_of_ble_eq_true rfl) (Nat.le_refl _) (Nat.le_refl _) hk1 hk2 ?_
      refine xs_iload C0 d_Lw_law_421 1 rfl ?_
      refine xs_icmp_eq (tgt := 428) C0 d_Lw_law_423 (by decide) (fun _ => ?_) (fun c9 => absurd rfl c9)
      refine xs_iload C0 d_Lw_law_428 1 rfl ?_
      refine xs_if_ne (tgt := 445) C0 d_Lw_law_430 (by decide) (fun _ => ?_) (fun c9 => absurd c9 (by decide))
      refine xs_goto (tgt := 1219) C0 d_Lw_law_445 (by decide) ?_
      refine xs_lv (lv' := [(0, .retAddr b), (1, .ref 0), (2, .ref 36), (3, .ref 64), (4, .int (nI i))]) [2, 3, 4, 5, 6] rfl ?_
      exact k _ _ _ _ _ _ _ _ _ _ _ _ _ _ _ h
  · refine xs_aload_n C0 d_Lw_law_380 rfl 1 rfl ?_
    refine xs_saload C0 d_Lw_law_381 rfl 0 rfl ?_
    refine xs_iload C0 d_Lw_law_382 4 rfl ?_
    refine xs_iconst (v := 1) C0 d_Lw_law_384 (by decide) ?_
    refine xs_iadd C0 d_Lw_law_385 ?_
    refine xs_top (v' := .int (nI (i + 1))) (by rw [show (1 : Int32) = nI 1 from rfl, nI_add]) ?_
    refine xs_sld C0 hX d_Lw_law_386 (vp_in_nI (n := i + 1) (by omega) (by omega)) ?_
    refine xs_top (v' := .int (xs (i + 1))) (by rw [nI_clamp (by omega)]) ?_
    refine xs_saload C0 d_Lw_law_387 rfl 0 rfl ?_
    refine xs_iload C0 d_Lw_law_388 4 rfl ?_
    refine xs_iconst (v := 2) C0 d_Lw_law_390 (by decide) ?_
    refine xs_iadd C0 d_Lw_law_391 ?_
    refine xs_top (v' := .int (nI (i + 2))) (by rw [show (2 : Int32) = nI 2 from rfl, nI_add]) ?_
    refine xs_sld C0 hX d_Lw_law_392 (vp_in_nI (n := i + 2) (by omega) (by omega)) ?_
    refine xs_top (v' := .int (xs (i + 2))) (by rw [nI_clamp (by omega)]) ?_
    refine xs_aload_n C0 d_Lw_law_393 rfl 3 rfl ?_
    refine xs_pc (pc' := 394) rfl ?_
    refine xs_cS1 (ω' := (wB B S T F H tt ++ (wMB B rl Z cl hc 0 tt kp pa tr co ++ [.inl (1, 1, .inr (.inl o))]))) (av := [.ref 0, .int (xs (i + 1)), .int (xs (i + 2)), .ref 64]) (st := []) (kc' := (kc + 1)) (ks' := (ks + 6)) (v := .int 1) C0 d_Lw_law_394 l_Lw_85 (l_diodeT (m_diodeT h.1.1 hq)) rfl rfl rfl (Nat.le_of_ble_eq_true rfl) (Nat.le_of_ble_eq_true rfl) (Nat.le_refl _) (Nat.le_refl _) hk1 hk2 ?_
    refine xs_istore (lv' := [(5, .int 1), (0, .retAddr b), (1, .ref 0), (2, .ref 36), (3, .ref 64), (4, .int (nI i))]) C0 d_Lw_law_397 (by decide) rfl ?_
    refine xs_aload_n C0 d_Lw_law_399 rfl 3 rfl ?_
    refine xs_saload C0 d_Lw_law_400 rfl 1 rfl ?_
    refine xs_iload C0 d_Lw_law_401 5 rfl ?_
    refine xs_iconst (v := 1) C0 d_Lw_law_403 (by decide) ?_
    refine xs_iadd C0 d_Lw_law_404 ?_
    refine xs_top (v' := .int (nI (i + 1))) (by rw [show (1 : Int32) = nI 1 from rfl, nI_add]) ?_
    refine xs_sld C0 hX d_Lw_law_405 (vp_in_nI (n := i + 1) (by omega) (by omega)) ?_
    refine xs_top (v' := .int (xs (i + 1))) (by rw [nI_clamp (by omega)]) ?_
    refine xs_saload C0 d_Lw_law_406 rfl 1 rfl ?_
    refine xs_iload C0 d_Lw_law_407 5 rfl ?_
    refine xs_iconst (v := 2) C0 d_Lw_law_409 (by decide) ?_
    refine xs_iadd C0 d_Lw_law_410 ?_
    refine xs_pc (pc' := 411) rfl ?_
    refine xs_top (v' := .int (nI (i + 2))) (by rw [show (2 : Int32) = nI 2 from rfl, nI_add]) ?_
    refine xs_sld C0 hX d_Lw_law_411 (vp_in_nI (n := i + 2) (by omega) (by omega)) ?_
    refine xs_top (v' := .int (xs (i + 2))) (by rw [nI_clamp (by omega)]) ?_
    refine xs_cV1 (ω' := (wB B S T F H tt ++ (wMB B rl Z cl hc 0 tt kp pa tr 1 ++ [.inl (1, 1, .inr (.inl o))]))) (As := [.int (xs (i + 1)), .int (xs (i + 2))]) (st := []) (kc' := (kc + 1)) (ks' := (ks + 6)) (v := .int 0) C0 d_Lw_law_412 l_Lw_87 rfl rfl (d_diodeT h.1 hq) rfl rfl rfl (Nat.le_of_ble_eq_true rfl) (Nat.le_of_ble_eq_true rfl) (Nat.le_refl _) (Nat.le_refl _) hk1 hk2 ?_
    refine xs_istore (lv' := [(6, .int 0), (5, .int 1), (0, .retAddr b), (1, .ref 0), (2, .ref 36), (3, .ref 64), (4, .int (nI i))]) C0 d_Lw_law_415 (by decide) rfl ?_
    refine xs_aload_n C0 d_Lw_law_417 rfl 4 rfl ?_
    refine xs_cV1 (ω' := (wB B S T F H tt ++ (wMB B rl Z cl hc 0 tt kp pa tr 1 ++ [.inl (1, 1, .inr (.inl o))]))) (As := []) (st := []) (kc' := (kc + 1)) (ks' := (ks + 6)) (v := .int 1) C0 d_Lw_law_418 l_Lw_74 rfl rfl d_thrown rfl rfl rfl (Nat.le_of_ble_eq_true rfl) (Nat.le_of_ble_eq_true rfl) (Nat.le_refl _) (Nat.le_refl _) hk1 hk2 ?_
    refine xs_iload C0 d_Lw_law_421 1 rfl ?_
    refine xs_icmp_eq (tgt := 428) C0 d_Lw_law_423 (by decide) (fun _ => ?_) (fun c9 => absurd rfl c9)
    refine xs_iload C0 d_Lw_law_428 1 rfl ?_
    refine xs_if_ne (tgt := 445) C0 d_Lw_law_430 (by decide) (fun _ => ?_) (fun c9 => absurd c9 (by decide))
    refine xs_goto (tgt := 1219) C0 d_Lw_law_445 (by decide) ?_
    refine xs_lv (lv' := [(0, .retAddr b), (1, .ref 0), (2, .ref 36), (3, .ref 64), (4, .int (nI i))]) [2, 3, 4, 5, 6] rfl ?_
    exact k _ _ _ _ _ _ _ _ _ _ _ _ _ _ _ h
set_option maxHeartbeats 4000000 in
set_option maxRecDepth 100000 in
theorem lc_lamp {E : xm_X} {Q : State → Prop} {b L i kc ks : Nat} {xs : Nat → Int32} (C0 : xm_C E R_Lw b_Lw_law 7 (some .boolean) [] "law" room_1) (hX : xl_X E b L xs) (hL : L ≤ 2560) (hi4 : i + 4 < L) (hk1 : kc + 1 ≤ 601024) (hk2 : ks + 6 ≤ 7293034) {B : wb} {S T : wt_S} {F : wt_F} {H : wt_H} {tt : Int32} {rl : Nat → Int32} {Z : mt_S} {cl : Nat → Int32} {hc : mt_H} {kp : mt_K} {pa : Nat → Int32} {tr : mt_T} {co : Int32} {o : Nat → Int64} (h : pI B rl S F Z cl) (k : ∀ (B : wb) (S T : wt_S) (F : wt_F) (H : wt_H) (tt : Int32) (rl : Nat → Int32) (Z : mt_S) (cl : Nat → Int32) (hc : mt_H) (kp : mt_K) (pa : Nat → Int32) (tr : mt_T) (co : Int32) (o : Nat → Int64), pI B rl S F Z cl → xm_W E 7 Q (kc + 1) (ks + 6) (wB B S T F H tt ++ (wMB B rl Z cl hc 0 tt kp pa tr co ++ [.inl (1, 1, .inr (.inl o))])) 1219 [(0, .retAddr b), (1, .ref 0), (2, .ref 36), (3, .ref 64), (4, .int (nI i))] []) : xm_W E 7 Q kc ks (wB B S T F H tt ++ (wMB B rl Z cl hc 0 tt kp pa tr co ++ [.inl (1, 1, .inr (.inl o))])) 448 [(0, .retAddr b), (1, .ref 0), (2, .ref 36), (3, .ref 64), (4, .int (nI i))] [] := by
  have h16 : B.1.2.2 ≤ 16 := h.1.1.1.1
  by_cases hq : g2 (xs (i + 1)) (xs (i + 2))
  · by_cases hi : B.2.2.2.2.1.2.2 < 12
    · have hg := hq
      obtain ⟨⟨c9, S9, F9⟩, H9⟩ : ∃ q, g_laf (b_add4 B (xs (i + 1)) (xs (i + 2))) S F = q := ⟨_, rfl⟩
      obtain ⟨⟨Z9, hc9⟩, G9⟩ : ∃ q, m_laf (b_add4 B (xs (i + 1)) (xs (i + 2))) rl cl Z hc = q := ⟨_, rfl⟩
      have hp := pI_laf hc (pI_4 h hi hg)
      rw [H9, G9] at hp
      refine xs_aload_n C0 d_Lw_law_448 rfl 1 rfl ?_
      refine xs_saload C0 d_Lw_law_449 rfl 0 rfl ?_
      refine xs_iload C0 d_Lw_law_450 4 rfl ?_
      refine xs_iconst (v := 1) C0 d_Lw_law_452 (by decide) ?_
      refine xs_iadd C0 d_Lw_law_453 ?_
      refine xs_top (v' := .int (nI (i + 1))) (by rw [show (1 : Int32) = nI 1 from rfl, nI_add]) ?_
      refine xs_sld C0 hX d_Lw_law_454 (vp_in_nI (n := i + 1) (by omega) (by omega)) ?_
      refine xs_top (v' := .int (xs (i + 1))) (by rw [nI_clamp (by omega)]) ?_
      refine xs_saload C0 d_Lw_law_455 rfl 0 rfl ?_
      refine xs_iload C0 d_Lw_law_456 4 rfl ?_
      refine xs_iconst (v := 2) C0 d_Lw_law_458 (by decide) ?_
      refine xs_iadd C0 d_Lw_law_459 ?_
      refine xs_top (v' := .int (nI (i + 2))) (by rw [show (2 : Int32) = nI 2 from rfl, nI_add]) ?_
      refine xs_sld C0 hX d_Lw_law_460 (vp_in_nI (n := i + 2) (by omega) (by omega)) ?_
      refine xs_top (v' := .int (xs (i + 2))) (by rw [nI_clamp (by omega)]) ?_
      refine xs_aload_n C0 d_Lw_law_461 rfl 3 rfl ?_
      refine xs_pc (pc' := 462) rfl ?_
      refine xs_cS1 (ω' := (wB (b_add4 B (xs (i + 1)) (xs (i + 2))) S9 T F9 H tt ++ (wMB B rl Z cl hc 0 tt kp pa tr co ++ [.inl (1, 1, .inr (.inl (vp_updL o 0 (nI B.2.2.2.2.1.2.2).toInt64)))]))) (av := [.ref 0, .int (xs (i + 1)), .int (xs (i + 2)), .ref 64]) (st := []) (kc' := kc) (ks' := ks) (v := .int 0) C0 d_Lw_law_462 l_Lw_88 (l_lamp (m_lamp h.1.1 hi hg H9)) rfl rfl rfl (Nat.le_of_ble_eq_true rfl) (Nat.le_of_ble_eq_true rfl) (Nat.le_refl _) (Nat.le_refl _) (Nat.le_of_succ_le hk1) (Nat.le_trans (Nat.le_add_right ks 6) hk2) ?_
      refine xs_istore (lv' := [(5, .int 0), (0, .retAddr b), (1, .ref 0), (2, .ref 36), (3, .ref 64), (4, .int (nI i))]) C0 d_Lw_law_465 (by decide) rfl ?_
      refine xs_aload_n C0 d_Lw_law_467 rfl 3 rfl ?_
      refine xs_saload C0 d_Lw_law_468 rfl 1 rfl ?_
      refine xs_iload C0 d_Lw_law_469 5 rfl ?_
      refine xs_iconst (v := 1) C0 d_Lw_law_471 (by decide) ?_
      refine xs_iadd C0 d_Lw_law_472 ?_
      refine xs_top (v' := .int (nI (i + 1))) (by rw [show (1 : Int32) = nI 1 from rfl, nI_add]) ?_
      refine xs_sld C0 hX d_Lw_law_473 (vp_in_nI (n := i + 1) (by omega) (by omega)) ?_
      refine xs_top (v' := .int (xs (i + 1))) (by rw [nI_clamp (by omega)]) ?_
      refine xs_saload C0 d_Lw_law_474 rfl 1 rfl ?_
      refine xs_iload C0 d_Lw_law_475 5 rfl ?_
      refine xs_iconst (v := 2) C0 d_Lw_law_477 (by decide) ?_
      refine xs_iadd C0 d_Lw_law_478 ?_
      refine xs_pc (pc' := 479) rfl ?_
      refine xs_top (v' := .int (nI (i + 2))) (by rw [show (2 : Int32) = nI 2 from rfl, nI_add]) ?_
      refine xs_sld C0 hX d_Lw_law_479 (vp_in_nI (n := i + 2) (by omega) (by omega)) ?_
      refine xs_top (v' := .int (xs (i + 2))) (by rw [nI_clamp (by omega)]) ?_
      refine xs_cV1 (ω' := (wB (b_add4 B (xs (i + 1)) (xs (i + 2))) S9 T F9 H tt ++ (wMB (b_add4 B (xs (i + 1)) (xs (i + 2))) rl Z9 cl hc9 0 tt kp pa tr 0 ++ [.inl (1, 1, .inr (.inl (vp_updL o 0 (nI B.2.2.2.2.1.2.2).toInt64)))]))) (As := [.int (xs (i + 1)), .int (xs (i + 2))]) (st := []) (kc' := kc) (ks' := ks) (v := .int (nI B.2.2.2.2.1.2.2)) C0 d_Lw_law_480 l_Lw_90 rfl rfl (d_lamp h.1 hi hg G9) rfl rfl rfl (Nat.le_of_ble_eq_true rfl) (Nat.le_of_ble_eq_true rfl) (Nat.le_refl _) (Nat.le_refl _) (Nat.le_of_succ_le hk1) (Nat.le_trans (Nat.le_add_right ks 6) hk2) ?_
      refine xs_istore (lv' := [(6, .int (nI B.2.2.2.2.1.2.2)), (5, .int 0), (0, .retAddr b), (1, .ref 0), (2, .ref 36), (3, .ref 64), (4, .int (nI i))]) C0 d_Lw_law_483 (by decide) rfl ?_
      refine xs_aload_n C0 d_Lw_law_485 rfl 4 rfl ?_
      refine xs_cV1 (ω' := (wB (b_add4 B (xs (i + 1)) (xs (i + 2))) S9 T F9 H tt ++ (wMB (b_add4 B (xs (i + 1)) (xs (i + 2))) rl Z9 cl hc9 0 tt kp pa tr 0 ++ [.inl (1, 1, .inr (.inl (vp_updL o 0 (nI B.2.2.2.2.1.2.2).toInt64)))]))) (As := []) (st := []) (kc' := kc) (ks' := ks) (v := .int 0) C0 d_Lw_law_486 l_Lw_74 rfl rfl d_thrown rfl rfl rfl (Nat.le_of_ble_eq_true rfl) (Nat.le_of_ble_eq_true rfl) (Nat.le_refl _) (Nat.le_refl _) (Nat.le_of_succ_le hk1) (Nat.le_trans (Nat.le_add_right ks 6) hk2) ?_
      refine xs_iload C0 d_Lw_law_489 1 rfl ?_
      refine xs_icmp_eq (tgt := 496) C0 d_Lw_law_491 (by decide) (fun _ => ?_) (fun c9 => absurd rfl c9)
      refine xs_iload C0 d_Lw_law_496 1 rfl ?_
      refine xs_if_ne (tgt := 513) C0 d_Lw_law_498 (by decide) (fun c9 => absurd rfl c9) (fun _ => ?_)
      refine xs_aload_n C0 d_Lw_law_501 rfl 5 rfl ?_
      refine xs_iconst (v := 0) C0 d_Lw_law_502 (by decide) ?_
      refine xs_top (v' := .int (nI 0)) rfl ?_
      refine xs_lald C0 d_Lw_law_503 rfl (vp_in_nI (n := 0) (by decide) (by decide)) ?_
      refine xs_top (v' := .long ((vp_updL o 0 (nI B.2.2.2.2.1.2.2).toInt64) 0)) (by rw [nI_clamp (by omega)]) ?_
      refine xs_iload C0 d_Lw_law_504 0 rfl ?_
      refine xs_i2l C0 d_Lw_law_506 ?_
      refine xs_lcmp C0 d_Lw_law_507 ?_
      refine xs_if_eq (tgt := 513) C0 d_Lw_law_508 (by decide) (fun _ => ?_) (fun c9 => absurd (lg_cmp0.mpr rfl) c9)
      refine xs_goto (tgt := 1219) C0 d_Lw_law_513 (by decide) ?_
      refine xs_lv (lv' := [(0, .retAddr b), (1, .ref 0), (2, .ref 36), (3, .ref 64), (4, .int (nI i))]) [2, 3, 4, 5, 6] rfl ?_
      refine xs_more (Nat.le_succ kc) (Nat.le_add_right ks 6) ?_
      exact k _ _ _ _ _ _ _ _ _ _ _ _ _ _ _ hp
    · have hg := hq
      refine xs_aload_n C0 d_Lw_law_448 rfl 1 rfl ?_
      refine xs_saload C0 d_Lw_law_449 rfl 0 rfl ?_
      refine xs_iload C0 d_Lw_law_450 4 rfl ?_
      refine xs_iconst (v := 1) C0 d_Lw_law_452 (by decide) ?_
      refine xs_iadd C0 d_Lw_law_453 ?_
      refine xs_top (v' := .int (nI (i + 1))) (by rw [show (1 : Int32) = nI 1 from rfl, nI_add]) ?_
      refine xs_sld C0 hX d_Lw_law_454 (vp_in_nI (n := i + 1) (by omega) (by omega)) ?_
      refine xs_top (v' := .int (xs (i + 1))) (by rw [nI_clamp (by omega)]) ?_
      refine xs_saload C0 d_Lw_law_455 rfl 0 rfl ?_
      refine xs_iload C0 d_Lw_law_456 4 rfl ?_
      refine xs_iconst (v := 2) C0 d_Lw_law_458 (by decide) ?_
      refine xs_iadd C0 d_Lw_law_459 ?_
      refine xs_top (v' := .int (nI (i + 2))) (by rw [show (2 : Int32) = nI 2 from rfl, nI_add]) ?_
      refine xs_sld C0 hX d_Lw_law_460 (vp_in_nI (n := i + 2) (by omega) (by omega)) ?_
      refine xs_top (v' := .int (xs (i + 2))) (by rw [nI_clamp (by omega)]) ?_
      refine xs_aload_n C0 d_Lw_law_461 rfl 3 rfl ?_
      refine xs_pc (pc' := 462) rfl ?_
      refine xs_cS1 (ω' := (wB B S T F H tt ++ (wMB B rl Z cl hc 0 tt kp pa tr co ++ [.inl (1, 1, .inr (.inl o))]))) (av := [.ref 0, .int (xs (i + 1)), .int (xs (i + 2)), .ref 64]) (st := []) (kc' := (kc + 1)) (ks' := (ks + 6)) (v := .int 2) C0 d_Lw_law_462 l_Lw_88 (l_lampX (m_lampX h.1.1 (Nat.le_of_not_lt hi) hg)) rfl rfl rfl (Nat.le_of_ble_eq_true rfl) (Nat.le_of_ble_eq_true rfl) (Nat.le_refl _) (Nat.le_refl _) hk1 hk2 ?_
      refine xs_istore (lv' := [(5, .int 2), (0, .retAddr b), (1, .ref 0), (2, .ref 36), (3, .ref 64), (4, .int (nI i))]) C0 d_Lw_law_465 (by decide) rfl ?_
      refine xs_aload_n C0 d_Lw_law_467 rfl 3 rfl ?_
      refine xs_saload C0 d_Lw_law_468 rfl 1 rfl ?_
      refine xs_iload C0 d_Lw_law_469 5 rfl ?_
      refine xs_iconst (v := 1) C0 d_Lw_law_471 (by decide) ?_
      refine xs_iadd C0 d_Lw_law_472 ?_
      refine xs_top (v' := .int (nI (i + 1))) (by rw [show (1 : Int32) = nI 1 from rfl, nI_add]) ?_
      refine xs_sld C0 hX d_Lw_law_473 (vp_in_nI (n := i + 1) (by omega) (by omega)) ?_
      refine xs_top (v' := .int (xs (i + 1))) (by rw [nI_clamp (by omega)]) ?_
      refine xs_saload C0 d_Lw_law_474 rfl 1 rfl ?_
      refine xs_iload C0 d_Lw_law_475 5 rfl ?_
      refine xs_iconst (v := 2) C0 d_Lw_law_477 (by decide) ?_
      refine xs_iadd C0 d_Lw_law_478 ?_
      refine xs_pc (pc' := 479) rfl ?_
      refine xs_top (v' := .int (nI (i + 2))) (by rw [show (2 : Int32) = nI 2 from rfl, nI_add]) ?_
      refine xs_sld C0 hX d_Lw_law_479 (vp_in_nI (n := i + 2) (by omega) (by omega)) ?_
      refine xs_top (v' := .int (xs (i + 2))) (by rw [nI_clamp (by omega)]) ?_
      refine xs_cV1 (ω' := (wB B S T F H tt ++ (wMB B rl Z cl hc 0 tt kp pa tr 2 ++ [.inl (1, 1, .inr (.inl o))]))) (As := [.int (xs (i + 1)), .int (xs (i + 2))]) (st := []) (kc' := (kc + 1)) (ks' := (ks + 6)) (v := .int 0) C0 d_Lw_law_480 l_Lw_90 rfl rfl (d_lampX h.1 (Nat.le_of_not_lt hi) hg) rfl rfl rfl (Nat.le_of_ble_eq_true rfl) (Nat.le_of_ble_eq_true rfl) (Nat.le_refl _) (Nat.le_refl _) hk1 hk2 ?_
      refine xs_istore (lv' := [(6, .int 0), (5, .int 2), (0, .retAddr b), (1, .ref 0), (2, .ref 36), (3, .ref 64), (4, .int (nI i))]) C0 d_Lw_law_483 (by decide) rfl ?_
      refine xs_aload_n C0 d_Lw_law_485 rfl 4 rfl ?_
      refine xs_cV1 (ω' := (wB B S T F H tt ++ (wMB B rl Z cl hc 0 tt kp pa tr 2 ++ [.inl (1, 1, .inr (.inl o))]))) (As := []) (st := []) (kc' := (kc + 1)) (ks' := (ks + 6)) (v := .int 2) C0 d_Lw_law_486 l_Lw_74 rfl rfl d_thrown rfl rfl rfl (Nat.le_of_ble_eq_true rfl) (Nat.le_of_ble_eq_true rfl) (Nat.le_refl _) (Nat.le_refl _) hk1 hk2 ?_
      refine xs_iload C0 d_Lw_law_489 1 rfl ?_
      refine xs_icmp_eq (tgt := 496) C0 d_Lw_law_491 (by decide) (fun _ => ?_) (fun c9 => absurd rfl c9)
      refine xs_iload C0 d_Lw_law_496 1 rfl ?_
      refine xs_if_ne (tgt := 513) C0 d_Lw_law_498 (by decide) (fun _ => ?_) (fun c9 => absurd c9 (by decide))
      refine xs_goto (tgt := 1219) C0 d_Lw_law_513 (by decide) ?_
      refine xs_lv (lv' := [(0, .retAddr b), (1, .ref 0), (2, .ref 36), (3, .ref 64), (4, .int (nI i))]) [2, 3, 4, 5, 6] rfl ?_
      exact k _ _ _ _ _ _ _ _ _ _ _ _ _ _ _ h
  · refine xs_aload_n C0 d_Lw_law_448 rfl 1 rfl ?_
    refine xs_saload C0 d_Lw_law_449 rfl 0 rfl ?_
    refine xs_iload C0 d_Lw_law_450 4 rfl ?_
    refine xs_iconst (v := 1) C0 d_Lw_law_452 (by decide) ?_
    refine xs_iadd C0 d_Lw_law_453 ?_
    refine xs_top (v' := .int (nI (i + 1))) (by rw [show (1 : Int32) = nI 1 from rfl, nI_add]) ?_
    refine xs_sld C0 hX d_Lw_law_454 (vp_in_nI (n := i + 1) (by omega) (by omega)) ?_
    refine xs_top (v' := .int (xs (i + 1))) (by rw [nI_clamp (by omega)]) ?_
    refine xs_saload C0 d_Lw_law_455 rfl 0 rfl ?_
    refine xs_iload C0 d_Lw_law_456 4 rfl ?_
    refine xs_iconst (v := 2) C0 d_Lw_law_458 (by decide) ?_
    refine xs_iadd C0 d_Lw_law_459 ?_
    refine xs_top (v' := .int (nI (i + 2))) (by rw [show (2 : Int32) = nI 2 from rfl, nI_add]) ?_
    refine xs_sld C0 hX d_Lw_law_460 (vp_in_nI (n := i + 2) (by omega) (by omega)) ?_
    refine xs_top (v' := .int (xs (i + 2))) (by rw [nI_clamp (by omega)]) ?_
    refine xs_aload_n C0 d_Lw_law_461 rfl 3 rfl ?_
    refine xs_pc (pc' := 462) rfl ?_
    refine xs_cS1 (ω' := (wB B S T F H tt ++ (wMB B rl Z cl hc 0 tt kp pa tr co ++ [.inl (1, 1, .inr (.inl o))]))) (av := [.ref 0, .int (xs (i + 1)), .int (xs (i + 2)), .ref 64]) (st := []) (kc' := (kc + 1)) (ks' := (ks + 6)) (v := .int 1) C0 d_Lw_law_462 l_Lw_88 (l_lampT (m_lampT h.1.1 hq)) rfl rfl rfl (Nat.le_of_ble_eq_true rfl) (Nat.le_of_ble_eq_true rfl) (Nat.le_refl _) (Nat.le_refl _) hk1 hk2 ?_
    refine xs_istore (lv' := [(5, .int 1), (0, .retAddr b), (1, .ref 0), (2, .ref 36), (3, .ref 64), (4, .int (nI i))]) C0 d_Lw_law_465 (by decide) rfl ?_
    refine xs_aload_n C0 d_Lw_law_467 rfl 3 rfl ?_
    refine xs_saload C0 d_Lw_law_468 rfl 1 rfl ?_
    refine xs_iload C0 d_Lw_law_469 5 rfl ?_
    refine xs_iconst (v := 1) C0 d_Lw_law_471 (by decide) ?_
    refine xs_iadd C0 d_Lw_law_472 ?_
    refine xs_top (v' := .int (nI (i + 1))) (by rw [show (1 : Int32) = nI 1 from rfl, nI_add]) ?_
    refine xs_sld C0 hX d_Lw_law_473 (vp_in_nI (n := i + 1) (by omega) (by omega)) ?_
    refine xs_top (v' := .int (xs (i + 1))) (by rw [nI_clamp (by omega)]) ?_
    refine xs_saload C0 d_Lw_law_474 rfl 1 rfl ?_
    refine xs_iload C0 d_Lw_law_475 5 rfl ?_
    refine xs_iconst (v := 2) C0 d_Lw_law_477 (by decide) ?_
    refine xs_iadd C0 d_Lw_law_478 ?_
    refine xs_pc (pc' := 479) rfl ?_
    refine xs_top (v' := .int (nI (i + 2))) (by rw [show (2 : Int32) = nI 2 from rfl, nI_add]) ?_
    refine xs_sld C0 hX d_Lw_law_479 (vp_in_nI (n := i + 2) (by omega) (by omega)) ?_
    refine xs_top (v' := .int (xs (i + 2))) (by rw [nI_clamp (by omega)]) ?_
    refine xs_cV1 (ω' := (wB B S T F H tt ++ (wMB B rl Z cl hc 0 tt kp pa tr 1 ++ [.inl (1, 1, .inr (.inl o))]))) (As := [.int (xs (i + 1)), .int (xs (i + 2))]) (st := []) (kc' := (kc + 1)) (ks' := (ks + 6)) (v := .int 0) C0 d_Lw_law_480 l_Lw_90 rfl rfl (d_lampT h.1 hq) rfl rfl rfl (Nat.le_of_ble_eq_true rfl) (Nat.le_of_ble_eq_true rfl) (Nat.le_refl _) (Nat.le_refl _) hk1 hk2 ?_
    refine xs_istore (lv' := [(6, .int 0), (5, .int 1), (0, .retAddr b), (1, .ref 0), (2, .ref 36), (3, .ref 64), (4, .int (nI i))]) C0 d_Lw_law_483 (by decide) rfl ?_
    refine xs_aload_n C0 d_Lw_law_485 rfl 4 rfl ?_
    refine xs_cV1 (ω' := (wB B S T F H tt ++ (wMB B rl Z cl hc 0 tt kp pa tr 1 ++ [.inl (1, 1, .inr (.inl o))]))) (As := []) (st := []) (kc' := (kc + 1)) (ks' := (ks + 6)) (v := .int 1) C0 d_Lw_law_486 l_Lw_74 rfl rfl d_thrown rfl rfl rfl (Nat.le_of_ble_eq_true rfl) (Nat.le_of_ble_eq_true rfl) (Nat.le_refl _) (Nat.le_refl _) hk1 hk2 ?_
    refine xs_iload C0 d_Lw_law_489 1 rfl ?_
    refine xs_icmp_eq (tgt := 496) C0 d_Lw_law_491 (by decide) (fun _ => ?_) (fun c9 => absurd rfl c9)
    refine xs_iload C0 d_Lw_law_496 1 rfl ?_
    refine xs_if_ne (tgt := 513) C0 d_Lw_law_498 (by decide) (fun _ => ?_) (fun c9 => absurd c9 (by decide))
    refine xs_goto (tgt := 1219) C0 d_Lw_law_513 (by decide) ?_
    refine xs_lv (lv' := [(0, .retAddr b), (1, .ref 0), (2, .ref 36), (3, .ref 64), (4, .int (nI i))]) [2, 3, 4, 5, 6] rfl ?_
    exact k _ _ _ _ _ _ _ _ _ _ _ _ _ _ _ h
set_option maxHeartbeats 4000000 in
set_option maxRecDepth 100000 in
theorem lc_turn {E : xm_X} {Q : State → Prop} {b L i kc ks : Nat} {xs : Nat → Int32} (C0 : xm_C E R_Lw b_Lw_law 7 (some .boolean) [] "law" room_1) (hX : xl_X E b L xs) (hL : L ≤ 2560) (hi4 : i + 4 < L) (hk1 : kc + 1 ≤ 601024) (hk2 : ks + 6 ≤ 7293034) {B : wb} {S T : wt_S} {F : wt_F} {H : wt_H} {tt : Int32} {rl : Nat → Int32} {Z : mt_S} {cl : Nat → Int32} {hc : mt_H} {kp : mt_K} {pa : Nat → Int32} {tr : mt_T} {co : Int32} {o : Nat → Int64} (h : pI B rl S F Z cl) (k : ∀ (B : wb) (S T : wt_S) (F : wt_F) (H : wt_H) (tt : Int32) (rl : Nat → Int32) (Z : mt_S) (cl : Nat → Int32) (hc : mt_H) (kp : mt_K) (pa : Nat → Int32) (tr : mt_T) (co : Int32) (o : Nat → Int64), pI B rl S F Z cl → xm_W E 7 Q (kc + 1) (ks + 6) (wB B S T F H tt ++ (wMB B rl Z cl hc 0 tt kp pa tr co ++ [.inl (1, 1, .inr (.inl o))])) 1219 [(0, .retAddr b), (1, .ref 0), (2, .ref 36), (3, .ref 64), (4, .int (nI i))] []) : xm_W E 7 Q kc ks (wB B S T F H tt ++ (wMB B rl Z cl hc 0 tt kp pa tr co ++ [.inl (1, 1, .inr (.inl o))])) 516 [(0, .retAddr b), (1, .ref 0), (2, .ref 36), (3, .ref 64), (4, .int (nI i))] [] := by
  have h16 : B.1.2.2 ≤ 16 := h.1.1.1.1
  by_cases hq : gw (xs (i + 1)) 0 (nI B.2.2.1.2.2 - 1)
  · obtain ⟨j9, hj9, ej⟩ := gw_part h.1.1.2.2.1.1 (by decide) hq
    have hj12 : j9 < 12 := Nat.lt_of_lt_of_le hj9 h.1.1.2.2.1.1
    have et : (xs (i + 1)).toNatClampNeg = j9 := by rw [ej, nI_clamp (by omega)]
    have hs9 : (f_sk S (xs (i + 1)) (if ¬ (xs (i + 2)) = 0 then (1 : Int32) else 0)).1 = (if ¬ cl (xs (i + 1)).toNatClampNeg = (if ¬ (xs (i + 2)) = 0 then (1 : Int32) else 0) then 1 else 0) ∧ pR B.1.2.2 (f_sk S (xs (i + 1)) (if ¬ (xs (i + 2)) = 0 then (1 : Int32) else 0)).2 Z (upd cl (xs (i + 1)).toNatClampNeg (if ¬ (xs (i + 2)) = 0 then (1 : Int32) else 0)) := by rw [et, ej]; exact p_sk h.2.2.2.2.1 h.2.2.2.2.2 hj12 xm_b01
    obtain ⟨⟨S9, F9⟩, H9⟩ : ∃ q, g_turn B S F (xs (i + 1)) (if ¬ (xs (i + 2)) = 0 then (1 : Int32) else 0) = q := ⟨_, rfl⟩
    obtain ⟨⟨Z9, hc9⟩, G9⟩ : ∃ q, m_laf B rl (upd cl (xs (i + 1)).toNatClampNeg (if ¬ (xs (i + 2)) = 0 then (1 : Int32) else 0)) Z hc = q := ⟨_, rfl⟩
    have hp : pI B rl (g_laf B (f_sk S (xs (i + 1)) (if ¬ (xs (i + 2)) = 0 then (1 : Int32) else 0)).2 F).2.1 (g_laf B (f_sk S (xs (i + 1)) (if ¬ (xs (i + 2)) = 0 then (1 : Int32) else 0)).2 F).2.2 (m_laf B rl (upd cl (xs (i + 1)).toNatClampNeg (if ¬ (xs (i + 2)) = 0 then (1 : Int32) else 0)) Z hc).1 (upd cl (xs (i + 1)).toNatClampNeg (if ¬ (xs (i + 2)) = 0 then (1 : Int32) else 0)) := pI_laf hc ⟨h.1, h.2.1, h.2.2.1, h.2.2.2.1, hs9.2, c01_upd h.2.2.2.2.2 _ xm_b01⟩
    rw [show (g_laf B (f_sk S (xs (i + 1)) (if ¬ (xs (i + 2)) = 0 then (1 : Int32) else 0)).2 F).2 = (S9, F9) from H9, G9] at hp
    refine xs_aload_n C0 d_Lw_law_516 rfl 1 rfl ?_
    refine xs_saload C0 d_Lw_law_517 rfl 0 rfl ?_
    refine xs_iload C0 d_Lw_law_518 4 rfl ?_
    refine xs_iconst (v := 1) C0 d_Lw_law_520 (by decide) ?_
    refine xs_iadd C0 d_Lw_law_521 ?_
    refine xs_top (v' := .int (nI (i + 1))) (by rw [show (1 : Int32) = nI 1 from rfl, nI_add]) ?_
    refine xs_sld C0 hX d_Lw_law_522 (vp_in_nI (n := i + 1) (by omega) (by omega)) ?_
    refine xs_top (v' := .int (xs (i + 1))) (by rw [nI_clamp (by omega)]) ?_
    refine xs_saload C0 d_Lw_law_523 rfl 0 rfl ?_
    refine xs_iload C0 d_Lw_law_524 4 rfl ?_
    refine xs_iconst (v := 2) C0 d_Lw_law_526 (by decide) ?_
    refine xs_iadd C0 d_Lw_law_527 ?_
    refine xs_top (v' := .int (nI (i + 2))) (by rw [show (2 : Int32) = nI 2 from rfl, nI_add]) ?_
    refine xs_sld C0 hX d_Lw_law_528 (vp_in_nI (n := i + 2) (by omega) (by omega)) ?_
    refine xs_top (v' := .int (xs (i + 2))) (by rw [nI_clamp (by omega)]) ?_
    refine xs_bz_eq (u := 1) (v := 0) (tgt := 536) (J := 537) C0 d_Lw_law_529 (by decide) d_Lw_law_532 (by decide) d_Lw_law_533 (by decide) d_Lw_law_536 (by decide) rfl ?_
    refine xs_aload_n C0 d_Lw_law_537 rfl 3 rfl ?_
    refine xs_cS1 (ω' := (wB B S9 T F9 H tt ++ (wMB B rl Z cl hc 0 tt kp pa tr co ++ [.inl (1, 1, .inr (.inl (vp_updL o 0 (if (f_sk S (xs (i + 1)) (if ¬ (xs (i + 2)) = 0 then (1 : Int32) else 0)).1 = 0 then 0 else 1))))]))) (av := [.ref 0, .int (xs (i + 1)), .int (if ¬ (xs (i + 2)) = 0 then 1 else 0), .ref 64]) (st := []) (kc' := kc) (ks' := ks) (v := .int 0) C0 d_Lw_law_538 l_Lw_91 (l_turn (m_turn h.1.1 hq rfl H9)) rfl rfl rfl (Nat.le_of_ble_eq_true rfl) (Nat.le_of_ble_eq_true rfl) (Nat.le_refl _) (Nat.le_refl _) (Nat.le_of_succ_le hk1) (Nat.le_trans (Nat.le_add_right ks 6) hk2) ?_
    refine xs_istore (lv' := [(5, .int 0), (0, .retAddr b), (1, .ref 0), (2, .ref 36), (3, .ref 64), (4, .int (nI i))]) C0 d_Lw_law_541 (by decide) rfl ?_
    refine xs_aload_n C0 d_Lw_law_543 rfl 3 rfl ?_
    refine xs_saload C0 d_Lw_law_544 rfl 1 rfl ?_
    refine xs_iload C0 d_Lw_law_545 5 rfl ?_
    refine xs_iconst (v := 1) C0 d_Lw_law_547 (by decide) ?_
    refine xs_iadd C0 d_Lw_law_548 ?_
    refine xs_top (v' := .int (nI (i + 1))) (by rw [show (1 : Int32) = nI 1 from rfl, nI_add]) ?_
    refine xs_sld C0 hX d_Lw_law_549 (vp_in_nI (n := i + 1) (by omega) (by omega)) ?_
    refine xs_top (v' := .int (xs (i + 1))) (by rw [nI_clamp (by omega)]) ?_
    refine xs_saload C0 d_Lw_law_550 rfl 1 rfl ?_
    refine xs_iload C0 d_Lw_law_551 5 rfl ?_
    refine xs_pc (pc' := 553) rfl ?_
    refine xs_iconst (v := 2) C0 d_Lw_law_553 (by decide) ?_
    refine xs_iadd C0 d_Lw_law_554 ?_
    refine xs_top (v' := .int (nI (i + 2))) (by rw [show (2 : Int32) = nI 2 from rfl, nI_add]) ?_
    refine xs_sld C0 hX d_Lw_law_555 (vp_in_nI (n := i + 2) (by omega) (by omega)) ?_
    refine xs_top (v' := .int (xs (i + 2))) (by rw [nI_clamp (by omega)]) ?_
    refine xs_bz_eq (u := 1) (v := 0) (tgt := 563) (J := 564) C0 d_Lw_law_556 (by decide) d_Lw_law_559 (by decide) d_Lw_law_560 (by decide) d_Lw_law_563 (by decide) rfl ?_
    refine xs_cV1 (ω' := (wB B S9 T F9 H tt ++ (wMB B rl Z9 (upd cl (xs (i + 1)).toNatClampNeg (if ¬ (xs (i + 2)) = 0 then (1 : Int32) else 0)) hc9 0 tt kp pa tr 0 ++ [.inl (1, 1, .inr (.inl (vp_updL o 0 (if (f_sk S (xs (i + 1)) (if ¬ (xs (i + 2)) = 0 then (1 : Int32) else 0)).1 = 0 then 0 else 1))))]))) (As := [.int (xs (i + 1)), .int (if ¬ (xs (i + 2)) = 0 then 1 else 0)]) (st := []) (kc' := kc) (ks' := ks) (v := .int (if ¬ cl (xs (i + 1)).toNatClampNeg = (if ¬ (xs (i + 2)) = 0 then (1 : Int32) else 0) then 1 else 0)) C0 d_Lw_law_564 l_Lw_94 rfl rfl (d_turn h.1 hq xm_b01 G9) rfl rfl rfl (Nat.le_of_ble_eq_true rfl) (Nat.le_of_ble_eq_true rfl) (Nat.le_refl _) (Nat.le_refl _) (Nat.le_of_succ_le hk1) (Nat.le_trans (Nat.le_add_right ks 6) hk2) ?_
    refine xs_istore (lv' := [(6, .int (if ¬ cl (xs (i + 1)).toNatClampNeg = (if ¬ (xs (i + 2)) = 0 then (1 : Int32) else 0) then 1 else 0)), (5, .int 0), (0, .retAddr b), (1, .ref 0), (2, .ref 36), (3, .ref 64), (4, .int (nI i))]) C0 d_Lw_law_567 (by decide) rfl ?_
    refine xs_aload_n C0 d_Lw_law_569 rfl 4 rfl ?_
    refine xs_cV1 (ω' := (wB B S9 T F9 H tt ++ (wMB B rl Z9 (upd cl (xs (i + 1)).toNatClampNeg (if ¬ (xs (i + 2)) = 0 then (1 : Int32) else 0)) hc9 0 tt kp pa tr 0 ++ [.inl (1, 1, .inr (.inl (vp_updL o 0 (if (f_sk S (xs (i + 1)) (if ¬ (xs (i + 2)) = 0 then (1 : Int32) else 0)).1 = 0 then 0 else 1))))]))) (As := []) (st := []) (kc' := kc) (ks' := ks) (v := .int 0) C0 d_Lw_law_570 l_Lw_74 rfl rfl d_thrown rfl rfl rfl (Nat.le_of_ble_eq_true rfl) (Nat.le_of_ble_eq_true rfl) (Nat.le_refl _) (Nat.le_refl _) (Nat.le_of_succ_le hk1) (Nat.le_trans (Nat.le_add_right ks 6) hk2) ?_
    refine xs_iload C0 d_Lw_law_573 1 rfl ?_
    refine xs_icmp_eq (tgt := 580) C0 d_Lw_law_575 (by decide) (fun _ => ?_) (fun c9 => absurd rfl c9)
    refine xs_iload C0 d_Lw_law_580 1 rfl ?_
    refine xs_if_ne (tgt := 604) C0 d_Lw_law_582 (by decide) (fun c9 => absurd rfl c9) (fun _ => ?_)
    refine xs_aload_n C0 d_Lw_law_585 rfl 5 rfl ?_
    refine xs_iconst (v := 0) C0 d_Lw_law_586 (by decide) ?_
    refine xs_top (v' := .int (nI 0)) rfl ?_
    refine xs_lald C0 d_Lw_law_587 rfl (vp_in_nI (n := 0) (by decide) (by decide)) ?_
    refine xs_top (v' := .long ((vp_updL o 0 (if (f_sk S (xs (i + 1)) (if ¬ (xs (i + 2)) = 0 then (1 : Int32) else 0)).1 = 0 then 0 else 1)) 0)) (by rw [nI_clamp (by omega)]) ?_
    refine xs_iload C0 d_Lw_law_588 0 rfl ?_
    refine xs_if_eq (tgt := 597) C0 d_Lw_law_590 (by decide) (fun c5 => ?_) (fun c5 => ?_)
    · refine xs_lconst (v := 0) C0 d_Lw_law_597 rfl ?_
      refine xs_lcmp C0 d_Lw_law_598 ?_
      refine xs_if_eq (tgt := 604) C0 d_Lw_law_599 (by decide) (fun _ => ?_) (fun c9 => absurd (lg_cmp0.mpr (by show (if _ = 0 then (0 : Int64) else 1) = _; rw [hs9.1, if_pos c5])) c9)
      refine xs_goto (tgt := 1219) C0 d_Lw_law_604 (by decide) ?_
      refine xs_lv (lv' := [(0, .retAddr b), (1, .ref 0), (2, .ref 36), (3, .ref 64), (4, .int (nI i))]) [2, 3, 4, 5, 6] rfl ?_
      refine xs_more (Nat.le_succ kc) (Nat.le_add_right ks 6) ?_
      exact k _ _ _ _ _ _ _ _ _ _ _ _ _ _ _ hp
    · refine xs_lconst (v := 1) C0 d_Lw_law_593 rfl ?_
      refine xs_goto (tgt := 598) C0 d_Lw_law_594 (by decide) ?_
      refine xs_lcmp C0 d_Lw_law_598 ?_
      refine xs_if_eq (tgt := 604) C0 d_Lw_law_599 (by decide) (fun _ => ?_) (fun c9 => absurd (lg_cmp0.mpr (by show (if _ = 0 then (0 : Int64) else 1) = _; rw [hs9.1, if_neg c5])) c9)
      refine xs_goto (tgt := 1219) C0 d_Lw_law_604 (by decide) ?_
      refine xs_lv (lv' := [(0, .retAddr b), (1, .ref 0), (2, .ref 36), (3, .ref 64), (4, .int (nI i))]) [2, 3, 4, 5, 6] rfl ?_
      refine xs_more (Nat.le_succ kc) (Nat.le_add_right ks 6) ?_
      exact k _ _ _ _ _ _ _ _ _ _ _ _ _ _ _ hp
  · refine xs_aload_n C0 d_Lw_law_516 rfl 1 rfl ?_
    refine xs_saload C0 d_Lw_law_517 rfl 0 rfl ?_
    refine xs_iload C0 d_Lw_law_518 4 rfl ?_
    refine xs_iconst (v := 1) C0 d_Lw_law_520 (by decide) ?_
    refine xs_iadd C0 d_Lw_law_521 ?_
    refine xs_top (v' := .int (nI (i + 1))) (by rw [show (1 : Int32) = nI 1 from rfl, nI_add]) ?_
    refine xs_sld C0 hX d_Lw_law_522 (vp_in_nI (n := i + 1) (by omega) (by omega)) ?_
    refine xs_top (v' := .int (xs (i + 1))) (by rw [nI_clamp (by omega)]) ?_
    refine xs_saload C0 d_Lw_law_523 rfl 0 rfl ?_
    refine xs_iload C0 d_Lw_law_524 4 rfl ?_
    refine xs_iconst (v := 2) C0 d_Lw_law_526 (by decide) ?_
    refine xs_iadd C0 d_Lw_law_527 ?_
    refine xs_top (v' := .int (nI (i + 2))) (by rw [show (2 : Int32) = nI 2 from rfl, nI_add]) ?_
    refine xs_sld C0 hX d_Lw_law_528 (vp_in_nI (n := i + 2) (by omega) (by omega)) ?_
    refine xs_top (v' := .int (xs (i + 2))) (by rw [nI_clamp (by omega)]) ?_
    refine xs_bz_eq (u := 1) (v := 0) (tgt := 536) (J := 537) C0 d_Lw_law_529 (by decide) d_Lw_law_532 (by decide) d_Lw_law_533 (by decide) d_Lw_law_536 (by decide) rfl ?_
    refine xs_aload_n C0 d_Lw_law_537 rfl 3 rfl ?_
    refine xs_cS1 (ω' := (wB B S T F H tt ++ (wMB B rl Z cl hc 0 tt kp pa tr co ++ [.inl (1, 1, .inr (.inl o))]))) (av := [.ref 0, .int (xs (i + 1)), .int (if ¬ (xs (i + 2)) = 0 then 1 else 0), .ref 64]) (st := []) (kc' := (kc + 1)) (ks' := (ks + 6)) (v := .int 1) C0 d_Lw_law_538 l_Lw_91 (l_turnT (m_turnT h.1.1 hq)) rfl rfl rfl (Nat.le_of_ble_eq_true rfl) (Nat.le_of_ble_eq_true rfl) (Nat.le_refl _) (Nat.le_refl _) hk1 hk2 ?_
    refine xs_istore (lv' := [(5, .int 1), (0, .retAddr b), (1, .ref 0), (2, .ref 36), (3, .ref 64), (4, .int (nI i))]) C0 d_Lw_law_541 (by decide) rfl ?_
    refine xs_aload_n C0 d_Lw_law_543 rfl 3 rfl ?_
    refine xs_saload C0 d_Lw_law_544 rfl 1 rfl ?_
    refine xs_iload C0 d_Lw_law_545 5 rfl ?_
    refine xs_iconst (v := 1) C0 d_Lw_law_547 (by decide) ?_
    refine xs_iadd C0 d_Lw_law_548 ?_
    refine xs_top (v' := .int (nI (i + 1))) (by rw [show (1 : Int32) = nI 1 from rfl, nI_add]) ?_
    refine xs_sld C0 hX d_Lw_law_549 (vp_in_nI (n := i + 1) (by omega) (by omega)) ?_
    refine xs_top (v' := .int (xs (i + 1))) (by rw [nI_clamp (by omega)]) ?_
    refine xs_saload C0 d_Lw_law_550 rfl 1 rfl ?_
    refine xs_iload C0 d_Lw_law_551 5 rfl ?_
    refine xs_pc (pc' := 553) rfl ?_
    refine xs_iconst (v := 2) C0 d_Lw_law_553 (by decide) ?_
    refine xs_iadd C0 d_Lw_law_554 ?_
    refine xs_top (v' := .int (nI (i + 2))) (by rw [show (2 : Int32) = nI 2 from rfl, nI_add]) ?_
    refine xs_sld C0 hX d_Lw_law_555 (vp_in_nI (n := i + 2) (by omega) (by omega)) ?_
    refine xs_top (v' := .int (xs (i + 2))) (by rw [nI_clamp (by omega)]) ?_
    refine xs_bz_eq (u := 1) (v := 0) (tgt := 563) (J := 564) C0 d_Lw_law_556 (by decide) d_Lw_law_559 (by decide) d_Lw_law_560 (by decide) d_Lw_law_563 (by decide) rfl ?_
    refine xs_cV1 (ω' := (wB B S T F H tt ++ (wMB B rl Z cl hc 0 tt kp pa tr 1 ++ [.inl (1, 1, .inr (.inl o))]))) (As := [.int (xs (i + 1)), .int (if ¬ (xs (i + 2)) = 0 then 1 else 0)]) (st := []) (kc' := (kc + 1)) (ks' := (ks + 6)) (v := .int 0) C0 d_Lw_law_564 l_Lw_94 rfl rfl (d_turnT h.1 hq) rfl rfl rfl (Nat.le_of_ble_eq_true rfl) (Nat.le_of_ble_eq_true rfl) (Nat.le_refl _) (Nat.le_refl _) hk1 hk2 ?_
    refine xs_istore (lv' := [(6, .int 0), (5, .int 1), (0, .retAddr b), (1, .ref 0), (2, .ref 36), (3, .ref 64), (4, .int (nI i))]) C0 d_Lw_law_567 (by decide) rfl ?_
    refine xs_aload_n C0 d_Lw_law_569 rfl 4 rfl ?_
    refine xs_cV1 (ω' := (wB B S T F H tt ++ (wMB B rl Z cl hc 0 tt kp pa tr 1 ++ [.inl (1, 1, .inr (.inl o))]))) (As := []) (st := []) (kc' := (kc + 1)) (ks' := (ks + 6)) (v := .int 1) C0 d_Lw_law_570 l_Lw_74 rfl rfl d_thrown rfl rfl rfl (Nat.le_of_ble_eq_true rfl) (Nat.le_of_ble_eq_true rfl) (Nat.le_refl _) (Nat.le_refl _) hk1 hk2 ?_
    refine xs_iload C0 d_Lw_law_573 1 rfl ?_
    refine xs_icmp_eq (tgt := 580) C0 d_Lw_law_575 (by decide) (fun _ => ?_) (fun c9 => absurd rfl c9)
    refine xs_iload C0 d_Lw_law_580 1 rfl ?_
    refine xs_if_ne (tgt := 604) C0 d_Lw_law_582 (by decide) (fun _ => ?_) (fun c9 => absurd c9 (by decide))
    refine xs_goto (tgt := 1219) C0 d_Lw_law_604 (by decide) ?_
    refine xs_lv (lv' := [(0, .retAddr b), (1, .ref 0), (2, .ref 36), (3, .ref 64), (4, .int (nI i))]) [2, 3, 4, 5, 6] rfl ?_
    exact k _ _ _ _ _ _ _ _ _ _ _ _ _ _ _ h
set_option maxHeartbeats 4000000 in
set_option maxRecDepth 100000 in
theorem lc_dial {E : xm_X} {Q : State → Prop} {b L i kc ks : Nat} {xs : Nat → Int32} (C0 : xm_C E R_Lw b_Lw_law 7 (some .boolean) [] "law" room_1) (hX : xl_X E b L xs) (hL : L ≤ 2560) (hi4 : i + 4 < L) (hk1 : kc + 1 ≤ 601024) (hk2 : ks + 6 ≤ 7293034) {B : wb} {S T : wt_S} {F : wt_F} {H : wt_H} {tt : Int32} {rl : Nat → Int32} {Z : mt_S} {cl : Nat → Int32} {hc : mt_H} {kp : mt_K} {pa : Nat → Int32} {tr : mt_T} {co : Int32} {o : Nat → Int64} (h : pI B rl S F Z cl) (k : ∀ (B : wb) (S T : wt_S) (F : wt_F) (H : wt_H) (tt : Int32) (rl : Nat → Int32) (Z : mt_S) (cl : Nat → Int32) (hc : mt_H) (kp : mt_K) (pa : Nat → Int32) (tr : mt_T) (co : Int32) (o : Nat → Int64), pI B rl S F Z cl → xm_W E 7 Q (kc + 1) (ks + 6) (wB B S T F H tt ++ (wMB B rl Z cl hc 0 tt kp pa tr co ++ [.inl (1, 1, .inr (.inl o))])) 1219 [(0, .retAddr b), (1, .ref 0), (2, .ref 36), (3, .ref 64), (4, .int (nI i))] []) : xm_W E 7 Q kc ks (wB B S T F H tt ++ (wMB B rl Z cl hc 0 tt kp pa tr co ++ [.inl (1, 1, .inr (.inl o))])) 607 [(0, .retAddr b), (1, .ref 0), (2, .ref 36), (3, .ref 64), (4, .int (nI i))] [] := by
  have h16 : B.1.2.2 ≤ 16 := h.1.1.1.1
  by_cases hq : ∃ fr m, (xs (i + 1)) = nI fr ∧ (xs (i + 2)) = nI m ∧ fr + m ≤ B.2.2.1.2.2
  · obtain ⟨fr, m, e1, e2, hfm⟩ := hq
    have hq1 := (p_dialc h.1.1.2.2.1.1).mpr ⟨fr, m, e1, e2, hfm⟩
    have hq2 := (p_dialc2 h.1.1.2.2.1.1).mpr ⟨fr, m, e1, e2, hfm⟩
    have hfm2 : fr + m ≤ 12 := Nat.le_trans hfm h.1.1.2.2.1.1
    have hd9 := p_dial (bits := (xs (i + 3))) (fr := fr) h.2.2.2.2.1 h.2.2.2.2.2 m hfm2
    obtain ⟨⟨c9, S9, F9⟩, H9⟩ : ∃ q, g_laf B (g_dial S (nI fr) (xs (i + 3)) m) F = q := ⟨_, rfl⟩
    obtain ⟨⟨Z9, hc9⟩, G9⟩ : ∃ q, m_laf B rl (q_dial cl fr (xs (i + 3)) m) Z hc = q := ⟨_, rfl⟩
    have hp := pI_laf hc (show pI B rl (g_dial S (nI fr) (xs (i + 3)) m) F Z (q_dial cl fr (xs (i + 3)) m) from ⟨h.1, h.2.1, h.2.2.1, h.2.2.2.1, hd9, c01_dial h.2.2.2.2.2 _ _ _⟩)
    rw [H9, G9] at hp
    rw [e1, e2] at hq1 hq2
    refine xs_aload_n C0 d_Lw_law_607 rfl 1 rfl ?_
    refine xs_saload C0 d_Lw_law_608 rfl 0 rfl ?_
    refine xs_iload C0 d_Lw_law_609 4 rfl ?_
    refine xs_iconst (v := 1) C0 d_Lw_law_611 (by decide) ?_
    refine xs_iadd C0 d_Lw_law_612 ?_
    refine xs_top (v' := .int (nI (i + 1))) (by rw [show (1 : Int32) = nI 1 from rfl, nI_add]) ?_
    refine xs_sld C0 hX d_Lw_law_613 (vp_in_nI (n := i + 1) (by omega) (by omega)) ?_
    refine xs_top (v' := .int (xs (i + 1))) (by rw [nI_clamp (by omega)]) ?_
    refine xs_saload C0 d_Lw_law_614 rfl 0 rfl ?_
    refine xs_iload C0 d_Lw_law_615 4 rfl ?_
    refine xs_iconst (v := 2) C0 d_Lw_law_617 (by decide) ?_
    refine xs_iadd C0 d_Lw_law_618 ?_
    refine xs_top (v' := .int (nI (i + 2))) (by rw [show (2 : Int32) = nI 2 from rfl, nI_add]) ?_
    refine xs_sld C0 hX d_Lw_law_619 (vp_in_nI (n := i + 2) (by omega) (by omega)) ?_
    refine xs_top (v' := .int (xs (i + 2))) (by rw [nI_clamp (by omega)]) ?_
    refine xs_saload C0 d_Lw_law_620 rfl 0 rfl ?_
    refine xs_pc (pc' := 621) rfl ?_
    refine xs_iload C0 d_Lw_law_621 4 rfl ?_
    refine xs_iconst (v := 3) C0 d_Lw_law_623 (by decide) ?_
    refine xs_iadd C0 d_Lw_law_624 ?_
    refine xs_top (v' := .int (nI (i + 3))) (by rw [show (3 : Int32) = nI 3 from rfl, nI_add]) ?_
    refine xs_sld C0 hX d_Lw_law_625 (vp_in_nI (n := i + 3) (by omega) (by omega)) ?_
    refine xs_top (v' := .int (xs (i + 3))) (by rw [nI_clamp (by omega)]) ?_
    refine xs_cS1 (ω' := (wB B S9 T F9 H tt ++ (wMB B rl Z cl hc 0 tt kp pa tr co ++ [.inl (1, 1, .inr (.inl o))]))) (av := [.ref 0, .int (xs (i + 1)), .int (xs (i + 2)), .int (xs (i + 3))]) (st := []) (kc' := kc) (ks' := ks) (v := .int 0) C0 d_Lw_law_626 l_Lw_95 (by rw [e1, e2]; exact l_dial (m_dial h.1.1 (by omega) hq1.1 hq1.2 H9)) rfl rfl rfl (Nat.le_of_ble_eq_true rfl) (Nat.le_of_ble_eq_true rfl) (Nat.le_refl _) (Nat.le_refl _) (Nat.le_of_succ_le hk1) (Nat.le_trans (Nat.le_add_right ks 6) hk2) ?_
    refine xs_istore (lv' := [(5, .int 0), (0, .retAddr b), (1, .ref 0), (2, .ref 36), (3, .ref 64), (4, .int (nI i))]) C0 d_Lw_law_629 (by decide) rfl ?_
    refine xs_aload_n C0 d_Lw_law_631 rfl 3 rfl ?_
    refine xs_saload C0 d_Lw_law_632 rfl 1 rfl ?_
    refine xs_iload C0 d_Lw_law_633 5 rfl ?_
    refine xs_iconst (v := 1) C0 d_Lw_law_635 (by decide) ?_
    refine xs_iadd C0 d_Lw_law_636 ?_
    refine xs_top (v' := .int (nI (i + 1))) (by rw [show (1 : Int32) = nI 1 from rfl, nI_add]) ?_
    refine xs_sld C0 hX d_Lw_law_637 (vp_in_nI (n := i + 1) (by omega) (by omega)) ?_
    refine xs_top (v' := .int (xs (i + 1))) (by rw [nI_clamp (by omega)]) ?_
    refine xs_saload C0 d_Lw_law_638 rfl 1 rfl ?_
    refine xs_pc (pc' := 639) rfl ?_
    refine xs_iload C0 d_Lw_law_639 5 rfl ?_
    refine xs_iconst (v := 2) C0 d_Lw_law_641 (by decide) ?_
    refine xs_iadd C0 d_Lw_law_642 ?_
    refine xs_top (v' := .int (nI (i + 2))) (by rw [show (2 : Int32) = nI 2 from rfl, nI_add]) ?_
    refine xs_sld C0 hX d_Lw_law_643 (vp_in_nI (n := i + 2) (by omega) (by omega)) ?_
    refine xs_top (v' := .int (xs (i + 2))) (by rw [nI_clamp (by omega)]) ?_
    refine xs_saload C0 d_Lw_law_644 rfl 1 rfl ?_
    refine xs_iload C0 d_Lw_law_645 5 rfl ?_
    refine xs_iconst (v := 3) C0 d_Lw_law_647 (by decide) ?_
    refine xs_iadd C0 d_Lw_law_648 ?_
    refine xs_top (v' := .int (nI (i + 3))) (by rw [show (3 : Int32) = nI 3 from rfl, nI_add]) ?_
    refine xs_sld C0 hX d_Lw_law_649 (vp_in_nI (n := i + 3) (by omega) (by omega)) ?_
    refine xs_top (v' := .int (xs (i + 3))) (by rw [nI_clamp (by omega)]) ?_
    refine xs_cV0 (ω' := (wB B S9 T F9 H tt ++ (wMB B rl Z9 (q_dial cl fr (xs (i + 3)) m) hc9 0 tt kp pa tr 0 ++ [.inl (1, 1, .inr (.inl o))]))) (As := [.int (xs (i + 1)), .int (xs (i + 2)), .int (xs (i + 3))]) (st := []) (kc' := kc) (ks' := ks) C0 d_Lw_law_650 l_Lw_98 rfl rfl (by rw [e1, e2]; exact d_dial h.1 hfm2 hq2.1 hq2.2 G9) rfl rfl rfl (Nat.le_of_ble_eq_true rfl) (Nat.le_of_ble_eq_true rfl) (Nat.le_refl _) (Nat.le_refl _) (Nat.le_of_succ_le hk1) (Nat.le_trans (Nat.le_add_right ks 6) hk2) ?_
    refine xs_aload_n C0 d_Lw_law_653 rfl 3 rfl ?_
    refine xs_cV1 (ω' := (wB B S9 T F9 H tt ++ (wMB B rl Z9 (q_dial cl fr (xs (i + 3)) m) hc9 0 tt kp pa tr 0 ++ [.inl (1, 1, .inr (.inl o))]))) (As := []) (st := []) (kc' := kc) (ks' := ks) (v := .int 0) C0 d_Lw_law_654 l_Lw_74 rfl rfl d_thrown rfl rfl rfl (Nat.le_of_ble_eq_true rfl) (Nat.le_of_ble_eq_true rfl) (Nat.le_refl _) (Nat.le_refl _) (Nat.le_of_succ_le hk1) (Nat.le_trans (Nat.le_add_right ks 6) hk2) ?_
    refine xs_pc (pc' := 657) rfl ?_
    refine xs_iload C0 d_Lw_law_657 0 rfl ?_
    refine xs_icmp_eq (tgt := 664) C0 d_Lw_law_659 (by decide) (fun _ => ?_) (fun c9 => absurd rfl c9)
    refine xs_goto (tgt := 1219) C0 d_Lw_law_664 (by decide) ?_
    refine xs_lv (lv' := [(0, .retAddr b), (1, .ref 0), (2, .ref 36), (3, .ref 64), (4, .int (nI i))]) [1, 2, 3, 4, 5] rfl ?_
    refine xs_more (Nat.le_succ kc) (Nat.le_add_right ks 6) ?_
    exact k _ _ _ _ _ _ _ _ _ _ _ _ _ _ _ hp
  · refine xs_aload_n C0 d_Lw_law_607 rfl 1 rfl ?_
    refine xs_saload C0 d_Lw_law_608 rfl 0 rfl ?_
    refine xs_iload C0 d_Lw_law_609 4 rfl ?_
    refine xs_iconst (v := 1) C0 d_Lw_law_611 (by decide) ?_
    refine xs_iadd C0 d_Lw_law_612 ?_
    refine xs_top (v' := .int (nI (i + 1))) (by rw [show (1 : Int32) = nI 1 from rfl, nI_add]) ?_
    refine xs_sld C0 hX d_Lw_law_613 (vp_in_nI (n := i + 1) (by omega) (by omega)) ?_
    refine xs_top (v' := .int (xs (i + 1))) (by rw [nI_clamp (by omega)]) ?_
    refine xs_saload C0 d_Lw_law_614 rfl 0 rfl ?_
    refine xs_iload C0 d_Lw_law_615 4 rfl ?_
    refine xs_iconst (v := 2) C0 d_Lw_law_617 (by decide) ?_
    refine xs_iadd C0 d_Lw_law_618 ?_
    refine xs_top (v' := .int (nI (i + 2))) (by rw [show (2 : Int32) = nI 2 from rfl, nI_add]) ?_
    refine xs_sld C0 hX d_Lw_law_619 (vp_in_nI (n := i + 2) (by omega) (by omega)) ?_
    refine xs_top (v' := .int (xs (i + 2))) (by rw [nI_clamp (by omega)]) ?_
    refine xs_saload C0 d_Lw_law_620 rfl 0 rfl ?_
    refine xs_pc (pc' := 621) rfl ?_
    refine xs_iload C0 d_Lw_law_621 4 rfl ?_
    refine xs_iconst (v := 3) C0 d_Lw_law_623 (by decide) ?_
    refine xs_iadd C0 d_Lw_law_624 ?_
    refine xs_top (v' := .int (nI (i + 3))) (by rw [show (3 : Int32) = nI 3 from rfl, nI_add]) ?_
    refine xs_sld C0 hX d_Lw_law_625 (vp_in_nI (n := i + 3) (by omega) (by omega)) ?_
    refine xs_top (v' := .int (xs (i + 3))) (by rw [nI_clamp (by omega)]) ?_
    refine xs_cS1 (ω' := (wB B S T F H tt ++ (wMB B rl Z cl hc 0 tt kp pa tr co ++ [.inl (1, 1, .inr (.inl o))]))) (av := [.ref 0, .int (xs (i + 1)), .int (xs (i + 2)), .int (xs (i + 3))]) (st := []) (kc' := (kc + 1)) (ks' := (ks + 6)) (v := .int 1) C0 d_Lw_law_626 l_Lw_95 (l_dialT (m_dialT h.1.1 (fun q => hq ((p_dialc h.1.1.2.2.1.1).mp q)))) rfl rfl rfl (Nat.le_of_ble_eq_true rfl) (Nat.le_of_ble_eq_true rfl) (Nat.le_refl _) (Nat.le_refl _) hk1 hk2 ?_
    refine xs_istore (lv' := [(5, .int 1), (0, .retAddr b), (1, .ref 0), (2, .ref 36), (3, .ref 64), (4, .int (nI i))]) C0 d_Lw_law_629 (by decide) rfl ?_
    refine xs_aload_n C0 d_Lw_law_631 rfl 3 rfl ?_
    refine xs_saload C0 d_Lw_law_632 rfl 1 rfl ?_
    refine xs_iload C0 d_Lw_law_633 5 rfl ?_
    refine xs_iconst (v := 1) C0 d_Lw_law_635 (by decide) ?_
    refine xs_iadd C0 d_Lw_law_636 ?_
    refine xs_top (v' := .int (nI (i + 1))) (by rw [show (1 : Int32) = nI 1 from rfl, nI_add]) ?_
    refine xs_sld C0 hX d_Lw_law_637 (vp_in_nI (n := i + 1) (by omega) (by omega)) ?_
    refine xs_top (v' := .int (xs (i + 1))) (by rw [nI_clamp (by omega)]) ?_
    refine xs_saload C0 d_Lw_law_638 rfl 1 rfl ?_
    refine xs_pc (pc' := 639) rfl ?_
    refine xs_iload C0 d_Lw_law_639 5 rfl ?_
    refine xs_iconst (v := 2) C0 d_Lw_law_641 (by decide) ?_
    refine xs_iadd C0 d_Lw_law_642 ?_
    refine xs_top (v' := .int (nI (i + 2))) (by rw [show (2 : Int32) = nI 2 from rfl, nI_add]) ?_
    refine xs_sld C0 hX d_Lw_law_643 (vp_in_nI (n := i + 2) (by omega) (by omega)) ?_
    refine xs_top (v' := .int (xs (i + 2))) (by rw [nI_clamp (by omega)]) ?_
    refine xs_saload C0 d_Lw_law_644 rfl 1 rfl ?_
    refine xs_iload C0 d_Lw_law_645 5 rfl ?_
    refine xs_iconst (v := 3) C0 d_Lw_law_647 (by decide) ?_
    refine xs_iadd C0 d_Lw_law_648 ?_
    refine xs_top (v' := .int (nI (i + 3))) (by rw [show (3 : Int32) = nI 3 from rfl, nI_add]) ?_
    refine xs_sld C0 hX d_Lw_law_649 (vp_in_nI (n := i + 3) (by omega) (by omega)) ?_
    refine xs_top (v' := .int (xs (i + 3))) (by rw [nI_clamp (by omega)]) ?_
    refine xs_cV0 (ω' := (wB B S T F H tt ++ (wMB B rl Z cl hc 0 tt kp pa tr 1 ++ [.inl (1, 1, .inr (.inl o))]))) (As := [.int (xs (i + 1)), .int (xs (i + 2)), .int (xs (i + 3))]) (st := []) (kc' := (kc + 1)) (ks' := (ks + 6)) C0 d_Lw_law_650 l_Lw_98 rfl rfl (d_dialT h.1 (fun q => hq ((p_dialc2 h.1.1.2.2.1.1).mp q))) rfl rfl rfl (Nat.le_of_ble_eq_true rfl) (Nat.le_of_ble_eq_true rfl) (Nat.le_refl _) (Nat.le_refl _) hk1 hk2 ?_
    refine xs_aload_n C0 d_Lw_law_653 rfl 3 rfl ?_
    refine xs_cV1 (ω' := (wB B S T F H tt ++ (wMB B rl Z cl hc 0 tt kp pa tr 1 ++ [.inl (1, 1, .inr (.inl o))]))) (As := []) (st := []) (kc' := (kc + 1)) (ks' := (ks + 6)) (v := .int 1) C0 d_Lw_law_654 l_Lw_74 rfl rfl d_thrown rfl rfl rfl (Nat.le_of_ble_eq_true rfl) (Nat.le_of_ble_eq_true rfl) (Nat.le_refl _) (Nat.le_refl _) hk1 hk2 ?_
    refine xs_pc (pc' := 657) rfl ?_
    refine xs_iload C0 d_Lw_law_657 0 rfl ?_
    refine xs_icmp_eq (tgt := 664) C0 d_Lw_law_659 (by decide) (fun _ => ?_) (fun c9 => absurd rfl c9)
    refine xs_goto (tgt := 1219) C0 d_Lw_law_664 (by decide) ?_
    refine xs_lv (lv' := [(0, .retAddr b), (1, .ref 0), (2, .ref 36), (3, .ref 64), (4, .int (nI i))]) [1, 2, 3, 4, 5] rfl ?_
    exact k _ _ _ _ _ _ _ _ _ _ _ _ _ _ _ h
set_option maxHeartbeats 4000000 in
set_option maxRecDepth 100000 in
theorem lc_tick {E : xm_X} {Q : State → Prop} {b L i kc ks : Nat} {xs : Nat → Int32} (C0 : xm_C E R_Lw b_Lw_law 7 (some .boolean) [] "law" room_1) (hX : xl_X E b L xs) (hL : L ≤ 2560) (hi4 : i + 4 < L) (hk1 : kc + 1 ≤ 601024) (hk2 : ks + 6 ≤ 7293034) {B : wb} {S T : wt_S} {F : wt_F} {H : wt_H} {tt : Int32} {rl : Nat → Int32} {Z : mt_S} {cl : Nat → Int32} {hc : mt_H} {kp : mt_K} {pa : Nat → Int32} {tr : mt_T} {co : Int32} {o : Nat → Int64} (h : pI B rl S F Z cl) (k : ∀ (B : wb) (S T : wt_S) (F : wt_F) (H : wt_H) (tt : Int32) (rl : Nat → Int32) (Z : mt_S) (cl : Nat → Int32) (hc : mt_H) (kp : mt_K) (pa : Nat → Int32) (tr : mt_T) (co : Int32) (o : Nat → Int64), pI B rl S F Z cl → xm_W E 7 Q (kc + 1) (ks + 6) (wB B S T F H tt ++ (wMB B rl Z cl hc 0 tt kp pa tr co ++ [.inl (1, 1, .inr (.inl o))])) 1219 [(0, .retAddr b), (1, .ref 0), (2, .ref 36), (3, .ref 64), (4, .int (nI i))] []) : xm_W E 7 Q kc ks (wB B S T F H tt ++ (wMB B rl Z cl hc 0 tt kp pa tr co ++ [.inl (1, 1, .inr (.inl o))])) 667 [(0, .retAddr b), (1, .ref 0), (2, .ref 36), (3, .ref 64), (4, .int (nI i))] [] := by
  have h16 : B.1.2.2 ≤ 16 := h.1.1.1.1
  by_cases hq : gw (xs (i + 1)) 1 500
  · obtain ⟨n, hn, en⟩ := gw_one 500 rfl (by decide) hq
    have hq1 := hq
    rw [en] at hq1
    obtain ⟨⟨v9, S9, F9⟩, H9⟩ : ∃ q, g_tick B S F n = q := ⟨_, rfl⟩
    obtain ⟨⟨b9, Z9, hc9⟩, G9⟩ : ∃ q, q_tick B rl cl 0 Z hc n = q := ⟨_, rfl⟩
    have hp := p_tick (hc := hc) h.1 h.2.1 h.2.2.1 h.2.2.2.1 h.2.2.2.2.1 n
    rw [H9, G9] at hp
    refine xs_aload_n C0 d_Lw_law_667 rfl 1 rfl ?_
    refine xs_saload C0 d_Lw_law_668 rfl 0 rfl ?_
    refine xs_iload C0 d_Lw_law_669 4 rfl ?_
    refine xs_iconst (v := 1) C0 d_Lw_law_671 (by decide) ?_
    refine xs_iadd C0 d_Lw_law_672 ?_
    refine xs_top (v' := .int (nI (i + 1))) (by rw [show (1 : Int32) = nI 1 from rfl, nI_add]) ?_
    refine xs_sld C0 hX d_Lw_law_673 (vp_in_nI (n := i + 1) (by omega) (by omega)) ?_
    refine xs_top (v' := .int (xs (i + 1))) (by rw [nI_clamp (by omega)]) ?_
    refine xs_aload_n C0 d_Lw_law_674 rfl 3 rfl ?_
    refine xs_cS1 (ω' := (wB B S9 T F9 H (tt + nI n) ++ (wMB B rl Z cl hc 0 tt kp pa tr co ++ [.inl (1, 1, .inr (.inl (vp_updL o 0 v9.toInt64)))]))) (av := [.ref 0, .int (xs (i + 1)), .ref 64]) (st := []) (kc' := kc) (ks' := ks) (v := .int 0) C0 d_Lw_law_675 l_Lw_99 (by rw [en]; exact l_tick (m_tick h.1.1 hn hq1 H9)) rfl rfl rfl (Nat.le_of_ble_eq_true rfl) (Nat.le_of_ble_eq_true rfl) (Nat.le_refl _) (Nat.le_refl _) (Nat.le_of_succ_le hk1) (Nat.le_trans (Nat.le_add_right ks 6) hk2) ?_
    refine xs_istore (lv' := [(5, .int 0), (0, .retAddr b), (1, .ref 0), (2, .ref 36), (3, .ref 64), (4, .int (nI i))]) C0 d_Lw_law_678 (by decide) rfl ?_
    refine xs_aload_n C0 d_Lw_law_680 rfl 3 rfl ?_
    refine xs_saload C0 d_Lw_law_681 rfl 1 rfl ?_
    refine xs_iload C0 d_Lw_law_682 5 rfl ?_
    refine xs_pc (pc' := 684) rfl ?_
    refine xs_iconst (v := 1) C0 d_Lw_law_684 (by decide) ?_
    refine xs_iadd C0 d_Lw_law_685 ?_
    refine xs_top (v' := .int (nI (i + 1))) (by rw [show (1 : Int32) = nI 1 from rfl, nI_add]) ?_
    refine xs_sld C0 hX d_Lw_law_686 (vp_in_nI (n := i + 1) (by omega) (by omega)) ?_
    refine xs_top (v' := .int (xs (i + 1))) (by rw [nI_clamp (by omega)]) ?_
    refine xs_cV1 (ω' := (wB B S9 T F9 H (tt + nI n) ++ (wMB B rl Z9 cl hc9 0 (tt + nI n) kp pa tr 0 ++ [.inl (1, 1, .inr (.inl (vp_updL o 0 v9.toInt64)))]))) (As := [.int (xs (i + 1))]) (st := []) (kc' := kc) (ks' := ks) (v := .int b9) C0 d_Lw_law_687 l_Lw_102 rfl rfl (by rw [en]; exact d_tick h.1 hn hq1 G9) rfl rfl rfl (Nat.le_of_ble_eq_true rfl) (Nat.le_of_ble_eq_true rfl) (Nat.le_refl _) (Nat.le_refl _) (Nat.le_of_succ_le hk1) (Nat.le_trans (Nat.le_add_right ks 6) hk2) ?_
    refine xs_istore (lv' := [(6, .int b9), (5, .int 0), (0, .retAddr b), (1, .ref 0), (2, .ref 36), (3, .ref 64), (4, .int (nI i))]) C0 d_Lw_law_690 (by decide) rfl ?_
    refine xs_aload_n C0 d_Lw_law_692 rfl 4 rfl ?_
    refine xs_cV1 (ω' := (wB B S9 T F9 H (tt + nI n) ++ (wMB B rl Z9 cl hc9 0 (tt + nI n) kp pa tr 0 ++ [.inl (1, 1, .inr (.inl (vp_updL o 0 v9.toInt64)))]))) (As := []) (st := []) (kc' := kc) (ks' := ks) (v := .int 0) C0 d_Lw_law_693 l_Lw_74 rfl rfl d_thrown rfl rfl rfl (Nat.le_of_ble_eq_true rfl) (Nat.le_of_ble_eq_true rfl) (Nat.le_refl _) (Nat.le_refl _) (Nat.le_of_succ_le hk1) (Nat.le_trans (Nat.le_add_right ks 6) hk2) ?_
    refine xs_iload C0 d_Lw_law_696 1 rfl ?_
    refine xs_icmp_eq (tgt := 703) C0 d_Lw_law_698 (by decide) (fun _ => ?_) (fun c9 => absurd rfl c9)
    refine xs_iload C0 d_Lw_law_703 1 rfl ?_
    refine xs_if_ne (tgt := 720) C0 d_Lw_law_705 (by decide) (fun c9 => absurd rfl c9) (fun _ => ?_)
    refine xs_aload_n C0 d_Lw_law_708 rfl 5 rfl ?_
    refine xs_iconst (v := 0) C0 d_Lw_law_709 (by decide) ?_
    refine xs_top (v' := .int (nI 0)) rfl ?_
    refine xs_lald C0 d_Lw_law_710 rfl (vp_in_nI (n := 0) (by decide) (by decide)) ?_
    refine xs_top (v' := .long ((vp_updL o 0 v9.toInt64) 0)) (by rw [nI_clamp (by omega)]) ?_
    refine xs_iload C0 d_Lw_law_711 0 rfl ?_
    refine xs_i2l C0 d_Lw_law_713 ?_
    refine xs_lcmp C0 d_Lw_law_714 ?_
    refine xs_if_eq (tgt := 720) C0 d_Lw_law_715 (by decide) (fun _ => ?_) (fun c9 => absurd (lg_cmp0.mpr (congrArg Int32.toInt64 hp.1)) c9)
    refine xs_goto (tgt := 1219) C0 d_Lw_law_720 (by decide) ?_
    refine xs_lv (lv' := [(0, .retAddr b), (1, .ref 0), (2, .ref 36), (3, .ref 64), (4, .int (nI i))]) [2, 3, 4, 5, 6] rfl ?_
    refine xs_more (Nat.le_succ kc) (Nat.le_add_right ks 6) ?_
    exact k _ _ _ _ _ _ _ _ _ _ _ _ _ _ _ (⟨h.1, h.2.1, h.2.2.1, hp.2.2, hp.2.1, h.2.2.2.2.2⟩)
  · refine xs_aload_n C0 d_Lw_law_667 rfl 1 rfl ?_
    refine xs_saload C0 d_Lw_law_668 rfl 0 rfl ?_
    refine xs_iload C0 d_Lw_law_669 4 rfl ?_
    refine xs_iconst (v := 1) C0 d_Lw_law_671 (by decide) ?_
    refine xs_iadd C0 d_Lw_law_672 ?_
    refine xs_top (v' := .int (nI (i + 1))) (by rw [show (1 : Int32) = nI 1 from rfl, nI_add]) ?_
    refine xs_sld C0 hX d_Lw_law_673 (vp_in_nI (n := i + 1) (by omega) (by omega)) ?_
    refine xs_top (v' := .int (xs (i + 1))) (by rw [nI_clamp (by omega)]) ?_
    refine xs_aload_n C0 d_Lw_law_674 rfl 3 rfl ?_
    refine xs_cS1 (ω' := (wB B S T F H tt ++ (wMB B rl Z cl hc 0 tt kp pa tr co ++ [.inl (1, 1, .inr (.inl o))]))) (av := [.ref 0, .int (xs (i + 1)), .ref 64]) (st := []) (kc' := (kc + 1)) (ks' := (ks + 6)) (v := .int 1) C0 d_Lw_law_675 l_Lw_99 (l_tickT (m_tickT h.1.1 hq)) rfl rfl rfl (Nat.le_of_ble_eq_true rfl) (Nat.le_of_ble_eq_true rfl) (Nat.le_refl _) (Nat.le_refl _) hk1 hk2 ?_
    refine xs_istore (lv' := [(5, .int 1), (0, .retAddr b), (1, .ref 0), (2, .ref 36), (3, .ref 64), (4, .int (nI i))]) C0 d_Lw_law_678 (by decide) rfl ?_
    refine xs_aload_n C0 d_Lw_law_680 rfl 3 rfl ?_
    refine xs_saload C0 d_Lw_law_681 rfl 1 rfl ?_
    refine xs_iload C0 d_Lw_law_682 5 rfl ?_
    refine xs_pc (pc' := 684) rfl ?_
    refine xs_iconst (v := 1) C0 d_Lw_law_684 (by decide) ?_
    refine xs_iadd C0 d_Lw_law_685 ?_
    refine xs_top (v' := .int (nI (i + 1))) (by rw [show (1 : Int32) = nI 1 from rfl, nI_add]) ?_
    refine xs_sld C0 hX d_Lw_law_686 (vp_in_nI (n := i + 1) (by omega) (by omega)) ?_
    refine xs_top (v' := .int (xs (i + 1))) (by rw [nI_clamp (by omega)]) ?_
    refine xs_cV1 (ω' := (wB B S T F H tt ++ (wMB B rl Z cl hc 0 tt kp pa tr 1 ++ [.inl (1, 1, .inr (.inl o))]))) (As := [.int (xs (i + 1))]) (st := []) (kc' := (kc + 1)) (ks' := (ks + 6)) (v := .int 0) C0 d_Lw_law_687 l_Lw_102 rfl rfl (d_tickT h.1 hq) rfl rfl rfl (Nat.le_of_ble_eq_true rfl) (Nat.le_of_ble_eq_true rfl) (Nat.le_refl _) (Nat.le_refl _) hk1 hk2 ?_
    refine xs_istore (lv' := [(6, .int 0), (5, .int 1), (0, .retAddr b), (1, .ref 0), (2, .ref 36), (3, .ref 64), (4, .int (nI i))]) C0 d_Lw_law_690 (by decide) rfl ?_
    refine xs_aload_n C0 d_Lw_law_692 rfl 4 rfl ?_
    refine xs_cV1 (ω' := (wB B S T F H tt ++ (wMB B rl Z cl hc 0 tt kp pa tr 1 ++ [.inl (1, 1, .inr (.inl o))]))) (As := []) (st := []) (kc' := (kc + 1)) (ks' := (ks + 6)) (v := .int 1) C0 d_Lw_law_693 l_Lw_74 rfl rfl d_thrown rfl rfl rfl (Nat.le_of_ble_eq_true rfl) (Nat.le_of_ble_eq_true rfl) (Nat.le_refl _) (Nat.le_refl _) hk1 hk2 ?_
    refine xs_iload C0 d_Lw_law_696 1 rfl ?_
    refine xs_icmp_eq (tgt := 703) C0 d_Lw_law_698 (by decide) (fun _ => ?_) (fun c9 => absurd rfl c9)
    refine xs_iload C0 d_Lw_law_703 1 rfl ?_
    refine xs_if_ne (tgt := 720) C0 d_Lw_law_705 (by decide) (fun _ => ?_) (fun c9 => absurd c9 (by decide))
    refine xs_goto (tgt := 1219) C0 d_Lw_law_720 (by decide) ?_
    refine xs_lv (lv' := [(0, .retAddr b), (1, .ref 0), (2, .ref 36), (3, .ref 64), (4, .int (nI i))]) [2, 3, 4, 5, 6] rfl ?_
    exact k _ _ _ _ _ _ _ _ _ _ _ _ _ _ _ h
set_option maxHeartbeats 4000000 in
set_option maxRecDepth 100000 in
theorem lc_settle {E : xm_X} {Q : State → Prop} {b L i kc ks : Nat} {xs : Nat → Int32} (C0 : xm_C E R_Lw b_Lw_law 7 (some .boolean) [] "law" room_1) (hX : xl_X E b L xs) (hL : L ≤ 2560) (hi4 : i + 4 < L) (hk1 : kc + 1 ≤ 601024) (hk2 : ks + 6 ≤ 7293034) {B : wb} {S T : wt_S} {F : wt_F} {H : wt_H} {tt : Int32} {rl : Nat → Int32} {Z : mt_S} {cl : Nat → Int32} {hc : mt_H} {kp : mt_K} {pa : Nat → Int32} {tr : mt_T} {co : Int32} {o : Nat → Int64} (h : pI B rl S F Z cl) (k : ∀ (B : wb) (S T : wt_S) (F : wt_F) (H : wt_H) (tt : Int32) (rl : Nat → Int32) (Z : mt_S) (cl : Nat → Int32) (hc : mt_H) (kp : mt_K) (pa : Nat → Int32) (tr : mt_T) (co : Int32) (o : Nat → Int64), pI B rl S F Z cl → xm_W E 7 Q (kc + 1) (ks + 6) (wB B S T F H tt ++ (wMB B rl Z cl hc 0 tt kp pa tr co ++ [.inl (1, 1, .inr (.inl o))])) 1219 [(0, .retAddr b), (1, .ref 0), (2, .ref 36), (3, .ref 64), (4, .int (nI i))] []) : xm_W E 7 Q kc ks (wB B S T F H tt ++ (wMB B rl Z cl hc 0 tt kp pa tr co ++ [.inl (1, 1, .inr (.inl o))])) 723 [(0, .retAddr b), (1, .ref 0), (2, .ref 36), (3, .ref 64), (4, .int (nI i))] [] := by
  have h16 : B.1.2.2 ≤ 16 := h.1.1.1.1
  by_cases hq : gw (xs (i + 1)) 0 500
  · obtain ⟨m, hm, em⟩ := gw_lit 500 rfl (by decide) hq
    have hq1 := hq
    rw [em] at hq1
    have hz : z01 Z := by have q := h.2.2.2.2.1.2.2.2.2.1; unfold s01 at q; rw [h.2.2.2.2.1.2.2.2.1] at q; exact q
    obtain ⟨⟨v9, T9, F9⟩, H9⟩ : ∃ q, g_run B 0 (m + 1) 0 (f_bec S T) F = q := ⟨_, rfl⟩
    obtain ⟨⟨b9, Z9, hc9⟩, G9⟩ : ∃ q, m_run B rl cl 0 m 0 (m_t1 B rl cl 0 Z hc) = q := ⟨_, rfl⟩
    have hp := p_run 0 h.1 h.2.1 h.2.2.1 m 0 _ _ _ hc h.2.2.2.1 (pR_bec T h.2.2.2.2.1)
    rw [H9, G9] at hp
    by_cases hr : v9 = -1
    · have hr2 : b9 = -1 := hp.1.symm.trans hr
      refine xs_aload_n C0 d_Lw_law_723 rfl 1 rfl ?_
      refine xs_saload C0 d_Lw_law_724 rfl 0 rfl ?_
      refine xs_iload C0 d_Lw_law_725 4 rfl ?_
      refine xs_iconst (v := 1) C0 d_Lw_law_727 (by decide) ?_
      refine xs_iadd C0 d_Lw_law_728 ?_
      refine xs_top (v' := .int (nI (i + 1))) (by rw [show (1 : Int32) = nI 1 from rfl, nI_add]) ?_
      refine xs_sld C0 hX d_Lw_law_729 (vp_in_nI (n := i + 1) (by omega) (by omega)) ?_
      refine xs_top (v' := .int (xs (i + 1))) (by rw [nI_clamp (by omega)]) ?_
      refine xs_aload_n C0 d_Lw_law_730 rfl 3 rfl ?_
      refine xs_cS1 (ω' := (wB B S T9 F9 H tt ++ (wMB B rl Z cl hc 0 tt kp pa tr co ++ [.inl (1, 1, .inr (.inl o))]))) (av := [.ref 0, .int (xs (i + 1)), .ref 64]) (st := []) (kc' := (kc + 1)) (ks' := (ks + 6)) (v := .int 2) C0 d_Lw_law_731 l_Lw_103 (by rw [em]; exact l_settleX (m_settleU h.1.1 hm h.2.2.2.2.1.2.2.2.2.1 hq1 H9 hr)) rfl rfl rfl (Nat.le_of_ble_eq_true rfl) (Nat.le_of_ble_eq_true rfl) (Nat.le_refl _) (Nat.le_refl _) hk1 hk2 ?_
      refine xs_istore (lv' := [(5, .int 2), (0, .retAddr b), (1, .ref 0), (2, .ref 36), (3, .ref 64), (4, .int (nI i))]) C0 d_Lw_law_734 (by decide) rfl ?_
      refine xs_aload_n C0 d_Lw_law_736 rfl 3 rfl ?_
      refine xs_saload C0 d_Lw_law_737 rfl 1 rfl ?_
      refine xs_iload C0 d_Lw_law_738 5 rfl ?_
      refine xs_pc (pc' := 740) rfl ?_
      refine xs_iconst (v := 1) C0 d_Lw_law_740 (by decide) ?_
      refine xs_iadd C0 d_Lw_law_741 ?_
      refine xs_top (v' := .int (nI (i + 1))) (by rw [show (1 : Int32) = nI 1 from rfl, nI_add]) ?_
      refine xs_sld C0 hX d_Lw_law_742 (vp_in_nI (n := i + 1) (by omega) (by omega)) ?_
      refine xs_top (v' := .int (xs (i + 1))) (by rw [nI_clamp (by omega)]) ?_
      refine xs_cV1 (ω' := (wB B S T9 F9 H tt ++ (wMB B rl (m_back (m_keep Z tt kp) Z9) cl hc9 0 tt (m_keep Z tt kp) pa tr 2 ++ [.inl (1, 1, .inr (.inl o))]))) (As := [.int (xs (i + 1))]) (st := []) (kc' := (kc + 1)) (ks' := (ks + 6)) (v := .int 0) C0 d_Lw_law_743 l_Lw_105 rfl rfl (by rw [em]; exact d_settleU h.1 hm hz hq1 G9 hr2) rfl rfl rfl (Nat.le_of_ble_eq_true rfl) (Nat.le_of_ble_eq_true rfl) (Nat.le_refl _) (Nat.le_refl _) hk1 hk2 ?_
      refine xs_istore (lv' := [(6, .int 0), (5, .int 2), (0, .retAddr b), (1, .ref 0), (2, .ref 36), (3, .ref 64), (4, .int (nI i))]) C0 d_Lw_law_746 (by decide) rfl ?_
      refine xs_aload_n C0 d_Lw_law_748 rfl 4 rfl ?_
      refine xs_cV1 (ω' := (wB B S T9 F9 H tt ++ (wMB B rl (m_back (m_keep Z tt kp) Z9) cl hc9 0 tt (m_keep Z tt kp) pa tr 2 ++ [.inl (1, 1, .inr (.inl o))]))) (As := []) (st := []) (kc' := (kc + 1)) (ks' := (ks + 6)) (v := .int 2) C0 d_Lw_law_749 l_Lw_74 rfl rfl d_thrown rfl rfl rfl (Nat.le_of_ble_eq_true rfl) (Nat.le_of_ble_eq_true rfl) (Nat.le_refl _) (Nat.le_refl _) hk1 hk2 ?_
      refine xs_iload C0 d_Lw_law_752 1 rfl ?_
      refine xs_icmp_eq (tgt := 759) C0 d_Lw_law_754 (by decide) (fun _ => ?_) (fun c9 => absurd rfl c9)
      refine xs_iload C0 d_Lw_law_759 1 rfl ?_
      refine xs_if_ne (tgt := 776) C0 d_Lw_law_761 (by decide) (fun _ => ?_) (fun c9 => absurd c9 (by decide))
      refine xs_goto (tgt := 1219) C0 d_Lw_law_776 (by decide) ?_
      refine xs_lv (lv' := [(0, .retAddr b), (1, .ref 0), (2, .ref 36), (3, .ref 64), (4, .int (nI i))]) [2, 3, 4, 5, 6] rfl ?_
      exact k _ _ _ _ _ _ _ _ _ _ _ _ _ _ _ (⟨h.1, h.2.1, h.2.2.1, hp.2.2, pR_back tt kp Z9 h.2.2.2.2.1, h.2.2.2.2.2⟩)
    · have e9 : v9 = b9 := hp.1
      subst e9
      have hr2 := hr
      refine xs_aload_n C0 d_Lw_law_723 rfl 1 rfl ?_
      refine xs_saload C0 d_Lw_law_724 rfl 0 rfl ?_
      refine xs_iload C0 d_Lw_law_725 4 rfl ?_
      refine xs_iconst (v := 1) C0 d_Lw_law_727 (by decide) ?_
      refine xs_iadd C0 d_Lw_law_728 ?_
      refine xs_top (v' := .int (nI (i + 1))) (by rw [show (1 : Int32) = nI 1 from rfl, nI_add]) ?_
      refine xs_sld C0 hX d_Lw_law_729 (vp_in_nI (n := i + 1) (by omega) (by omega)) ?_
      refine xs_top (v' := .int (xs (i + 1))) (by rw [nI_clamp (by omega)]) ?_
      refine xs_aload_n C0 d_Lw_law_730 rfl 3 rfl ?_
      refine xs_cS1 (ω' := (wB B (f_bec T9 S) T9 F9 H (tt + v9) ++ (wMB B rl Z cl hc 0 tt kp pa tr co ++ [.inl (1, 1, .inr (.inl (vp_updL o 0 v9.toInt64)))]))) (av := [.ref 0, .int (xs (i + 1)), .ref 64]) (st := []) (kc' := kc) (ks' := ks) (v := .int 0) C0 d_Lw_law_731 l_Lw_103 (by rw [em]; exact l_settle (m_settle h.1.1 hm h.2.2.2.2.1.2.2.2.2.1 hq1 H9 hr rfl)) rfl rfl rfl (Nat.le_of_ble_eq_true rfl) (Nat.le_of_ble_eq_true rfl) (Nat.le_refl _) (Nat.le_refl _) (Nat.le_of_succ_le hk1) (Nat.le_trans (Nat.le_add_right ks 6) hk2) ?_
      refine xs_istore (lv' := [(5, .int 0), (0, .retAddr b), (1, .ref 0), (2, .ref 36), (3, .ref 64), (4, .int (nI i))]) C0 d_Lw_law_734 (by decide) rfl ?_
      refine xs_aload_n C0 d_Lw_law_736 rfl 3 rfl ?_
      refine xs_saload C0 d_Lw_law_737 rfl 1 rfl ?_
      refine xs_iload C0 d_Lw_law_738 5 rfl ?_
      refine xs_pc (pc' := 740) rfl ?_
      refine xs_iconst (v := 1) C0 d_Lw_law_740 (by decide) ?_
      refine xs_iadd C0 d_Lw_law_741 ?_
      refine xs_top (v' := .int (nI (i + 1))) (by rw [show (1 : Int32) = nI 1 from rfl, nI_add]) ?_
      refine xs_sld C0 hX d_Lw_law_742 (vp_in_nI (n := i + 1) (by omega) (by omega)) ?_
      refine xs_top (v' := .int (xs (i + 1))) (by rw [nI_clamp (by omega)]) ?_
      refine xs_cV1 (ω' := (wB B (f_bec T9 S) T9 F9 H (tt + v9) ++ (wMB B rl Z9 cl hc9 0 (tt + v9) (m_keep Z tt kp) pa tr 0 ++ [.inl (1, 1, .inr (.inl (vp_updL o 0 v9.toInt64)))]))) (As := [.int (xs (i + 1))]) (st := []) (kc' := kc) (ks' := ks) (v := .int v9) C0 d_Lw_law_743 l_Lw_105 rfl rfl (by rw [em]; exact d_settle h.1 hm hz hq1 G9 hr2) rfl rfl rfl (Nat.le_of_ble_eq_true rfl) (Nat.le_of_ble_eq_true rfl) (Nat.le_refl _) (Nat.le_refl _) (Nat.le_of_succ_le hk1) (Nat.le_trans (Nat.le_add_right ks 6) hk2) ?_
      refine xs_istore (lv' := [(6, .int v9), (5, .int 0), (0, .retAddr b), (1, .ref 0), (2, .ref 36), (3, .ref 64), (4, .int (nI i))]) C0 d_Lw_law_746 (by decide) rfl ?_
      refine xs_aload_n C0 d_Lw_law_748 rfl 4 rfl ?_
      refine xs_cV1 (ω' := (wB B (f_bec T9 S) T9 F9 H (tt + v9) ++ (wMB B rl Z9 cl hc9 0 (tt + v9) (m_keep Z tt kp) pa tr 0 ++ [.inl (1, 1, .inr (.inl (vp_updL o 0 v9.toInt64)))]))) (As := []) (st := []) (kc' := kc) (ks' := ks) (v := .int 0) C0 d_Lw_law_749 l_Lw_74 rfl rfl d_thrown rfl rfl rfl (Nat.le_of_ble_eq_true rfl) (Nat.le_of_ble_eq_true rfl) (Nat.le_refl _) (Nat.le_refl _) (Nat.le_of_succ_le hk1) (Nat.le_trans (Nat.le_add_right ks 6) hk2) ?_
      refine xs_iload C0 d_Lw_law_752 1 rfl ?_
      refine xs_icmp_eq (tgt := 759) C0 d_Lw_law_754 (by decide) (fun _ => ?_) (fun c9 => absurd rfl c9)
      refine xs_iload C0 d_Lw_law_759 1 rfl ?_
      refine xs_if_ne (tgt := 776) C0 d_Lw_law_761 (by decide) (fun c9 => absurd rfl c9) (fun _ => ?_)
      refine xs_aload_n C0 d_Lw_law_764 rfl 5 rfl ?_
      refine xs_iconst (v := 0) C0 d_Lw_law_765 (by decide) ?_
      refine xs_top (v' := .int (nI 0)) rfl ?_
      refine xs_lald C0 d_Lw_law_766 rfl (vp_in_nI (n := 0) (by decide) (by decide)) ?_
      refine xs_top (v' := .long ((vp_updL o 0 v9.toInt64) 0)) (by rw [nI_clamp (by omega)]) ?_
      refine xs_iload C0 d_Lw_law_767 0 rfl ?_
      refine xs_i2l C0 d_Lw_law_769 ?_
      refine xs_lcmp C0 d_Lw_law_770 ?_
      refine xs_if_eq (tgt := 776) C0 d_Lw_law_771 (by decide) (fun _ => ?_) (fun c9 => absurd (lg_cmp0.mpr rfl) c9)
      refine xs_goto (tgt := 1219) C0 d_Lw_law_776 (by decide) ?_
      refine xs_lv (lv' := [(0, .retAddr b), (1, .ref 0), (2, .ref 36), (3, .ref 64), (4, .int (nI i))]) [2, 3, 4, 5, 6] rfl ?_
      refine xs_more (Nat.le_succ kc) (Nat.le_add_right ks 6) ?_
      exact k _ _ _ _ _ _ _ _ _ _ _ _ _ _ _ (⟨h.1, h.2.1, h.2.2.1, hp.2.2, pR_bec S hp.2.1, h.2.2.2.2.2⟩)
  · refine xs_aload_n C0 d_Lw_law_723 rfl 1 rfl ?_
    refine xs_saload C0 d_Lw_law_724 rfl 0 rfl ?_
    refine xs_iload C0 d_Lw_law_725 4 rfl ?_
    refine xs_iconst (v := 1) C0 d_Lw_law_727 (by decide) ?_
    refine xs_iadd C0 d_Lw_law_728 ?_
    refine xs_top (v' := .int (nI (i + 1))) (by rw [show (1 : Int32) = nI 1 from rfl, nI_add]) ?_
    refine xs_sld C0 hX d_Lw_law_729 (vp_in_nI (n := i + 1) (by omega) (by omega)) ?_
    refine xs_top (v' := .int (xs (i + 1))) (by rw [nI_clamp (by omega)]) ?_
    refine xs_aload_n C0 d_Lw_law_730 rfl 3 rfl ?_
    refine xs_cS1 (ω' := (wB B S T F H tt ++ (wMB B rl Z cl hc 0 tt kp pa tr co ++ [.inl (1, 1, .inr (.inl o))]))) (av := [.ref 0, .int (xs (i + 1)), .ref 64]) (st := []) (kc' := (kc + 1)) (ks' := (ks + 6)) (v := .int 1) C0 d_Lw_law_731 l_Lw_103 (l_settleT (m_settleT h.1.1 hq)) rfl rfl rfl (Nat.le_of_ble_eq_true rfl) (Nat.le_of_ble_eq_true rfl) (Nat.le_refl _) (Nat.le_refl _) hk1 hk2 ?_
    refine xs_istore (lv' := [(5, .int 1), (0, .retAddr b), (1, .ref 0), (2, .ref 36), (3, .ref 64), (4, .int (nI i))]) C0 d_Lw_law_734 (by decide) rfl ?_
    refine xs_aload_n C0 d_Lw_law_736 rfl 3 rfl ?_
    refine xs_saload C0 d_Lw_law_737 rfl 1 rfl ?_
    refine xs_iload C0 d_Lw_law_738 5 rfl ?_
    refine xs_pc (pc' := 740) rfl ?_
    refine xs_iconst (v := 1) C0 d_Lw_law_740 (by decide) ?_
    refine xs_iadd C0 d_Lw_law_741 ?_
    refine xs_top (v' := .int (nI (i + 1))) (by rw [show (1 : Int32) = nI 1 from rfl, nI_add]) ?_
    refine xs_sld C0 hX d_Lw_law_742 (vp_in_nI (n := i + 1) (by omega) (by omega)) ?_
    refine xs_top (v' := .int (xs (i + 1))) (by rw [nI_clamp (by omega)]) ?_
    refine xs_cV1 (ω' := (wB B S T F H tt ++ (wMB B rl Z cl hc 0 tt kp pa tr 1 ++ [.inl (1, 1, .inr (.inl o))]))) (As := [.int (xs (i + 1))]) (st := []) (kc' := (kc + 1)) (ks' := (ks + 6)) (v := .int 0) C0 d_Lw_law_743 l_Lw_105 rfl rfl (d_settleT h.1 hq) rfl rfl rfl (Nat.le_of_ble_eq_true rfl) (Nat.le_of_ble_eq_true rfl) (Nat.le_refl _) (Nat.le_refl _) hk1 hk2 ?_
    refine xs_istore (lv' := [(6, .int 0), (5, .int 1), (0, .retAddr b), (1, .ref 0), (2, .ref 36), (3, .ref 64), (4, .int (nI i))]) C0 d_Lw_law_746 (by decide) rfl ?_
    refine xs_aload_n C0 d_Lw_law_748 rfl 4 rfl ?_
    refine xs_cV1 (ω' := (wB B S T F H tt ++ (wMB B rl Z cl hc 0 tt kp pa tr 1 ++ [.inl (1, 1, .inr (.inl o))]))) (As := []) (st := []) (kc' := (kc + 1)) (ks' := (ks + 6)) (v := .int 1) C0 d_Lw_law_749 l_Lw_74 rfl rfl d_thrown rfl rfl rfl (Nat.le_of_ble_eq_true rfl) (Nat.le_of_ble_eq_true rfl) (Nat.le_refl _) (Nat.le_refl _) hk1 hk2 ?_
    refine xs_iload C0 d_Lw_law_752 1 rfl ?_
    refine xs_icmp_eq (tgt := 759) C0 d_Lw_law_754 (by decide) (fun _ => ?_) (fun c9 => absurd rfl c9)
    refine xs_iload C0 d_Lw_law_759 1 rfl ?_
    refine xs_if_ne (tgt := 776) C0 d_Lw_law_761 (by decide) (fun _ => ?_) (fun c9 => absurd c9 (by decide))
    refine xs_goto (tgt := 1219) C0 d_Lw_law_776 (by decide) ?_
    refine xs_lv (lv' := [(0, .retAddr b), (1, .ref 0), (2, .ref 36), (3, .ref 64), (4, .int (nI i))]) [2, 3, 4, 5, 6] rfl ?_
    exact k _ _ _ _ _ _ _ _ _ _ _ _ _ _ _ h
set_option maxHeartbeats 4000000 in
set_option maxRecDepth 100000 in
theorem lc_circle {E : xm_X} {Q : State → Prop} {b L i kc ks : Nat} {xs : Nat → Int32} (C0 : xm_C E R_Lw b_Lw_law 7 (some .boolean) [] "law" room_1) (hX : xl_X E b L xs) (hL : L ≤ 2560) (hi4 : i + 4 < L) (hk1 : kc + 1 ≤ 601024) (hk2 : ks + 6 ≤ 7293034) {B : wb} {S T : wt_S} {F : wt_F} {H : wt_H} {tt : Int32} {rl : Nat → Int32} {Z : mt_S} {cl : Nat → Int32} {hc : mt_H} {kp : mt_K} {pa : Nat → Int32} {tr : mt_T} {co : Int32} {o : Nat → Int64} (h : pI B rl S F Z cl) (k : ∀ (B : wb) (S T : wt_S) (F : wt_F) (H : wt_H) (tt : Int32) (rl : Nat → Int32) (Z : mt_S) (cl : Nat → Int32) (hc : mt_H) (kp : mt_K) (pa : Nat → Int32) (tr : mt_T) (co : Int32) (o : Nat → Int64), pI B rl S F Z cl → xm_W E 7 Q (kc + 1) (ks + 6) (wB B S T F H tt ++ (wMB B rl Z cl hc 0 tt kp pa tr co ++ [.inl (1, 1, .inr (.inl o))])) 1219 [(0, .retAddr b), (1, .ref 0), (2, .ref 36), (3, .ref 64), (4, .int (nI i))] []) : xm_W E 7 Q kc ks (wB B S T F H tt ++ (wMB B rl Z cl hc 0 tt kp pa tr co ++ [.inl (1, 1, .inr (.inl o))])) 779 [(0, .retAddr b), (1, .ref 0), (2, .ref 36), (3, .ref 64), (4, .int (nI i))] [] := by
  have h16 : B.1.2.2 ≤ 16 := h.1.1.1.1
  by_cases hq : gw (xs (i + 1)) 1 500
  · obtain ⟨m, hm, em⟩ := gw_one 500 rfl (by decide) hq
    have hq1 := hq
    rw [em] at hq1
    have hz : z01 Z := by have q := h.2.2.2.2.1.2.2.2.2.1; unfold s01 at q; rw [h.2.2.2.2.1.2.2.2.1] at q; exact q
    have hp := p_circ0 h.1 h.2.1 h.2.2.1 hm hc pa H.1 H.2.1 h.2.2.2.1 (pR_bec T h.2.2.2.2.1)
    obtain ⟨⟨r9, T9, F9, H8⟩, H9⟩ : ∃ q, g_circ B m 1 (f_bec S T) F (g_fk (f_bec S T) (H.1, H.2.1, 0)).2 = q := ⟨_, rfl⟩
    obtain ⟨⟨f9, n9, Z9, hc9, pa9⟩, G9⟩ : ∃ q, q_circ B rl cl 0 m 0 Z hc (q_note pa Z 0) = q := ⟨_, rfl⟩
    rw [H9, G9] at hp
    dsimp only at hp
    by_cases hr : f9 = -1
    · rw [if_pos hr] at hp
      have e9 := hp.1
      refine xs_aload_n C0 d_Lw_law_779 rfl 1 rfl ?_
      refine xs_saload C0 d_Lw_law_780 rfl 0 rfl ?_
      refine xs_iload C0 d_Lw_law_781 4 rfl ?_
      refine xs_iconst (v := 1) C0 d_Lw_law_783 (by decide) ?_
      refine xs_iadd C0 d_Lw_law_784 ?_
      refine xs_top (v' := .int (nI (i + 1))) (by rw [show (1 : Int32) = nI 1 from rfl, nI_add]) ?_
      refine xs_sld C0 hX d_Lw_law_785 (vp_in_nI (n := i + 1) (by omega) (by omega)) ?_
      refine xs_top (v' := .int (xs (i + 1))) (by rw [nI_clamp (by omega)]) ?_
      refine xs_aload_n C0 d_Lw_law_786 rfl 3 rfl ?_
      refine xs_cS1 (ω' := (wB B S T9 F9 (hw H8) tt ++ (wMB B rl Z cl hc 0 tt kp pa tr co ++ [.inl (1, 1, .inr (.inl o))]))) (av := [.ref 0, .int (xs (i + 1)), .ref 64]) (st := []) (kc' := (kc + 1)) (ks' := (ks + 6)) (v := .int 2) C0 d_Lw_law_787 l_Lw_106 (by rw [em]; exact l_circleX (m_circU h.1.1 hm h.2.2.2.2.1.2.2.2.2.1 hq1 H9 e9)) rfl rfl rfl (Nat.le_of_ble_eq_true rfl) (Nat.le_of_ble_eq_true rfl) (Nat.le_refl _) (Nat.le_refl _) hk1 hk2 ?_
      refine xs_istore (lv' := [(5, .int 2), (0, .retAddr b), (1, .ref 0), (2, .ref 36), (3, .ref 64), (4, .int (nI i))]) C0 d_Lw_law_790 (by decide) rfl ?_
      refine xs_aload_n C0 d_Lw_law_792 rfl 3 rfl ?_
      refine xs_saload C0 d_Lw_law_793 rfl 1 rfl ?_
      refine xs_iload C0 d_Lw_law_794 5 rfl ?_
      refine xs_pc (pc' := 796) rfl ?_
      refine xs_iconst (v := 1) C0 d_Lw_law_796 (by decide) ?_
      refine xs_iadd C0 d_Lw_law_797 ?_
      refine xs_top (v' := .int (nI (i + 1))) (by rw [show (1 : Int32) = nI 1 from rfl, nI_add]) ?_
      refine xs_sld C0 hX d_Lw_law_798 (vp_in_nI (n := i + 1) (by omega) (by omega)) ?_
      refine xs_top (v' := .int (xs (i + 1))) (by rw [nI_clamp (by omega)]) ?_
      refine xs_cV1 (ω' := (wB B S T9 F9 (hw H8) tt ++ (wMB B rl (m_back (m_keep Z tt kp) Z9) cl hc9 0 tt (m_keep Z tt kp) pa9 tr 2 ++ [.inl (1, 1, .inr (.inl o))]))) (As := [.int (xs (i + 1))]) (st := []) (kc' := (kc + 1)) (ks' := (ks + 6)) (v := .int 0) C0 d_Lw_law_799 l_Lw_108 rfl rfl (by rw [em]; exact d_circU h.1 hm hz hq1 G9 hr) rfl rfl rfl (Nat.le_of_ble_eq_true rfl) (Nat.le_of_ble_eq_true rfl) (Nat.le_refl _) (Nat.le_refl _) hk1 hk2 ?_
      refine xs_istore (lv' := [(6, .int 0), (5, .int 2), (0, .retAddr b), (1, .ref 0), (2, .ref 36), (3, .ref 64), (4, .int (nI i))]) C0 d_Lw_law_802 (by decide) rfl ?_
      refine xs_aload_n C0 d_Lw_law_804 rfl 4 rfl ?_
      refine xs_cV1 (ω' := (wB B S T9 F9 (hw H8) tt ++ (wMB B rl (m_back (m_keep Z tt kp) Z9) cl hc9 0 tt (m_keep Z tt kp) pa9 tr 2 ++ [.inl (1, 1, .inr (.inl o))]))) (As := []) (st := []) (kc' := (kc + 1)) (ks' := (ks + 6)) (v := .int 2) C0 d_Lw_law_805 l_Lw_74 rfl rfl d_thrown rfl rfl rfl (Nat.le_of_ble_eq_true rfl) (Nat.le_of_ble_eq_true rfl) (Nat.le_refl _) (Nat.le_refl _) hk1 hk2 ?_
      refine xs_iload C0 d_Lw_law_808 1 rfl ?_
      refine xs_icmp_eq (tgt := 815) C0 d_Lw_law_810 (by decide) (fun _ => ?_) (fun c9 => absurd rfl c9)
      refine xs_iload C0 d_Lw_law_815 1 rfl ?_
      refine xs_if_ne (tgt := 832) C0 d_Lw_law_817 (by decide) (fun _ => ?_) (fun c9 => absurd c9 (by decide))
      refine xs_goto (tgt := 1219) C0 d_Lw_law_832 (by decide) ?_
      refine xs_lv (lv' := [(0, .retAddr b), (1, .ref 0), (2, .ref 36), (3, .ref 64), (4, .int (nI i))]) [2, 3, 4, 5, 6] rfl ?_
      exact k _ _ _ _ _ _ _ _ _ _ _ _ _ _ _ (⟨h.1, h.2.1, h.2.2.1, hp.2, pR_back tt kp Z9 h.2.2.2.2.1, h.2.2.2.2.2⟩)
    · rw [if_neg hr] at hp
      have e9 := hp.1
      refine xs_aload_n C0 d_Lw_law_779 rfl 1 rfl ?_
      refine xs_saload C0 d_Lw_law_780 rfl 0 rfl ?_
      refine xs_iload C0 d_Lw_law_781 4 rfl ?_
      refine xs_iconst (v := 1) C0 d_Lw_law_783 (by decide) ?_
      refine xs_iadd C0 d_Lw_law_784 ?_
      refine xs_top (v' := .int (nI (i + 1))) (by rw [show (1 : Int32) = nI 1 from rfl, nI_add]) ?_
      refine xs_sld C0 hX d_Lw_law_785 (vp_in_nI (n := i + 1) (by omega) (by omega)) ?_
      refine xs_top (v' := .int (xs (i + 1))) (by rw [nI_clamp (by omega)]) ?_
      refine xs_aload_n C0 d_Lw_law_786 rfl 3 rfl ?_
      refine xs_cS1 (ω' := (wB B S T9 F9 (hw H8) tt ++ (wMB B rl Z cl hc 0 tt kp pa tr co ++ [.inl (1, 1, .inr (.inl (vp_updL o 0 (f9 + 1000 * (nI n9 - f9)).toInt64)))]))) (av := [.ref 0, .int (xs (i + 1)), .ref 64]) (st := []) (kc' := kc) (ks' := ks) (v := .int 0) C0 d_Lw_law_787 l_Lw_106 (by rw [em]; exact l_circle (m_circ h.1.1 hm h.2.2.2.2.1.2.2.2.2.1 hq1 H9 e9)) rfl rfl rfl (Nat.le_of_ble_eq_true rfl) (Nat.le_of_ble_eq_true rfl) (Nat.le_refl _) (Nat.le_refl _) (Nat.le_of_succ_le hk1) (Nat.le_trans (Nat.le_add_right ks 6) hk2) ?_
      refine xs_istore (lv' := [(5, .int 0), (0, .retAddr b), (1, .ref 0), (2, .ref 36), (3, .ref 64), (4, .int (nI i))]) C0 d_Lw_law_790 (by decide) rfl ?_
      refine xs_aload_n C0 d_Lw_law_792 rfl 3 rfl ?_
      refine xs_saload C0 d_Lw_law_793 rfl 1 rfl ?_
      refine xs_iload C0 d_Lw_law_794 5 rfl ?_
      refine xs_pc (pc' := 796) rfl ?_
      refine xs_iconst (v := 1) C0 d_Lw_law_796 (by decide) ?_
      refine xs_iadd C0 d_Lw_law_797 ?_
      refine xs_top (v' := .int (nI (i + 1))) (by rw [show (1 : Int32) = nI 1 from rfl, nI_add]) ?_
      refine xs_sld C0 hX d_Lw_law_798 (vp_in_nI (n := i + 1) (by omega) (by omega)) ?_
      refine xs_top (v' := .int (xs (i + 1))) (by rw [nI_clamp (by omega)]) ?_
      refine xs_cV1 (ω' := (wB B S T9 F9 (hw H8) tt ++ (wMB B rl (m_back (m_keep Z tt kp) Z9) cl hc9 0 tt (m_keep Z tt kp) pa9 tr 0 ++ [.inl (1, 1, .inr (.inl (vp_updL o 0 (f9 + 1000 * (nI n9 - f9)).toInt64)))]))) (As := [.int (xs (i + 1))]) (st := []) (kc' := kc) (ks' := ks) (v := .int (f9 + 1000 * (nI n9 - f9))) C0 d_Lw_law_799 l_Lw_108 rfl rfl (by rw [em]; exact d_circ h.1 hm hz hq1 G9 hr) rfl rfl rfl (Nat.le_of_ble_eq_true rfl) (Nat.le_of_ble_eq_true rfl) (Nat.le_refl _) (Nat.le_refl _) (Nat.le_of_succ_le hk1) (Nat.le_trans (Nat.le_add_right ks 6) hk2) ?_
      refine xs_istore (lv' := [(6, .int (f9 + 1000 * (nI n9 - f9))), (5, .int 0), (0, .retAddr b), (1, .ref 0), (2, .ref 36), (3, .ref 64), (4, .int (nI i))]) C0 d_Lw_law_802 (by decide) rfl ?_
      refine xs_aload_n C0 d_Lw_law_804 rfl 4 rfl ?_
      refine xs_cV1 (ω' := (wB B S T9 F9 (hw H8) tt ++ (wMB B rl (m_back (m_keep Z tt kp) Z9) cl hc9 0 tt (m_keep Z tt kp) pa9 tr 0 ++ [.inl (1, 1, .inr (.inl (vp_updL o 0 (f9 + 1000 * (nI n9 - f9)).toInt64)))]))) (As := []) (st := []) (kc' := kc) (ks' := ks) (v := .int 0) C0 d_Lw_law_805 l_Lw_74 rfl rfl d_thrown rfl rfl rfl (Nat.le_of_ble_eq_true rfl) (Nat.le_of_ble_eq_true rfl) (Nat.le_refl _) (Nat.le_refl _) (Nat.le_of_succ_le hk1) (Nat.le_trans (Nat.le_add_right ks 6) hk2) ?_
      refine xs_iload C0 d_Lw_law_808 1 rfl ?_
      refine xs_icmp_eq (tgt := 815) C0 d_Lw_law_810 (by decide) (fun _ => ?_) (fun c9 => absurd rfl c9)
      refine xs_iload C0 d_Lw_law_815 1 rfl ?_
      refine xs_if_ne (tgt := 832) C0 d_Lw_law_817 (by decide) (fun c9 => absurd rfl c9) (fun _ => ?_)
      refine xs_aload_n C0 d_Lw_law_820 rfl 5 rfl ?_
      refine xs_iconst (v := 0) C0 d_Lw_law_821 (by decide) ?_
      refine xs_top (v' := .int (nI 0)) rfl ?_
      refine xs_lald C0 d_Lw_law_822 rfl (vp_in_nI (n := 0) (by decide) (by decide)) ?_
      refine xs_top (v' := .long ((vp_updL o 0 (f9 + 1000 * (nI n9 - f9)).toInt64) 0)) (by rw [nI_clamp (by omega)]) ?_
      refine xs_iload C0 d_Lw_law_823 0 rfl ?_
      refine xs_i2l C0 d_Lw_law_825 ?_
      refine xs_lcmp C0 d_Lw_law_826 ?_
      refine xs_if_eq (tgt := 832) C0 d_Lw_law_827 (by decide) (fun _ => ?_) (fun c9 => absurd (lg_cmp0.mpr rfl) c9)
      refine xs_goto (tgt := 1219) C0 d_Lw_law_832 (by decide) ?_
      refine xs_lv (lv' := [(0, .retAddr b), (1, .ref 0), (2, .ref 36), (3, .ref 64), (4, .int (nI i))]) [2, 3, 4, 5, 6] rfl ?_
      refine xs_more (Nat.le_succ kc) (Nat.le_add_right ks 6) ?_
      exact k _ _ _ _ _ _ _ _ _ _ _ _ _ _ _ (⟨h.1, h.2.1, h.2.2.1, hp.2, pR_back tt kp Z9 h.2.2.2.2.1, h.2.2.2.2.2⟩)
  · refine xs_aload_n C0 d_Lw_law_779 rfl 1 rfl ?_
    refine xs_saload C0 d_Lw_law_780 rfl 0 rfl ?_
    refine xs_iload C0 d_Lw_law_781 4 rfl ?_
    refine xs_iconst (v := 1) C0 d_Lw_law_783 (by decide) ?_
    refine xs_iadd C0 d_Lw_law_784 ?_
    refine xs_top (v' := .int (nI (i + 1))) (by rw [show (1 : Int32) = nI 1 from rfl, nI_add]) ?_
    refine xs_sld C0 hX d_Lw_law_785 (vp_in_nI (n := i + 1) (by omega) (by omega)) ?_
    refine xs_top (v' := .int (xs (i + 1))) (by rw [nI_clamp (by omega)]) ?_
    refine xs_aload_n C0 d_Lw_law_786 rfl 3 rfl ?_
    refine xs_cS1 (ω' := (wB B S T F H tt ++ (wMB B rl Z cl hc 0 tt kp pa tr co ++ [.inl (1, 1, .inr (.inl o))]))) (av := [.ref 0, .int (xs (i + 1)), .ref 64]) (st := []) (kc' := (kc + 1)) (ks' := (ks + 6)) (v := .int 1) C0 d_Lw_law_787 l_Lw_106 (l_circleT (m_circT h.1.1 hq)) rfl rfl rfl (Nat.le_of_ble_eq_true rfl) (Nat.le_of_ble_eq_true rfl) (Nat.le_refl _) (Nat.le_refl _) hk1 hk2 ?_
    refine xs_istore (lv' := [(5, .int 1), (0, .retAddr b), (1, .ref 0), (2, .ref 36), (3, .ref 64), (4, .int (nI i))]) C0 d_Lw_law_790 (by decide) rfl ?_
    refine xs_aload_n C0 d_Lw_law_792 rfl 3 rfl ?_
    refine xs_saload C0 d_Lw_law_793 rfl 1 rfl ?_
    refine xs_iload C0 d_Lw_law_794 5 rfl ?_
    refine xs_pc (pc' := 796) rfl ?_
    refine xs_iconst (v := 1) C0 d_Lw_law_796 (by decide) ?_
    refine xs_iadd C0 d_Lw_law_797 ?_
    refine xs_top (v' := .int (nI (i + 1))) (by rw [show (1 : Int32) = nI 1 from rfl, nI_add]) ?_
    refine xs_sld C0 hX d_Lw_law_798 (vp_in_nI (n := i + 1) (by omega) (by omega)) ?_
    refine xs_top (v' := .int (xs (i + 1))) (by rw [nI_clamp (by omega)]) ?_
    refine xs_cV1 (ω' := (wB B S T F H tt ++ (wMB B rl Z cl hc 0 tt kp pa tr 1 ++ [.inl (1, 1, .inr (.inl o))]))) (As := [.int (xs (i + 1))]) (st := []) (kc' := (kc + 1)) (ks' := (ks + 6)) (v := .int 0) C0 d_Lw_law_799 l_Lw_108 rfl rfl (d_circT h.1 hq) rfl rfl rfl (Nat.le_of_ble_eq_true rfl) (Nat.le_of_ble_eq_true rfl) (Nat.le_refl _) (Nat.le_refl _) hk1 hk2 ?_
    refine xs_istore (lv' := [(6, .int 0), (5, .int 1), (0, .retAddr b), (1, .ref 0), (2, .ref 36), (3, .ref 64), (4, .int (nI i))]) C0 d_Lw_law_802 (by decide) rfl ?_
    refine xs_aload_n C0 d_Lw_law_804 rfl 4 rfl ?_
    refine xs_cV1 (ω' := (wB B S T F H tt ++ (wMB B rl Z cl hc 0 tt kp pa tr 1 ++ [.inl (1, 1, .inr (.inl o))]))) (As := []) (st := []) (kc' := (kc + 1)) (ks' := (ks + 6)) (v := .int 1) C0 d_Lw_law_805 l_Lw_74 rfl rfl d_thrown rfl rfl rfl (Nat.le_of_ble_eq_true rfl) (Nat.le_of_ble_eq_true rfl) (Nat.le_refl _) (Nat.le_refl _) hk1 hk2 ?_
    refine xs_iload C0 d_Lw_law_808 1 rfl ?_
    refine xs_icmp_eq (tgt := 815) C0 d_Lw_law_810 (by decide) (fun _ => ?_) (fun c9 => absurd rfl c9)
    refine xs_iload C0 d_Lw_law_815 1 rfl ?_
    refine xs_if_ne (tgt := 832) C0 d_Lw_law_817 (by decide) (fun _ => ?_) (fun c9 => absurd c9 (by decide))
    refine xs_goto (tgt := 1219) C0 d_Lw_law_832 (by decide) ?_
    refine xs_lv (lv' := [(0, .retAddr b), (1, .ref 0), (2, .ref 36), (3, .ref 64), (4, .int (nI i))]) [2, 3, 4, 5, 6] rfl ?_
    exact k _ _ _ _ _ _ _ _ _ _ _ _ _ _ _ h
set_option maxHeartbeats 4000000 in
set_option maxRecDepth 100000 in
theorem lc_race {E : xm_X} {Q : State → Prop} {b L i kc ks : Nat} {xs : Nat → Int32} (C0 : xm_C E R_Lw b_Lw_law 7 (some .boolean) [] "law" room_1) (hX : xl_X E b L xs) (hL : L ≤ 2560) (hi4 : i + 4 < L) (hk1 : kc + 1 ≤ 601024) (hk2 : ks + 6 ≤ 7293034) {B : wb} {S T : wt_S} {F : wt_F} {H : wt_H} {tt : Int32} {rl : Nat → Int32} {Z : mt_S} {cl : Nat → Int32} {hc : mt_H} {kp : mt_K} {pa : Nat → Int32} {tr : mt_T} {co : Int32} {o : Nat → Int64} (h : pI B rl S F Z cl) (k : ∀ (B : wb) (S T : wt_S) (F : wt_F) (H : wt_H) (tt : Int32) (rl : Nat → Int32) (Z : mt_S) (cl : Nat → Int32) (hc : mt_H) (kp : mt_K) (pa : Nat → Int32) (tr : mt_T) (co : Int32) (o : Nat → Int64), pI B rl S F Z cl → xm_W E 7 Q (kc + 1) (ks + 6) (wB B S T F H tt ++ (wMB B rl Z cl hc 0 tt kp pa tr co ++ [.inl (1, 1, .inr (.inl o))])) 1219 [(0, .retAddr b), (1, .ref 0), (2, .ref 36), (3, .ref 64), (4, .int (nI i))] []) : xm_W E 7 Q kc ks (wB B S T F H tt ++ (wMB B rl Z cl hc 0 tt kp pa tr co ++ [.inl (1, 1, .inr (.inl o))])) 835 [(0, .retAddr b), (1, .ref 0), (2, .ref 36), (3, .ref 64), (4, .int (nI i))] [] := by
  have h16 : B.1.2.2 ≤ 16 := h.1.1.1.1
  by_cases hq : gw (xs (i + 1)) 0 (nI B.2.2.1.2.2 - 1) ∧ gw (xs (i + 3)) 0 6 ∧ (xs (i + 3)) ≤ nI B.1.2.2 ∧ gw (xs (i + 4)) 1 100
  · obtain ⟨q1, q2, q3, q4⟩ := hq
    obtain ⟨x, hx, ex⟩ := gw_part h.1.1.2.2.1.1 (by decide) q1
    have hx12 : x < 12 := Nat.lt_of_lt_of_le hx h.1.1.2.2.1.1
    obtain ⟨n, hn, en⟩ := gw_lit 6 rfl (by decide) q2
    obtain ⟨m, hm, em⟩ := gw_one 100 rfl (by decide) q4
    have hnn : n ≤ B.1.2.2 := by rw [en] at q3; exact (nI_leI (by omega) (by omega)).mp q3
    have q5 := (p_racec h16).mpr ⟨q2, q3⟩
    rw [ex] at q1
    rw [en] at q2 q5
    rw [em] at q4
    have hz : z01 Z := by have q := h.2.2.2.2.1.2.2.2.2.1; unfold s01 at q; rw [h.2.2.2.2.1.2.2.2.1] at q; exact q
    have hzz : (if ¬ (xs (i + 2)) = 0 then (1 : Int32) else 0) = 0 ∨ (if ¬ (xs (i + 2)) = 0 then (1 : Int32) else 0) = 1 := xm_b01
    have ho := p_out 0 h.1 h.2.1 h.2.2.1 h.2.2.2.2.2 hx12 hzz hm h.2.2.2.2.1 tt kp T h.2.2.2.1 Z hc tr
    obtain ⟨⟨no, Z0, hc0, tr0⟩, G8⟩ : ∃ q, q_out B rl cl (m_keep Z tt kp) x (if ¬ (xs (i + 2)) = 0 then (1 : Int32) else 0) 0 m Z hc tr = q := ⟨_, rfl⟩
    have hr1 := p_race h.1 h.2.1 h.2.2.1 h.2.2.2.2.2 hx12 hzz hm h.2.2.2.2.1 tt kp (g_out B S T F (nI x) (if ¬ (xs (i + 2)) = 0 then (1 : Int32) else 0) 0 m).1 Z hc tr (2 ^ n - 1) 1 (g_out B S T F (nI x) (if ¬ (xs (i + 2)) = 0 then (1 : Int32) else 0) 0 m).2.1 _ ho.2
    have hr2 := p_qrace h.1 h.2.1 h.2.2.1 h.2.2.2.2.2 hx12 hzz hm h.2.2.2.2.1 tt kp no Z hc tr h.2.2.2.1 (2 ^ n - 1) (-1) Z0 hc0 tr0
    have e8 : (g_out B S T F (nI x) (if ¬ (xs (i + 2)) = 0 then (1 : Int32) else 0) 0 m).1 = no := by rw [ho.1, G8]
    obtain ⟨⟨v9, T9, F9⟩, H9⟩ : ∃ q, g_race B S (nI x) (if ¬ (xs (i + 2)) = 0 then (1 : Int32) else 0) m (g_out B S T F (nI x) (if ¬ (xs (i + 2)) = 0 then (1 : Int32) else 0) 0 m).1 (2 ^ n - 1) 1 (g_out B S T F (nI x) (if ¬ (xs (i + 2)) = 0 then (1 : Int32) else 0) 0 m).2.1 (g_out B S T F (nI x) (if ¬ (xs (i + 2)) = 0 then (1 : Int32) else 0) 0 m).2.2 = q := ⟨_, rfl⟩
    obtain ⟨⟨b9, Z9, hc9, tr9⟩, G9⟩ : ∃ q, q_race B rl cl (m_keep Z tt kp) x (if ¬ (xs (i + 2)) = 0 then (1 : Int32) else 0) m no (2 ^ n - 1) (-1) Z0 hc0 tr0 = q := ⟨_, rfl⟩
    rw [H9] at hr1
    rw [G9] at hr2
    have e9 : v9 = b9 := by have q := hr1.1; rw [e8] at q; exact q.trans hr2.symm
    refine xs_aload_n C0 d_Lw_law_835 rfl 1 rfl ?_
    refine xs_saload C0 d_Lw_law_836 rfl 0 rfl ?_
    refine xs_iload C0 d_Lw_law_837 4 rfl ?_
    refine xs_iconst (v := 1) C0 d_Lw_law_839 (by decide) ?_
    refine xs_iadd C0 d_Lw_law_840 ?_
    refine xs_top (v' := .int (nI (i + 1))) (by rw [show (1 : Int32) = nI 1 from rfl, nI_add]) ?_
    refine xs_sld C0 hX d_Lw_law_841 (vp_in_nI (n := i + 1) (by omega) (by omega)) ?_
    refine xs_top (v' := .int (xs (i + 1))) (by rw [nI_clamp (by omega)]) ?_
    refine xs_saload C0 d_Lw_law_842 rfl 0 rfl ?_
    refine xs_iload C0 d_Lw_law_843 4 rfl ?_
    refine xs_iconst (v := 2) C0 d_Lw_law_845 (by decide) ?_
    refine xs_iadd C0 d_Lw_law_846 ?_
    refine xs_top (v' := .int (nI (i + 2))) (by rw [show (2 : Int32) = nI 2 from rfl, nI_add]) ?_
    refine xs_sld C0 hX d_Lw_law_847 (vp_in_nI (n := i + 2) (by omega) (by omega)) ?_
    refine xs_top (v' := .int (xs (i + 2))) (by rw [nI_clamp (by omega)]) ?_
    refine xs_bz_eq (u := 1) (v := 0) (tgt := 855) (J := 856) C0 d_Lw_law_848 (by decide) d_Lw_law_851 (by decide) d_Lw_law_852 (by decide) d_Lw_law_855 (by decide) rfl ?_
    refine xs_saload C0 d_Lw_law_856 rfl 0 rfl ?_
    refine xs_iload C0 d_Lw_law_857 4 rfl ?_
    refine xs_iconst (v := 3) C0 d_Lw_law_859 (by decide) ?_
    refine xs_iadd C0 d_Lw_law_860 ?_
    refine xs_top (v' := .int (nI (i + 3))) (by rw [show (3 : Int32) = nI 3 from rfl, nI_add]) ?_
    refine xs_sld C0 hX d_Lw_law_861 (vp_in_nI (n := i + 3) (by omega) (by omega)) ?_
    refine xs_top (v' := .int (xs (i + 3))) (by rw [nI_clamp (by omega)]) ?_
    refine xs_saload C0 d_Lw_law_862 rfl 0 rfl ?_
    refine xs_iload C0 d_Lw_law_863 4 rfl ?_
    refine xs_iconst (v := 4) C0 d_Lw_law_865 (by decide) ?_
    refine xs_iadd C0 d_Lw_law_866 ?_
    refine xs_top (v' := .int (nI (i + 4))) (by rw [show (4 : Int32) = nI 4 from rfl, nI_add]) ?_
    refine xs_sld C0 hX d_Lw_law_867 (vp_in_nI (n := i + 4) (by omega) (by omega)) ?_
    refine xs_top (v' := .int (xs (i + 4))) (by rw [nI_clamp (by omega)]) ?_
    refine xs_aload_n C0 d_Lw_law_868 rfl 3 rfl ?_
    refine xs_pc (pc' := 869) rfl ?_
    refine xs_cS1 (ω' := (wB B S T9 F9 H tt ++ (wMB B rl Z cl hc 0 tt kp pa tr co ++ [.inl (1, 1, .inr (.inl (vp_updL o 0 v9.toInt64)))]))) (av := [.ref 0, .int (xs (i + 1)), .int (if ¬ (xs (i + 2)) = 0 then 1 else 0), .int (xs (i + 3)), .int (xs (i + 4)), .ref 64]) (st := []) (kc' := kc) (ks' := ks) (v := .int 0) C0 d_Lw_law_869 l_Lw_109 (by rw [ex, en, em]; exact l_race (m_race h.1.1 hm hn h.2.2.2.2.1.2.2.2.2.1 q1 q5 q4 H9)) rfl rfl rfl (Nat.le_of_ble_eq_true rfl) (Nat.le_of_ble_eq_true rfl) (Nat.le_refl _) (Nat.le_refl _) (Nat.le_of_succ_le hk1) (Nat.le_trans (Nat.le_add_right ks 6) hk2) ?_
    refine xs_istore (lv' := [(5, .int 0), (0, .retAddr b), (1, .ref 0), (2, .ref 36), (3, .ref 64), (4, .int (nI i))]) C0 d_Lw_law_872 (by decide) rfl ?_
    refine xs_aload_n C0 d_Lw_law_874 rfl 3 rfl ?_
    refine xs_saload C0 d_Lw_law_875 rfl 1 rfl ?_
    refine xs_iload C0 d_Lw_law_876 5 rfl ?_
    refine xs_iconst (v := 1) C0 d_Lw_law_878 (by decide) ?_
    refine xs_iadd C0 d_Lw_law_879 ?_
    refine xs_top (v' := .int (nI (i + 1))) (by rw [show (1 : Int32) = nI 1 from rfl, nI_add]) ?_
    refine xs_sld C0 hX d_Lw_law_880 (vp_in_nI (n := i + 1) (by omega) (by omega)) ?_
    refine xs_top (v' := .int (xs (i + 1))) (by rw [nI_clamp (by omega)]) ?_
    refine xs_saload C0 d_Lw_law_881 rfl 1 rfl ?_
    refine xs_iload C0 d_Lw_law_882 5 rfl ?_
    refine xs_iconst (v := 2) C0 d_Lw_law_884 (by decide) ?_
    refine xs_iadd C0 d_Lw_law_885 ?_
    refine xs_pc (pc' := 886) rfl ?_
    refine xs_top (v' := .int (nI (i + 2))) (by rw [show (2 : Int32) = nI 2 from rfl, nI_add]) ?_
    refine xs_sld C0 hX d_Lw_law_886 (vp_in_nI (n := i + 2) (by omega) (by omega)) ?_
    refine xs_top (v' := .int (xs (i + 2))) (by rw [nI_clamp (by omega)]) ?_
    refine xs_bz_eq (u := 1) (v := 0) (tgt := 894) (J := 895) C0 d_Lw_law_887 (by decide) d_Lw_law_890 (by decide) d_Lw_law_891 (by decide) d_Lw_law_894 (by decide) rfl ?_
    refine xs_saload C0 d_Lw_law_895 rfl 1 rfl ?_
    refine xs_iload C0 d_Lw_law_896 5 rfl ?_
    refine xs_iconst (v := 3) C0 d_Lw_law_898 (by decide) ?_
    refine xs_iadd C0 d_Lw_law_899 ?_
    refine xs_top (v' := .int (nI (i + 3))) (by rw [show (3 : Int32) = nI 3 from rfl, nI_add]) ?_
    refine xs_sld C0 hX d_Lw_law_900 (vp_in_nI (n := i + 3) (by omega) (by omega)) ?_
    refine xs_top (v' := .int (xs (i + 3))) (by rw [nI_clamp (by omega)]) ?_
    refine xs_saload C0 d_Lw_law_901 rfl 1 rfl ?_
    refine xs_iload C0 d_Lw_law_902 5 rfl ?_
    refine xs_iconst (v := 4) C0 d_Lw_law_904 (by decide) ?_
    refine xs_iadd C0 d_Lw_law_905 ?_
    refine xs_top (v' := .int (nI (i + 4))) (by rw [show (4 : Int32) = nI 4 from rfl, nI_add]) ?_
    refine xs_sld C0 hX d_Lw_law_906 (vp_in_nI (n := i + 4) (by omega) (by omega)) ?_
    refine xs_top (v' := .int (xs (i + 4))) (by rw [nI_clamp (by omega)]) ?_
    refine xs_cV1 (ω' := (wB B S T9 F9 H tt ++ (wMB B rl (m_back (m_keep Z tt kp) Z9) cl hc9 0 tt (m_keep Z tt kp) pa tr9 0 ++ [.inl (1, 1, .inr (.inl (vp_updL o 0 v9.toInt64)))]))) (As := [.int (xs (i + 1)), .int (if ¬ (xs (i + 2)) = 0 then 1 else 0), .int (xs (i + 3)), .int (xs (i + 4))]) (st := []) (kc' := kc) (ks' := ks) (v := .int b9) C0 d_Lw_law_907 l_Lw_112 rfl rfl (by rw [ex, en, em]; exact d_race h.1 hx12 hn hm hzz hz h.2.2.2.2.2 q1 q2 hnn q4 G8 G9) rfl rfl rfl (Nat.le_of_ble_eq_true rfl) (Nat.le_of_ble_eq_true rfl) (Nat.le_refl _) (Nat.le_refl _) (Nat.le_of_succ_le hk1) (Nat.le_trans (Nat.le_add_right ks 6) hk2) ?_
    refine xs_pc (pc' := 910) rfl ?_
    refine xs_istore (lv' := [(6, .int b9), (5, .int 0), (0, .retAddr b), (1, .ref 0), (2, .ref 36), (3, .ref 64), (4, .int (nI i))]) C0 d_Lw_law_910 (by decide) rfl ?_
    refine xs_aload_n C0 d_Lw_law_912 rfl 4 rfl ?_
    refine xs_cV1 (ω' := (wB B S T9 F9 H tt ++ (wMB B rl (m_back (m_keep Z tt kp) Z9) cl hc9 0 tt (m_keep Z tt kp) pa tr9 0 ++ [.inl (1, 1, .inr (.inl (vp_updL o 0 v9.toInt64)))]))) (As := []) (st := []) (kc' := kc) (ks' := ks) (v := .int 0) C0 d_Lw_law_913 l_Lw_74 rfl rfl d_thrown rfl rfl rfl (Nat.le_of_ble_eq_true rfl) (Nat.le_of_ble_eq_true rfl) (Nat.le_refl _) (Nat.le_refl _) (Nat.le_of_succ_le hk1) (Nat.le_trans (Nat.le_add_right ks 6) hk2) ?_
    refine xs_iload C0 d_Lw_law_916 1 rfl ?_
    refine xs_icmp_eq (tgt := 923) C0 d_Lw_law_918 (by decide) (fun _ => ?_) (fun c9 => absurd rfl c9)
    refine xs_iload C0 d_Lw_law_923 1 rfl ?_
    refine xs_if_ne (tgt := 940) C0 d_Lw_law_925 (by decide) (fun c9 => absurd rfl c9) (fun _ => ?_)
    refine xs_aload_n C0 d_Lw_law_928 rfl 5 rfl ?_
    refine xs_iconst (v := 0) C0 d_Lw_law_929 (by decide) ?_
    refine xs_top (v' := .int (nI 0)) rfl ?_
    refine xs_lald C0 d_Lw_law_930 rfl (vp_in_nI (n := 0) (by decide) (by decide)) ?_
    refine xs_top (v' := .long ((vp_updL o 0 v9.toInt64) 0)) (by rw [nI_clamp (by omega)]) ?_
    refine xs_iload C0 d_Lw_law_931 0 rfl ?_
    refine xs_i2l C0 d_Lw_law_933 ?_
    refine xs_lcmp C0 d_Lw_law_934 ?_
    refine xs_if_eq (tgt := 940) C0 d_Lw_law_935 (by decide) (fun _ => ?_) (fun c9 => absurd (lg_cmp0.mpr (congrArg Int32.toInt64 e9)) c9)
    refine xs_goto (tgt := 1219) C0 d_Lw_law_940 (by decide) ?_
    refine xs_lv (lv' := [(0, .retAddr b), (1, .ref 0), (2, .ref 36), (3, .ref 64), (4, .int (nI i))]) [2, 3, 4, 5, 6] rfl ?_
    refine xs_more (Nat.le_succ kc) (Nat.le_add_right ks 6) ?_
    exact k _ _ _ _ _ _ _ _ _ _ _ _ _ _ _ (⟨h.1, h.2.1, h.2.2.1, hr1.2, pR_back tt kp Z9 h.2.2.2.2.1, h.2.2.2.2.2⟩)
  · refine xs_aload_n C0 d_Lw_law_835 rfl 1 rfl ?_
    refine xs_saload C0 d_Lw_law_836 rfl 0 rfl ?_
    refine xs_iload C0 d_Lw_law_837 4 rfl ?_
    refine xs_iconst (v := 1) C0 d_Lw_law_839 (by decide) ?_
    refine xs_iadd C0 d_Lw_law_840 ?_
    refine xs_top (v' := .int (nI (i + 1))) (by rw [show (1 : Int32) = nI 1 from rfl, nI_add]) ?_
    refine xs_sld C0 hX d_Lw_law_841 (vp_in_nI (n := i + 1) (by omega) (by omega)) ?_
    refine xs_top (v' := .int (xs (i + 1))) (by rw [nI_clamp (by omega)]) ?_
    refine xs_saload C0 d_Lw_law_842 rfl 0 rfl ?_
    refine xs_iload C0 d_Lw_law_843 4 rfl ?_
    refine xs_iconst (v := 2) C0 d_Lw_law_845 (by decide) ?_
    refine xs_iadd C0 d_Lw_law_846 ?_
    refine xs_top (v' := .int (nI (i + 2))) (by rw [show (2 : Int32) = nI 2 from rfl, nI_add]) ?_
    refine xs_sld C0 hX d_Lw_law_847 (vp_in_nI (n := i + 2) (by omega) (by omega)) ?_
    refine xs_top (v' := .int (xs (i + 2))) (by rw [nI_clamp (by omega)]) ?_
    refine xs_bz_eq (u := 1) (v := 0) (tgt := 855) (J := 856) C0 d_Lw_law_848 (by decide) d_Lw_law_851 (by decide) d_Lw_law_852 (by decide) d_Lw_law_855 (by decide) rfl ?_
    refine xs_saload C0 d_Lw_law_856 rfl 0 rfl ?_
    refine xs_iload C0 d_Lw_law_857 4 rfl ?_
    refine xs_iconst (v := 3) C0 d_Lw_law_859 (by decide) ?_
    refine xs_iadd C0 d_Lw_law_860 ?_
    refine xs_top (v' := .int (nI (i + 3))) (by rw [show (3 : Int32) = nI 3 from rfl, nI_add]) ?_
    refine xs_sld C0 hX d_Lw_law_861 (vp_in_nI (n := i + 3) (by omega) (by omega)) ?_
    refine xs_top (v' := .int (xs (i + 3))) (by rw [nI_clamp (by omega)]) ?_
    refine xs_saload C0 d_Lw_law_862 rfl 0 rfl ?_
    refine xs_iload C0 d_Lw_law_863 4 rfl ?_
    refine xs_iconst (v := 4) C0 d_Lw_law_865 (by decide) ?_
    refine xs_iadd C0 d_Lw_law_866 ?_
    refine xs_top (v' := .int (nI (i + 4))) (by rw [show (4 : Int32) = nI 4 from rfl, nI_add]) ?_
    refine xs_sld C0 hX d_Lw_law_867 (vp_in_nI (n := i + 4) (by omega) (by omega)) ?_
    refine xs_top (v' := .int (xs (i + 4))) (by rw [nI_clamp (by omega)]) ?_
    refine xs_aload_n C0 d_Lw_law_868 rfl 3 rfl ?_
    refine xs_pc (pc' := 869) rfl ?_
    refine xs_cS1 (ω' := (wB B S T F H tt ++ (wMB B rl Z cl hc 0 tt kp pa tr co ++ [.inl (1, 1, .inr (.inl o))]))) (av := [.ref 0, .int (xs (i + 1)), .int (if ¬ (xs (i + 2)) = 0 then 1 else 0), .int (xs (i + 3)), .int (xs (i + 4)), .ref 64]) (st := []) (kc' := (kc + 1)) (ks' := (ks + 6)) (v := .int 1) C0 d_Lw_law_869 l_Lw_109 (l_raceT (m_raceT h.1.1 (fun q => hq ⟨q.1, ((p_racec h16).mp q.2.1).1, ((p_racec h16).mp q.2.1).2, q.2.2⟩))) rfl rfl rfl (Nat.le_of_ble_eq_true rfl) (Nat.le_of_ble_eq_true rfl) (Nat.le_refl _) (Nat.le_refl _) hk1 hk2 ?_
    refine xs_istore (lv' := [(5, .int 1), (0, .retAddr b), (1, .ref 0), (2, .ref 36), (3, .ref 64), (4, .int (nI i))]) C0 d_Lw_law_872 (by decide) rfl ?_
    refine xs_aload_n C0 d_Lw_law_874 rfl 3 rfl ?_
    refine xs_saload C0 d_Lw_law_875 rfl 1 rfl ?_
    refine xs_iload C0 d_Lw_law_876 5 rfl ?_
    refine xs_iconst (v := 1) C0 d_Lw_law_878 (by decide) ?_
    refine xs_iadd C0 d_Lw_law_879 ?_
    refine xs_top (v' := .int (nI (i + 1))) (by rw [show (1 : Int32) = nI 1 from rfl, nI_add]) ?_
    refine xs_sld C0 hX d_Lw_law_880 (vp_in_nI (n := i + 1) (by omega) (by omega)) ?_
    refine xs_top (v' := .int (xs (i + 1))) (by rw [nI_clamp (by omega)]) ?_
    refine xs_saload C0 d_Lw_law_881 rfl 1 rfl ?_
    refine xs_iload C0 d_Lw_law_882 5 rfl ?_
    refine xs_iconst (v := 2) C0 d_Lw_law_884 (by decide) ?_
    refine xs_iadd C0 d_Lw_law_885 ?_
    refine xs_pc (pc' := 886) rfl ?_
    refine xs_top (v' := .int (nI (i + 2))) (by rw [show (2 : Int32) = nI 2 from rfl, nI_add]) ?_
    refine xs_sld C0 hX d_Lw_law_886 (vp_in_nI (n := i + 2) (by omega) (by omega)) ?_
    refine xs_top (v' := .int (xs (i + 2))) (by rw [nI_clamp (by omega)]) ?_
    refine xs_bz_eq (u := 1) (v := 0) (tgt := 894) (J := 895) C0 d_Lw_law_887 (by decide) d_Lw_law_890 (by decide) d_Lw_law_891 (by decide) d_Lw_law_894 (by decide) rfl ?_
    refine xs_saload C0 d_Lw_law_895 rfl 1 rfl ?_
    refine xs_iload C0 d_Lw_law_896 5 rfl ?_
    refine xs_iconst (v := 3) C0 d_Lw_law_898 (by decide) ?_
    refine xs_iadd C0 d_Lw_law_899 ?_
    refine xs_top (v' := .int (nI (i + 3))) (by rw [show (3 : Int32) = nI 3 from rfl, nI_add]) ?_
    refine xs_sld C0 hX d_Lw_law_900 (vp_in_nI (n := i + 3) (by omega) (by omega)) ?_
    refine xs_top (v' := .int (xs (i + 3))) (by rw [nI_clamp (by omega)]) ?_
    refine xs_saload C0 d_Lw_law_901 rfl 1 rfl ?_
    refine xs_iload C0 d_Lw_law_902 5 rfl ?_
    refine xs_iconst (v := 4) C0 d_Lw_law_904 (by decide) ?_
    refine xs_iadd C0 d_Lw_law_905 ?_
    refine xs_top (v' := .int (nI (i + 4))) (by rw [show (4 : Int32) = nI 4 from rfl, nI_add]) ?_
    refine xs_sld C0 hX d_Lw_law_906 (vp_in_nI (n := i + 4) (by omega) (by omega)) ?_
    refine xs_top (v' := .int (xs (i + 4))) (by rw [nI_clamp (by omega)]) ?_
    refine xs_cV1 (ω' := (wB B S T F H tt ++ (wMB B rl Z cl hc 0 tt kp pa tr 1 ++ [.inl (1, 1, .inr (.inl o))]))) (As := [.int (xs (i + 1)), .int (if ¬ (xs (i + 2)) = 0 then 1 else 0), .int (xs (i + 3)), .int (xs (i + 4))]) (st := []) (kc' := (kc + 1)) (ks' := (ks + 6)) (v := .int 0) C0 d_Lw_law_907 l_Lw_112 rfl rfl (d_raceT h.1 hq) rfl rfl rfl (Nat.le_of_ble_eq_true rfl) (Nat.le_of_ble_eq_true rfl) (Nat.le_refl _) (Nat.le_refl _) hk1 hk2 ?_
    refine xs_pc (pc' := 910) rfl ?_
    refine xs_istore (lv' := [(6, .int 0), (5, .int 1), (0, .retAddr b), (1, .ref 0), (2, .ref 36), (3, .ref 64), (4, .int (nI i))]) C0 d_Lw_law_910 (by decide) rfl ?_
    refine xs_aload_n C0 d_Lw_law_912 rfl 4 rfl ?_
    refine xs_cV1 (ω' := (wB B S T F H tt ++ (wMB B rl Z cl hc 0 tt kp pa tr 1 ++ [.inl (1, 1, .inr (.inl o))]))) (As := []) (st := []) (kc' := (kc + 1)) (ks' := (ks + 6)) (v := .int 1) C0 d_Lw_law_913 l_Lw_74 rfl rfl d_thrown rfl rfl rfl (Nat.le_of_ble_eq_true rfl) (Nat.le_of_ble_eq_true rfl) (Nat.le_refl _) (Nat.le_refl _) hk1 hk2 ?_
    refine xs_iload C0 d_Lw_law_916 1 rfl ?_
    refine xs_icmp_eq (tgt := 923) C0 d_Lw_law_918 (by decide) (fun _ => ?_) (fun c9 => absurd rfl c9)
    refine xs_iload C0 d_Lw_law_923 1 rfl ?_
    refine xs_if_ne (tgt := 940) C0 d_Lw_law_925 (by decide) (fun _ => ?_) (fun c9 => absurd c9 (by decide))
    refine xs_goto (tgt := 1219) C0 d_Lw_law_940 (by decide) ?_
    refine xs_lv (lv' := [(0, .retAddr b), (1, .ref 0), (2, .ref 36), (3, .ref 64), (4, .int (nI i))]) [2, 3, 4, 5, 6] rfl ?_
    exact k _ _ _ _ _ _ _ _ _ _ _ _ _ _ _ h
set_option maxHeartbeats 4000000 in
set_option maxRecDepth 100000 in
theorem lc_state {E : xm_X} {Q : State → Prop} {b L i kc ks : Nat} {xs : Nat → Int32} (C0 : xm_C E R_Lw b_Lw_law 7 (some .boolean) [] "law" room_1) (hX : xl_X E b L xs) (hL : L ≤ 2560) (hi4 : i + 4 < L) (hk1 : kc + 1 ≤ 601024) (hk2 : ks + 6 ≤ 7293034) {B : wb} {S T : wt_S} {F : wt_F} {H : wt_H} {tt : Int32} {rl : Nat → Int32} {Z : mt_S} {cl : Nat → Int32} {hc : mt_H} {kp : mt_K} {pa : Nat → Int32} {tr : mt_T} {co : Int32} {o : Nat → Int64} (h : pI B rl S F Z cl) (k : ∀ (B : wb) (S T : wt_S) (F : wt_F) (H : wt_H) (tt : Int32) (rl : Nat → Int32) (Z : mt_S) (cl : Nat → Int32) (hc : mt_H) (kp : mt_K) (pa : Nat → Int32) (tr : mt_T) (co : Int32) (o : Nat → Int64), pI B rl S F Z cl → xm_W E 7 Q (kc + 1) (ks + 6) (wB B S T F H tt ++ (wMB B rl Z cl hc 0 tt kp pa tr co ++ [.inl (1, 1, .inr (.inl o))])) 1219 [(0, .retAddr b), (1, .ref 0), (2, .ref 36), (3, .ref 64), (4, .int (nI i))] []) : xm_W E 7 Q kc ks (wB B S T F H tt ++ (wMB B rl Z cl hc 0 tt kp pa tr co ++ [.inl (1, 1, .inr (.inl o))])) 943 [(0, .retAddr b), (1, .ref 0), (2, .ref 36), (3, .ref 64), (4, .int (nI i))] [] := by
  have h16 : B.1.2.2 ≤ 16 := h.1.1.1.1
  by_cases hq : gw (xs (i + 1)) 0 (nI B.1.2.2 - 1)
  · obtain ⟨j9, hj9, ej⟩ := gw_part h16 (by decide) hq
    have hj16 : j9 < 16 := Nat.lt_of_lt_of_le hj9 h16
    have et : (xs (i + 1)).toNatClampNeg = j9 := by rw [ej, nI_clamp (by omega)]
    by_cases hy0 : gw (xs (i + 2)) 0 3
    · rcases p_four hy0 with hy | hy | hy | hy
      · have ey : (xs (i + 2)) = 0 := hy
        refine xs_aload_n C0 d_Lw_law_943 rfl 1 rfl ?_
        refine xs_saload C0 d_Lw_law_944 rfl 0 rfl ?_
        refine xs_iload C0 d_Lw_law_945 4 rfl ?_
        refine xs_iconst (v := 1) C0 d_Lw_law_947 (by decide) ?_
        refine xs_iadd C0 d_Lw_law_948 ?_
        refine xs_top (v' := .int (nI (i + 1))) (by rw [show (1 : Int32) = nI 1 from rfl, nI_add]) ?_
        refine xs_sld C0 hX d_Lw_law_949 (vp_in_nI (n := i + 1) (by omega) (by omega)) ?_
        refine xs_top (v' := .int (xs (i + 1))) (by rw [nI_clamp (by omega)]) ?_
        refine xs_saload C0 d_Lw_law_950 rfl 0 rfl ?_
        refine xs_iload C0 d_Lw_law_951 4 rfl ?_
        refine xs_iconst (v := 2) C0 d_Lw_law_953 (by decide) ?_
        refine xs_iadd C0 d_Lw_law_954 ?_
        refine xs_top (v' := .int (nI (i + 2))) (by rw [show (2 : Int32) = nI 2 from rfl, nI_add]) ?_
        refine xs_sld C0 hX d_Lw_law_955 (vp_in_nI (n := i + 2) (by omega) (by omega)) ?_
        refine xs_top (v' := .int (xs (i + 2))) (by rw [nI_clamp (by omega)]) ?_
        refine xs_aload_n C0 d_Lw_law_956 rfl 3 rfl ?_
        refine xs_pc (pc' := 957) rfl ?_
        refine xs_cS1 (ω' := (wB B S T F H tt ++ (wMB B rl Z cl hc 0 tt kp pa tr co ++ [.inl (1, 1, .inr (.inl (vp_updL o 0 (S.1 (xs (i + 1)).toNatClampNeg).toInt64)))]))) (av := [.ref 0, .int (xs (i + 1)), .int (xs (i + 2)), .ref 64]) (st := []) (kc' := kc) (ks' := ks) (v := .int 0) C0 d_Lw_law_957 l_Lw_113 (by rw [ey]; exact l_state2 (m_state0 h.1.1 hq)) rfl rfl rfl (Nat.le_of_ble_eq_true rfl) (Nat.le_of_ble_eq_true rfl) (Nat.le_refl _) (Nat.le_refl _) (Nat.le_of_succ_le hk1) (Nat.le_trans (Nat.le_add_right ks 6) hk2) ?_
        refine xs_istore (lv' := [(5, .int 0), (0, .retAddr b), (1, .ref 0), (2, .ref 36), (3, .ref 64), (4, .int (nI i))]) C0 d_Lw_law_960 (by decide) rfl ?_
        refine xs_aload_n C0 d_Lw_law_962 rfl 3 rfl ?_
        refine xs_saload C0 d_Lw_law_963 rfl 1 rfl ?_
        refine xs_iload C0 d_Lw_law_964 5 rfl ?_
        refine xs_iconst (v := 1) C0 d_Lw_law_966 (by decide) ?_
        refine xs_iadd C0 d_Lw_law_967 ?_
        refine xs_top (v' := .int (nI (i + 1))) (by rw [show (1 : Int32) = nI 1 from rfl, nI_add]) ?_
        refine xs_sld C0 hX d_Lw_law_968 (vp_in_nI (n := i + 1) (by omega) (by omega)) ?_
        refine xs_top (v' := .int (xs (i + 1))) (by rw [nI_clamp (by omega)]) ?_
        refine xs_saload C0 d_Lw_law_969 rfl 1 rfl ?_
        refine xs_iload C0 d_Lw_law_970 5 rfl ?_
        refine xs_iconst (v := 2) C0 d_Lw_law_972 (by decide) ?_
        refine xs_iadd C0 d_Lw_law_973 ?_
        refine xs_pc (pc' := 974) rfl ?_
        refine xs_top (v' := .int (nI (i + 2))) (by rw [show (2 : Int32) = nI 2 from rfl, nI_add]) ?_
        refine xs_sld C0 hX d_Lw_law_974 (vp_in_nI (n := i + 2) (by omega) (by omega)) ?_
        refine xs_top (v' := .int (xs (i + 2))) (by rw [nI_clamp (by omega)]) ?_
        refine xs_cV1 (ω' := (wB B S T F H tt ++ (wMB B rl Z cl (m_lay B rl Z.1 cl hc) 0 tt kp pa tr 0 ++ [.inl (1, 1, .inr (.inl (vp_updL o 0 (S.1 (xs (i + 1)).toNatClampNeg).toInt64)))]))) (As := [.int (xs (i + 1)), .int (xs (i + 2))]) (st := []) (kc' := kc) (ks' := ks) (v := .int (Z.1 (xs (i + 1)).toNatClampNeg)) C0 d_Lw_law_975 l_Lw_115 rfl rfl (by rw [ey]; exact d_state0 h.1 hq rfl) rfl rfl rfl (Nat.le_of_ble_eq_true rfl) (Nat.le_of_ble_eq_true rfl) (Nat.le_refl _) (Nat.le_refl _) (Nat.le_of_succ_le hk1) (Nat.le_trans (Nat.le_add_right ks 6) hk2) ?_
        refine xs_istore (lv' := [(6, .int (Z.1 (xs (i + 1)).toNatClampNeg)), (5, .int 0), (0, .retAddr b), (1, .ref 0), (2, .ref 36), (3, .ref 64), (4, .int (nI i))]) C0 d_Lw_law_978 (by decide) rfl ?_
        refine xs_aload_n C0 d_Lw_law_980 rfl 4 rfl ?_
        refine xs_cV1 (ω' := (wB B S T F H tt ++ (wMB B rl Z cl (m_lay B rl Z.1 cl hc) 0 tt kp pa tr 0 ++ [.inl (1, 1, .inr (.inl (vp_updL o 0 (S.1 (xs (i + 1)).toNatClampNeg).toInt64)))]))) (As := []) (st := []) (kc' := kc) (ks' := ks) (v := .int 0) C0 d_Lw_law_981 l_Lw_74 rfl rfl d_thrown rfl rfl rfl (Nat.le_of_ble_eq_true rfl) (Nat.le_of_ble_eq_true rfl) (Nat.le_refl _) (Nat.le_refl _) (Nat.le_of_succ_le hk1) (Nat.le_trans (Nat.le_add_right ks 6) hk2) ?_
        refine xs_iload C0 d_Lw_law_984 1 rfl ?_
        refine xs_icmp_eq (tgt := 991) C0 d_Lw_law_986 (by decide) (fun _ => ?_) (fun c9 => absurd rfl c9)
        refine xs_iload C0 d_Lw_law_991 1 rfl ?_
        refine xs_if_ne (tgt := 1008) C0 d_Lw_law_993 (by decide) (fun c9 => absurd rfl c9) (fun _ => ?_)
        refine xs_aload_n C0 d_Lw_law_996 rfl 5 rfl ?_
        refine xs_iconst (v := 0) C0 d_Lw_law_997 (by decide) ?_
        refine xs_top (v' := .int (nI 0)) rfl ?_
        refine xs_lald C0 d_Lw_law_998 rfl (vp_in_nI (n := 0) (by decide) (by decide)) ?_
        refine xs_top (v' := .long ((vp_updL o 0 (S.1 (xs (i + 1)).toNatClampNeg).toInt64) 0)) (by rw [nI_clamp (by omega)]) ?_
        refine xs_iload C0 d_Lw_law_999 0 rfl ?_
        refine xs_i2l C0 d_Lw_law_1001 ?_
        refine xs_lcmp C0 d_Lw_law_1002 ?_
        refine xs_if_eq (tgt := 1008) C0 d_Lw_law_1003 (by decide) (fun _ => ?_) (fun c9 => absurd (lg_cmp0.mpr (congrArg Int32.toInt64 (by rw [et]; exact (h.2.2.2.2.1.1 j9 hj16).1))) c9)
        refine xs_goto (tgt := 1219) C0 d_Lw_law_1008 (by decide) ?_
        refine xs_lv (lv' := [(0, .retAddr b), (1, .ref 0), (2, .ref 36), (3, .ref 64), (4, .int (nI i))]) [2, 3, 4, 5, 6] rfl ?_
        refine xs_more (Nat.le_succ kc) (Nat.le_add_right ks 6) ?_
        exact k _ _ _ _ _ _ _ _ _ _ _ _ _ _ _ h
      · have ey : (xs (i + 2)) = 1 := hy
        refine xs_aload_n C0 d_Lw_law_943 rfl 1 rfl ?_
        refine xs_saload C0 d_Lw_law_944 rfl 0 rfl ?_
        refine xs_iload C0 d_Lw_law_945 4 rfl ?_
        refine xs_iconst (v := 1) C0 d_Lw_law_947 (by decide) ?_
        refine xs_iadd C0 d_Lw_law_948 ?_
        refine xs_top (v' := .int (nI (i + 1))) (by rw [show (1 : Int32) = nI 1 from rfl, nI_add]) ?_
        refine xs_sld C0 hX d_Lw_law_949 (vp_in_nI (n := i + 1) (by omega) (by omega)) ?_
        refine xs_top (v' := .int (xs (i + 1))) (by rw [nI_clamp (by omega)]) ?_
        refine xs_saload C0 d_Lw_law_950 rfl 0 rfl ?_
        refine xs_iload C0 d_Lw_law_951 4 rfl ?_
        refine xs_iconst (v := 2) C0 d_Lw_law_953 (by decide) ?_
        refine xs_iadd C0 d_Lw_law_954 ?_
        refine xs_top (v' := .int (nI (i + 2))) (by rw [show (2 : Int32) = nI 2 from rfl, nI_add]) ?_
        refine xs_sld C0 hX d_Lw_law_955 (vp_in_nI (n := i + 2) (by omega) (by omega)) ?_
        refine xs_top (v' := .int (xs (i + 2))) (by rw [nI_clamp (by omega)]) ?_
        refine xs_aload_n C0 d_Lw_law_956 rfl 3 rfl ?_
        refine xs_pc (pc' := 957) rfl ?_
        refine xs_cS1 (ω' := (wB B S T F H tt ++ (wMB B rl Z cl hc 0 tt kp pa tr co ++ [.inl (1, 1, .inr (.inl (vp_updL o 0 (S.2.1 (xs (i + 1)).toNatClampNeg).toInt64)))]))) (av := [.ref 0, .int (xs (i + 1)), .int (xs (i + 2)), .ref 64]) (st := []) (kc' := kc) (ks' := ks) (v := .int 0) C0 d_Lw_law_957 l_Lw_113 (by rw [ey]; exact l_state2 (m_state1 h.1.1 hq)) rfl rfl rfl (Nat.le_of_ble_eq_true rfl) (Nat.le_of_ble_eq_true rfl) (Nat.le_refl _) (Nat.le_refl _) (Nat.le_of_succ_le hk1) (Nat.le_trans (Nat.le_add_right ks 6) hk2) ?_
        refine xs_istore (lv' := [(5, .int 0), (0, .retAddr b), (1, .ref 0), (2, .ref 36), (3, .ref 64), (4, .int (nI i))]) C0 d_Lw_law_960 (by decide) rfl ?_
        refine xs_aload_n C0 d_Lw_law_962 rfl 3 rfl ?_
        refine xs_saload C0 d_Lw_law_963 rfl 1 rfl ?_
        refine xs_iload C0 d_Lw_law_964 5 rfl ?_
        refine xs_iconst (v := 1) C0 d_Lw_law_966 (by decide) ?_
        refine xs_iadd C0 d_Lw_law_967 ?_
        refine xs_top (v' := .int (nI (i + 1))) (by rw [show (1 : Int32) = nI 1 from rfl, nI_add]) ?_
        refine xs_sld C0 hX d_Lw_law_968 (vp_in_nI (n := i + 1) (by omega) (by omega)) ?_
        refine xs_top (v' := .int (xs (i + 1))) (by rw [nI_clamp (by omega)]) ?_
        refine xs_saload C0 d_Lw_law_969 rfl 1 rfl ?_
        refine xs_iload C0 d_Lw_law_970 5 rfl ?_
        refine xs_iconst (v := 2) C0 d_Lw_law_972 (by decide) ?_
        refine xs_iadd C0 d_Lw_law_973 ?_
        refine xs_pc (pc' := 974) rfl ?_
        refine xs_top (v' := .int (nI (i + 2))) (by rw [show (2 : Int32) = nI 2 from rfl, nI_add]) ?_
        refine xs_sld C0 hX d_Lw_law_974 (vp_in_nI (n := i + 2) (by omega) (by omega)) ?_
        refine xs_top (v' := .int (xs (i + 2))) (by rw [nI_clamp (by omega)]) ?_
        refine xs_cV1 (ω' := (wB B S T F H tt ++ (wMB B rl Z cl (m_lay B rl Z.1 cl hc) 0 tt kp pa tr 0 ++ [.inl (1, 1, .inr (.inl (vp_updL o 0 (S.2.1 (xs (i + 1)).toNatClampNeg).toInt64)))]))) (As := [.int (xs (i + 1)), .int (xs (i + 2))]) (st := []) (kc' := kc) (ks' := ks) (v := .int (Z.2.1 (xs (i + 1)).toNatClampNeg)) C0 d_Lw_law_975 l_Lw_115 rfl rfl (by rw [ey]; exact d_state1 h.1 hq rfl) rfl rfl rfl (Nat.le_of_ble_eq_true rfl) (Nat.le_of_ble_eq_true rfl) (Nat.le_refl _) (Nat.le_refl _) (Nat.le_of_succ_le hk1) (Nat.le_trans (Nat.le_add_right ks 6) hk2) ?_
        refine xs_istore (lv' := [(6, .int (Z.2.1 (xs (i + 1)).toNatClampNeg)), (5, .int 0), (0, .retAddr b), (1, .ref 0), (2, .ref 36), (3, .ref 64), (4, .int (nI i))]) C0 d_Lw_law_978 (by decide) rfl ?_
        refine xs_aload_n C0 d_Lw_law_980 rfl 4 rfl ?_
        refine xs_cV1 (ω' := (wB B S T F H tt ++ (wMB B rl Z cl (m_lay B rl Z.1 cl hc) 0 tt kp pa tr 0 ++ [.inl (1, 1, .inr (.inl (vp_updL o 0 (S.2.1 (xs (i + 1)).toNatClampNeg).toInt64)))]))) (As := []) (st := []) (kc' := kc) (ks' := ks) (v := .int 0) C0 d_Lw_law_981 l_Lw_74 rfl rfl d_thrown rfl rfl rfl (Nat.le_of_ble_eq_true rfl) (Nat.le_of_ble_eq_true rfl) (Nat.le_refl _) (Nat.le_refl _) (Nat.le_of_succ_le hk1) (Nat.le_trans (Nat.le_add_right ks 6) hk2) ?_
        refine xs_iload C0 d_Lw_law_984 1 rfl ?_
        refine xs_icmp_eq (tgt := 991) C0 d_Lw_law_986 (by decide) (fun _ => ?_) (fun c9 => absurd rfl c9)
        refine xs_iload C0 d_Lw_law_991 1 rfl ?_
        refine xs_if_ne (tgt := 1008) C0 d_Lw_law_993 (by decide) (fun c9 => absurd rfl c9) (fun _ => ?_)
        refine xs_aload_n C0 d_Lw_law_996 rfl 5 rfl ?_
        refine xs_iconst (v := 0) C0 d_Lw_law_997 (by decide) ?_
        refine xs_top (v' := .int (nI 0)) rfl ?_
        refine xs_lald C0 d_Lw_law_998 rfl (vp_in_nI (n := 0) (by decide) (by decide)) ?_
        refine xs_top (v' := .long ((vp_updL o 0 (S.2.1 (xs (i + 1)).toNatClampNeg).toInt64) 0)) (by rw [nI_clamp (by omega)]) ?_
        refine xs_iload C0 d_Lw_law_999 0 rfl ?_
        refine xs_i2l C0 d_Lw_law_1001 ?_
        refine xs_lcmp C0 d_Lw_law_1002 ?_
        refine xs_if_eq (tgt := 1008) C0 d_Lw_law_1003 (by decide) (fun _ => ?_) (fun c9 => absurd (lg_cmp0.mpr (congrArg Int32.toInt64 (by rw [et]; exact (h.2.2.2.2.1.1 j9 hj16).2.1))) c9)
        refine xs_goto (tgt := 1219) C0 d_Lw_law_1008 (by decide) ?_
        refine xs_lv (lv' := [(0, .retAddr b), (1, .ref 0), (2, .ref 36), (3, .ref 64), (4, .int (nI i))]) [2, 3, 4, 5, 6] rfl ?_
        refine xs_more (Nat.le_succ kc) (Nat.le_add_right ks 6) ?_
        exact k _ _ _ _ _ _ _ _ _ _ _ _ _ _ _ h
      · have ey : (xs (i + 2)) = 2 := hy
        have hp := pI_cur hc B.1 h.1.1.1.2 h
        obtain ⟨⟨b9, F9⟩, H9⟩ : ∃ q, g_cur B B.1 S F = q := ⟨_, rfl⟩
        rw [H9] at hp
        have hb9 : b9 = _ := hp.1
        have e9 : f_hb b9 (xs (i + 1)) = 0 ↔ m_cur Z.2.2.2 (m_lay B rl Z.1 cl hc) (B.1.1 (xs (i + 1)).toNatClampNeg) (B.1.2.1 (xs (i + 1)).toNatClampNeg) = 0 := by rw [et, ej, hb9, p_hb0 _ (show j9 < 32 by omega), q_lit_b _ _ _ _ _ (by omega)]; simp [hj9]
        have e8 : (if ¬ f_hb b9 (xs (i + 1)) = 0 then (1 : Int32) else 0) = (if ¬ m_cur Z.2.2.2 (m_lay B rl Z.1 cl hc) (B.1.1 (xs (i + 1)).toNatClampNeg) (B.1.2.1 (xs (i + 1)).toNatClampNeg) = 0 then 1 else 0) := p_ifn e9 1 0
        refine xs_aload_n C0 d_Lw_law_943 rfl 1 rfl ?_
        refine xs_saload C0 d_Lw_law_944 rfl 0 rfl ?_
        refine xs_iload C0 d_Lw_law_945 4 rfl ?_
        refine xs_iconst (v := 1) C0 d_Lw_law_947 (by decide) ?_
        refine xs_iadd C0 d_Lw_law_948 ?_
        refine xs_top (v' := .int (nI (i + 1))) (by rw [show (1 : Int32) = nI 1 from rfl, nI_add]) ?_
        refine xs_sld C0 hX d_Lw_law_949 (vp_in_nI (n := i + 1) (by omega) (by omega)) ?_
        refine xs_top (v' := .int (xs (i + 1))) (by rw [nI_clamp (by omega)]) ?_
        refine xs_saload C0 d_Lw_law_950 rfl 0 rfl ?_
        refine xs_iload C0 d_Lw_law_951 4 rfl ?_
        refine xs_iconst (v := 2) C0 d_Lw_law_953 (by decide) ?_
        refine xs_iadd C0 d_Lw_law_954 ?_
        refine xs_top (v' := .int (nI (i + 2))) (by rw [show (2 : Int32) = nI 2 from rfl, nI_add]) ?_
        refine xs_sld C0 hX d_Lw_law_955 (vp_in_nI (n := i + 2) (by omega) (by omega)) ?_
        refine xs_top (v' := .int (xs (i + 2))) (by rw [nI_clamp (by omega)]) ?_
        refine xs_aload_n C0 d_Lw_law_956 rfl 3 rfl ?_
        refine xs_pc (pc' := 957) rfl ?_
        refine xs_cS1 (ω' := (wB B S T F9 H tt ++ (wMB B rl Z cl hc 0 tt kp pa tr co ++ [.inl (1, 1, .inr (.inl (vp_updL o 0 (if ¬ f_hb b9 (xs (i + 1)) = 0 then (1 : Int32) else 0).toInt64)))]))) (av := [.ref 0, .int (xs (i + 1)), .int (xs (i + 2)), .ref 64]) (st := []) (kc' := kc) (ks' := ks) (v := .int 0) C0 d_Lw_law_957 l_Lw_113 (by rw [ey]; exact l_state (m_state2 h.1.1 hq H9)) rfl rfl rfl (Nat.le_of_ble_eq_true rfl) (Nat.le_of_ble_eq_true rfl) (Nat.le_refl _) (Nat.le_refl _) (Nat.le_of_succ_le hk1) (Nat.le_trans (Nat.le_add_right ks 6) hk2) ?_
        refine xs_istore (lv' := [(5, .int 0), (0, .retAddr b), (1, .ref 0), (2, .ref 36), (3, .ref 64), (4, .int (nI i))]) C0 d_Lw_law_960 (by decide) rfl ?_
        refine xs_aload_n C0 d_Lw_law_962 rfl 3 rfl ?_
        refine xs_saload C0 d_Lw_law_963 rfl 1 rfl ?_
        refine xs_iload C0 d_Lw_law_964 5 rfl ?_
        refine xs_iconst (v := 1) C0 d_Lw_law_966 (by decide) ?_
        refine xs_iadd C0 d_Lw_law_967 ?_
        refine xs_top (v' := .int (nI (i + 1))) (by rw [show (1 : Int32) = nI 1 from rfl, nI_add]) ?_
        refine xs_sld C0 hX d_Lw_law_968 (vp_in_nI (n := i + 1) (by omega) (by omega)) ?_
        refine xs_top (v' := .int (xs (i + 1))) (by rw [nI_clamp (by omega)]) ?_
        refine xs_saload C0 d_Lw_law_969 rfl 1 rfl ?_
        refine xs_iload C0 d_Lw_law_970 5 rfl ?_
        refine xs_iconst (v := 2) C0 d_Lw_law_972 (by decide) ?_
        refine xs_iadd C0 d_Lw_law_973 ?_
        refine xs_pc (pc' := 974) rfl ?_
        refine xs_top (v' := .int (nI (i + 2))) (by rw [show (2 : Int32) = nI 2 from rfl, nI_add]) ?_
        refine xs_sld C0 hX d_Lw_law_974 (vp_in_nI (n := i + 2) (by omega) (by omega)) ?_
        refine xs_top (v' := .int (xs (i + 2))) (by rw [nI_clamp (by omega)]) ?_
        refine xs_cV1 (ω' := (wB B S T F9 H tt ++ (wMB B rl Z cl (m_lay B rl Z.1 cl hc) 0 tt kp pa tr 0 ++ [.inl (1, 1, .inr (.inl (vp_updL o 0 (if ¬ f_hb b9 (xs (i + 1)) = 0 then (1 : Int32) else 0).toInt64)))]))) (As := [.int (xs (i + 1)), .int (xs (i + 2))]) (st := []) (kc' := kc) (ks' := ks) (v := .int (if ¬ m_cur Z.2.2.2 (m_lay B rl Z.1 cl hc) (B.1.1 (xs (i + 1)).toNatClampNeg) (B.1.2.1 (xs (i + 1)).toNatClampNeg) = 0 then 1 else 0)) C0 d_Lw_law_975 l_Lw_115 rfl rfl (by rw [ey]; exact d_state2 h.1 hq rfl) rfl rfl rfl (Nat.le_of_ble_eq_true rfl) (Nat.le_of_ble_eq_true rfl) (Nat.le_refl _) (Nat.le_refl _) (Nat.le_of_succ_le hk1) (Nat.le_trans (Nat.le_add_right ks 6) hk2) ?_
        refine xs_istore (lv' := [(6, .int (if ¬ m_cur Z.2.2.2 (m_lay B rl Z.1 cl hc) (B.1.1 (xs (i + 1)).toNatClampNeg) (B.1.2.1 (xs (i + 1)).toNatClampNeg) = 0 then 1 else 0)), (5, .int 0), (0, .retAddr b), (1, .ref 0), (2, .ref 36), (3, .ref 64), (4, .int (nI i))]) C0 d_Lw_law_978 (by decide) rfl ?_
        refine xs_aload_n C0 d_Lw_law_980 rfl 4 rfl ?_
        refine xs_cV1 (ω' := (wB B S T F9 H tt ++ (wMB B rl Z cl (m_lay B rl Z.1 cl hc) 0 tt kp pa tr 0 ++ [.inl (1, 1, .inr (.inl (vp_updL o 0 (if ¬ f_hb b9 (xs (i + 1)) = 0 then (1 : Int32) else 0).toInt64)))]))) (As := []) (st := []) (kc' := kc) (ks' := ks) (v := .int 0) C0 d_Lw_law_981 l_Lw_74 rfl rfl d_thrown rfl rfl rfl (Nat.le_of_ble_eq_true rfl) (Nat.le_of_ble_eq_true rfl) (Nat.le_refl _) (Nat.le_refl _) (Nat.le_of_succ_le hk1) (Nat.le_trans (Nat.le_add_right ks 6) hk2) ?_
        refine xs_iload C0 d_Lw_law_984 1 rfl ?_
        refine xs_icmp_eq (tgt := 991) C0 d_Lw_law_986 (by decide) (fun _ => ?_) (fun c9 => absurd rfl c9)
        refine xs_iload C0 d_Lw_law_991 1 rfl ?_
        refine xs_if_ne (tgt := 1008) C0 d_Lw_law_993 (by decide) (fun c9 => absurd rfl c9) (fun _ => ?_)
        refine xs_aload_n C0 d_Lw_law_996 rfl 5 rfl ?_
        refine xs_iconst (v := 0) C0 d_Lw_law_997 (by decide) ?_
        refine xs_top (v' := .int (nI 0)) rfl ?_
        refine xs_lald C0 d_Lw_law_998 rfl (vp_in_nI (n := 0) (by decide) (by decide)) ?_
        refine xs_top (v' := .long ((vp_updL o 0 (if ¬ f_hb b9 (xs (i + 1)) = 0 then (1 : Int32) else 0).toInt64) 0)) (by rw [nI_clamp (by omega)]) ?_
        refine xs_iload C0 d_Lw_law_999 0 rfl ?_
        refine xs_i2l C0 d_Lw_law_1001 ?_
        refine xs_lcmp C0 d_Lw_law_1002 ?_
        refine xs_if_eq (tgt := 1008) C0 d_Lw_law_1003 (by decide) (fun _ => ?_) (fun c9 => absurd (lg_cmp0.mpr (congrArg Int32.toInt64 e8)) c9)
        refine xs_goto (tgt := 1219) C0 d_Lw_law_1008 (by decide) ?_
        refine xs_lv (lv' := [(0, .retAddr b), (1, .ref 0), (2, .ref 36), (3, .ref 64), (4, .int (nI i))]) [2, 3, 4, 5, 6] rfl ?_
        refine xs_more (Nat.le_succ kc) (Nat.le_add_right ks 6) ?_
        exact k _ _ _ _ _ _ _ _ _ _ _ _ _ _ _ hp.2
      · have ey : (xs (i + 2)) = 3 := hy
        refine xs_aload_n C0 d_Lw_law_943 rfl 1 rfl ?_
        refine xs_saload C0 d_Lw_law_944 rfl 0 rfl ?_
        refine xs_iload C0 d_Lw_law_945 4 rfl ?_
        refine xs_iconst (v := 1) C0 d_Lw_law_947 (by decide) ?_
        refine xs_iadd C0 d_Lw_law_948 ?_
        refine xs_top (v' := .int (nI (i + 1))) (by rw [show (1 : Int32) = nI 1 from rfl, nI_add]) ?_
        refine xs_sld C0 hX d_Lw_law_949 (vp_in_nI (n := i + 1) (by omega) (by omega)) ?_
        refine xs_top (v' := .int (xs (i + 1))) (by rw [nI_clamp (by omega)]) ?_
        refine xs_saload C0 d_Lw_law_950 rfl 0 rfl ?_
        refine xs_iload C0 d_Lw_law_951 4 rfl ?_
        refine xs_iconst (v := 2) C0 d_Lw_law_953 (by decide) ?_
        refine xs_iadd C0 d_Lw_law_954 ?_
        refine xs_top (v' := .int (nI (i + 2))) (by rw [show (2 : Int32) = nI 2 from rfl, nI_add]) ?_
        refine xs_sld C0 hX d_Lw_law_955 (vp_in_nI (n := i + 2) (by omega) (by omega)) ?_
        refine xs_top (v' := .int (xs (i + 2))) (by rw [nI_clamp (by omega)]) ?_
        refine xs_aload_n C0 d_Lw_law_956 rfl 3 rfl ?_
        refine xs_pc (pc' := 957) rfl ?_
        refine xs_cS1 (ω' := (wB B S T F H tt ++ (wMB B rl Z cl hc 0 tt kp pa tr co ++ [.inl (1, 1, .inr (.inl (vp_updL o 0 (S.2.2.1 (xs (i + 1)).toNatClampNeg).toInt64)))]))) (av := [.ref 0, .int (xs (i + 1)), .int (xs (i + 2)), .ref 64]) (st := []) (kc' := kc) (ks' := ks) (v := .int 0) C0 d_Lw_law_957 l_Lw_113 (by rw [ey]; exact l_state2 (m_state3 h.1.1 hq)) rfl rfl rfl (Nat.le_of_ble_eq_true rfl) (Nat.le_of_ble_eq_true rfl) (Nat.le_refl _) (Nat.le_refl _) (Nat.le_of_succ_le hk1) (Nat.le_trans (Nat.le_add_right ks 6) hk2) ?_
        refine xs_istore (lv' := [(5, .int 0), (0, .retAddr b), (1, .ref 0), (2, .ref 36), (3, .ref 64), (4, .int (nI i))]) C0 d_Lw_law_960 (by decide) rfl ?_
        refine xs_aload_n C0 d_Lw_law_962 rfl 3 rfl ?_
        refine xs_saload C0 d_Lw_law_963 rfl 1 rfl ?_
        refine xs_iload C0 d_Lw_law_964 5 rfl ?_
        refine xs_iconst (v := 1) C0 d_Lw_law_966 (by decide) ?_
        refine xs_iadd C0 d_Lw_law_967 ?_
        refine xs_top (v' := .int (nI (i + 1))) (by rw [show (1 : Int32) = nI 1 from rfl, nI_add]) ?_
        refine xs_sld C0 hX d_Lw_law_968 (vp_in_nI (n := i + 1) (by omega) (by omega)) ?_
        refine xs_top (v' := .int (xs (i + 1))) (by rw [nI_clamp (by omega)]) ?_
        refine xs_saload C0 d_Lw_law_969 rfl 1 rfl ?_
        refine xs_iload C0 d_Lw_law_970 5 rfl ?_
        refine xs_iconst (v := 2) C0 d_Lw_law_972 (by decide) ?_
        refine xs_iadd C0 d_Lw_law_973 ?_
        refine xs_pc (pc' := 974) rfl ?_
        refine xs_top (v' := .int (nI (i + 2))) (by rw [show (2 : Int32) = nI 2 from rfl, nI_add]) ?_
        refine xs_sld C0 hX d_Lw_law_974 (vp_in_nI (n := i + 2) (by omega) (by omega)) ?_
        refine xs_top (v' := .int (xs (i + 2))) (by rw [nI_clamp (by omega)]) ?_
        refine xs_cV1 (ω' := (wB B S T F H tt ++ (wMB B rl Z cl (m_lay B rl Z.1 cl hc) 0 tt kp pa tr 0 ++ [.inl (1, 1, .inr (.inl (vp_updL o 0 (S.2.2.1 (xs (i + 1)).toNatClampNeg).toInt64)))]))) (As := [.int (xs (i + 1)), .int (xs (i + 2))]) (st := []) (kc' := kc) (ks' := ks) (v := .int (Z.2.2.1 (xs (i + 1)).toNatClampNeg)) C0 d_Lw_law_975 l_Lw_115 rfl rfl (by rw [ey]; exact d_state3 h.1 hq rfl) rfl rfl rfl (Nat.le_of_ble_eq_true rfl) (Nat.le_of_ble_eq_true rfl) (Nat.le_refl _) (Nat.le_refl _) (Nat.le_of_succ_le hk1) (Nat.le_trans (Nat.le_add_right ks 6) hk2) ?_
        refine xs_istore (lv' := [(6, .int (Z.2.2.1 (xs (i + 1)).toNatClampNeg)), (5, .int 0), (0, .retAddr b), (1, .ref 0), (2, .ref 36), (3, .ref 64), (4, .int (nI i))]) C0 d_Lw_law_978 (by decide) rfl ?_
        refine xs_aload_n C0 d_Lw_law_980 rfl 4 rfl ?_
        refine xs_cV1 (ω' := (wB B S T F H tt ++ (wMB B rl Z cl (m_lay B rl Z.1 cl hc) 0 tt kp pa tr 0 ++ [.inl (1, 1, .inr (.inl (vp_updL o 0 (S.2.2.1 (xs (i + 1)).toNatClampNeg).toInt64)))]))) (As := []) (st := []) (kc' := kc) (ks' := ks) (v := .int 0) C0 d_Lw_law_981 l_Lw_74 rfl rfl d_thrown rfl rfl rfl (Nat.le_of_ble_eq_true rfl) (Nat.le_of_ble_eq_true rfl) (Nat.le_refl _) (Nat.le_refl _) (Nat.le_of_succ_le hk1) (Nat.le_trans (Nat.le_add_right ks 6) hk2) ?_
        refine xs_iload C0 d_Lw_law_984 1 rfl ?_
        refine xs_icmp_eq (tgt := 991) C0 d_Lw_law_986 (by decide) (fun _ => ?_) (fun c9 => absurd rfl c9)
        refine xs_iload C0 d_Lw_law_991 1 rfl ?_
        refine xs_if_ne (tgt := 1008) C0 d_Lw_law_993 (by decide) (fun c9 => absurd rfl c9) (fun _ => ?_)
        refine xs_aload_n C0 d_Lw_law_996 rfl 5 rfl ?_
        refine xs_iconst (v := 0) C0 d_Lw_law_997 (by decide) ?_
        refine xs_top (v' := .int (nI 0)) rfl ?_
        refine xs_lald C0 d_Lw_law_998 rfl (vp_in_nI (n := 0) (by decide) (by decide)) ?_
        refine xs_top (v' := .long ((vp_updL o 0 (S.2.2.1 (xs (i + 1)).toNatClampNeg).toInt64) 0)) (by rw [nI_clamp (by omega)]) ?_
        refine xs_iload C0 d_Lw_law_999 0 rfl ?_
        refine xs_i2l C0 d_Lw_law_1001 ?_
        refine xs_lcmp C0 d_Lw_law_1002 ?_
        refine xs_if_eq (tgt := 1008) C0 d_Lw_law_1003 (by decide) (fun _ => ?_) (fun c9 => absurd (lg_cmp0.mpr (congrArg Int32.toInt64 (by rw [et]; exact (h.2.2.2.2.1.1 j9 hj16).2.2))) c9)
        refine xs_goto (tgt := 1219) C0 d_Lw_law_1008 (by decide) ?_
        refine xs_lv (lv' := [(0, .retAddr b), (1, .ref 0), (2, .ref 36), (3, .ref 64), (4, .int (nI i))]) [2, 3, 4, 5, 6] rfl ?_
        refine xs_more (Nat.le_succ kc) (Nat.le_add_right ks 6) ?_
        exact k _ _ _ _ _ _ _ _ _ _ _ _ _ _ _ h
    · refine xs_aload_n C0 d_Lw_law_943 rfl 1 rfl ?_
      refine xs_saload C0 d_Lw_law_944 rfl 0 rfl ?_
      refine xs_iload C0 d_Lw_law_945 4 rfl ?_
      refine xs_iconst (v := 1) C0 d_Lw_law_947 (by decide) ?_
      refine xs_iadd C0 d_Lw_law_948 ?_
      refine xs_top (v' := .int (nI (i + 1))) (by rw [show (1 : Int32) = nI 1 from rfl, nI_add]) ?_
      refine xs_sld C0 hX d_Lw_law_949 (vp_in_nI (n := i + 1) (by omega) (by omega)) ?_
      refine xs_top (v' := .int (xs (i + 1))) (by rw [nI_clamp (by omega)]) ?_
      refine xs_saload C0 d_Lw_law_950 rfl 0 rfl ?_
      refine xs_iload C0 d_Lw_law_951 4 rfl ?_
      refine xs_iconst (v := 2) C0 d_Lw_law_953 (by decide) ?_
      refine xs_iadd C0 d_Lw_law_954 ?_
      refine xs_top (v' := .int (nI (i + 2))) (by rw [show (2 : Int32) = nI 2 from rfl, nI_add]) ?_
      refine xs_sld C0 hX d_Lw_law_955 (vp_in_nI (n := i + 2) (by omega) (by omega)) ?_
      refine xs_top (v' := .int (xs (i + 2))) (by rw [nI_clamp (by omega)]) ?_
      refine xs_aload_n C0 d_Lw_law_956 rfl 3 rfl ?_
      refine xs_pc (pc' := 957) rfl ?_
      refine xs_cS1 (ω' := (wB B S T F H tt ++ (wMB B rl Z cl hc 0 tt kp pa tr co ++ [.inl (1, 1, .inr (.inl o))]))) (av := [.ref 0, .int (xs (i + 1)), .int (xs (i + 2)), .ref 64]) (st := []) (kc' := (kc + 1)) (ks' := (ks + 6)) (v := .int 1) C0 d_Lw_law_957 l_Lw_113 (l_stateT (m_stateX h.1.1 hq (p_swst hy0))) rfl rfl rfl (Nat.le_of_ble_eq_true rfl) (Nat.le_of_ble_eq_true rfl) (Nat.le_refl _) (Nat.le_refl _) hk1 hk2 ?_
      refine xs_istore (lv' := [(5, .int 1), (0, .retAddr b), (1, .ref 0), (2, .ref 36), (3, .ref 64), (4, .int (nI i))]) C0 d_Lw_law_960 (by decide) rfl ?_
      refine xs_aload_n C0 d_Lw_law_962 rfl 3 rfl ?_
      refine xs_saload C0 d_Lw_law_963 rfl 1 rfl ?_
      refine xs_iload C0 d_Lw_law_964 5 rfl ?_
      refine xs_iconst (v := 1) C0 d_Lw_law_966 (by decide) ?_
      refine xs_iadd C0 d_Lw_law_967 ?_
      refine xs_top (v' := .int (nI (i + 1))) (by rw [show (1 : Int32) = nI 1 from rfl, nI_add]) ?_
      refine xs_sld C0 hX d_Lw_law_968 (vp_in_nI (n := i + 1) (by omega) (by omega)) ?_
      refine xs_top (v' := .int (xs (i + 1))) (by rw [nI_clamp (by omega)]) ?_
      refine xs_saload C0 d_Lw_law_969 rfl 1 rfl ?_
      refine xs_iload C0 d_Lw_law_970 5 rfl ?_
      refine xs_iconst (v := 2) C0 d_Lw_law_972 (by decide) ?_
      refine xs_iadd C0 d_Lw_law_973 ?_
      refine xs_pc (pc' := 974) rfl ?_
      refine xs_top (v' := .int (nI (i + 2))) (by rw [show (2 : Int32) = nI 2 from rfl, nI_add]) ?_
      refine xs_sld C0 hX d_Lw_law_974 (vp_in_nI (n := i + 2) (by omega) (by omega)) ?_
      refine xs_top (v' := .int (xs (i + 2))) (by rw [nI_clamp (by omega)]) ?_
      refine xs_cV1 (ω' := (wB B S T F H tt ++ (wMB B rl Z cl hc 0 tt kp pa tr 1 ++ [.inl (1, 1, .inr (.inl o))]))) (As := [.int (xs (i + 1)), .int (xs (i + 2))]) (st := []) (kc' := (kc + 1)) (ks' := (ks + 6)) (v := .int 0) C0 d_Lw_law_975 l_Lw_115 rfl rfl (d_stateT h.1 (fun q => hy0 q.2)) rfl rfl rfl (Nat.le_of_ble_eq_true rfl) (Nat.le_of_ble_eq_true rfl) (Nat.le_refl _) (Nat.le_refl _) hk1 hk2 ?_
      refine xs_istore (lv' := [(6, .int 0), (5, .int 1), (0, .retAddr b), (1, .ref 0), (2, .ref 36), (3, .ref 64), (4, .int (nI i))]) C0 d_Lw_law_978 (by decide) rfl ?_
      refine xs_aload_n C0 d_Lw_law_980 rfl 4 rfl ?_
      refine xs_cV1 (ω' := (wB B S T F H tt ++ (wMB B rl Z cl hc 0 tt kp pa tr 1 ++ [.inl (1, 1, .inr (.inl o))]))) (As := []) (st := []) (kc' := (kc + 1)) (ks' := (ks + 6)) (v := .int 1) C0 d_Lw_law_981 l_Lw_74 rfl rfl d_thrown rfl rfl rfl (Nat.le_of_ble_eq_true rfl) (Nat.le_of_ble_eq_true rfl) (Nat.le_refl _) (Nat.le_refl _) hk1 hk2 ?_
      refine xs_iload C0 d_Lw_law_984 1 rfl ?_
      refine xs_icmp_eq (tgt := 991) C0 d_Lw_law_986 (by decide) (fun _ => ?_) (fun c9 => absurd rfl c9)
      refine xs_iload C0 d_Lw_law_991 1 rfl ?_
      refine xs_if_ne (tgt := 1008) C0 d_Lw_law_993 (by decide) (fun _ => ?_) (fun c9 => absurd c9 (by decide))
      refine xs_goto (tgt := 1219) C0 d_Lw_law_1008 (by decide) ?_
      refine xs_lv (lv' := [(0, .retAddr b), (1, .ref 0), (2, .ref 36), (3, .ref 64), (4, .int (nI i))]) [2, 3, 4, 5, 6] rfl ?_
      exact k _ _ _ _ _ _ _ _ _ _ _ _ _ _ _ h
  · refine xs_aload_n C0 d_Lw_law_943 rfl 1 rfl ?_
    refine xs_saload C0 d_Lw_law_944 rfl 0 rfl ?_
    refine xs_iload C0 d_Lw_law_945 4 rfl ?_
    refine xs_iconst (v := 1) C0 d_Lw_law_947 (by decide) ?_
    refine xs_iadd C0 d_Lw_law_948 ?_
    refine xs_top (v' := .int (nI (i + 1))) (by rw [show (1 : Int32) = nI 1 from rfl, nI_add]) ?_
    refine xs_sld C0 hX d_Lw_law_949 (vp_in_nI (n := i + 1) (by omega) (by omega)) ?_
    refine xs_top (v' := .int (xs (i + 1))) (by rw [nI_clamp (by omega)]) ?_
    refine xs_saload C0 d_Lw_law_950 rfl 0 rfl ?_
    refine xs_iload C0 d_Lw_law_951 4 rfl ?_
    refine xs_iconst (v := 2) C0 d_Lw_law_953 (by decide) ?_
    refine xs_iadd C0 d_Lw_law_954 ?_
    refine xs_top (v' := .int (nI (i + 2))) (by rw [show (2 : Int32) = nI 2 from rfl, nI_add]) ?_
    refine xs_sld C0 hX d_Lw_law_955 (vp_in_nI (n := i + 2) (by omega) (by omega)) ?_
    refine xs_top (v' := .int (xs (i + 2))) (by rw [nI_clamp (by omega)]) ?_
    refine xs_aload_n C0 d_Lw_law_956 rfl 3 rfl ?_
    refine xs_pc (pc' := 957) rfl ?_
    refine xs_cS1 (ω' := (wB B S T F H tt ++ (wMB B rl Z cl hc 0 tt kp pa tr co ++ [.inl (1, 1, .inr (.inl o))]))) (av := [.ref 0, .int (xs (i + 1)), .int (xs (i + 2)), .ref 64]) (st := []) (kc' := (kc + 1)) (ks' := (ks + 6)) (v := .int 1) C0 d_Lw_law_957 l_Lw_113 (l_stateT (m_stateT h.1.1 hq)) rfl rfl rfl (Nat.le_of_ble_eq_true rfl) (Nat.le_of_ble_eq_true rfl) (Nat.le_refl _) (Nat.le_refl _) hk1 hk2 ?_
    refine xs_istore (lv' := [(5, .int 1), (0, .retAddr b), (1, .ref 0), (2, .ref 36), (3, .ref 64), (4, .int (nI i))]) C0 d_Lw_law_960 (by decide) rfl ?_
    refine xs_aload_n C0 d_Lw_law_962 rfl 3 rfl ?_
    refine xs_saload C0 d_Lw_law_963 rfl 1 rfl ?_
    refine xs_iload C0 d_Lw_law_964 5 rfl ?_
    refine xs_iconst (v := 1) C0 d_Lw_law_966 (by decide) ?_
    refine xs_iadd C0 d_Lw_law_967 ?_
    refine xs_top (v' := .int (nI (i + 1))) (by rw [show (1 : Int32) = nI 1 from rfl, nI_add]) ?_
    refine xs_sld C0 hX d_Lw_law_968 (vp_in_nI (n := i + 1) (by omega) (by omega)) ?_
    refine xs_top (v' := .int (xs (i + 1))) (by rw [nI_clamp (by omega)]) ?_
    refine xs_saload C0 d_Lw_law_969 rfl 1 rfl ?_
    refine xs_iload C0 d_Lw_law_970 5 rfl ?_
    refine xs_iconst (v := 2) C0 d_Lw_law_972 (by decide) ?_
    refine xs_iadd C0 d_Lw_law_973 ?_
    refine xs_pc (pc' := 974) rfl ?_
    refine xs_top (v' := .int (nI (i + 2))) (by rw [show (2 : Int32) = nI 2 from rfl, nI_add]) ?_
    refine xs_sld C0 hX d_Lw_law_974 (vp_in_nI (n := i + 2) (by omega) (by omega)) ?_
    refine xs_top (v' := .int (xs (i + 2))) (by rw [nI_clamp (by omega)]) ?_
    refine xs_cV1 (ω' := (wB B S T F H tt ++ (wMB B rl Z cl hc 0 tt kp pa tr 1 ++ [.inl (1, 1, .inr (.inl o))]))) (As := [.int (xs (i + 1)), .int (xs (i + 2))]) (st := []) (kc' := (kc + 1)) (ks' := (ks + 6)) (v := .int 0) C0 d_Lw_law_975 l_Lw_115 rfl rfl (d_stateT h.1 (fun q => hq q.1)) rfl rfl rfl (Nat.le_of_ble_eq_true rfl) (Nat.le_of_ble_eq_true rfl) (Nat.le_refl _) (Nat.le_refl _) hk1 hk2 ?_
    refine xs_istore (lv' := [(6, .int 0), (5, .int 1), (0, .retAddr b), (1, .ref 0), (2, .ref 36), (3, .ref 64), (4, .int (nI i))]) C0 d_Lw_law_978 (by decide) rfl ?_
    refine xs_aload_n C0 d_Lw_law_980 rfl 4 rfl ?_
    refine xs_cV1 (ω' := (wB B S T F H tt ++ (wMB B rl Z cl hc 0 tt kp pa tr 1 ++ [.inl (1, 1, .inr (.inl o))]))) (As := []) (st := []) (kc' := (kc + 1)) (ks' := (ks + 6)) (v := .int 1) C0 d_Lw_law_981 l_Lw_74 rfl rfl d_thrown rfl rfl rfl (Nat.le_of_ble_eq_true rfl) (Nat.le_of_ble_eq_true rfl) (Nat.le_refl _) (Nat.le_refl _) hk1 hk2 ?_
    refine xs_iload C0 d_Lw_law_984 1 rfl ?_
    refine xs_icmp_eq (tgt := 991) C0 d_Lw_law_986 (by decide) (fun _ => ?_) (fun c9 => absurd rfl c9)
    refine xs_iload C0 d_Lw_law_991 1 rfl ?_
    refine xs_if_ne (tgt := 1008) C0 d_Lw_law_993 (by decide) (fun _ => ?_) (fun c9 => absurd c9 (by decide))
    refine xs_goto (tgt := 1219) C0 d_Lw_law_1008 (by decide) ?_
    refine xs_lv (lv' := [(0, .retAddr b), (1, .ref 0), (2, .ref 36), (3, .ref 64), (4, .int (nI i))]) [2, 3, 4, 5, 6] rfl ?_
    exact k _ _ _ _ _ _ _ _ _ _ _ _ _ _ _ h
set_option maxHeartbeats 4000000 in
set_option maxRecDepth 100000 in
theorem lc_node {E : xm_X} {Q : State → Prop} {b L i kc ks : Nat} {xs : Nat → Int32} (C0 : xm_C E R_Lw b_Lw_law 7 (some .boolean) [] "law" room_1) (hX : xl_X E b L xs) (hL : L ≤ 2560) (hi4 : i + 4 < L) (hk1 : kc + 1 ≤ 601024) (hk2 : ks + 6 ≤ 7293034) {B : wb} {S T : wt_S} {F : wt_F} {H : wt_H} {tt : Int32} {rl : Nat → Int32} {Z : mt_S} {cl : Nat → Int32} {hc : mt_H} {kp : mt_K} {pa : Nat → Int32} {tr : mt_T} {co : Int32} {o : Nat → Int64} (h : pI B rl S F Z cl) (k : ∀ (B : wb) (S T : wt_S) (F : wt_F) (H : wt_H) (tt : Int32) (rl : Nat → Int32) (Z : mt_S) (cl : Nat → Int32) (hc : mt_H) (kp : mt_K) (pa : Nat → Int32) (tr : mt_T) (co : Int32) (o : Nat → Int64), pI B rl S F Z cl → xm_W E 7 Q (kc + 1) (ks + 6) (wB B S T F H tt ++ (wMB B rl Z cl hc 0 tt kp pa tr co ++ [.inl (1, 1, .inr (.inl o))])) 1219 [(0, .retAddr b), (1, .ref 0), (2, .ref 36), (3, .ref 64), (4, .int (nI i))] []) : xm_W E 7 Q kc ks (wB B S T F H tt ++ (wMB B rl Z cl hc 0 tt kp pa tr co ++ [.inl (1, 1, .inr (.inl o))])) 1037 [(0, .retAddr b), (1, .ref 0), (2, .ref 36), (3, .ref 64), (4, .int (nI i))] [] := by
  have h16 : B.1.2.2 ≤ 16 := h.1.1.1.1
  by_cases hq : gw (xs (i + 1)) 0 47
  · obtain ⟨n, hn, en⟩ := gw_lit 47 rfl (by decide) hq
    have et : (xs (i + 1)).toNatClampNeg = n := by rw [en, nI_clamp (by omega)]
    have f9 := p_fol h.1 h.2.1 h.2.2.2.1 h.2.2.2.2.1.2.1
    have a1 : f_b64 (g_fol B S F).2.2.1 (xs (i + 1)) = 0 ↔ (m_lay B rl Z.1 cl hc).1 (xs (i + 1)).toNatClampNeg = 0 := by rw [et, en]; exact (f9.2.1 n (by omega)).trans (rowR_0 (by omega)).symm
    have a2 : f_b64 (g_fol B S F).2.2.2.1 (xs (i + 1)) = 0 ↔ (m_lay B rl Z.1 cl hc).2 (xs (i + 1)).toNatClampNeg = 0 := by rw [et, en]; exact (f9.2.2.1 n (by omega)).trans (rowR_0 (by omega)).symm
    have e9 : ((if ¬ f_b64 (g_fol B S F).2.2.1 (xs (i + 1)) = 0 then (1 : Int32) else 0) ||| (if ¬ f_b64 (g_fol B S F).2.2.2.1 (xs (i + 1)) = 0 then 2 else 0)) = ((if ¬ (m_lay B rl Z.1 cl hc).1 (xs (i + 1)).toNatClampNeg = 0 then (1 : Int32) else 0) + (if ¬ (m_lay B rl Z.1 cl hc).2 (xs (i + 1)).toNatClampNeg = 0 then 2 else 0)) := by rw [p_node2, p_ifn a1, p_ifn a2]
    refine xs_aload_n C0 d_Lw_law_1037 rfl 1 rfl ?_
    refine xs_saload C0 d_Lw_law_1038 rfl 0 rfl ?_
    refine xs_iload C0 d_Lw_law_1039 4 rfl ?_
    refine xs_iconst (v := 1) C0 d_Lw_law_1041 (by decide) ?_
    refine xs_iadd C0 d_Lw_law_1042 ?_
    refine xs_top (v' := .int (nI (i + 1))) (by rw [show (1 : Int32) = nI 1 from rfl, nI_add]) ?_
    refine xs_sld C0 hX d_Lw_law_1043 (vp_in_nI (n := i + 1) (by omega) (by omega)) ?_
    refine xs_top (v' := .int (xs (i + 1))) (by rw [nI_clamp (by omega)]) ?_
    refine xs_aload_n C0 d_Lw_law_1044 rfl 3 rfl ?_
    refine xs_cS1 (ω' := (wB B S T (g_fol B S F) H tt ++ (wMB B rl Z cl hc 0 tt kp pa tr co ++ [.inl (1, 1, .inr (.inl (vp_updL o 0 ((if ¬ f_b64 (g_fol B S F).2.2.1 (xs (i + 1)) = 0 then (1 : Int32) else 0) ||| (if ¬ f_b64 (g_fol B S F).2.2.2.1 (xs (i + 1)) = 0 then 2 else 0)).toInt64)))]))) (av := [.ref 0, .int (xs (i + 1)), .ref 64]) (st := []) (kc' := kc) (ks' := ks) (v := .int 0) C0 d_Lw_law_1045 l_Lw_124 (l_node (m_node h.1.1 hq rfl)) rfl rfl rfl (Nat.le_of_ble_eq_true rfl) (Nat.le_of_ble_eq_true rfl) (Nat.le_refl _) (Nat.le_refl _) (Nat.le_of_succ_le hk1) (Nat.le_trans (Nat.le_add_right ks 6) hk2) ?_
    refine xs_istore (lv' := [(5, .int 0), (0, .retAddr b), (1, .ref 0), (2, .ref 36), (3, .ref 64), (4, .int (nI i))]) C0 d_Lw_law_1048 (by decide) rfl ?_
    refine xs_aload_n C0 d_Lw_law_1050 rfl 3 rfl ?_
    refine xs_saload C0 d_Lw_law_1051 rfl 1 rfl ?_
    refine xs_iload C0 d_Lw_law_1052 5 rfl ?_
    refine xs_pc (pc' := 1054) rfl ?_
    refine xs_iconst (v := 1) C0 d_Lw_law_1054 (by decide) ?_
    refine xs_iadd C0 d_Lw_law_1055 ?_
    refine xs_top (v' := .int (nI (i + 1))) (by rw [show (1 : Int32) = nI 1 from rfl, nI_add]) ?_
    refine xs_sld C0 hX d_Lw_law_1056 (vp_in_nI (n := i + 1) (by omega) (by omega)) ?_
    refine xs_top (v' := .int (xs (i + 1))) (by rw [nI_clamp (by omega)]) ?_
    refine xs_cV1 (ω' := (wB B S T (g_fol B S F) H tt ++ (wMB B rl Z cl (m_lay B rl Z.1 cl hc) 0 tt kp pa tr 0 ++ [.inl (1, 1, .inr (.inl (vp_updL o 0 ((if ¬ f_b64 (g_fol B S F).2.2.1 (xs (i + 1)) = 0 then (1 : Int32) else 0) ||| (if ¬ f_b64 (g_fol B S F).2.2.2.1 (xs (i + 1)) = 0 then 2 else 0)).toInt64)))]))) (As := [.int (xs (i + 1))]) (st := []) (kc' := kc) (ks' := ks) (v := .int ((if ¬ (m_lay B rl Z.1 cl hc).1 (xs (i + 1)).toNatClampNeg = 0 then (1 : Int32) else 0) + (if ¬ (m_lay B rl Z.1 cl hc).2 (xs (i + 1)).toNatClampNeg = 0 then 2 else 0))) C0 d_Lw_law_1057 l_Lw_126 rfl rfl (d_node h.1 hq rfl) rfl rfl rfl (Nat.le_of_ble_eq_true rfl) (Nat.le_of_ble_eq_true rfl) (Nat.le_refl _) (Nat.le_refl _) (Nat.le_of_succ_le hk1) (Nat.le_trans (Nat.le_add_right ks 6) hk2) ?_
    refine xs_istore (lv' := [(6, .int ((if ¬ (m_lay B rl Z.1 cl hc).1 (xs (i + 1)).toNatClampNeg = 0 then (1 : Int32) else 0) + (if ¬ (m_lay B rl Z.1 cl hc).2 (xs (i + 1)).toNatClampNeg = 0 then 2 else 0))), (5, .int 0), (0, .retAddr b), (1, .ref 0), (2, .ref 36), (3, .ref 64), (4, .int (nI i))]) C0 d_Lw_law_1060 (by decide) rfl ?_
    refine xs_aload_n C0 d_Lw_law_1062 rfl 4 rfl ?_
    refine xs_cV1 (ω' := (wB B S T (g_fol B S F) H tt ++ (wMB B rl Z cl (m_lay B rl Z.1 cl hc) 0 tt kp pa tr 0 ++ [.inl (1, 1, .inr (.inl (vp_updL o 0 ((if ¬ f_b64 (g_fol B S F).2.2.1 (xs (i + 1)) = 0 then (1 : Int32) else 0) ||| (if ¬ f_b64 (g_fol B S F).2.2.2.1 (xs (i + 1)) = 0 then 2 else 0)).toInt64)))]))) (As := []) (st := []) (kc' := kc) (ks' := ks) (v := .int 0) C0 d_Lw_law_1063 l_Lw_74 rfl rfl d_thrown rfl rfl rfl (Nat.le_of_ble_eq_true rfl) (Nat.le_of_ble_eq_true rfl) (Nat.le_refl _) (Nat.le_refl _) (Nat.le_of_succ_le hk1) (Nat.le_trans (Nat.le_add_right ks 6) hk2) ?_
    refine xs_iload C0 d_Lw_law_1066 1 rfl ?_
    refine xs_icmp_eq (tgt := 1073) C0 d_Lw_law_1068 (by decide) (fun _ => ?_) (fun c9 => absurd rfl c9)
    refine xs_iload C0 d_Lw_law_1073 1 rfl ?_
    refine xs_if_ne (tgt := 1090) C0 d_Lw_law_1075 (by decide) (fun c9 => absurd rfl c9) (fun _ => ?_)
    refine xs_aload_n C0 d_Lw_law_1078 rfl 5 rfl ?_
    refine xs_iconst (v := 0) C0 d_Lw_law_1079 (by decide) ?_
    refine xs_top (v' := .int (nI 0)) rfl ?_
    refine xs_lald C0 d_Lw_law_1080 rfl (vp_in_nI (n := 0) (by decide) (by decide)) ?_
    refine xs_top (v' := .long ((vp_updL o 0 ((if ¬ f_b64 (g_fol B S F).2.2.1 (xs (i + 1)) = 0 then (1 : Int32) else 0) ||| (if ¬ f_b64 (g_fol B S F).2.2.2.1 (xs (i + 1)) = 0 then 2 else 0)).toInt64) 0)) (by rw [nI_clamp (by omega)]) ?_
    refine xs_iload C0 d_Lw_law_1081 0 rfl ?_
    refine xs_i2l C0 d_Lw_law_1083 ?_
    refine xs_lcmp C0 d_Lw_law_1084 ?_
    refine xs_if_eq (tgt := 1090) C0 d_Lw_law_1085 (by decide) (fun _ => ?_) (fun c9 => absurd (lg_cmp0.mpr (congrArg Int32.toInt64 e9)) c9)
    refine xs_goto (tgt := 1219) C0 d_Lw_law_1090 (by decide) ?_
    refine xs_lv (lv' := [(0, .retAddr b), (1, .ref 0), (2, .ref 36), (3, .ref 64), (4, .int (nI i))]) [2, 3, 4, 5, 6] rfl ?_
    refine xs_more (Nat.le_succ kc) (Nat.le_add_right ks 6) ?_
    exact k _ _ _ _ _ _ _ _ _ _ _ _ _ _ _ (pI_fol h)
  · refine xs_aload_n C0 d_Lw_law_1037 rfl 1 rfl ?_
    refine xs_saload C0 d_Lw_law_1038 rfl 0 rfl ?_
    refine xs_iload C0 d_Lw_law_1039 4 rfl ?_
    refine xs_iconst (v := 1) C0 d_Lw_law_1041 (by decide) ?_
    refine xs_iadd C0 d_Lw_law_1042 ?_
    refine xs_top (v' := .int (nI (i + 1))) (by rw [show (1 : Int32) = nI 1 from rfl, nI_add]) ?_
    refine xs_sld C0 hX d_Lw_law_1043 (vp_in_nI (n := i + 1) (by omega) (by omega)) ?_
    refine xs_top (v' := .int (xs (i + 1))) (by rw [nI_clamp (by omega)]) ?_
    refine xs_aload_n C0 d_Lw_law_1044 rfl 3 rfl ?_
    refine xs_cS1 (ω' := (wB B S T F H tt ++ (wMB B rl Z cl hc 0 tt kp pa tr co ++ [.inl (1, 1, .inr (.inl o))]))) (av := [.ref 0, .int (xs (i + 1)), .ref 64]) (st := []) (kc' := (kc + 1)) (ks' := (ks + 6)) (v := .int 1) C0 d_Lw_law_1045 l_Lw_124 (l_nodeT (m_nodeT h.1.1 hq)) rfl rfl rfl (Nat.le_of_ble_eq_true rfl) (Nat.le_of_ble_eq_true rfl) (Nat.le_refl _) (Nat.le_refl _) hk1 hk2 ?_
    refine xs_istore (lv' := [(5, .int 1), (0, .retAddr b), (1, .ref 0), (2, .ref 36), (3, .ref 64), (4, .int (nI i))]) C0 d_Lw_law_1048 (by decide) rfl ?_
    refine xs_aload_n C0 d_Lw_law_1050 rfl 3 rfl ?_
    refine xs_saload C0 d_Lw_law_1051 rfl 1 rfl ?_
    refine xs_iload C0 d_Lw_law_1052 5 rfl ?_
    refine xs_pc (pc' := 1054) rfl ?_
    refine xs_iconst (v := 1) C0 d_Lw_law_1054 (by decide) ?_
    refine xs_iadd C0 d_Lw_law_1055 ?_
    refine xs_top (v' := .int (nI (i + 1))) (by rw [show (1 : Int32) = nI 1 from rfl, nI_add]) ?_
    refine xs_sld C0 hX d_Lw_law_1056 (vp_in_nI (n := i + 1) (by omega) (by omega)) ?_
    refine xs_top (v' := .int (xs (i + 1))) (by rw [nI_clamp (by omega)]) ?_
    refine xs_cV1 (ω' := (wB B S T F H tt ++ (wMB B rl Z cl hc 0 tt kp pa tr 1 ++ [.inl (1, 1, .inr (.inl o))]))) (As := [.int (xs (i + 1))]) (st := []) (kc' := (kc + 1)) (ks' := (ks + 6)) (v := .int 0) C0 d_Lw_law_1057 l_Lw_126 rfl rfl (d_nodeT h.1 hq) rfl rfl rfl (Nat.le_of_ble_eq_true rfl) (Nat.le_of_ble_eq_true rfl) (Nat.le_refl _) (Nat.le_refl _) hk1 hk2 ?_
    refine xs_istore (lv' := [(6, .int 0), (5, .int 1), (0, .retAddr b), (1, .ref 0), (2, .ref 36), (3, .ref 64), (4, .int (nI i))]) C0 d_Lw_law_1060 (by decide) rfl ?_
    refine xs_aload_n C0 d_Lw_law_1062 rfl 4 rfl ?_
    refine xs_cV1 (ω' := (wB B S T F H tt ++ (wMB B rl Z cl hc 0 tt kp pa tr 1 ++ [.inl (1, 1, .inr (.inl o))]))) (As := []) (st := []) (kc' := (kc + 1)) (ks' := (ks + 6)) (v := .int 1) C0 d_Lw_law_1063 l_Lw_74 rfl rfl d_thrown rfl rfl rfl (Nat.le_of_ble_eq_true rfl) (Nat.le_of_ble_eq_true rfl) (Nat.le_refl _) (Nat.le_refl _) hk1 hk2 ?_
    refine xs_iload C0 d_Lw_law_1066 1 rfl ?_
    refine xs_icmp_eq (tgt := 1073) C0 d_Lw_law_1068 (by decide) (fun _ => ?_) (fun c9 => absurd rfl c9)
    refine xs_iload C0 d_Lw_law_1073 1 rfl ?_
    refine xs_if_ne (tgt := 1090) C0 d_Lw_law_1075 (by decide) (fun _ => ?_) (fun c9 => absurd c9 (by decide))
    refine xs_goto (tgt := 1219) C0 d_Lw_law_1090 (by decide) ?_
    refine xs_lv (lv' := [(0, .retAddr b), (1, .ref 0), (2, .ref 36), (3, .ref 64), (4, .int (nI i))]) [2, 3, 4, 5, 6] rfl ?_
    exact k _ _ _ _ _ _ _ _ _ _ _ _ _ _ _ h
set_option maxHeartbeats 4000000 in
set_option maxRecDepth 100000 in
theorem lc_leads {E : xm_X} {Q : State → Prop} {b L i kc ks : Nat} {xs : Nat → Int32} (C0 : xm_C E R_Lw b_Lw_law 7 (some .boolean) [] "law" room_1) (hX : xl_X E b L xs) (hL : L ≤ 2560) (hi4 : i + 4 < L) (hk1 : kc + 1 ≤ 601024) (hk2 : ks + 6 ≤ 7293034) {B : wb} {S T : wt_S} {F : wt_F} {H : wt_H} {tt : Int32} {rl : Nat → Int32} {Z : mt_S} {cl : Nat → Int32} {hc : mt_H} {kp : mt_K} {pa : Nat → Int32} {tr : mt_T} {co : Int32} {o : Nat → Int64} (h : pI B rl S F Z cl) (k : ∀ (B : wb) (S T : wt_S) (F : wt_F) (H : wt_H) (tt : Int32) (rl : Nat → Int32) (Z : mt_S) (cl : Nat → Int32) (hc : mt_H) (kp : mt_K) (pa : Nat → Int32) (tr : mt_T) (co : Int32) (o : Nat → Int64), pI B rl S F Z cl → xm_W E 7 Q (kc + 1) (ks + 6) (wB B S T F H tt ++ (wMB B rl Z cl hc 0 tt kp pa tr co ++ [.inl (1, 1, .inr (.inl o))])) 1219 [(0, .retAddr b), (1, .ref 0), (2, .ref 36), (3, .ref 64), (4, .int (nI i))] []) : xm_W E 7 Q kc ks (wB B S T F H tt ++ (wMB B rl Z cl hc 0 tt kp pa tr co ++ [.inl (1, 1, .inr (.inl o))])) 1093 [(0, .retAddr b), (1, .ref 0), (2, .ref 36), (3, .ref 64), (4, .int (nI i))] [] := by
  have h16 : B.1.2.2 ≤ 16 := h.1.1.1.1
  by_cases hq : gw (xs (i + 1)) 0 47 ∧ gw (xs (i + 2)) 0 47
  · obtain ⟨n, hn, en⟩ := gw_lit 47 rfl (by decide) hq.1
    obtain ⟨m, hm, em⟩ := gw_lit 47 rfl (by decide) hq.2
    have hq1 := hq.1
    rw [en] at hq1
    have f9 := p_fol h.1 h.2.1 h.2.2.2.1 h.2.2.2.2.1.2.1
    have e9 : f_b64 (f_reach (g_fol B S F).1 (xs (i + 1))) (xs (i + 2)) = rowR hc.1 (Rch (m_eh B rl Z.1 cl) n) (xs (i + 2)).toNatClampNeg := by rw [em, nI_clamp (by omega), en]; exact p_leads h hc.1 (by omega) (by omega)
    refine xs_aload_n C0 d_Lw_law_1093 rfl 1 rfl ?_
    refine xs_saload C0 d_Lw_law_1094 rfl 0 rfl ?_
    refine xs_iload C0 d_Lw_law_1095 4 rfl ?_
    refine xs_iconst (v := 1) C0 d_Lw_law_1097 (by decide) ?_
    refine xs_iadd C0 d_Lw_law_1098 ?_
    refine xs_top (v' := .int (nI (i + 1))) (by rw [show (1 : Int32) = nI 1 from rfl, nI_add]) ?_
    refine xs_sld C0 hX d_Lw_law_1099 (vp_in_nI (n := i + 1) (by omega) (by omega)) ?_
    refine xs_top (v' := .int (xs (i + 1))) (by rw [nI_clamp (by omega)]) ?_
    refine xs_saload C0 d_Lw_law_1100 rfl 0 rfl ?_
    refine xs_iload C0 d_Lw_law_1101 4 rfl ?_
    refine xs_iconst (v := 2) C0 d_Lw_law_1103 (by decide) ?_
    refine xs_iadd C0 d_Lw_law_1104 ?_
    refine xs_top (v' := .int (nI (i + 2))) (by rw [show (2 : Int32) = nI 2 from rfl, nI_add]) ?_
    refine xs_sld C0 hX d_Lw_law_1105 (vp_in_nI (n := i + 2) (by omega) (by omega)) ?_
    refine xs_top (v' := .int (xs (i + 2))) (by rw [nI_clamp (by omega)]) ?_
    refine xs_aload_n C0 d_Lw_law_1106 rfl 3 rfl ?_
    refine xs_pc (pc' := 1107) rfl ?_
    refine xs_cS1 (ω' := (wB B S T (g_fol B S F) H tt ++ (wMB B rl Z cl hc 0 tt kp pa tr co ++ [.inl (1, 1, .inr (.inl (vp_updL o 0 (if f_b64 (f_reach (g_fol B S F).1 (xs (i + 1))) (xs (i + 2)) = 0 then 0 else 1))))]))) (av := [.ref 0, .int (xs (i + 1)), .int (xs (i + 2)), .ref 64]) (st := []) (kc' := kc) (ks' := ks) (v := .int 0) C0 d_Lw_law_1107 l_Lw_127 (l_leads (m_leads h.1.1 hq.1 hq.2 f9.2.2.2.2.1 rfl)) rfl rfl rfl (Nat.le_of_ble_eq_true rfl) (Nat.le_of_ble_eq_true rfl) (Nat.le_refl _) (Nat.le_refl _) (Nat.le_of_succ_le hk1) (Nat.le_trans (Nat.le_add_right ks 6) hk2) ?_
    refine xs_istore (lv' := [(5, .int 0), (0, .retAddr b), (1, .ref 0), (2, .ref 36), (3, .ref 64), (4, .int (nI i))]) C0 d_Lw_law_1110 (by decide) rfl ?_
    refine xs_aload_n C0 d_Lw_law_1112 rfl 3 rfl ?_
    refine xs_saload C0 d_Lw_law_1113 rfl 1 rfl ?_
    refine xs_iload C0 d_Lw_law_1114 5 rfl ?_
    refine xs_iconst (v := 1) C0 d_Lw_law_1116 (by decide) ?_
    refine xs_iadd C0 d_Lw_law_1117 ?_
    refine xs_top (v' := .int (nI (i + 1))) (by rw [show (1 : Int32) = nI 1 from rfl, nI_add]) ?_
    refine xs_sld C0 hX d_Lw_law_1118 (vp_in_nI (n := i + 1) (by omega) (by omega)) ?_
    refine xs_top (v' := .int (xs (i + 1))) (by rw [nI_clamp (by omega)]) ?_
    refine xs_saload C0 d_Lw_law_1119 rfl 1 rfl ?_
    refine xs_iload C0 d_Lw_law_1120 5 rfl ?_
    refine xs_iconst (v := 2) C0 d_Lw_law_1122 (by decide) ?_
    refine xs_iadd C0 d_Lw_law_1123 ?_
    refine xs_pc (pc' := 1124) rfl ?_
    refine xs_top (v' := .int (nI (i + 2))) (by rw [show (2 : Int32) = nI 2 from rfl, nI_add]) ?_
    refine xs_sld C0 hX d_Lw_law_1124 (vp_in_nI (n := i + 2) (by omega) (by omega)) ?_
    refine xs_top (v' := .int (xs (i + 2))) (by rw [nI_clamp (by omega)]) ?_
    refine xs_cV1 (ω' := (wB B S T (g_fol B S F) H tt ++ (wMB B rl Z cl (rowR hc.1 (Rch (m_eh B rl Z.1 cl) n), hc.2) 0 tt kp pa tr 0 ++ [.inl (1, 1, .inr (.inl (vp_updL o 0 (if f_b64 (f_reach (g_fol B S F).1 (xs (i + 1))) (xs (i + 2)) = 0 then 0 else 1))))]))) (As := [.int (xs (i + 1)), .int (xs (i + 2))]) (st := []) (kc' := kc) (ks' := ks) (v := .int (rowR hc.1 (Rch (m_eh B rl Z.1 cl) n) (xs (i + 2)).toNatClampNeg)) C0 d_Lw_law_1125 l_Lw_129 rfl rfl (by rw [en]; exact d_leads h.1 (by omega) hq1 hq.2) rfl rfl rfl (Nat.le_of_ble_eq_true rfl) (Nat.le_of_ble_eq_true rfl) (Nat.le_refl _) (Nat.le_refl _) (Nat.le_of_succ_le hk1) (Nat.le_trans (Nat.le_add_right ks 6) hk2) ?_
    refine xs_istore (lv' := [(6, .int (rowR hc.1 (Rch (m_eh B rl Z.1 cl) n) (xs (i + 2)).toNatClampNeg)), (5, .int 0), (0, .retAddr b), (1, .ref 0), (2, .ref 36), (3, .ref 64), (4, .int (nI i))]) C0 d_Lw_law_1128 (by decide) rfl ?_
    refine xs_aload_n C0 d_Lw_law_1130 rfl 4 rfl ?_
    refine xs_cV1 (ω' := (wB B S T (g_fol B S F) H tt ++ (wMB B rl Z cl (rowR hc.1 (Rch (m_eh B rl Z.1 cl) n), hc.2) 0 tt kp pa tr 0 ++ [.inl (1, 1, .inr (.inl (vp_updL o 0 (if f_b64 (f_reach (g_fol B S F).1 (xs (i + 1))) (xs (i + 2)) = 0 then 0 else 1))))]))) (As := []) (st := []) (kc' := kc) (ks' := ks) (v := .int 0) C0 d_Lw_law_1131 l_Lw_74 rfl rfl d_thrown rfl rfl rfl (Nat.le_of_ble_eq_true rfl) (Nat.le_of_ble_eq_true rfl) (Nat.le_refl _) (Nat.le_refl _) (Nat.le_of_succ_le hk1) (Nat.le_trans (Nat.le_add_right ks 6) hk2) ?_
    refine xs_iload C0 d_Lw_law_1134 1 rfl ?_
    refine xs_icmp_eq (tgt := 1141) C0 d_Lw_law_1136 (by decide) (fun _ => ?_) (fun c9 => absurd rfl c9)
    refine xs_iload C0 d_Lw_law_1141 1 rfl ?_
    refine xs_if_ne (tgt := 1165) C0 d_Lw_law_1143 (by decide) (fun c9 => absurd rfl c9) (fun _ => ?_)
    refine xs_aload_n C0 d_Lw_law_1146 rfl 5 rfl ?_
    refine xs_iconst (v := 0) C0 d_Lw_law_1147 (by decide) ?_
    refine xs_top (v' := .int (nI 0)) rfl ?_
    refine xs_lald C0 d_Lw_law_1148 rfl (vp_in_nI (n := 0) (by decide) (by decide)) ?_
    refine xs_top (v' := .long ((vp_updL o 0 (if f_b64 (f_reach (g_fol B S F).1 (xs (i + 1))) (xs (i + 2)) = 0 then 0 else 1)) 0)) (by rw [nI_clamp (by omega)]) ?_
    refine xs_iload C0 d_Lw_law_1149 0 rfl ?_
    refine xs_if_eq (tgt := 1158) C0 d_Lw_law_1151 (by decide) (fun c5 => ?_) (fun c5 => ?_)
    · refine xs_lconst (v := 0) C0 d_Lw_law_1158 rfl ?_
      refine xs_lcmp C0 d_Lw_law_1159 ?_
      refine xs_if_eq (tgt := 1165) C0 d_Lw_law_1160 (by decide) (fun _ => ?_) (fun c9 => absurd (lg_cmp0.mpr (by show (if _ = 0 then (0 : Int64) else 1) = _; rw [e9, if_pos c5])) c9)
      refine xs_goto (tgt := 1219) C0 d_Lw_law_1165 (by decide) ?_
      refine xs_lv (lv' := [(0, .retAddr b), (1, .ref 0), (2, .ref 36), (3, .ref 64), (4, .int (nI i))]) [2, 3, 4, 5, 6] rfl ?_
      refine xs_more (Nat.le_succ kc) (Nat.le_add_right ks 6) ?_
      exact k _ _ _ _ _ _ _ _ _ _ _ _ _ _ _ (pI_fol h)
    · refine xs_lconst (v := 1) C0 d_Lw_law_1154 rfl ?_
      refine xs_goto (tgt := 1159) C0 d_Lw_law_1155 (by decide) ?_
      refine xs_lcmp C0 d_Lw_law_1159 ?_
      refine xs_if_eq (tgt := 1165) C0 d_Lw_law_1160 (by decide) (fun _ => ?_) (fun c9 => absurd (lg_cmp0.mpr (by show (if _ = 0 then (0 : Int64) else 1) = _; rw [e9, if_neg c5])) c9)
      refine xs_goto (tgt := 1219) C0 d_Lw_law_1165 (by decide) ?_
      refine xs_lv (lv' := [(0, .retAddr b), (1, .ref 0), (2, .ref 36), (3, .ref 64), (4, .int (nI i))]) [2, 3, 4, 5, 6] rfl ?_
      refine xs_more (Nat.le_succ kc) (Nat.le_add_right ks 6) ?_
      exact k _ _ _ _ _ _ _ _ _ _ _ _ _ _ _ (pI_fol h)
  · refine xs_aload_n C0 d_Lw_law_1093 rfl 1 rfl ?_
    refine xs_saload C0 d_Lw_law_1094 rfl 0 rfl ?_
    refine xs_iload C0 d_Lw_law_1095 4 rfl ?_
    refine xs_iconst (v := 1) C0 d_Lw_law_1097 (by decide) ?_
    refine xs_iadd C0 d_Lw_law_1098 ?_
    refine xs_top (v' := .int (nI (i + 1))) (by rw [show (1 : Int32) = nI 1 from rfl, nI_add]) ?_
    refine xs_sld C0 hX d_Lw_law_1099 (vp_in_nI (n := i + 1) (by omega) (by omega)) ?_
    refine xs_top (v' := .int (xs (i + 1))) (by rw [nI_clamp (by omega)]) ?_
    refine xs_saload C0 d_Lw_law_1100 rfl 0 rfl ?_
    refine xs_iload C0 d_Lw_law_1101 4 rfl ?_
    refine xs_iconst (v := 2) C0 d_Lw_law_1103 (by decide) ?_
    refine xs_iadd C0 d_Lw_law_1104 ?_
    refine xs_top (v' := .int (nI (i + 2))) (by rw [show (2 : Int32) = nI 2 from rfl, nI_add]) ?_
    refine xs_sld C0 hX d_Lw_law_1105 (vp_in_nI (n := i + 2) (by omega) (by omega)) ?_
    refine xs_top (v' := .int (xs (i + 2))) (by rw [nI_clamp (by omega)]) ?_
    refine xs_aload_n C0 d_Lw_law_1106 rfl 3 rfl ?_
    refine xs_pc (pc' := 1107) rfl ?_
    refine xs_cS1 (ω' := (wB B S T F H tt ++ (wMB B rl Z cl hc 0 tt kp pa tr co ++ [.inl (1, 1, .inr (.inl o))]))) (av := [.ref 0, .int (xs (i + 1)), .int (xs (i + 2)), .ref 64]) (st := []) (kc' := (kc + 1)) (ks' := (ks + 6)) (v := .int 1) C0 d_Lw_law_1107 l_Lw_127 (l_leadsT (m_leadsT h.1.1 hq)) rfl rfl rfl (Nat.le_of_ble_eq_true rfl) (Nat.le_of_ble_eq_true rfl) (Nat.le_refl _) (Nat.le_refl _) hk1 hk2 ?_
    refine xs_istore (lv' := [(5, .int 1), (0, .retAddr b), (1, .ref 0), (2, .ref 36), (3, .ref 64), (4, .int (nI i))]) C0 d_Lw_law_1110 (by decide) rfl ?_
    refine xs_aload_n C0 d_Lw_law_1112 rfl 3 rfl ?_
    refine xs_saload C0 d_Lw_law_1113 rfl 1 rfl ?_
    refine xs_iload C0 d_Lw_law_1114 5 rfl ?_
    refine xs_iconst (v := 1) C0 d_Lw_law_1116 (by decide) ?_
    refine xs_iadd C0 d_Lw_law_1117 ?_
    refine xs_top (v' := .int (nI (i + 1))) (by rw [show (1 : Int32) = nI 1 from rfl, nI_add]) ?_
    refine xs_sld C0 hX d_Lw_law_1118 (vp_in_nI (n := i + 1) (by omega) (by omega)) ?_
    refine xs_top (v' := .int (xs (i + 1))) (by rw [nI_clamp (by omega)]) ?_
    refine xs_saload C0 d_Lw_law_1119 rfl 1 rfl ?_
    refine xs_iload C0 d_Lw_law_1120 5 rfl ?_
    refine xs_iconst (v := 2) C0 d_Lw_law_1122 (by decide) ?_
    refine xs_iadd C0 d_Lw_law_1123 ?_
    refine xs_pc (pc' := 1124) rfl ?_
    refine xs_top (v' := .int (nI (i + 2))) (by rw [show (2 : Int32) = nI 2 from rfl, nI_add]) ?_
    refine xs_sld C0 hX d_Lw_law_1124 (vp_in_nI (n := i + 2) (by omega) (by omega)) ?_
    refine xs_top (v' := .int (xs (i + 2))) (by rw [nI_clamp (by omega)]) ?_
    refine xs_cV1 (ω' := (wB B S T F H tt ++ (wMB B rl Z cl hc 0 tt kp pa tr 1 ++ [.inl (1, 1, .inr (.inl o))]))) (As := [.int (xs (i + 1)), .int (xs (i + 2))]) (st := []) (kc' := (kc + 1)) (ks' := (ks + 6)) (v := .int 0) C0 d_Lw_law_1125 l_Lw_129 rfl rfl (d_leadsT h.1 hq) rfl rfl rfl (Nat.le_of_ble_eq_true rfl) (Nat.le_of_ble_eq_true rfl) (Nat.le_refl _) (Nat.le_refl _) hk1 hk2 ?_
    refine xs_istore (lv' := [(6, .int 0), (5, .int 1), (0, .retAddr b), (1, .ref 0), (2, .ref 36), (3, .ref 64), (4, .int (nI i))]) C0 d_Lw_law_1128 (by decide) rfl ?_
    refine xs_aload_n C0 d_Lw_law_1130 rfl 4 rfl ?_
    refine xs_cV1 (ω' := (wB B S T F H tt ++ (wMB B rl Z cl hc 0 tt kp pa tr 1 ++ [.inl (1, 1, .inr (.inl o))]))) (As := []) (st := []) (kc' := (kc + 1)) (ks' := (ks + 6)) (v := .int 1) C0 d_Lw_law_1131 l_Lw_74 rfl rfl d_thrown rfl rfl rfl (Nat.le_of_ble_eq_true rfl) (Nat.le_of_ble_eq_true rfl) (Nat.le_refl _) (Nat.le_refl _) hk1 hk2 ?_
    refine xs_iload C0 d_Lw_law_1134 1 rfl ?_
    refine xs_icmp_eq (tgt := 1141) C0 d_Lw_law_1136 (by decide) (fun _ => ?_) (fun c9 => absurd rfl c9)
    refine xs_iload C0 d_Lw_law_1141 1 rfl ?_
    refine xs_if_ne (tgt := 1165) C0 d_Lw_law_1143 (by decide) (fun _ => ?_) (fun c9 => absurd c9 (by decide))
    refine xs_goto (tgt := 1219) C0 d_Lw_law_1165 (by decide) ?_
    refine xs_lv (lv' := [(0, .retAddr b), (1, .ref 0), (2, .ref 36), (3, .ref 64), (4, .int (nI i))]) [2, 3, 4, 5, 6] rfl ?_
    exact k _ _ _ _ _ _ _ _ _ _ _ _ _ _ _ h
set_option maxHeartbeats 4000000 in
set_option maxRecDepth 100000 in
theorem lc_ups {E : xm_X} {Q : State → Prop} {b L i kc ks : Nat} {xs : Nat → Int32} (C0 : xm_C E R_Lw b_Lw_law 7 (some .boolean) [] "law" room_1) (hX : xl_X E b L xs) (hL : L ≤ 2560) (hi4 : i + 4 < L) (hk1 : kc + 1 ≤ 601024) (hk2 : ks + 6 ≤ 7293034) {B : wb} {S T : wt_S} {F : wt_F} {H : wt_H} {tt : Int32} {rl : Nat → Int32} {Z : mt_S} {cl : Nat → Int32} {hc : mt_H} {kp : mt_K} {pa : Nat → Int32} {tr : mt_T} {co : Int32} {o : Nat → Int64} (h : pI B rl S F Z cl) (k : ∀ (B : wb) (S T : wt_S) (F : wt_F) (H : wt_H) (tt : Int32) (rl : Nat → Int32) (Z : mt_S) (cl : Nat → Int32) (hc : mt_H) (kp : mt_K) (pa : Nat → Int32) (tr : mt_T) (co : Int32) (o : Nat → Int64), pI B rl S F Z cl → xm_W E 7 Q (kc + 1) (ks + 6) (wB B S T F H tt ++ (wMB B rl Z cl hc 0 tt kp pa tr co ++ [.inl (1, 1, .inr (.inl o))])) 1219 [(0, .retAddr b), (1, .ref 0), (2, .ref 36), (3, .ref 64), (4, .int (nI i))] []) : xm_W E 7 Q kc ks (wB B S T F H tt ++ (wMB B rl Z cl hc 0 tt kp pa tr co ++ [.inl (1, 1, .inr (.inl o))])) 1011 [(0, .retAddr b), (1, .ref 0), (2, .ref 36), (3, .ref 64), (4, .int (nI i))] [] := by
  have h16 : B.1.2.2 ≤ 16 := h.1.1.1.1
  refine xs_aload_n C0 d_Lw_law_1011 rfl 1 rfl ?_
  refine xs_cV1 (ω' := (wB B S T F H tt ++ (wMB B rl Z cl hc 0 tt kp pa tr co ++ [.inl (1, 1, .inr (.inl o))]))) (As := []) (st := []) (kc' := kc) (ks' := ks) (v := .int S.2.2.2.1) C0 d_Lw_law_1012 l_Lw_116 rfl rfl (m_ups h.1.1) rfl rfl rfl (Nat.le_of_ble_eq_true rfl) (Nat.le_of_ble_eq_true rfl) (Nat.le_refl _) (Nat.le_refl _) (Nat.le_of_succ_le hk1) (Nat.le_trans (Nat.le_add_right ks 6) hk2) ?_
  refine xs_aload_n C0 d_Lw_law_1015 rfl 2 rfl ?_
  refine xs_cV1 (ω' := (wB B S T F H tt ++ (wMB B rl Z cl hc 0 tt kp pa tr 0 ++ [.inl (1, 1, .inr (.inl o))]))) (As := []) (st := [.int S.2.2.2.1]) (kc' := kc) (ks' := ks) (v := .int (m_up Z.1 B.1.2.2)) C0 d_Lw_law_1016 l_Lw_119 rfl rfl (d_ups h.1) rfl rfl rfl (Nat.le_of_ble_eq_true rfl) (Nat.le_of_ble_eq_true rfl) (Nat.le_refl _) (Nat.le_refl _) (Nat.le_of_succ_le hk1) (Nat.le_trans (Nat.le_add_right ks 6) hk2) ?_
  refine xs_icmp_eq (tgt := 1219) C0 d_Lw_law_1019 (by decide) (fun _ => ?_) (fun c9 => absurd (p_ups h16 h.2.2.2.2.1) c9)
  refine xs_more (Nat.le_succ kc) (Nat.le_add_right ks 6) ?_
  exact k _ _ _ _ _ _ _ _ _ _ _ _ _ _ _ h
set_option maxHeartbeats 4000000 in
set_option maxRecDepth 100000 in
theorem lc_lit {E : xm_X} {Q : State → Prop} {b L i kc ks : Nat} {xs : Nat → Int32} (C0 : xm_C E R_Lw b_Lw_law 7 (some .boolean) [] "law" room_1) (hX : xl_X E b L xs) (hL : L ≤ 2560) (hi4 : i + 4 < L) (hk1 : kc + 1 ≤ 601024) (hk2 : ks + 6 ≤ 7293034) {B : wb} {S T : wt_S} {F : wt_F} {H : wt_H} {tt : Int32} {rl : Nat → Int32} {Z : mt_S} {cl : Nat → Int32} {hc : mt_H} {kp : mt_K} {pa : Nat → Int32} {tr : mt_T} {co : Int32} {o : Nat → Int64} (h : pI B rl S F Z cl) (k : ∀ (B : wb) (S T : wt_S) (F : wt_F) (H : wt_H) (tt : Int32) (rl : Nat → Int32) (Z : mt_S) (cl : Nat → Int32) (hc : mt_H) (kp : mt_K) (pa : Nat → Int32) (tr : mt_T) (co : Int32) (o : Nat → Int64), pI B rl S F Z cl → xm_W E 7 Q (kc + 1) (ks + 6) (wB B S T F H tt ++ (wMB B rl Z cl hc 0 tt kp pa tr co ++ [.inl (1, 1, .inr (.inl o))])) 1219 [(0, .retAddr b), (1, .ref 0), (2, .ref 36), (3, .ref 64), (4, .int (nI i))] []) : xm_W E 7 Q kc ks (wB B S T F H tt ++ (wMB B rl Z cl hc 0 tt kp pa tr co ++ [.inl (1, 1, .inr (.inl o))])) 1024 [(0, .retAddr b), (1, .ref 0), (2, .ref 36), (3, .ref 64), (4, .int (nI i))] [] := by
  have h16 : B.1.2.2 ≤ 16 := h.1.1.1.1
  have hp := pI_cur hc B.2.2.2.2.1 h.1.1.2.2.2.2.1.2 h
  obtain ⟨⟨b9, F9⟩, H9⟩ : ∃ q, g_cur B B.2.2.2.2.1 S F = q := ⟨_, rfl⟩
  rw [H9] at hp
  refine xs_aload_n C0 d_Lw_law_1024 rfl 1 rfl ?_
  refine xs_cV1 (ω' := (wB B S T F9 H tt ++ (wMB B rl Z cl hc 0 tt kp pa tr co ++ [.inl (1, 1, .inr (.inl o))]))) (As := []) (st := []) (kc' := kc) (ks' := ks) (v := .int b9) C0 d_Lw_law_1025 l_Lw_120 rfl rfl (m_lit h.1.1 H9) rfl rfl rfl (Nat.le_of_ble_eq_true rfl) (Nat.le_of_ble_eq_true rfl) (Nat.le_refl _) (Nat.le_refl _) (Nat.le_of_succ_le hk1) (Nat.le_trans (Nat.le_add_right ks 6) hk2) ?_
  refine xs_aload_n C0 d_Lw_law_1028 rfl 2 rfl ?_
  refine xs_cV1 (ω' := (wB B S T F9 H tt ++ (wMB B rl Z cl (m_lay B rl Z.1 cl hc) 0 tt kp pa tr 0 ++ [.inl (1, 1, .inr (.inl o))]))) (As := []) (st := [.int b9]) (kc' := kc) (ks' := ks) (v := .int (q_lit Z.2.2.2 (m_lay B rl Z.1 cl hc) B.2.2.2.2.1.1 B.2.2.2.2.1.2.1 B.2.2.2.2.1.2.2)) C0 d_Lw_law_1029 l_Lw_123 rfl rfl (d_lit h.1 rfl) rfl rfl rfl (Nat.le_of_ble_eq_true rfl) (Nat.le_of_ble_eq_true rfl) (Nat.le_refl _) (Nat.le_refl _) (Nat.le_of_succ_le hk1) (Nat.le_trans (Nat.le_add_right ks 6) hk2) ?_
  refine xs_icmp_eq (tgt := 1219) C0 d_Lw_law_1032 (by decide) (fun _ => ?_) (fun c9 => absurd hp.1 c9)
  refine xs_more (Nat.le_succ kc) (Nat.le_add_right ks 6) ?_
  exact k _ _ _ _ _ _ _ _ _ _ _ _ _ _ _ hp.2
set_option maxHeartbeats 4000000 in
set_option maxRecDepth 100000 in
theorem lc_blown {E : xm_X} {Q : State → Prop} {b L i kc ks : Nat} {xs : Nat → Int32} (C0 : xm_C E R_Lw b_Lw_law 7 (some .boolean) [] "law" room_1) (hX : xl_X E b L xs) (hL : L ≤ 2560) (hi4 : i + 4 < L) (hk1 : kc + 1 ≤ 601024) (hk2 : ks + 6 ≤ 7293034) {B : wb} {S T : wt_S} {F : wt_F} {H : wt_H} {tt : Int32} {rl : Nat → Int32} {Z : mt_S} {cl : Nat → Int32} {hc : mt_H} {kp : mt_K} {pa : Nat → Int32} {tr : mt_T} {co : Int32} {o : Nat → Int64} (h : pI B rl S F Z cl) (k : ∀ (B : wb) (S T : wt_S) (F : wt_F) (H : wt_H) (tt : Int32) (rl : Nat → Int32) (Z : mt_S) (cl : Nat → Int32) (hc : mt_H) (kp : mt_K) (pa : Nat → Int32) (tr : mt_T) (co : Int32) (o : Nat → Int64), pI B rl S F Z cl → xm_W E 7 Q (kc + 1) (ks + 6) (wB B S T F H tt ++ (wMB B rl Z cl hc 0 tt kp pa tr co ++ [.inl (1, 1, .inr (.inl o))])) 1219 [(0, .retAddr b), (1, .ref 0), (2, .ref 36), (3, .ref 64), (4, .int (nI i))] []) : xm_W E 7 Q kc ks (wB B S T F H tt ++ (wMB B rl Z cl hc 0 tt kp pa tr co ++ [.inl (1, 1, .inr (.inl o))])) 1168 [(0, .retAddr b), (1, .ref 0), (2, .ref 36), (3, .ref 64), (4, .int (nI i))] [] := by
  have h16 : B.1.2.2 ≤ 16 := h.1.1.1.1
  have hz : z01 Z := by have q := h.2.2.2.2.1.2.2.2.2.1; unfold s01 at q; rw [h.2.2.2.2.1.2.2.2.1] at q; exact q
  refine xs_aload_n C0 d_Lw_law_1168 rfl 1 rfl ?_
  refine xs_cV1 (ω' := (wB B S T F H tt ++ (wMB B rl Z cl hc 0 tt kp pa tr co ++ [.inl (1, 1, .inr (.inl o))]))) (As := []) (st := []) (kc' := kc) (ks' := ks) (v := .int S.2.2.2.2.2.2) C0 d_Lw_law_1169 l_Lw_130 rfl rfl (m_blown h.1.1 h.2.2.2.2.1.2.2.2.2.1) rfl rfl rfl (Nat.le_of_ble_eq_true rfl) (Nat.le_of_ble_eq_true rfl) (Nat.le_refl _) (Nat.le_refl _) (Nat.le_of_succ_le hk1) (Nat.le_trans (Nat.le_add_right ks 6) hk2) ?_
  refine xs_aload_n C0 d_Lw_law_1172 rfl 2 rfl ?_
  refine xs_cV1 (ω' := (wB B S T F H tt ++ (wMB B rl Z cl hc 0 tt kp pa tr 0 ++ [.inl (1, 1, .inr (.inl o))]))) (As := []) (st := [.int S.2.2.2.2.2.2]) (kc' := kc) (ks' := ks) (v := .int Z.2.2.2) C0 d_Lw_law_1173 l_Lw_134 rfl rfl (d_blown h.1 hz) rfl rfl rfl (Nat.le_of_ble_eq_true rfl) (Nat.le_of_ble_eq_true rfl) (Nat.le_refl _) (Nat.le_refl _) (Nat.le_of_succ_le hk1) (Nat.le_trans (Nat.le_add_right ks 6) hk2) ?_
  refine xs_icmp_eq (tgt := 1219) C0 d_Lw_law_1176 (by decide) (fun _ => ?_) (fun c9 => absurd h.2.2.2.2.1.2.2.2.1 c9)
  refine xs_more (Nat.le_succ kc) (Nat.le_add_right ks 6) ?_
  exact k _ _ _ _ _ _ _ _ _ _ _ _ _ _ _ h
set_option maxHeartbeats 4000000 in
set_option maxRecDepth 100000 in
theorem lc_fuse {E : xm_X} {Q : State → Prop} {b L i kc ks : Nat} {xs : Nat → Int32} (C0 : xm_C E R_Lw b_Lw_law 7 (some .boolean) [] "law" room_1) (hX : xl_X E b L xs) (hL : L ≤ 2560) (hi4 : i + 4 < L) (hk1 : kc + 1 ≤ 601024) (hk2 : ks + 6 ≤ 7293034) {B : wb} {S T : wt_S} {F : wt_F} {H : wt_H} {tt : Int32} {rl : Nat → Int32} {Z : mt_S} {cl : Nat → Int32} {hc : mt_H} {kp : mt_K} {pa : Nat → Int32} {tr : mt_T} {co : Int32} {o : Nat → Int64} (h : pI B rl S F Z cl) (k : ∀ (B : wb) (S T : wt_S) (F : wt_F) (H : wt_H) (tt : Int32) (rl : Nat → Int32) (Z : mt_S) (cl : Nat → Int32) (hc : mt_H) (kp : mt_K) (pa : Nat → Int32) (tr : mt_T) (co : Int32) (o : Nat → Int64), pI B rl S F Z cl → xm_W E 7 Q (kc + 1) (ks + 6) (wB B S T F H tt ++ (wMB B rl Z cl hc 0 tt kp pa tr co ++ [.inl (1, 1, .inr (.inl o))])) 1219 [(0, .retAddr b), (1, .ref 0), (2, .ref 36), (3, .ref 64), (4, .int (nI i))] []) : xm_W E 7 Q kc ks (wB B S T F H tt ++ (wMB B rl Z cl hc 0 tt kp pa tr co ++ [.inl (1, 1, .inr (.inl o))])) 1181 [(0, .retAddr b), (1, .ref 0), (2, .ref 36), (3, .ref 64), (4, .int (nI i))] [] := by
  have h16 : B.1.2.2 ≤ 16 := h.1.1.1.1
  have hp := pI_fuse hc h
  obtain ⟨⟨S9, F9⟩, H9⟩ : ∃ q, g_fuse B S F = q := ⟨_, rfl⟩
  obtain ⟨⟨Z9, hc9⟩, G9⟩ : ∃ q, q_fuse B rl cl Z hc = q := ⟨_, rfl⟩
  rw [H9, G9] at hp
  refine xs_aload_n C0 d_Lw_law_1181 rfl 1 rfl ?_
  refine xs_cV1 (ω' := (wB B S9 T F9 H tt ++ (wMB B rl Z cl hc 0 tt kp pa tr co ++ [.inl (1, 1, .inr (.inl o))]))) (As := []) (st := []) (kc' := kc) (ks' := ks) (v := .int (if S9.2.2.2.2.2.2 = 0 then 1 else 0)) C0 d_Lw_law_1182 l_Lw_135 rfl rfl (m_fuse h.1.1 H9) rfl rfl rfl (Nat.le_of_ble_eq_true rfl) (Nat.le_of_ble_eq_true rfl) (Nat.le_refl _) (Nat.le_refl _) (Nat.le_of_succ_le hk1) (Nat.le_trans (Nat.le_add_right ks 6) hk2) ?_
  refine xs_aload_n C0 d_Lw_law_1185 rfl 2 rfl ?_
  refine xs_cV1 (ω' := (wB B S9 T F9 H tt ++ (wMB B rl Z9 cl hc9 0 tt kp pa tr 0 ++ [.inl (1, 1, .inr (.inl o))]))) (As := []) (st := [.int (if S9.2.2.2.2.2.2 = 0 then 1 else 0)]) (kc' := kc) (ks' := ks) (v := .int (if Z9.2.2.2 = 0 then 1 else 0)) C0 d_Lw_law_1186 l_Lw_138 rfl rfl (d_fuse h.1 G9) rfl rfl rfl (Nat.le_of_ble_eq_true rfl) (Nat.le_of_ble_eq_true rfl) (Nat.le_refl _) (Nat.le_refl _) (Nat.le_of_succ_le hk1) (Nat.le_trans (Nat.le_add_right ks 6) hk2) ?_
  refine xs_icmp_eq (tgt := 1219) C0 d_Lw_law_1189 (by decide) (fun _ => ?_) (fun c9 => absurd (by rw [show S9.2.2.2.2.2.2 = Z9.2.2.2 from hp.2.2.2.2.1.2.2.2.1]) c9)
  refine xs_more (Nat.le_succ kc) (Nat.le_add_right ks 6) ?_
  exact k _ _ _ _ _ _ _ _ _ _ _ _ _ _ _ hp
set_option maxHeartbeats 4000000 in
set_option maxRecDepth 100000 in
theorem lc_count {E : xm_X} {Q : State → Prop} {b L i kc ks : Nat} {xs : Nat → Int32} (C0 : xm_C E R_Lw b_Lw_law 7 (some .boolean) [] "law" room_1) (hX : xl_X E b L xs) (hL : L ≤ 2560) (hi4 : i + 4 < L) (hk1 : kc + 1 ≤ 601024) (hk2 : ks + 6 ≤ 7293034) {B : wb} {S T : wt_S} {F : wt_F} {H : wt_H} {tt : Int32} {rl : Nat → Int32} {Z : mt_S} {cl : Nat → Int32} {hc : mt_H} {kp : mt_K} {pa : Nat → Int32} {tr : mt_T} {co : Int32} {o : Nat → Int64} (h : pI B rl S F Z cl) (k : ∀ (B : wb) (S T : wt_S) (F : wt_F) (H : wt_H) (tt : Int32) (rl : Nat → Int32) (Z : mt_S) (cl : Nat → Int32) (hc : mt_H) (kp : mt_K) (pa : Nat → Int32) (tr : mt_T) (co : Int32) (o : Nat → Int64), pI B rl S F Z cl → xm_W E 7 Q (kc + 1) (ks + 6) (wB B S T F H tt ++ (wMB B rl Z cl hc 0 tt kp pa tr co ++ [.inl (1, 1, .inr (.inl o))])) 1219 [(0, .retAddr b), (1, .ref 0), (2, .ref 36), (3, .ref 64), (4, .int (nI i))] []) : xm_W E 7 Q kc ks (wB B S T F H tt ++ (wMB B rl Z cl hc 0 tt kp pa tr co ++ [.inl (1, 1, .inr (.inl o))])) 1194 [(0, .retAddr b), (1, .ref 0), (2, .ref 36), (3, .ref 64), (4, .int (nI i))] [] := by
  have h16 : B.1.2.2 ≤ 16 := h.1.1.1.1
  by_cases hy0 : gw (xs (i + 1)) 0 6
  · rcases p_seven hy0 with hy | hy | hy | hy | hy | hy | hy
    · refine xs_aload_n C0 d_Lw_law_1194 rfl 1 rfl ?_
      refine xs_saload C0 d_Lw_law_1195 rfl 0 rfl ?_
      refine xs_iload C0 d_Lw_law_1196 4 rfl ?_
      refine xs_iconst (v := 1) C0 d_Lw_law_1198 (by decide) ?_
      refine xs_iadd C0 d_Lw_law_1199 ?_
      refine xs_top (v' := .int (nI (i + 1))) (by rw [show (1 : Int32) = nI 1 from rfl, nI_add]) ?_
      refine xs_sld C0 hX d_Lw_law_1200 (vp_in_nI (n := i + 1) (by omega) (by omega)) ?_
      refine xs_top (v' := .int (xs (i + 1))) (by rw [nI_clamp (by omega)]) ?_
      refine xs_cV1 (ω' := (wB B S T F H tt ++ (wMB B rl Z cl hc 0 tt kp pa tr co ++ [.inl (1, 1, .inr (.inl o))]))) (As := [.int (xs (i + 1))]) (st := []) (kc' := kc) (ks' := ks) (v := .int (nI B.1.2.2)) C0 d_Lw_law_1201 l_Lw_139 rfl rfl (by rw [hy]; exact m_cnt0 h.1.1) rfl rfl rfl (Nat.le_of_ble_eq_true rfl) (Nat.le_of_ble_eq_true rfl) (Nat.le_refl _) (Nat.le_refl _) (Nat.le_of_succ_le hk1) (Nat.le_trans (Nat.le_add_right ks 6) hk2) ?_
      refine xs_aload_n C0 d_Lw_law_1204 rfl 2 rfl ?_
      refine xs_saload C0 d_Lw_law_1205 rfl 0 rfl ?_
      refine xs_iload C0 d_Lw_law_1206 4 rfl ?_
      refine xs_iconst (v := 1) C0 d_Lw_law_1208 (by decide) ?_
      refine xs_iadd C0 d_Lw_law_1209 ?_
      refine xs_pc (pc' := 1210) rfl ?_
      refine xs_top (v' := .int (nI (i + 1))) (by rw [show (1 : Int32) = nI 1 from rfl, nI_add]) ?_
      refine xs_sld C0 hX d_Lw_law_1210 (vp_in_nI (n := i + 1) (by omega) (by omega)) ?_
      refine xs_top (v' := .int (xs (i + 1))) (by rw [nI_clamp (by omega)]) ?_
      refine xs_cV1 (ω' := (wB B S T F H tt ++ (wMB B rl Z cl hc 0 tt kp pa tr 0 ++ [.inl (1, 1, .inr (.inl o))]))) (As := [.int (xs (i + 1))]) (st := [.int (nI B.1.2.2)]) (kc' := kc) (ks' := ks) (v := .int (nI B.1.2.2)) C0 d_Lw_law_1211 l_Lw_142 rfl rfl (by rw [hy]; exact d_cnt0 h.1) rfl rfl rfl (Nat.le_of_ble_eq_true rfl) (Nat.le_of_ble_eq_true rfl) (Nat.le_refl _) (Nat.le_refl _) (Nat.le_of_succ_le hk1) (Nat.le_trans (Nat.le_add_right ks 6) hk2) ?_
      refine xs_icmp_eq (tgt := 1219) C0 d_Lw_law_1214 (by decide) (fun _ => ?_) (fun c9 => absurd rfl c9)
      refine xs_more (Nat.le_succ kc) (Nat.le_add_right ks 6) ?_
      exact k _ _ _ _ _ _ _ _ _ _ _ _ _ _ _ h
    · refine xs_aload_n C0 d_Lw_law_1194 rfl 1 rfl ?_
      refine xs_saload C0 d_Lw_law_1195 rfl 0 rfl ?_
      refine xs_iload C0 d_Lw_law_1196 4 rfl ?_
      refine xs_iconst (v := 1) C0 d_Lw_law_1198 (by decide) ?_
      refine xs_iadd C0 d_Lw_law_1199 ?_
      refine xs_top (v' := .int (nI (i + 1))) (by rw [show (1 : Int32) = nI 1 from rfl, nI_add]) ?_
      refine xs_sld C0 hX d_Lw_law_1200 (vp_in_nI (n := i + 1) (by omega) (by omega)) ?_
      refine xs_top (v' := .int (xs (i + 1))) (by rw [nI_clamp (by omega)]) ?_
      refine xs_cV1 (ω' := (wB B S T F H tt ++ (wMB B rl Z cl hc 0 tt kp pa tr co ++ [.inl (1, 1, .inr (.inl o))]))) (As := [.int (xs (i + 1))]) (st := []) (kc' := kc) (ks' := ks) (v := .int (nI B.2.1.2.2)) C0 d_Lw_law_1201 l_Lw_139 rfl rfl (by rw [hy]; exact m_cnt1 h.1.1) rfl rfl rfl (Nat.le_of_ble_eq_true rfl) (Nat.le_of_ble_eq_true rfl) (Nat.le_refl _) (Nat.le_refl _) (Nat.le_of_succ_le hk1) (Nat.le_trans (Nat.le_add_right ks 6) hk2) ?_
      refine xs_aload_n C0 d_Lw_law_1204 rfl 2 rfl ?_
      refine xs_saload C0 d_Lw_law_1205 rfl 0 rfl ?_
      refine xs_iload C0 d_Lw_law_1206 4 rfl ?_
      refine xs_iconst (v := 1) C0 d_Lw_law_1208 (by decide) ?_
      refine xs_iadd C0 d_Lw_law_1209 ?_
      refine xs_pc (pc' := 1210) rfl ?_
      refine xs_top (v' := .int (nI (i + 1))) (by rw [show (1 : Int32) = nI 1 from rfl, nI_add]) ?_
      refine xs_sld C0 hX d_Lw_law_1210 (vp_in_nI (n := i + 1) (by omega) (by omega)) ?_
      refine xs_top (v' := .int (xs (i + 1))) (by rw [nI_clamp (by omega)]) ?_
      refine xs_cV1 (ω' := (wB B S T F H tt ++ (wMB B rl Z cl hc 0 tt kp pa tr 0 ++ [.inl (1, 1, .inr (.inl o))]))) (As := [.int (xs (i + 1))]) (st := [.int (nI B.2.1.2.2)]) (kc' := kc) (ks' := ks) (v := .int (nI B.2.1.2.2)) C0 d_Lw_law_1211 l_Lw_142 rfl rfl (by rw [hy]; exact d_cnt1 h.1) rfl rfl rfl (Nat.le_of_ble_eq_true rfl) (Nat.le_of_ble_eq_true rfl) (Nat.le_refl _) (Nat.le_refl _) (Nat.le_of_succ_le hk1) (Nat.le_trans (Nat.le_add_right ks 6) hk2) ?_
      refine xs_icmp_eq (tgt := 1219) C0 d_Lw_law_1214 (by decide) (fun _ => ?_) (fun c9 => absurd rfl c9)
      refine xs_more (Nat.le_succ kc) (Nat.le_add_right ks 6) ?_
      exact k _ _ _ _ _ _ _ _ _ _ _ _ _ _ _ h
    · refine xs_aload_n C0 d_Lw_law_1194 rfl 1 rfl ?_
      refine xs_saload C0 d_Lw_law_1195 rfl 0 rfl ?_
      refine xs_iload C0 d_Lw_law_1196 4 rfl ?_
      refine xs_iconst (v := 1) C0 d_Lw_law_1198 (by decide) ?_
      refine xs_iadd C0 d_Lw_law_1199 ?_
      refine xs_top (v' := .int (nI (i + 1))) (by rw [show (1 : Int32) = nI 1 from rfl, nI_add]) ?_
      refine xs_sld C0 hX d_Lw_law_1200 (vp_in_nI (n := i + 1) (by omega) (by omega)) ?_
      refine xs_top (v' := .int (xs (i + 1))) (by rw [nI_clamp (by omega)]) ?_
      refine xs_cV1 (ω' := (wB B S T F H tt ++ (wMB B rl Z cl hc 0 tt kp pa tr co ++ [.inl (1, 1, .inr (.inl o))]))) (As := [.int (xs (i + 1))]) (st := []) (kc' := kc) (ks' := ks) (v := .int (nI B.2.2.1.2.2)) C0 d_Lw_law_1201 l_Lw_139 rfl rfl (by rw [hy]; exact m_cnt2 h.1.1) rfl rfl rfl (Nat.le_of_ble_eq_true rfl) (Nat.le_of_ble_eq_true rfl) (Nat.le_refl _) (Nat.le_refl _) (Nat.le_of_succ_le hk1) (Nat.le_trans (Nat.le_add_right ks 6) hk2) ?_
      refine xs_aload_n C0 d_Lw_law_1204 rfl 2 rfl ?_
      refine xs_saload C0 d_Lw_law_1205 rfl 0 rfl ?_
      refine xs_iload C0 d_Lw_law_1206 4 rfl ?_
      refine xs_iconst (v := 1) C0 d_Lw_law_1208 (by decide) ?_
      refine xs_iadd C0 d_Lw_law_1209 ?_
      refine xs_pc (pc' := 1210) rfl ?_
      refine xs_top (v' := .int (nI (i + 1))) (by rw [show (1 : Int32) = nI 1 from rfl, nI_add]) ?_
      refine xs_sld C0 hX d_Lw_law_1210 (vp_in_nI (n := i + 1) (by omega) (by omega)) ?_
      refine xs_top (v' := .int (xs (i + 1))) (by rw [nI_clamp (by omega)]) ?_
      refine xs_cV1 (ω' := (wB B S T F H tt ++ (wMB B rl Z cl hc 0 tt kp pa tr 0 ++ [.inl (1, 1, .inr (.inl o))]))) (As := [.int (xs (i + 1))]) (st := [.int (nI B.2.2.1.2.2)]) (kc' := kc) (ks' := ks) (v := .int (nI B.2.2.1.2.2)) C0 d_Lw_law_1211 l_Lw_142 rfl rfl (by rw [hy]; exact d_cnt2 h.1) rfl rfl rfl (Nat.le_of_ble_eq_true rfl) (Nat.le_of_ble_eq_true rfl) (Nat.le_refl _) (Nat.le_refl _) (Nat.le_of_succ_le hk1) (Nat.le_trans (Nat.le_add_right ks 6) hk2) ?_
      refine xs_icmp_eq (tgt := 1219) C0 d_Lw_law_1214 (by decide) (fun _ => ?_) (fun c9 => absurd rfl c9)
      refine xs_more (Nat.le_succ kc) (Nat.le_add_right ks 6) ?_
      exact k _ _ _ _ _ _ _ _ _ _ _ _ _ _ _ h
    · refine xs_aload_n C0 d_Lw_law_1194 rfl 1 rfl ?_
      refine xs_saload C0 d_Lw_law_1195 rfl 0 rfl ?_
      refine xs_iload C0 d_Lw_law_1196 4 rfl ?_
      refine xs_iconst (v := 1) C0 d_Lw_law_1198 (by decide) ?_
      refine xs_iadd C0 d_Lw_law_1199 ?_
      refine xs_top (v' := .int (nI (i + 1))) (by rw [show (1 : Int32) = nI 1 from rfl, nI_add]) ?_
      refine xs_sld C0 hX d_Lw_law_1200 (vp_in_nI (n := i + 1) (by omega) (by omega)) ?_
      refine xs_top (v' := .int (xs (i + 1))) (by rw [nI_clamp (by omega)]) ?_
      refine xs_cV1 (ω' := (wB B S T F H tt ++ (wMB B rl Z cl hc 0 tt kp pa tr co ++ [.inl (1, 1, .inr (.inl o))]))) (As := [.int (xs (i + 1))]) (st := []) (kc' := kc) (ks' := ks) (v := .int (nI B.2.2.2.1.2.2)) C0 d_Lw_law_1201 l_Lw_139 rfl rfl (by rw [hy]; exact m_cnt3 h.1.1) rfl rfl rfl (Nat.le_of_ble_eq_true rfl) (Nat.le_of_ble_eq_true rfl) (Nat.le_refl _) (Nat.le_refl _) (Nat.le_of_succ_le hk1) (Nat.le_trans (Nat.le_add_right ks 6) hk2) ?_
      refine xs_aload_n C0 d_Lw_law_1204 rfl 2 rfl ?_
      refine xs_saload C0 d_Lw_law_1205 rfl 0 rfl ?_
      refine xs_iload C0 d_Lw_law_1206 4 rfl ?_
      refine xs_iconst (v := 1) C0 d_Lw_law_1208 (by decide) ?_
      refine xs_iadd C0 d_Lw_law_1209 ?_
      refine xs_pc (pc' := 1210) rfl ?_
      refine xs_top (v' := .int (nI (i + 1))) (by rw [show (1 : Int32) = nI 1 from rfl, nI_add]) ?_
      refine xs_sld C0 hX d_Lw_law_1210 (vp_in_nI (n := i + 1) (by omega) (by omega)) ?_
      refine xs_top (v' := .int (xs (i + 1))) (by rw [nI_clamp (by omega)]) ?_
      refine xs_cV1 (ω' := (wB B S T F H tt ++ (wMB B rl Z cl hc 0 tt kp pa tr 0 ++ [.inl (1, 1, .inr (.inl o))]))) (As := [.int (xs (i + 1))]) (st := [.int (nI B.2.2.2.1.2.2)]) (kc' := kc) (ks' := ks) (v := .int (nI B.2.2.2.1.2.2)) C0 d_Lw_law_1211 l_Lw_142 rfl rfl (by rw [hy]; exact d_cnt3 h.1) rfl rfl rfl (Nat.le_of_ble_eq_true rfl) (Nat.le_of_ble_eq_true rfl) (Nat.le_refl _) (Nat.le_refl _) (Nat.le_of_succ_le hk1) (Nat.le_trans (Nat.le_add_right ks 6) hk2) ?_
      refine xs_icmp_eq (tgt := 1219) C0 d_Lw_law_1214 (by decide) (fun _ => ?_) (fun c9 => absurd rfl c9)
      refine xs_more (Nat.le_succ kc) (Nat.le_add_right ks 6) ?_
      exact k _ _ _ _ _ _ _ _ _ _ _ _ _ _ _ h
    · refine xs_aload_n C0 d_Lw_law_1194 rfl 1 rfl ?_
      refine xs_saload C0 d_Lw_law_1195 rfl 0 rfl ?_
      refine xs_iload C0 d_Lw_law_1196 4 rfl ?_
      refine xs_iconst (v := 1) C0 d_Lw_law_1198 (by decide) ?_
      refine xs_iadd C0 d_Lw_law_1199 ?_
      refine xs_top (v' := .int (nI (i + 1))) (by rw [show (1 : Int32) = nI 1 from rfl, nI_add]) ?_
      refine xs_sld C0 hX d_Lw_law_1200 (vp_in_nI (n := i + 1) (by omega) (by omega)) ?_
      refine xs_top (v' := .int (xs (i + 1))) (by rw [nI_clamp (by omega)]) ?_
      refine xs_cV1 (ω' := (wB B S T F H tt ++ (wMB B rl Z cl hc 0 tt kp pa tr co ++ [.inl (1, 1, .inr (.inl o))]))) (As := [.int (xs (i + 1))]) (st := []) (kc' := kc) (ks' := ks) (v := .int (nI B.2.2.2.2.1.2.2)) C0 d_Lw_law_1201 l_Lw_139 rfl rfl (by rw [hy]; exact m_cnt4 h.1.1) rfl rfl rfl (Nat.le_of_ble_eq_true rfl) (Nat.le_of_ble_eq_true rfl) (Nat.le_refl _) (Nat.le_refl _) (Nat.le_of_succ_le hk1) (Nat.le_trans (Nat.le_add_right ks 6) hk2) ?_
      refine xs_aload_n C0 d_Lw_law_1204 rfl 2 rfl ?_
      refine xs_saload C0 d_Lw_law_1205 rfl 0 rfl ?_
      refine xs_iload C0 d_Lw_law_1206 4 rfl ?_
      refine xs_iconst (v := 1) C0 d_Lw_law_1208 (by decide) ?_
      refine xs_iadd C0 d_Lw_law_1209 ?_
      refine xs_pc (pc' := 1210) rfl ?_
      refine xs_top (v' := .int (nI (i + 1))) (by rw [show (1 : Int32) = nI 1 from rfl, nI_add]) ?_
      refine xs_sld C0 hX d_Lw_law_1210 (vp_in_nI (n := i + 1) (by omega) (by omega)) ?_
      refine xs_top (v' := .int (xs (i + 1))) (by rw [nI_clamp (by omega)]) ?_
      refine xs_cV1 (ω' := (wB B S T F H tt ++ (wMB B rl Z cl hc 0 tt kp pa tr 0 ++ [.inl (1, 1, .inr (.inl o))]))) (As := [.int (xs (i + 1))]) (st := [.int (nI B.2.2.2.2.1.2.2)]) (kc' := kc) (ks' := ks) (v := .int (nI B.2.2.2.2.1.2.2)) C0 d_Lw_law_1211 l_Lw_142 rfl rfl (by rw [hy]; exact d_cnt4 h.1) rfl rfl rfl (Nat.le_of_ble_eq_true rfl) (Nat.le_of_ble_eq_true rfl) (Nat.le_refl _) (Nat.le_refl _) (Nat.le_of_succ_le hk1) (Nat.le_trans (Nat.le_add_right ks 6) hk2) ?_
      refine xs_icmp_eq (tgt := 1219) C0 d_Lw_law_1214 (by decide) (fun _ => ?_) (fun c9 => absurd rfl c9)
      refine xs_more (Nat.le_succ kc) (Nat.le_add_right ks 6) ?_
      exact k _ _ _ _ _ _ _ _ _ _ _ _ _ _ _ h
    · refine xs_aload_n C0 d_Lw_law_1194 rfl 1 rfl ?_
      refine xs_saload C0 d_Lw_law_1195 rfl 0 rfl ?_
      refine xs_iload C0 d_Lw_law_1196 4 rfl ?_
      refine xs_iconst (v := 1) C0 d_Lw_law_1198 (by decide) ?_
      refine xs_iadd C0 d_Lw_law_1199 ?_
      refine xs_top (v' := .int (nI (i + 1))) (by rw [show (1 : Int32) = nI 1 from rfl, nI_add]) ?_
      refine xs_sld C0 hX d_Lw_law_1200 (vp_in_nI (n := i + 1) (by omega) (by omega)) ?_
      refine xs_top (v' := .int (xs (i + 1))) (by rw [nI_clamp (by omega)]) ?_
      refine xs_cV1 (ω' := (wB B S T (g_fol B S F) H tt ++ (wMB B rl Z cl hc 0 tt kp pa tr co ++ [.inl (1, 1, .inr (.inl o))]))) (As := [.int (xs (i + 1))]) (st := []) (kc' := kc) (ks' := ks) (v := .int (g_fol B S F).2.2.2.2.1) C0 d_Lw_law_1201 l_Lw_139 rfl rfl (by rw [hy]; exact m_cnt5 h.1.1 rfl) rfl rfl rfl (Nat.le_of_ble_eq_true rfl) (Nat.le_of_ble_eq_true rfl) (Nat.le_refl _) (Nat.le_refl _) (Nat.le_of_succ_le hk1) (Nat.le_trans (Nat.le_add_right ks 6) hk2) ?_
      refine xs_aload_n C0 d_Lw_law_1204 rfl 2 rfl ?_
      refine xs_saload C0 d_Lw_law_1205 rfl 0 rfl ?_
      refine xs_iload C0 d_Lw_law_1206 4 rfl ?_
      refine xs_iconst (v := 1) C0 d_Lw_law_1208 (by decide) ?_
      refine xs_iadd C0 d_Lw_law_1209 ?_
      refine xs_pc (pc' := 1210) rfl ?_
      refine xs_top (v' := .int (nI (i + 1))) (by rw [show (1 : Int32) = nI 1 from rfl, nI_add]) ?_
      refine xs_sld C0 hX d_Lw_law_1210 (vp_in_nI (n := i + 1) (by omega) (by omega)) ?_
      refine xs_top (v' := .int (xs (i + 1))) (by rw [nI_clamp (by omega)]) ?_
      refine xs_cV1 (ω' := (wB B S T (g_fol B S F) H tt ++ (wMB B rl Z cl hc 0 tt kp pa tr 0 ++ [.inl (1, 1, .inr (.inl o))]))) (As := [.int (xs (i + 1))]) (st := [.int (g_fol B S F).2.2.2.2.1]) (kc' := kc) (ks' := ks) (v := .int (m_cnt B.2.2.2.2.2.2.2.1 rl Z.1 B.2.1.2.2)) C0 d_Lw_law_1211 l_Lw_142 rfl rfl (by rw [hy]; exact d_cnt5 h.1) rfl rfl rfl (Nat.le_of_ble_eq_true rfl) (Nat.le_of_ble_eq_true rfl) (Nat.le_refl _) (Nat.le_refl _) (Nat.le_of_succ_le hk1) (Nat.le_trans (Nat.le_add_right ks 6) hk2) ?_
      refine xs_icmp_eq (tgt := 1219) C0 d_Lw_law_1214 (by decide) (fun _ => ?_) (fun c9 => absurd ((p_fol h.1 h.2.1 h.2.2.2.1 h.2.2.2.2.1.2.1).2.2.2.1) c9)
      refine xs_more (Nat.le_succ kc) (Nat.le_add_right ks 6) ?_
      exact k _ _ _ _ _ _ _ _ _ _ _ _ _ _ _ (pI_fol h)
    · refine xs_aload_n C0 d_Lw_law_1194 rfl 1 rfl ?_
      refine xs_saload C0 d_Lw_law_1195 rfl 0 rfl ?_
      refine xs_iload C0 d_Lw_law_1196 4 rfl ?_
      refine xs_iconst (v := 1) C0 d_Lw_law_1198 (by decide) ?_
      refine xs_iadd C0 d_Lw_law_1199 ?_
      refine xs_top (v' := .int (nI (i + 1))) (by rw [show (1 : Int32) = nI 1 from rfl, nI_add]) ?_
      refine xs_sld C0 hX d_Lw_law_1200 (vp_in_nI (n := i + 1) (by omega) (by omega)) ?_
      refine xs_top (v' := .int (xs (i + 1))) (by rw [nI_clamp (by omega)]) ?_
      refine xs_cV1 (ω' := (wB B S T F H tt ++ (wMB B rl Z cl hc 0 tt kp pa tr co ++ [.inl (1, 1, .inr (.inl o))]))) (As := [.int (xs (i + 1))]) (st := []) (kc' := kc) (ks' := ks) (v := .int tt) C0 d_Lw_law_1201 l_Lw_139 rfl rfl (by rw [hy]; exact m_cnt6 h.1.1) rfl rfl rfl (Nat.le_of_ble_eq_true rfl) (Nat.le_of_ble_eq_true rfl) (Nat.le_refl _) (Nat.le_refl _) (Nat.le_of_succ_le hk1) (Nat.le_trans (Nat.le_add_right ks 6) hk2) ?_
      refine xs_aload_n C0 d_Lw_law_1204 rfl 2 rfl ?_
      refine xs_saload C0 d_Lw_law_1205 rfl 0 rfl ?_
      refine xs_iload C0 d_Lw_law_1206 4 rfl ?_
      refine xs_iconst (v := 1) C0 d_Lw_law_1208 (by decide) ?_
      refine xs_iadd C0 d_Lw_law_1209 ?_
      refine xs_pc (pc' := 1210) rfl ?_
      refine xs_top (v' := .int (nI (i + 1))) (by rw [show (1 : Int32) = nI 1 from rfl, nI_add]) ?_
      refine xs_sld C0 hX d_Lw_law_1210 (vp_in_nI (n := i + 1) (by omega) (by omega)) ?_
      refine xs_top (v' := .int (xs (i + 1))) (by rw [nI_clamp (by omega)]) ?_
      refine xs_cV1 (ω' := (wB B S T F H tt ++ (wMB B rl Z cl hc 0 tt kp pa tr 0 ++ [.inl (1, 1, .inr (.inl o))]))) (As := [.int (xs (i + 1))]) (st := [.int tt]) (kc' := kc) (ks' := ks) (v := .int tt) C0 d_Lw_law_1211 l_Lw_142 rfl rfl (by rw [hy]; exact d_cnt6 h.1) rfl rfl rfl (Nat.le_of_ble_eq_true rfl) (Nat.le_of_ble_eq_true rfl) (Nat.le_refl _) (Nat.le_refl _) (Nat.le_of_succ_le hk1) (Nat.le_trans (Nat.le_add_right ks 6) hk2) ?_
      refine xs_icmp_eq (tgt := 1219) C0 d_Lw_law_1214 (by decide) (fun _ => ?_) (fun c9 => absurd rfl c9)
      refine xs_more (Nat.le_succ kc) (Nat.le_add_right ks 6) ?_
      exact k _ _ _ _ _ _ _ _ _ _ _ _ _ _ _ h
  · refine xs_aload_n C0 d_Lw_law_1194 rfl 1 rfl ?_
    refine xs_saload C0 d_Lw_law_1195 rfl 0 rfl ?_
    refine xs_iload C0 d_Lw_law_1196 4 rfl ?_
    refine xs_iconst (v := 1) C0 d_Lw_law_1198 (by decide) ?_
    refine xs_iadd C0 d_Lw_law_1199 ?_
    refine xs_top (v' := .int (nI (i + 1))) (by rw [show (1 : Int32) = nI 1 from rfl, nI_add]) ?_
    refine xs_sld C0 hX d_Lw_law_1200 (vp_in_nI (n := i + 1) (by omega) (by omega)) ?_
    refine xs_top (v' := .int (xs (i + 1))) (by rw [nI_clamp (by omega)]) ?_
    refine xs_cV1 (ω' := (wB B S T F H tt ++ (wMB B rl Z cl hc 0 tt kp pa tr co ++ [.inl (1, 1, .inr (.inl o))]))) (As := [.int (xs (i + 1))]) (st := []) (kc' := kc) (ks' := ks) (v := .int (-1)) C0 d_Lw_law_1201 l_Lw_139 rfl rfl (m_cntX h.1.1 (p_swct hy0)) rfl rfl rfl (Nat.le_of_ble_eq_true rfl) (Nat.le_of_ble_eq_true rfl) (Nat.le_refl _) (Nat.le_refl _) (Nat.le_of_succ_le hk1) (Nat.le_trans (Nat.le_add_right ks 6) hk2) ?_
    refine xs_aload_n C0 d_Lw_law_1204 rfl 2 rfl ?_
    refine xs_saload C0 d_Lw_law_1205 rfl 0 rfl ?_
    refine xs_iload C0 d_Lw_law_1206 4 rfl ?_
    refine xs_iconst (v := 1) C0 d_Lw_law_1208 (by decide) ?_
    refine xs_iadd C0 d_Lw_law_1209 ?_
    refine xs_pc (pc' := 1210) rfl ?_
    refine xs_top (v' := .int (nI (i + 1))) (by rw [show (1 : Int32) = nI 1 from rfl, nI_add]) ?_
    refine xs_sld C0 hX d_Lw_law_1210 (vp_in_nI (n := i + 1) (by omega) (by omega)) ?_
    refine xs_top (v' := .int (xs (i + 1))) (by rw [nI_clamp (by omega)]) ?_
    refine xs_cV1 (ω' := (wB B S T F H tt ++ (wMB B rl Z cl hc 0 tt kp pa tr 0 ++ [.inl (1, 1, .inr (.inl o))]))) (As := [.int (xs (i + 1))]) (st := [.int (-1)]) (kc' := kc) (ks' := ks) (v := .int (-1)) C0 d_Lw_law_1211 l_Lw_142 rfl rfl (d_cntX h.1 ⟨fun e => hy0 (by rw [e]; exact ⟨by decide, by decide⟩), fun e => hy0 (by rw [e]; exact ⟨by decide, by decide⟩), fun e => hy0 (by rw [e]; exact ⟨by decide, by decide⟩), fun e => hy0 (by rw [e]; exact ⟨by decide, by decide⟩), fun e => hy0 (by rw [e]; exact ⟨by decide, by decide⟩), fun e => hy0 (by rw [e]; exact ⟨by decide, by decide⟩), fun e => hy0 (by rw [e]; exact ⟨by decide, by decide⟩)⟩) rfl rfl rfl (Nat.le_of_ble_eq_true rfl) (Nat.le_of_ble_eq_true rfl) (Nat.le_refl _) (Nat.le_refl _) (Nat.le_of_succ_le hk1) (Nat.le_trans (Nat.le_add_right ks 6) hk2) ?_
    refine xs_icmp_eq (tgt := 1219) C0 d_Lw_law_1214 (by decide) (fun _ => ?_) (fun c9 => absurd rfl c9)
    refine xs_more (Nat.le_succ kc) (Nat.le_add_right ks 6) ?_
    exact k _ _ _ _ _ _ _ _ _ _ _ _ _ _ _ h
