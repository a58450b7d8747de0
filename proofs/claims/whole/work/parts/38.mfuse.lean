set_option maxHeartbeats 4000000 in
set_option maxRecDepth 100000 in
theorem d_lay {Q0 Q1 Q2 Q3 Q4 : wt_P} {ql qr qk qo : Nat → Int32} {QS QT : wt_S} {QF : wt_F} {QH : wt_H} {qt : Int32} {B : wb} {rl : Nat → Int32} {Z : mt_S} {cl : Nat → Int32} {hc : mt_H} {sl tk : Int32} {kp : mt_K} {pa : Nat → Int32} {tr : mt_T} {co : Int32} {rest : xm_O} {hc1 : mt_H} (hM : okM B rl) (hf : m_lay B rl Z.1 cl hc = hc1) : xm_M y_Md_lay (Cond.code y_Md_lay b_Md_lay 1 none) (xm_rm 2 0 0) [.ref 36] (wd Q0 Q1 Q2 Q3 Q4 ql qr qk qo QS QT QF QH qt ++ (wMB B rl Z cl hc sl tk kp pa tr co ++ rest)) (xm_eq (.inl none) (wd Q0 Q1 Q2 Q3 Q4 ql qr qk qo QS QT QF QH qt ++ (wMB B rl Z cl hc1 sl tk kp pa tr co ++ rest))) := by
  obtain ⟨⟨f0, g0, n0⟩, ⟨f1, g1, n1⟩, ⟨f2, g2, n2⟩, ⟨f3, g3, n3⟩, ⟨f4, g4, n4⟩, pl, dr, ki, ow⟩ := B
  have hB := hM.1
  have hrl := hM.2
  obtain ⟨⟨h0, hp0⟩, ⟨h1, hp1⟩, ⟨h2, hp2⟩, ⟨h3, hp3⟩, ⟨h4, hp4⟩, hk⟩ := id hB
  dsimp only at h0 h1 h2 h3 h4 hp0 hp1 hp2 hp3 hp4 hk hrl
  refine xm_of (by decide) (Nat.le_of_ble_eq_true rfl) (fun E C0 => ?_)
  refine xs_eq (ω' := (wd Q0 Q1 Q2 Q3 Q4 ql qr qk qo QS QT QF QH qt ++ (wM (f0, g0, nI n0) (f1, g1, nI n1) (f2, g2, nI n2) (f3, g3, nI n3) (f4, g4, nI n4) pl dr ki rl Z cl hc sl tk kp pa tr co ++ rest))) (lv' := [(0, .ref 36)]) rfl rfl rfl ?_
  refine xs_aload_n C0 d_Md_lay_0 rfl 0 rfl ?_
  refine xs_aload_n C0 d_Md_lay_1 rfl 0 rfl ?_
  refine xs_get (q := 36) (v := .ref 55) C0 f_Md_65 d_Md_lay_2 rfl rfl ?_
  refine xs_iconst (v := 0) C0 d_Md_lay_5 (by decide) ?_
  refine xs_iconst (v := 0) C0 d_Md_lay_6 (by decide) ?_
  have h048 : 0 < 48 := by decide
  obtain ⟨ms_1, mc_1, mw_1, mb_1⟩ := Z
  obtain ⟨mh_2, mo_2⟩ := hc
  refine xs_cV0 (ω' := (wd Q0 Q1 Q2 Q3 Q4 ql qr qk qo QS QT QF QH qt ++ (wM (f0, g0, nI n0) (f1, g1, nI n1) (f2, g2, nI n2) (f3, g3, nI n3) (f4, g4, nI n4) pl dr ki rl (ms_1, mc_1, mw_1, mb_1) cl (rowR mh_2 (Rch (m_e (f1, g1, nI n1) (f2, g2, nI n2) ki rl ms_1 cl n1 n2 n3 f3 g3) 0), mo_2) sl tk kp pa tr co ++ rest))) (As := [.ref 55, .int 0, .int 0]) (st := []) (kc' := 0) (ks' := 0) C0 d_Md_lay_7 l_Md_133 rfl rfl (d_sprh (a := 0) h1 h2 h3 hp1 hp2 hp3 hrl (by assumption)) rfl rfl rfl (Nat.le_of_ble_eq_true rfl) (Nat.le_of_ble_eq_true rfl) (Nat.le_of_ble_eq_true rfl) (Nat.le_of_ble_eq_true rfl) (Nat.le_of_ble_eq_true rfl) (Nat.le_of_ble_eq_true rfl) ?_
  refine xs_aload_n C0 d_Md_lay_10 rfl 0 rfl ?_
  refine xs_aload_n C0 d_Md_lay_11 rfl 0 rfl ?_
  refine xs_get (q := 36) (v := .ref 56) C0 f_Md_68 d_Md_lay_12 rfl rfl ?_
  refine xs_iconst (v := 1) C0 d_Md_lay_15 (by decide) ?_
  refine xs_iconst (v := 1) C0 d_Md_lay_16 (by decide) ?_
  have h148 : 1 < 48 := by decide
  refine xs_cV0 (ω' := (wd Q0 Q1 Q2 Q3 Q4 ql qr qk qo QS QT QF QH qt ++ (wM (f0, g0, nI n0) (f1, g1, nI n1) (f2, g2, nI n2) (f3, g3, nI n3) (f4, g4, nI n4) pl dr ki rl (ms_1, mc_1, mw_1, mb_1) cl (rowR mh_2 (Rch (m_e (f1, g1, nI n1) (f2, g2, nI n2) ki rl ms_1 cl n1 n2 n3 f3 g3) 0), rowR mo_2 (Rch (m_e (f1, g1, nI n1) (f2, g2, nI n2) ki rl ms_1 cl n1 n2 n3 g3 f3) 1)) sl tk kp pa tr co ++ rest))) (As := [.ref 56, .int 1, .int 1]) (st := []) (kc' := 0) (ks' := 0) C0 d_Md_lay_17 l_Md_133 rfl rfl (d_sprc (a := 1) h1 h2 h3 hp1 hp2 hp3 hrl (by assumption)) rfl rfl rfl (Nat.le_of_ble_eq_true rfl) (Nat.le_of_ble_eq_true rfl) (Nat.le_of_ble_eq_true rfl) (Nat.le_of_ble_eq_true rfl) (Nat.le_of_ble_eq_true rfl) (Nat.le_of_ble_eq_true rfl) ?_
  refine xs_pc (pc' := 20) rfl ?_
  subst hf
  exact xs_vret C0 d_Md_lay_20 (⟨rfl, rfl⟩) (Nat.le_of_ble_eq_true rfl) (Nat.le_of_ble_eq_true rfl)
set_option maxHeartbeats 4000000 in
set_option maxRecDepth 100000 in
theorem d_laf {Q0 Q1 Q2 Q3 Q4 : wt_P} {ql qr qk qo : Nat → Int32} {QS QT : wt_S} {QF : wt_F} {QH : wt_H} {qt : Int32} {B : wb} {rl : Nat → Int32} {Z : mt_S} {cl : Nat → Int32} {hc : mt_H} {sl tk : Int32} {kp : mt_K} {pa : Nat → Int32} {tr : mt_T} {co : Int32} {rest : xm_O} {Z1 : mt_S} {hc1 : mt_H} (hM : okM B rl) (hf : m_laf B rl cl Z hc = (Z1, hc1)) : xm_M y_Md_lookAtFuse (Cond.code y_Md_lookAtFuse b_Md_lookAtFuse 1 none) (xm_rm 3 0 0) [.ref 36] (wd Q0 Q1 Q2 Q3 Q4 ql qr qk qo QS QT QF QH qt ++ (wMB B rl Z cl hc sl tk kp pa tr co ++ rest)) (xm_eq (.inl none) (wd Q0 Q1 Q2 Q3 Q4 ql qr qk qo QS QT QF QH qt ++ (wMB B rl Z1 cl hc1 sl tk kp pa tr co ++ rest))) := by
  obtain ⟨⟨f0, g0, n0⟩, ⟨f1, g1, n1⟩, ⟨f2, g2, n2⟩, ⟨f3, g3, n3⟩, ⟨f4, g4, n4⟩, pl, dr, ki, ow⟩ := B
  have hB := hM.1
  have hrl := hM.2
  obtain ⟨⟨h0, hp0⟩, ⟨h1, hp1⟩, ⟨h2, hp2⟩, ⟨h3, hp3⟩, ⟨h4, hp4⟩, hk⟩ := id hB
  dsimp only at h0 h1 h2 h3 h4 hp0 hp1 hp2 hp3 hp4 hk hrl
  refine xm_of (by decide) (Nat.le_of_ble_eq_true rfl) (fun E C0 => ?_)
  refine xs_eq (ω' := (wd Q0 Q1 Q2 Q3 Q4 ql qr qk qo QS QT QF QH qt ++ (wM (f0, g0, nI n0) (f1, g1, nI n1) (f2, g2, nI n2) (f3, g3, nI n3) (f4, g4, nI n4) pl dr ki rl Z cl hc sl tk kp pa tr co ++ rest))) (lv' := [(0, .ref 36)]) rfl rfl rfl ?_
  refine xs_aload_n C0 d_Md_lookAtFuse_0 rfl 0 rfl ?_
  obtain ⟨ms_1, mc_1, mw_1, mb_1⟩ := Z
  obtain ⟨hc_2, hhc_2⟩ : ∃ X, m_lay ((f0, g0, n0), (f1, g1, n1), (f2, g2, n2), (f3, g3, n3), (f4, g4, n4), pl, dr, ki, ow) rl ms_1 cl hc = X := ⟨_, rfl⟩
  refine xs_cV0 (ω' := (wd Q0 Q1 Q2 Q3 Q4 ql qr qk qo QS QT QF QH qt ++ (wM (f0, g0, nI n0) (f1, g1, nI n1) (f2, g2, nI n2) (f3, g3, nI n3) (f4, g4, nI n4) pl dr ki rl (ms_1, mc_1, mw_1, mb_1) cl hc_2 sl tk kp pa tr co ++ rest))) (As := []) (st := []) (kc' := 0) (ks' := 0) C0 d_Md_lookAtFuse_1 l_Md_141 rfl rfl (d_lay (B := ((f0, g0, n0), (f1, g1, n1), (f2, g2, n2), (f3, g3, n3), (f4, g4, n4), pl, dr, ki, ow)) hM hhc_2) rfl rfl rfl (Nat.le_of_ble_eq_true rfl) (Nat.le_of_ble_eq_true rfl) (Nat.le_of_ble_eq_true rfl) (Nat.le_of_ble_eq_true rfl) (Nat.le_of_ble_eq_true rfl) (Nat.le_of_ble_eq_true rfl) ?_
  refine xs_aload_n C0 d_Md_lookAtFuse_4 rfl 0 rfl ?_
  refine xs_aload_n C0 d_Md_lookAtFuse_5 rfl 0 rfl ?_
  refine xs_get (q := 36) (v := .int mb_1) C0 f_Md_137 d_Md_lookAtFuse_6 rfl rfl ?_
  refine xs_if_ne (tgt := 21) C0 d_Md_lookAtFuse_9 (by decide) (fun c_3 => ?_) (fun c_3 => ?_)
  · refine xs_iconst (v := 1) C0 d_Md_lookAtFuse_21 (by decide) ?_
    refine xs_goto (tgt := 26) C0 d_Md_lookAtFuse_22 (by decide) ?_
    refine xs_put (ω' := (wd Q0 Q1 Q2 Q3 Q4 ql qr qk qo QS QT QF QH qt ++ (wM (f0, g0, nI n0) (f1, g1, nI n1) (f2, g2, nI n2) (f3, g3, nI n3) (f4, g4, nI n4) pl dr ki rl (ms_1, mc_1, mw_1, 1) cl hc_2 sl tk kp pa tr co ++ rest))) C0 f_Md_137 ty_Md_14 d_Md_lookAtFuse_26 rfl (Nat.le_of_ble_eq_true rfl) (xm_zfit (by first | decide | exact xm_b01)) rfl ?_
    rw [m_laf, z_bl] at hf
    dsimp only at hf
    rw [show m_lay ((f0, g0, n0), (f1, g1, n1), (f2, g2, n2), (f3, g3, n3), (f4, g4, n4), pl, dr, ki, ow) rl ms_1 cl hc = _ from hhc_2] at hf
    try dsimp only at hf
    rw [g_or_t c_3] at hf
    cases hf
    exact xs_vret C0 d_Md_lookAtFuse_29 (⟨rfl, rfl⟩) (Nat.le_of_ble_eq_true rfl) (Nat.le_of_ble_eq_true rfl)
  · refine xs_aload_n C0 d_Md_lookAtFuse_12 rfl 0 rfl ?_
    refine xs_get (q := 36) (v := .ref 55) C0 f_Md_65 d_Md_lookAtFuse_13 rfl rfl ?_
    refine xs_iconst (v := 1) C0 d_Md_lookAtFuse_16 (by decide) ?_
    obtain ⟨mh_4, mo_4⟩ := hc_2
    refine xs_zald C0 d_Md_lookAtFuse_17 rfl (vp_in_nI (n := 1) (by decide) (by decide)) ?_
    refine xs_bz_eq (u := 1) (v := 0) (tgt := 25) (J := 26) C0 d_Md_lookAtFuse_18 (by decide) d_Md_lookAtFuse_21 (by decide) d_Md_lookAtFuse_22 (by decide) d_Md_lookAtFuse_25 (by decide) rfl ?_
    refine xs_put (ω' := (wd Q0 Q1 Q2 Q3 Q4 ql qr qk qo QS QT QF QH qt ++ (wM (f0, g0, nI n0) (f1, g1, nI n1) (f2, g2, nI n2) (f3, g3, nI n3) (f4, g4, nI n4) pl dr ki rl (ms_1, mc_1, mw_1, (if ¬ (mh_4 (1 : Int32).toNatClampNeg) = 0 then 1 else 0)) cl (mh_4, mo_4) sl tk kp pa tr co ++ rest))) C0 f_Md_137 ty_Md_14 d_Md_lookAtFuse_26 rfl (Nat.le_of_ble_eq_true rfl) (xm_zfit (by first | decide | exact xm_b01)) rfl ?_
    rw [m_laf, z_bl] at hf
    dsimp only at hf
    rw [show m_lay ((f0, g0, n0), (f1, g1, n1), (f2, g2, n2), (f3, g3, n3), (f4, g4, n4), pl, dr, ki, ow) rl ms_1 cl hc = _ from hhc_2] at hf
    try dsimp only at hf
    rw [g_or_f c_3] at hf
    cases hf
    exact xs_vret C0 d_Md_lookAtFuse_29 (⟨rfl, rfl⟩) (Nat.le_of_ble_eq_true rfl) (Nat.le_of_ble_eq_true rfl)
set_option maxHeartbeats 4000000 in
set_option maxRecDepth 100000 in
theorem d_cur {Q0 Q1 Q2 Q3 Q4 : wt_P} {ql qr qk qo : Nat → Int32} {QS QT : wt_S} {QF : wt_F} {QH : wt_H} {qt : Int32} {P0 : wt_P} {P1 : wt_P} {P2 : wt_P} {P3 : wt_P} {P4 : wt_P} {pl dr ki rl : Nat → Int32} {ms mc mw : Nat → Int32} {mb : Int32} {cl : Nat → Int32} {mh mo : Nat → Int32} {sl tk : Int32} {kp : mt_K} {pa : Nat → Int32} {tr : mt_T} {co : Int32} {rest : xm_O} {a b : Int32} (ha : vp_in a 48) (hb : vp_in b 48) : xm_M y_Md_hasCurrent (Cond.code y_Md_hasCurrent b_Md_hasCurrent 3 (some .boolean)) (xm_rm 0 0 0) [.ref 36, .int a, .int b] (wd Q0 Q1 Q2 Q3 Q4 ql qr qk qo QS QT QF QH qt ++ (wM P0 P1 P2 P3 P4 pl dr ki rl (ms, mc, mw, mb) cl (mh, mo) sl tk kp pa tr co ++ rest)) (xm_eq (.inl (some (.int (m_cur mb (mh, mo) a b)))) (wd Q0 Q1 Q2 Q3 Q4 ql qr qk qo QS QT QF QH qt ++ (wM P0 P1 P2 P3 P4 pl dr ki rl (ms, mc, mw, mb) cl (mh, mo) sl tk kp pa tr co ++ rest))) := by
  refine xm_of (by decide) (Nat.le_of_ble_eq_true rfl) (fun E C0 => ?_)
  refine xs_eq (lv' := [(0, .ref 36), (1, .int a), (2, .int b)]) rfl rfl rfl ?_
  refine xs_aload_n C0 d_Md_hasCurrent_0 rfl 0 rfl ?_
  refine xs_get (q := 36) (v := .int mb) C0 f_Md_137 d_Md_hasCurrent_1 rfl rfl ?_
  refine xs_if_ne (tgt := 47) C0 d_Md_hasCurrent_4 (by decide) (fun c0 => ?_) (fun c0 => ?_)
  · refine xs_iconst (v := 0) C0 d_Md_hasCurrent_47 (by decide) ?_
    exact xs_zret C0 d_Md_hasCurrent_48 (by decide) (⟨by rw [m_cur, if_neg (fun h9 => c0 h9.1)], rfl⟩) (Nat.le_of_ble_eq_true rfl) (Nat.le_of_ble_eq_true rfl)
  · refine xs_aload_n C0 d_Md_hasCurrent_7 rfl 0 rfl ?_
    refine xs_get (q := 36) (v := .ref 55) C0 f_Md_65 d_Md_hasCurrent_8 rfl rfl ?_
    refine xs_iload_n C0 d_Md_hasCurrent_11 rfl 1 rfl ?_
    refine xs_zald C0 d_Md_hasCurrent_12 rfl (by assumption) ?_
    refine xs_if_eq (tgt := 25) C0 d_Md_hasCurrent_13 (by decide) (fun ca => ?_) (fun ca => ?_)
    · refine xs_aload_n C0 d_Md_hasCurrent_25 rfl 0 rfl ?_
      refine xs_get (q := 36) (v := .ref 55) C0 f_Md_65 d_Md_hasCurrent_26 rfl rfl ?_
      refine xs_iload_n C0 d_Md_hasCurrent_29 rfl 2 rfl ?_
      refine xs_zald C0 d_Md_hasCurrent_30 rfl (by assumption) ?_
      refine xs_if_eq (tgt := 47) C0 d_Md_hasCurrent_31 (by decide) (fun cc => ?_) (fun cc => ?_)
      · refine xs_iconst (v := 0) C0 d_Md_hasCurrent_47 (by decide) ?_
        exact xs_zret C0 d_Md_hasCurrent_48 (by decide) (⟨by rw [m_cur, if_neg (fun h9 => h9.2.elim (fun q9 => q9.1 ca) (fun q9 => q9.1 cc))], rfl⟩) (Nat.le_of_ble_eq_true rfl) (Nat.le_of_ble_eq_true rfl)
      · refine xs_aload_n C0 d_Md_hasCurrent_34 rfl 0 rfl ?_
        refine xs_get (q := 36) (v := .ref 56) C0 f_Md_68 d_Md_hasCurrent_35 rfl rfl ?_
        refine xs_iload_n C0 d_Md_hasCurrent_38 rfl 1 rfl ?_
        refine xs_zald C0 d_Md_hasCurrent_39 rfl (by assumption) ?_
        refine xs_bz_eq (u := 1) (v := 0) (tgt := 47) (J := 48) C0 d_Md_hasCurrent_40 (by decide) d_Md_hasCurrent_43 (by decide) d_Md_hasCurrent_44 (by decide) d_Md_hasCurrent_47 (by decide) rfl ?_
        by_cases cd : mo a.toNatClampNeg = 0
        · exact xs_zret C0 d_Md_hasCurrent_48 xm_b01 ⟨by rw [if_neg (fun h9 => h9 cd), m_cur, if_neg (fun h9 => h9.2.elim (fun q9 => q9.1 ca) (fun q9 => q9.2 cd))], rfl⟩ (Nat.le_of_ble_eq_true rfl) (Nat.le_of_ble_eq_true rfl)
        · exact xs_zret C0 d_Md_hasCurrent_48 xm_b01 ⟨by rw [if_pos cd, m_cur, if_pos ⟨c0, Or.inr ⟨cc, cd⟩⟩], rfl⟩ (Nat.le_of_ble_eq_true rfl) (Nat.le_of_ble_eq_true rfl)
    · refine xs_aload_n C0 d_Md_hasCurrent_16 rfl 0 rfl ?_
      refine xs_get (q := 36) (v := .ref 56) C0 f_Md_68 d_Md_hasCurrent_17 rfl rfl ?_
      refine xs_iload_n C0 d_Md_hasCurrent_20 rfl 2 rfl ?_
      refine xs_zald C0 d_Md_hasCurrent_21 rfl (by assumption) ?_
      refine xs_if_ne (tgt := 43) C0 d_Md_hasCurrent_22 (by decide) (fun cb => ?_) (fun cb => ?_)
      · refine xs_iconst (v := 1) C0 d_Md_hasCurrent_43 (by decide) ?_
        refine xs_goto (tgt := 48) C0 d_Md_hasCurrent_44 (by decide) ?_
        exact xs_zret C0 d_Md_hasCurrent_48 (by decide) (⟨by rw [m_cur, if_pos ⟨c0, Or.inl ⟨ca, cb⟩⟩], rfl⟩) (Nat.le_of_ble_eq_true rfl) (Nat.le_of_ble_eq_true rfl)
      · refine xs_aload_n C0 d_Md_hasCurrent_25 rfl 0 rfl ?_
        refine xs_get (q := 36) (v := .ref 55) C0 f_Md_65 d_Md_hasCurrent_26 rfl rfl ?_
        refine xs_iload_n C0 d_Md_hasCurrent_29 rfl 2 rfl ?_
        refine xs_zald C0 d_Md_hasCurrent_30 rfl (by assumption) ?_
        refine xs_if_eq (tgt := 47) C0 d_Md_hasCurrent_31 (by decide) (fun cc => ?_) (fun cc => ?_)
        · refine xs_iconst (v := 0) C0 d_Md_hasCurrent_47 (by decide) ?_
          exact xs_zret C0 d_Md_hasCurrent_48 (by decide) (⟨by rw [m_cur, if_neg (fun h9 => h9.2.elim (fun q9 => q9.2 cb) (fun q9 => q9.1 cc))], rfl⟩) (Nat.le_of_ble_eq_true rfl) (Nat.le_of_ble_eq_true rfl)
        · refine xs_aload_n C0 d_Md_hasCurrent_34 rfl 0 rfl ?_
          refine xs_get (q := 36) (v := .ref 56) C0 f_Md_68 d_Md_hasCurrent_35 rfl rfl ?_
          refine xs_iload_n C0 d_Md_hasCurrent_38 rfl 1 rfl ?_
          refine xs_zald C0 d_Md_hasCurrent_39 rfl (by assumption) ?_
          refine xs_bz_eq (u := 1) (v := 0) (tgt := 47) (J := 48) C0 d_Md_hasCurrent_40 (by decide) d_Md_hasCurrent_43 (by decide) d_Md_hasCurrent_44 (by decide) d_Md_hasCurrent_47 (by decide) rfl ?_
          by_cases cd : mo a.toNatClampNeg = 0
          · exact xs_zret C0 d_Md_hasCurrent_48 xm_b01 ⟨by rw [if_neg (fun h9 => h9 cd), m_cur, if_neg (fun h9 => h9.2.elim (fun q9 => q9.2 cb) (fun q9 => q9.2 cd))], rfl⟩ (Nat.le_of_ble_eq_true rfl) (Nat.le_of_ble_eq_true rfl)
          · exact xs_zret C0 d_Md_hasCurrent_48 xm_b01 ⟨by rw [if_pos cd, m_cur, if_pos ⟨c0, Or.inr ⟨cc, cd⟩⟩], rfl⟩ (Nat.le_of_ble_eq_true rfl) (Nat.le_of_ble_eq_true rfl)
set_option maxHeartbeats 4000000 in
set_option maxRecDepth 100000 in
theorem d_move {Q0 Q1 Q2 Q3 Q4 : wt_P} {ql qr qk qo : Nat → Int32} {QS QT : wt_S} {QF : wt_F} {QH : wt_H} {qt : Int32} {P0 : wt_P} {P1 : wt_P} {P2 : wt_P} {P3 : wt_P} {P4 : wt_P} {pl dr ki rl : Nat → Int32} {ms mc mw : Nat → Int32} {mb : Int32} {cl : Nat → Int32} {hc : mt_H} {sl tk : Int32} {kp : mt_K} {pa : Nat → Int32} {tr : mt_T} {co : Int32} {rest : xm_O} {r cur b : Int32} {Z1 : mt_S} (hr : vp_in r 16) (hf : m_move (ms, mc, mw, mb) r cur (pl r.toNatClampNeg + m_more sl r) (dr r.toNatClampNeg + m_more sl r) = (b, Z1)) : xm_M y_Md_move (Cond.code y_Md_move b_Md_move 5 (some .boolean)) (xm_rm 2 0 0) [.ref 36, .int r, .int cur] (wd Q0 Q1 Q2 Q3 Q4 ql qr qk qo QS QT QF QH qt ++ (wM P0 P1 P2 P3 P4 pl dr ki rl (ms, mc, mw, mb) cl hc sl tk kp pa tr co ++ rest)) (xm_eq (.inl (some (.int b))) (wd Q0 Q1 Q2 Q3 Q4 ql qr qk qo QS QT QF QH qt ++ (wM P0 P1 P2 P3 P4 pl dr ki rl Z1 cl hc sl tk kp pa tr co ++ rest))) := by
  refine xm_of (by decide) (Nat.le_of_ble_eq_true rfl) (fun E C0 => ?_)
  refine xs_eq (lv' := [(0, .ref 36), (1, .int r), (2, .int cur)]) rfl rfl rfl ?_
  refine xs_aload_n C0 d_Md_move_0 rfl 0 rfl ?_
  refine xs_get (q := 36) (v := .ref 41) C0 f_Md_22 d_Md_move_1 rfl rfl ?_
  refine xs_iload_n C0 d_Md_move_4 rfl 1 rfl ?_
  refine xs_iald C0 d_Md_move_5 rfl (by assumption) ?_
  refine xs_istore_n (lv' := [(3, .int (ms r.toNatClampNeg)), (0, .ref 36), (1, .int r), (2, .int cur)]) C0 d_Md_move_6 rfl (by decide) rfl ?_
  refine xs_aload_n C0 d_Md_move_7 rfl 1 rfl ?_
  refine xs_get (q := 36) (v := .ref 42) C0 f_Md_25 d_Md_move_8 rfl rfl ?_
  refine xs_iload_n C0 d_Md_move_11 rfl 2 rfl ?_
  refine xs_iald C0 d_Md_move_12 rfl (by assumption) ?_
  refine xs_istore (lv' := [(4, .int (mc r.toNatClampNeg)), (3, .int (ms r.toNatClampNeg)), (0, .ref 36), (1, .int r), (2, .int cur)]) C0 d_Md_move_13 (by decide) rfl ?_
  refine xs_iload_n C0 d_Md_move_15 rfl 4 rfl ?_
  refine xs_if_eq (tgt := 57) C0 d_Md_move_16 (by decide) (fun c0 => ?_) (fun c0 => ?_)
  · refine xs_iload_n C0 d_Md_move_57 rfl 1 rfl ?_
    refine xs_iconst (v := 2) C0 d_Md_move_58 (by decide) ?_
    refine xs_icmp_eq (tgt := 67) C0 d_Md_move_59 (by decide) (fun ca => ?_) (fun ca => ?_)
    · refine xs_aload_n C0 d_Md_move_67 rfl 2 rfl ?_
      refine xs_iload_n C0 d_Md_move_68 rfl 3 rfl ?_
      refine xs_iload_n C0 d_Md_move_69 rfl 1 rfl ?_
      refine xs_iconst (v := 2) C0 d_Md_move_70 (by decide) ?_
      refine xs_icmp_ne (tgt := 78) C0 d_Md_move_71 (by decide) (fun c9 => absurd ca c9) (fun _ => ?_)
      refine xs_iconst (v := 1) C0 d_Md_move_74 (by decide) ?_
      refine xs_goto (tgt := 82) C0 d_Md_move_75 (by decide) ?_
      obtain ⟨Z_1, hZ_1⟩ : ∃ X, m_fall (ms, mc, mw, mb) r 1 (dr r.toNatClampNeg + m_more sl r) = X := ⟨_, rfl⟩
      refine xs_cV0 (ω' := (wd Q0 Q1 Q2 Q3 Q4 ql qr qk qo QS QT QF QH qt ++ (wM P0 P1 P2 P3 P4 pl dr ki rl Z_1 cl hc sl tk kp pa tr co ++ rest))) (As := [.int r, .int 1]) (st := []) (kc' := 0) (ks' := 0) C0 d_Md_move_82 l_Md_161 rfl rfl (d_fall (by assumption) hZ_1) rfl rfl rfl (Nat.le_of_ble_eq_true rfl) (Nat.le_of_ble_eq_true rfl) (Nat.le_of_ble_eq_true rfl) (Nat.le_of_ble_eq_true rfl) (Nat.le_of_ble_eq_true rfl) (Nat.le_of_ble_eq_true rfl) ?_
      refine xs_goto (tgt := 94) C0 d_Md_move_85 (by decide) ?_
      refine xs_aload_n C0 d_Md_move_94 rfl 2 rfl ?_
      refine xs_get (q := 36) (v := .ref 41) C0 f_Md_22 d_Md_move_95 rfl rfl ?_
      refine xs_iload_n C0 d_Md_move_98 rfl 3 rfl ?_
      obtain ⟨ms_2, mc_2, mw_2, mb_2⟩ := Z_1
      refine xs_iald C0 d_Md_move_99 rfl (by assumption) ?_
      refine xs_iload_n C0 d_Md_move_100 rfl 1 rfl ?_
      refine xs_icmp_ne (tgt := 115) C0 d_Md_move_101 (by decide) (fun ce => ?_) (fun ce => ?_)
      · refine xs_iconst (v := 1) C0 d_Md_move_115 (by decide) ?_
        refine xs_goto (tgt := 120) C0 d_Md_move_116 (by decide) ?_
        have hz : m_next (ms, mc, mw, mb) r cur (pl r.toNatClampNeg + m_more sl r) (dr r.toNatClampNeg + m_more sl r) = (ms_2, mc_2, mw_2, mb_2) := by rw [m_next]; dsimp only; rw [if_pos c0, if_pos ca]; exact hZ_1
        rw [m_move, hz] at hf
        cases hf
        exact xs_zret C0 d_Md_move_120 (by first | decide | exact xm_b01) (⟨by rw [m_chg, if_neg ce], rfl⟩) (Nat.le_of_ble_eq_true rfl) (Nat.le_of_ble_eq_true rfl)
      · refine xs_aload_n C0 d_Md_move_104 rfl 2 rfl ?_
        refine xs_get (q := 36) (v := .ref 42) C0 f_Md_25 d_Md_move_105 rfl rfl ?_
        refine xs_iload_n C0 d_Md_move_108 rfl 3 rfl ?_
        refine xs_iald C0 d_Md_move_109 rfl (by assumption) ?_
        refine xs_iload C0 d_Md_move_110 0 rfl ?_
        refine xs_bi_eq (u := 1) (v := 0) (tgt := 119) (J := 120) C0 d_Md_move_112 (by decide) d_Md_move_115 (by decide) d_Md_move_116 (by decide) d_Md_move_119 (by decide) rfl ?_
        have hz : m_next (ms, mc, mw, mb) r cur (pl r.toNatClampNeg + m_more sl r) (dr r.toNatClampNeg + m_more sl r) = (ms_2, mc_2, mw_2, mb_2) := by rw [m_next]; dsimp only; rw [if_pos c0, if_pos ca]; exact hZ_1
        rw [m_move, hz] at hf
        cases hf
        exact xs_zret C0 d_Md_move_120 (by first | decide | exact xm_b01) (⟨by rw [m_chg, if_pos ce], rfl⟩) (Nat.le_of_ble_eq_true rfl) (Nat.le_of_ble_eq_true rfl)
    · refine xs_iload_n C0 d_Md_move_62 rfl 1 rfl ?_
      refine xs_iconst (v := 3) C0 d_Md_move_63 (by decide) ?_
      refine xs_icmp_ne (tgt := 88) C0 d_Md_move_64 (by decide) (fun cb => ?_) (fun cb => ?_)
      · refine xs_aload_n C0 d_Md_move_88 rfl 2 rfl ?_
        refine xs_iload_n C0 d_Md_move_89 rfl 3 rfl ?_
        refine xs_iconst (v := 0) C0 d_Md_move_90 (by decide) ?_
        obtain ⟨Z_3, hZ_3⟩ : ∃ X, m_hold (ms, mc, mw, mb) r 0 = X := ⟨_, rfl⟩
        refine xs_cV0 (ω' := (wd Q0 Q1 Q2 Q3 Q4 ql qr qk qo QS QT QF QH qt ++ (wM P0 P1 P2 P3 P4 pl dr ki rl Z_3 cl hc sl tk kp pa tr co ++ rest))) (As := [.int r, .int 0]) (st := []) (kc' := 0) (ks' := 0) C0 d_Md_move_91 l_Md_158 rfl rfl (d_hold (by assumption) hZ_3) rfl rfl rfl (Nat.le_of_ble_eq_true rfl) (Nat.le_of_ble_eq_true rfl) (Nat.le_of_ble_eq_true rfl) (Nat.le_of_ble_eq_true rfl) (Nat.le_of_ble_eq_true rfl) (Nat.le_of_ble_eq_true rfl) ?_
        refine xs_aload_n C0 d_Md_move_94 rfl 2 rfl ?_
        refine xs_get (q := 36) (v := .ref 41) C0 f_Md_22 d_Md_move_95 rfl rfl ?_
        refine xs_iload_n C0 d_Md_move_98 rfl 3 rfl ?_
        obtain ⟨ms_4, mc_4, mw_4, mb_4⟩ := Z_3
        refine xs_iald C0 d_Md_move_99 rfl (by assumption) ?_
        refine xs_iload_n C0 d_Md_move_100 rfl 1 rfl ?_
        refine xs_icmp_ne (tgt := 115) C0 d_Md_move_101 (by decide) (fun ce => ?_) (fun ce => ?_)
        · refine xs_iconst (v := 1) C0 d_Md_move_115 (by decide) ?_
          refine xs_goto (tgt := 120) C0 d_Md_move_116 (by decide) ?_
          have hz : m_next (ms, mc, mw, mb) r cur (pl r.toNatClampNeg + m_more sl r) (dr r.toNatClampNeg + m_more sl r) = (ms_4, mc_4, mw_4, mb_4) := by rw [m_next]; dsimp only; rw [if_pos c0, if_neg ca, if_neg cb]; exact hZ_3
          rw [m_move, hz] at hf
          cases hf
          exact xs_zret C0 d_Md_move_120 (by first | decide | exact xm_b01) (⟨by rw [m_chg, if_neg ce], rfl⟩) (Nat.le_of_ble_eq_true rfl) (Nat.le_of_ble_eq_true rfl)
        · refine xs_aload_n C0 d_Md_move_104 rfl 2 rfl ?_
          refine xs_get (q := 36) (v := .ref 42) C0 f_Md_25 d_Md_move_105 rfl rfl ?_
          refine xs_iload_n C0 d_Md_move_108 rfl 3 rfl ?_
          refine xs_iald C0 d_Md_move_109 rfl (by assumption) ?_
          refine xs_iload C0 d_Md_move_110 0 rfl ?_
          refine xs_bi_eq (u := 1) (v := 0) (tgt := 119) (J := 120) C0 d_Md_move_112 (by decide) d_Md_move_115 (by decide) d_Md_move_116 (by decide) d_Md_move_119 (by decide) rfl ?_
          have hz : m_next (ms, mc, mw, mb) r cur (pl r.toNatClampNeg + m_more sl r) (dr r.toNatClampNeg + m_more sl r) = (ms_4, mc_4, mw_4, mb_4) := by rw [m_next]; dsimp only; rw [if_pos c0, if_neg ca, if_neg cb]; exact hZ_3
          rw [m_move, hz] at hf
          cases hf
          exact xs_zret C0 d_Md_move_120 (by first | decide | exact xm_b01) (⟨by rw [m_chg, if_pos ce], rfl⟩) (Nat.le_of_ble_eq_true rfl) (Nat.le_of_ble_eq_true rfl)
      · refine xs_aload_n C0 d_Md_move_67 rfl 2 rfl ?_
        refine xs_iload_n C0 d_Md_move_68 rfl 3 rfl ?_
        refine xs_iload_n C0 d_Md_move_69 rfl 1 rfl ?_
        refine xs_iconst (v := 2) C0 d_Md_move_70 (by decide) ?_
        refine xs_icmp_ne (tgt := 78) C0 d_Md_move_71 (by decide) (fun _ => ?_) (fun c9 => absurd c9 ca)
        refine xs_iload C0 d_Md_move_78 0 rfl ?_
        refine xs_iconst (v := 1) C0 d_Md_move_80 (by decide) ?_
        refine xs_iadd C0 d_Md_move_81 ?_
        obtain ⟨Z_5, hZ_5⟩ : ∃ X, m_fall (ms, mc, mw, mb) r ((mc r.toNatClampNeg) + 1) (dr r.toNatClampNeg + m_more sl r) = X := ⟨_, rfl⟩
        refine xs_cV0 (ω' := (wd Q0 Q1 Q2 Q3 Q4 ql qr qk qo QS QT QF QH qt ++ (wM P0 P1 P2 P3 P4 pl dr ki rl Z_5 cl hc sl tk kp pa tr co ++ rest))) (As := [.int r, .int ((mc r.toNatClampNeg) + 1)]) (st := []) (kc' := 0) (ks' := 0) C0 d_Md_move_82 l_Md_161 rfl rfl (d_fall (by assumption) hZ_5) rfl rfl rfl (Nat.le_of_ble_eq_true rfl) (Nat.le_of_ble_eq_true rfl) (Nat.le_of_ble_eq_true rfl) (Nat.le_of_ble_eq_true rfl) (Nat.le_of_ble_eq_true rfl) (Nat.le_of_ble_eq_true rfl) ?_
        refine xs_goto (tgt := 94) C0 d_Md_move_85 (by decide) ?_
        refine xs_aload_n C0 d_Md_move_94 rfl 2 rfl ?_
        refine xs_get (q := 36) (v := .ref 41) C0 f_Md_22 d_Md_move_95 rfl rfl ?_
        refine xs_iload_n C0 d_Md_move_98 rfl 3 rfl ?_
        obtain ⟨ms_6, mc_6, mw_6, mb_6⟩ := Z_5
        refine xs_iald C0 d_Md_move_99 rfl (by assumption) ?_
        refine xs_iload_n C0 d_Md_move_100 rfl 1 rfl ?_
        refine xs_icmp_ne (tgt := 115) C0 d_Md_move_101 (by decide) (fun ce => ?_) (fun ce => ?_)
        · refine xs_iconst (v := 1) C0 d_Md_move_115 (by decide) ?_
          refine xs_goto (tgt := 120) C0 d_Md_move_116 (by decide) ?_
          have hz : m_next (ms, mc, mw, mb) r cur (pl r.toNatClampNeg + m_more sl r) (dr r.toNatClampNeg + m_more sl r) = (ms_6, mc_6, mw_6, mb_6) := by rw [m_next]; dsimp only; rw [if_pos c0, if_neg ca, if_pos cb]; exact hZ_5
          rw [m_move, hz] at hf
          cases hf
          exact xs_zret C0 d_Md_move_120 (by first | decide | exact xm_b01) (⟨by rw [m_chg, if_neg ce], rfl⟩) (Nat.le_of_ble_eq_true rfl) (Nat.le_of_ble_eq_true rfl)
        · refine xs_aload_n C0 d_Md_move_104 rfl 2 rfl ?_
          refine xs_get (q := 36) (v := .ref 42) C0 f_Md_25 d_Md_move_105 rfl rfl ?_
          refine xs_iload_n C0 d_Md_move_108 rfl 3 rfl ?_
          refine xs_iald C0 d_Md_move_109 rfl (by assumption) ?_
          refine xs_iload C0 d_Md_move_110 0 rfl ?_
          refine xs_bi_eq (u := 1) (v := 0) (tgt := 119) (J := 120) C0 d_Md_move_112 (by decide) d_Md_move_115 (by decide) d_Md_move_116 (by decide) d_Md_move_119 (by decide) rfl ?_
          have hz : m_next (ms, mc, mw, mb) r cur (pl r.toNatClampNeg + m_more sl r) (dr r.toNatClampNeg + m_more sl r) = (ms_6, mc_6, mw_6, mb_6) := by rw [m_next]; dsimp only; rw [if_pos c0, if_neg ca, if_pos cb]; exact hZ_5
          rw [m_move, hz] at hf
          cases hf
          exact xs_zret C0 d_Md_move_120 (by first | decide | exact xm_b01) (⟨by rw [m_chg, if_pos ce], rfl⟩) (Nat.le_of_ble_eq_true rfl) (Nat.le_of_ble_eq_true rfl)
  · refine xs_iload_n C0 d_Md_move_19 rfl 1 rfl ?_
    refine xs_if_eq (tgt := 28) C0 d_Md_move_20 (by decide) (fun ca => ?_) (fun ca => ?_)
    · refine xs_aload_n C0 d_Md_move_28 rfl 2 rfl ?_
      refine xs_iload_n C0 d_Md_move_29 rfl 3 rfl ?_
      refine xs_iload_n C0 d_Md_move_30 rfl 1 rfl ?_
      refine xs_if_ne (tgt := 38) C0 d_Md_move_31 (by decide) (fun c9 => absurd ca c9) (fun _ => ?_)
      refine xs_iconst (v := 1) C0 d_Md_move_34 (by decide) ?_
      refine xs_goto (tgt := 42) C0 d_Md_move_35 (by decide) ?_
      obtain ⟨Z_7, hZ_7⟩ : ∃ X, m_rise (ms, mc, mw, mb) r 1 (pl r.toNatClampNeg + m_more sl r) = X := ⟨_, rfl⟩
      refine xs_cV0 (ω' := (wd Q0 Q1 Q2 Q3 Q4 ql qr qk qo QS QT QF QH qt ++ (wM P0 P1 P2 P3 P4 pl dr ki rl Z_7 cl hc sl tk kp pa tr co ++ rest))) (As := [.int r, .int 1]) (st := []) (kc' := 0) (ks' := 0) C0 d_Md_move_42 l_Md_154 rfl rfl (d_rise (by assumption) hZ_7) rfl rfl rfl (Nat.le_of_ble_eq_true rfl) (Nat.le_of_ble_eq_true rfl) (Nat.le_of_ble_eq_true rfl) (Nat.le_of_ble_eq_true rfl) (Nat.le_of_ble_eq_true rfl) (Nat.le_of_ble_eq_true rfl) ?_
      refine xs_goto (tgt := 94) C0 d_Md_move_45 (by decide) ?_
      refine xs_aload_n C0 d_Md_move_94 rfl 2 rfl ?_
      refine xs_get (q := 36) (v := .ref 41) C0 f_Md_22 d_Md_move_95 rfl rfl ?_
      refine xs_iload_n C0 d_Md_move_98 rfl 3 rfl ?_
      obtain ⟨ms_8, mc_8, mw_8, mb_8⟩ := Z_7
      refine xs_iald C0 d_Md_move_99 rfl (by assumption) ?_
      refine xs_iload_n C0 d_Md_move_100 rfl 1 rfl ?_
      refine xs_icmp_ne (tgt := 115) C0 d_Md_move_101 (by decide) (fun ce => ?_) (fun ce => ?_)
      · refine xs_iconst (v := 1) C0 d_Md_move_115 (by decide) ?_
        refine xs_goto (tgt := 120) C0 d_Md_move_116 (by decide) ?_
        have hz : m_next (ms, mc, mw, mb) r cur (pl r.toNatClampNeg + m_more sl r) (dr r.toNatClampNeg + m_more sl r) = (ms_8, mc_8, mw_8, mb_8) := by rw [m_next]; dsimp only; rw [if_neg c0, if_pos ca]; exact hZ_7
        rw [m_move, hz] at hf
        cases hf
        exact xs_zret C0 d_Md_move_120 (by first | decide | exact xm_b01) (⟨by rw [m_chg, if_neg ce], rfl⟩) (Nat.le_of_ble_eq_true rfl) (Nat.le_of_ble_eq_true rfl)
      · refine xs_aload_n C0 d_Md_move_104 rfl 2 rfl ?_
        refine xs_get (q := 36) (v := .ref 42) C0 f_Md_25 d_Md_move_105 rfl rfl ?_
        refine xs_iload_n C0 d_Md_move_108 rfl 3 rfl ?_
        refine xs_iald C0 d_Md_move_109 rfl (by assumption) ?_
        refine xs_iload C0 d_Md_move_110 0 rfl ?_
        refine xs_bi_eq (u := 1) (v := 0) (tgt := 119) (J := 120) C0 d_Md_move_112 (by decide) d_Md_move_115 (by decide) d_Md_move_116 (by decide) d_Md_move_119 (by decide) rfl ?_
        have hz : m_next (ms, mc, mw, mb) r cur (pl r.toNatClampNeg + m_more sl r) (dr r.toNatClampNeg + m_more sl r) = (ms_8, mc_8, mw_8, mb_8) := by rw [m_next]; dsimp only; rw [if_neg c0, if_pos ca]; exact hZ_7
        rw [m_move, hz] at hf
        cases hf
        exact xs_zret C0 d_Md_move_120 (by first | decide | exact xm_b01) (⟨by rw [m_chg, if_pos ce], rfl⟩) (Nat.le_of_ble_eq_true rfl) (Nat.le_of_ble_eq_true rfl)
    · refine xs_iload_n C0 d_Md_move_23 rfl 1 rfl ?_
      refine xs_iconst (v := 1) C0 d_Md_move_24 (by decide) ?_
      refine xs_icmp_ne (tgt := 48) C0 d_Md_move_25 (by decide) (fun cb => ?_) (fun cb => ?_)
      · refine xs_aload_n C0 d_Md_move_48 rfl 2 rfl ?_
        refine xs_iload_n C0 d_Md_move_49 rfl 3 rfl ?_
        refine xs_iconst (v := 2) C0 d_Md_move_50 (by decide) ?_
        obtain ⟨Z_9, hZ_9⟩ : ∃ X, m_hold (ms, mc, mw, mb) r 2 = X := ⟨_, rfl⟩
        refine xs_cV0 (ω' := (wd Q0 Q1 Q2 Q3 Q4 ql qr qk qo QS QT QF QH qt ++ (wM P0 P1 P2 P3 P4 pl dr ki rl Z_9 cl hc sl tk kp pa tr co ++ rest))) (As := [.int r, .int 2]) (st := []) (kc' := 0) (ks' := 0) C0 d_Md_move_51 l_Md_158 rfl rfl (d_hold (by assumption) hZ_9) rfl rfl rfl (Nat.le_of_ble_eq_true rfl) (Nat.le_of_ble_eq_true rfl) (Nat.le_of_ble_eq_true rfl) (Nat.le_of_ble_eq_true rfl) (Nat.le_of_ble_eq_true rfl) (Nat.le_of_ble_eq_true rfl) ?_
        refine xs_goto (tgt := 94) C0 d_Md_move_54 (by decide) ?_
        refine xs_aload_n C0 d_Md_move_94 rfl 2 rfl ?_
        refine xs_get (q := 36) (v := .ref 41) C0 f_Md_22 d_Md_move_95 rfl rfl ?_
        refine xs_iload_n C0 d_Md_move_98 rfl 3 rfl ?_
        obtain ⟨ms_10, mc_10, mw_10, mb_10⟩ := Z_9
        refine xs_iald C0 d_Md_move_99 rfl (by assumption) ?_
        refine xs_iload_n C0 d_Md_move_100 rfl 1 rfl ?_
        refine xs_icmp_ne (tgt := 115) C0 d_Md_move_101 (by decide) (fun ce => ?_) (fun ce => ?_)
        · refine xs_iconst (v := 1) C0 d_Md_move_115 (by decide) ?_
          refine xs_goto (tgt := 120) C0 d_Md_move_116 (by decide) ?_
          have hz : m_next (ms, mc, mw, mb) r cur (pl r.toNatClampNeg + m_more sl r) (dr r.toNatClampNeg + m_more sl r) = (ms_10, mc_10, mw_10, mb_10) := by rw [m_next]; dsimp only; rw [if_neg c0, if_neg ca, if_neg cb]; exact hZ_9
          rw [m_move, hz] at hf
          cases hf
          exact xs_zret C0 d_Md_move_120 (by first | decide | exact xm_b01) (⟨by rw [m_chg, if_neg ce], rfl⟩) (Nat.le_of_ble_eq_true rfl) (Nat.le_of_ble_eq_true rfl)
        · refine xs_aload_n C0 d_Md_move_104 rfl 2 rfl ?_
          refine xs_get (q := 36) (v := .ref 42) C0 f_Md_25 d_Md_move_105 rfl rfl ?_
          refine xs_iload_n C0 d_Md_move_108 rfl 3 rfl ?_
          refine xs_iald C0 d_Md_move_109 rfl (by assumption) ?_
          refine xs_iload C0 d_Md_move_110 0 rfl ?_
          refine xs_bi_eq (u := 1) (v := 0) (tgt := 119) (J := 120) C0 d_Md_move_112 (by decide) d_Md_move_115 (by decide) d_Md_move_116 (by decide) d_Md_move_119 (by decide) rfl ?_
          have hz : m_next (ms, mc, mw, mb) r cur (pl r.toNatClampNeg + m_more sl r) (dr r.toNatClampNeg + m_more sl r) = (ms_10, mc_10, mw_10, mb_10) := by rw [m_next]; dsimp only; rw [if_neg c0, if_neg ca, if_neg cb]; exact hZ_9
          rw [m_move, hz] at hf
          cases hf
          exact xs_zret C0 d_Md_move_120 (by first | decide | exact xm_b01) (⟨by rw [m_chg, if_pos ce], rfl⟩) (Nat.le_of_ble_eq_true rfl) (Nat.le_of_ble_eq_true rfl)
      · refine xs_aload_n C0 d_Md_move_28 rfl 2 rfl ?_
        refine xs_iload_n C0 d_Md_move_29 rfl 3 rfl ?_
        refine xs_iload_n C0 d_Md_move_30 rfl 1 rfl ?_
        refine xs_if_ne (tgt := 38) C0 d_Md_move_31 (by decide) (fun _ => ?_) (fun c9 => absurd c9 ca)
        refine xs_iload C0 d_Md_move_38 0 rfl ?_
        refine xs_iconst (v := 1) C0 d_Md_move_40 (by decide) ?_
        refine xs_iadd C0 d_Md_move_41 ?_
        obtain ⟨Z_11, hZ_11⟩ : ∃ X, m_rise (ms, mc, mw, mb) r ((mc r.toNatClampNeg) + 1) (pl r.toNatClampNeg + m_more sl r) = X := ⟨_, rfl⟩
        refine xs_cV0 (ω' := (wd Q0 Q1 Q2 Q3 Q4 ql qr qk qo QS QT QF QH qt ++ (wM P0 P1 P2 P3 P4 pl dr ki rl Z_11 cl hc sl tk kp pa tr co ++ rest))) (As := [.int r, .int ((mc r.toNatClampNeg) + 1)]) (st := []) (kc' := 0) (ks' := 0) C0 d_Md_move_42 l_Md_154 rfl rfl (d_rise (by assumption) hZ_11) rfl rfl rfl (Nat.le_of_ble_eq_true rfl) (Nat.le_of_ble_eq_true rfl) (Nat.le_of_ble_eq_true rfl) (Nat.le_of_ble_eq_true rfl) (Nat.le_of_ble_eq_true rfl) (Nat.le_of_ble_eq_true rfl) ?_
        refine xs_goto (tgt := 94) C0 d_Md_move_45 (by decide) ?_
        refine xs_aload_n C0 d_Md_move_94 rfl 2 rfl ?_
        refine xs_get (q := 36) (v := .ref 41) C0 f_Md_22 d_Md_move_95 rfl rfl ?_
        refine xs_iload_n C0 d_Md_move_98 rfl 3 rfl ?_
        obtain ⟨ms_12, mc_12, mw_12, mb_12⟩ := Z_11
        refine xs_iald C0 d_Md_move_99 rfl (by assumption) ?_
        refine xs_iload_n C0 d_Md_move_100 rfl 1 rfl ?_
        refine xs_icmp_ne (tgt := 115) C0 d_Md_move_101 (by decide) (fun ce => ?_) (fun ce => ?_)
        · refine xs_iconst (v := 1) C0 d_Md_move_115 (by decide) ?_
          refine xs_goto (tgt := 120) C0 d_Md_move_116 (by decide) ?_
          have hz : m_next (ms, mc, mw, mb) r cur (pl r.toNatClampNeg + m_more sl r) (dr r.toNatClampNeg + m_more sl r) = (ms_12, mc_12, mw_12, mb_12) := by rw [m_next]; dsimp only; rw [if_neg c0, if_neg ca, if_pos cb]; exact hZ_11
          rw [m_move, hz] at hf
          cases hf
          exact xs_zret C0 d_Md_move_120 (by first | decide | exact xm_b01) (⟨by rw [m_chg, if_neg ce], rfl⟩) (Nat.le_of_ble_eq_true rfl) (Nat.le_of_ble_eq_true rfl)
        · refine xs_aload_n C0 d_Md_move_104 rfl 2 rfl ?_
          refine xs_get (q := 36) (v := .ref 42) C0 f_Md_25 d_Md_move_105 rfl rfl ?_
          refine xs_iload_n C0 d_Md_move_108 rfl 3 rfl ?_
          refine xs_iald C0 d_Md_move_109 rfl (by assumption) ?_
          refine xs_iload C0 d_Md_move_110 0 rfl ?_
          refine xs_bi_eq (u := 1) (v := 0) (tgt := 119) (J := 120) C0 d_Md_move_112 (by decide) d_Md_move_115 (by decide) d_Md_move_116 (by decide) d_Md_move_119 (by decide) rfl ?_
          have hz : m_next (ms, mc, mw, mb) r cur (pl r.toNatClampNeg + m_more sl r) (dr r.toNatClampNeg + m_more sl r) = (ms_12, mc_12, mw_12, mb_12) := by rw [m_next]; dsimp only; rw [if_neg c0, if_neg ca, if_pos cb]; exact hZ_11
          rw [m_move, hz] at hf
          cases hf
          exact xs_zret C0 d_Md_move_120 (by first | decide | exact xm_b01) (⟨by rw [m_chg, if_pos ce], rfl⟩) (Nat.le_of_ble_eq_true rfl) (Nat.le_of_ble_eq_true rfl)
