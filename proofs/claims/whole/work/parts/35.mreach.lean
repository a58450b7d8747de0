set_option maxHeartbeats 4000000 in
set_option maxRecDepth 100000 in
theorem d_cd {Q0 Q1 Q2 Q3 Q4 : wt_P} {ql qr qk qo : Nat → Int32} {QS QT : wt_S} {QF : wt_F} {QH : wt_H} {qt : Int32} {P0 : wt_P} {P1 : wt_P} {P2 : wt_P} {P3 : wt_P} {P4 : wt_P} {pl dr ki rl : Nat → Int32} {ms mc mw : Nat → Int32} {mb : Int32} {cl : Nat → Int32} {hc : mt_H} {sl tk : Int32} {kp : mt_K} {pa : Nat → Int32} {tr : mt_T} {co : Int32} {rest : xm_O} {i : Nat} (hi : i < 64) (hr : ¬ ki i = 4 → vp_in (rl i) 16) : xm_M y_Md_conducts (Cond.code y_Md_conducts b_Md_conducts 4 (some .boolean)) (xm_rm 0 0 0) [.ref 36, .int (nI i)] (wd Q0 Q1 Q2 Q3 Q4 ql qr qk qo QS QT QF QH qt ++ (wM P0 P1 P2 P3 P4 pl dr ki rl (ms, mc, mw, mb) cl hc sl tk kp pa tr co ++ rest)) (xm_eq (.inl (some (.int (m_cd ki rl ms i)))) (wd Q0 Q1 Q2 Q3 Q4 ql qr qk qo QS QT QF QH qt ++ (wM P0 P1 P2 P3 P4 pl dr ki rl (ms, mc, mw, mb) cl hc sl tk kp pa tr co ++ rest))) := by
  refine xm_of (by decide) (Nat.le_of_ble_eq_true rfl) (fun E C0 => ?_)
  refine xs_eq (lv' := [(0, .ref 36), (1, .int (nI i))]) rfl rfl rfl ?_
  refine xs_aload_n C0 d_Md_conducts_0 rfl 0 rfl ?_
  refine xs_get (q := 36) (v := .ref 44) C0 f_Md_31 d_Md_conducts_1 rfl rfl ?_
  refine xs_iload_n C0 d_Md_conducts_4 rfl 1 rfl ?_
  refine xs_iald C0 d_Md_conducts_5 rfl (vp_in_nI hi (by decide)) ?_
  refine xs_top (v' := .int (ki i)) (by rw [nI_clamp (by omega)]) ?_
  refine xs_istore_n (lv' := [(2, .int (ki i)), (0, .ref 36), (1, .int (nI i))]) C0 d_Md_conducts_6 rfl (by decide) rfl ?_
  refine xs_iload_n C0 d_Md_conducts_7 rfl 0 rfl ?_
  refine xs_iconst (v := 4) C0 d_Md_conducts_8 (by decide) ?_
  refine xs_icmp_ne (tgt := 14) C0 d_Md_conducts_9 (by decide) (fun ka => ?_) (fun ka => ?_)
  · refine xs_aload_n C0 d_Md_conducts_14 rfl 1 rfl ?_
    refine xs_get (q := 36) (v := .ref 41) C0 f_Md_22 d_Md_conducts_15 rfl rfl ?_
    refine xs_aload_n C0 d_Md_conducts_18 rfl 1 rfl ?_
    refine xs_get (q := 36) (v := .ref 45) C0 f_Md_34 d_Md_conducts_19 rfl rfl ?_
    refine xs_iload_n C0 d_Md_conducts_22 rfl 2 rfl ?_
    refine xs_iald C0 d_Md_conducts_23 rfl (vp_in_nI hi (by decide)) ?_
    refine xs_top (v' := .int (rl i)) (by rw [nI_clamp (by omega)]) ?_
    refine xs_iald C0 d_Md_conducts_24 rfl (hr ka) ?_
    refine xs_istore_n (lv' := [(3, .int (ms (rl i).toNatClampNeg)), (2, .int (ki i)), (0, .ref 36), (1, .int (nI i))]) C0 d_Md_conducts_25 rfl (by decide) rfl ?_
    refine xs_iload_n C0 d_Md_conducts_26 rfl 1 rfl ?_
    refine xs_if_ne (tgt := 43) C0 d_Md_conducts_27 (by decide) (fun c_1 => ?_) (fun c_1 => ?_)
    · refine xs_iload_n C0 d_Md_conducts_43 rfl 1 rfl ?_
      refine xs_iconst (v := 1) C0 d_Md_conducts_44 (by decide) ?_
      refine xs_icmp_ne (tgt := 60) C0 d_Md_conducts_45 (by decide) (fun c_2 => ?_) (fun c_2 => ?_)
      · refine xs_iload_n C0 d_Md_conducts_60 rfl 1 rfl ?_
        refine xs_iconst (v := 2) C0 d_Md_conducts_61 (by decide) ?_
        refine xs_icmp_ne (tgt := 77) C0 d_Md_conducts_62 (by decide) (fun c_3 => ?_) (fun c_3 => ?_)
        · refine xs_iload_n C0 d_Md_conducts_77 rfl 0 rfl ?_
          refine xs_iconst (v := 2) C0 d_Md_conducts_78 (by decide) ?_
          refine xs_icmp_eq (tgt := 86) C0 d_Md_conducts_79 (by decide) (fun c_4 => ?_) (fun c_4 => ?_)
          · refine xs_iconst (v := 0) C0 d_Md_conducts_86 (by decide) ?_
            exact xs_zret C0 d_Md_conducts_87 (by decide) (⟨by rw [m_cd, if_neg ka, if_neg c_1, if_neg c_2, if_neg c_3, if_pos c_4], rfl⟩) (Nat.le_of_ble_eq_true rfl) (Nat.le_of_ble_eq_true rfl)
          · refine xs_iconst (v := 1) C0 d_Md_conducts_82 (by decide) ?_
            refine xs_goto (tgt := 87) C0 d_Md_conducts_83 (by decide) ?_
            exact xs_zret C0 d_Md_conducts_87 (by decide) (⟨by rw [m_cd, if_neg ka, if_neg c_1, if_neg c_2, if_neg c_3, if_neg c_4], rfl⟩) (Nat.le_of_ble_eq_true rfl) (Nat.le_of_ble_eq_true rfl)
        · refine xs_iload_n C0 d_Md_conducts_65 rfl 0 rfl ?_
          refine xs_if_eq (tgt := 73) C0 d_Md_conducts_66 (by decide) (fun c_5 => ?_) (fun c_5 => ?_)
          · refine xs_iconst (v := 0) C0 d_Md_conducts_73 (by decide) ?_
            refine xs_goto (tgt := 87) C0 d_Md_conducts_74 (by decide) ?_
            exact xs_zret C0 d_Md_conducts_87 (by decide) (⟨by rw [m_cd, if_neg ka, if_neg c_1, if_neg c_2, if_pos c_3, if_pos c_5], rfl⟩) (Nat.le_of_ble_eq_true rfl) (Nat.le_of_ble_eq_true rfl)
          · refine xs_iconst (v := 1) C0 d_Md_conducts_69 (by decide) ?_
            refine xs_goto (tgt := 87) C0 d_Md_conducts_70 (by decide) ?_
            exact xs_zret C0 d_Md_conducts_87 (by decide) (⟨by rw [m_cd, if_neg ka, if_neg c_1, if_neg c_2, if_pos c_3, if_neg c_5], rfl⟩) (Nat.le_of_ble_eq_true rfl) (Nat.le_of_ble_eq_true rfl)
      · refine xs_iload_n C0 d_Md_conducts_48 rfl 0 rfl ?_
        refine xs_if_ne (tgt := 56) C0 d_Md_conducts_49 (by decide) (fun c_6 => ?_) (fun c_6 => ?_)
        · refine xs_iconst (v := 0) C0 d_Md_conducts_56 (by decide) ?_
          refine xs_goto (tgt := 87) C0 d_Md_conducts_57 (by decide) ?_
          exact xs_zret C0 d_Md_conducts_87 (by decide) (⟨by rw [m_cd, if_neg ka, if_neg c_1, if_pos c_2, if_neg c_6], rfl⟩) (Nat.le_of_ble_eq_true rfl) (Nat.le_of_ble_eq_true rfl)
        · refine xs_iconst (v := 1) C0 d_Md_conducts_52 (by decide) ?_
          refine xs_goto (tgt := 87) C0 d_Md_conducts_53 (by decide) ?_
          exact xs_zret C0 d_Md_conducts_87 (by decide) (⟨by rw [m_cd, if_neg ka, if_neg c_1, if_pos c_2, if_pos c_6], rfl⟩) (Nat.le_of_ble_eq_true rfl) (Nat.le_of_ble_eq_true rfl)
    · refine xs_iload_n C0 d_Md_conducts_30 rfl 0 rfl ?_
      refine xs_iconst (v := 2) C0 d_Md_conducts_31 (by decide) ?_
      refine xs_icmp_ne (tgt := 39) C0 d_Md_conducts_32 (by decide) (fun c_7 => ?_) (fun c_7 => ?_)
      · refine xs_iconst (v := 0) C0 d_Md_conducts_39 (by decide) ?_
        refine xs_goto (tgt := 87) C0 d_Md_conducts_40 (by decide) ?_
        exact xs_zret C0 d_Md_conducts_87 (by decide) (⟨by rw [m_cd, if_neg ka, if_pos c_1, if_neg c_7], rfl⟩) (Nat.le_of_ble_eq_true rfl) (Nat.le_of_ble_eq_true rfl)
      · refine xs_iconst (v := 1) C0 d_Md_conducts_35 (by decide) ?_
        refine xs_goto (tgt := 87) C0 d_Md_conducts_36 (by decide) ?_
        exact xs_zret C0 d_Md_conducts_87 (by decide) (⟨by rw [m_cd, if_neg ka, if_pos c_1, if_pos c_7], rfl⟩) (Nat.le_of_ble_eq_true rfl) (Nat.le_of_ble_eq_true rfl)
  · refine xs_iconst (v := 1) C0 d_Md_conducts_12 (by decide) ?_
    exact xs_zret C0 d_Md_conducts_13 (by decide) (⟨by rw [m_cd, if_pos ka], rfl⟩) (Nat.le_of_ble_eq_true rfl) (Nat.le_of_ble_eq_true rfl)
set_option maxHeartbeats 4000000 in
set_option maxRecDepth 100000 in
theorem d_rchh {Q0 Q1 Q2 Q3 Q4 : wt_P} {ql qr qk qo : Nat → Int32} {QS QT : wt_S} {QF : wt_F} {QH : wt_H} {qt : Int32} {P0 : wt_P} {P1 : wt_P} {P2 : wt_P} {P3 : wt_P} {P4 : wt_P} {pl dr ki rl : Nat → Int32} {Z : mt_S} {cl : Nat → Int32} {mh mo : Nat → Int32} {sl tk : Int32} {kp : mt_K} {pa : Nat → Int32} {tr : mt_T} {co : Int32} {rest : xm_O} {a b : Int32} (ha : vp_in a 48) (hb : vp_in b 48) : xm_M y_Md_reach (Cond.code y_Md_reach b_Md_reach 4 (some .boolean)) (xm_rm 0 0 0) [.ref 55, .int a, .int b] (wd Q0 Q1 Q2 Q3 Q4 ql qr qk qo QS QT QF QH qt ++ (wM P0 P1 P2 P3 P4 pl dr ki rl Z cl (mh, mo) sl tk kp pa tr co ++ rest)) (xm_eq (.inl (some (.int (m_fr mh a b)))) (wd Q0 Q1 Q2 Q3 Q4 ql qr qk qo QS QT QF QH qt ++ (wM P0 P1 P2 P3 P4 pl dr ki rl Z cl (m_row mh a b, mo) sl tk kp pa tr co ++ rest))) := by
  refine xm_of (by decide) (Nat.le_of_ble_eq_true rfl) (fun E C0 => ?_)
  refine xs_eq (lv' := [(0, .ref 55), (1, .int a), (2, .int b)]) rfl rfl rfl ?_
  refine xs_aload_n C0 d_Md_reach_0 rfl 0 rfl ?_
  refine xs_iload_n C0 d_Md_reach_1 rfl 1 rfl ?_
  refine xs_zald C0 d_Md_reach_2 rfl (by assumption) ?_
  refine xs_if_eq (tgt := 16) C0 d_Md_reach_3 (by decide) (fun c_1 => ?_) (fun c_1 => ?_)
  · refine xs_iconst (v := 0) C0 d_Md_reach_16 (by decide) ?_
    refine xs_top (v' := .int (m_fr mh a b)) (by rw [m_fr, if_pos c_1]) ?_
    refine xs_istore_n (lv' := [(3, .int (m_fr mh a b)), (0, .ref 55), (1, .int a), (2, .int b)]) C0 d_Md_reach_17 rfl (by decide) rfl ?_
    refine xs_aload_n C0 d_Md_reach_18 rfl 1 rfl ?_
    refine xs_iload_n C0 d_Md_reach_19 rfl 3 rfl ?_
    refine xs_aload_n C0 d_Md_reach_20 rfl 1 rfl ?_
    refine xs_iload_n C0 d_Md_reach_21 rfl 3 rfl ?_
    refine xs_zald C0 d_Md_reach_22 rfl (by assumption) ?_
    refine xs_if_ne (tgt := 30) C0 d_Md_reach_23 (by decide) (fun c_2 => ?_) (fun c_2 => ?_)
    · refine xs_iconst (v := 1) C0 d_Md_reach_30 (by decide) ?_
      refine xs_goto (tgt := 35) C0 d_Md_reach_31 (by decide) ?_
      refine xs_zast (ω' := (wd Q0 Q1 Q2 Q3 Q4 ql qr qk qo QS QT QF QH qt ++ (wM P0 P1 P2 P3 P4 pl dr ki rl Z cl (upd mh b.toNatClampNeg (vp_nar .boolean 1), mo) sl tk kp pa tr co ++ rest))) C0 d_Md_reach_35 rfl (by assumption) rfl ?_
      refine xs_world (ω' := (wd Q0 Q1 Q2 Q3 Q4 ql qr qk qo QS QT QF QH qt ++ (wM P0 P1 P2 P3 P4 pl dr ki rl Z cl (m_row mh a b, mo) sl tk kp pa tr co ++ rest))) (by rw [m_row_u mh a b 1 (by decide) (by rw [if_pos c_2])]) ?_
      refine xs_iload_n C0 d_Md_reach_36 rfl 0 rfl ?_
      exact xs_zret C0 d_Md_reach_37 (m_fr01 _ _ _) (⟨rfl, rfl⟩) (Nat.le_of_ble_eq_true rfl) (Nat.le_of_ble_eq_true rfl)
    · refine xs_iload_n C0 d_Md_reach_26 rfl 0 rfl ?_
      refine xs_bz_eq (u := 1) (v := 0) (tgt := 34) (J := 35) C0 d_Md_reach_27 (by decide) d_Md_reach_30 (by decide) d_Md_reach_31 (by decide) d_Md_reach_34 (by decide) rfl ?_
      refine xs_zast (ω' := (wd Q0 Q1 Q2 Q3 Q4 ql qr qk qo QS QT QF QH qt ++ (wM P0 P1 P2 P3 P4 pl dr ki rl Z cl (upd mh b.toNatClampNeg (vp_nar .boolean (if ¬ (m_fr mh a b) = 0 then 1 else 0)), mo) sl tk kp pa tr co ++ rest))) C0 d_Md_reach_35 rfl (by assumption) rfl ?_
      refine xs_world (ω' := (wd Q0 Q1 Q2 Q3 Q4 ql qr qk qo QS QT QF QH qt ++ (wM P0 P1 P2 P3 P4 pl dr ki rl Z cl (m_row mh a b, mo) sl tk kp pa tr co ++ rest))) (by rw [m_row_u mh a b (if ¬ (m_fr mh a b) = 0 then 1 else 0) xm_b01 (by rw [if_neg (c := ¬ mh b.toNatClampNeg = 0) (fun h9 => h9 c_2)])]) ?_
      refine xs_iload_n C0 d_Md_reach_36 rfl 0 rfl ?_
      exact xs_zret C0 d_Md_reach_37 (m_fr01 _ _ _) (⟨rfl, rfl⟩) (Nat.le_of_ble_eq_true rfl) (Nat.le_of_ble_eq_true rfl)
  · refine xs_aload_n C0 d_Md_reach_6 rfl 0 rfl ?_
    refine xs_iload_n C0 d_Md_reach_7 rfl 2 rfl ?_
    refine xs_zald C0 d_Md_reach_8 rfl (by assumption) ?_
    refine xs_bz_ne (u := 1) (v := 0) (tgt := 16) (J := 17) C0 d_Md_reach_9 (by decide) d_Md_reach_12 (by decide) d_Md_reach_13 (by decide) d_Md_reach_16 (by decide) rfl ?_
    refine xs_top (v' := .int (m_fr mh a b)) (by rw [m_fr, if_neg c_1]) ?_
    refine xs_istore_n (lv' := [(3, .int (m_fr mh a b)), (0, .ref 55), (1, .int a), (2, .int b)]) C0 d_Md_reach_17 rfl (by decide) rfl ?_
    refine xs_aload_n C0 d_Md_reach_18 rfl 1 rfl ?_
    refine xs_iload_n C0 d_Md_reach_19 rfl 3 rfl ?_
    refine xs_aload_n C0 d_Md_reach_20 rfl 1 rfl ?_
    refine xs_iload_n C0 d_Md_reach_21 rfl 3 rfl ?_
    refine xs_zald C0 d_Md_reach_22 rfl (by assumption) ?_
    refine xs_if_ne (tgt := 30) C0 d_Md_reach_23 (by decide) (fun c_3 => ?_) (fun c_3 => ?_)
    · refine xs_iconst (v := 1) C0 d_Md_reach_30 (by decide) ?_
      refine xs_goto (tgt := 35) C0 d_Md_reach_31 (by decide) ?_
      refine xs_zast (ω' := (wd Q0 Q1 Q2 Q3 Q4 ql qr qk qo QS QT QF QH qt ++ (wM P0 P1 P2 P3 P4 pl dr ki rl Z cl (upd mh b.toNatClampNeg (vp_nar .boolean 1), mo) sl tk kp pa tr co ++ rest))) C0 d_Md_reach_35 rfl (by assumption) rfl ?_
      refine xs_world (ω' := (wd Q0 Q1 Q2 Q3 Q4 ql qr qk qo QS QT QF QH qt ++ (wM P0 P1 P2 P3 P4 pl dr ki rl Z cl (m_row mh a b, mo) sl tk kp pa tr co ++ rest))) (by rw [m_row_u mh a b 1 (by decide) (by rw [if_pos c_3])]) ?_
      refine xs_iload_n C0 d_Md_reach_36 rfl 0 rfl ?_
      exact xs_zret C0 d_Md_reach_37 (m_fr01 _ _ _) (⟨rfl, rfl⟩) (Nat.le_of_ble_eq_true rfl) (Nat.le_of_ble_eq_true rfl)
    · refine xs_iload_n C0 d_Md_reach_26 rfl 0 rfl ?_
      refine xs_bz_eq (u := 1) (v := 0) (tgt := 34) (J := 35) C0 d_Md_reach_27 (by decide) d_Md_reach_30 (by decide) d_Md_reach_31 (by decide) d_Md_reach_34 (by decide) rfl ?_
      refine xs_zast (ω' := (wd Q0 Q1 Q2 Q3 Q4 ql qr qk qo QS QT QF QH qt ++ (wM P0 P1 P2 P3 P4 pl dr ki rl Z cl (upd mh b.toNatClampNeg (vp_nar .boolean (if ¬ (m_fr mh a b) = 0 then 1 else 0)), mo) sl tk kp pa tr co ++ rest))) C0 d_Md_reach_35 rfl (by assumption) rfl ?_
      refine xs_world (ω' := (wd Q0 Q1 Q2 Q3 Q4 ql qr qk qo QS QT QF QH qt ++ (wM P0 P1 P2 P3 P4 pl dr ki rl Z cl (m_row mh a b, mo) sl tk kp pa tr co ++ rest))) (by rw [m_row_u mh a b (if ¬ (m_fr mh a b) = 0 then 1 else 0) xm_b01 (by rw [if_neg (c := ¬ mh b.toNatClampNeg = 0) (fun h9 => h9 c_3)])]) ?_
      refine xs_iload_n C0 d_Md_reach_36 rfl 0 rfl ?_
      exact xs_zret C0 d_Md_reach_37 (m_fr01 _ _ _) (⟨rfl, rfl⟩) (Nat.le_of_ble_eq_true rfl) (Nat.le_of_ble_eq_true rfl)
set_option maxHeartbeats 4000000 in
set_option maxRecDepth 100000 in
theorem d_rchc {Q0 Q1 Q2 Q3 Q4 : wt_P} {ql qr qk qo : Nat → Int32} {QS QT : wt_S} {QF : wt_F} {QH : wt_H} {qt : Int32} {P0 : wt_P} {P1 : wt_P} {P2 : wt_P} {P3 : wt_P} {P4 : wt_P} {pl dr ki rl : Nat → Int32} {Z : mt_S} {cl : Nat → Int32} {mh mo : Nat → Int32} {sl tk : Int32} {kp : mt_K} {pa : Nat → Int32} {tr : mt_T} {co : Int32} {rest : xm_O} {a b : Int32} (ha : vp_in a 48) (hb : vp_in b 48) : xm_M y_Md_reach (Cond.code y_Md_reach b_Md_reach 4 (some .boolean)) (xm_rm 0 0 0) [.ref 56, .int a, .int b] (wd Q0 Q1 Q2 Q3 Q4 ql qr qk qo QS QT QF QH qt ++ (wM P0 P1 P2 P3 P4 pl dr ki rl Z cl (mh, mo) sl tk kp pa tr co ++ rest)) (xm_eq (.inl (some (.int (m_fr mo a b)))) (wd Q0 Q1 Q2 Q3 Q4 ql qr qk qo QS QT QF QH qt ++ (wM P0 P1 P2 P3 P4 pl dr ki rl Z cl (mh, m_row mo a b) sl tk kp pa tr co ++ rest))) := by
  refine xm_of (by decide) (Nat.le_of_ble_eq_true rfl) (fun E C0 => ?_)
  refine xs_eq (lv' := [(0, .ref 56), (1, .int a), (2, .int b)]) rfl rfl rfl ?_
  refine xs_aload_n C0 d_Md_reach_0 rfl 0 rfl ?_
  refine xs_iload_n C0 d_Md_reach_1 rfl 1 rfl ?_
  refine xs_zald C0 d_Md_reach_2 rfl (by assumption) ?_
  refine xs_if_eq (tgt := 16) C0 d_Md_reach_3 (by decide) (fun c_1 => ?_) (fun c_1 => ?_)
  · refine xs_iconst (v := 0) C0 d_Md_reach_16 (by decide) ?_
    refine xs_top (v' := .int (m_fr mo a b)) (by rw [m_fr, if_pos c_1]) ?_
    refine xs_istore_n (lv' := [(3, .int (m_fr mo a b)), (0, .ref 56), (1, .int a), (2, .int b)]) C0 d_Md_reach_17 rfl (by decide) rfl ?_
    refine xs_aload_n C0 d_Md_reach_18 rfl 1 rfl ?_
    refine xs_iload_n C0 d_Md_reach_19 rfl 3 rfl ?_
    refine xs_aload_n C0 d_Md_reach_20 rfl 1 rfl ?_
    refine xs_iload_n C0 d_Md_reach_21 rfl 3 rfl ?_
    refine xs_zald C0 d_Md_reach_22 rfl (by assumption) ?_
    refine xs_if_ne (tgt := 30) C0 d_Md_reach_23 (by decide) (fun c_2 => ?_) (fun c_2 => ?_)
    · refine xs_iconst (v := 1) C0 d_Md_reach_30 (by decide) ?_
      refine xs_goto (tgt := 35) C0 d_Md_reach_31 (by decide) ?_
      refine xs_zast (ω' := (wd Q0 Q1 Q2 Q3 Q4 ql qr qk qo QS QT QF QH qt ++ (wM P0 P1 P2 P3 P4 pl dr ki rl Z cl (mh, upd mo b.toNatClampNeg (vp_nar .boolean 1)) sl tk kp pa tr co ++ rest))) C0 d_Md_reach_35 rfl (by assumption) rfl ?_
      refine xs_world (ω' := (wd Q0 Q1 Q2 Q3 Q4 ql qr qk qo QS QT QF QH qt ++ (wM P0 P1 P2 P3 P4 pl dr ki rl Z cl (mh, m_row mo a b) sl tk kp pa tr co ++ rest))) (by rw [m_row_u mo a b 1 (by decide) (by rw [if_pos c_2])]) ?_
      refine xs_iload_n C0 d_Md_reach_36 rfl 0 rfl ?_
      exact xs_zret C0 d_Md_reach_37 (m_fr01 _ _ _) (⟨rfl, rfl⟩) (Nat.le_of_ble_eq_true rfl) (Nat.le_of_ble_eq_true rfl)
    · refine xs_iload_n C0 d_Md_reach_26 rfl 0 rfl ?_
      refine xs_bz_eq (u := 1) (v := 0) (tgt := 34) (J := 35) C0 d_Md_reach_27 (by decide) d_Md_reach_30 (by decide) d_Md_reach_31 (by decide) d_Md_reach_34 (by decide) rfl ?_
      refine xs_zast (ω' := (wd Q0 Q1 Q2 Q3 Q4 ql qr qk qo QS QT QF QH qt ++ (wM P0 P1 P2 P3 P4 pl dr ki rl Z cl (mh, upd mo b.toNatClampNeg (vp_nar .boolean (if ¬ (m_fr mo a b) = 0 then 1 else 0))) sl tk kp pa tr co ++ rest))) C0 d_Md_reach_35 rfl (by assumption) rfl ?_
      refine xs_world (ω' := (wd Q0 Q1 Q2 Q3 Q4 ql qr qk qo QS QT QF QH qt ++ (wM P0 P1 P2 P3 P4 pl dr ki rl Z cl (mh, m_row mo a b) sl tk kp pa tr co ++ rest))) (by rw [m_row_u mo a b (if ¬ (m_fr mo a b) = 0 then 1 else 0) xm_b01 (by rw [if_neg (c := ¬ mo b.toNatClampNeg = 0) (fun h9 => h9 c_2)])]) ?_
      refine xs_iload_n C0 d_Md_reach_36 rfl 0 rfl ?_
      exact xs_zret C0 d_Md_reach_37 (m_fr01 _ _ _) (⟨rfl, rfl⟩) (Nat.le_of_ble_eq_true rfl) (Nat.le_of_ble_eq_true rfl)
  · refine xs_aload_n C0 d_Md_reach_6 rfl 0 rfl ?_
    refine xs_iload_n C0 d_Md_reach_7 rfl 2 rfl ?_
    refine xs_zald C0 d_Md_reach_8 rfl (by assumption) ?_
    refine xs_bz_ne (u := 1) (v := 0) (tgt := 16) (J := 17) C0 d_Md_reach_9 (by decide) d_Md_reach_12 (by decide) d_Md_reach_13 (by decide) d_Md_reach_16 (by decide) rfl ?_
    refine xs_top (v' := .int (m_fr mo a b)) (by rw [m_fr, if_neg c_1]) ?_
    refine xs_istore_n (lv' := [(3, .int (m_fr mo a b)), (0, .ref 56), (1, .int a), (2, .int b)]) C0 d_Md_reach_17 rfl (by decide) rfl ?_
    refine xs_aload_n C0 d_Md_reach_18 rfl 1 rfl ?_
    refine xs_iload_n C0 d_Md_reach_19 rfl 3 rfl ?_
    refine xs_aload_n C0 d_Md_reach_20 rfl 1 rfl ?_
    refine xs_iload_n C0 d_Md_reach_21 rfl 3 rfl ?_
    refine xs_zald C0 d_Md_reach_22 rfl (by assumption) ?_
    refine xs_if_ne (tgt := 30) C0 d_Md_reach_23 (by decide) (fun c_3 => ?_) (fun c_3 => ?_)
    · refine xs_iconst (v := 1) C0 d_Md_reach_30 (by decide) ?_
      refine xs_goto (tgt := 35) C0 d_Md_reach_31 (by decide) ?_
      refine xs_zast (ω' := (wd Q0 Q1 Q2 Q3 Q4 ql qr qk qo QS QT QF QH qt ++ (wM P0 P1 P2 P3 P4 pl dr ki rl Z cl (mh, upd mo b.toNatClampNeg (vp_nar .boolean 1)) sl tk kp pa tr co ++ rest))) C0 d_Md_reach_35 rfl (by assumption) rfl ?_
      refine xs_world (ω' := (wd Q0 Q1 Q2 Q3 Q4 ql qr qk qo QS QT QF QH qt ++ (wM P0 P1 P2 P3 P4 pl dr ki rl Z cl (mh, m_row mo a b) sl tk kp pa tr co ++ rest))) (by rw [m_row_u mo a b 1 (by decide) (by rw [if_pos c_3])]) ?_
      refine xs_iload_n C0 d_Md_reach_36 rfl 0 rfl ?_
      exact xs_zret C0 d_Md_reach_37 (m_fr01 _ _ _) (⟨rfl, rfl⟩) (Nat.le_of_ble_eq_true rfl) (Nat.le_of_ble_eq_true rfl)
    · refine xs_iload_n C0 d_Md_reach_26 rfl 0 rfl ?_
      refine xs_bz_eq (u := 1) (v := 0) (tgt := 34) (J := 35) C0 d_Md_reach_27 (by decide) d_Md_reach_30 (by decide) d_Md_reach_31 (by decide) d_Md_reach_34 (by decide) rfl ?_
      refine xs_zast (ω' := (wd Q0 Q1 Q2 Q3 Q4 ql qr qk qo QS QT QF QH qt ++ (wM P0 P1 P2 P3 P4 pl dr ki rl Z cl (mh, upd mo b.toNatClampNeg (vp_nar .boolean (if ¬ (m_fr mo a b) = 0 then 1 else 0))) sl tk kp pa tr co ++ rest))) C0 d_Md_reach_35 rfl (by assumption) rfl ?_
      refine xs_world (ω' := (wd Q0 Q1 Q2 Q3 Q4 ql qr qk qo QS QT QF QH qt ++ (wM P0 P1 P2 P3 P4 pl dr ki rl Z cl (mh, m_row mo a b) sl tk kp pa tr co ++ rest))) (by rw [m_row_u mo a b (if ¬ (m_fr mo a b) = 0 then 1 else 0) xm_b01 (by rw [if_neg (c := ¬ mo b.toNatClampNeg = 0) (fun h9 => h9 c_3)])]) ?_
      refine xs_iload_n C0 d_Md_reach_36 rfl 0 rfl ?_
      exact xs_zret C0 d_Md_reach_37 (m_fr01 _ _ _) (⟨rfl, rfl⟩) (Nat.le_of_ble_eq_true rfl) (Nat.le_of_ble_eq_true rfl)
