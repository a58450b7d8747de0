set_option maxHeartbeats 4000000 in
set_option maxRecDepth 100000 in
theorem lp_keep {Q0 Q1 Q2 Q3 Q4 : wt_P} {ql qr qk qo : Nat → Int32} {QS QT : wt_S} {QF : wt_F} {QH : wt_H} {qt : Int32} {P0 : wt_P} {P1 : wt_P} {P2 : wt_P} {P3 : wt_P} {P4 : wt_P} {pl dr ki rl : Nat → Int32} {ms mc mw : Nat → Int32} {mb : Int32} {cl : Nat → Int32} {hc : mt_H} {sl tk : Int32} {ks kc kw : Nat → Int32} {kb kt : Int32} {pa : Nat → Int32} {tr : mt_T} {co : Int32} {rest : xm_O} {E : xm_X} {Q : State → Prop} (C0 : xm_C E y_Md_keep.cls b_Md_keep 2 none [] y_Md_keep.name (xm_rm 0 0 0)) (kx : xm_W E 2 Q 0 0 (wd Q0 Q1 Q2 Q3 Q4 ql qr qk qo QS QT QF QH qt ++ (wM P0 P1 P2 P3 P4 pl dr ki rl (ms, mc, mw, mb) cl hc sl tk (cpn 16 ms ks, cpn 16 mc kc, cpn 16 mw kw, kb, kt) pa tr co ++ rest)) 50 [(0, .ref 36)] []) : ∀ j : Nat, ∀ (i : Nat), i + j = 16 → xm_W E 2 Q 0 0 (wd Q0 Q1 Q2 Q3 Q4 ql qr qk qo QS QT QF QH qt ++ (wM P0 P1 P2 P3 P4 pl dr ki rl (ms, mc, mw, mb) cl hc sl tk (cpn i ms ks, cpn i mc kc, cpn i mw kw, kb, kt) pa tr co ++ rest)) 2 [(0, .ref 36), (1, .int (nI i))] [] := by
  intro j
  induction j with
  | zero =>
    intro i hi
    have e : 16 = i := by omega
    subst e
    refine xs_iload_n C0 d_Md_keep_2 rfl 1 rfl ?_
    refine xs_bipush (v := 16) C0 d_Md_keep_3 (by decide) ?_
    refine xs_icmp_ge (tgt := 50) C0 d_Md_keep_5 (by decide) (fun _ => ?_) (fun c9 => absurd (nI_le (Nat.le_refl 16) (by decide)) c9)
    refine xs_lv (lv' := [(0, .ref 36)]) [0] rfl ?_
    exact kx
  | succ j ih =>
    intro i hi
    have hlt : i < 16 := by omega
    refine xs_iload_n C0 d_Md_keep_2 rfl 1 rfl ?_
    refine xs_bipush (v := 16) C0 d_Md_keep_3 (by decide) ?_
    refine xs_icmp_ge (tgt := 50) C0 d_Md_keep_5 (by decide) (fun c9 => absurd c9 (nI_ge (b := 16) hlt (by decide))) (fun _ => ?_)
    refine xs_aload_n C0 d_Md_keep_8 rfl 0 rfl ?_
    refine xs_get (q := 36) (v := .ref 57) C0 f_Md_71 d_Md_keep_9 rfl rfl ?_
    refine xs_iload_n C0 d_Md_keep_12 rfl 1 rfl ?_
    refine xs_aload_n C0 d_Md_keep_13 rfl 0 rfl ?_
    refine xs_get (q := 36) (v := .ref 41) C0 f_Md_22 d_Md_keep_14 rfl rfl ?_
    refine xs_iload_n C0 d_Md_keep_17 rfl 1 rfl ?_
    refine xs_iald C0 d_Md_keep_18 rfl (vp_in_nI (n := i) (by omega) (by decide)) ?_
    refine xs_top (v' := .int (ms i)) (by rw [nI_clamp (by omega)]) ?_
    refine xs_iast (ω' := (wd Q0 Q1 Q2 Q3 Q4 ql qr qk qo QS QT QF QH qt ++ (wM P0 P1 P2 P3 P4 pl dr ki rl (ms, mc, mw, mb) cl hc sl tk (upd (cpn i ms ks) (nI i).toNatClampNeg (ms i), cpn i mc kc, cpn i mw kw, kb, kt) pa tr co ++ rest))) C0 d_Md_keep_19 rfl (vp_in_nI (n := i) (by omega) (by decide)) rfl ?_
    refine xs_world (ω' := (wd Q0 Q1 Q2 Q3 Q4 ql qr qk qo QS QT QF QH qt ++ (wM P0 P1 P2 P3 P4 pl dr ki rl (ms, mc, mw, mb) cl hc sl tk (upd (cpn i ms ks) i (ms i), cpn i mc kc, cpn i mw kw, kb, kt) pa tr co ++ rest))) (by rw [nI_clamp (by omega)]) ?_
    refine xs_aload_n C0 d_Md_keep_20 rfl 0 rfl ?_
    refine xs_pc (pc' := 21) rfl ?_
    refine xs_get (q := 36) (v := .ref 58) C0 f_Md_74 d_Md_keep_21 rfl rfl ?_
    refine xs_iload_n C0 d_Md_keep_24 rfl 1 rfl ?_
    refine xs_aload_n C0 d_Md_keep_25 rfl 0 rfl ?_
    refine xs_get (q := 36) (v := .ref 42) C0 f_Md_25 d_Md_keep_26 rfl rfl ?_
    refine xs_iload_n C0 d_Md_keep_29 rfl 1 rfl ?_
    refine xs_iald C0 d_Md_keep_30 rfl (vp_in_nI (n := i) (by omega) (by decide)) ?_
    refine xs_top (v' := .int (mc i)) (by rw [nI_clamp (by omega)]) ?_
    refine xs_iast (ω' := (wd Q0 Q1 Q2 Q3 Q4 ql qr qk qo QS QT QF QH qt ++ (wM P0 P1 P2 P3 P4 pl dr ki rl (ms, mc, mw, mb) cl hc sl tk (upd (cpn i ms ks) i (ms i), upd (cpn i mc kc) (nI i).toNatClampNeg (mc i), cpn i mw kw, kb, kt) pa tr co ++ rest))) C0 d_Md_keep_31 rfl (vp_in_nI (n := i) (by omega) (by decide)) rfl ?_
    refine xs_world (ω' := (wd Q0 Q1 Q2 Q3 Q4 ql qr qk qo QS QT QF QH qt ++ (wM P0 P1 P2 P3 P4 pl dr ki rl (ms, mc, mw, mb) cl hc sl tk (upd (cpn i ms ks) i (ms i), upd (cpn i mc kc) i (mc i), cpn i mw kw, kb, kt) pa tr co ++ rest))) (by rw [nI_clamp (by omega)]) ?_
    refine xs_aload_n C0 d_Md_keep_32 rfl 0 rfl ?_
    refine xs_get (q := 36) (v := .ref 59) C0 f_Md_77 d_Md_keep_33 rfl rfl ?_
    refine xs_iload_n C0 d_Md_keep_36 rfl 1 rfl ?_
    refine xs_aload_n C0 d_Md_keep_37 rfl 0 rfl ?_
    refine xs_get (q := 36) (v := .ref 43) C0 f_Md_28 d_Md_keep_38 rfl rfl ?_
    refine xs_pc (pc' := 41) rfl ?_
    refine xs_iload_n C0 d_Md_keep_41 rfl 1 rfl ?_
    refine xs_iald C0 d_Md_keep_42 rfl (vp_in_nI (n := i) (by omega) (by decide)) ?_
    refine xs_top (v' := .int (mw i)) (by rw [nI_clamp (by omega)]) ?_
    refine xs_iast (ω' := (wd Q0 Q1 Q2 Q3 Q4 ql qr qk qo QS QT QF QH qt ++ (wM P0 P1 P2 P3 P4 pl dr ki rl (ms, mc, mw, mb) cl hc sl tk (upd (cpn i ms ks) i (ms i), upd (cpn i mc kc) i (mc i), upd (cpn i mw kw) (nI i).toNatClampNeg (mw i), kb, kt) pa tr co ++ rest))) C0 d_Md_keep_43 rfl (vp_in_nI (n := i) (by omega) (by decide)) rfl ?_
    refine xs_world (ω' := (wd Q0 Q1 Q2 Q3 Q4 ql qr qk qo QS QT QF QH qt ++ (wM P0 P1 P2 P3 P4 pl dr ki rl (ms, mc, mw, mb) cl hc sl tk (upd (cpn i ms ks) i (ms i), upd (cpn i mc kc) i (mc i), upd (cpn i mw kw) i (mw i), kb, kt) pa tr co ++ rest))) (by rw [nI_clamp (by omega)]) ?_
    refine xs_iinc (v := nI (i + 1)) (lv' := [(1, .int (nI (i + 1))), (0, .ref 36)]) C0 d_Md_keep_44 1 rfl (by rw [← nI_1]; rfl) (by decide) rfl ?_
    refine xs_goto (tgt := 2) C0 d_Md_keep_47 (by decide) ?_
    refine xs_lv (lv' := [(0, .ref 36), (1, .int (nI (i + 1)))]) [1, 0] rfl ?_
    refine xs_world (ω' := (wd Q0 Q1 Q2 Q3 Q4 ql qr qk qo QS QT QF QH qt ++ (wM P0 P1 P2 P3 P4 pl dr ki rl (ms, mc, mw, mb) cl hc sl tk (cpn (i + 1) ms ks, cpn (i + 1) mc kc, cpn (i + 1) mw kw, kb, kt) pa tr co ++ rest))) (by rw [cpn_s, cpn_s, cpn_s]) ?_
    exact ih (i + 1) (by omega)
set_option maxHeartbeats 4000000 in
set_option maxRecDepth 100000 in
theorem d_keep {Q0 Q1 Q2 Q3 Q4 : wt_P} {ql qr qk qo : Nat → Int32} {QS QT : wt_S} {QF : wt_F} {QH : wt_H} {qt : Int32} {P0 : wt_P} {P1 : wt_P} {P2 : wt_P} {P3 : wt_P} {P4 : wt_P} {pl dr ki rl : Nat → Int32} {ms mc mw : Nat → Int32} {mb : Int32} {cl : Nat → Int32} {hc : mt_H} {sl tk : Int32} {ks kc kw : Nat → Int32} {kb kt : Int32} {pa : Nat → Int32} {tr : mt_T} {co : Int32} {rest : xm_O} (hz : mb = 0 ∨ mb = 1) : xm_M y_Md_keep (Cond.code y_Md_keep b_Md_keep 2 none) (xm_rm 0 0 0) [.ref 36] (wd Q0 Q1 Q2 Q3 Q4 ql qr qk qo QS QT QF QH qt ++ (wM P0 P1 P2 P3 P4 pl dr ki rl (ms, mc, mw, mb) cl hc sl tk (ks, kc, kw, kb, kt) pa tr co ++ rest)) (xm_eq (.inl none) (wd Q0 Q1 Q2 Q3 Q4 ql qr qk qo QS QT QF QH qt ++ (wM P0 P1 P2 P3 P4 pl dr ki rl (ms, mc, mw, mb) cl hc sl tk (m_keep (ms, mc, mw, mb) tk (ks, kc, kw, kb, kt)) pa tr co ++ rest))) := by
  refine xm_of (by decide) (Nat.le_of_ble_eq_true rfl) (fun E C0 => ?_)
  refine xs_eq (lv' := [(0, .ref 36)]) rfl rfl rfl ?_
  refine xs_iconst (v := 0) C0 d_Md_keep_0 (by decide) ?_
  refine xs_istore_n (lv' := [(1, .int 0), (0, .ref 36)]) C0 d_Md_keep_1 rfl (by decide) rfl ?_
  refine xs_lv (lv' := [(0, .ref 36), (1, .int 0)]) [1, 0] rfl ?_
  refine xs_world (ω' := (wd Q0 Q1 Q2 Q3 Q4 ql qr qk qo QS QT QF QH qt ++ (wM P0 P1 P2 P3 P4 pl dr ki rl (ms, mc, mw, mb) cl hc sl tk (cpn 0 ms ks, cpn 0 mc kc, cpn 0 mw kw, kb, kt) pa tr co ++ rest))) (by rw [cpn_0, cpn_0, cpn_0]) ?_
  refine lp_keep C0 ?_ 16 0 (by omega)
  refine xs_aload_n C0 d_Md_keep_50 rfl 0 rfl ?_
  refine xs_aload_n C0 d_Md_keep_51 rfl 0 rfl ?_
  refine xs_get (q := 36) (v := .int mb) C0 f_Md_137 d_Md_keep_52 rfl rfl ?_
  refine xs_put (ω' := (wd Q0 Q1 Q2 Q3 Q4 ql qr qk qo QS QT QF QH qt ++ (wM P0 P1 P2 P3 P4 pl dr ki rl (ms, mc, mw, mb) cl hc sl tk (cpn 16 ms ks, cpn 16 mc kc, cpn 16 mw kw, mb, kt) pa tr co ++ rest))) C0 f_Md_168 ty_Md_32 d_Md_keep_55 rfl (Nat.le_of_ble_eq_true rfl) (xm_zfit hz) rfl ?_
  refine xs_aload_n C0 d_Md_keep_58 rfl 0 rfl ?_
  refine xs_aload_n C0 d_Md_keep_59 rfl 0 rfl ?_
  refine xs_get (q := 36) (v := .int tk) C0 f_Md_171 d_Md_keep_60 rfl rfl ?_
  refine xs_put (ω' := (wd Q0 Q1 Q2 Q3 Q4 ql qr qk qo QS QT QF QH qt ++ (wM P0 P1 P2 P3 P4 pl dr ki rl (ms, mc, mw, mb) cl hc sl tk (cpn 16 ms ks, cpn 16 mc kc, cpn 16 mw kw, mb, tk) pa tr co ++ rest))) C0 f_Md_174 ty_Md_33 d_Md_keep_63 rfl (Nat.le_of_ble_eq_true rfl) (fun _ => ⟨rfl, rfl⟩) rfl ?_
  exact xs_vret C0 d_Md_keep_66 (⟨rfl, rfl⟩) (Nat.le_of_ble_eq_true rfl) (Nat.le_of_ble_eq_true rfl)
set_option maxHeartbeats 4000000 in
set_option maxRecDepth 100000 in
theorem lp_lb {Q0 Q1 Q2 Q3 Q4 : wt_P} {ql qr qk qo : Nat → Int32} {QS QT : wt_S} {QF : wt_F} {QH : wt_H} {qt : Int32} {P0 : wt_P} {P1 : wt_P} {P2 : wt_P} {P3 : wt_P} {P4 : wt_P} {pl dr ki rl : Nat → Int32} {ms mc mw : Nat → Int32} {mb : Int32} {cl : Nat → Int32} {hc : mt_H} {sl tk : Int32} {ks kc kw : Nat → Int32} {kb kt : Int32} {pa : Nat → Int32} {tr : mt_T} {co : Int32} {rest : xm_O} {E : xm_X} {Q : State → Prop} (C0 : xm_C E y_Md_layBack.cls b_Md_layBack 2 none [] y_Md_layBack.name (xm_rm 0 0 0)) (kx : xm_W E 2 Q 0 0 (wd Q0 Q1 Q2 Q3 Q4 ql qr qk qo QS QT QF QH qt ++ (wM P0 P1 P2 P3 P4 pl dr ki rl (cpn 16 ks ms, cpn 16 kc mc, cpn 16 kw mw, mb) cl hc sl tk (ks, kc, kw, kb, kt) pa tr co ++ rest)) 50 [(0, .ref 36)] []) : ∀ j : Nat, ∀ (i : Nat), i + j = 16 → xm_W E 2 Q 0 0 (wd Q0 Q1 Q2 Q3 Q4 ql qr qk qo QS QT QF QH qt ++ (wM P0 P1 P2 P3 P4 pl dr ki rl (cpn i ks ms, cpn i kc mc, cpn i kw mw, mb) cl hc sl tk (ks, kc, kw, kb, kt) pa tr co ++ rest)) 2 [(0, .ref 36), (1, .int (nI i))] [] := by
  intro j
  induction j with
  | zero =>
    intro i hi
    have e : 16 = i := by omega
    subst e
    refine xs_iload_n C0 d_Md_layBack_2 rfl 1 rfl ?_
    refine xs_bipush (v := 16) C0 d_Md_layBack_3 (by decide) ?_
    refine xs_icmp_ge (tgt := 50) C0 d_Md_layBack_5 (by decide) (fun _ => ?_) (fun c9 => absurd (nI_le (Nat.le_refl 16) (by decide)) c9)
    refine xs_lv (lv' := [(0, .ref 36)]) [0] rfl ?_
    exact kx
  | succ j ih =>
    intro i hi
    have hlt : i < 16 := by omega
    refine xs_iload_n C0 d_Md_layBack_2 rfl 1 rfl ?_
    refine xs_bipush (v := 16) C0 d_Md_layBack_3 (by decide) ?_
    refine xs_icmp_ge (tgt := 50) C0 d_Md_layBack_5 (by decide) (fun c9 => absurd c9 (nI_ge (b := 16) hlt (by decide))) (fun _ => ?_)
    refine xs_aload_n C0 d_Md_layBack_8 rfl 0 rfl ?_
    refine xs_get (q := 36) (v := .ref 41) C0 f_Md_22 d_Md_layBack_9 rfl rfl ?_
    refine xs_iload_n C0 d_Md_layBack_12 rfl 1 rfl ?_
    refine xs_aload_n C0 d_Md_layBack_13 rfl 0 rfl ?_
    refine xs_get (q := 36) (v := .ref 57) C0 f_Md_71 d_Md_layBack_14 rfl rfl ?_
    refine xs_iload_n C0 d_Md_layBack_17 rfl 1 rfl ?_
    refine xs_iald C0 d_Md_layBack_18 rfl (vp_in_nI (n := i) (by omega) (by decide)) ?_
    refine xs_top (v' := .int (ks i)) (by rw [nI_clamp (by omega)]) ?_
    refine xs_iast (ω' := (wd Q0 Q1 Q2 Q3 Q4 ql qr qk qo QS QT QF QH qt ++ (wM P0 P1 P2 P3 P4 pl dr ki rl (upd (cpn i ks ms) (nI i).toNatClampNeg (ks i), cpn i kc mc, cpn i kw mw, mb) cl hc sl tk (ks, kc, kw, kb, kt) pa tr co ++ rest))) C0 d_Md_layBack_19 rfl (vp_in_nI (n := i) (by omega) (by decide)) rfl ?_
    refine xs_world (ω' := (wd Q0 Q1 Q2 Q3 Q4 ql qr qk qo QS QT QF QH qt ++ (wM P0 P1 P2 P3 P4 pl dr ki rl (upd (cpn i ks ms) i (ks i), cpn i kc mc, cpn i kw mw, mb) cl hc sl tk (ks, kc, kw, kb, kt) pa tr co ++ rest))) (by rw [nI_clamp (by omega)]) ?_
    refine xs_aload_n C0 d_Md_layBack_20 rfl 0 rfl ?_
    refine xs_pc (pc' := 21) rfl ?_
    refine xs_get (q := 36) (v := .ref 42) C0 f_Md_25 d_Md_layBack_21 rfl rfl ?_
    refine xs_iload_n C0 d_Md_layBack_24 rfl 1 rfl ?_
    refine xs_aload_n C0 d_Md_layBack_25 rfl 0 rfl ?_
    refine xs_get (q := 36) (v := .ref 58) C0 f_Md_74 d_Md_layBack_26 rfl rfl ?_
    refine xs_iload_n C0 d_Md_layBack_29 rfl 1 rfl ?_
    refine xs_iald C0 d_Md_layBack_30 rfl (vp_in_nI (n := i) (by omega) (by decide)) ?_
    refine xs_top (v' := .int (kc i)) (by rw [nI_clamp (by omega)]) ?_
    refine xs_iast (ω' := (wd Q0 Q1 Q2 Q3 Q4 ql qr qk qo QS QT QF QH qt ++ (wM P0 P1 P2 P3 P4 pl dr ki rl (upd (cpn i ks ms) i (ks i), upd (cpn i kc mc) (nI i).toNatClampNeg (kc i), cpn i kw mw, mb) cl hc sl tk (ks, kc, kw, kb, kt) pa tr co ++ rest))) C0 d_Md_layBack_31 rfl (vp_in_nI (n := i) (by omega) (by decide)) rfl ?_
    refine xs_world (ω' := (wd Q0 Q1 Q2 Q3 Q4 ql qr qk qo QS QT QF QH qt ++ (wM P0 P1 P2 P3 P4 pl dr ki rl (upd (cpn i ks ms) i (ks i), upd (cpn i kc mc) i (kc i), cpn i kw mw, mb) cl hc sl tk (ks, kc, kw, kb, kt) pa tr co ++ rest))) (by rw [nI_clamp (by omega)]) ?_
    refine xs_aload_n C0 d_Md_layBack_32 rfl 0 rfl ?_
    refine xs_get (q := 36) (v := .ref 43) C0 f_Md_28 d_Md_layBack_33 rfl rfl ?_
    refine xs_iload_n C0 d_Md_layBack_36 rfl 1 rfl ?_
    refine xs_aload_n C0 d_Md_layBack_37 rfl 0 rfl ?_
    refine xs_get (q := 36) (v := .ref 59) C0 f_Md_77 d_Md_layBack_38 rfl rfl ?_
    refine xs_pc (pc' := 41) rfl ?_
    refine xs_iload_n C0 d_Md_layBack_41 rfl 1 rfl ?_
    refine xs_iald C0 d_Md_layBack_42 rfl (vp_in_nI (n := i) (by omega) (by decide)) ?_
    refine xs_top (v' := .int (kw i)) (by rw [nI_clamp (by omega)]) ?_
    refine xs_iast (ω' := (wd Q0 Q1 Q2 Q3 Q4 ql qr qk qo QS QT QF QH qt ++ (wM P0 P1 P2 P3 P4 pl dr ki rl (upd (cpn i ks ms) i (ks i), upd (cpn i kc mc) i (kc i), upd (cpn i kw mw) (nI i).toNatClampNeg (kw i), mb) cl hc sl tk (ks, kc, kw, kb, kt) pa tr co ++ rest))) C0 d_Md_layBack_43 rfl (vp_in_nI (n := i) (by omega) (by decide)) rfl ?_
    refine xs_world (ω' := (wd Q0 Q1 Q2 Q3 Q4 ql qr qk qo QS QT QF QH qt ++ (wM P0 P1 P2 P3 P4 pl dr ki rl (upd (cpn i ks ms) i (ks i), upd (cpn i kc mc) i (kc i), upd (cpn i kw mw) i (kw i), mb) cl hc sl tk (ks, kc, kw, kb, kt) pa tr co ++ rest))) (by rw [nI_clamp (by omega)]) ?_
    refine xs_iinc (v := nI (i + 1)) (lv' := [(1, .int (nI (i + 1))), (0, .ref 36)]) C0 d_Md_layBack_44 1 rfl (by rw [← nI_1]; rfl) (by decide) rfl ?_
    refine xs_goto (tgt := 2) C0 d_Md_layBack_47 (by decide) ?_
    refine xs_lv (lv' := [(0, .ref 36), (1, .int (nI (i + 1)))]) [1, 0] rfl ?_
    refine xs_world (ω' := (wd Q0 Q1 Q2 Q3 Q4 ql qr qk qo QS QT QF QH qt ++ (wM P0 P1 P2 P3 P4 pl dr ki rl (cpn (i + 1) ks ms, cpn (i + 1) kc mc, cpn (i + 1) kw mw, mb) cl hc sl tk (ks, kc, kw, kb, kt) pa tr co ++ rest))) (by rw [cpn_s, cpn_s, cpn_s]) ?_
    exact ih (i + 1) (by omega)
set_option maxHeartbeats 4000000 in
set_option maxRecDepth 100000 in
theorem d_lb {Q0 Q1 Q2 Q3 Q4 : wt_P} {ql qr qk qo : Nat → Int32} {QS QT : wt_S} {QF : wt_F} {QH : wt_H} {qt : Int32} {P0 : wt_P} {P1 : wt_P} {P2 : wt_P} {P3 : wt_P} {P4 : wt_P} {pl dr ki rl : Nat → Int32} {ms mc mw : Nat → Int32} {mb : Int32} {cl : Nat → Int32} {hc : mt_H} {sl tk : Int32} {ks kc kw : Nat → Int32} {kb kt : Int32} {pa : Nat → Int32} {tr : mt_T} {co : Int32} {rest : xm_O} (hz : kb = 0 ∨ kb = 1) : xm_M y_Md_layBack (Cond.code y_Md_layBack b_Md_layBack 2 none) (xm_rm 0 0 0) [.ref 36] (wd Q0 Q1 Q2 Q3 Q4 ql qr qk qo QS QT QF QH qt ++ (wM P0 P1 P2 P3 P4 pl dr ki rl (ms, mc, mw, mb) cl hc sl tk (ks, kc, kw, kb, kt) pa tr co ++ rest)) (xm_eq (.inl none) (wd Q0 Q1 Q2 Q3 Q4 ql qr qk qo QS QT QF QH qt ++ (wM P0 P1 P2 P3 P4 pl dr ki rl (m_back (ks, kc, kw, kb, kt) (ms, mc, mw, mb)) cl hc sl kt (ks, kc, kw, kb, kt) pa tr co ++ rest))) := by
  refine xm_of (by decide) (Nat.le_of_ble_eq_true rfl) (fun E C0 => ?_)
  refine xs_eq (lv' := [(0, .ref 36)]) rfl rfl rfl ?_
  refine xs_iconst (v := 0) C0 d_Md_layBack_0 (by decide) ?_
  refine xs_istore_n (lv' := [(1, .int 0), (0, .ref 36)]) C0 d_Md_layBack_1 rfl (by decide) rfl ?_
  refine xs_lv (lv' := [(0, .ref 36), (1, .int 0)]) [1, 0] rfl ?_
  refine xs_world (ω' := (wd Q0 Q1 Q2 Q3 Q4 ql qr qk qo QS QT QF QH qt ++ (wM P0 P1 P2 P3 P4 pl dr ki rl (cpn 0 ks ms, cpn 0 kc mc, cpn 0 kw mw, mb) cl hc sl tk (ks, kc, kw, kb, kt) pa tr co ++ rest))) (by rw [cpn_0, cpn_0, cpn_0]) ?_
  refine lp_lb C0 ?_ 16 0 (by omega)
  refine xs_aload_n C0 d_Md_layBack_50 rfl 0 rfl ?_
  refine xs_aload_n C0 d_Md_layBack_51 rfl 0 rfl ?_
  refine xs_get (q := 36) (v := .int kb) C0 f_Md_168 d_Md_layBack_52 rfl rfl ?_
  refine xs_put (ω' := (wd Q0 Q1 Q2 Q3 Q4 ql qr qk qo QS QT QF QH qt ++ (wM P0 P1 P2 P3 P4 pl dr ki rl (cpn 16 ks ms, cpn 16 kc mc, cpn 16 kw mw, kb) cl hc sl tk (ks, kc, kw, kb, kt) pa tr co ++ rest))) C0 f_Md_137 ty_Md_14 d_Md_layBack_55 rfl (Nat.le_of_ble_eq_true rfl) (xm_zfit hz) rfl ?_
  refine xs_aload_n C0 d_Md_layBack_58 rfl 0 rfl ?_
  refine xs_aload_n C0 d_Md_layBack_59 rfl 0 rfl ?_
  refine xs_get (q := 36) (v := .int kt) C0 f_Md_174 d_Md_layBack_60 rfl rfl ?_
  refine xs_put (ω' := (wd Q0 Q1 Q2 Q3 Q4 ql qr qk qo QS QT QF QH qt ++ (wM P0 P1 P2 P3 P4 pl dr ki rl (cpn 16 ks ms, cpn 16 kc mc, cpn 16 kw mw, kb) cl hc sl kt (ks, kc, kw, kb, kt) pa tr co ++ rest))) C0 f_Md_171 ty_Md_6 d_Md_layBack_63 rfl (Nat.le_of_ble_eq_true rfl) (fun _ => ⟨rfl, rfl⟩) rfl ?_
  exact xs_vret C0 d_Md_layBack_66 (⟨rfl, rfl⟩) (Nat.le_of_ble_eq_true rfl) (Nat.le_of_ble_eq_true rfl)
set_option maxHeartbeats 4000000 in
set_option maxRecDepth 100000 in
theorem lp_mrun {Q0 Q1 Q2 Q3 Q4 : wt_P} {ql qr qk qo : Nat → Int32} {QS QT : wt_S} {QF : wt_F} {QH : wt_H} {qt : Int32} {f0 g0 f1 g1 f2 g2 f3 g3 f4 g4 : Nat → Int32} {n0 n1 n2 n3 n4 : Nat} {pl dr ki ow rl : Nat → Int32} {cl : Nat → Int32} {sl tk : Int32} {kp : mt_K} {pa : Nat → Int32} {tr : mt_T} {co : Int32} {rest : xm_O} {r : Int32} {Z1 : mt_S} {hc1 : mt_H} {m : Nat} {E : xm_X} (C0 : xm_C E y_Md_run.cls b_Md_run 4 (some .int) [] y_Md_run.name (xm_rm 5 0 0)) (hM : okM ((f0, g0, n0), (f1, g1, n1), (f2, g2, n2), (f3, g3, n3), (f4, g4, n4), pl, dr, ki, ow) rl) (hm : m ≤ 1000) : ∀ j : Nat, ∀ (i : Nat) (b : Int32) (Z : mt_S) (hc : mt_H), i + j = m → m_run ((f0, g0, n0), (f1, g1, n1), (f2, g2, n2), (f3, g3, n3), (f4, g4, n4), pl, dr, ki, ow) rl cl sl j i (b, Z, hc) = (r, Z1, hc1) → xm_W E 4 (xm_F E (xm_rm 5 0 0).cells (xm_rm 5 0 0).slots (xm_eq (.inl (some (.int r))) (wd Q0 Q1 Q2 Q3 Q4 ql qr qk qo QS QT QF QH qt ++ (wMB ((f0, g0, n0), (f1, g1, n1), (f2, g2, n2), (f3, g3, n3), (f4, g4, n4), pl, dr, ki, ow) rl Z1 cl hc1 sl tk kp pa tr co ++ rest)))) 0 0 (wd Q0 Q1 Q2 Q3 Q4 ql qr qk qo QS QT QF QH qt ++ (wM (f0, g0, nI n0) (f1, g1, nI n1) (f2, g2, nI n2) (f3, g3, nI n3) (f4, g4, nI n4) pl dr ki rl Z cl hc sl tk kp pa tr co ++ rest)) 7 [(0, .ref 36), (1, .int (nI m)), (2, .int (nI i)), (3, .int b)] [] := by
  intro j
  induction j with
  | zero =>
    intro i b Z hc hi hf
    refine xs_iload_n C0 d_Md_run_7 rfl 3 rfl ?_
    refine xs_if_eq (tgt := 27) C0 d_Md_run_8 (by decide) (fun c1 => ?_) (fun c1 => ?_)
    · refine xs_iload_n C0 d_Md_run_27 rfl 3 rfl ?_
      refine xs_if_eq (tgt := 35) C0 d_Md_run_28 (by decide) (fun _ => ?_) (fun c9 => absurd c1 c9)
      refine xs_iload_n C0 d_Md_run_35 rfl 2 rfl ?_
      rw [m_run] at hf
      dsimp only at hf
      rw [if_pos c1] at hf
      cases hf
      exact xs_iret C0 d_Md_run_36 (⟨rfl, rfl⟩) (Nat.le_of_ble_eq_true rfl) (Nat.le_of_ble_eq_true rfl)
    · refine xs_iload_n C0 d_Md_run_11 rfl 2 rfl ?_
      refine xs_iload_n C0 d_Md_run_12 rfl 1 rfl ?_
      refine xs_icmp_ge (tgt := 27) C0 d_Md_run_13 (by decide) (fun _ => ?_) (fun c9 => absurd (nI_le (by omega) (by omega)) c9)
      refine xs_iload_n C0 d_Md_run_27 rfl 3 rfl ?_
      refine xs_if_eq (tgt := 35) C0 d_Md_run_28 (by decide) (fun c9 => absurd c9 c1) (fun _ => ?_)
      refine xs_iconst (v := (-1)) C0 d_Md_run_31 (by decide) ?_
      refine xs_goto (tgt := 36) C0 d_Md_run_32 (by decide) ?_
      rw [m_run] at hf
      dsimp only at hf
      rw [if_neg c1] at hf
      cases hf
      exact xs_iret C0 d_Md_run_36 (⟨rfl, rfl⟩) (Nat.le_of_ble_eq_true rfl) (Nat.le_of_ble_eq_true rfl)
  | succ j ih =>
    intro i b Z hc hi hf
    refine xs_iload_n C0 d_Md_run_7 rfl 3 rfl ?_
    refine xs_if_eq (tgt := 27) C0 d_Md_run_8 (by decide) (fun c1 => ?_) (fun c1 => ?_)
    · refine xs_iload_n C0 d_Md_run_27 rfl 3 rfl ?_
      refine xs_if_eq (tgt := 35) C0 d_Md_run_28 (by decide) (fun _ => ?_) (fun c9 => absurd c1 c9)
      refine xs_iload_n C0 d_Md_run_35 rfl 2 rfl ?_
      rw [m_run] at hf
      dsimp only at hf
      rw [if_pos c1] at hf
      cases hf
      exact xs_iret C0 d_Md_run_36 (⟨rfl, rfl⟩) (Nat.le_of_ble_eq_true rfl) (Nat.le_of_ble_eq_true rfl)
    · refine xs_iload_n C0 d_Md_run_11 rfl 2 rfl ?_
      refine xs_iload_n C0 d_Md_run_12 rfl 1 rfl ?_
      refine xs_icmp_ge (tgt := 27) C0 d_Md_run_13 (by decide) (fun c9 => absurd c9 (nI_ge (by omega) (by omega))) (fun _ => ?_)
      refine xs_iinc (v := nI (i + 1)) (lv' := [(2, .int (nI (i + 1))), (0, .ref 36), (1, .int (nI m)), (3, .int b)]) C0 d_Md_run_16 2 rfl (by rw [← nI_1]; rfl) (by decide) rfl ?_
      refine xs_aload_n C0 d_Md_run_19 rfl 1 rfl ?_
      rw [m_run] at hf
      dsimp only at hf
      rw [if_neg c1] at hf
      obtain ⟨b_1, Z_2, hc_3, hb_1⟩ : ∃ X9 Y9 Z9, m_t1 ((f0, g0, n0), (f1, g1, n1), (f2, g2, n2), (f3, g3, n3), (f4, g4, n4), pl, dr, ki, ow) rl cl sl Z hc = (X9, Y9, Z9) := ⟨_, _, _, rfl⟩
      refine xs_cV1 (ω' := (wd Q0 Q1 Q2 Q3 Q4 ql qr qk qo QS QT QF QH qt ++ (wM (f0, g0, nI n0) (f1, g1, nI n1) (f2, g2, nI n2) (f3, g3, nI n3) (f4, g4, nI n4) pl dr ki rl Z_2 cl hc_3 sl tk kp pa tr co ++ rest))) (As := []) (st := []) (kc' := 0) (ks' := 0) (v := .int b_1) C0 d_Md_run_20 l_Md_177 rfl rfl (d_t1 (B := ((f0, g0, n0), (f1, g1, n1), (f2, g2, n2), (f3, g3, n3), (f4, g4, n4), pl, dr, ki, ow)) hM hb_1) rfl rfl rfl (Nat.le_of_ble_eq_true rfl) (Nat.le_of_ble_eq_true rfl) (Nat.le_of_ble_eq_true rfl) (Nat.le_of_ble_eq_true rfl) (Nat.le_of_ble_eq_true rfl) (Nat.le_of_ble_eq_true rfl) ?_
      rw [hb_1] at hf
      refine xs_istore_n (lv' := [(3, .int b_1), (2, .int (nI (i + 1))), (0, .ref 36), (1, .int (nI m))]) C0 d_Md_run_23 rfl (by decide) rfl ?_
      refine xs_goto (tgt := 7) C0 d_Md_run_24 (by decide) ?_
      refine xs_lv (lv' := [(0, .ref 36), (1, .int (nI m)), (2, .int (nI (i + 1))), (3, .int b_1)]) [2, 3, 1, 0] rfl ?_
      exact ih (i + 1) _ _ _ (by omega) hf
set_option maxHeartbeats 4000000 in
set_option maxRecDepth 100000 in
theorem d_run {Q0 Q1 Q2 Q3 Q4 : wt_P} {ql qr qk qo : Nat → Int32} {QS QT : wt_S} {QF : wt_F} {QH : wt_H} {qt : Int32} {B : wb} {rl : Nat → Int32} {Z : mt_S} {cl : Nat → Int32} {hc : mt_H} {sl tk : Int32} {kp : mt_K} {pa : Nat → Int32} {tr : mt_T} {co : Int32} {rest : xm_O} {m : Nat} {r : Int32} {Z1 : mt_S} {hc1 : mt_H} (hM : okM B rl) (hm : m ≤ 1000) (hf : m_run B rl cl sl m 0 (m_t1 B rl cl sl Z hc) = (r, Z1, hc1)) : xm_M y_Md_run (Cond.code y_Md_run b_Md_run 4 (some .int)) (xm_rm 5 0 0) [.ref 36, .int (nI m)] (wd Q0 Q1 Q2 Q3 Q4 ql qr qk qo QS QT QF QH qt ++ (wMB B rl Z cl hc sl tk kp pa tr co ++ rest)) (xm_eq (.inl (some (.int r))) (wd Q0 Q1 Q2 Q3 Q4 ql qr qk qo QS QT QF QH qt ++ (wMB B rl Z1 cl hc1 sl tk kp pa tr co ++ rest))) := by
  obtain ⟨⟨f0, g0, n0⟩, ⟨f1, g1, n1⟩, ⟨f2, g2, n2⟩, ⟨f3, g3, n3⟩, ⟨f4, g4, n4⟩, pl, dr, ki, ow⟩ := B
  have hB := hM.1
  have hrl := hM.2
  obtain ⟨⟨h0, hp0⟩, ⟨h1, hp1⟩, ⟨h2, hp2⟩, ⟨h3, hp3⟩, ⟨h4, hp4⟩, hk⟩ := id hB
  dsimp only at h0 h1 h2 h3 h4 hp0 hp1 hp2 hp3 hp4 hk hrl
  refine xm_of (by decide) (Nat.le_of_ble_eq_true rfl) (fun E C0 => ?_)
  refine xs_eq (ω' := (wd Q0 Q1 Q2 Q3 Q4 ql qr qk qo QS QT QF QH qt ++ (wM (f0, g0, nI n0) (f1, g1, nI n1) (f2, g2, nI n2) (f3, g3, nI n3) (f4, g4, nI n4) pl dr ki rl Z cl hc sl tk kp pa tr co ++ rest))) (lv' := [(0, .ref 36), (1, .int (nI m))]) rfl rfl rfl ?_
  refine xs_iconst (v := 0) C0 d_Md_run_0 (by decide) ?_
  refine xs_istore_n (lv' := [(2, .int 0), (0, .ref 36), (1, .int (nI m))]) C0 d_Md_run_1 rfl (by decide) rfl ?_
  refine xs_aload_n C0 d_Md_run_2 rfl 1 rfl ?_
  obtain ⟨b_1, Z_2, hc_3, hb_1⟩ : ∃ X9 Y9 Z9, m_t1 ((f0, g0, n0), (f1, g1, n1), (f2, g2, n2), (f3, g3, n3), (f4, g4, n4), pl, dr, ki, ow) rl cl sl Z hc = (X9, Y9, Z9) := ⟨_, _, _, rfl⟩
  refine xs_cV1 (ω' := (wd Q0 Q1 Q2 Q3 Q4 ql qr qk qo QS QT QF QH qt ++ (wM (f0, g0, nI n0) (f1, g1, nI n1) (f2, g2, nI n2) (f3, g3, nI n3) (f4, g4, nI n4) pl dr ki rl Z_2 cl hc_3 sl tk kp pa tr co ++ rest))) (As := []) (st := []) (kc' := 0) (ks' := 0) (v := .int b_1) C0 d_Md_run_3 l_Md_177 rfl rfl (d_t1 (B := ((f0, g0, n0), (f1, g1, n1), (f2, g2, n2), (f3, g3, n3), (f4, g4, n4), pl, dr, ki, ow)) hM hb_1) rfl rfl rfl (Nat.le_of_ble_eq_true rfl) (Nat.le_of_ble_eq_true rfl) (Nat.le_of_ble_eq_true rfl) (Nat.le_of_ble_eq_true rfl) (Nat.le_of_ble_eq_true rfl) (Nat.le_of_ble_eq_true rfl) ?_
  refine xs_istore_n (lv' := [(3, .int b_1), (2, .int 0), (0, .ref 36), (1, .int (nI m))]) C0 d_Md_run_6 rfl (by decide) rfl ?_
  refine xs_lv (lv' := [(0, .ref 36), (1, .int (nI m)), (2, .int 0), (3, .int b_1)]) [2, 3, 1, 0] rfl ?_
  rw [hb_1] at hf
  exact lp_mrun C0 hM hm m 0 _ _ _ (by omega) hf
set_option maxHeartbeats 4000000 in
set_option maxRecDepth 100000 in
theorem lp_up {Q0 Q1 Q2 Q3 Q4 : wt_P} {ql qr qk qo : Nat → Int32} {QS QT : wt_S} {QF : wt_F} {QH : wt_H} {qt : Int32} {f0 g0 : Nat → Int32} {n0 : Nat} {P1 : wt_P} {P2 : wt_P} {P3 : wt_P} {P4 : wt_P} {pl dr ki rl : Nat → Int32} {ms mc mw : Nat → Int32} {mb : Int32} {cl : Nat → Int32} {hc : mt_H} {sl tk : Int32} {kp : mt_K} {pa : Nat → Int32} {tr : mt_T} {co : Int32} {rest : xm_O} {E : xm_X} {Q : State → Prop} (C0 : xm_C E y_Md_upSet.cls b_Md_upSet 3 (some .int) [] y_Md_upSet.name (xm_rm 0 0 0)) (h0 : n0 ≤ 16) (kx : xm_W E 3 Q 0 0 (wd Q0 Q1 Q2 Q3 Q4 ql qr qk qo QS QT QF QH qt ++ (wM (f0, g0, nI n0) P1 P2 P3 P4 pl dr ki rl (ms, mc, mw, mb) cl hc sl tk kp pa tr co ++ rest)) 38 [(1, .int (m_up ms n0))] []) : ∀ j : Nat, ∀ (i : Nat) (bits : Int32), i + j = n0 → m_up ms i = bits → xm_W E 3 Q 0 0 (wd Q0 Q1 Q2 Q3 Q4 ql qr qk qo QS QT QF QH qt ++ (wM (f0, g0, nI n0) P1 P2 P3 P4 pl dr ki rl (ms, mc, mw, mb) cl hc sl tk kp pa tr co ++ rest)) 4 [(0, .ref 36), (1, .int bits), (2, .int (nI i))] [] := by
  intro j
  induction j with
  | zero =>
    intro i bits hi hB
    have e : n0 = i := by omega
    subst e
    refine xs_iload_n C0 d_Md_upSet_4 rfl 2 rfl ?_
    refine xs_aload_n C0 d_Md_upSet_5 rfl 0 rfl ?_
    refine xs_get (q := 36) (v := .int (nI n0)) C0 f_Md_108 d_Md_upSet_6 rfl rfl ?_
    refine xs_icmp_ge (tgt := 38) C0 d_Md_upSet_9 (by decide) (fun _ => ?_) (fun c9 => absurd (nI_le (Nat.le_refl _) (by omega)) c9)
    refine xs_lv (lv' := [(1, .int bits)]) [1] rfl ?_
    subst hB
    exact kx
  | succ j ih =>
    intro i bits hi hB
    have hlt : i < n0 := by omega
    refine xs_iload_n C0 d_Md_upSet_4 rfl 2 rfl ?_
    refine xs_aload_n C0 d_Md_upSet_5 rfl 0 rfl ?_
    refine xs_get (q := 36) (v := .int (nI n0)) C0 f_Md_108 d_Md_upSet_6 rfl rfl ?_
    refine xs_icmp_ge (tgt := 38) C0 d_Md_upSet_9 (by decide) (fun c9 => absurd c9 (nI_ge hlt (by omega))) (fun _ => ?_)
    refine xs_iload_n C0 d_Md_upSet_12 rfl 1 rfl ?_
    refine xs_aload_n C0 d_Md_upSet_13 rfl 0 rfl ?_
    refine xs_get (q := 36) (v := .ref 41) C0 f_Md_22 d_Md_upSet_14 rfl rfl ?_
    refine xs_iload_n C0 d_Md_upSet_17 rfl 2 rfl ?_
    refine xs_iald C0 d_Md_upSet_18 rfl (vp_in_nI (n := i) (by omega) (by decide)) ?_
    refine xs_top (v' := .int (ms i)) (by rw [nI_clamp (by omega)]) ?_
    refine xs_iconst (v := 2) C0 d_Md_upSet_19 (by decide) ?_
    refine xs_icmp_ne (tgt := 29) C0 d_Md_upSet_20 (by decide) (fun c_1 => ?_) (fun c_1 => ?_)
    · refine xs_iconst (v := 0) C0 d_Md_upSet_29 (by decide) ?_
      refine xs_ior C0 d_Md_upSet_30 ?_
      refine xs_top (v' := .int (m_up ms (i + 1))) (by rw [m_up, hB, if_neg c_1]) ?_
      refine xs_istore_n (lv' := [(1, .int (m_up ms (i + 1))), (0, .ref 36), (2, .int (nI i))]) C0 d_Md_upSet_31 rfl (by decide) rfl ?_
      refine xs_iinc (v := nI (i + 1)) (lv' := [(2, .int (nI (i + 1))), (1, .int (m_up ms (i + 1))), (0, .ref 36)]) C0 d_Md_upSet_32 2 rfl (by rw [← nI_1]; rfl) (by decide) rfl ?_
      refine xs_goto (tgt := 4) C0 d_Md_upSet_35 (by decide) ?_
      refine xs_lv (lv' := [(0, .ref 36), (1, .int (m_up ms (i + 1))), (2, .int (nI (i + 1)))]) [2, 1, 0] rfl ?_
      exact ih (i + 1) _ (by omega) rfl
    · refine xs_iconst (v := 1) C0 d_Md_upSet_23 (by decide) ?_
      refine xs_iload_n C0 d_Md_upSet_24 rfl 2 rfl ?_
      refine xs_ishl C0 d_Md_upSet_25 ?_
      refine xs_goto (tgt := 30) C0 d_Md_upSet_26 (by decide) ?_
      refine xs_ior C0 d_Md_upSet_30 ?_
      refine xs_top (v' := .int (m_up ms (i + 1))) (by rw [m_up, hB, if_pos c_1]) ?_
      refine xs_istore_n (lv' := [(1, .int (m_up ms (i + 1))), (0, .ref 36), (2, .int (nI i))]) C0 d_Md_upSet_31 rfl (by decide) rfl ?_
      refine xs_iinc (v := nI (i + 1)) (lv' := [(2, .int (nI (i + 1))), (1, .int (m_up ms (i + 1))), (0, .ref 36)]) C0 d_Md_upSet_32 2 rfl (by rw [← nI_1]; rfl) (by decide) rfl ?_
      refine xs_goto (tgt := 4) C0 d_Md_upSet_35 (by decide) ?_
      refine xs_lv (lv' := [(0, .ref 36), (1, .int (m_up ms (i + 1))), (2, .int (nI (i + 1)))]) [2, 1, 0] rfl ?_
      exact ih (i + 1) _ (by omega) rfl
set_option maxHeartbeats 4000000 in
set_option maxRecDepth 100000 in
theorem d_up {Q0 Q1 Q2 Q3 Q4 : wt_P} {ql qr qk qo : Nat → Int32} {QS QT : wt_S} {QF : wt_F} {QH : wt_H} {qt : Int32} {f0 g0 : Nat → Int32} {n0 : Nat} {P1 : wt_P} {P2 : wt_P} {P3 : wt_P} {P4 : wt_P} {pl dr ki rl : Nat → Int32} {ms mc mw : Nat → Int32} {mb : Int32} {cl : Nat → Int32} {hc : mt_H} {sl tk : Int32} {kp : mt_K} {pa : Nat → Int32} {tr : mt_T} {co : Int32} {rest : xm_O} (h0 : n0 ≤ 16) : xm_M y_Md_upSet (Cond.code y_Md_upSet b_Md_upSet 3 (some .int)) (xm_rm 0 0 0) [.ref 36] (wd Q0 Q1 Q2 Q3 Q4 ql qr qk qo QS QT QF QH qt ++ (wM (f0, g0, nI n0) P1 P2 P3 P4 pl dr ki rl (ms, mc, mw, mb) cl hc sl tk kp pa tr co ++ rest)) (xm_eq (.inl (some (.int (m_up ms n0)))) (wd Q0 Q1 Q2 Q3 Q4 ql qr qk qo QS QT QF QH qt ++ (wM (f0, g0, nI n0) P1 P2 P3 P4 pl dr ki rl (ms, mc, mw, mb) cl hc sl tk kp pa tr co ++ rest))) := by
  refine xm_of (by decide) (Nat.le_of_ble_eq_true rfl) (fun E C0 => ?_)
  refine xs_eq (lv' := [(0, .ref 36)]) rfl rfl rfl ?_
  refine xs_iconst (v := 0) C0 d_Md_upSet_0 (by decide) ?_
  refine xs_istore_n (lv' := [(1, .int 0), (0, .ref 36)]) C0 d_Md_upSet_1 rfl (by decide) rfl ?_
  refine xs_iconst (v := 0) C0 d_Md_upSet_2 (by decide) ?_
  refine xs_istore_n (lv' := [(2, .int 0), (1, .int 0), (0, .ref 36)]) C0 d_Md_upSet_3 rfl (by decide) rfl ?_
  refine xs_lv (lv' := [(0, .ref 36), (1, .int 0), (2, .int 0)]) [2, 1, 0] rfl ?_
  refine lp_up C0 h0 ?_ n0 0 _ (by omega) rfl
  refine xs_iload_n C0 d_Md_upSet_38 rfl 0 rfl ?_
  exact xs_iret C0 d_Md_upSet_39 ⟨rfl, rfl⟩ (Nat.le_of_ble_eq_true rfl) (Nat.le_of_ble_eq_true rfl)
