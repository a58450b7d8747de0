set_option maxHeartbeats 4000000 in
set_option maxRecDepth 100000 in
theorem lp_wc1 {Q0 Q1 Q2 Q3 Q4 : wt_P} {ql qr qk qo : Nat → Int32} {QS QT : wt_S} {QF : wt_F} {QH : wt_H} {qt : Int32} {P0 : wt_P} {P1 : wt_P} {P2 : wt_P} {P3 : wt_P} {P4 : wt_P} {pl dr ki rl : Nat → Int32} {ms mc mw : Nat → Int32} {mb : Int32} {cl : Nat → Int32} {hc : mt_H} {sl tk : Int32} {kp : mt_K} {pa : Nat → Int32} {rs rc rw : Nat → Int32} {co : Int32} {rest : xm_O} {mb9 : Int32} {E : xm_X} {Q : State → Prop} (C0 : xm_C E y_Md_wouldChange.cls b_Md_wouldChange 4 (some .boolean) [] y_Md_wouldChange.name (xm_rm 5 0 0)) (kx : xm_W E 4 Q 0 0 (wd Q0 Q1 Q2 Q3 Q4 ql qr qk qo QS QT QF QH qt ++ (wM P0 P1 P2 P3 P4 pl dr ki rl (ms, mc, mw, mb) cl hc sl tk kp pa (cpn 16 ms rs, cpn 16 mc rc, cpn 16 mw rw) co ++ rest)) 55 [(0, .ref 36), (1, .int mb9)] []) : ∀ j : Nat, ∀ (i : Nat), i + j = 16 → xm_W E 4 Q 0 0 (wd Q0 Q1 Q2 Q3 Q4 ql qr qk qo QS QT QF QH qt ++ (wM P0 P1 P2 P3 P4 pl dr ki rl (ms, mc, mw, mb) cl hc sl tk kp pa (cpn i ms rs, cpn i mc rc, cpn i mw rw) co ++ rest)) 7 [(0, .ref 36), (1, .int mb9), (2, .int (nI i))] [] := by
  intro j
  induction j with
  | zero =>
    intro i hi
    have e : 16 = i := by omega
    subst e
    refine xs_iload_n C0 d_Md_wouldChange_7 rfl 2 rfl ?_
    refine xs_bipush (v := 16) C0 d_Md_wouldChange_8 (by decide) ?_
    refine xs_icmp_ge (tgt := 55) C0 d_Md_wouldChange_10 (by decide) (fun _ => ?_) (fun c9 => absurd (nI_le (Nat.le_refl 16) (by decide)) c9)
    refine xs_lv (lv' := [(0, .ref 36), (1, .int mb9)]) [0, 1] rfl ?_
    exact kx
  | succ j ih =>
    intro i hi
    have hlt : i < 16 := by omega
    refine xs_iload_n C0 d_Md_wouldChange_7 rfl 2 rfl ?_
    refine xs_bipush (v := 16) C0 d_Md_wouldChange_8 (by decide) ?_
    refine xs_icmp_ge (tgt := 55) C0 d_Md_wouldChange_10 (by decide) (fun c9 => absurd c9 (nI_ge (b := 16) hlt (by decide))) (fun _ => ?_)
    refine xs_aload_n C0 d_Md_wouldChange_13 rfl 0 rfl ?_
    refine xs_get (q := 36) (v := .ref 61) C0 f_Md_83 d_Md_wouldChange_14 rfl rfl ?_
    refine xs_iload_n C0 d_Md_wouldChange_17 rfl 2 rfl ?_
    refine xs_aload_n C0 d_Md_wouldChange_18 rfl 0 rfl ?_
    refine xs_get (q := 36) (v := .ref 41) C0 f_Md_22 d_Md_wouldChange_19 rfl rfl ?_
    refine xs_iload_n C0 d_Md_wouldChange_22 rfl 2 rfl ?_
    refine xs_iald C0 d_Md_wouldChange_23 rfl (vp_in_nI (n := i) (by omega) (by decide)) ?_
    refine xs_top (v' := .int (ms i)) (by rw [nI_clamp (by omega)]) ?_
    refine xs_iast (ω' := (wd Q0 Q1 Q2 Q3 Q4 ql qr qk qo QS QT QF QH qt ++ (wM P0 P1 P2 P3 P4 pl dr ki rl (ms, mc, mw, mb) cl hc sl tk kp pa (upd (cpn i ms rs) (nI i).toNatClampNeg (ms i), cpn i mc rc, cpn i mw rw) co ++ rest))) C0 d_Md_wouldChange_24 rfl (vp_in_nI (n := i) (by omega) (by decide)) rfl ?_
    refine xs_world (ω' := (wd Q0 Q1 Q2 Q3 Q4 ql qr qk qo QS QT QF QH qt ++ (wM P0 P1 P2 P3 P4 pl dr ki rl (ms, mc, mw, mb) cl hc sl tk kp pa (upd (cpn i ms rs) i (ms i), cpn i mc rc, cpn i mw rw) co ++ rest))) (by rw [nI_clamp (by omega)]) ?_
    refine xs_aload_n C0 d_Md_wouldChange_25 rfl 0 rfl ?_
    refine xs_pc (pc' := 26) rfl ?_
    refine xs_get (q := 36) (v := .ref 62) C0 f_Md_86 d_Md_wouldChange_26 rfl rfl ?_
    refine xs_iload_n C0 d_Md_wouldChange_29 rfl 2 rfl ?_
    refine xs_aload_n C0 d_Md_wouldChange_30 rfl 0 rfl ?_
    refine xs_get (q := 36) (v := .ref 42) C0 f_Md_25 d_Md_wouldChange_31 rfl rfl ?_
    refine xs_iload_n C0 d_Md_wouldChange_34 rfl 2 rfl ?_
    refine xs_iald C0 d_Md_wouldChange_35 rfl (vp_in_nI (n := i) (by omega) (by decide)) ?_
    refine xs_top (v' := .int (mc i)) (by rw [nI_clamp (by omega)]) ?_
    refine xs_iast (ω' := (wd Q0 Q1 Q2 Q3 Q4 ql qr qk qo QS QT QF QH qt ++ (wM P0 P1 P2 P3 P4 pl dr ki rl (ms, mc, mw, mb) cl hc sl tk kp pa (upd (cpn i ms rs) i (ms i), upd (cpn i mc rc) (nI i).toNatClampNeg (mc i), cpn i mw rw) co ++ rest))) C0 d_Md_wouldChange_36 rfl (vp_in_nI (n := i) (by omega) (by decide)) rfl ?_
    refine xs_world (ω' := (wd Q0 Q1 Q2 Q3 Q4 ql qr qk qo QS QT QF QH qt ++ (wM P0 P1 P2 P3 P4 pl dr ki rl (ms, mc, mw, mb) cl hc sl tk kp pa (upd (cpn i ms rs) i (ms i), upd (cpn i mc rc) i (mc i), cpn i mw rw) co ++ rest))) (by rw [nI_clamp (by omega)]) ?_
    refine xs_aload_n C0 d_Md_wouldChange_37 rfl 0 rfl ?_
    refine xs_get (q := 36) (v := .ref 63) C0 f_Md_89 d_Md_wouldChange_38 rfl rfl ?_
    refine xs_iload_n C0 d_Md_wouldChange_41 rfl 2 rfl ?_
    refine xs_aload_n C0 d_Md_wouldChange_42 rfl 0 rfl ?_
    refine xs_get (q := 36) (v := .ref 43) C0 f_Md_28 d_Md_wouldChange_43 rfl rfl ?_
    refine xs_pc (pc' := 46) rfl ?_
    refine xs_iload_n C0 d_Md_wouldChange_46 rfl 2 rfl ?_
    refine xs_iald C0 d_Md_wouldChange_47 rfl (vp_in_nI (n := i) (by omega) (by decide)) ?_
    refine xs_top (v' := .int (mw i)) (by rw [nI_clamp (by omega)]) ?_
    refine xs_iast (ω' := (wd Q0 Q1 Q2 Q3 Q4 ql qr qk qo QS QT QF QH qt ++ (wM P0 P1 P2 P3 P4 pl dr ki rl (ms, mc, mw, mb) cl hc sl tk kp pa (upd (cpn i ms rs) i (ms i), upd (cpn i mc rc) i (mc i), upd (cpn i mw rw) (nI i).toNatClampNeg (mw i)) co ++ rest))) C0 d_Md_wouldChange_48 rfl (vp_in_nI (n := i) (by omega) (by decide)) rfl ?_
    refine xs_world (ω' := (wd Q0 Q1 Q2 Q3 Q4 ql qr qk qo QS QT QF QH qt ++ (wM P0 P1 P2 P3 P4 pl dr ki rl (ms, mc, mw, mb) cl hc sl tk kp pa (upd (cpn i ms rs) i (ms i), upd (cpn i mc rc) i (mc i), upd (cpn i mw rw) i (mw i)) co ++ rest))) (by rw [nI_clamp (by omega)]) ?_
    refine xs_iinc (v := nI (i + 1)) (lv' := [(2, .int (nI (i + 1))), (0, .ref 36), (1, .int mb9)]) C0 d_Md_wouldChange_49 2 rfl (by rw [← nI_1]; rfl) (by decide) rfl ?_
    refine xs_goto (tgt := 7) C0 d_Md_wouldChange_52 (by decide) ?_
    refine xs_lv (lv' := [(0, .ref 36), (1, .int mb9), (2, .int (nI (i + 1)))]) [1, 2, 0] rfl ?_
    refine xs_world (ω' := (wd Q0 Q1 Q2 Q3 Q4 ql qr qk qo QS QT QF QH qt ++ (wM P0 P1 P2 P3 P4 pl dr ki rl (ms, mc, mw, mb) cl hc sl tk kp pa (cpn (i + 1) ms rs, cpn (i + 1) mc rc, cpn (i + 1) mw rw) co ++ rest))) (by rw [cpn_s, cpn_s, cpn_s]) ?_
    exact ih (i + 1) (by omega)
set_option maxHeartbeats 4000000 in
set_option maxRecDepth 100000 in
theorem lp_wc2 {Q0 Q1 Q2 Q3 Q4 : wt_P} {ql qr qk qo : Nat → Int32} {QS QT : wt_S} {QF : wt_F} {QH : wt_H} {qt : Int32} {P0 : wt_P} {P1 : wt_P} {P2 : wt_P} {P3 : wt_P} {P4 : wt_P} {pl dr ki rl : Nat → Int32} {ms mc mw : Nat → Int32} {mb : Int32} {cl : Nat → Int32} {hc : mt_H} {sl tk : Int32} {kp : mt_K} {pa : Nat → Int32} {rs rc rw : Nat → Int32} {co : Int32} {rest : xm_O} {mb9 b9 : Int32} {E : xm_X} {Q : State → Prop} (C0 : xm_C E y_Md_wouldChange.cls b_Md_wouldChange 4 (some .boolean) [] y_Md_wouldChange.name (xm_rm 5 0 0)) (kx : xm_W E 4 Q 0 0 (wd Q0 Q1 Q2 Q3 Q4 ql qr qk qo QS QT QF QH qt ++ (wM P0 P1 P2 P3 P4 pl dr ki rl (cpn 16 rs ms, cpn 16 rc mc, cpn 16 rw mw, mb) cl hc sl tk kp pa (rs, rc, rw) co ++ rest)) 110 [(0, .ref 36), (1, .int mb9), (2, .int b9)] []) : ∀ j : Nat, ∀ (i : Nat), i + j = 16 → xm_W E 4 Q 0 0 (wd Q0 Q1 Q2 Q3 Q4 ql qr qk qo QS QT QF QH qt ++ (wM P0 P1 P2 P3 P4 pl dr ki rl (cpn i rs ms, cpn i rc mc, cpn i rw mw, mb) cl hc sl tk kp pa (rs, rc, rw) co ++ rest)) 62 [(0, .ref 36), (1, .int mb9), (2, .int b9), (3, .int (nI i))] [] := by
  intro j
  induction j with
  | zero =>
    intro i hi
    have e : 16 = i := by omega
    subst e
    refine xs_iload_n C0 d_Md_wouldChange_62 rfl 3 rfl ?_
    refine xs_bipush (v := 16) C0 d_Md_wouldChange_63 (by decide) ?_
    refine xs_icmp_ge (tgt := 110) C0 d_Md_wouldChange_65 (by decide) (fun _ => ?_) (fun c9 => absurd (nI_le (Nat.le_refl 16) (by decide)) c9)
    refine xs_lv (lv' := [(0, .ref 36), (1, .int mb9), (2, .int b9)]) [0, 1, 2] rfl ?_
    exact kx
  | succ j ih =>
    intro i hi
    have hlt : i < 16 := by omega
    refine xs_iload_n C0 d_Md_wouldChange_62 rfl 3 rfl ?_
    refine xs_bipush (v := 16) C0 d_Md_wouldChange_63 (by decide) ?_
    refine xs_icmp_ge (tgt := 110) C0 d_Md_wouldChange_65 (by decide) (fun c9 => absurd c9 (nI_ge (b := 16) hlt (by decide))) (fun _ => ?_)
    refine xs_aload_n C0 d_Md_wouldChange_68 rfl 0 rfl ?_
    refine xs_get (q := 36) (v := .ref 41) C0 f_Md_22 d_Md_wouldChange_69 rfl rfl ?_
    refine xs_iload_n C0 d_Md_wouldChange_72 rfl 3 rfl ?_
    refine xs_aload_n C0 d_Md_wouldChange_73 rfl 0 rfl ?_
    refine xs_get (q := 36) (v := .ref 61) C0 f_Md_83 d_Md_wouldChange_74 rfl rfl ?_
    refine xs_iload_n C0 d_Md_wouldChange_77 rfl 3 rfl ?_
    refine xs_iald C0 d_Md_wouldChange_78 rfl (vp_in_nI (n := i) (by omega) (by decide)) ?_
    refine xs_top (v' := .int (rs i)) (by rw [nI_clamp (by omega)]) ?_
    refine xs_iast (ω' := (wd Q0 Q1 Q2 Q3 Q4 ql qr qk qo QS QT QF QH qt ++ (wM P0 P1 P2 P3 P4 pl dr ki rl (upd (cpn i rs ms) (nI i).toNatClampNeg (rs i), cpn i rc mc, cpn i rw mw, mb) cl hc sl tk kp pa (rs, rc, rw) co ++ rest))) C0 d_Md_wouldChange_79 rfl (vp_in_nI (n := i) (by omega) (by decide)) rfl ?_
    refine xs_world (ω' := (wd Q0 Q1 Q2 Q3 Q4 ql qr qk qo QS QT QF QH qt ++ (wM P0 P1 P2 P3 P4 pl dr ki rl (upd (cpn i rs ms) i (rs i), cpn i rc mc, cpn i rw mw, mb) cl hc sl tk kp pa (rs, rc, rw) co ++ rest))) (by rw [nI_clamp (by omega)]) ?_
    refine xs_aload_n C0 d_Md_wouldChange_80 rfl 0 rfl ?_
    refine xs_pc (pc' := 81) rfl ?_
    refine xs_get (q := 36) (v := .ref 42) C0 f_Md_25 d_Md_wouldChange_81 rfl rfl ?_
    refine xs_iload_n C0 d_Md_wouldChange_84 rfl 3 rfl ?_
    refine xs_aload_n C0 d_Md_wouldChange_85 rfl 0 rfl ?_
    refine xs_get (q := 36) (v := .ref 62) C0 f_Md_86 d_Md_wouldChange_86 rfl rfl ?_
    refine xs_iload_n C0 d_Md_wouldChange_89 rfl 3 rfl ?_
    refine xs_iald C0 d_Md_wouldChange_90 rfl (vp_in_nI (n := i) (by omega) (by decide)) ?_
    refine xs_top (v' := .int (rc i)) (by rw [nI_clamp (by omega)]) ?_
    refine xs_iast (ω' := (wd Q0 Q1 Q2 Q3 Q4 ql qr qk qo QS QT QF QH qt ++ (wM P0 P1 P2 P3 P4 pl dr ki rl (upd (cpn i rs ms) i (rs i), upd (cpn i rc mc) (nI i).toNatClampNeg (rc i), cpn i rw mw, mb) cl hc sl tk kp pa (rs, rc, rw) co ++ rest))) C0 d_Md_wouldChange_91 rfl (vp_in_nI (n := i) (by omega) (by decide)) rfl ?_
    refine xs_world (ω' := (wd Q0 Q1 Q2 Q3 Q4 ql qr qk qo QS QT QF QH qt ++ (wM P0 P1 P2 P3 P4 pl dr ki rl (upd (cpn i rs ms) i (rs i), upd (cpn i rc mc) i (rc i), cpn i rw mw, mb) cl hc sl tk kp pa (rs, rc, rw) co ++ rest))) (by rw [nI_clamp (by omega)]) ?_
    refine xs_aload_n C0 d_Md_wouldChange_92 rfl 0 rfl ?_
    refine xs_get (q := 36) (v := .ref 43) C0 f_Md_28 d_Md_wouldChange_93 rfl rfl ?_
    refine xs_iload_n C0 d_Md_wouldChange_96 rfl 3 rfl ?_
    refine xs_aload_n C0 d_Md_wouldChange_97 rfl 0 rfl ?_
    refine xs_get (q := 36) (v := .ref 63) C0 f_Md_89 d_Md_wouldChange_98 rfl rfl ?_
    refine xs_pc (pc' := 101) rfl ?_
    refine xs_iload_n C0 d_Md_wouldChange_101 rfl 3 rfl ?_
    refine xs_iald C0 d_Md_wouldChange_102 rfl (vp_in_nI (n := i) (by omega) (by decide)) ?_
    refine xs_top (v' := .int (rw i)) (by rw [nI_clamp (by omega)]) ?_
    refine xs_iast (ω' := (wd Q0 Q1 Q2 Q3 Q4 ql qr qk qo QS QT QF QH qt ++ (wM P0 P1 P2 P3 P4 pl dr ki rl (upd (cpn i rs ms) i (rs i), upd (cpn i rc mc) i (rc i), upd (cpn i rw mw) (nI i).toNatClampNeg (rw i), mb) cl hc sl tk kp pa (rs, rc, rw) co ++ rest))) C0 d_Md_wouldChange_103 rfl (vp_in_nI (n := i) (by omega) (by decide)) rfl ?_
    refine xs_world (ω' := (wd Q0 Q1 Q2 Q3 Q4 ql qr qk qo QS QT QF QH qt ++ (wM P0 P1 P2 P3 P4 pl dr ki rl (upd (cpn i rs ms) i (rs i), upd (cpn i rc mc) i (rc i), upd (cpn i rw mw) i (rw i), mb) cl hc sl tk kp pa (rs, rc, rw) co ++ rest))) (by rw [nI_clamp (by omega)]) ?_
    refine xs_iinc (v := nI (i + 1)) (lv' := [(3, .int (nI (i + 1))), (0, .ref 36), (1, .int mb9), (2, .int b9)]) C0 d_Md_wouldChange_104 3 rfl (by rw [← nI_1]; rfl) (by decide) rfl ?_
    refine xs_goto (tgt := 62) C0 d_Md_wouldChange_107 (by decide) ?_
    refine xs_lv (lv' := [(0, .ref 36), (1, .int mb9), (2, .int b9), (3, .int (nI (i + 1)))]) [1, 2, 3, 0] rfl ?_
    refine xs_world (ω' := (wd Q0 Q1 Q2 Q3 Q4 ql qr qk qo QS QT QF QH qt ++ (wM P0 P1 P2 P3 P4 pl dr ki rl (cpn (i + 1) rs ms, cpn (i + 1) rc mc, cpn (i + 1) rw mw, mb) cl hc sl tk kp pa (rs, rc, rw) co ++ rest))) (by rw [cpn_s, cpn_s, cpn_s]) ?_
    exact ih (i + 1) (by omega)
set_option maxHeartbeats 4000000 in
set_option maxRecDepth 100000 in
theorem d_wc {Q0 Q1 Q2 Q3 Q4 : wt_P} {ql qr qk qo : Nat → Int32} {QS QT : wt_S} {QF : wt_F} {QH : wt_H} {qt : Int32} {B : wb} {rl : Nat → Int32} {Z : mt_S} {cl : Nat → Int32} {hc : mt_H} {sl tk : Int32} {kp : mt_K} {pa : Nat → Int32} {tr : mt_T} {co : Int32} {rest : xm_O} {b : Int32} {Z1 : mt_S} {hc1 : mt_H} {tr1 : mt_T} (hM : okM B rl) (hz : z01 Z) (hf : m_wc B rl cl sl Z hc tr = (b, Z1, hc1, tr1)) : xm_M y_Md_wouldChange (Cond.code y_Md_wouldChange b_Md_wouldChange 4 (some .boolean)) (xm_rm 5 0 0) [.ref 36] (wd Q0 Q1 Q2 Q3 Q4 ql qr qk qo QS QT QF QH qt ++ (wMB B rl Z cl hc sl tk kp pa tr co ++ rest)) (xm_eq (.inl (some (.int b))) (wd Q0 Q1 Q2 Q3 Q4 ql qr qk qo QS QT QF QH qt ++ (wMB B rl Z1 cl hc1 sl tk kp pa tr1 co ++ rest))) := by
  obtain ⟨⟨f0, g0, n0⟩, ⟨f1, g1, n1⟩, ⟨f2, g2, n2⟩, ⟨f3, g3, n3⟩, ⟨f4, g4, n4⟩, pl, dr, ki, ow⟩ := B
  have hB := hM.1
  have hrl := hM.2
  obtain ⟨⟨h0, hp0⟩, ⟨h1, hp1⟩, ⟨h2, hp2⟩, ⟨h3, hp3⟩, ⟨h4, hp4⟩, hk⟩ := id hB
  dsimp only at h0 h1 h2 h3 h4 hp0 hp1 hp2 hp3 hp4 hk hrl
  refine xm_of (by decide) (Nat.le_of_ble_eq_true rfl) (fun E C0 => ?_)
  refine xs_eq (ω' := (wd Q0 Q1 Q2 Q3 Q4 ql qr qk qo QS QT QF QH qt ++ (wM (f0, g0, nI n0) (f1, g1, nI n1) (f2, g2, nI n2) (f3, g3, nI n3) (f4, g4, nI n4) pl dr ki rl Z cl hc sl tk kp pa tr co ++ rest))) (lv' := [(0, .ref 36)]) rfl rfl rfl ?_
  refine xs_aload_n C0 d_Md_wouldChange_0 rfl 0 rfl ?_
  obtain ⟨ms_1, mc_1, mw_1, mb_1⟩ := Z
  refine xs_get (q := 36) (v := .int mb_1) C0 f_Md_137 d_Md_wouldChange_1 rfl rfl ?_
  refine xs_istore_n (lv' := [(1, .int mb_1), (0, .ref 36)]) C0 d_Md_wouldChange_4 rfl (by decide) rfl ?_
  refine xs_iconst (v := 0) C0 d_Md_wouldChange_5 (by decide) ?_
  refine xs_istore_n (lv' := [(2, .int 0), (1, .int mb_1), (0, .ref 36)]) C0 d_Md_wouldChange_6 rfl (by decide) rfl ?_
  obtain ⟨rs_2, rc_2, rw_2⟩ := tr
  refine xs_lv (lv' := [(0, .ref 36), (1, .int mb_1), (2, .int 0)]) [2, 1, 0] rfl ?_
  refine xs_world (ω' := (wd Q0 Q1 Q2 Q3 Q4 ql qr qk qo QS QT QF QH qt ++ (wM (f0, g0, nI n0) (f1, g1, nI n1) (f2, g2, nI n2) (f3, g3, nI n3) (f4, g4, nI n4) pl dr ki rl (ms_1, mc_1, mw_1, mb_1) cl hc sl tk kp pa (cpn 0 ms_1 rs_2, cpn 0 mc_1 rc_2, cpn 0 mw_1 rw_2) co ++ rest))) (by rw [cpn_0, cpn_0, cpn_0]) ?_
  refine lp_wc1 C0 ?_ 16 0 (by omega)
  refine xs_aload_n C0 d_Md_wouldChange_55 rfl 0 rfl ?_
  obtain ⟨b_3, Z_4, hc_5, hb_3⟩ : ∃ X9 Y9 Z9, m_t1 ((f0, g0, n0), (f1, g1, n1), (f2, g2, n2), (f3, g3, n3), (f4, g4, n4), pl, dr, ki, ow) rl cl sl (ms_1, mc_1, mw_1, mb_1) hc = (X9, Y9, Z9) := ⟨_, _, _, rfl⟩
  refine xs_cV1 (ω' := (wd Q0 Q1 Q2 Q3 Q4 ql qr qk qo QS QT QF QH qt ++ (wM (f0, g0, nI n0) (f1, g1, nI n1) (f2, g2, nI n2) (f3, g3, nI n3) (f4, g4, nI n4) pl dr ki rl Z_4 cl hc_5 sl tk kp pa (cpn 16 ms_1 rs_2, cpn 16 mc_1 rc_2, cpn 16 mw_1 rw_2) co ++ rest))) (As := []) (st := []) (kc' := 0) (ks' := 0) (v := .int b_3) C0 d_Md_wouldChange_56 l_Md_177 rfl rfl (d_t1 (B := ((f0, g0, n0), (f1, g1, n1), (f2, g2, n2), (f3, g3, n3), (f4, g4, n4), pl, dr, ki, ow)) hM hb_3) rfl rfl rfl (Nat.le_of_ble_eq_true rfl) (Nat.le_of_ble_eq_true rfl) (Nat.le_of_ble_eq_true rfl) (Nat.le_of_ble_eq_true rfl) (Nat.le_of_ble_eq_true rfl) (Nat.le_of_ble_eq_true rfl) ?_
  refine xs_istore_n (lv' := [(2, .int b_3), (0, .ref 36), (1, .int mb_1)]) C0 d_Md_wouldChange_59 rfl (by decide) rfl ?_
  refine xs_iconst (v := 0) C0 d_Md_wouldChange_60 (by decide) ?_
  refine xs_istore_n (lv' := [(3, .int 0), (2, .int b_3), (0, .ref 36), (1, .int mb_1)]) C0 d_Md_wouldChange_61 rfl (by decide) rfl ?_
  obtain ⟨ms_6, mc_6, mw_6, mb_6⟩ := Z_4
  refine xs_lv (lv' := [(0, .ref 36), (1, .int mb_1), (2, .int b_3), (3, .int 0)]) [2, 3, 1, 0] rfl ?_
  refine xs_world (ω' := (wd Q0 Q1 Q2 Q3 Q4 ql qr qk qo QS QT QF QH qt ++ (wM (f0, g0, nI n0) (f1, g1, nI n1) (f2, g2, nI n2) (f3, g3, nI n3) (f4, g4, nI n4) pl dr ki rl (cpn 0 (cpn 16 ms_1 rs_2) ms_6, cpn 0 (cpn 16 mc_1 rc_2) mc_6, cpn 0 (cpn 16 mw_1 rw_2) mw_6, mb_6) cl hc_5 sl tk kp pa (cpn 16 ms_1 rs_2, cpn 16 mc_1 rc_2, cpn 16 mw_1 rw_2) co ++ rest))) (by rw [cpn_0, cpn_0, cpn_0]) ?_
  refine lp_wc2 C0 ?_ 16 0 (by omega)
  refine xs_aload_n C0 d_Md_wouldChange_110 rfl 0 rfl ?_
  refine xs_iload_n C0 d_Md_wouldChange_111 rfl 1 rfl ?_
  refine xs_put (ω' := (wd Q0 Q1 Q2 Q3 Q4 ql qr qk qo QS QT QF QH qt ++ (wM (f0, g0, nI n0) (f1, g1, nI n1) (f2, g2, nI n2) (f3, g3, nI n3) (f4, g4, nI n4) pl dr ki rl (cpn 16 (cpn 16 ms_1 rs_2) ms_6, cpn 16 (cpn 16 mc_1 rc_2) mc_6, cpn 16 (cpn 16 mw_1 rw_2) mw_6, mb_1) cl hc_5 sl tk kp pa (cpn 16 ms_1 rs_2, cpn 16 mc_1 rc_2, cpn 16 mw_1 rw_2) co ++ rest))) C0 f_Md_137 ty_Md_14 d_Md_wouldChange_112 rfl (Nat.le_of_ble_eq_true rfl) (xm_zfit hz) rfl ?_
  refine xs_iload_n C0 d_Md_wouldChange_115 rfl 2 rfl ?_
  have h01 := m_t1_01 ((f0, g0, n0), (f1, g1, n1), (f2, g2, n2), (f3, g3, n3), (f4, g4, n4), pl, dr, ki, ow) rl cl sl (ms_1, mc_1, mw_1, mb_1) hc
  rw [hb_3] at h01
  rw [m_wc] at hf
  rw [hb_3] at hf
  cases hf
  exact xs_zret C0 d_Md_wouldChange_116 h01 (⟨rfl, rfl⟩) (Nat.le_of_ble_eq_true rfl) (Nat.le_of_ble_eq_true rfl)
theorem z01_wc {B : wb} {rl cl : Nat → Int32} {sl : Int32} {Z : mt_S} {hc : mt_H} {tr : mt_T} (h : z01 Z) : z01 (m_wc B rl cl sl Z hc tr).2.1 := h
set_option maxHeartbeats 4000000 in
set_option maxRecDepth 100000 in
theorem lp_note {Q0 Q1 Q2 Q3 Q4 : wt_P} {ql qr qk qo : Nat → Int32} {QS QT : wt_S} {QF : wt_F} {QH : wt_H} {qt : Int32} {P0 : wt_P} {P1 : wt_P} {P2 : wt_P} {P3 : wt_P} {P4 : wt_P} {pl dr ki rl : Nat → Int32} {ms mc mw : Nat → Int32} {mb : Int32} {cl : Nat → Int32} {hc : mt_H} {sl tk : Int32} {kp : mt_K} {pa : Nat → Int32} {tr : mt_T} {co : Int32} {rest : xm_O} {n : Nat} {E : xm_X} {Q : State → Prop} (C0 : xm_C E y_Md_note.cls b_Md_note 3 none [] y_Md_note.name (xm_rm 0 0 0)) (hn : n ≤ 500) (kx : xm_W E 3 Q 0 0 (wd Q0 Q1 Q2 Q3 Q4 ql qr qk qo QS QT QF QH qt ++ (wM P0 P1 P2 P3 P4 pl dr ki rl (ms, mc, mw, mb) cl hc sl tk kp (q_nl pa ms mc n 16) tr co ++ rest)) 51 [(0, .ref 36), (1, .int (nI n))] []) : ∀ j : Nat, ∀ (i : Nat), i + j = 16 → xm_W E 3 Q 0 0 (wd Q0 Q1 Q2 Q3 Q4 ql qr qk qo QS QT QF QH qt ++ (wM P0 P1 P2 P3 P4 pl dr ki rl (ms, mc, mw, mb) cl hc sl tk kp (q_nl pa ms mc n i) tr co ++ rest)) 2 [(0, .ref 36), (1, .int (nI n)), (2, .int (nI i))] [] := by
  intro j
  induction j with
  | zero =>
    intro i hi
    have e : 16 = i := by omega
    subst e
    refine xs_iload_n C0 d_Md_note_2 rfl 2 rfl ?_
    refine xs_bipush (v := 16) C0 d_Md_note_3 (by decide) ?_
    refine xs_icmp_ge (tgt := 51) C0 d_Md_note_5 (by decide) (fun _ => ?_) (fun c9 => absurd (nI_le (Nat.le_refl 16) (by decide)) c9)
    refine xs_lv (lv' := [(0, .ref 36), (1, .int (nI n))]) [0, 1] rfl ?_
    exact kx
  | succ j ih =>
    intro i hi
    have hlt : i < 16 := by omega
    refine xs_iload_n C0 d_Md_note_2 rfl 2 rfl ?_
    refine xs_bipush (v := 16) C0 d_Md_note_3 (by decide) ?_
    refine xs_icmp_ge (tgt := 51) C0 d_Md_note_5 (by decide) (fun c9 => absurd c9 (nI_ge (b := 16) hlt (by decide))) (fun _ => ?_)
    refine xs_aload_n C0 d_Md_note_8 rfl 0 rfl ?_
    refine xs_get (q := 36) (v := .ref 60) C0 f_Md_80 d_Md_note_9 rfl rfl ?_
    refine xs_bipush (v := 33) C0 d_Md_note_12 (by decide) ?_
    refine xs_iload_n C0 d_Md_note_14 rfl 1 rfl ?_
    refine xs_imul C0 d_Md_note_15 ?_
    refine xs_top (v' := .int (nI (33 * n))) (by rw [show (33 : Int32) = nI 33 from rfl, nI_mul]) ?_
    refine xs_iload_n C0 d_Md_note_16 rfl 2 rfl ?_
    refine xs_iadd C0 d_Md_note_17 ?_
    refine xs_top (v' := .int (nI (33 * n + i))) (by rw [nI_add]) ?_
    refine xs_aload_n C0 d_Md_note_18 rfl 0 rfl ?_
    refine xs_get (q := 36) (v := .ref 41) C0 f_Md_22 d_Md_note_19 rfl rfl ?_
    refine xs_pc (pc' := 22) rfl ?_
    refine xs_iload_n C0 d_Md_note_22 rfl 2 rfl ?_
    refine xs_iald C0 d_Md_note_23 rfl (vp_in_nI (n := i) (by omega) (by decide)) ?_
    refine xs_top (v' := .int (ms i)) (by rw [nI_clamp (by omega)]) ?_
    refine xs_iast (ω' := (wd Q0 Q1 Q2 Q3 Q4 ql qr qk qo QS QT QF QH qt ++ (wM P0 P1 P2 P3 P4 pl dr ki rl (ms, mc, mw, mb) cl hc sl tk kp (upd (q_nl pa ms mc n i) (nI (33 * n + i)).toNatClampNeg (ms i)) tr co ++ rest))) C0 d_Md_note_24 rfl (vp_in_nI (n := 33 * n + i) (by omega) (by decide)) rfl ?_
    refine xs_world (ω' := (wd Q0 Q1 Q2 Q3 Q4 ql qr qk qo QS QT QF QH qt ++ (wM P0 P1 P2 P3 P4 pl dr ki rl (ms, mc, mw, mb) cl hc sl tk kp (upd (q_nl pa ms mc n i) (33 * n + i) (ms i)) tr co ++ rest))) (by rw [nI_clamp (by omega)]) ?_
    refine xs_aload_n C0 d_Md_note_25 rfl 0 rfl ?_
    refine xs_get (q := 36) (v := .ref 60) C0 f_Md_80 d_Md_note_26 rfl rfl ?_
    refine xs_bipush (v := 33) C0 d_Md_note_29 (by decide) ?_
    refine xs_iload_n C0 d_Md_note_31 rfl 1 rfl ?_
    refine xs_imul C0 d_Md_note_32 ?_
    refine xs_top (v' := .int (nI (33 * n))) (by rw [show (33 : Int32) = nI 33 from rfl, nI_mul]) ?_
    refine xs_bipush (v := 16) C0 d_Md_note_33 (by decide) ?_
    refine xs_iadd C0 d_Md_note_35 ?_
    refine xs_top (v' := .int (nI (33 * n + 16))) (by rw [show (16 : Int32) = nI 16 from rfl, nI_add]) ?_
    refine xs_iload_n C0 d_Md_note_36 rfl 2 rfl ?_
    refine xs_iadd C0 d_Md_note_37 ?_
    refine xs_pc (pc' := 38) rfl ?_
    refine xs_top (v' := .int (nI (33 * n + 16 + i))) (by rw [nI_add]) ?_
    refine xs_aload_n C0 d_Md_note_38 rfl 0 rfl ?_
    refine xs_get (q := 36) (v := .ref 42) C0 f_Md_25 d_Md_note_39 rfl rfl ?_
    refine xs_iload_n C0 d_Md_note_42 rfl 2 rfl ?_
    refine xs_iald C0 d_Md_note_43 rfl (vp_in_nI (n := i) (by omega) (by decide)) ?_
    refine xs_top (v' := .int (mc i)) (by rw [nI_clamp (by omega)]) ?_
    refine xs_iast (ω' := (wd Q0 Q1 Q2 Q3 Q4 ql qr qk qo QS QT QF QH qt ++ (wM P0 P1 P2 P3 P4 pl dr ki rl (ms, mc, mw, mb) cl hc sl tk kp (upd (upd (q_nl pa ms mc n i) (33 * n + i) (ms i)) (nI (33 * n + 16 + i)).toNatClampNeg (mc i)) tr co ++ rest))) C0 d_Md_note_44 rfl (vp_in_nI (n := 33 * n + 16 + i) (by omega) (by decide)) rfl ?_
    refine xs_world (ω' := (wd Q0 Q1 Q2 Q3 Q4 ql qr qk qo QS QT QF QH qt ++ (wM P0 P1 P2 P3 P4 pl dr ki rl (ms, mc, mw, mb) cl hc sl tk kp (upd (upd (q_nl pa ms mc n i) (33 * n + i) (ms i)) (33 * n + 16 + i) (mc i)) tr co ++ rest))) (by rw [nI_clamp (by omega)]) ?_
    refine xs_world (ω' := (wd Q0 Q1 Q2 Q3 Q4 ql qr qk qo QS QT QF QH qt ++ (wM P0 P1 P2 P3 P4 pl dr ki rl (ms, mc, mw, mb) cl hc sl tk kp (q_nl pa ms mc n (i + 1)) tr co ++ rest))) (by rw [q_nl]) ?_
    refine xs_iinc (v := nI (i + 1)) (lv' := [(2, .int (nI (i + 1))), (0, .ref 36), (1, .int (nI n))]) C0 d_Md_note_45 2 rfl (by rw [← nI_1]; rfl) (by decide) rfl ?_
    refine xs_goto (tgt := 2) C0 d_Md_note_48 (by decide) ?_
    refine xs_lv (lv' := [(0, .ref 36), (1, .int (nI n)), (2, .int (nI (i + 1)))]) [1, 2, 0] rfl ?_
    exact ih (i + 1) (by omega)
set_option maxHeartbeats 4000000 in
set_option maxRecDepth 100000 in
theorem d_note {Q0 Q1 Q2 Q3 Q4 : wt_P} {ql qr qk qo : Nat → Int32} {QS QT : wt_S} {QF : wt_F} {QH : wt_H} {qt : Int32} {P0 : wt_P} {P1 : wt_P} {P2 : wt_P} {P3 : wt_P} {P4 : wt_P} {pl dr ki rl : Nat → Int32} {ms mc mw : Nat → Int32} {mb : Int32} {cl : Nat → Int32} {hc : mt_H} {sl tk : Int32} {kp : mt_K} {pa : Nat → Int32} {tr : mt_T} {co : Int32} {rest : xm_O} {n : Nat} (hn : n ≤ 500) : xm_M y_Md_note (Cond.code y_Md_note b_Md_note 3 none) (xm_rm 0 0 0) [.ref 36, .int (nI n)] (wd Q0 Q1 Q2 Q3 Q4 ql qr qk qo QS QT QF QH qt ++ (wM P0 P1 P2 P3 P4 pl dr ki rl (ms, mc, mw, mb) cl hc sl tk kp pa tr co ++ rest)) (xm_eq (.inl none) (wd Q0 Q1 Q2 Q3 Q4 ql qr qk qo QS QT QF QH qt ++ (wM P0 P1 P2 P3 P4 pl dr ki rl (ms, mc, mw, mb) cl hc sl tk kp (q_note pa (ms, mc, mw, mb) n) tr co ++ rest))) := by
  refine xm_of (by decide) (Nat.le_of_ble_eq_true rfl) (fun E C0 => ?_)
  refine xs_eq (lv' := [(0, .ref 36), (1, .int (nI n))]) rfl rfl rfl ?_
  refine xs_iconst (v := 0) C0 d_Md_note_0 (by decide) ?_
  refine xs_istore_n (lv' := [(2, .int 0), (0, .ref 36), (1, .int (nI n))]) C0 d_Md_note_1 rfl (by decide) rfl ?_
  refine xs_lv (lv' := [(0, .ref 36), (1, .int (nI n)), (2, .int 0)]) [1, 2, 0] rfl ?_
  refine lp_note C0 hn ?_ 16 0 (by omega)
  refine xs_aload_n C0 d_Md_note_51 rfl 0 rfl ?_
  refine xs_get (q := 36) (v := .ref 60) C0 f_Md_80 d_Md_note_52 rfl rfl ?_
  refine xs_bipush (v := 33) C0 d_Md_note_55 (by decide) ?_
  refine xs_iload_n C0 d_Md_note_57 rfl 1 rfl ?_
  refine xs_imul C0 d_Md_note_58 ?_
  refine xs_top (v' := .int (nI (33 * n))) (by rw [show (33 : Int32) = nI 33 from rfl, nI_mul]) ?_
  refine xs_bipush (v := 32) C0 d_Md_note_59 (by decide) ?_
  refine xs_iadd C0 d_Md_note_61 ?_
  refine xs_top (v' := .int (nI (33 * n + 32))) (by rw [show (32 : Int32) = nI 32 from rfl, nI_add]) ?_
  refine xs_aload_n C0 d_Md_note_62 rfl 0 rfl ?_
  refine xs_get (q := 36) (v := .int mb) C0 f_Md_137 d_Md_note_63 rfl rfl ?_
  refine xs_bz_eq (u := 1) (v := 0) (tgt := 73) (J := 74) C0 d_Md_note_66 (by decide) d_Md_note_69 (by decide) d_Md_note_70 (by decide) d_Md_note_73 (by decide) rfl ?_
  refine xs_iast (ω' := (wd Q0 Q1 Q2 Q3 Q4 ql qr qk qo QS QT QF QH qt ++ (wM P0 P1 P2 P3 P4 pl dr ki rl (ms, mc, mw, mb) cl hc sl tk kp (upd (q_nl pa ms mc n 16) (nI (33 * n + 32)).toNatClampNeg (if ¬ mb = 0 then 1 else 0)) tr co ++ rest))) C0 d_Md_note_74 rfl (vp_in_nI (n := 33 * n + 32) (by omega) (by decide)) rfl ?_
  refine xs_world (ω' := (wd Q0 Q1 Q2 Q3 Q4 ql qr qk qo QS QT QF QH qt ++ (wM P0 P1 P2 P3 P4 pl dr ki rl (ms, mc, mw, mb) cl hc sl tk kp (upd (q_nl pa ms mc n 16) (33 * n + 32) (if ¬ mb = 0 then 1 else 0)) tr co ++ rest))) (by rw [nI_clamp (by omega)]) ?_
  exact xs_vret C0 d_Md_note_75 (⟨rfl, rfl⟩) (Nat.le_of_ble_eq_true rfl) (Nat.le_of_ble_eq_true rfl)
set_option maxHeartbeats 4000000 in
set_option maxRecDepth 100000 in
theorem lp_al {Q0 Q1 Q2 Q3 Q4 : wt_P} {ql qr qk qo : Nat → Int32} {QS QT : wt_S} {QF : wt_F} {QH : wt_H} {qt : Int32} {P0 : wt_P} {P1 : wt_P} {P2 : wt_P} {P3 : wt_P} {P4 : wt_P} {pl dr ki rl : Nat → Int32} {Z : mt_S} {cl : Nat → Int32} {hc : mt_H} {sl tk : Int32} {kp : mt_K} {pa : Nat → Int32} {tr : mt_T} {co : Int32} {rest : xm_O} {a b : Nat} {r : Int32} {E : xm_X} (C0 : xm_C E y_Md_isAlike.cls b_Md_isAlike 5 (some .boolean) [] y_Md_isAlike.name (xm_rm 0 0 0)) (ha : a ≤ 500) (hb : b ≤ 500) : ∀ j : Nat, ∀ (i : Nat), i + j = 33 → q_al pa a b j i = r → xm_W E 5 (xm_F E (xm_rm 0 0 0).cells (xm_rm 0 0 0).slots (xm_eq (.inl (some (.int r))) (wd Q0 Q1 Q2 Q3 Q4 ql qr qk qo QS QT QF QH qt ++ (wM P0 P1 P2 P3 P4 pl dr ki rl Z cl hc sl tk kp pa tr co ++ rest)))) 0 0 (wd Q0 Q1 Q2 Q3 Q4 ql qr qk qo QS QT QF QH qt ++ (wM P0 P1 P2 P3 P4 pl dr ki rl Z cl hc sl tk kp pa tr co ++ rest)) 5 [(0, .ref 36), (1, .int (nI a)), (2, .int (nI b)), (3, .int 1), (4, .int (nI i))] [] := by
  intro j
  induction j with
  | zero =>
    intro i hi hf
    have e : 33 = i := by omega
    subst e
    refine xs_iload C0 d_Md_isAlike_5 4 rfl ?_
    refine xs_bipush (v := 33) C0 d_Md_isAlike_7 (by decide) ?_
    refine xs_icmp_ge (tgt := 55) C0 d_Md_isAlike_9 (by decide) (fun _ => ?_) (fun c9 => absurd (nI_le (Nat.le_refl 33) (by decide)) c9)
    refine xs_iload_n C0 d_Md_isAlike_55 rfl 3 rfl ?_
    rw [q_al] at hf
    subst hf
    exact xs_zret C0 d_Md_isAlike_56 (by decide) (⟨rfl, rfl⟩) (Nat.le_of_ble_eq_true rfl) (Nat.le_of_ble_eq_true rfl)
  | succ j ih =>
    intro i hi hf
    have hlt : i < 33 := by omega
    refine xs_iload C0 d_Md_isAlike_5 4 rfl ?_
    refine xs_bipush (v := 33) C0 d_Md_isAlike_7 (by decide) ?_
    refine xs_icmp_ge (tgt := 55) C0 d_Md_isAlike_9 (by decide) (fun c9 => absurd c9 (nI_ge (b := 33) hlt (by decide))) (fun _ => ?_)
    refine xs_iload_n C0 d_Md_isAlike_12 rfl 3 rfl ?_
    refine xs_if_eq (tgt := 55) C0 d_Md_isAlike_13 (by decide) (fun c9 => absurd c9 (by decide)) (fun _ => ?_)
    refine xs_aload_n C0 d_Md_isAlike_16 rfl 0 rfl ?_
    refine xs_get (q := 36) (v := .ref 60) C0 f_Md_80 d_Md_isAlike_17 rfl rfl ?_
    refine xs_bipush (v := 33) C0 d_Md_isAlike_20 (by decide) ?_
    refine xs_iload_n C0 d_Md_isAlike_22 rfl 1 rfl ?_
    refine xs_imul C0 d_Md_isAlike_23 ?_
    refine xs_top (v' := .int (nI (33 * a))) (by rw [show (33 : Int32) = nI 33 from rfl, nI_mul]) ?_
    refine xs_iload C0 d_Md_isAlike_24 4 rfl ?_
    refine xs_iadd C0 d_Md_isAlike_26 ?_
    refine xs_pc (pc' := 27) rfl ?_
    refine xs_top (v' := .int (nI (33 * a + i))) (by rw [nI_add]) ?_
    refine xs_iald C0 d_Md_isAlike_27 rfl (vp_in_nI (n := 33 * a + i) (by omega) (by decide)) ?_
    refine xs_top (v' := .int (pa (33 * a + i))) (by rw [nI_clamp (by omega)]) ?_
    refine xs_aload_n C0 d_Md_isAlike_28 rfl 0 rfl ?_
    refine xs_get (q := 36) (v := .ref 60) C0 f_Md_80 d_Md_isAlike_29 rfl rfl ?_
    refine xs_bipush (v := 33) C0 d_Md_isAlike_32 (by decide) ?_
    refine xs_iload_n C0 d_Md_isAlike_34 rfl 2 rfl ?_
    refine xs_imul C0 d_Md_isAlike_35 ?_
    refine xs_top (v' := .int (nI (33 * b))) (by rw [show (33 : Int32) = nI 33 from rfl, nI_mul]) ?_
    refine xs_iload C0 d_Md_isAlike_36 4 rfl ?_
    refine xs_iadd C0 d_Md_isAlike_38 ?_
    refine xs_top (v' := .int (nI (33 * b + i))) (by rw [nI_add]) ?_
    refine xs_iald C0 d_Md_isAlike_39 rfl (vp_in_nI (n := 33 * b + i) (by omega) (by decide)) ?_
    refine xs_top (v' := .int (pa (33 * b + i))) (by rw [nI_clamp (by omega)]) ?_
    refine xs_icmp_ne (tgt := 47) C0 d_Md_isAlike_40 (by decide) (fun c1 => ?_) (fun c1 => ?_)
    · refine xs_iconst (v := 0) C0 d_Md_isAlike_47 (by decide) ?_
      refine xs_istore_n (lv' := [(3, .int 0), (0, .ref 36), (1, .int (nI a)), (2, .int (nI b)), (4, .int (nI i))]) C0 d_Md_isAlike_48 rfl (by decide) rfl ?_
      refine xs_iinc (v := nI (i + 1)) (lv' := [(4, .int (nI (i + 1))), (3, .int 0), (0, .ref 36), (1, .int (nI a)), (2, .int (nI b))]) C0 d_Md_isAlike_49 4 rfl (by rw [← nI_1]; rfl) (by decide) rfl ?_
      refine xs_goto (tgt := 5) C0 d_Md_isAlike_52 (by decide) ?_
      refine xs_iload C0 d_Md_isAlike_5 0 rfl ?_
      refine xs_bipush (v := 33) C0 d_Md_isAlike_7 (by decide) ?_
      refine xs_icmp_ge (tgt := 55) C0 d_Md_isAlike_9 (by decide) (fun c_1 => ?_) (fun c_1 => ?_)
      · refine xs_iload_n C0 d_Md_isAlike_55 rfl 1 rfl ?_
        rw [q_al, if_neg c1] at hf
        subst hf
        exact xs_zret C0 d_Md_isAlike_56 (by decide) (⟨rfl, rfl⟩) (Nat.le_of_ble_eq_true rfl) (Nat.le_of_ble_eq_true rfl)
      · refine xs_iload_n C0 d_Md_isAlike_12 rfl 1 rfl ?_
        refine xs_if_eq (tgt := 55) C0 d_Md_isAlike_13 (by decide) (fun _ => ?_) (fun c9 => absurd rfl c9)
        refine xs_iload_n C0 d_Md_isAlike_55 rfl 1 rfl ?_
        rw [q_al, if_neg c1] at hf
        subst hf
        exact xs_zret C0 d_Md_isAlike_56 (by decide) (⟨rfl, rfl⟩) (Nat.le_of_ble_eq_true rfl) (Nat.le_of_ble_eq_true rfl)
    · refine xs_iconst (v := 1) C0 d_Md_isAlike_43 (by decide) ?_
      refine xs_goto (tgt := 48) C0 d_Md_isAlike_44 (by decide) ?_
      refine xs_istore_n (lv' := [(3, .int 1), (0, .ref 36), (1, .int (nI a)), (2, .int (nI b)), (4, .int (nI i))]) C0 d_Md_isAlike_48 rfl (by decide) rfl ?_
      refine xs_iinc (v := nI (i + 1)) (lv' := [(4, .int (nI (i + 1))), (3, .int 1), (0, .ref 36), (1, .int (nI a)), (2, .int (nI b))]) C0 d_Md_isAlike_49 4 rfl (by rw [← nI_1]; rfl) (by decide) rfl ?_
      refine xs_goto (tgt := 5) C0 d_Md_isAlike_52 (by decide) ?_
      refine xs_lv (lv' := [(0, .ref 36), (1, .int (nI a)), (2, .int (nI b)), (3, .int 1), (4, .int (nI (i + 1)))]) [2, 3, 4, 1, 0] rfl ?_
      exact ih (i + 1) (by omega) (by rw [q_al, if_pos c1] at hf; exact hf)
set_option maxHeartbeats 4000000 in
set_option maxRecDepth 100000 in
theorem d_al {Q0 Q1 Q2 Q3 Q4 : wt_P} {ql qr qk qo : Nat → Int32} {QS QT : wt_S} {QF : wt_F} {QH : wt_H} {qt : Int32} {P0 : wt_P} {P1 : wt_P} {P2 : wt_P} {P3 : wt_P} {P4 : wt_P} {pl dr ki rl : Nat → Int32} {Z : mt_S} {cl : Nat → Int32} {hc : mt_H} {sl tk : Int32} {kp : mt_K} {pa : Nat → Int32} {tr : mt_T} {co : Int32} {rest : xm_O} {a b : Nat} (ha : a ≤ 500) (hb : b ≤ 500) : xm_M y_Md_isAlike (Cond.code y_Md_isAlike b_Md_isAlike 5 (some .boolean)) (xm_rm 0 0 0) [.ref 36, .int (nI a), .int (nI b)] (wd Q0 Q1 Q2 Q3 Q4 ql qr qk qo QS QT QF QH qt ++ (wM P0 P1 P2 P3 P4 pl dr ki rl Z cl hc sl tk kp pa tr co ++ rest)) (xm_eq (.inl (some (.int (q_al pa a b 33 0)))) (wd Q0 Q1 Q2 Q3 Q4 ql qr qk qo QS QT QF QH qt ++ (wM P0 P1 P2 P3 P4 pl dr ki rl Z cl hc sl tk kp pa tr co ++ rest))) := by
  refine xm_of (by decide) (Nat.le_of_ble_eq_true rfl) (fun E C0 => ?_)
  refine xs_eq (lv' := [(0, .ref 36), (1, .int (nI a)), (2, .int (nI b))]) rfl rfl rfl ?_
  refine xs_iconst (v := 1) C0 d_Md_isAlike_0 (by decide) ?_
  refine xs_istore_n (lv' := [(3, .int 1), (0, .ref 36), (1, .int (nI a)), (2, .int (nI b))]) C0 d_Md_isAlike_1 rfl (by decide) rfl ?_
  refine xs_iconst (v := 0) C0 d_Md_isAlike_2 (by decide) ?_
  refine xs_istore (lv' := [(4, .int 0), (3, .int 1), (0, .ref 36), (1, .int (nI a)), (2, .int (nI b))]) C0 d_Md_isAlike_3 (by decide) rfl ?_
  refine xs_lv (lv' := [(0, .ref 36), (1, .int (nI a)), (2, .int (nI b)), (3, .int 1), (4, .int 0)]) [2, 3, 4, 1, 0] rfl ?_
  exact lp_al C0 ha hb 33 0 (by omega) rfl
set_option maxHeartbeats 4000000 in
set_option maxRecDepth 100000 in
theorem lp_bf {Q0 Q1 Q2 Q3 Q4 : wt_P} {ql qr qk qo : Nat → Int32} {QS QT : wt_S} {QF : wt_F} {QH : wt_H} {qt : Int32} {P0 : wt_P} {P1 : wt_P} {P2 : wt_P} {P3 : wt_P} {P4 : wt_P} {pl dr ki rl : Nat → Int32} {Z : mt_S} {cl : Nat → Int32} {hc : mt_H} {sl tk : Int32} {kp : mt_K} {pa : Nat → Int32} {tr : mt_T} {co : Int32} {rest : xm_O} {n : Nat} {r : Int32} {E : xm_X} (C0 : xm_C E y_Md_before.cls b_Md_before 3 (some .int) [] y_Md_before.name (xm_rm 1 0 0)) (hn : n ≤ 500) : ∀ j : Nat, ∀ (i : Nat), i + j = n → q_bf pa n j i = r → xm_W E 3 (xm_F E (xm_rm 1 0 0).cells (xm_rm 1 0 0).slots (xm_eq (.inl (some (.int r))) (wd Q0 Q1 Q2 Q3 Q4 ql qr qk qo QS QT QF QH qt ++ (wM P0 P1 P2 P3 P4 pl dr ki rl Z cl hc sl tk kp pa tr co ++ rest)))) 0 0 (wd Q0 Q1 Q2 Q3 Q4 ql qr qk qo QS QT QF QH qt ++ (wM P0 P1 P2 P3 P4 pl dr ki rl Z cl hc sl tk kp pa tr co ++ rest)) 2 [(0, .ref 36), (1, .int (nI n)), (2, .int (nI i))] [] := by
  intro j
  induction j with
  | zero =>
    intro i hi hf
    have e : n = i := by omega
    subst e
    refine xs_iload_n C0 d_Md_before_2 rfl 2 rfl ?_
    refine xs_iload_n C0 d_Md_before_3 rfl 1 rfl ?_
    refine xs_icmp_ge (tgt := 24) C0 d_Md_before_4 (by decide) (fun _ => ?_) (fun c9 => absurd (nI_le (Nat.le_refl _) (by omega)) c9)
    refine xs_iconst (v := (-1)) C0 d_Md_before_24 (by decide) ?_
    rw [q_bf] at hf
    subst hf
    exact xs_iret C0 d_Md_before_25 (⟨rfl, rfl⟩) (Nat.le_of_ble_eq_true rfl) (Nat.le_of_ble_eq_true rfl)
  | succ j ih =>
    intro i hi hf
    have hlt : i < n := by omega
    refine xs_iload_n C0 d_Md_before_2 rfl 2 rfl ?_
    refine xs_iload_n C0 d_Md_before_3 rfl 1 rfl ?_
    refine xs_icmp_ge (tgt := 24) C0 d_Md_before_4 (by decide) (fun c9 => absurd c9 (nI_ge hlt (by omega))) (fun _ => ?_)
    refine xs_aload_n C0 d_Md_before_7 rfl 0 rfl ?_
    refine xs_iload_n C0 d_Md_before_8 rfl 2 rfl ?_
    refine xs_iload_n C0 d_Md_before_9 rfl 1 rfl ?_
    refine xs_cV1 (ω' := (wd Q0 Q1 Q2 Q3 Q4 ql qr qk qo QS QT QF QH qt ++ (wM P0 P1 P2 P3 P4 pl dr ki rl Z cl hc sl tk kp pa tr co ++ rest))) (As := [.int (nI i), .int (nI n)]) (st := []) (kc' := 0) (ks' := 0) (v := .int (q_al pa i n 33 0)) C0 d_Md_before_10 l_Md_190 rfl rfl (d_al (a := i) (b := n) (by omega) hn) rfl rfl rfl (Nat.le_of_ble_eq_true rfl) (Nat.le_of_ble_eq_true rfl) (Nat.le_of_ble_eq_true rfl) (Nat.le_of_ble_eq_true rfl) (Nat.le_of_ble_eq_true rfl) (Nat.le_of_ble_eq_true rfl) ?_
    refine xs_if_eq (tgt := 18) C0 d_Md_before_13 (by decide) (fun c1 => ?_) (fun c1 => ?_)
    · refine xs_iinc (v := nI (i + 1)) (lv' := [(2, .int (nI (i + 1))), (0, .ref 36), (1, .int (nI n))]) C0 d_Md_before_18 2 rfl (by rw [← nI_1]; rfl) (by decide) rfl ?_
      refine xs_goto (tgt := 2) C0 d_Md_before_21 (by decide) ?_
      refine xs_lv (lv' := [(0, .ref 36), (1, .int (nI n)), (2, .int (nI (i + 1)))]) [1, 2, 0] rfl ?_
      exact ih (i + 1) (by omega) (by rw [q_bf, if_pos c1] at hf; exact hf)
    · refine xs_iload_n C0 d_Md_before_16 rfl 2 rfl ?_
      rw [q_bf, if_neg c1] at hf
      subst hf
      exact xs_iret C0 d_Md_before_17 (⟨rfl, rfl⟩) (Nat.le_of_ble_eq_true rfl) (Nat.le_of_ble_eq_true rfl)
set_option maxHeartbeats 4000000 in
set_option maxRecDepth 100000 in
theorem d_bf {Q0 Q1 Q2 Q3 Q4 : wt_P} {ql qr qk qo : Nat → Int32} {QS QT : wt_S} {QF : wt_F} {QH : wt_H} {qt : Int32} {P0 : wt_P} {P1 : wt_P} {P2 : wt_P} {P3 : wt_P} {P4 : wt_P} {pl dr ki rl : Nat → Int32} {Z : mt_S} {cl : Nat → Int32} {hc : mt_H} {sl tk : Int32} {kp : mt_K} {pa : Nat → Int32} {tr : mt_T} {co : Int32} {rest : xm_O} {n : Nat} {r : Int32} (hn : n ≤ 500) (hf : q_bf pa n n 0 = r) : xm_M y_Md_before (Cond.code y_Md_before b_Md_before 3 (some .int)) (xm_rm 1 0 0) [.ref 36, .int (nI n)] (wd Q0 Q1 Q2 Q3 Q4 ql qr qk qo QS QT QF QH qt ++ (wM P0 P1 P2 P3 P4 pl dr ki rl Z cl hc sl tk kp pa tr co ++ rest)) (xm_eq (.inl (some (.int r))) (wd Q0 Q1 Q2 Q3 Q4 ql qr qk qo QS QT QF QH qt ++ (wM P0 P1 P2 P3 P4 pl dr ki rl Z cl hc sl tk kp pa tr co ++ rest))) := by
  refine xm_of (by decide) (Nat.le_of_ble_eq_true rfl) (fun E C0 => ?_)
  refine xs_eq (lv' := [(0, .ref 36), (1, .int (nI n))]) rfl rfl rfl ?_
  refine xs_iconst (v := 0) C0 d_Md_before_0 (by decide) ?_
  refine xs_istore_n (lv' := [(2, .int 0), (0, .ref 36), (1, .int (nI n))]) C0 d_Md_before_1 rfl (by decide) rfl ?_
  refine xs_lv (lv' := [(0, .ref 36), (1, .int (nI n)), (2, .int 0)]) [1, 2, 0] rfl ?_
  exact lp_bf C0 hn n 0 (by omega) hf
