set_option maxHeartbeats 4000000 in
set_option maxRecDepth 100000 in
theorem lp_mvs {Q0 Q1 Q2 Q3 Q4 : wt_P} {ql qr qk qo : Nat → Int32} {QS QT : wt_S} {QF : wt_F} {QH : wt_H} {qt : Int32} {f0 g0 f1 g1 f2 g2 f3 g3 f4 g4 : Nat → Int32} {n0 n1 n2 n3 n4 : Nat} {pl dr ki ow rl : Nat → Int32} {cl : Nat → Int32} {hc : mt_H} {sl tk : Int32} {kp : mt_K} {pa : Nat → Int32} {tr : mt_T} {co : Int32} {rest : xm_O} {c0 : Int32} {Z0 : mt_S} {E : xm_X} {Q : State → Prop} (C0 : xm_C E y_Md_tickOne.cls b_Md_tickOne 4 (some .boolean) [] y_Md_tickOne.name (xm_rm 4 0 0)) (h0 : n0 ≤ 16) (hp0 : okP (f0, g0, nI n0) n0) (kx : ∀ (c : Int32) (Z : mt_S), m_mvs ((f0, g0, n0), (f1, g1, n1), (f2, g2, n2), (f3, g3, n3), (f4, g4, n4), pl, dr, ki, ow) sl hc c0 Z0 n0 = (c, Z) → xm_W E 4 Q 0 0 (wd Q0 Q1 Q2 Q3 Q4 ql qr qk qo QS QT QF QH qt ++ (wM (f0, g0, nI n0) (f1, g1, nI n1) (f2, g2, nI n2) (f3, g3, nI n3) (f4, g4, nI n4) pl dr ki rl Z cl hc sl tk kp pa tr co ++ rest)) 73 [(2, .int c)] []) : ∀ j : Nat, ∀ (i : Nat) (c : Int32) (Z : mt_S), i + j = n0 → m_mvs ((f0, g0, n0), (f1, g1, n1), (f2, g2, n2), (f3, g3, n3), (f4, g4, n4), pl, dr, ki, ow) sl hc c0 Z0 i = (c, Z) → xm_W E 4 Q 0 0 (wd Q0 Q1 Q2 Q3 Q4 ql qr qk qo QS QT QF QH qt ++ (wM (f0, g0, nI n0) (f1, g1, nI n1) (f2, g2, nI n2) (f3, g3, nI n3) (f4, g4, nI n4) pl dr ki rl Z cl hc sl tk kp pa tr co ++ rest)) 25 [(0, .ref 36), (2, .int c), (3, .int (nI i))] [] := by
  intro j
  induction j with
  | zero =>
    intro i c Z hi hM
    have e : n0 = i := by omega
    subst e
    refine xs_iload_n C0 d_Md_tickOne_25 rfl 2 rfl ?_
    refine xs_aload_n C0 d_Md_tickOne_26 rfl 0 rfl ?_
    refine xs_get (q := 36) (v := .int (nI n0)) C0 f_Md_108 d_Md_tickOne_27 rfl rfl ?_
    refine xs_icmp_ge (tgt := 73) C0 d_Md_tickOne_30 (by decide) (fun _ => ?_) (fun c9 => absurd (nI_le (Nat.le_refl _) (by omega)) c9)
    refine xs_lv (lv' := [(2, .int c)]) [1] rfl ?_
    exact kx c Z hM
  | succ j ih =>
    intro i c Z hi hM
    have hlt : i < n0 := by omega
    obtain ⟨ha1, ha2⟩ : vp_in (f0 i) 48 ∧ vp_in (g0 i) 48 := hp0 i hlt
    refine xs_iload_n C0 d_Md_tickOne_25 rfl 2 rfl ?_
    refine xs_aload_n C0 d_Md_tickOne_26 rfl 0 rfl ?_
    refine xs_get (q := 36) (v := .int (nI n0)) C0 f_Md_108 d_Md_tickOne_27 rfl rfl ?_
    refine xs_icmp_ge (tgt := 73) C0 d_Md_tickOne_30 (by decide) (fun c9 => absurd c9 (nI_ge hlt (by omega))) (fun _ => ?_)
    refine xs_aload_n C0 d_Md_tickOne_33 rfl 0 rfl ?_
    refine xs_iload_n C0 d_Md_tickOne_34 rfl 2 rfl ?_
    refine xs_aload_n C0 d_Md_tickOne_35 rfl 0 rfl ?_
    refine xs_aload_n C0 d_Md_tickOne_36 rfl 0 rfl ?_
    refine xs_get (q := 36) (v := .ref 37) C0 f_Md_7 d_Md_tickOne_37 rfl rfl ?_
    refine xs_iload_n C0 d_Md_tickOne_40 rfl 2 rfl ?_
    refine xs_iald C0 d_Md_tickOne_41 rfl (vp_in_nI (n := i) (by omega) (by decide)) ?_
    refine xs_top (v' := .int (f0 i)) (by rw [nI_clamp (by omega)]) ?_
    refine xs_aload_n C0 d_Md_tickOne_42 rfl 0 rfl ?_
    refine xs_pc (pc' := 43) rfl ?_
    refine xs_get (q := 36) (v := .ref 38) C0 f_Md_13 d_Md_tickOne_43 rfl rfl ?_
    refine xs_iload_n C0 d_Md_tickOne_46 rfl 2 rfl ?_
    refine xs_iald C0 d_Md_tickOne_47 rfl (vp_in_nI (n := i) (by omega) (by decide)) ?_
    refine xs_top (v' := .int (g0 i)) (by rw [nI_clamp (by omega)]) ?_
    obtain ⟨ms_1, mc_1, mw_1, mb_1⟩ := Z
    obtain ⟨mh_2, mo_2⟩ := hc
    refine xs_cV1 (ω' := (wd Q0 Q1 Q2 Q3 Q4 ql qr qk qo QS QT QF QH qt ++ (wM (f0, g0, nI n0) (f1, g1, nI n1) (f2, g2, nI n2) (f3, g3, nI n3) (f4, g4, nI n4) pl dr ki rl (ms_1, mc_1, mw_1, mb_1) cl (mh_2, mo_2) sl tk kp pa tr co ++ rest))) (As := [.int (f0 i), .int (g0 i)]) (st := [.int (nI i), .ref 36]) (kc' := 0) (ks' := 0) (v := .int (m_cur mb_1 (mh_2, mo_2) (f0 i) (g0 i))) C0 d_Md_tickOne_48 l_Md_147 rfl rfl (d_cur (by assumption) (by assumption)) rfl rfl rfl (Nat.le_of_ble_eq_true rfl) (Nat.le_of_ble_eq_true rfl) (Nat.le_of_ble_eq_true rfl) (Nat.le_of_ble_eq_true rfl) (Nat.le_of_ble_eq_true rfl) (Nat.le_of_ble_eq_true rfl) ?_
    have hin9 : vp_in (nI i) 16 := vp_in_nI (by omega) (by decide)
    obtain ⟨b_3, Z_4, hb_3⟩ : ∃ X Y, m_move (ms_1, mc_1, mw_1, mb_1) (nI i) (m_cur mb_1 (mh_2, mo_2) (f0 i) (g0 i)) (pl (nI i).toNatClampNeg + m_more sl (nI i)) (dr (nI i).toNatClampNeg + m_more sl (nI i)) = (X, Y) := ⟨_, _, rfl⟩
    refine xs_cV1 (ω' := (wd Q0 Q1 Q2 Q3 Q4 ql qr qk qo QS QT QF QH qt ++ (wM (f0, g0, nI n0) (f1, g1, nI n1) (f2, g2, nI n2) (f3, g3, nI n3) (f4, g4, nI n4) pl dr ki rl Z_4 cl (mh_2, mo_2) sl tk kp pa tr co ++ rest))) (As := [.int (nI i), .int (m_cur mb_1 (mh_2, mo_2) (f0 i) (g0 i))]) (st := []) (kc' := 0) (ks' := 0) (v := .int b_3) C0 d_Md_tickOne_51 l_Md_150 rfl rfl (d_move (by assumption) hb_3) rfl rfl rfl (Nat.le_of_ble_eq_true rfl) (Nat.le_of_ble_eq_true rfl) (Nat.le_of_ble_eq_true rfl) (Nat.le_of_ble_eq_true rfl) (Nat.le_of_ble_eq_true rfl) (Nat.le_of_ble_eq_true rfl) ?_
    rw [nI_clamp (show i < 2 ^ 31 by omega)] at hb_3
    refine xs_if_ne (tgt := 61) C0 d_Md_tickOne_54 (by decide) (fun c_5 => ?_) (fun c_5 => ?_)
    · refine xs_iconst (v := 1) C0 d_Md_tickOne_61 (by decide) ?_
      refine xs_goto (tgt := 66) C0 d_Md_tickOne_62 (by decide) ?_
      refine xs_top (v' := .int (g_or b_3 c)) (by rw [g_or_t c_5]) ?_
      refine xs_istore_n (lv' := [(2, .int (g_or b_3 c)), (0, .ref 36), (3, .int (nI i))]) C0 d_Md_tickOne_66 rfl (by decide) rfl ?_
      refine xs_iinc (v := nI (i + 1)) (lv' := [(3, .int (nI (i + 1))), (2, .int (g_or b_3 c)), (0, .ref 36)]) C0 d_Md_tickOne_67 2 rfl (by rw [← nI_1]; rfl) (by decide) rfl ?_
      refine xs_goto (tgt := 25) C0 d_Md_tickOne_70 (by decide) ?_
      refine xs_lv (lv' := [(0, .ref 36), (2, .int (g_or b_3 c)), (3, .int (nI (i + 1)))]) [2, 1, 0] rfl ?_
      exact ih (i + 1) _ _ (by omega) (by rw [m_mvs, hM]; dsimp only; rw [hb_3])
    · refine xs_iload_n C0 d_Md_tickOne_57 rfl 1 rfl ?_
      refine xs_bz_eq (u := 1) (v := 0) (tgt := 65) (J := 66) C0 d_Md_tickOne_58 (by decide) d_Md_tickOne_61 (by decide) d_Md_tickOne_62 (by decide) d_Md_tickOne_65 (by decide) rfl ?_
      refine xs_top (v' := .int (g_or b_3 c)) (by rw [g_or_f c_5]) ?_
      refine xs_istore_n (lv' := [(2, .int (g_or b_3 c)), (0, .ref 36), (3, .int (nI i))]) C0 d_Md_tickOne_66 rfl (by decide) rfl ?_
      refine xs_iinc (v := nI (i + 1)) (lv' := [(3, .int (nI (i + 1))), (2, .int (g_or b_3 c)), (0, .ref 36)]) C0 d_Md_tickOne_67 2 rfl (by rw [← nI_1]; rfl) (by decide) rfl ?_
      refine xs_goto (tgt := 25) C0 d_Md_tickOne_70 (by decide) ?_
      refine xs_lv (lv' := [(0, .ref 36), (2, .int (g_or b_3 c)), (3, .int (nI (i + 1)))]) [2, 1, 0] rfl ?_
      exact ih (i + 1) _ _ (by omega) (by rw [m_mvs, hM]; dsimp only; rw [hb_3])
set_option maxHeartbeats 4000000 in
set_option maxRecDepth 100000 in
theorem d_t1 {Q0 Q1 Q2 Q3 Q4 : wt_P} {ql qr qk qo : Nat → Int32} {QS QT : wt_S} {QF : wt_F} {QH : wt_H} {qt : Int32} {B : wb} {rl : Nat → Int32} {Z : mt_S} {cl : Nat → Int32} {hc : mt_H} {sl tk : Int32} {kp : mt_K} {pa : Nat → Int32} {tr : mt_T} {co : Int32} {rest : xm_O} {b : Int32} {Z1 : mt_S} {hc1 : mt_H} (hM : okM B rl) (hf : m_t1 B rl cl sl Z hc = (b, Z1, hc1)) : xm_M y_Md_tickOne (Cond.code y_Md_tickOne b_Md_tickOne 4 (some .boolean)) (xm_rm 4 0 0) [.ref 36] (wd Q0 Q1 Q2 Q3 Q4 ql qr qk qo QS QT QF QH qt ++ (wMB B rl Z cl hc sl tk kp pa tr co ++ rest)) (xm_eq (.inl (some (.int b))) (wd Q0 Q1 Q2 Q3 Q4 ql qr qk qo QS QT QF QH qt ++ (wMB B rl Z1 cl hc1 sl tk kp pa tr co ++ rest))) := by
  obtain ⟨⟨f0, g0, n0⟩, ⟨f1, g1, n1⟩, ⟨f2, g2, n2⟩, ⟨f3, g3, n3⟩, ⟨f4, g4, n4⟩, pl, dr, ki, ow⟩ := B
  have hB := hM.1
  have hrl := hM.2
  obtain ⟨⟨h0, hp0⟩, ⟨h1, hp1⟩, ⟨h2, hp2⟩, ⟨h3, hp3⟩, ⟨h4, hp4⟩, hk⟩ := id hB
  dsimp only at h0 h1 h2 h3 h4 hp0 hp1 hp2 hp3 hp4 hk hrl
  refine xm_of (by decide) (Nat.le_of_ble_eq_true rfl) (fun E C0 => ?_)
  refine xs_eq (ω' := (wd Q0 Q1 Q2 Q3 Q4 ql qr qk qo QS QT QF QH qt ++ (wM (f0, g0, nI n0) (f1, g1, nI n1) (f2, g2, nI n2) (f3, g3, nI n3) (f4, g4, nI n4) pl dr ki rl Z cl hc sl tk kp pa tr co ++ rest))) (lv' := [(0, .ref 36)]) rfl rfl rfl ?_
  refine xs_aload_n C0 d_Md_tickOne_0 rfl 0 rfl ?_
  obtain ⟨ms_1, mc_1, mw_1, mb_1⟩ := Z
  refine xs_get (q := 36) (v := .int mb_1) C0 f_Md_137 d_Md_tickOne_1 rfl rfl ?_
  refine xs_istore_n (lv' := [(1, .int mb_1), (0, .ref 36)]) C0 d_Md_tickOne_4 rfl (by decide) rfl ?_
  refine xs_aload_n C0 d_Md_tickOne_5 rfl 1 rfl ?_
  obtain ⟨Z_2, hc_3, hZ_2⟩ : ∃ X Y, m_laf ((f0, g0, n0), (f1, g1, n1), (f2, g2, n2), (f3, g3, n3), (f4, g4, n4), pl, dr, ki, ow) rl cl (ms_1, mc_1, mw_1, mb_1) hc = (X, Y) := ⟨_, _, rfl⟩
  refine xs_cV0 (ω' := (wd Q0 Q1 Q2 Q3 Q4 ql qr qk qo QS QT QF QH qt ++ (wM (f0, g0, nI n0) (f1, g1, nI n1) (f2, g2, nI n2) (f3, g3, nI n3) (f4, g4, nI n4) pl dr ki rl Z_2 cl hc_3 sl tk kp pa tr co ++ rest))) (As := []) (st := []) (kc' := 0) (ks' := 0) C0 d_Md_tickOne_6 l_Md_111 rfl rfl (d_laf (B := ((f0, g0, n0), (f1, g1, n1), (f2, g2, n2), (f3, g3, n3), (f4, g4, n4), pl, dr, ki, ow)) hM hZ_2) rfl rfl rfl (Nat.le_of_ble_eq_true rfl) (Nat.le_of_ble_eq_true rfl) (Nat.le_of_ble_eq_true rfl) (Nat.le_of_ble_eq_true rfl) (Nat.le_of_ble_eq_true rfl) (Nat.le_of_ble_eq_true rfl) ?_
  refine xs_aload_n C0 d_Md_tickOne_9 rfl 1 rfl ?_
  obtain ⟨ms_4, mc_4, mw_4, mb_4⟩ := Z_2
  refine xs_get (q := 36) (v := .int mb_4) C0 f_Md_137 d_Md_tickOne_10 rfl rfl ?_
  refine xs_iload_n C0 d_Md_tickOne_13 rfl 0 rfl ?_
  refine xs_bi_eq (u := 1) (v := 0) (tgt := 21) (J := 22) C0 d_Md_tickOne_14 (by decide) d_Md_tickOne_17 (by decide) d_Md_tickOne_18 (by decide) d_Md_tickOne_21 (by decide) rfl ?_
  refine xs_istore_n (lv' := [(2, .int (if ¬ mb_4 = mb_1 then 1 else 0)), (1, .int mb_1), (0, .ref 36)]) C0 d_Md_tickOne_22 rfl (by decide) rfl ?_
  refine xs_iconst (v := 0) C0 d_Md_tickOne_23 (by decide) ?_
  refine xs_istore_n (lv' := [(3, .int 0), (2, .int (if ¬ mb_4 = mb_1 then 1 else 0)), (1, .int mb_1), (0, .ref 36)]) C0 d_Md_tickOne_24 rfl (by decide) rfl ?_
  refine xs_lv (lv' := [(0, .ref 36), (2, .int (if ¬ mb_4 = mb_1 then 1 else 0)), (3, .int 0)]) [3, 1, 0] rfl ?_
  refine lp_mvs (ow := ow) (c0 := (if ¬ mb_4 = mb_1 then 1 else 0)) (Z0 := (ms_4, mc_4, mw_4, mb_4)) C0 h0 hp0 (fun c9 Z9 hM9 => ?_) n0 0 _ _ (by omega) rfl
  have h01 := m_mvs01 (B := ((f0, g0, n0), (f1, g1, n1), (f2, g2, n2), (f3, g3, n3), (f4, g4, n4), pl, dr, ki, ow)) (sl := sl) (hc := hc_3) (c0 := (if ¬ mb_4 = mb_1 then 1 else 0)) (Z0 := (ms_4, mc_4, mw_4, mb_4)) xm_b01 n0
  rw [hM9] at h01
  rw [m_t1] at hf
  dsimp only at hf
  rw [show m_laf ((f0, g0, n0), (f1, g1, n1), (f2, g2, n2), (f3, g3, n3), (f4, g4, n4), pl, dr, ki, ow) rl cl (ms_1, mc_1, mw_1, mb_1) hc = _ from hZ_2] at hf
  dsimp only at hf
  rw [hM9] at hf
  cases hf
  refine xs_iload_n C0 d_Md_tickOne_73 rfl 0 rfl ?_
  exact xs_zret C0 d_Md_tickOne_74 h01 ⟨rfl, rfl⟩ (Nat.le_of_ble_eq_true rfl) (Nat.le_of_ble_eq_true rfl)
