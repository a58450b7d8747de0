set_option maxHeartbeats 4000000 in
set_option maxRecDepth 100000 in
theorem lp_qcirc {Q0 Q1 Q2 Q3 Q4 : wt_P} {ql qr qk qo : Nat → Int32} {QS QT : wt_S} {QF : wt_F} {QH : wt_H} {qt : Int32} {f0 g0 f1 g1 f2 g2 f3 g3 f4 g4 : Nat → Int32} {n0 n1 n2 n3 n4 : Nat} {pl dr ki ow rl : Nat → Int32} {cl : Nat → Int32} {sl tk : Int32} {kp : mt_K} {tr : mt_T} {co : Int32} {rest : xm_O} {r : Int32} {n9 m : Nat} {Z1 : mt_S} {hc1 : mt_H} {pa1 : Nat → Int32} {E : xm_X} {Q : State → Prop} (C0 : xm_C E y_Md_circle.cls b_Md_circle 4 (some .int) [] y_Md_circle.name (xm_rm 5 0 0)) (hM : okM ((f0, g0, n0), (f1, g1, n1), (f2, g2, n2), (f3, g3, n3), (f4, g4, n4), pl, dr, ki, ow) rl) (hm : m ≤ 500) (kx : xm_W E 4 Q 0 0 (wd Q0 Q1 Q2 Q3 Q4 ql qr qk qo QS QT QF QH qt ++ (wM (f0, g0, nI n0) (f1, g1, nI n1) (f2, g2, nI n2) (f3, g3, nI n3) (f4, g4, nI n4) pl dr ki rl Z1 cl hc1 sl tk kp pa1 tr co ++ rest)) 74 [(0, .ref 36), (2, .int r), (3, .int (nI n9))] []) : ∀ j : Nat, ∀ (i : Nat) (Z : mt_S) (hc : mt_H) (pa : Nat → Int32), i + j = m → q_circ ((f0, g0, n0), (f1, g1, n1), (f2, g2, n2), (f3, g3, n3), (f4, g4, n4), pl, dr, ki, ow) rl cl sl j i Z hc pa = (r, n9, Z1, hc1, pa1) → xm_W E 4 Q 0 0 (wd Q0 Q1 Q2 Q3 Q4 ql qr qk qo QS QT QF QH qt ++ (wM (f0, g0, nI n0) (f1, g1, nI n1) (f2, g2, nI n2) (f3, g3, nI n3) (f4, g4, nI n4) pl dr ki rl Z cl hc sl tk kp pa tr co ++ rest)) 42 [(0, .ref 36), (1, .int (nI m)), (2, .int (-1)), (3, .int (nI i))] [] := by
  intro j
  induction j with
  | zero =>
    intro i Z hc pa hi hf
    refine xs_iload_n C0 d_Md_circle_42 rfl 2 rfl ?_
    refine xs_iconst (v := (-1)) C0 d_Md_circle_43 (by decide) ?_
    refine xs_icmp_ne (tgt := 74) C0 d_Md_circle_44 (by decide) (fun c9 => absurd c9 (by decide)) (fun _ => ?_)
    refine xs_iload_n C0 d_Md_circle_47 rfl 3 rfl ?_
    refine xs_iload_n C0 d_Md_circle_48 rfl 1 rfl ?_
    refine xs_icmp_ge (tgt := 74) C0 d_Md_circle_49 (by decide) (fun _ => ?_) (fun c9 => absurd (nI_le (by omega) (by omega)) c9)
    refine xs_lv (lv' := [(0, .ref 36), (2, .int (-1)), (3, .int (nI i))]) [0, 2, 3] rfl ?_
    rw [q_circ] at hf
    cases hf
    exact kx
  | succ j ih =>
    intro i Z hc pa hi hf
    refine xs_iload_n C0 d_Md_circle_42 rfl 2 rfl ?_
    refine xs_iconst (v := (-1)) C0 d_Md_circle_43 (by decide) ?_
    refine xs_icmp_ne (tgt := 74) C0 d_Md_circle_44 (by decide) (fun c9 => absurd c9 (by decide)) (fun _ => ?_)
    refine xs_iload_n C0 d_Md_circle_47 rfl 3 rfl ?_
    refine xs_iload_n C0 d_Md_circle_48 rfl 1 rfl ?_
    refine xs_icmp_ge (tgt := 74) C0 d_Md_circle_49 (by decide) (fun c9 => absurd c9 (nI_ge (by omega) (by omega))) (fun _ => ?_)
    refine xs_aload_n C0 d_Md_circle_52 rfl 0 rfl ?_
    obtain ⟨b_1, Z_2, hc_3, hb_1⟩ : ∃ X9 Y9 Z9, m_t1 ((f0, g0, n0), (f1, g1, n1), (f2, g2, n2), (f3, g3, n3), (f4, g4, n4), pl, dr, ki, ow) rl cl sl Z hc = (X9, Y9, Z9) := ⟨_, _, _, rfl⟩
    refine xs_cV1 (ω' := (wd Q0 Q1 Q2 Q3 Q4 ql qr qk qo QS QT QF QH qt ++ (wM (f0, g0, nI n0) (f1, g1, nI n1) (f2, g2, nI n2) (f3, g3, nI n3) (f4, g4, nI n4) pl dr ki rl Z_2 cl hc_3 sl tk kp pa tr co ++ rest))) (As := []) (st := []) (kc' := 0) (ks' := 0) (v := .int b_1) C0 d_Md_circle_53 l_Md_177 rfl rfl (d_t1 (B := ((f0, g0, n0), (f1, g1, n1), (f2, g2, n2), (f3, g3, n3), (f4, g4, n4), pl, dr, ki, ow)) hM hb_1) rfl rfl rfl (Nat.le_of_ble_eq_true rfl) (Nat.le_of_ble_eq_true rfl) (Nat.le_of_ble_eq_true rfl) (Nat.le_of_ble_eq_true rfl) (Nat.le_of_ble_eq_true rfl) (Nat.le_of_ble_eq_true rfl) ?_
    refine xs_pop C0 d_Md_circle_56 rfl ?_
    refine xs_iinc (v := nI (i + 1)) (lv' := [(3, .int (nI (i + 1))), (0, .ref 36), (1, .int (nI m)), (2, .int (-1))]) C0 d_Md_circle_57 3 rfl (by rw [← nI_1]; rfl) (by decide) rfl ?_
    refine xs_aload_n C0 d_Md_circle_60 rfl 1 rfl ?_
    refine xs_iload_n C0 d_Md_circle_61 rfl 0 rfl ?_
    refine xs_pc (pc' := 62) rfl ?_
    obtain ⟨ms_4, mc_4, mw_4, mb_4⟩ := Z_2
    refine xs_cV0 (ω' := (wd Q0 Q1 Q2 Q3 Q4 ql qr qk qo QS QT QF QH qt ++ (wM (f0, g0, nI n0) (f1, g1, nI n1) (f2, g2, nI n2) (f3, g3, nI n3) (f4, g4, nI n4) pl dr ki rl (ms_4, mc_4, mw_4, mb_4) cl hc_3 sl tk kp (q_note pa (ms_4, mc_4, mw_4, mb_4) (i + 1)) tr co ++ rest))) (As := [.int (nI (i + 1))]) (st := []) (kc' := 0) (ks' := 0) C0 d_Md_circle_62 l_Md_193 rfl rfl (d_note (n := (i + 1)) (by omega)) rfl rfl rfl (Nat.le_of_ble_eq_true rfl) (Nat.le_of_ble_eq_true rfl) (Nat.le_of_ble_eq_true rfl) (Nat.le_of_ble_eq_true rfl) (Nat.le_of_ble_eq_true rfl) (Nat.le_of_ble_eq_true rfl) ?_
    refine xs_aload_n C0 d_Md_circle_65 rfl 1 rfl ?_
    refine xs_iload_n C0 d_Md_circle_66 rfl 0 rfl ?_
    obtain ⟨r_5, hr_5⟩ : ∃ X, q_bf (q_note pa (ms_4, mc_4, mw_4, mb_4) (i + 1)) (i + 1) (i + 1) 0 = X := ⟨_, rfl⟩
    refine xs_cV1 (ω' := (wd Q0 Q1 Q2 Q3 Q4 ql qr qk qo QS QT QF QH qt ++ (wM (f0, g0, nI n0) (f1, g1, nI n1) (f2, g2, nI n2) (f3, g3, nI n3) (f4, g4, nI n4) pl dr ki rl (ms_4, mc_4, mw_4, mb_4) cl hc_3 sl tk kp (q_note pa (ms_4, mc_4, mw_4, mb_4) (i + 1)) tr co ++ rest))) (As := [.int (nI (i + 1))]) (st := []) (kc' := 0) (ks' := 0) (v := .int r_5) C0 d_Md_circle_67 l_Md_197 rfl rfl (d_bf (n := i + 1) (by omega) hr_5) rfl rfl rfl (Nat.le_of_ble_eq_true rfl) (Nat.le_of_ble_eq_true rfl) (Nat.le_of_ble_eq_true rfl) (Nat.le_of_ble_eq_true rfl) (Nat.le_of_ble_eq_true rfl) (Nat.le_of_ble_eq_true rfl) ?_
    refine xs_istore_n (lv' := [(2, .int r_5), (3, .int (nI (i + 1))), (0, .ref 36), (1, .int (nI m))]) C0 d_Md_circle_70 rfl (by decide) rfl ?_
    rw [q_circ, hb_1] at hf
    dsimp only at hf
    rw [hr_5] at hf
    by_cases c1 : r_5 = -1
    · rw [if_pos c1] at hf
      subst c1
      refine xs_goto (tgt := 42) C0 d_Md_circle_71 (by decide) ?_
      refine xs_lv (lv' := [(0, .ref 36), (1, .int (nI m)), (2, .int (-1)), (3, .int (nI (i + 1)))]) [2, 3, 0, 1] rfl ?_
      exact ih (i + 1) _ _ _ (by omega) hf
    · rw [if_neg c1] at hf
      cases hf
      refine xs_goto (tgt := 42) C0 d_Md_circle_71 (by decide) ?_
      refine xs_iload_n C0 d_Md_circle_42 rfl 0 rfl ?_
      refine xs_iconst (v := (-1)) C0 d_Md_circle_43 (by decide) ?_
      refine xs_icmp_ne (tgt := 74) C0 d_Md_circle_44 (by decide) (fun _ => ?_) (fun c9 => absurd c9 c1)
      refine xs_lv (lv' := [(0, .ref 36), (2, .int r), (3, .int (nI (i + 1)))]) [2, 0, 1] rfl ?_
      exact kx
set_option maxHeartbeats 4000000 in
set_option maxRecDepth 100000 in
theorem d_circ {Q0 Q1 Q2 Q3 Q4 : wt_P} {ql qr qk qo : Nat → Int32} {QS QT : wt_S} {QF : wt_F} {QH : wt_H} {qt : Int32} {B : wb} {rl : Nat → Int32} {Z : mt_S} {cl : Nat → Int32} {hc : mt_H} {sl tk : Int32} {kp : mt_K} {pa : Nat → Int32} {tr : mt_T} {co : Int32} {rest : xm_O} {m n9 : Nat} {r : Int32} {Z1 : mt_S} {hc1 : mt_H} {pa1 : Nat → Int32} (hM : okM B rl) (hm : m ≤ 500) (hz : z01 Z) (h : gw (nI m) 1 500) (hf : q_circ B rl cl sl m 0 Z hc (q_note pa Z 0) = (r, n9, Z1, hc1, pa1)) (hn1 : ¬ r = -1) : xm_M y_Md_circle (Cond.code y_Md_circle b_Md_circle 4 (some .int)) (xm_rm 5 0 0) [.ref 36, .int (nI m)] (wd Q0 Q1 Q2 Q3 Q4 ql qr qk qo QS QT QF QH qt ++ (wMB B rl Z cl hc sl tk kp pa tr co ++ rest)) (xm_eq (.inl (some (.int (r + 1000 * (nI n9 - r))))) (wd Q0 Q1 Q2 Q3 Q4 ql qr qk qo QS QT QF QH qt ++ (wMB B rl (m_back (m_keep Z tk kp) Z1) cl hc1 sl tk (m_keep Z tk kp) pa1 tr 0 ++ rest))) := by
  obtain ⟨⟨f0, g0, n0⟩, ⟨f1, g1, n1⟩, ⟨f2, g2, n2⟩, ⟨f3, g3, n3⟩, ⟨f4, g4, n4⟩, pl, dr, ki, ow⟩ := B
  have hB := hM.1
  have hrl := hM.2
  obtain ⟨⟨h0, hp0⟩, ⟨h1, hp1⟩, ⟨h2, hp2⟩, ⟨h3, hp3⟩, ⟨h4, hp4⟩, hk⟩ := id hB
  dsimp only at h0 h1 h2 h3 h4 hp0 hp1 hp2 hp3 hp4 hk hrl
  refine xm_of (by decide) (Nat.le_of_ble_eq_true rfl) (fun E C0 => ?_)
  refine xs_eq (ω' := (wd Q0 Q1 Q2 Q3 Q4 ql qr qk qo QS QT QF QH qt ++ (wM (f0, g0, nI n0) (f1, g1, nI n1) (f2, g2, nI n2) (f3, g3, nI n3) (f4, g4, nI n4) pl dr ki rl Z cl hc sl tk kp pa tr co ++ rest))) (lv' := [(0, .ref 36), (1, .int (nI m))]) rfl rfl rfl ?_
  refine xs_aload_n C0 d_Md_circle_0 rfl 0 rfl ?_
  refine xs_iload_n C0 d_Md_circle_1 rfl 1 rfl ?_
  refine xs_iconst (v := 1) C0 d_Md_circle_2 (by decide) ?_
  refine xs_sipush (v := 500) C0 d_Md_circle_3 (by decide) ?_
  refine xs_cS1 (ω' := (wd Q0 Q1 Q2 Q3 Q4 ql qr qk qo QS QT QF QH qt ++ (wM (f0, g0, nI n0) (f1, g1, nI n1) (f2, g2, nI n2) (f3, g3, nI n3) (f4, g4, nI n4) pl dr ki rl Z cl hc sl tk kp pa tr co ++ rest))) (av := [.int (nI m), .int 1, .int 500]) (st := [.ref 36]) (kc' := 0) (ks' := 0) (v := .int 1) C0 d_Md_circle_6 l_Md_96 (d_in1 _ (nI m) 1 500 h) rfl rfl rfl (Nat.le_of_ble_eq_true rfl) (Nat.le_of_ble_eq_true rfl) (Nat.le_of_ble_eq_true rfl) (Nat.le_of_ble_eq_true rfl) (Nat.le_of_ble_eq_true rfl) (Nat.le_of_ble_eq_true rfl) ?_
  refine xs_if_eq (tgt := 16) C0 d_Md_circle_9 (by decide) (fun c9 => absurd c9 (by decide)) (fun _ => ?_)
  refine xs_iconst (v := 0) C0 d_Md_circle_12 (by decide) ?_
  refine xs_goto (tgt := 17) C0 d_Md_circle_13 (by decide) ?_
  refine xs_put (ω' := (wd Q0 Q1 Q2 Q3 Q4 ql qr qk qo QS QT QF QH qt ++ (wM (f0, g0, nI n0) (f1, g1, nI n1) (f2, g2, nI n2) (f3, g3, nI n3) (f4, g4, nI n4) pl dr ki rl Z cl hc sl tk kp pa tr 0 ++ rest))) C0 f_Md_92 ty_Md_0 d_Md_circle_17 rfl (Nat.le_of_ble_eq_true rfl) (fun _ => ⟨rfl, rfl⟩) rfl ?_
  refine xs_aload_n C0 d_Md_circle_20 rfl 0 rfl ?_
  refine xs_get (q := 36) (v := .int 0) C0 f_Md_92 d_Md_circle_21 rfl rfl ?_
  refine xs_if_le (tgt := 29) C0 d_Md_circle_24 (by decide) (fun _ => ?_) (fun c9 => absurd c9 (by decide))
  refine xs_aload_n C0 d_Md_circle_29 rfl 0 rfl ?_
  obtain ⟨ms_1, mc_1, mw_1, mb_1⟩ := Z
  obtain ⟨ks_2, kc_2, kw_2, kb_2, kt_2⟩ := kp
  refine xs_cV0 (ω' := (wd Q0 Q1 Q2 Q3 Q4 ql qr qk qo QS QT QF QH qt ++ (wM (f0, g0, nI n0) (f1, g1, nI n1) (f2, g2, nI n2) (f3, g3, nI n3) (f4, g4, nI n4) pl dr ki rl (ms_1, mc_1, mw_1, mb_1) cl hc sl tk (cpn 16 ms_1 ks_2, cpn 16 mc_1 kc_2, cpn 16 mw_1 kw_2, mb_1, tk) pa tr 0 ++ rest))) (As := []) (st := []) (kc' := 0) (ks' := 0) C0 d_Md_circle_30 l_Md_181 rfl rfl (d_keep hz) rfl rfl rfl (Nat.le_of_ble_eq_true rfl) (Nat.le_of_ble_eq_true rfl) (Nat.le_of_ble_eq_true rfl) (Nat.le_of_ble_eq_true rfl) (Nat.le_of_ble_eq_true rfl) (Nat.le_of_ble_eq_true rfl) ?_
  refine xs_aload_n C0 d_Md_circle_33 rfl 0 rfl ?_
  refine xs_iconst (v := 0) C0 d_Md_circle_34 (by decide) ?_
  refine xs_top (v' := .int (nI 0)) rfl ?_
  refine xs_cV0 (ω' := (wd Q0 Q1 Q2 Q3 Q4 ql qr qk qo QS QT QF QH qt ++ (wM (f0, g0, nI n0) (f1, g1, nI n1) (f2, g2, nI n2) (f3, g3, nI n3) (f4, g4, nI n4) pl dr ki rl (ms_1, mc_1, mw_1, mb_1) cl hc sl tk (cpn 16 ms_1 ks_2, cpn 16 mc_1 kc_2, cpn 16 mw_1 kw_2, mb_1, tk) (q_note pa (ms_1, mc_1, mw_1, mb_1) 0) tr 0 ++ rest))) (As := [.int (nI 0)]) (st := []) (kc' := 0) (ks' := 0) C0 d_Md_circle_35 l_Md_193 rfl rfl (d_note (n := 0) (by decide)) rfl rfl rfl (Nat.le_of_ble_eq_true rfl) (Nat.le_of_ble_eq_true rfl) (Nat.le_of_ble_eq_true rfl) (Nat.le_of_ble_eq_true rfl) (Nat.le_of_ble_eq_true rfl) (Nat.le_of_ble_eq_true rfl) ?_
  refine xs_iconst (v := (-1)) C0 d_Md_circle_38 (by decide) ?_
  refine xs_istore_n (lv' := [(2, .int (-1)), (0, .ref 36), (1, .int (nI m))]) C0 d_Md_circle_39 rfl (by decide) rfl ?_
  refine xs_iconst (v := 0) C0 d_Md_circle_40 (by decide) ?_
  refine xs_istore_n (lv' := [(3, .int 0), (2, .int (-1)), (0, .ref 36), (1, .int (nI m))]) C0 d_Md_circle_41 rfl (by decide) rfl ?_
  refine xs_lv (lv' := [(0, .ref 36), (1, .int (nI m)), (2, .int (-1)), (3, .int 0)]) [2, 3, 1, 0] rfl ?_
  refine lp_qcirc (ow := ow) (n9 := n9) C0 hM hm ?_ m 0 _ _ _ (by omega) hf
  refine xs_aload_n C0 d_Md_circle_74 rfl 0 rfl ?_
  obtain ⟨ms_3, mc_3, mw_3, mb_3⟩ := Z1
  refine xs_cV0 (ω' := (wd Q0 Q1 Q2 Q3 Q4 ql qr qk qo QS QT QF QH qt ++ (wM (f0, g0, nI n0) (f1, g1, nI n1) (f2, g2, nI n2) (f3, g3, nI n3) (f4, g4, nI n4) pl dr ki rl (cpn 16 (cpn 16 ms_1 ks_2) ms_3, cpn 16 (cpn 16 mc_1 kc_2) mc_3, cpn 16 (cpn 16 mw_1 kw_2) mw_3, mb_1) cl hc1 sl tk (cpn 16 ms_1 ks_2, cpn 16 mc_1 kc_2, cpn 16 mw_1 kw_2, mb_1, tk) pa1 tr 0 ++ rest))) (As := []) (st := []) (kc' := 0) (ks' := 0) C0 d_Md_circle_75 l_Md_187 rfl rfl (d_lb hz) rfl rfl rfl (Nat.le_of_ble_eq_true rfl) (Nat.le_of_ble_eq_true rfl) (Nat.le_of_ble_eq_true rfl) (Nat.le_of_ble_eq_true rfl) (Nat.le_of_ble_eq_true rfl) (Nat.le_of_ble_eq_true rfl) ?_
  refine xs_aload_n C0 d_Md_circle_78 rfl 0 rfl ?_
  refine xs_iload_n C0 d_Md_circle_79 rfl 1 rfl ?_
  refine xs_iconst (v := (-1)) C0 d_Md_circle_80 (by decide) ?_
  refine xs_icmp_ne (tgt := 88) C0 d_Md_circle_81 (by decide) (fun _ => ?_) (fun c9 => absurd c9 hn1)
  refine xs_iconst (v := 0) C0 d_Md_circle_88 (by decide) ?_
  refine xs_put (ω' := (wd Q0 Q1 Q2 Q3 Q4 ql qr qk qo QS QT QF QH qt ++ (wM (f0, g0, nI n0) (f1, g1, nI n1) (f2, g2, nI n2) (f3, g3, nI n3) (f4, g4, nI n4) pl dr ki rl (cpn 16 (cpn 16 ms_1 ks_2) ms_3, cpn 16 (cpn 16 mc_1 kc_2) mc_3, cpn 16 (cpn 16 mw_1 kw_2) mw_3, mb_1) cl hc1 sl tk (cpn 16 ms_1 ks_2, cpn 16 mc_1 kc_2, cpn 16 mw_1 kw_2, mb_1, tk) pa1 tr 0 ++ rest))) C0 f_Md_92 ty_Md_0 d_Md_circle_89 rfl (Nat.le_of_ble_eq_true rfl) (fun _ => ⟨rfl, rfl⟩) rfl ?_
  refine xs_aload_n C0 d_Md_circle_92 rfl 0 rfl ?_
  refine xs_get (q := 36) (v := .int 0) C0 f_Md_92 d_Md_circle_93 rfl rfl ?_
  refine xs_if_le (tgt := 103) C0 d_Md_circle_96 (by decide) (fun _ => ?_) (fun c9 => absurd c9 (by decide))
  refine xs_iload_n C0 d_Md_circle_103 rfl 1 rfl ?_
  refine xs_sipush (v := 1000) C0 d_Md_circle_104 (by decide) ?_
  refine xs_iload_n C0 d_Md_circle_107 rfl 2 rfl ?_
  refine xs_iload_n C0 d_Md_circle_108 rfl 1 rfl ?_
  refine xs_isub C0 d_Md_circle_109 ?_
  refine xs_imul C0 d_Md_circle_110 ?_
  refine xs_iadd C0 d_Md_circle_111 ?_
  exact xs_iret C0 d_Md_circle_112 (⟨rfl, rfl⟩) (Nat.le_of_ble_eq_true rfl) (Nat.le_of_ble_eq_true rfl)
set_option maxHeartbeats 4000000 in
set_option maxRecDepth 100000 in
theorem d_circU {Q0 Q1 Q2 Q3 Q4 : wt_P} {ql qr qk qo : Nat → Int32} {QS QT : wt_S} {QF : wt_F} {QH : wt_H} {qt : Int32} {B : wb} {rl : Nat → Int32} {Z : mt_S} {cl : Nat → Int32} {hc : mt_H} {sl tk : Int32} {kp : mt_K} {pa : Nat → Int32} {tr : mt_T} {co : Int32} {rest : xm_O} {m n9 : Nat} {r : Int32} {Z1 : mt_S} {hc1 : mt_H} {pa1 : Nat → Int32} (hM : okM B rl) (hm : m ≤ 500) (hz : z01 Z) (h : gw (nI m) 1 500) (hf : q_circ B rl cl sl m 0 Z hc (q_note pa Z 0) = (r, n9, Z1, hc1, pa1)) (hn1 : r = -1) : xm_M y_Md_circle (Cond.code y_Md_circle b_Md_circle 4 (some .int)) (xm_rm 5 0 0) [.ref 36, .int (nI m)] (wd Q0 Q1 Q2 Q3 Q4 ql qr qk qo QS QT QF QH qt ++ (wMB B rl Z cl hc sl tk kp pa tr co ++ rest)) (xm_eq (.inl (some (.int 0))) (wd Q0 Q1 Q2 Q3 Q4 ql qr qk qo QS QT QF QH qt ++ (wMB B rl (m_back (m_keep Z tk kp) Z1) cl hc1 sl tk (m_keep Z tk kp) pa1 tr 2 ++ rest))) := by
  obtain ⟨⟨f0, g0, n0⟩, ⟨f1, g1, n1⟩, ⟨f2, g2, n2⟩, ⟨f3, g3, n3⟩, ⟨f4, g4, n4⟩, pl, dr, ki, ow⟩ := B
  have hB := hM.1
  have hrl := hM.2
  obtain ⟨⟨h0, hp0⟩, ⟨h1, hp1⟩, ⟨h2, hp2⟩, ⟨h3, hp3⟩, ⟨h4, hp4⟩, hk⟩ := id hB
  dsimp only at h0 h1 h2 h3 h4 hp0 hp1 hp2 hp3 hp4 hk hrl
  refine xm_of (by decide) (Nat.le_of_ble_eq_true rfl) (fun E C0 => ?_)
  refine xs_eq (ω' := (wd Q0 Q1 Q2 Q3 Q4 ql qr qk qo QS QT QF QH qt ++ (wM (f0, g0, nI n0) (f1, g1, nI n1) (f2, g2, nI n2) (f3, g3, nI n3) (f4, g4, nI n4) pl dr ki rl Z cl hc sl tk kp pa tr co ++ rest))) (lv' := [(0, .ref 36), (1, .int (nI m))]) rfl rfl rfl ?_
  refine xs_aload_n C0 d_Md_circle_0 rfl 0 rfl ?_
  refine xs_iload_n C0 d_Md_circle_1 rfl 1 rfl ?_
  refine xs_iconst (v := 1) C0 d_Md_circle_2 (by decide) ?_
  refine xs_sipush (v := 500) C0 d_Md_circle_3 (by decide) ?_
  refine xs_cS1 (ω' := (wd Q0 Q1 Q2 Q3 Q4 ql qr qk qo QS QT QF QH qt ++ (wM (f0, g0, nI n0) (f1, g1, nI n1) (f2, g2, nI n2) (f3, g3, nI n3) (f4, g4, nI n4) pl dr ki rl Z cl hc sl tk kp pa tr co ++ rest))) (av := [.int (nI m), .int 1, .int 500]) (st := [.ref 36]) (kc' := 0) (ks' := 0) (v := .int 1) C0 d_Md_circle_6 l_Md_96 (d_in1 _ (nI m) 1 500 h) rfl rfl rfl (Nat.le_of_ble_eq_true rfl) (Nat.le_of_ble_eq_true rfl) (Nat.le_of_ble_eq_true rfl) (Nat.le_of_ble_eq_true rfl) (Nat.le_of_ble_eq_true rfl) (Nat.le_of_ble_eq_true rfl) ?_
  refine xs_if_eq (tgt := 16) C0 d_Md_circle_9 (by decide) (fun c9 => absurd c9 (by decide)) (fun _ => ?_)
  refine xs_iconst (v := 0) C0 d_Md_circle_12 (by decide) ?_
  refine xs_goto (tgt := 17) C0 d_Md_circle_13 (by decide) ?_
  refine xs_put (ω' := (wd Q0 Q1 Q2 Q3 Q4 ql qr qk qo QS QT QF QH qt ++ (wM (f0, g0, nI n0) (f1, g1, nI n1) (f2, g2, nI n2) (f3, g3, nI n3) (f4, g4, nI n4) pl dr ki rl Z cl hc sl tk kp pa tr 0 ++ rest))) C0 f_Md_92 ty_Md_0 d_Md_circle_17 rfl (Nat.le_of_ble_eq_true rfl) (fun _ => ⟨rfl, rfl⟩) rfl ?_
  refine xs_aload_n C0 d_Md_circle_20 rfl 0 rfl ?_
  refine xs_get (q := 36) (v := .int 0) C0 f_Md_92 d_Md_circle_21 rfl rfl ?_
  refine xs_if_le (tgt := 29) C0 d_Md_circle_24 (by decide) (fun _ => ?_) (fun c9 => absurd c9 (by decide))
  refine xs_aload_n C0 d_Md_circle_29 rfl 0 rfl ?_
  obtain ⟨ms_1, mc_1, mw_1, mb_1⟩ := Z
  obtain ⟨ks_2, kc_2, kw_2, kb_2, kt_2⟩ := kp
  refine xs_cV0 (ω' := (wd Q0 Q1 Q2 Q3 Q4 ql qr qk qo QS QT QF QH qt ++ (wM (f0, g0, nI n0) (f1, g1, nI n1) (f2, g2, nI n2) (f3, g3, nI n3) (f4, g4, nI n4) pl dr ki rl (ms_1, mc_1, mw_1, mb_1) cl hc sl tk (cpn 16 ms_1 ks_2, cpn 16 mc_1 kc_2, cpn 16 mw_1 kw_2, mb_1, tk) pa tr 0 ++ rest))) (As := []) (st := []) (kc' := 0) (ks' := 0) C0 d_Md_circle_30 l_Md_181 rfl rfl (d_keep hz) rfl rfl rfl (Nat.le_of_ble_eq_true rfl) (Nat.le_of_ble_eq_true rfl) (Nat.le_of_ble_eq_true rfl) (Nat.le_of_ble_eq_true rfl) (Nat.le_of_ble_eq_true rfl) (Nat.le_of_ble_eq_true rfl) ?_
  refine xs_aload_n C0 d_Md_circle_33 rfl 0 rfl ?_
  refine xs_iconst (v := 0) C0 d_Md_circle_34 (by decide) ?_
  refine xs_top (v' := .int (nI 0)) rfl ?_
  refine xs_cV0 (ω' := (wd Q0 Q1 Q2 Q3 Q4 ql qr qk qo QS QT QF QH qt ++ (wM (f0, g0, nI n0) (f1, g1, nI n1) (f2, g2, nI n2) (f3, g3, nI n3) (f4, g4, nI n4) pl dr ki rl (ms_1, mc_1, mw_1, mb_1) cl hc sl tk (cpn 16 ms_1 ks_2, cpn 16 mc_1 kc_2, cpn 16 mw_1 kw_2, mb_1, tk) (q_note pa (ms_1, mc_1, mw_1, mb_1) 0) tr 0 ++ rest))) (As := [.int (nI 0)]) (st := []) (kc' := 0) (ks' := 0) C0 d_Md_circle_35 l_Md_193 rfl rfl (d_note (n := 0) (by decide)) rfl rfl rfl (Nat.le_of_ble_eq_true rfl) (Nat.le_of_ble_eq_true rfl) (Nat.le_of_ble_eq_true rfl) (Nat.le_of_ble_eq_true rfl) (Nat.le_of_ble_eq_true rfl) (Nat.le_of_ble_eq_true rfl) ?_
  refine xs_iconst (v := (-1)) C0 d_Md_circle_38 (by decide) ?_
  refine xs_istore_n (lv' := [(2, .int (-1)), (0, .ref 36), (1, .int (nI m))]) C0 d_Md_circle_39 rfl (by decide) rfl ?_
  refine xs_iconst (v := 0) C0 d_Md_circle_40 (by decide) ?_
  refine xs_istore_n (lv' := [(3, .int 0), (2, .int (-1)), (0, .ref 36), (1, .int (nI m))]) C0 d_Md_circle_41 rfl (by decide) rfl ?_
  refine xs_lv (lv' := [(0, .ref 36), (1, .int (nI m)), (2, .int (-1)), (3, .int 0)]) [2, 3, 1, 0] rfl ?_
  refine lp_qcirc (ow := ow) (n9 := n9) C0 hM hm ?_ m 0 _ _ _ (by omega) hf
  refine xs_aload_n C0 d_Md_circle_74 rfl 0 rfl ?_
  obtain ⟨ms_3, mc_3, mw_3, mb_3⟩ := Z1
  refine xs_cV0 (ω' := (wd Q0 Q1 Q2 Q3 Q4 ql qr qk qo QS QT QF QH qt ++ (wM (f0, g0, nI n0) (f1, g1, nI n1) (f2, g2, nI n2) (f3, g3, nI n3) (f4, g4, nI n4) pl dr ki rl (cpn 16 (cpn 16 ms_1 ks_2) ms_3, cpn 16 (cpn 16 mc_1 kc_2) mc_3, cpn 16 (cpn 16 mw_1 kw_2) mw_3, mb_1) cl hc1 sl tk (cpn 16 ms_1 ks_2, cpn 16 mc_1 kc_2, cpn 16 mw_1 kw_2, mb_1, tk) pa1 tr 0 ++ rest))) (As := []) (st := []) (kc' := 0) (ks' := 0) C0 d_Md_circle_75 l_Md_187 rfl rfl (d_lb hz) rfl rfl rfl (Nat.le_of_ble_eq_true rfl) (Nat.le_of_ble_eq_true rfl) (Nat.le_of_ble_eq_true rfl) (Nat.le_of_ble_eq_true rfl) (Nat.le_of_ble_eq_true rfl) (Nat.le_of_ble_eq_true rfl) ?_
  refine xs_aload_n C0 d_Md_circle_78 rfl 0 rfl ?_
  refine xs_iload_n C0 d_Md_circle_79 rfl 1 rfl ?_
  refine xs_iconst (v := (-1)) C0 d_Md_circle_80 (by decide) ?_
  refine xs_icmp_ne (tgt := 88) C0 d_Md_circle_81 (by decide) (fun c9 => absurd hn1 c9) (fun _ => ?_)
  refine xs_iconst (v := 2) C0 d_Md_circle_84 (by decide) ?_
  refine xs_goto (tgt := 89) C0 d_Md_circle_85 (by decide) ?_
  refine xs_put (ω' := (wd Q0 Q1 Q2 Q3 Q4 ql qr qk qo QS QT QF QH qt ++ (wM (f0, g0, nI n0) (f1, g1, nI n1) (f2, g2, nI n2) (f3, g3, nI n3) (f4, g4, nI n4) pl dr ki rl (cpn 16 (cpn 16 ms_1 ks_2) ms_3, cpn 16 (cpn 16 mc_1 kc_2) mc_3, cpn 16 (cpn 16 mw_1 kw_2) mw_3, mb_1) cl hc1 sl tk (cpn 16 ms_1 ks_2, cpn 16 mc_1 kc_2, cpn 16 mw_1 kw_2, mb_1, tk) pa1 tr 2 ++ rest))) C0 f_Md_92 ty_Md_0 d_Md_circle_89 rfl (Nat.le_of_ble_eq_true rfl) (fun _ => ⟨rfl, rfl⟩) rfl ?_
  refine xs_aload_n C0 d_Md_circle_92 rfl 0 rfl ?_
  refine xs_get (q := 36) (v := .int 2) C0 f_Md_92 d_Md_circle_93 rfl rfl ?_
  refine xs_if_le (tgt := 103) C0 d_Md_circle_96 (by decide) (fun c9 => absurd c9 (by decide)) (fun _ => ?_)
  refine xs_iconst (v := 0) C0 d_Md_circle_99 (by decide) ?_
  refine xs_goto (tgt := 112) C0 d_Md_circle_100 (by decide) ?_
  exact xs_iret C0 d_Md_circle_112 (⟨rfl, rfl⟩) (Nat.le_of_ble_eq_true rfl) (Nat.le_of_ble_eq_true rfl)
set_option maxHeartbeats 4000000 in
set_option maxRecDepth 100000 in
theorem d_circT {Q0 Q1 Q2 Q3 Q4 : wt_P} {ql qr qk qo : Nat → Int32} {QS QT : wt_S} {QF : wt_F} {QH : wt_H} {qt : Int32} {B : wb} {rl : Nat → Int32} {Z : mt_S} {cl : Nat → Int32} {hc : mt_H} {sl tk : Int32} {kp : mt_K} {pa : Nat → Int32} {tr : mt_T} {co : Int32} {rest : xm_O} {y : Int32} (hM : okM B rl) (h : ¬ gw y 1 500) : xm_M y_Md_circle (Cond.code y_Md_circle b_Md_circle 4 (some .int)) (xm_rm 5 0 0) [.ref 36, .int y] (wd Q0 Q1 Q2 Q3 Q4 ql qr qk qo QS QT QF QH qt ++ (wMB B rl Z cl hc sl tk kp pa tr co ++ rest)) (xm_eq (.inl (some (.int 0))) (wd Q0 Q1 Q2 Q3 Q4 ql qr qk qo QS QT QF QH qt ++ (wMB B rl Z cl hc sl tk kp pa tr 1 ++ rest))) := by
  obtain ⟨⟨f0, g0, n0⟩, ⟨f1, g1, n1⟩, ⟨f2, g2, n2⟩, ⟨f3, g3, n3⟩, ⟨f4, g4, n4⟩, pl, dr, ki, ow⟩ := B
  have hB := hM.1
  have hrl := hM.2
  obtain ⟨⟨h0, hp0⟩, ⟨h1, hp1⟩, ⟨h2, hp2⟩, ⟨h3, hp3⟩, ⟨h4, hp4⟩, hk⟩ := id hB
  dsimp only at h0 h1 h2 h3 h4 hp0 hp1 hp2 hp3 hp4 hk hrl
  refine xm_of (by decide) (Nat.le_of_ble_eq_true rfl) (fun E C0 => ?_)
  refine xs_eq (ω' := (wd Q0 Q1 Q2 Q3 Q4 ql qr qk qo QS QT QF QH qt ++ (wM (f0, g0, nI n0) (f1, g1, nI n1) (f2, g2, nI n2) (f3, g3, nI n3) (f4, g4, nI n4) pl dr ki rl Z cl hc sl tk kp pa tr co ++ rest))) (lv' := [(0, .ref 36), (1, .int y)]) rfl rfl rfl ?_
  refine xs_aload_n C0 d_Md_circle_0 rfl 0 rfl ?_
  refine xs_iload_n C0 d_Md_circle_1 rfl 1 rfl ?_
  refine xs_iconst (v := 1) C0 d_Md_circle_2 (by decide) ?_
  refine xs_sipush (v := 500) C0 d_Md_circle_3 (by decide) ?_
  refine xs_cS1 (ω' := (wd Q0 Q1 Q2 Q3 Q4 ql qr qk qo QS QT QF QH qt ++ (wM (f0, g0, nI n0) (f1, g1, nI n1) (f2, g2, nI n2) (f3, g3, nI n3) (f4, g4, nI n4) pl dr ki rl Z cl hc sl tk kp pa tr co ++ rest))) (av := [.int y, .int 1, .int 500]) (st := [.ref 36]) (kc' := 0) (ks' := 0) (v := .int 0) C0 d_Md_circle_6 l_Md_96 (d_in0 _ y 1 500 h) rfl rfl rfl (Nat.le_of_ble_eq_true rfl) (Nat.le_of_ble_eq_true rfl) (Nat.le_of_ble_eq_true rfl) (Nat.le_of_ble_eq_true rfl) (Nat.le_of_ble_eq_true rfl) (Nat.le_of_ble_eq_true rfl) ?_
  refine xs_if_eq (tgt := 16) C0 d_Md_circle_9 (by decide) (fun _ => ?_) (fun c9 => absurd rfl c9)
  refine xs_iconst (v := 1) C0 d_Md_circle_16 (by decide) ?_
  refine xs_put (ω' := (wd Q0 Q1 Q2 Q3 Q4 ql qr qk qo QS QT QF QH qt ++ (wM (f0, g0, nI n0) (f1, g1, nI n1) (f2, g2, nI n2) (f3, g3, nI n3) (f4, g4, nI n4) pl dr ki rl Z cl hc sl tk kp pa tr 1 ++ rest))) C0 f_Md_92 ty_Md_0 d_Md_circle_17 rfl (Nat.le_of_ble_eq_true rfl) (fun _ => ⟨rfl, rfl⟩) rfl ?_
  refine xs_aload_n C0 d_Md_circle_20 rfl 0 rfl ?_
  refine xs_get (q := 36) (v := .int 1) C0 f_Md_92 d_Md_circle_21 rfl rfl ?_
  refine xs_if_le (tgt := 29) C0 d_Md_circle_24 (by decide) (fun c9 => absurd c9 (by decide)) (fun _ => ?_)
  refine xs_iconst (v := 0) C0 d_Md_circle_27 (by decide) ?_
  exact xs_iret C0 d_Md_circle_28 (⟨rfl, rfl⟩) (Nat.le_of_ble_eq_true rfl) (Nat.le_of_ble_eq_true rfl)
