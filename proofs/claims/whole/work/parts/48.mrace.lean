set_option maxHeartbeats 4000000 in
set_option maxRecDepth 100000 in
theorem lp_ol {Q0 Q1 Q2 Q3 Q4 : wt_P} {ql qr qk qo : Nat → Int32} {QS QT : wt_S} {QF : wt_F} {QH : wt_H} {qt : Int32} {f0 g0 f1 g1 f2 g2 f3 g3 f4 g4 : Nat → Int32} {n0 n1 n2 n3 n4 : Nat} {pl dr ki ow rl : Nat → Int32} {cl : Nat → Int32} {sl tk : Int32} {kp : mt_K} {pa : Nat → Int32} {co : Int32} {rest : xm_O} {x m : Nat} {wa : Int32} {v : Int32} {Z1 : mt_S} {hc1 : mt_H} {tr1 : mt_T} {E : xm_X} {Q : State → Prop} (C0 : xm_C E y_Md_outcome.cls b_Md_outcome 9 (some .int) [] y_Md_outcome.name (xm_rm 6 0 0)) (hM : okM ((f0, g0, n0), (f1, g1, n1), (f2, g2, n2), (f3, g3, n3), (f4, g4, n4), pl, dr, ki, ow) rl) (h0 : n0 ≤ 16) (hm : m ≤ 100) (kx : xm_W E 9 Q 0 0 (wd Q0 Q1 Q2 Q3 Q4 ql qr qk qo QS QT QF QH qt ++ (wM (f0, g0, nI n0) (f1, g1, nI n1) (f2, g2, nI n2) (f3, g3, nI n3) (f4, g4, nI n4) pl dr ki rl Z1 cl hc1 sl tk kp pa tr1 co ++ rest)) 110 [(0, .ref 36), (1, .int (nI x)), (5, .int wa)] [.int v]) : ∀ j : Nat, ∀ (i : Nat) (Z : mt_S) (hc : mt_H) (tr : mt_T), i + j = m + 1 → z01 Z → q_ol ((f0, g0, n0), (f1, g1, n1), (f2, g2, n2), (f3, g3, n3), (f4, g4, n4), pl, dr, ki, ow) rl cl sl j Z hc tr = (v, Z1, hc1, tr1) → xm_W E 9 Q 0 0 (wd Q0 Q1 Q2 Q3 Q4 ql qr qk qo QS QT QF QH qt ++ (wM (f0, g0, nI n0) (f1, g1, nI n1) (f2, g2, nI n2) (f3, g3, nI n3) (f4, g4, nI n4) pl dr ki rl Z cl hc sl tk kp pa tr co ++ rest)) 34 [(0, .ref 36), (1, .int (nI x)), (4, .int (nI m)), (5, .int wa), (6, .int 0), (7, .int (nI i))] [] := by
  intro j
  induction j with
  | zero =>
    intro i Z hc tr hi hz hf
    refine xs_iload C0 d_Md_outcome_34 4 rfl ?_
    refine xs_if_ne (tgt := 83) C0 d_Md_outcome_36 (by decide) (fun c9 => absurd rfl c9) (fun _ => ?_)
    refine xs_iload C0 d_Md_outcome_39 5 rfl ?_
    refine xs_iload C0 d_Md_outcome_41 2 rfl ?_
    refine xs_icmp_gt (tgt := 83) C0 d_Md_outcome_43 (by decide) (fun _ => ?_) (fun c9 => absurd (nI_lt (by omega) (by omega)) c9)
    refine xs_iload C0 d_Md_outcome_83 4 rfl ?_
    refine xs_if_eq (tgt := 109) C0 d_Md_outcome_85 (by decide) (fun _ => ?_) (fun c9 => absurd rfl c9)
    refine xs_iconst (v := (-1)) C0 d_Md_outcome_109 (by decide) ?_
    refine xs_lv (lv' := [(0, .ref 36), (1, .int (nI x)), (5, .int wa)]) [0, 1, 3] rfl ?_
    rw [q_ol] at hf
    cases hf
    exact kx
  | succ j ih =>
    intro i Z hc tr hi hz hf
    refine xs_iload C0 d_Md_outcome_34 4 rfl ?_
    refine xs_if_ne (tgt := 83) C0 d_Md_outcome_36 (by decide) (fun c9 => absurd rfl c9) (fun _ => ?_)
    refine xs_iload C0 d_Md_outcome_39 5 rfl ?_
    refine xs_iload C0 d_Md_outcome_41 2 rfl ?_
    refine xs_icmp_gt (tgt := 83) C0 d_Md_outcome_43 (by decide) (fun c9 => absurd c9 (nI_nlt (by omega) (by omega))) (fun _ => ?_)
    refine xs_aload_n C0 d_Md_outcome_46 rfl 0 rfl ?_
    obtain ⟨⟨X9, Y9, Z9, W9⟩, H9⟩ : ∃ q, m_wc ((f0, g0, n0), (f1, g1, n1), (f2, g2, n2), (f3, g3, n3), (f4, g4, n4), pl, dr, ki, ow) rl cl sl Z hc tr = q := ⟨_, rfl⟩
    skip
    have hzZ_2 : z01 Y9 := by have h8 := z01_wc (B := ((f0, g0, n0), (f1, g1, n1), (f2, g2, n2), (f3, g3, n3), (f4, g4, n4), pl, dr, ki, ow)) (rl := rl) (cl := cl) (sl := sl) (hc := hc) (tr := tr) hz; rw [H9] at h8; exact h8
    refine xs_cV1 (ω' := (wd Q0 Q1 Q2 Q3 Q4 ql qr qk qo QS QT QF QH qt ++ (wM (f0, g0, nI n0) (f1, g1, nI n1) (f2, g2, nI n2) (f3, g3, nI n3) (f4, g4, nI n4) pl dr ki rl Y9 cl Z9 sl tk kp pa W9 co ++ rest))) (As := []) (st := []) (kc' := 0) (ks' := 0) (v := .int X9) C0 d_Md_outcome_47 l_Md_200 rfl rfl (d_wc (B := ((f0, g0, n0), (f1, g1, n1), (f2, g2, n2), (f3, g3, n3), (f4, g4, n4), pl, dr, ki, ow)) hM hz H9) rfl rfl rfl (Nat.le_of_ble_eq_true rfl) (Nat.le_of_ble_eq_true rfl) (Nat.le_of_ble_eq_true rfl) (Nat.le_of_ble_eq_true rfl) (Nat.le_of_ble_eq_true rfl) (Nat.le_of_ble_eq_true rfl) ?_
    refine xs_if_ne (tgt := 57) C0 d_Md_outcome_50 (by decide) (fun c1 => ?_) (fun c1 => ?_)
    · refine xs_iconst (v := 0) C0 d_Md_outcome_57 (by decide) ?_
      refine xs_istore (lv' := [(6, .int 0), (0, .ref 36), (1, .int (nI x)), (4, .int (nI m)), (5, .int wa), (7, .int (nI i))]) C0 d_Md_outcome_58 (by decide) rfl ?_
      refine xs_iload C0 d_Md_outcome_60 0 rfl ?_
      refine xs_if_ne (tgt := 77) C0 d_Md_outcome_62 (by decide) (fun c9 => absurd rfl c9) (fun _ => ?_)
      refine xs_iload C0 d_Md_outcome_65 5 rfl ?_
      refine xs_iload C0 d_Md_outcome_67 3 rfl ?_
      refine xs_icmp_ge (tgt := 77) C0 d_Md_outcome_69 (by decide) (fun c2 => ?_) (fun c2 => ?_)
      · refine xs_iinc (v := nI (i + 1)) (lv' := [(7, .int (nI (i + 1))), (6, .int 0), (0, .ref 36), (1, .int (nI x)), (4, .int (nI m)), (5, .int wa)]) C0 d_Md_outcome_77 5 rfl (by rw [← nI_1]; rfl) (by decide) rfl ?_
        refine xs_goto (tgt := 34) C0 d_Md_outcome_80 (by decide) ?_
        refine xs_iload C0 d_Md_outcome_34 1 rfl ?_
        refine xs_if_ne (tgt := 83) C0 d_Md_outcome_36 (by decide) (fun c9 => absurd rfl c9) (fun _ => ?_)
        refine xs_iload C0 d_Md_outcome_39 0 rfl ?_
        refine xs_iload C0 d_Md_outcome_41 4 rfl ?_
        refine xs_icmp_gt (tgt := 83) C0 d_Md_outcome_43 (by decide) (fun _ => ?_) (fun c9 => absurd (nI_lt (by have h8 := (nI_leI (by omega) (by omega)).mp c2; omega) (by omega)) c9)
        refine xs_iload C0 d_Md_outcome_83 1 rfl ?_
        refine xs_if_eq (tgt := 109) C0 d_Md_outcome_85 (by decide) (fun _ => ?_) (fun c9 => absurd rfl c9)
        refine xs_iconst (v := (-1)) C0 d_Md_outcome_109 (by decide) ?_
        refine xs_lv (lv' := [(0, .ref 36), (1, .int (nI x)), (5, .int wa)]) [2, 3, 5] rfl ?_
        have hj9 : j = 0 := by have h8 := (nI_leI (by omega) (by omega)).mp c2; omega
        rw [q_ol, H9] at hf
        dsimp only at hf
        rw [if_neg c1, if_pos hj9] at hf
        cases hf
        exact kx
      · refine xs_aload_n C0 d_Md_outcome_72 rfl 1 rfl ?_
        have hj9 : ¬ j = 0 := fun h8 => c2 (nI_le (by omega) (by omega))
        rw [q_ol, H9] at hf
        dsimp only at hf
        rw [if_neg c1, if_neg hj9] at hf
        obtain ⟨⟨b7, Z7, hc7⟩, H7⟩ : ∃ q, m_t1 ((f0, g0, n0), (f1, g1, n1), (f2, g2, n2), (f3, g3, n3), (f4, g4, n4), pl, dr, ki, ow) rl cl sl Y9 Z9 = q := ⟨_, rfl⟩
        have hz7 : z01 Z7 := by have h8 := z01_t1 (B := ((f0, g0, n0), (f1, g1, n1), (f2, g2, n2), (f3, g3, n3), (f4, g4, n4), pl, dr, ki, ow)) (rl := rl) (cl := cl) (sl := sl) (Z := Y9) (hc := Z9); rw [H7] at h8; exact h8
        rw [H7] at hf
        refine xs_cV1 (ω' := (wd Q0 Q1 Q2 Q3 Q4 ql qr qk qo QS QT QF QH qt ++ (wM (f0, g0, nI n0) (f1, g1, nI n1) (f2, g2, nI n2) (f3, g3, nI n3) (f4, g4, nI n4) pl dr ki rl Z7 cl hc7 sl tk kp pa W9 co ++ rest))) (As := []) (st := []) (kc' := 0) (ks' := 0) (v := .int b7) C0 d_Md_outcome_73 l_Md_177 rfl rfl (d_t1 (B := ((f0, g0, n0), (f1, g1, n1), (f2, g2, n2), (f3, g3, n3), (f4, g4, n4), pl, dr, ki, ow)) hM H7) rfl rfl rfl (Nat.le_of_ble_eq_true rfl) (Nat.le_of_ble_eq_true rfl) (Nat.le_of_ble_eq_true rfl) (Nat.le_of_ble_eq_true rfl) (Nat.le_of_ble_eq_true rfl) (Nat.le_of_ble_eq_true rfl) ?_
        refine xs_pop C0 d_Md_outcome_76 rfl ?_
        refine xs_iinc (v := nI (i + 1)) (lv' := [(7, .int (nI (i + 1))), (6, .int 0), (0, .ref 36), (1, .int (nI x)), (4, .int (nI m)), (5, .int wa)]) C0 d_Md_outcome_77 5 rfl (by rw [← nI_1]; rfl) (by decide) rfl ?_
        refine xs_goto (tgt := 34) C0 d_Md_outcome_80 (by decide) ?_
        refine xs_lv (lv' := [(0, .ref 36), (1, .int (nI x)), (4, .int (nI m)), (5, .int wa), (6, .int 0), (7, .int (nI (i + 1)))]) [2, 3, 4, 5, 1, 0] rfl ?_
        exact ih (i + 1) _ _ _ (by omega) hz7 hf
    · refine xs_iconst (v := 1) C0 d_Md_outcome_53 (by decide) ?_
      refine xs_goto (tgt := 58) C0 d_Md_outcome_54 (by decide) ?_
      refine xs_istore (lv' := [(6, .int 1), (0, .ref 36), (1, .int (nI x)), (4, .int (nI m)), (5, .int wa), (7, .int (nI i))]) C0 d_Md_outcome_58 (by decide) rfl ?_
      refine xs_iload C0 d_Md_outcome_60 0 rfl ?_
      refine xs_if_ne (tgt := 77) C0 d_Md_outcome_62 (by decide) (fun _ => ?_) (fun c9 => absurd c9 (by decide))
      refine xs_iinc (v := nI (i + 1)) (lv' := [(7, .int (nI (i + 1))), (6, .int 1), (0, .ref 36), (1, .int (nI x)), (4, .int (nI m)), (5, .int wa)]) C0 d_Md_outcome_77 5 rfl (by rw [← nI_1]; rfl) (by decide) rfl ?_
      refine xs_goto (tgt := 34) C0 d_Md_outcome_80 (by decide) ?_
      refine xs_iload C0 d_Md_outcome_34 1 rfl ?_
      refine xs_if_ne (tgt := 83) C0 d_Md_outcome_36 (by decide) (fun _ => ?_) (fun c9 => absurd c9 (by decide))
      refine xs_iload C0 d_Md_outcome_83 1 rfl ?_
      refine xs_if_eq (tgt := 109) C0 d_Md_outcome_85 (by decide) (fun c9 => absurd c9 (by decide)) (fun _ => ?_)
      refine xs_aload_n C0 d_Md_outcome_88 rfl 2 rfl ?_
      obtain ⟨ms_5, mc_5, mw_5, mb_5⟩ := Y9
      refine xs_cV1 (ω' := (wd Q0 Q1 Q2 Q3 Q4 ql qr qk qo QS QT QF QH qt ++ (wM (f0, g0, nI n0) (f1, g1, nI n1) (f2, g2, nI n2) (f3, g3, nI n3) (f4, g4, nI n4) pl dr ki rl (ms_5, mc_5, mw_5, mb_5) cl Z9 sl tk kp pa W9 co ++ rest))) (As := []) (st := []) (kc' := 0) (ks' := 0) (v := .int (m_up ms_5 n0)) C0 d_Md_outcome_89 l_Md_203 rfl rfl (d_up h0) rfl rfl rfl (Nat.le_of_ble_eq_true rfl) (Nat.le_of_ble_eq_true rfl) (Nat.le_of_ble_eq_true rfl) (Nat.le_of_ble_eq_true rfl) (Nat.le_of_ble_eq_true rfl) (Nat.le_of_ble_eq_true rfl) ?_
      refine xs_aload_n C0 d_Md_outcome_92 rfl 2 rfl ?_
      refine xs_get (q := 36) (v := .int mb_5) C0 f_Md_137 d_Md_outcome_93 rfl rfl ?_
      refine xs_if_eq (tgt := 104) C0 d_Md_outcome_96 (by decide) (fun c3 => ?_) (fun c3 => ?_)
      · refine xs_iconst (v := 0) C0 d_Md_outcome_104 (by decide) ?_
        refine xs_ior C0 d_Md_outcome_105 ?_
        refine xs_top (v' := .int (m_up ms_5 n0 ||| (if mb_5 = 0 then 0 else 65536))) (by rw [if_pos c3]) ?_
        refine xs_goto (tgt := 110) C0 d_Md_outcome_106 (by decide) ?_
        refine xs_lv (lv' := [(0, .ref 36), (1, .int (nI x)), (5, .int wa)]) [2, 3, 5] rfl ?_
        rw [q_ol, H9] at hf
        dsimp only at hf
        rw [if_pos c1] at hf
        cases hf
        exact kx
      · refine xs_ldc (v := 65536) C0 d_Md_outcome_99 k_886 ?_
        refine xs_goto (tgt := 105) C0 d_Md_outcome_101 (by decide) ?_
        refine xs_ior C0 d_Md_outcome_105 ?_
        refine xs_top (v' := .int (m_up ms_5 n0 ||| (if mb_5 = 0 then 0 else 65536))) (by rw [if_neg c3]) ?_
        refine xs_goto (tgt := 110) C0 d_Md_outcome_106 (by decide) ?_
        refine xs_lv (lv' := [(0, .ref 36), (1, .int (nI x)), (5, .int wa)]) [2, 3, 5] rfl ?_
        rw [q_ol, H9] at hf
        dsimp only at hf
        rw [if_pos c1] at hf
        cases hf
        exact kx
set_option maxHeartbeats 4000000 in
set_option maxRecDepth 100000 in
theorem d_out {Q0 Q1 Q2 Q3 Q4 : wt_P} {ql qr qk qo : Nat → Int32} {QS QT : wt_S} {QF : wt_F} {QH : wt_H} {qt : Int32} {B : wb} {rl : Nat → Int32} {Z : mt_S} {cl : Nat → Int32} {hc : mt_H} {sl tk : Int32} {kp : mt_K} {pa : Nat → Int32} {tr : mt_T} {co : Int32} {rest : xm_O} {x m : Nat} {z se v : Int32} {Z1 : mt_S} {hc1 : mt_H} {tr1 : mt_T} (hM : okM B rl) (hx : x < 12) (hzz : z = 0 ∨ z = 1) (hk9 : kp.2.2.2.1 = 0 ∨ kp.2.2.2.1 = 1) (hcl : c01 cl) (hm : m ≤ 100) (hf : q_out B rl cl kp x z se m Z hc tr = (v, Z1, hc1, tr1)) : xm_M y_Md_outcome (Cond.code y_Md_outcome b_Md_outcome 9 (some .int)) (xm_rm 6 0 0) [.ref 36, .int (nI x), .int z, .int se, .int (nI m)] (wd Q0 Q1 Q2 Q3 Q4 ql qr qk qo QS QT QF QH qt ++ (wMB B rl Z cl hc sl tk kp pa tr co ++ rest)) (xm_eq (.inl (some (.int v))) (wd Q0 Q1 Q2 Q3 Q4 ql qr qk qo QS QT QF QH qt ++ (wMB B rl Z1 cl hc1 0 kp.2.2.2.2 kp pa tr1 co ++ rest))) := by
  obtain ⟨⟨f0, g0, n0⟩, ⟨f1, g1, n1⟩, ⟨f2, g2, n2⟩, ⟨f3, g3, n3⟩, ⟨f4, g4, n4⟩, pl, dr, ki, ow⟩ := B
  have hB := hM.1
  have hrl := hM.2
  obtain ⟨⟨h0, hp0⟩, ⟨h1, hp1⟩, ⟨h2, hp2⟩, ⟨h3, hp3⟩, ⟨h4, hp4⟩, hk⟩ := id hB
  dsimp only at h0 h1 h2 h3 h4 hp0 hp1 hp2 hp3 hp4 hk hrl
  refine xm_of (by decide) (Nat.le_of_ble_eq_true rfl) (fun E C0 => ?_)
  refine xs_eq (ω' := (wd Q0 Q1 Q2 Q3 Q4 ql qr qk qo QS QT QF QH qt ++ (wM (f0, g0, nI n0) (f1, g1, nI n1) (f2, g2, nI n2) (f3, g3, nI n3) (f4, g4, nI n4) pl dr ki rl Z cl hc sl tk kp pa tr co ++ rest))) (lv' := [(0, .ref 36), (1, .int (nI x)), (2, .int z), (3, .int se), (4, .int (nI m))]) rfl rfl rfl ?_
  refine xs_aload_n C0 d_Md_outcome_0 rfl 0 rfl ?_
  obtain ⟨ms_1, mc_1, mw_1, mb_1⟩ := Z
  obtain ⟨ks_2, kc_2, kw_2, kb_2, kt_2⟩ := kp
  refine xs_cV0 (ω' := (wd Q0 Q1 Q2 Q3 Q4 ql qr qk qo QS QT QF QH qt ++ (wM (f0, g0, nI n0) (f1, g1, nI n1) (f2, g2, nI n2) (f3, g3, nI n3) (f4, g4, nI n4) pl dr ki rl (cpn 16 ks_2 ms_1, cpn 16 kc_2 mc_1, cpn 16 kw_2 mw_1, kb_2) cl hc sl kt_2 (ks_2, kc_2, kw_2, kb_2, kt_2) pa tr co ++ rest))) (As := []) (st := []) (kc' := 0) (ks' := 0) C0 d_Md_outcome_1 l_Md_187 rfl rfl (d_lb hk9) rfl rfl rfl (Nat.le_of_ble_eq_true rfl) (Nat.le_of_ble_eq_true rfl) (Nat.le_of_ble_eq_true rfl) (Nat.le_of_ble_eq_true rfl) (Nat.le_of_ble_eq_true rfl) (Nat.le_of_ble_eq_true rfl) ?_
  refine xs_aload_n C0 d_Md_outcome_4 rfl 0 rfl ?_
  refine xs_get (q := 36) (v := .ref 50) C0 f_Md_49 d_Md_outcome_5 rfl rfl ?_
  refine xs_iload_n C0 d_Md_outcome_8 rfl 1 rfl ?_
  refine xs_zald C0 d_Md_outcome_9 rfl (vp_in_nI hx (by decide)) ?_
  refine xs_top (v' := .int (cl x)) (by rw [nI_clamp (by omega)]) ?_
  refine xs_istore (lv' := [(5, .int (cl x)), (0, .ref 36), (1, .int (nI x)), (2, .int z), (3, .int se), (4, .int (nI m))]) C0 d_Md_outcome_10 (by decide) rfl ?_
  refine xs_aload_n C0 d_Md_outcome_12 rfl 1 rfl ?_
  refine xs_get (q := 36) (v := .ref 50) C0 f_Md_49 d_Md_outcome_13 rfl rfl ?_
  refine xs_iload_n C0 d_Md_outcome_16 rfl 2 rfl ?_
  refine xs_iload_n C0 d_Md_outcome_17 rfl 3 rfl ?_
  refine xs_zast (ω' := (wd Q0 Q1 Q2 Q3 Q4 ql qr qk qo QS QT QF QH qt ++ (wM (f0, g0, nI n0) (f1, g1, nI n1) (f2, g2, nI n2) (f3, g3, nI n3) (f4, g4, nI n4) pl dr ki rl (cpn 16 ks_2 ms_1, cpn 16 kc_2 mc_1, cpn 16 kw_2 mw_1, kb_2) (upd cl (nI x).toNatClampNeg (vp_nar .boolean z)) hc sl kt_2 (ks_2, kc_2, kw_2, kb_2, kt_2) pa tr co ++ rest))) C0 d_Md_outcome_18 rfl (vp_in_nI hx (by decide)) rfl ?_
  refine xs_world (ω' := (wd Q0 Q1 Q2 Q3 Q4 ql qr qk qo QS QT QF QH qt ++ (wM (f0, g0, nI n0) (f1, g1, nI n1) (f2, g2, nI n2) (f3, g3, nI n3) (f4, g4, nI n4) pl dr ki rl (cpn 16 ks_2 ms_1, cpn 16 kc_2 mc_1, cpn 16 kw_2 mw_1, kb_2) (upd cl x (vp_nar .boolean z)) hc sl kt_2 (ks_2, kc_2, kw_2, kb_2, kt_2) pa tr co ++ rest))) (by rw [nI_clamp (by omega)]) ?_
  refine xs_pc (pc' := 19) rfl ?_
  refine xs_world (ω' := (wd Q0 Q1 Q2 Q3 Q4 ql qr qk qo QS QT QF QH qt ++ (wM (f0, g0, nI n0) (f1, g1, nI n1) (f2, g2, nI n2) (f3, g3, nI n3) (f4, g4, nI n4) pl dr ki rl (cpn 16 ks_2 ms_1, cpn 16 kc_2 mc_1, cpn 16 kw_2 mw_1, kb_2) (upd cl x z) hc sl kt_2 (ks_2, kc_2, kw_2, kb_2, kt_2) pa tr co ++ rest))) (by rw [vp_nar01 hzz]) ?_
  refine xs_aload_n C0 d_Md_outcome_19 rfl 1 rfl ?_
  obtain ⟨Z_3, hc_4, hZ_3⟩ : ∃ X Y, m_laf ((f0, g0, n0), (f1, g1, n1), (f2, g2, n2), (f3, g3, n3), (f4, g4, n4), pl, dr, ki, ow) rl (upd cl x z) (cpn 16 ks_2 ms_1, cpn 16 kc_2 mc_1, cpn 16 kw_2 mw_1, kb_2) hc = (X, Y) := ⟨_, _, rfl⟩
  refine xs_cV0 (ω' := (wd Q0 Q1 Q2 Q3 Q4 ql qr qk qo QS QT QF QH qt ++ (wM (f0, g0, nI n0) (f1, g1, nI n1) (f2, g2, nI n2) (f3, g3, nI n3) (f4, g4, nI n4) pl dr ki rl Z_3 (upd cl x z) hc_4 sl kt_2 (ks_2, kc_2, kw_2, kb_2, kt_2) pa tr co ++ rest))) (As := []) (st := []) (kc' := 0) (ks' := 0) C0 d_Md_outcome_20 l_Md_111 rfl rfl (d_laf (B := ((f0, g0, n0), (f1, g1, n1), (f2, g2, n2), (f3, g3, n3), (f4, g4, n4), pl, dr, ki, ow)) hM hZ_3) rfl rfl rfl (Nat.le_of_ble_eq_true rfl) (Nat.le_of_ble_eq_true rfl) (Nat.le_of_ble_eq_true rfl) (Nat.le_of_ble_eq_true rfl) (Nat.le_of_ble_eq_true rfl) (Nat.le_of_ble_eq_true rfl) ?_
  refine xs_aload_n C0 d_Md_outcome_23 rfl 1 rfl ?_
  refine xs_iload_n C0 d_Md_outcome_24 rfl 4 rfl ?_
  refine xs_put (ω' := (wd Q0 Q1 Q2 Q3 Q4 ql qr qk qo QS QT QF QH qt ++ (wM (f0, g0, nI n0) (f1, g1, nI n1) (f2, g2, nI n2) (f3, g3, nI n3) (f4, g4, nI n4) pl dr ki rl Z_3 (upd cl x z) hc_4 se kt_2 (ks_2, kc_2, kw_2, kb_2, kt_2) pa tr co ++ rest))) C0 f_Md_144 ty_Md_26 d_Md_outcome_25 rfl (Nat.le_of_ble_eq_true rfl) (fun _ => ⟨rfl, rfl⟩) rfl ?_
  refine xs_iconst (v := 0) C0 d_Md_outcome_28 (by decide) ?_
  refine xs_istore (lv' := [(6, .int 0), (5, .int (cl x)), (0, .ref 36), (1, .int (nI x)), (2, .int z), (3, .int se), (4, .int (nI m))]) C0 d_Md_outcome_29 (by decide) rfl ?_
  refine xs_iconst (v := 0) C0 d_Md_outcome_31 (by decide) ?_
  refine xs_istore (lv' := [(7, .int 0), (6, .int 0), (5, .int (cl x)), (0, .ref 36), (1, .int (nI x)), (2, .int z), (3, .int se), (4, .int (nI m))]) C0 d_Md_outcome_32 (by decide) rfl ?_
  refine xs_lv (lv' := [(0, .ref 36), (1, .int (nI x)), (4, .int (nI m)), (5, .int (cl x)), (6, .int 0), (7, .int 0)]) [3, 4, 7, 2, 1, 0] rfl ?_
  have hz9 := z01_laf (B := ((f0, g0, n0), (f1, g1, n1), (f2, g2, n2), (f3, g3, n3), (f4, g4, n4), pl, dr, ki, ow)) (rl := rl) (cl := upd cl x z) (Z := (cpn 16 ks_2 ms_1, cpn 16 kc_2 mc_1, cpn 16 kw_2 mw_1, kb_2)) (hc := hc)
  rw [hZ_3] at hz9
  rw [q_out] at hf
  rw [show m_laf ((f0, g0, n0), (f1, g1, n1), (f2, g2, n2), (f3, g3, n3), (f4, g4, n4), pl, dr, ki, ow) rl (upd cl x z) (m_back (ks_2, kc_2, kw_2, kb_2, kt_2) (ms_1, mc_1, mw_1, mb_1)) hc = _ from hZ_3] at hf
  refine lp_ol (ow := ow) (Z1 := Z1) C0 hM h0 hm ?_ (m + 1) 0 _ _ _ (by omega) hz9 hf
  refine xs_istore (lv' := [(8, .int v), (0, .ref 36), (1, .int (nI x)), (5, .int (cl x))]) C0 d_Md_outcome_110 (by decide) rfl ?_
  refine xs_aload_n C0 d_Md_outcome_112 rfl 1 rfl ?_
  refine xs_iconst (v := 0) C0 d_Md_outcome_113 (by decide) ?_
  refine xs_put (ω' := (wd Q0 Q1 Q2 Q3 Q4 ql qr qk qo QS QT QF QH qt ++ (wM (f0, g0, nI n0) (f1, g1, nI n1) (f2, g2, nI n2) (f3, g3, nI n3) (f4, g4, nI n4) pl dr ki rl Z1 (upd cl x z) hc1 0 kt_2 (ks_2, kc_2, kw_2, kb_2, kt_2) pa tr1 co ++ rest))) C0 f_Md_144 ty_Md_26 d_Md_outcome_114 rfl (Nat.le_of_ble_eq_true rfl) (fun _ => ⟨rfl, rfl⟩) rfl ?_
  refine xs_aload_n C0 d_Md_outcome_117 rfl 1 rfl ?_
  refine xs_get (q := 36) (v := .ref 50) C0 f_Md_49 d_Md_outcome_118 rfl rfl ?_
  refine xs_iload_n C0 d_Md_outcome_121 rfl 2 rfl ?_
  refine xs_iload C0 d_Md_outcome_122 3 rfl ?_
  refine xs_zast (ω' := (wd Q0 Q1 Q2 Q3 Q4 ql qr qk qo QS QT QF QH qt ++ (wM (f0, g0, nI n0) (f1, g1, nI n1) (f2, g2, nI n2) (f3, g3, nI n3) (f4, g4, nI n4) pl dr ki rl Z1 (upd (upd cl x z) (nI x).toNatClampNeg (vp_nar .boolean (cl x))) hc1 0 kt_2 (ks_2, kc_2, kw_2, kb_2, kt_2) pa tr1 co ++ rest))) C0 d_Md_outcome_124 rfl (vp_in_nI hx (by decide)) rfl ?_
  refine xs_world (ω' := (wd Q0 Q1 Q2 Q3 Q4 ql qr qk qo QS QT QF QH qt ++ (wM (f0, g0, nI n0) (f1, g1, nI n1) (f2, g2, nI n2) (f3, g3, nI n3) (f4, g4, nI n4) pl dr ki rl Z1 (upd (upd cl x z) x (vp_nar .boolean (cl x))) hc1 0 kt_2 (ks_2, kc_2, kw_2, kb_2, kt_2) pa tr1 co ++ rest))) (by rw [nI_clamp (by omega)]) ?_
  refine xs_world (ω' := (wd Q0 Q1 Q2 Q3 Q4 ql qr qk qo QS QT QF QH qt ++ (wM (f0, g0, nI n0) (f1, g1, nI n1) (f2, g2, nI n2) (f3, g3, nI n3) (f4, g4, nI n4) pl dr ki rl Z1 cl hc1 0 kt_2 (ks_2, kc_2, kw_2, kb_2, kt_2) pa tr1 co ++ rest))) (by rw [vp_nar01 (hcl x hx), upd_back]) ?_
  refine xs_iload C0 d_Md_outcome_125 0 rfl ?_
  exact xs_iret C0 d_Md_outcome_127 (⟨rfl, rfl⟩) (Nat.le_of_ble_eq_true rfl) (Nat.le_of_ble_eq_true rfl)
set_option maxHeartbeats 4000000 in
set_option maxRecDepth 100000 in
theorem lp_qrace {Q0 Q1 Q2 Q3 Q4 : wt_P} {ql qr qk qo : Nat → Int32} {QS QT : wt_S} {QF : wt_F} {QH : wt_H} {qt : Int32} {f0 g0 f1 g1 f2 g2 f3 g3 f4 g4 : Nat → Int32} {n0 n1 n2 n3 n4 : Nat} {pl dr ki ow rl : Nat → Int32} {cl : Nat → Int32} {tk : Int32} {ks kc kw : Nat → Int32} {kb : Int32} {pa : Nat → Int32} {co : Int32} {rest : xm_O} {x m : Nat} {z no r : Int32} {Z1 : mt_S} {hc1 : mt_H} {tr1 : mt_T} {E : xm_X} {Q : State → Prop} (C0 : xm_C E y_Md_race.cls b_Md_race 8 (some .int) [] y_Md_race.name (xm_rm 7 0 0)) (hM : okM ((f0, g0, n0), (f1, g1, n1), (f2, g2, n2), (f3, g3, n3), (f4, g4, n4), pl, dr, ki, ow) rl) (hx : x < 12) (hzz : z = 0 ∨ z = 1) (hk9 : kb = 0 ∨ kb = 1) (hcl : c01 cl) (hm : m ≤ 100) (kx : xm_W E 8 Q 0 0 (wd Q0 Q1 Q2 Q3 Q4 ql qr qk qo QS QT QF QH qt ++ (wM (f0, g0, nI n0) (f1, g1, nI n1) (f2, g2, nI n2) (f3, g3, nI n3) (f4, g4, nI n4) pl dr ki rl Z1 cl hc1 0 tk (ks, kc, kw, kb, tk) pa tr1 co ++ rest)) 116 [(0, .ref 36), (6, .int r)] []) : ∀ j : Nat, ∀ (f : Int32) (Z : mt_S) (hc : mt_H) (tr : mt_T), j ≤ 63 → q_race ((f0, g0, n0), (f1, g1, n1), (f2, g2, n2), (f3, g3, n3), (f4, g4, n4), pl, dr, ki, ow) rl cl (ks, kc, kw, kb, tk) x z m no j f Z hc tr = (r, Z1, hc1, tr1) → xm_W E 8 Q 0 0 (wd Q0 Q1 Q2 Q3 Q4 ql qr qk qo QS QT QF QH qt ++ (wM (f0, g0, nI n0) (f1, g1, nI n1) (f2, g2, nI n2) (f3, g3, nI n3) (f4, g4, nI n4) pl dr ki rl Z cl hc 0 tk (ks, kc, kw, kb, tk) pa tr co ++ rest)) 86 [(0, .ref 36), (1, .int (nI x)), (2, .int z), (4, .int (nI m)), (5, .int no), (6, .int f), (7, .int (nI j))] [] := by
  intro j
  induction j with
  | zero =>
    intro f Z hc tr hi hf
    refine xs_iload C0 d_Md_race_86 6 rfl ?_
    refine xs_if_le (tgt := 116) C0 d_Md_race_88 (by decide) (fun _ => ?_) (fun c9 => absurd (by decide) c9)
    refine xs_lv (lv' := [(0, .ref 36), (6, .int f)]) [0, 5] rfl ?_
    rw [q_race] at hf
    cases hf
    exact kx
  | succ j ih =>
    intro f Z hc tr hi hf
    refine xs_iload C0 d_Md_race_86 6 rfl ?_
    refine xs_if_le (tgt := 116) C0 d_Md_race_88 (by decide) (fun c9 => absurd c9 (nI_nle (by omega) (by omega))) (fun _ => ?_)
    refine xs_aload_n C0 d_Md_race_91 rfl 0 rfl ?_
    refine xs_iload_n C0 d_Md_race_92 rfl 1 rfl ?_
    refine xs_iload_n C0 d_Md_race_93 rfl 2 rfl ?_
    refine xs_iload C0 d_Md_race_94 6 rfl ?_
    refine xs_iload C0 d_Md_race_96 3 rfl ?_
    obtain ⟨⟨v8, Z8, hc8, tr8⟩, H8⟩ : ∃ q, q_out ((f0, g0, n0), (f1, g1, n1), (f2, g2, n2), (f3, g3, n3), (f4, g4, n4), pl, dr, ki, ow) rl cl (ks, kc, kw, kb, tk) x z (nI (j + 1)) m Z hc tr = q := ⟨_, rfl⟩
    rw [q_race, H8] at hf
    dsimp only at hf
    refine xs_cV1 (ω' := (wd Q0 Q1 Q2 Q3 Q4 ql qr qk qo QS QT QF QH qt ++ (wM (f0, g0, nI n0) (f1, g1, nI n1) (f2, g2, nI n2) (f3, g3, nI n3) (f4, g4, nI n4) pl dr ki rl Z8 cl hc8 0 tk (ks, kc, kw, kb, tk) pa tr8 co ++ rest))) (As := [.int (nI x), .int z, .int (nI (j + 1)), .int (nI m)]) (st := []) (kc' := 0) (ks' := 0) (v := .int v8) C0 d_Md_race_98 l_Md_208 rfl rfl (d_out (B := ((f0, g0, n0), (f1, g1, n1), (f2, g2, n2), (f3, g3, n3), (f4, g4, n4), pl, dr, ki, ow)) hM hx hzz hk9 hcl hm H8) rfl rfl rfl (Nat.le_of_ble_eq_true rfl) (Nat.le_of_ble_eq_true rfl) (Nat.le_of_ble_eq_true rfl) (Nat.le_of_ble_eq_true rfl) (Nat.le_of_ble_eq_true rfl) (Nat.le_of_ble_eq_true rfl) ?_
    refine xs_iload C0 d_Md_race_101 4 rfl ?_
    refine xs_icmp_eq (tgt := 110) C0 d_Md_race_103 (by decide) (fun c1 => ?_) (fun c1 => ?_)
    · rw [if_pos c1] at hf
      refine xs_iinc (v := nI j) (lv' := [(7, .int (nI j)), (0, .ref 36), (1, .int (nI x)), (2, .int z), (4, .int (nI m)), (5, .int no), (6, .int f)]) C0 d_Md_race_110 6 rfl (by rw [← nI_pred j, Int32.sub_eq_add_neg]; rfl) (by decide) rfl ?_
      refine xs_goto (tgt := 86) C0 d_Md_race_113 (by decide) ?_
      refine xs_lv (lv' := [(0, .ref 36), (1, .int (nI x)), (2, .int z), (4, .int (nI m)), (5, .int no), (6, .int f), (7, .int (nI j))]) [1, 2, 3, 4, 5, 6, 0] rfl ?_
      exact ih _ _ _ _ (by omega) hf
    · rw [if_neg c1] at hf
      refine xs_iload C0 d_Md_race_106 6 rfl ?_
      refine xs_istore (lv' := [(6, .int (nI (j + 1))), (0, .ref 36), (1, .int (nI x)), (2, .int z), (4, .int (nI m)), (5, .int no), (7, .int (nI (j + 1)))]) C0 d_Md_race_108 (by decide) rfl ?_
      refine xs_iinc (v := nI j) (lv' := [(7, .int (nI j)), (6, .int (nI (j + 1))), (0, .ref 36), (1, .int (nI x)), (2, .int z), (4, .int (nI m)), (5, .int no)]) C0 d_Md_race_110 6 rfl (by rw [← nI_pred j, Int32.sub_eq_add_neg]; rfl) (by decide) rfl ?_
      refine xs_goto (tgt := 86) C0 d_Md_race_113 (by decide) ?_
      refine xs_lv (lv' := [(0, .ref 36), (1, .int (nI x)), (2, .int z), (4, .int (nI m)), (5, .int no), (6, .int (nI (j + 1))), (7, .int (nI j))]) [2, 3, 4, 5, 6, 1, 0] rfl ?_
      exact ih _ _ _ _ (by omega) hf
set_option maxHeartbeats 4000000 in
set_option maxRecDepth 100000 in
theorem d_race {Q0 Q1 Q2 Q3 Q4 : wt_P} {ql qr qk qo : Nat → Int32} {QS QT : wt_S} {QF : wt_F} {QH : wt_H} {qt : Int32} {B : wb} {rl : Nat → Int32} {Z : mt_S} {cl : Nat → Int32} {hc : mt_H} {sl tk : Int32} {kp : mt_K} {pa : Nat → Int32} {tr : mt_T} {co : Int32} {rest : xm_O} {x n m : Nat} {z no r : Int32} {Z0 Z1 : mt_S} {hc0 hc1 : mt_H} {tr0 tr1 : mt_T} (hM : okM B rl) (hx : x < 12) (hn : n ≤ 6) (hm : m ≤ 100) (hzz : z = 0 ∨ z = 1) (hz : z01 Z) (hcl : c01 cl) (ha : gw (nI x) 0 (nI B.2.2.1.2.2 - 1)) (hb : gw (nI n) 0 6) (hc9 : n ≤ B.1.2.2) (hd : gw (nI m) 1 100) (hf0 : q_out B rl cl (m_keep Z tk kp) x z 0 m Z hc tr = (no, Z0, hc0, tr0)) (hf : q_race B rl cl (m_keep Z tk kp) x z m no (2 ^ n - 1) (-1) Z0 hc0 tr0 = (r, Z1, hc1, tr1)) : xm_M y_Md_race (Cond.code y_Md_race b_Md_race 8 (some .int)) (xm_rm 7 0 0) [.ref 36, .int (nI x), .int z, .int (nI n), .int (nI m)] (wd Q0 Q1 Q2 Q3 Q4 ql qr qk qo QS QT QF QH qt ++ (wMB B rl Z cl hc sl tk kp pa tr co ++ rest)) (xm_eq (.inl (some (.int r))) (wd Q0 Q1 Q2 Q3 Q4 ql qr qk qo QS QT QF QH qt ++ (wMB B rl (m_back (m_keep Z tk kp) Z1) cl hc1 0 tk (m_keep Z tk kp) pa tr1 0 ++ rest))) := by
  obtain ⟨⟨f0, g0, n0⟩, ⟨f1, g1, n1⟩, ⟨f2, g2, n2⟩, ⟨f3, g3, n3⟩, ⟨f4, g4, n4⟩, pl, dr, ki, ow⟩ := B
  have hB := hM.1
  have hrl := hM.2
  obtain ⟨⟨h0, hp0⟩, ⟨h1, hp1⟩, ⟨h2, hp2⟩, ⟨h3, hp3⟩, ⟨h4, hp4⟩, hk⟩ := id hB
  dsimp only at h0 h1 h2 h3 h4 hp0 hp1 hp2 hp3 hp4 hk hrl
  refine xm_of (by decide) (Nat.le_of_ble_eq_true rfl) (fun E C0 => ?_)
  refine xs_eq (ω' := (wd Q0 Q1 Q2 Q3 Q4 ql qr qk qo QS QT QF QH qt ++ (wM (f0, g0, nI n0) (f1, g1, nI n1) (f2, g2, nI n2) (f3, g3, nI n3) (f4, g4, nI n4) pl dr ki rl Z cl hc sl tk kp pa tr co ++ rest))) (lv' := [(0, .ref 36), (1, .int (nI x)), (2, .int z), (3, .int (nI n)), (4, .int (nI m))]) rfl rfl rfl ?_
  refine xs_aload_n C0 d_Md_race_0 rfl 0 rfl ?_
  refine xs_iload_n C0 d_Md_race_1 rfl 1 rfl ?_
  refine xs_iconst (v := 0) C0 d_Md_race_2 (by decide) ?_
  refine xs_aload_n C0 d_Md_race_3 rfl 0 rfl ?_
  refine xs_get (q := 36) (v := .int (nI n2)) C0 f_Md_117 d_Md_race_4 rfl rfl ?_
  refine xs_iconst (v := 1) C0 d_Md_race_7 (by decide) ?_
  refine xs_isub C0 d_Md_race_8 ?_
  refine xs_cS1 (ω' := (wd Q0 Q1 Q2 Q3 Q4 ql qr qk qo QS QT QF QH qt ++ (wM (f0, g0, nI n0) (f1, g1, nI n1) (f2, g2, nI n2) (f3, g3, nI n3) (f4, g4, nI n4) pl dr ki rl Z cl hc sl tk kp pa tr co ++ rest))) (av := [.int (nI x), .int 0, .int ((nI n2) - 1)]) (st := [.ref 36]) (kc' := 0) (ks' := 0) (v := .int 1) C0 d_Md_race_9 l_Md_96 (d_in1 _ (nI x) 0 ((nI n2) - 1) ha) rfl rfl rfl (Nat.le_of_ble_eq_true rfl) (Nat.le_of_ble_eq_true rfl) (Nat.le_of_ble_eq_true rfl) (Nat.le_of_ble_eq_true rfl) (Nat.le_of_ble_eq_true rfl) (Nat.le_of_ble_eq_true rfl) ?_
  refine xs_if_eq (tgt := 48) C0 d_Md_race_12 (by decide) (fun c9 => absurd c9 (by decide)) (fun _ => ?_)
  refine xs_iload_n C0 d_Md_race_15 rfl 3 rfl ?_
  refine xs_iconst (v := 0) C0 d_Md_race_16 (by decide) ?_
  refine xs_bipush (v := 6) C0 d_Md_race_17 (by decide) ?_
  refine xs_pc (pc' := 19) rfl ?_
  refine xs_cS1 (ω' := (wd Q0 Q1 Q2 Q3 Q4 ql qr qk qo QS QT QF QH qt ++ (wM (f0, g0, nI n0) (f1, g1, nI n1) (f2, g2, nI n2) (f3, g3, nI n3) (f4, g4, nI n4) pl dr ki rl Z cl hc sl tk kp pa tr co ++ rest))) (av := [.int (nI n), .int 0, .int 6]) (st := [.ref 36]) (kc' := 0) (ks' := 0) (v := .int 1) C0 d_Md_race_19 l_Md_96 (d_in1 _ (nI n) 0 6 hb) rfl rfl rfl (Nat.le_of_ble_eq_true rfl) (Nat.le_of_ble_eq_true rfl) (Nat.le_of_ble_eq_true rfl) (Nat.le_of_ble_eq_true rfl) (Nat.le_of_ble_eq_true rfl) (Nat.le_of_ble_eq_true rfl) ?_
  refine xs_if_eq (tgt := 48) C0 d_Md_race_22 (by decide) (fun c9 => absurd c9 (by decide)) (fun _ => ?_)
  refine xs_iload_n C0 d_Md_race_25 rfl 3 rfl ?_
  refine xs_aload_n C0 d_Md_race_26 rfl 0 rfl ?_
  refine xs_get (q := 36) (v := .int (nI n0)) C0 f_Md_108 d_Md_race_27 rfl rfl ?_
  refine xs_icmp_gt (tgt := 48) C0 d_Md_race_30 (by decide) (fun c9 => absurd c9 (nI_nlt hc9 (by omega))) (fun _ => ?_)
  refine xs_iload C0 d_Md_race_33 4 rfl ?_
  refine xs_iconst (v := 1) C0 d_Md_race_35 (by decide) ?_
  refine xs_bipush (v := 100) C0 d_Md_race_36 (by decide) ?_
  refine xs_cS1 (ω' := (wd Q0 Q1 Q2 Q3 Q4 ql qr qk qo QS QT QF QH qt ++ (wM (f0, g0, nI n0) (f1, g1, nI n1) (f2, g2, nI n2) (f3, g3, nI n3) (f4, g4, nI n4) pl dr ki rl Z cl hc sl tk kp pa tr co ++ rest))) (av := [.int (nI m), .int 1, .int 100]) (st := [.ref 36]) (kc' := 0) (ks' := 0) (v := .int 1) C0 d_Md_race_38 l_Md_96 (d_in1 _ (nI m) 1 100 hd) rfl rfl rfl (Nat.le_of_ble_eq_true rfl) (Nat.le_of_ble_eq_true rfl) (Nat.le_of_ble_eq_true rfl) (Nat.le_of_ble_eq_true rfl) (Nat.le_of_ble_eq_true rfl) (Nat.le_of_ble_eq_true rfl) ?_
  refine xs_if_eq (tgt := 48) C0 d_Md_race_41 (by decide) (fun c9 => absurd c9 (by decide)) (fun _ => ?_)
  refine xs_iconst (v := 0) C0 d_Md_race_44 (by decide) ?_
  refine xs_pc (pc' := 45) rfl ?_
  refine xs_goto (tgt := 49) C0 d_Md_race_45 (by decide) ?_
  refine xs_put (ω' := (wd Q0 Q1 Q2 Q3 Q4 ql qr qk qo QS QT QF QH qt ++ (wM (f0, g0, nI n0) (f1, g1, nI n1) (f2, g2, nI n2) (f3, g3, nI n3) (f4, g4, nI n4) pl dr ki rl Z cl hc sl tk kp pa tr 0 ++ rest))) C0 f_Md_92 ty_Md_0 d_Md_race_49 rfl (Nat.le_of_ble_eq_true rfl) (fun _ => ⟨rfl, rfl⟩) rfl ?_
  refine xs_aload_n C0 d_Md_race_52 rfl 0 rfl ?_
  refine xs_get (q := 36) (v := .int 0) C0 f_Md_92 d_Md_race_53 rfl rfl ?_
  refine xs_if_le (tgt := 61) C0 d_Md_race_56 (by decide) (fun _ => ?_) (fun c9 => absurd c9 (by decide))
  refine xs_aload_n C0 d_Md_race_61 rfl 0 rfl ?_
  obtain ⟨ms_1, mc_1, mw_1, mb_1⟩ := Z
  obtain ⟨ks_2, kc_2, kw_2, kb_2, kt_2⟩ := kp
  refine xs_cV0 (ω' := (wd Q0 Q1 Q2 Q3 Q4 ql qr qk qo QS QT QF QH qt ++ (wM (f0, g0, nI n0) (f1, g1, nI n1) (f2, g2, nI n2) (f3, g3, nI n3) (f4, g4, nI n4) pl dr ki rl (ms_1, mc_1, mw_1, mb_1) cl hc sl tk (cpn 16 ms_1 ks_2, cpn 16 mc_1 kc_2, cpn 16 mw_1 kw_2, mb_1, tk) pa tr 0 ++ rest))) (As := []) (st := []) (kc' := 0) (ks' := 0) C0 d_Md_race_62 l_Md_181 rfl rfl (d_keep hz) rfl rfl rfl (Nat.le_of_ble_eq_true rfl) (Nat.le_of_ble_eq_true rfl) (Nat.le_of_ble_eq_true rfl) (Nat.le_of_ble_eq_true rfl) (Nat.le_of_ble_eq_true rfl) (Nat.le_of_ble_eq_true rfl) ?_
  refine xs_aload_n C0 d_Md_race_65 rfl 0 rfl ?_
  refine xs_iload_n C0 d_Md_race_66 rfl 1 rfl ?_
  refine xs_iload_n C0 d_Md_race_67 rfl 2 rfl ?_
  refine xs_iconst (v := 0) C0 d_Md_race_68 (by decide) ?_
  refine xs_iload C0 d_Md_race_69 4 rfl ?_
  refine xs_cV1 (ω' := (wd Q0 Q1 Q2 Q3 Q4 ql qr qk qo QS QT QF QH qt ++ (wM (f0, g0, nI n0) (f1, g1, nI n1) (f2, g2, nI n2) (f3, g3, nI n3) (f4, g4, nI n4) pl dr ki rl Z0 cl hc0 0 tk (cpn 16 ms_1 ks_2, cpn 16 mc_1 kc_2, cpn 16 mw_1 kw_2, mb_1, tk) pa tr0 0 ++ rest))) (As := [.int (nI x), .int z, .int 0, .int (nI m)]) (st := []) (kc' := 0) (ks' := 0) (v := .int no) C0 d_Md_race_71 l_Md_208 rfl rfl (d_out (B := ((f0, g0, n0), (f1, g1, n1), (f2, g2, n2), (f3, g3, n3), (f4, g4, n4), pl, dr, ki, ow)) (kp := (cpn 16 ms_1 ks_2, cpn 16 mc_1 kc_2, cpn 16 mw_1 kw_2, mb_1, tk)) hM hx hzz hz hcl hm hf0) rfl rfl rfl (Nat.le_of_ble_eq_true rfl) (Nat.le_of_ble_eq_true rfl) (Nat.le_of_ble_eq_true rfl) (Nat.le_of_ble_eq_true rfl) (Nat.le_of_ble_eq_true rfl) (Nat.le_of_ble_eq_true rfl) ?_
  refine xs_istore (lv' := [(5, .int no), (0, .ref 36), (1, .int (nI x)), (2, .int z), (3, .int (nI n)), (4, .int (nI m))]) C0 d_Md_race_74 (by decide) rfl ?_
  refine xs_iconst (v := (-1)) C0 d_Md_race_76 (by decide) ?_
  refine xs_istore (lv' := [(6, .int (-1)), (5, .int no), (0, .ref 36), (1, .int (nI x)), (2, .int z), (3, .int (nI n)), (4, .int (nI m))]) C0 d_Md_race_77 (by decide) rfl ?_
  refine xs_pc (pc' := 79) rfl ?_
  refine xs_iconst (v := 1) C0 d_Md_race_79 (by decide) ?_
  refine xs_iload_n C0 d_Md_race_80 rfl 5 rfl ?_
  refine xs_ishl C0 d_Md_race_81 ?_
  refine xs_iconst (v := 1) C0 d_Md_race_82 (by decide) ?_
  refine xs_isub C0 d_Md_race_83 ?_
  refine xs_top (v' := .int (nI (2 ^ n - 1))) (by rw [pl_2tab n hn, show 2 ^ n = (2 ^ n - 1) + 1 from (Nat.sub_add_cancel (Nat.one_le_two_pow)).symm, nI_pred]; rfl) ?_
  refine xs_istore (lv' := [(7, .int (nI (2 ^ n - 1))), (6, .int (-1)), (5, .int no), (0, .ref 36), (1, .int (nI x)), (2, .int z), (3, .int (nI n)), (4, .int (nI m))]) C0 d_Md_race_84 (by decide) rfl ?_
  refine xs_lv (lv' := [(0, .ref 36), (1, .int (nI x)), (2, .int z), (4, .int (nI m)), (5, .int no), (6, .int (-1)), (7, .int (nI (2 ^ n - 1)))]) [3, 4, 5, 7, 2, 1, 0] rfl ?_
  have h2n : 2 ^ n ≤ 64 := Nat.pow_le_pow_right (by decide) (show n ≤ 6 from hn)
  refine lp_qrace (ow := ow) (Z1 := Z1) C0 hM hx hzz hz hcl hm ?_ (2 ^ n - 1) _ _ _ _ (by omega) hf
  refine xs_aload_n C0 d_Md_race_116 rfl 0 rfl ?_
  obtain ⟨ms_3, mc_3, mw_3, mb_3⟩ := Z1
  refine xs_cV0 (ω' := (wd Q0 Q1 Q2 Q3 Q4 ql qr qk qo QS QT QF QH qt ++ (wM (f0, g0, nI n0) (f1, g1, nI n1) (f2, g2, nI n2) (f3, g3, nI n3) (f4, g4, nI n4) pl dr ki rl (cpn 16 (cpn 16 ms_1 ks_2) ms_3, cpn 16 (cpn 16 mc_1 kc_2) mc_3, cpn 16 (cpn 16 mw_1 kw_2) mw_3, mb_1) cl hc1 0 tk (cpn 16 ms_1 ks_2, cpn 16 mc_1 kc_2, cpn 16 mw_1 kw_2, mb_1, tk) pa tr1 0 ++ rest))) (As := []) (st := []) (kc' := 0) (ks' := 0) C0 d_Md_race_117 l_Md_187 rfl rfl (d_lb hz) rfl rfl rfl (Nat.le_of_ble_eq_true rfl) (Nat.le_of_ble_eq_true rfl) (Nat.le_of_ble_eq_true rfl) (Nat.le_of_ble_eq_true rfl) (Nat.le_of_ble_eq_true rfl) (Nat.le_of_ble_eq_true rfl) ?_
  refine xs_iload C0 d_Md_race_120 1 rfl ?_
  exact xs_iret C0 d_Md_race_122 (⟨rfl, rfl⟩) (Nat.le_of_ble_eq_true rfl) (Nat.le_of_ble_eq_true rfl)
set_option maxHeartbeats 4000000 in
set_option maxRecDepth 100000 in
theorem d_raceT {Q0 Q1 Q2 Q3 Q4 : wt_P} {ql qr qk qo : Nat → Int32} {QS QT : wt_S} {QF : wt_F} {QH : wt_H} {qt : Int32} {B : wb} {rl : Nat → Int32} {Z : mt_S} {cl : Nat → Int32} {hc : mt_H} {sl tk : Int32} {kp : mt_K} {pa : Nat → Int32} {tr : mt_T} {co : Int32} {rest : xm_O} {x z y q : Int32} (hM : okM B rl) (h : ¬ (gw x 0 (nI B.2.2.1.2.2 - 1) ∧ gw y 0 6 ∧ y ≤ nI B.1.2.2 ∧ gw q 1 100)) : xm_M y_Md_race (Cond.code y_Md_race b_Md_race 8 (some .int)) (xm_rm 7 0 0) [.ref 36, .int x, .int z, .int y, .int q] (wd Q0 Q1 Q2 Q3 Q4 ql qr qk qo QS QT QF QH qt ++ (wMB B rl Z cl hc sl tk kp pa tr co ++ rest)) (xm_eq (.inl (some (.int 0))) (wd Q0 Q1 Q2 Q3 Q4 ql qr qk qo QS QT QF QH qt ++ (wMB B rl Z cl hc sl tk kp pa tr 1 ++ rest))) := by
  obtain ⟨⟨f0, g0, n0⟩, ⟨f1, g1, n1⟩, ⟨f2, g2, n2⟩, ⟨f3, g3, n3⟩, ⟨f4, g4, n4⟩, pl, dr, ki, ow⟩ := B
  have hB := hM.1
  have hrl := hM.2
  obtain ⟨⟨h0, hp0⟩, ⟨h1, hp1⟩, ⟨h2, hp2⟩, ⟨h3, hp3⟩, ⟨h4, hp4⟩, hk⟩ := id hB
  dsimp only at h0 h1 h2 h3 h4 hp0 hp1 hp2 hp3 hp4 hk hrl
  refine xm_of (by decide) (Nat.le_of_ble_eq_true rfl) (fun E C0 => ?_)
  refine xs_eq (ω' := (wd Q0 Q1 Q2 Q3 Q4 ql qr qk qo QS QT QF QH qt ++ (wM (f0, g0, nI n0) (f1, g1, nI n1) (f2, g2, nI n2) (f3, g3, nI n3) (f4, g4, nI n4) pl dr ki rl Z cl hc sl tk kp pa tr co ++ rest))) (lv' := [(0, .ref 36), (1, .int x), (2, .int z), (3, .int y), (4, .int q)]) rfl rfl rfl ?_
  by_cases ha : gw x 0 (nI n2 - 1)
  · by_cases hb : gw y 0 6
    · by_cases hc9 : y ≤ nI n0
      · refine xs_aload_n C0 d_Md_race_0 rfl 0 rfl ?_
        refine xs_iload_n C0 d_Md_race_1 rfl 1 rfl ?_
        refine xs_iconst (v := 0) C0 d_Md_race_2 (by decide) ?_
        refine xs_aload_n C0 d_Md_race_3 rfl 0 rfl ?_
        refine xs_get (q := 36) (v := .int (nI n2)) C0 f_Md_117 d_Md_race_4 rfl rfl ?_
        refine xs_iconst (v := 1) C0 d_Md_race_7 (by decide) ?_
        refine xs_isub C0 d_Md_race_8 ?_
        refine xs_cS1 (ω' := (wd Q0 Q1 Q2 Q3 Q4 ql qr qk qo QS QT QF QH qt ++ (wM (f0, g0, nI n0) (f1, g1, nI n1) (f2, g2, nI n2) (f3, g3, nI n3) (f4, g4, nI n4) pl dr ki rl Z cl hc sl tk kp pa tr co ++ rest))) (av := [.int x, .int 0, .int ((nI n2) - 1)]) (st := [.ref 36]) (kc' := 0) (ks' := 0) (v := .int 1) C0 d_Md_race_9 l_Md_96 (d_in1 _ x 0 ((nI n2) - 1) ha) rfl rfl rfl (Nat.le_of_ble_eq_true rfl) (Nat.le_of_ble_eq_true rfl) (Nat.le_of_ble_eq_true rfl) (Nat.le_of_ble_eq_true rfl) (Nat.le_of_ble_eq_true rfl) (Nat.le_of_ble_eq_true rfl) ?_
        refine xs_if_eq (tgt := 48) C0 d_Md_race_12 (by decide) (fun c9 => absurd c9 (by decide)) (fun _ => ?_)
        refine xs_iload_n C0 d_Md_race_15 rfl 3 rfl ?_
        refine xs_iconst (v := 0) C0 d_Md_race_16 (by decide) ?_
        refine xs_bipush (v := 6) C0 d_Md_race_17 (by decide) ?_
        refine xs_pc (pc' := 19) rfl ?_
        refine xs_cS1 (ω' := (wd Q0 Q1 Q2 Q3 Q4 ql qr qk qo QS QT QF QH qt ++ (wM (f0, g0, nI n0) (f1, g1, nI n1) (f2, g2, nI n2) (f3, g3, nI n3) (f4, g4, nI n4) pl dr ki rl Z cl hc sl tk kp pa tr co ++ rest))) (av := [.int y, .int 0, .int 6]) (st := [.ref 36]) (kc' := 0) (ks' := 0) (v := .int 1) C0 d_Md_race_19 l_Md_96 (d_in1 _ y 0 6 hb) rfl rfl rfl (Nat.le_of_ble_eq_true rfl) (Nat.le_of_ble_eq_true rfl) (Nat.le_of_ble_eq_true rfl) (Nat.le_of_ble_eq_true rfl) (Nat.le_of_ble_eq_true rfl) (Nat.le_of_ble_eq_true rfl) ?_
        refine xs_if_eq (tgt := 48) C0 d_Md_race_22 (by decide) (fun c9 => absurd c9 (by decide)) (fun _ => ?_)
        refine xs_iload_n C0 d_Md_race_25 rfl 3 rfl ?_
        refine xs_aload_n C0 d_Md_race_26 rfl 0 rfl ?_
        refine xs_get (q := 36) (v := .int (nI n0)) C0 f_Md_108 d_Md_race_27 rfl rfl ?_
        refine xs_icmp_gt (tgt := 48) C0 d_Md_race_30 (by decide) (fun c9 => absurd c9 (Int32.not_lt.mpr hc9)) (fun _ => ?_)
        refine xs_iload C0 d_Md_race_33 4 rfl ?_
        refine xs_iconst (v := 1) C0 d_Md_race_35 (by decide) ?_
        refine xs_bipush (v := 100) C0 d_Md_race_36 (by decide) ?_
        refine xs_cS1 (ω' := (wd Q0 Q1 Q2 Q3 Q4 ql qr qk qo QS QT QF QH qt ++ (wM (f0, g0, nI n0) (f1, g1, nI n1) (f2, g2, nI n2) (f3, g3, nI n3) (f4, g4, nI n4) pl dr ki rl Z cl hc sl tk kp pa tr co ++ rest))) (av := [.int q, .int 1, .int 100]) (st := [.ref 36]) (kc' := 0) (ks' := 0) (v := .int 0) C0 d_Md_race_38 l_Md_96 (d_in0 _ q 1 100 (fun h9 => h ⟨ha, hb, hc9, h9⟩)) rfl rfl rfl (Nat.le_of_ble_eq_true rfl) (Nat.le_of_ble_eq_true rfl) (Nat.le_of_ble_eq_true rfl) (Nat.le_of_ble_eq_true rfl) (Nat.le_of_ble_eq_true rfl) (Nat.le_of_ble_eq_true rfl) ?_
        refine xs_if_eq (tgt := 48) C0 d_Md_race_41 (by decide) (fun _ => ?_) (fun c9 => absurd rfl c9)
        refine xs_iconst (v := 1) C0 d_Md_race_48 (by decide) ?_
        refine xs_put (ω' := (wd Q0 Q1 Q2 Q3 Q4 ql qr qk qo QS QT QF QH qt ++ (wM (f0, g0, nI n0) (f1, g1, nI n1) (f2, g2, nI n2) (f3, g3, nI n3) (f4, g4, nI n4) pl dr ki rl Z cl hc sl tk kp pa tr 1 ++ rest))) C0 f_Md_92 ty_Md_0 d_Md_race_49 rfl (Nat.le_of_ble_eq_true rfl) (fun _ => ⟨rfl, rfl⟩) rfl ?_
        refine xs_aload_n C0 d_Md_race_52 rfl 0 rfl ?_
        refine xs_get (q := 36) (v := .int 1) C0 f_Md_92 d_Md_race_53 rfl rfl ?_
        refine xs_if_le (tgt := 61) C0 d_Md_race_56 (by decide) (fun c9 => absurd c9 (by decide)) (fun _ => ?_)
        refine xs_iconst (v := 0) C0 d_Md_race_59 (by decide) ?_
        exact xs_iret C0 d_Md_race_60 (⟨rfl, rfl⟩) (Nat.le_of_ble_eq_true rfl) (Nat.le_of_ble_eq_true rfl)
      · refine xs_aload_n C0 d_Md_race_0 rfl 0 rfl ?_
        refine xs_iload_n C0 d_Md_race_1 rfl 1 rfl ?_
        refine xs_iconst (v := 0) C0 d_Md_race_2 (by decide) ?_
        refine xs_aload_n C0 d_Md_race_3 rfl 0 rfl ?_
        refine xs_get (q := 36) (v := .int (nI n2)) C0 f_Md_117 d_Md_race_4 rfl rfl ?_
        refine xs_iconst (v := 1) C0 d_Md_race_7 (by decide) ?_
        refine xs_isub C0 d_Md_race_8 ?_
        refine xs_cS1 (ω' := (wd Q0 Q1 Q2 Q3 Q4 ql qr qk qo QS QT QF QH qt ++ (wM (f0, g0, nI n0) (f1, g1, nI n1) (f2, g2, nI n2) (f3, g3, nI n3) (f4, g4, nI n4) pl dr ki rl Z cl hc sl tk kp pa tr co ++ rest))) (av := [.int x, .int 0, .int ((nI n2) - 1)]) (st := [.ref 36]) (kc' := 0) (ks' := 0) (v := .int 1) C0 d_Md_race_9 l_Md_96 (d_in1 _ x 0 ((nI n2) - 1) ha) rfl rfl rfl (Nat.le_of_ble_eq_true rfl) (Nat.le_of_ble_eq_true rfl) (Nat.le_of_ble_eq_true rfl) (Nat.le_of_ble_eq_true rfl) (Nat.le_of_ble_eq_true rfl) (Nat.le_of_ble_eq_true rfl) ?_
        refine xs_if_eq (tgt := 48) C0 d_Md_race_12 (by decide) (fun c9 => absurd c9 (by decide)) (fun _ => ?_)
        refine xs_iload_n C0 d_Md_race_15 rfl 3 rfl ?_
        refine xs_iconst (v := 0) C0 d_Md_race_16 (by decide) ?_
        refine xs_bipush (v := 6) C0 d_Md_race_17 (by decide) ?_
        refine xs_pc (pc' := 19) rfl ?_
        refine xs_cS1 (ω' := (wd Q0 Q1 Q2 Q3 Q4 ql qr qk qo QS QT QF QH qt ++ (wM (f0, g0, nI n0) (f1, g1, nI n1) (f2, g2, nI n2) (f3, g3, nI n3) (f4, g4, nI n4) pl dr ki rl Z cl hc sl tk kp pa tr co ++ rest))) (av := [.int y, .int 0, .int 6]) (st := [.ref 36]) (kc' := 0) (ks' := 0) (v := .int 1) C0 d_Md_race_19 l_Md_96 (d_in1 _ y 0 6 hb) rfl rfl rfl (Nat.le_of_ble_eq_true rfl) (Nat.le_of_ble_eq_true rfl) (Nat.le_of_ble_eq_true rfl) (Nat.le_of_ble_eq_true rfl) (Nat.le_of_ble_eq_true rfl) (Nat.le_of_ble_eq_true rfl) ?_
        refine xs_if_eq (tgt := 48) C0 d_Md_race_22 (by decide) (fun c9 => absurd c9 (by decide)) (fun _ => ?_)
        refine xs_iload_n C0 d_Md_race_25 rfl 3 rfl ?_
        refine xs_aload_n C0 d_Md_race_26 rfl 0 rfl ?_
        refine xs_get (q := 36) (v := .int (nI n0)) C0 f_Md_108 d_Md_race_27 rfl rfl ?_
        refine xs_icmp_gt (tgt := 48) C0 d_Md_race_30 (by decide) (fun _ => ?_) (fun c9 => absurd (Int32.not_lt.mp c9) hc9)
        refine xs_iconst (v := 1) C0 d_Md_race_48 (by decide) ?_
        refine xs_put (ω' := (wd Q0 Q1 Q2 Q3 Q4 ql qr qk qo QS QT QF QH qt ++ (wM (f0, g0, nI n0) (f1, g1, nI n1) (f2, g2, nI n2) (f3, g3, nI n3) (f4, g4, nI n4) pl dr ki rl Z cl hc sl tk kp pa tr 1 ++ rest))) C0 f_Md_92 ty_Md_0 d_Md_race_49 rfl (Nat.le_of_ble_eq_true rfl) (fun _ => ⟨rfl, rfl⟩) rfl ?_
        refine xs_aload_n C0 d_Md_race_52 rfl 0 rfl ?_
        refine xs_get (q := 36) (v := .int 1) C0 f_Md_92 d_Md_race_53 rfl rfl ?_
        refine xs_if_le (tgt := 61) C0 d_Md_race_56 (by decide) (fun c9 => absurd c9 (by decide)) (fun _ => ?_)
        refine xs_iconst (v := 0) C0 d_Md_race_59 (by decide) ?_
        exact xs_iret C0 d_Md_race_60 (⟨rfl, rfl⟩) (Nat.le_of_ble_eq_true rfl) (Nat.le_of_ble_eq_true rfl)
    · refine xs_aload_n C0 d_Md_race_0 rfl 0 rfl ?_
      refine xs_iload_n C0 d_Md_race_1 rfl 1 rfl ?_
      refine xs_iconst (v := 0) C0 d_Md_race_2 (by decide) ?_
      refine xs_aload_n C0 d_Md_race_3 rfl 0 rfl ?_
      refine xs_get (q := 36) (v := .int (nI n2)) C0 f_Md_117 d_Md_race_4 rfl rfl ?_
      refine xs_iconst (v := 1) C0 d_Md_race_7 (by decide) ?_
      refine xs_isub C0 d_Md_race_8 ?_
      refine xs_cS1 (ω' := (wd Q0 Q1 Q2 Q3 Q4 ql qr qk qo QS QT QF QH qt ++ (wM (f0, g0, nI n0) (f1, g1, nI n1) (f2, g2, nI n2) (f3, g3, nI n3) (f4, g4, nI n4) pl dr ki rl Z cl hc sl tk kp pa tr co ++ rest))) (av := [.int x, .int 0, .int ((nI n2) - 1)]) (st := [.ref 36]) (kc' := 0) (ks' := 0) (v := .int 1) C0 d_Md_race_9 l_Md_96 (d_in1 _ x 0 ((nI n2) - 1) ha) rfl rfl rfl (Nat.le_of_ble_eq_true rfl) (Nat.le_of_ble_eq_true rfl) (Nat.le_of_ble_eq_true rfl) (Nat.le_of_ble_eq_true rfl) (Nat.le_of_ble_eq_true rfl) (Nat.le_of_ble_eq_true rfl) ?_
      refine xs_if_eq (tgt := 48) C0 d_Md_race_12 (by decide) (fun c9 => absurd c9 (by decide)) (fun _ => ?_)
      refine xs_iload_n C0 d_Md_race_15 rfl 3 rfl ?_
      refine xs_iconst (v := 0) C0 d_Md_race_16 (by decide) ?_
      refine xs_bipush (v := 6) C0 d_Md_race_17 (by decide) ?_
      refine xs_pc (pc' := 19) rfl ?_
      refine xs_cS1 (ω' := (wd Q0 Q1 Q2 Q3 Q4 ql qr qk qo QS QT QF QH qt ++ (wM (f0, g0, nI n0) (f1, g1, nI n1) (f2, g2, nI n2) (f3, g3, nI n3) (f4, g4, nI n4) pl dr ki rl Z cl hc sl tk kp pa tr co ++ rest))) (av := [.int y, .int 0, .int 6]) (st := [.ref 36]) (kc' := 0) (ks' := 0) (v := .int 0) C0 d_Md_race_19 l_Md_96 (d_in0 _ y 0 6 hb) rfl rfl rfl (Nat.le_of_ble_eq_true rfl) (Nat.le_of_ble_eq_true rfl) (Nat.le_of_ble_eq_true rfl) (Nat.le_of_ble_eq_true rfl) (Nat.le_of_ble_eq_true rfl) (Nat.le_of_ble_eq_true rfl) ?_
      refine xs_if_eq (tgt := 48) C0 d_Md_race_22 (by decide) (fun _ => ?_) (fun c9 => absurd rfl c9)
      refine xs_iconst (v := 1) C0 d_Md_race_48 (by decide) ?_
      refine xs_put (ω' := (wd Q0 Q1 Q2 Q3 Q4 ql qr qk qo QS QT QF QH qt ++ (wM (f0, g0, nI n0) (f1, g1, nI n1) (f2, g2, nI n2) (f3, g3, nI n3) (f4, g4, nI n4) pl dr ki rl Z cl hc sl tk kp pa tr 1 ++ rest))) C0 f_Md_92 ty_Md_0 d_Md_race_49 rfl (Nat.le_of_ble_eq_true rfl) (fun _ => ⟨rfl, rfl⟩) rfl ?_
      refine xs_aload_n C0 d_Md_race_52 rfl 0 rfl ?_
      refine xs_get (q := 36) (v := .int 1) C0 f_Md_92 d_Md_race_53 rfl rfl ?_
      refine xs_if_le (tgt := 61) C0 d_Md_race_56 (by decide) (fun c9 => absurd c9 (by decide)) (fun _ => ?_)
      refine xs_iconst (v := 0) C0 d_Md_race_59 (by decide) ?_
      exact xs_iret C0 d_Md_race_60 (⟨rfl, rfl⟩) (Nat.le_of_ble_eq_true rfl) (Nat.le_of_ble_eq_true rfl)
  · refine xs_aload_n C0 d_Md_race_0 rfl 0 rfl ?_
    refine xs_iload_n C0 d_Md_race_1 rfl 1 rfl ?_
    refine xs_iconst (v := 0) C0 d_Md_race_2 (by decide) ?_
    refine xs_aload_n C0 d_Md_race_3 rfl 0 rfl ?_
    refine xs_get (q := 36) (v := .int (nI n2)) C0 f_Md_117 d_Md_race_4 rfl rfl ?_
    refine xs_iconst (v := 1) C0 d_Md_race_7 (by decide) ?_
    refine xs_isub C0 d_Md_race_8 ?_
    refine xs_cS1 (ω' := (wd Q0 Q1 Q2 Q3 Q4 ql qr qk qo QS QT QF QH qt ++ (wM (f0, g0, nI n0) (f1, g1, nI n1) (f2, g2, nI n2) (f3, g3, nI n3) (f4, g4, nI n4) pl dr ki rl Z cl hc sl tk kp pa tr co ++ rest))) (av := [.int x, .int 0, .int ((nI n2) - 1)]) (st := [.ref 36]) (kc' := 0) (ks' := 0) (v := .int 0) C0 d_Md_race_9 l_Md_96 (d_in0 _ x 0 ((nI n2) - 1) ha) rfl rfl rfl (Nat.le_of_ble_eq_true rfl) (Nat.le_of_ble_eq_true rfl) (Nat.le_of_ble_eq_true rfl) (Nat.le_of_ble_eq_true rfl) (Nat.le_of_ble_eq_true rfl) (Nat.le_of_ble_eq_true rfl) ?_
    refine xs_if_eq (tgt := 48) C0 d_Md_race_12 (by decide) (fun _ => ?_) (fun c9 => absurd rfl c9)
    refine xs_iconst (v := 1) C0 d_Md_race_48 (by decide) ?_
    refine xs_put (ω' := (wd Q0 Q1 Q2 Q3 Q4 ql qr qk qo QS QT QF QH qt ++ (wM (f0, g0, nI n0) (f1, g1, nI n1) (f2, g2, nI n2) (f3, g3, nI n3) (f4, g4, nI n4) pl dr ki rl Z cl hc sl tk kp pa tr 1 ++ rest))) C0 f_Md_92 ty_Md_0 d_Md_race_49 rfl (Nat.le_of_ble_eq_true rfl) (fun _ => ⟨rfl, rfl⟩) rfl ?_
    refine xs_aload_n C0 d_Md_race_52 rfl 0 rfl ?_
    refine xs_get (q := 36) (v := .int 1) C0 f_Md_92 d_Md_race_53 rfl rfl ?_
    refine xs_if_le (tgt := 61) C0 d_Md_race_56 (by decide) (fun c9 => absurd c9 (by decide)) (fun _ => ?_)
    refine xs_iconst (v := 0) C0 d_Md_race_59 (by decide) ?_
    exact xs_iret C0 d_Md_race_60 (⟨rfl, rfl⟩) (Nat.le_of_ble_eq_true rfl) (Nat.le_of_ble_eq_true rfl)
