set_option maxHeartbeats 4000000 in
set_option maxRecDepth 100000 in
theorem d_turn {Q0 Q1 Q2 Q3 Q4 : wt_P} {ql qr qk qo : Nat → Int32} {QS QT : wt_S} {QF : wt_F} {QH : wt_H} {qt : Int32} {B : wb} {rl : Nat → Int32} {Z : mt_S} {cl : Nat → Int32} {hc : mt_H} {sl tk : Int32} {kp : mt_K} {pa : Nat → Int32} {tr : mt_T} {co : Int32} {rest : xm_O} {x z : Int32} {Z1 : mt_S} {hc1 : mt_H} (hM : okM B rl) (h : gw x 0 (nI B.2.2.1.2.2 - 1)) (hz : z = 0 ∨ z = 1) (hf : m_laf B rl (upd cl x.toNatClampNeg z) Z hc = (Z1, hc1)) : xm_M y_Md_turn (Cond.code y_Md_turn b_Md_turn 4 (some .boolean)) (xm_rm 4 0 0) [.ref 36, .int x, .int z] (wd Q0 Q1 Q2 Q3 Q4 ql qr qk qo QS QT QF QH qt ++ (wMB B rl Z cl hc sl tk kp pa tr co ++ rest)) (xm_eq (.inl (some (.int (if ¬ cl x.toNatClampNeg = z then 1 else 0)))) (wd Q0 Q1 Q2 Q3 Q4 ql qr qk qo QS QT QF QH qt ++ (wMB B rl Z1 (upd cl x.toNatClampNeg z) hc1 sl tk kp pa tr 0 ++ rest))) := by
  obtain ⟨⟨f0, g0, n0⟩, ⟨f1, g1, n1⟩, ⟨f2, g2, n2⟩, ⟨f3, g3, n3⟩, ⟨f4, g4, n4⟩, pl, dr, ki, ow⟩ := B
  have hB := hM.1
  have hrl := hM.2
  obtain ⟨⟨h0, hp0⟩, ⟨h1, hp1⟩, ⟨h2, hp2⟩, ⟨h3, hp3⟩, ⟨h4, hp4⟩, hk⟩ := id hB
  dsimp only at h0 h1 h2 h3 h4 hp0 hp1 hp2 hp3 hp4 hk hrl
  refine xm_of (by decide) (Nat.le_of_ble_eq_true rfl) (fun E C0 => ?_)
  refine xs_eq (ω' := (wd Q0 Q1 Q2 Q3 Q4 ql qr qk qo QS QT QF QH qt ++ (wM (f0, g0, nI n0) (f1, g1, nI n1) (f2, g2, nI n2) (f3, g3, nI n3) (f4, g4, nI n4) pl dr ki rl Z cl hc sl tk kp pa tr co ++ rest))) (lv' := [(0, .ref 36), (1, .int x), (2, .int z)]) rfl rfl rfl ?_
  refine xs_aload_n C0 d_Md_turn_0 rfl 0 rfl ?_
  refine xs_iload_n C0 d_Md_turn_1 rfl 1 rfl ?_
  refine xs_iconst (v := 0) C0 d_Md_turn_2 (by decide) ?_
  refine xs_aload_n C0 d_Md_turn_3 rfl 0 rfl ?_
  refine xs_get (q := 36) (v := .int (nI n2)) C0 f_Md_117 d_Md_turn_4 rfl rfl ?_
  refine xs_iconst (v := 1) C0 d_Md_turn_7 (by decide) ?_
  refine xs_isub C0 d_Md_turn_8 ?_
  refine xs_cS1 (ω' := (wd Q0 Q1 Q2 Q3 Q4 ql qr qk qo QS QT QF QH qt ++ (wM (f0, g0, nI n0) (f1, g1, nI n1) (f2, g2, nI n2) (f3, g3, nI n3) (f4, g4, nI n4) pl dr ki rl Z cl hc sl tk kp pa tr co ++ rest))) (av := [.int x, .int 0, .int ((nI n2) - 1)]) (st := [.ref 36]) (kc' := 0) (ks' := 0) (v := .int 1) C0 d_Md_turn_9 l_Md_96 (d_in1 _ x 0 ((nI n2) - 1) h) rfl rfl rfl (Nat.le_of_ble_eq_true rfl) (Nat.le_of_ble_eq_true rfl) (Nat.le_of_ble_eq_true rfl) (Nat.le_of_ble_eq_true rfl) (Nat.le_of_ble_eq_true rfl) (Nat.le_of_ble_eq_true rfl) ?_
  refine xs_if_eq (tgt := 19) C0 d_Md_turn_12 (by decide) (fun c9 => absurd c9 (by decide)) (fun _ => ?_)
  refine xs_iconst (v := 0) C0 d_Md_turn_15 (by decide) ?_
  refine xs_goto (tgt := 20) C0 d_Md_turn_16 (by decide) ?_
  refine xs_put (ω' := (wd Q0 Q1 Q2 Q3 Q4 ql qr qk qo QS QT QF QH qt ++ (wM (f0, g0, nI n0) (f1, g1, nI n1) (f2, g2, nI n2) (f3, g3, nI n3) (f4, g4, nI n4) pl dr ki rl Z cl hc sl tk kp pa tr 0 ++ rest))) C0 f_Md_92 ty_Md_0 d_Md_turn_20 rfl (Nat.le_of_ble_eq_true rfl) (fun _ => ⟨rfl, rfl⟩) rfl ?_
  refine xs_aload_n C0 d_Md_turn_23 rfl 0 rfl ?_
  refine xs_get (q := 36) (v := .int 0) C0 f_Md_92 d_Md_turn_24 rfl rfl ?_
  refine xs_if_le (tgt := 32) C0 d_Md_turn_27 (by decide) (fun _ => ?_) (fun c9 => absurd c9 (by decide))
  refine xs_aload_n C0 d_Md_turn_32 rfl 0 rfl ?_
  refine xs_get (q := 36) (v := .ref 50) C0 f_Md_49 d_Md_turn_33 rfl rfl ?_
  refine xs_iload_n C0 d_Md_turn_36 rfl 1 rfl ?_
  refine xs_zald C0 d_Md_turn_37 rfl (gw_in12 h2 h) ?_
  refine xs_iload_n C0 d_Md_turn_38 rfl 2 rfl ?_
  refine xs_bi_eq (u := 1) (v := 0) (tgt := 46) (J := 47) C0 d_Md_turn_39 (by decide) d_Md_turn_42 (by decide) d_Md_turn_43 (by decide) d_Md_turn_46 (by decide) rfl ?_
  refine xs_istore_n (lv' := [(3, .int (if ¬ (cl x.toNatClampNeg) = z then 1 else 0)), (0, .ref 36), (1, .int x), (2, .int z)]) C0 d_Md_turn_47 rfl (by decide) rfl ?_
  refine xs_aload_n C0 d_Md_turn_48 rfl 1 rfl ?_
  refine xs_get (q := 36) (v := .ref 50) C0 f_Md_49 d_Md_turn_49 rfl rfl ?_
  refine xs_iload_n C0 d_Md_turn_52 rfl 2 rfl ?_
  refine xs_iload_n C0 d_Md_turn_53 rfl 3 rfl ?_
  refine xs_zast (ω' := (wd Q0 Q1 Q2 Q3 Q4 ql qr qk qo QS QT QF QH qt ++ (wM (f0, g0, nI n0) (f1, g1, nI n1) (f2, g2, nI n2) (f3, g3, nI n3) (f4, g4, nI n4) pl dr ki rl Z (upd cl x.toNatClampNeg (vp_nar .boolean z)) hc sl tk kp pa tr 0 ++ rest))) C0 d_Md_turn_54 rfl (gw_in12 h2 h) rfl ?_
  refine xs_world (ω' := (wd Q0 Q1 Q2 Q3 Q4 ql qr qk qo QS QT QF QH qt ++ (wM (f0, g0, nI n0) (f1, g1, nI n1) (f2, g2, nI n2) (f3, g3, nI n3) (f4, g4, nI n4) pl dr ki rl Z (upd cl x.toNatClampNeg z) hc sl tk kp pa tr 0 ++ rest))) (by rw [vp_nar01 hz]) ?_
  refine xs_aload_n C0 d_Md_turn_55 rfl 1 rfl ?_
  obtain ⟨Z_1, hc_2, hZ_1⟩ : ∃ X Y, m_laf ((f0, g0, n0), (f1, g1, n1), (f2, g2, n2), (f3, g3, n3), (f4, g4, n4), pl, dr, ki, ow) rl (upd cl x.toNatClampNeg z) Z hc = (X, Y) := ⟨_, _, rfl⟩
  refine xs_cV0 (ω' := (wd Q0 Q1 Q2 Q3 Q4 ql qr qk qo QS QT QF QH qt ++ (wM (f0, g0, nI n0) (f1, g1, nI n1) (f2, g2, nI n2) (f3, g3, nI n3) (f4, g4, nI n4) pl dr ki rl Z_1 (upd cl x.toNatClampNeg z) hc_2 sl tk kp pa tr 0 ++ rest))) (As := []) (st := []) (kc' := 0) (ks' := 0) C0 d_Md_turn_56 l_Md_111 rfl rfl (d_laf (B := ((f0, g0, n0), (f1, g1, n1), (f2, g2, n2), (f3, g3, n3), (f4, g4, n4), pl, dr, ki, ow)) hM hZ_1) rfl rfl rfl (Nat.le_of_ble_eq_true rfl) (Nat.le_of_ble_eq_true rfl) (Nat.le_of_ble_eq_true rfl) (Nat.le_of_ble_eq_true rfl) (Nat.le_of_ble_eq_true rfl) (Nat.le_of_ble_eq_true rfl) ?_
  refine xs_iload_n C0 d_Md_turn_59 rfl 0 rfl ?_
  rw [hZ_1] at hf
  cases hf
  exact xs_zret C0 d_Md_turn_60 xm_b01 (⟨rfl, rfl⟩) (Nat.le_of_ble_eq_true rfl) (Nat.le_of_ble_eq_true rfl)
set_option maxHeartbeats 4000000 in
set_option maxRecDepth 100000 in
theorem d_turnT {Q0 Q1 Q2 Q3 Q4 : wt_P} {ql qr qk qo : Nat → Int32} {QS QT : wt_S} {QF : wt_F} {QH : wt_H} {qt : Int32} {B : wb} {rl : Nat → Int32} {Z : mt_S} {cl : Nat → Int32} {hc : mt_H} {sl tk : Int32} {kp : mt_K} {pa : Nat → Int32} {tr : mt_T} {co : Int32} {rest : xm_O} {x z : Int32} (hM : okM B rl) (h : ¬ gw x 0 (nI B.2.2.1.2.2 - 1)) : xm_M y_Md_turn (Cond.code y_Md_turn b_Md_turn 4 (some .boolean)) (xm_rm 4 0 0) [.ref 36, .int x, .int z] (wd Q0 Q1 Q2 Q3 Q4 ql qr qk qo QS QT QF QH qt ++ (wMB B rl Z cl hc sl tk kp pa tr co ++ rest)) (xm_eq (.inl (some (.int 0))) (wd Q0 Q1 Q2 Q3 Q4 ql qr qk qo QS QT QF QH qt ++ (wMB B rl Z cl hc sl tk kp pa tr 1 ++ rest))) := by
  obtain ⟨⟨f0, g0, n0⟩, ⟨f1, g1, n1⟩, ⟨f2, g2, n2⟩, ⟨f3, g3, n3⟩, ⟨f4, g4, n4⟩, pl, dr, ki, ow⟩ := B
  have hB := hM.1
  have hrl := hM.2
  obtain ⟨⟨h0, hp0⟩, ⟨h1, hp1⟩, ⟨h2, hp2⟩, ⟨h3, hp3⟩, ⟨h4, hp4⟩, hk⟩ := id hB
  dsimp only at h0 h1 h2 h3 h4 hp0 hp1 hp2 hp3 hp4 hk hrl
  refine xm_of (by decide) (Nat.le_of_ble_eq_true rfl) (fun E C0 => ?_)
  refine xs_eq (ω' := (wd Q0 Q1 Q2 Q3 Q4 ql qr qk qo QS QT QF QH qt ++ (wM (f0, g0, nI n0) (f1, g1, nI n1) (f2, g2, nI n2) (f3, g3, nI n3) (f4, g4, nI n4) pl dr ki rl Z cl hc sl tk kp pa tr co ++ rest))) (lv' := [(0, .ref 36), (1, .int x), (2, .int z)]) rfl rfl rfl ?_
  refine xs_aload_n C0 d_Md_turn_0 rfl 0 rfl ?_
  refine xs_iload_n C0 d_Md_turn_1 rfl 1 rfl ?_
  refine xs_iconst (v := 0) C0 d_Md_turn_2 (by decide) ?_
  refine xs_aload_n C0 d_Md_turn_3 rfl 0 rfl ?_
  refine xs_get (q := 36) (v := .int (nI n2)) C0 f_Md_117 d_Md_turn_4 rfl rfl ?_
  refine xs_iconst (v := 1) C0 d_Md_turn_7 (by decide) ?_
  refine xs_isub C0 d_Md_turn_8 ?_
  refine xs_cS1 (ω' := (wd Q0 Q1 Q2 Q3 Q4 ql qr qk qo QS QT QF QH qt ++ (wM (f0, g0, nI n0) (f1, g1, nI n1) (f2, g2, nI n2) (f3, g3, nI n3) (f4, g4, nI n4) pl dr ki rl Z cl hc sl tk kp pa tr co ++ rest))) (av := [.int x, .int 0, .int ((nI n2) - 1)]) (st := [.ref 36]) (kc' := 0) (ks' := 0) (v := .int 0) C0 d_Md_turn_9 l_Md_96 (d_in0 _ x 0 ((nI n2) - 1) h) rfl rfl rfl (Nat.le_of_ble_eq_true rfl) (Nat.le_of_ble_eq_true rfl) (Nat.le_of_ble_eq_true rfl) (Nat.le_of_ble_eq_true rfl) (Nat.le_of_ble_eq_true rfl) (Nat.le_of_ble_eq_true rfl) ?_
  refine xs_if_eq (tgt := 19) C0 d_Md_turn_12 (by decide) (fun _ => ?_) (fun c9 => absurd rfl c9)
  refine xs_iconst (v := 1) C0 d_Md_turn_19 (by decide) ?_
  refine xs_put (ω' := (wd Q0 Q1 Q2 Q3 Q4 ql qr qk qo QS QT QF QH qt ++ (wM (f0, g0, nI n0) (f1, g1, nI n1) (f2, g2, nI n2) (f3, g3, nI n3) (f4, g4, nI n4) pl dr ki rl Z cl hc sl tk kp pa tr 1 ++ rest))) C0 f_Md_92 ty_Md_0 d_Md_turn_20 rfl (Nat.le_of_ble_eq_true rfl) (fun _ => ⟨rfl, rfl⟩) rfl ?_
  refine xs_aload_n C0 d_Md_turn_23 rfl 0 rfl ?_
  refine xs_get (q := 36) (v := .int 1) C0 f_Md_92 d_Md_turn_24 rfl rfl ?_
  refine xs_if_le (tgt := 32) C0 d_Md_turn_27 (by decide) (fun c9 => absurd c9 (by decide)) (fun _ => ?_)
  refine xs_iconst (v := 0) C0 d_Md_turn_30 (by decide) ?_
  exact xs_zret C0 d_Md_turn_31 (by decide) (⟨rfl, rfl⟩) (Nat.le_of_ble_eq_true rfl) (Nat.le_of_ble_eq_true rfl)
set_option maxHeartbeats 4000000 in
set_option maxRecDepth 100000 in
theorem lp_qdial {Q0 Q1 Q2 Q3 Q4 : wt_P} {ql qr qk qo : Nat → Int32} {QS QT : wt_S} {QF : wt_F} {QH : wt_H} {qt : Int32} {f0 g0 f1 g1 f2 g2 f3 g3 f4 g4 : Nat → Int32} {n0 n1 n2 n3 n4 : Nat} {pl dr ki ow rl : Nat → Int32} {Z : mt_S} {cl : Nat → Int32} {hc : mt_H} {sl tk : Int32} {kp : mt_K} {pa : Nat → Int32} {tr : mt_T} {co : Int32} {rest : xm_O} {fr m : Nat} {y : Int32} {E : xm_X} {Q : State → Prop} (C0 : xm_C E y_Md_dial.cls b_Md_dial 5 none [] y_Md_dial.name (xm_rm 4 0 0)) (hm : fr + m ≤ 12) (kx : xm_W E 5 Q 0 0 (wd Q0 Q1 Q2 Q3 Q4 ql qr qk qo QS QT QF QH qt ++ (wM (f0, g0, nI n0) (f1, g1, nI n1) (f2, g2, nI n2) (f3, g3, nI n3) (f4, g4, nI n4) pl dr ki rl Z (q_dial cl fr y m) hc sl tk kp pa tr co ++ rest)) 98 [(0, .ref 36)] []) : ∀ j : Nat, ∀ (i : Nat), i + j = m → xm_W E 5 Q 0 0 (wd Q0 Q1 Q2 Q3 Q4 ql qr qk qo QS QT QF QH qt ++ (wM (f0, g0, nI n0) (f1, g1, nI n1) (f2, g2, nI n2) (f3, g3, nI n3) (f4, g4, nI n4) pl dr ki rl Z (q_dial cl fr y i) hc sl tk kp pa tr co ++ rest)) 62 [(0, .ref 36), (1, .int (nI fr)), (2, .int (nI m)), (3, .int y), (4, .int (nI i))] [] := by
  intro j
  induction j with
  | zero =>
    intro i hi
    have e : m = i := by omega
    subst e
    refine xs_iload C0 d_Md_dial_62 4 rfl ?_
    refine xs_iload_n C0 d_Md_dial_64 rfl 2 rfl ?_
    refine xs_icmp_ge (tgt := 98) C0 d_Md_dial_65 (by decide) (fun _ => ?_) (fun c9 => absurd (nI_le (Nat.le_refl _) (by omega)) c9)
    refine xs_lv (lv' := [(0, .ref 36)]) [0] rfl ?_
    exact kx
  | succ j ih =>
    intro i hi
    have hlt : i < m := by omega
    refine xs_iload C0 d_Md_dial_62 4 rfl ?_
    refine xs_iload_n C0 d_Md_dial_64 rfl 2 rfl ?_
    refine xs_icmp_ge (tgt := 98) C0 d_Md_dial_65 (by decide) (fun c9 => absurd c9 (nI_ge hlt (by omega))) (fun _ => ?_)
    refine xs_aload_n C0 d_Md_dial_68 rfl 0 rfl ?_
    refine xs_get (q := 36) (v := .ref 50) C0 f_Md_49 d_Md_dial_69 rfl rfl ?_
    refine xs_iload_n C0 d_Md_dial_72 rfl 1 rfl ?_
    refine xs_iload C0 d_Md_dial_73 4 rfl ?_
    refine xs_iadd C0 d_Md_dial_75 ?_
    refine xs_top (v' := .int (nI (fr + i))) (by rw [nI_add]) ?_
    refine xs_iload_n C0 d_Md_dial_76 rfl 3 rfl ?_
    refine xs_iload C0 d_Md_dial_77 4 rfl ?_
    refine xs_ishr C0 d_Md_dial_79 ?_
    refine xs_iconst (v := 1) C0 d_Md_dial_80 (by decide) ?_
    refine xs_pc (pc' := 81) rfl ?_
    refine xs_iand C0 d_Md_dial_81 ?_
    refine xs_iconst (v := 1) C0 d_Md_dial_82 (by decide) ?_
    refine xs_bi_ne (u := 1) (v := 0) (tgt := 90) (J := 91) C0 d_Md_dial_83 (by decide) d_Md_dial_86 (by decide) d_Md_dial_87 (by decide) d_Md_dial_90 (by decide) rfl ?_
    refine xs_zast (ω' := (wd Q0 Q1 Q2 Q3 Q4 ql qr qk qo QS QT QF QH qt ++ (wM (f0, g0, nI n0) (f1, g1, nI n1) (f2, g2, nI n2) (f3, g3, nI n3) (f4, g4, nI n4) pl dr ki rl Z (upd (q_dial cl fr y i) (nI (fr + i)).toNatClampNeg (vp_nar .boolean (if ((y >>> ((nI i) &&& 31)) &&& 1) = 1 then 1 else 0))) hc sl tk kp pa tr co ++ rest))) C0 d_Md_dial_91 rfl (vp_in_nI (n := fr + i) (by omega) (by decide)) rfl ?_
    refine xs_world (ω' := (wd Q0 Q1 Q2 Q3 Q4 ql qr qk qo QS QT QF QH qt ++ (wM (f0, g0, nI n0) (f1, g1, nI n1) (f2, g2, nI n2) (f3, g3, nI n3) (f4, g4, nI n4) pl dr ki rl Z (upd (q_dial cl fr y i) (fr + i) (vp_nar .boolean (if ((y >>> ((nI i) &&& 31)) &&& 1) = 1 then 1 else 0))) hc sl tk kp pa tr co ++ rest))) (by rw [nI_clamp (by omega)]) ?_
    refine xs_world (ω' := (wd Q0 Q1 Q2 Q3 Q4 ql qr qk qo QS QT QF QH qt ++ (wM (f0, g0, nI n0) (f1, g1, nI n1) (f2, g2, nI n2) (f3, g3, nI n3) (f4, g4, nI n4) pl dr ki rl Z (q_dial cl fr y (i + 1)) hc sl tk kp pa tr co ++ rest))) (by rw [q_dial, vp_nar01 xm_b01]) ?_
    refine xs_iinc (v := nI (i + 1)) (lv' := [(4, .int (nI (i + 1))), (0, .ref 36), (1, .int (nI fr)), (2, .int (nI m)), (3, .int y)]) C0 d_Md_dial_92 4 rfl (by rw [← nI_1]; rfl) (by decide) rfl ?_
    refine xs_goto (tgt := 62) C0 d_Md_dial_95 (by decide) ?_
    refine xs_lv (lv' := [(0, .ref 36), (1, .int (nI fr)), (2, .int (nI m)), (3, .int y), (4, .int (nI (i + 1)))]) [1, 2, 3, 4, 0] rfl ?_
    exact ih (i + 1) (by omega)
set_option maxHeartbeats 4000000 in
set_option maxRecDepth 100000 in
theorem d_dial {Q0 Q1 Q2 Q3 Q4 : wt_P} {ql qr qk qo : Nat → Int32} {QS QT : wt_S} {QF : wt_F} {QH : wt_H} {qt : Int32} {B : wb} {rl : Nat → Int32} {Z : mt_S} {cl : Nat → Int32} {hc : mt_H} {sl tk : Int32} {kp : mt_K} {pa : Nat → Int32} {tr : mt_T} {co : Int32} {rest : xm_O} {fr m : Nat} {y : Int32} {Z1 : mt_S} {hc1 : mt_H} (hM : okM B rl) (hm : fr + m ≤ 12) (ha : gw (nI fr) 0 (nI B.2.2.1.2.2)) (hb : gw (nI m) 0 (nI B.2.2.1.2.2 - nI fr)) (hf : m_laf B rl (q_dial cl fr y m) Z hc = (Z1, hc1)) : xm_M y_Md_dial (Cond.code y_Md_dial b_Md_dial 5 none) (xm_rm 4 0 0) [.ref 36, .int (nI fr), .int (nI m), .int y] (wd Q0 Q1 Q2 Q3 Q4 ql qr qk qo QS QT QF QH qt ++ (wMB B rl Z cl hc sl tk kp pa tr co ++ rest)) (xm_eq (.inl none) (wd Q0 Q1 Q2 Q3 Q4 ql qr qk qo QS QT QF QH qt ++ (wMB B rl Z1 (q_dial cl fr y m) hc1 sl tk kp pa tr 0 ++ rest))) := by
  obtain ⟨⟨f0, g0, n0⟩, ⟨f1, g1, n1⟩, ⟨f2, g2, n2⟩, ⟨f3, g3, n3⟩, ⟨f4, g4, n4⟩, pl, dr, ki, ow⟩ := B
  have hB := hM.1
  have hrl := hM.2
  obtain ⟨⟨h0, hp0⟩, ⟨h1, hp1⟩, ⟨h2, hp2⟩, ⟨h3, hp3⟩, ⟨h4, hp4⟩, hk⟩ := id hB
  dsimp only at h0 h1 h2 h3 h4 hp0 hp1 hp2 hp3 hp4 hk hrl
  refine xm_of (by decide) (Nat.le_of_ble_eq_true rfl) (fun E C0 => ?_)
  refine xs_eq (ω' := (wd Q0 Q1 Q2 Q3 Q4 ql qr qk qo QS QT QF QH qt ++ (wM (f0, g0, nI n0) (f1, g1, nI n1) (f2, g2, nI n2) (f3, g3, nI n3) (f4, g4, nI n4) pl dr ki rl Z cl hc sl tk kp pa tr co ++ rest))) (lv' := [(0, .ref 36), (1, .int (nI fr)), (2, .int (nI m)), (3, .int y)]) rfl rfl rfl ?_
  refine xs_aload_n C0 d_Md_dial_0 rfl 0 rfl ?_
  refine xs_iload_n C0 d_Md_dial_1 rfl 1 rfl ?_
  refine xs_iconst (v := 0) C0 d_Md_dial_2 (by decide) ?_
  refine xs_aload_n C0 d_Md_dial_3 rfl 0 rfl ?_
  refine xs_get (q := 36) (v := .int (nI n2)) C0 f_Md_117 d_Md_dial_4 rfl rfl ?_
  refine xs_cS1 (ω' := (wd Q0 Q1 Q2 Q3 Q4 ql qr qk qo QS QT QF QH qt ++ (wM (f0, g0, nI n0) (f1, g1, nI n1) (f2, g2, nI n2) (f3, g3, nI n3) (f4, g4, nI n4) pl dr ki rl Z cl hc sl tk kp pa tr co ++ rest))) (av := [.int (nI fr), .int 0, .int (nI n2)]) (st := [.ref 36]) (kc' := 0) (ks' := 0) (v := .int 1) C0 d_Md_dial_7 l_Md_96 (d_in1 _ (nI fr) 0 (nI n2) ha) rfl rfl rfl (Nat.le_of_ble_eq_true rfl) (Nat.le_of_ble_eq_true rfl) (Nat.le_of_ble_eq_true rfl) (Nat.le_of_ble_eq_true rfl) (Nat.le_of_ble_eq_true rfl) (Nat.le_of_ble_eq_true rfl) ?_
  refine xs_if_eq (tgt := 47) C0 d_Md_dial_10 (by decide) (fun c9 => absurd c9 (by decide)) (fun _ => ?_)
  refine xs_iload_n C0 d_Md_dial_13 rfl 2 rfl ?_
  refine xs_iconst (v := 0) C0 d_Md_dial_14 (by decide) ?_
  refine xs_aload_n C0 d_Md_dial_15 rfl 0 rfl ?_
  refine xs_get (q := 36) (v := .int (nI n2)) C0 f_Md_117 d_Md_dial_16 rfl rfl ?_
  refine xs_iload_n C0 d_Md_dial_19 rfl 1 rfl ?_
  refine xs_pc (pc' := 20) rfl ?_
  refine xs_iconst (v := 0) C0 d_Md_dial_20 (by decide) ?_
  refine xs_aload_n C0 d_Md_dial_21 rfl 0 rfl ?_
  refine xs_get (q := 36) (v := .int (nI n2)) C0 f_Md_117 d_Md_dial_22 rfl rfl ?_
  refine xs_cS1 (ω' := (wd Q0 Q1 Q2 Q3 Q4 ql qr qk qo QS QT QF QH qt ++ (wM (f0, g0, nI n0) (f1, g1, nI n1) (f2, g2, nI n2) (f3, g3, nI n3) (f4, g4, nI n4) pl dr ki rl Z cl hc sl tk kp pa tr co ++ rest))) (av := [.int (nI fr), .int 0, .int (nI n2)]) (st := [.int (nI n2), .int 0, .int (nI m), .ref 36]) (kc' := 0) (ks' := 0) (v := .int 1) C0 d_Md_dial_25 l_Md_96 (d_in1 _ (nI fr) 0 (nI n2) ha) rfl rfl rfl (Nat.le_of_ble_eq_true rfl) (Nat.le_of_ble_eq_true rfl) (Nat.le_of_ble_eq_true rfl) (Nat.le_of_ble_eq_true rfl) (Nat.le_of_ble_eq_true rfl) (Nat.le_of_ble_eq_true rfl) ?_
  refine xs_if_eq (tgt := 35) C0 d_Md_dial_28 (by decide) (fun c9 => absurd c9 (by decide)) (fun _ => ?_)
  refine xs_iload_n C0 d_Md_dial_31 rfl 1 rfl ?_
  refine xs_goto (tgt := 36) C0 d_Md_dial_32 (by decide) ?_
  refine xs_isub C0 d_Md_dial_36 ?_
  refine xs_cS1 (ω' := (wd Q0 Q1 Q2 Q3 Q4 ql qr qk qo QS QT QF QH qt ++ (wM (f0, g0, nI n0) (f1, g1, nI n1) (f2, g2, nI n2) (f3, g3, nI n3) (f4, g4, nI n4) pl dr ki rl Z cl hc sl tk kp pa tr co ++ rest))) (av := [.int (nI m), .int 0, .int ((nI n2) - (nI fr))]) (st := [.ref 36]) (kc' := 0) (ks' := 0) (v := .int 1) C0 d_Md_dial_37 l_Md_96 (d_in1 _ (nI m) 0 ((nI n2) - (nI fr)) hb) rfl rfl rfl (Nat.le_of_ble_eq_true rfl) (Nat.le_of_ble_eq_true rfl) (Nat.le_of_ble_eq_true rfl) (Nat.le_of_ble_eq_true rfl) (Nat.le_of_ble_eq_true rfl) (Nat.le_of_ble_eq_true rfl) ?_
  refine xs_if_eq (tgt := 47) C0 d_Md_dial_40 (by decide) (fun c9 => absurd c9 (by decide)) (fun _ => ?_)
  refine xs_iconst (v := 0) C0 d_Md_dial_43 (by decide) ?_
  refine xs_goto (tgt := 48) C0 d_Md_dial_44 (by decide) ?_
  refine xs_put (ω' := (wd Q0 Q1 Q2 Q3 Q4 ql qr qk qo QS QT QF QH qt ++ (wM (f0, g0, nI n0) (f1, g1, nI n1) (f2, g2, nI n2) (f3, g3, nI n3) (f4, g4, nI n4) pl dr ki rl Z cl hc sl tk kp pa tr 0 ++ rest))) C0 f_Md_92 ty_Md_0 d_Md_dial_48 rfl (Nat.le_of_ble_eq_true rfl) (fun _ => ⟨rfl, rfl⟩) rfl ?_
  refine xs_aload_n C0 d_Md_dial_51 rfl 0 rfl ?_
  refine xs_get (q := 36) (v := .int 0) C0 f_Md_92 d_Md_dial_52 rfl rfl ?_
  refine xs_if_le (tgt := 59) C0 d_Md_dial_55 (by decide) (fun _ => ?_) (fun c9 => absurd c9 (by decide))
  refine xs_iconst (v := 0) C0 d_Md_dial_59 (by decide) ?_
  refine xs_istore (lv' := [(4, .int 0), (0, .ref 36), (1, .int (nI fr)), (2, .int (nI m)), (3, .int y)]) C0 d_Md_dial_60 (by decide) rfl ?_
  refine xs_lv (lv' := [(0, .ref 36), (1, .int (nI fr)), (2, .int (nI m)), (3, .int y), (4, .int 0)]) [1, 2, 3, 4, 0] rfl ?_
  refine lp_qdial (ow := ow) (cl := cl) C0 hm ?_ m 0 (by omega)
  refine xs_aload_n C0 d_Md_dial_98 rfl 0 rfl ?_
  refine xs_cV0 (ω' := (wd Q0 Q1 Q2 Q3 Q4 ql qr qk qo QS QT QF QH qt ++ (wM (f0, g0, nI n0) (f1, g1, nI n1) (f2, g2, nI n2) (f3, g3, nI n3) (f4, g4, nI n4) pl dr ki rl Z1 (q_dial cl fr y m) hc1 sl tk kp pa tr 0 ++ rest))) (As := []) (st := []) (kc' := 0) (ks' := 0) C0 d_Md_dial_99 l_Md_111 rfl rfl (d_laf (B := ((f0, g0, n0), (f1, g1, n1), (f2, g2, n2), (f3, g3, n3), (f4, g4, n4), pl, dr, ki, ow)) hM hf) rfl rfl rfl (Nat.le_of_ble_eq_true rfl) (Nat.le_of_ble_eq_true rfl) (Nat.le_of_ble_eq_true rfl) (Nat.le_of_ble_eq_true rfl) (Nat.le_of_ble_eq_true rfl) (Nat.le_of_ble_eq_true rfl) ?_
  exact xs_vret C0 d_Md_dial_102 (⟨rfl, rfl⟩) (Nat.le_of_ble_eq_true rfl) (Nat.le_of_ble_eq_true rfl)
set_option maxHeartbeats 4000000 in
set_option maxRecDepth 100000 in
theorem d_dialT {Q0 Q1 Q2 Q3 Q4 : wt_P} {ql qr qk qo : Nat → Int32} {QS QT : wt_S} {QF : wt_F} {QH : wt_H} {qt : Int32} {B : wb} {rl : Nat → Int32} {Z : mt_S} {cl : Nat → Int32} {hc : mt_H} {sl tk : Int32} {kp : mt_K} {pa : Nat → Int32} {tr : mt_T} {co : Int32} {rest : xm_O} {x y q : Int32} (hM : okM B rl) (h : ¬ (gw x 0 (nI B.2.2.1.2.2) ∧ gw q 0 (nI B.2.2.1.2.2 - x))) : xm_M y_Md_dial (Cond.code y_Md_dial b_Md_dial 5 none) (xm_rm 4 0 0) [.ref 36, .int x, .int q, .int y] (wd Q0 Q1 Q2 Q3 Q4 ql qr qk qo QS QT QF QH qt ++ (wMB B rl Z cl hc sl tk kp pa tr co ++ rest)) (xm_eq (.inl none) (wd Q0 Q1 Q2 Q3 Q4 ql qr qk qo QS QT QF QH qt ++ (wMB B rl Z cl hc sl tk kp pa tr 1 ++ rest))) := by
  obtain ⟨⟨f0, g0, n0⟩, ⟨f1, g1, n1⟩, ⟨f2, g2, n2⟩, ⟨f3, g3, n3⟩, ⟨f4, g4, n4⟩, pl, dr, ki, ow⟩ := B
  have hB := hM.1
  have hrl := hM.2
  obtain ⟨⟨h0, hp0⟩, ⟨h1, hp1⟩, ⟨h2, hp2⟩, ⟨h3, hp3⟩, ⟨h4, hp4⟩, hk⟩ := id hB
  dsimp only at h0 h1 h2 h3 h4 hp0 hp1 hp2 hp3 hp4 hk hrl
  refine xm_of (by decide) (Nat.le_of_ble_eq_true rfl) (fun E C0 => ?_)
  refine xs_eq (ω' := (wd Q0 Q1 Q2 Q3 Q4 ql qr qk qo QS QT QF QH qt ++ (wM (f0, g0, nI n0) (f1, g1, nI n1) (f2, g2, nI n2) (f3, g3, nI n3) (f4, g4, nI n4) pl dr ki rl Z cl hc sl tk kp pa tr co ++ rest))) (lv' := [(0, .ref 36), (1, .int x), (2, .int q), (3, .int y)]) rfl rfl rfl ?_
  by_cases ha : gw x 0 (nI n2)
  · refine xs_aload_n C0 d_Md_dial_0 rfl 0 rfl ?_
    refine xs_iload_n C0 d_Md_dial_1 rfl 1 rfl ?_
    refine xs_iconst (v := 0) C0 d_Md_dial_2 (by decide) ?_
    refine xs_aload_n C0 d_Md_dial_3 rfl 0 rfl ?_
    refine xs_get (q := 36) (v := .int (nI n2)) C0 f_Md_117 d_Md_dial_4 rfl rfl ?_
    refine xs_cS1 (ω' := (wd Q0 Q1 Q2 Q3 Q4 ql qr qk qo QS QT QF QH qt ++ (wM (f0, g0, nI n0) (f1, g1, nI n1) (f2, g2, nI n2) (f3, g3, nI n3) (f4, g4, nI n4) pl dr ki rl Z cl hc sl tk kp pa tr co ++ rest))) (av := [.int x, .int 0, .int (nI n2)]) (st := [.ref 36]) (kc' := 0) (ks' := 0) (v := .int 1) C0 d_Md_dial_7 l_Md_96 (d_in1 _ x 0 (nI n2) ha) rfl rfl rfl (Nat.le_of_ble_eq_true rfl) (Nat.le_of_ble_eq_true rfl) (Nat.le_of_ble_eq_true rfl) (Nat.le_of_ble_eq_true rfl) (Nat.le_of_ble_eq_true rfl) (Nat.le_of_ble_eq_true rfl) ?_
    refine xs_if_eq (tgt := 47) C0 d_Md_dial_10 (by decide) (fun c9 => absurd c9 (by decide)) (fun _ => ?_)
    refine xs_iload_n C0 d_Md_dial_13 rfl 2 rfl ?_
    refine xs_iconst (v := 0) C0 d_Md_dial_14 (by decide) ?_
    refine xs_aload_n C0 d_Md_dial_15 rfl 0 rfl ?_
    refine xs_get (q := 36) (v := .int (nI n2)) C0 f_Md_117 d_Md_dial_16 rfl rfl ?_
    refine xs_iload_n C0 d_Md_dial_19 rfl 1 rfl ?_
    refine xs_pc (pc' := 20) rfl ?_
    refine xs_iconst (v := 0) C0 d_Md_dial_20 (by decide) ?_
    refine xs_aload_n C0 d_Md_dial_21 rfl 0 rfl ?_
    refine xs_get (q := 36) (v := .int (nI n2)) C0 f_Md_117 d_Md_dial_22 rfl rfl ?_
    refine xs_cS1 (ω' := (wd Q0 Q1 Q2 Q3 Q4 ql qr qk qo QS QT QF QH qt ++ (wM (f0, g0, nI n0) (f1, g1, nI n1) (f2, g2, nI n2) (f3, g3, nI n3) (f4, g4, nI n4) pl dr ki rl Z cl hc sl tk kp pa tr co ++ rest))) (av := [.int x, .int 0, .int (nI n2)]) (st := [.int (nI n2), .int 0, .int q, .ref 36]) (kc' := 0) (ks' := 0) (v := .int 1) C0 d_Md_dial_25 l_Md_96 (d_in1 _ x 0 (nI n2) ha) rfl rfl rfl (Nat.le_of_ble_eq_true rfl) (Nat.le_of_ble_eq_true rfl) (Nat.le_of_ble_eq_true rfl) (Nat.le_of_ble_eq_true rfl) (Nat.le_of_ble_eq_true rfl) (Nat.le_of_ble_eq_true rfl) ?_
    refine xs_if_eq (tgt := 35) C0 d_Md_dial_28 (by decide) (fun c9 => absurd c9 (by decide)) (fun _ => ?_)
    refine xs_iload_n C0 d_Md_dial_31 rfl 1 rfl ?_
    refine xs_goto (tgt := 36) C0 d_Md_dial_32 (by decide) ?_
    refine xs_isub C0 d_Md_dial_36 ?_
    refine xs_cS1 (ω' := (wd Q0 Q1 Q2 Q3 Q4 ql qr qk qo QS QT QF QH qt ++ (wM (f0, g0, nI n0) (f1, g1, nI n1) (f2, g2, nI n2) (f3, g3, nI n3) (f4, g4, nI n4) pl dr ki rl Z cl hc sl tk kp pa tr co ++ rest))) (av := [.int q, .int 0, .int ((nI n2) - x)]) (st := [.ref 36]) (kc' := 0) (ks' := 0) (v := .int 0) C0 d_Md_dial_37 l_Md_96 (d_in0 _ q 0 ((nI n2) - x) (fun h9 => h ⟨ha, h9⟩)) rfl rfl rfl (Nat.le_of_ble_eq_true rfl) (Nat.le_of_ble_eq_true rfl) (Nat.le_of_ble_eq_true rfl) (Nat.le_of_ble_eq_true rfl) (Nat.le_of_ble_eq_true rfl) (Nat.le_of_ble_eq_true rfl) ?_
    refine xs_if_eq (tgt := 47) C0 d_Md_dial_40 (by decide) (fun _ => ?_) (fun c9 => absurd rfl c9)
    refine xs_iconst (v := 1) C0 d_Md_dial_47 (by decide) ?_
    refine xs_put (ω' := (wd Q0 Q1 Q2 Q3 Q4 ql qr qk qo QS QT QF QH qt ++ (wM (f0, g0, nI n0) (f1, g1, nI n1) (f2, g2, nI n2) (f3, g3, nI n3) (f4, g4, nI n4) pl dr ki rl Z cl hc sl tk kp pa tr 1 ++ rest))) C0 f_Md_92 ty_Md_0 d_Md_dial_48 rfl (Nat.le_of_ble_eq_true rfl) (fun _ => ⟨rfl, rfl⟩) rfl ?_
    refine xs_aload_n C0 d_Md_dial_51 rfl 0 rfl ?_
    refine xs_get (q := 36) (v := .int 1) C0 f_Md_92 d_Md_dial_52 rfl rfl ?_
    refine xs_if_le (tgt := 59) C0 d_Md_dial_55 (by decide) (fun c9 => absurd c9 (by decide)) (fun _ => ?_)
    exact xs_vret C0 d_Md_dial_58 (⟨rfl, rfl⟩) (Nat.le_of_ble_eq_true rfl) (Nat.le_of_ble_eq_true rfl)
  · refine xs_aload_n C0 d_Md_dial_0 rfl 0 rfl ?_
    refine xs_iload_n C0 d_Md_dial_1 rfl 1 rfl ?_
    refine xs_iconst (v := 0) C0 d_Md_dial_2 (by decide) ?_
    refine xs_aload_n C0 d_Md_dial_3 rfl 0 rfl ?_
    refine xs_get (q := 36) (v := .int (nI n2)) C0 f_Md_117 d_Md_dial_4 rfl rfl ?_
    refine xs_cS1 (ω' := (wd Q0 Q1 Q2 Q3 Q4 ql qr qk qo QS QT QF QH qt ++ (wM (f0, g0, nI n0) (f1, g1, nI n1) (f2, g2, nI n2) (f3, g3, nI n3) (f4, g4, nI n4) pl dr ki rl Z cl hc sl tk kp pa tr co ++ rest))) (av := [.int x, .int 0, .int (nI n2)]) (st := [.ref 36]) (kc' := 0) (ks' := 0) (v := .int 0) C0 d_Md_dial_7 l_Md_96 (d_in0 _ x 0 (nI n2) ha) rfl rfl rfl (Nat.le_of_ble_eq_true rfl) (Nat.le_of_ble_eq_true rfl) (Nat.le_of_ble_eq_true rfl) (Nat.le_of_ble_eq_true rfl) (Nat.le_of_ble_eq_true rfl) (Nat.le_of_ble_eq_true rfl) ?_
    refine xs_if_eq (tgt := 47) C0 d_Md_dial_10 (by decide) (fun _ => ?_) (fun c9 => absurd rfl c9)
    refine xs_iconst (v := 1) C0 d_Md_dial_47 (by decide) ?_
    refine xs_put (ω' := (wd Q0 Q1 Q2 Q3 Q4 ql qr qk qo QS QT QF QH qt ++ (wM (f0, g0, nI n0) (f1, g1, nI n1) (f2, g2, nI n2) (f3, g3, nI n3) (f4, g4, nI n4) pl dr ki rl Z cl hc sl tk kp pa tr 1 ++ rest))) C0 f_Md_92 ty_Md_0 d_Md_dial_48 rfl (Nat.le_of_ble_eq_true rfl) (fun _ => ⟨rfl, rfl⟩) rfl ?_
    refine xs_aload_n C0 d_Md_dial_51 rfl 0 rfl ?_
    refine xs_get (q := 36) (v := .int 1) C0 f_Md_92 d_Md_dial_52 rfl rfl ?_
    refine xs_if_le (tgt := 59) C0 d_Md_dial_55 (by decide) (fun c9 => absurd c9 (by decide)) (fun _ => ?_)
    exact xs_vret C0 d_Md_dial_58 (⟨rfl, rfl⟩) (Nat.le_of_ble_eq_true rfl) (Nat.le_of_ble_eq_true rfl)
set_option maxHeartbeats 4000000 in
set_option maxRecDepth 100000 in
theorem lp_qtick {Q0 Q1 Q2 Q3 Q4 : wt_P} {ql qr qk qo : Nat → Int32} {QS QT : wt_S} {QF : wt_F} {QH : wt_H} {qt : Int32} {f0 g0 f1 g1 f2 g2 f3 g3 f4 g4 : Nat → Int32} {n0 n1 n2 n3 n4 : Nat} {pl dr ki ow rl : Nat → Int32} {cl : Nat → Int32} {sl tk : Int32} {kp : mt_K} {pa : Nat → Int32} {tr : mt_T} {co : Int32} {rest : xm_O} {n : Nat} {Z0 : mt_S} {H0 : mt_H} {E : xm_X} {Q : State → Prop} (C0 : xm_C E y_Md_tick.cls b_Md_tick 4 (some .int) [] y_Md_tick.name (xm_rm 5 0 0)) (hM : okM ((f0, g0, n0), (f1, g1, n1), (f2, g2, n2), (f3, g3, n3), (f4, g4, n4), pl, dr, ki, ow) rl) (hn : n ≤ 500) (kx : ∀ (x : Int32) (Z : mt_S) (hc : mt_H), q_tick ((f0, g0, n0), (f1, g1, n1), (f2, g2, n2), (f3, g3, n3), (f4, g4, n4), pl, dr, ki, ow) rl cl sl Z0 H0 n = (x, Z, hc) → xm_W E 4 Q 0 0 (wd Q0 Q1 Q2 Q3 Q4 ql qr qk qo QS QT QF QH qt ++ (wM (f0, g0, nI n0) (f1, g1, nI n1) (f2, g2, nI n2) (f3, g3, nI n3) (f4, g4, nI n4) pl dr ki rl Z cl hc sl tk kp pa tr co ++ rest)) 59 [(0, .ref 36), (1, .int (nI n)), (2, .int x)] []) : ∀ j : Nat, ∀ (i : Nat) (x : Int32) (Z : mt_S) (hc : mt_H), i + j = n → q_tick ((f0, g0, n0), (f1, g1, n1), (f2, g2, n2), (f3, g3, n3), (f4, g4, n4), pl, dr, ki, ow) rl cl sl Z0 H0 i = (x, Z, hc) → xm_W E 4 Q 0 0 (wd Q0 Q1 Q2 Q3 Q4 ql qr qk qo QS QT QF QH qt ++ (wM (f0, g0, nI n0) (f1, g1, nI n1) (f2, g2, nI n2) (f3, g3, nI n3) (f4, g4, nI n4) pl dr ki rl Z cl hc sl tk kp pa tr co ++ rest)) 33 [(0, .ref 36), (1, .int (nI n)), (2, .int x), (3, .int (nI i))] [] := by
  intro j
  induction j with
  | zero =>
    intro i x Z hc hi hT
    have e : n = i := by omega
    subst e
    refine xs_iload_n C0 d_Md_tick_33 rfl 3 rfl ?_
    refine xs_iload_n C0 d_Md_tick_34 rfl 1 rfl ?_
    refine xs_icmp_ge (tgt := 59) C0 d_Md_tick_35 (by decide) (fun _ => ?_) (fun c9 => absurd (nI_le (Nat.le_refl _) (by omega)) c9)
    refine xs_lv (lv' := [(0, .ref 36), (1, .int (nI n)), (2, .int x)]) [0, 1, 2] rfl ?_
    exact kx x Z hc hT
  | succ j ih =>
    intro i x Z hc hi hT
    have hlt : i < n := by omega
    refine xs_iload_n C0 d_Md_tick_33 rfl 3 rfl ?_
    refine xs_iload_n C0 d_Md_tick_34 rfl 1 rfl ?_
    refine xs_icmp_ge (tgt := 59) C0 d_Md_tick_35 (by decide) (fun c9 => absurd c9 (nI_ge hlt (by omega))) (fun _ => ?_)
    refine xs_iload_n C0 d_Md_tick_38 rfl 2 rfl ?_
    refine xs_aload_n C0 d_Md_tick_39 rfl 0 rfl ?_
    obtain ⟨b_1, Z_2, hc_3, hb_1⟩ : ∃ X9 Y9 Z9, m_t1 ((f0, g0, n0), (f1, g1, n1), (f2, g2, n2), (f3, g3, n3), (f4, g4, n4), pl, dr, ki, ow) rl cl sl Z hc = (X9, Y9, Z9) := ⟨_, _, _, rfl⟩
    refine xs_cV1 (ω' := (wd Q0 Q1 Q2 Q3 Q4 ql qr qk qo QS QT QF QH qt ++ (wM (f0, g0, nI n0) (f1, g1, nI n1) (f2, g2, nI n2) (f3, g3, nI n3) (f4, g4, nI n4) pl dr ki rl Z_2 cl hc_3 sl tk kp pa tr co ++ rest))) (As := []) (st := [.int x]) (kc' := 0) (ks' := 0) (v := .int b_1) C0 d_Md_tick_40 l_Md_177 rfl rfl (d_t1 (B := ((f0, g0, n0), (f1, g1, n1), (f2, g2, n2), (f3, g3, n3), (f4, g4, n4), pl, dr, ki, ow)) hM hb_1) rfl rfl rfl (Nat.le_of_ble_eq_true rfl) (Nat.le_of_ble_eq_true rfl) (Nat.le_of_ble_eq_true rfl) (Nat.le_of_ble_eq_true rfl) (Nat.le_of_ble_eq_true rfl) (Nat.le_of_ble_eq_true rfl) ?_
    refine xs_bz_eq (u := 1) (v := 0) (tgt := 50) (J := 51) C0 d_Md_tick_43 (by decide) d_Md_tick_46 (by decide) d_Md_tick_47 (by decide) d_Md_tick_50 (by decide) rfl ?_
    refine xs_iadd C0 d_Md_tick_51 ?_
    refine xs_istore_n (lv' := [(2, .int (x + (if ¬ b_1 = 0 then 1 else 0))), (0, .ref 36), (1, .int (nI n)), (3, .int (nI i))]) C0 d_Md_tick_52 rfl (by decide) rfl ?_
    refine xs_iinc (v := nI (i + 1)) (lv' := [(3, .int (nI (i + 1))), (2, .int (x + (if ¬ b_1 = 0 then 1 else 0))), (0, .ref 36), (1, .int (nI n))]) C0 d_Md_tick_53 3 rfl (by rw [← nI_1]; rfl) (by decide) rfl ?_
    refine xs_goto (tgt := 33) C0 d_Md_tick_56 (by decide) ?_
    refine xs_lv (lv' := [(0, .ref 36), (1, .int (nI n)), (2, .int (x + (if ¬ b_1 = 0 then 1 else 0))), (3, .int (nI (i + 1)))]) [2, 3, 1, 0] rfl ?_
    exact ih (i + 1) _ _ _ (by omega) (by rw [q_tick, hT]; dsimp only; rw [hb_1])
set_option maxHeartbeats 4000000 in
set_option maxRecDepth 100000 in
theorem d_tick {Q0 Q1 Q2 Q3 Q4 : wt_P} {ql qr qk qo : Nat → Int32} {QS QT : wt_S} {QF : wt_F} {QH : wt_H} {qt : Int32} {B : wb} {rl : Nat → Int32} {Z : mt_S} {cl : Nat → Int32} {hc : mt_H} {sl tk : Int32} {kp : mt_K} {pa : Nat → Int32} {tr : mt_T} {co : Int32} {rest : xm_O} {n : Nat} {x : Int32} {Z1 : mt_S} {hc1 : mt_H} (hM : okM B rl) (hn : n ≤ 500) (h : gw (nI n) 1 500) (hf : q_tick B rl cl sl Z hc n = (x, Z1, hc1)) : xm_M y_Md_tick (Cond.code y_Md_tick b_Md_tick 4 (some .int)) (xm_rm 5 0 0) [.ref 36, .int (nI n)] (wd Q0 Q1 Q2 Q3 Q4 ql qr qk qo QS QT QF QH qt ++ (wMB B rl Z cl hc sl tk kp pa tr co ++ rest)) (xm_eq (.inl (some (.int x))) (wd Q0 Q1 Q2 Q3 Q4 ql qr qk qo QS QT QF QH qt ++ (wMB B rl Z1 cl hc1 sl (tk + nI n) kp pa tr 0 ++ rest))) := by
  obtain ⟨⟨f0, g0, n0⟩, ⟨f1, g1, n1⟩, ⟨f2, g2, n2⟩, ⟨f3, g3, n3⟩, ⟨f4, g4, n4⟩, pl, dr, ki, ow⟩ := B
  have hB := hM.1
  have hrl := hM.2
  obtain ⟨⟨h0, hp0⟩, ⟨h1, hp1⟩, ⟨h2, hp2⟩, ⟨h3, hp3⟩, ⟨h4, hp4⟩, hk⟩ := id hB
  dsimp only at h0 h1 h2 h3 h4 hp0 hp1 hp2 hp3 hp4 hk hrl
  refine xm_of (by decide) (Nat.le_of_ble_eq_true rfl) (fun E C0 => ?_)
  refine xs_eq (ω' := (wd Q0 Q1 Q2 Q3 Q4 ql qr qk qo QS QT QF QH qt ++ (wM (f0, g0, nI n0) (f1, g1, nI n1) (f2, g2, nI n2) (f3, g3, nI n3) (f4, g4, nI n4) pl dr ki rl Z cl hc sl tk kp pa tr co ++ rest))) (lv' := [(0, .ref 36), (1, .int (nI n))]) rfl rfl rfl ?_
  refine xs_aload_n C0 d_Md_tick_0 rfl 0 rfl ?_
  refine xs_iload_n C0 d_Md_tick_1 rfl 1 rfl ?_
  refine xs_iconst (v := 1) C0 d_Md_tick_2 (by decide) ?_
  refine xs_sipush (v := 500) C0 d_Md_tick_3 (by decide) ?_
  refine xs_cS1 (ω' := (wd Q0 Q1 Q2 Q3 Q4 ql qr qk qo QS QT QF QH qt ++ (wM (f0, g0, nI n0) (f1, g1, nI n1) (f2, g2, nI n2) (f3, g3, nI n3) (f4, g4, nI n4) pl dr ki rl Z cl hc sl tk kp pa tr co ++ rest))) (av := [.int (nI n), .int 1, .int 500]) (st := [.ref 36]) (kc' := 0) (ks' := 0) (v := .int 1) C0 d_Md_tick_6 l_Md_96 (d_in1 _ (nI n) 1 500 h) rfl rfl rfl (Nat.le_of_ble_eq_true rfl) (Nat.le_of_ble_eq_true rfl) (Nat.le_of_ble_eq_true rfl) (Nat.le_of_ble_eq_true rfl) (Nat.le_of_ble_eq_true rfl) (Nat.le_of_ble_eq_true rfl) ?_
  refine xs_if_eq (tgt := 16) C0 d_Md_tick_9 (by decide) (fun c9 => absurd c9 (by decide)) (fun _ => ?_)
  refine xs_iconst (v := 0) C0 d_Md_tick_12 (by decide) ?_
  refine xs_goto (tgt := 17) C0 d_Md_tick_13 (by decide) ?_
  refine xs_put (ω' := (wd Q0 Q1 Q2 Q3 Q4 ql qr qk qo QS QT QF QH qt ++ (wM (f0, g0, nI n0) (f1, g1, nI n1) (f2, g2, nI n2) (f3, g3, nI n3) (f4, g4, nI n4) pl dr ki rl Z cl hc sl tk kp pa tr 0 ++ rest))) C0 f_Md_92 ty_Md_0 d_Md_tick_17 rfl (Nat.le_of_ble_eq_true rfl) (fun _ => ⟨rfl, rfl⟩) rfl ?_
  refine xs_aload_n C0 d_Md_tick_20 rfl 0 rfl ?_
  refine xs_get (q := 36) (v := .int 0) C0 f_Md_92 d_Md_tick_21 rfl rfl ?_
  refine xs_if_le (tgt := 29) C0 d_Md_tick_24 (by decide) (fun _ => ?_) (fun c9 => absurd c9 (by decide))
  refine xs_iconst (v := 0) C0 d_Md_tick_29 (by decide) ?_
  refine xs_istore_n (lv' := [(2, .int 0), (0, .ref 36), (1, .int (nI n))]) C0 d_Md_tick_30 rfl (by decide) rfl ?_
  refine xs_iconst (v := 0) C0 d_Md_tick_31 (by decide) ?_
  refine xs_istore_n (lv' := [(3, .int 0), (2, .int 0), (0, .ref 36), (1, .int (nI n))]) C0 d_Md_tick_32 rfl (by decide) rfl ?_
  refine xs_lv (lv' := [(0, .ref 36), (1, .int (nI n)), (2, .int 0), (3, .int 0)]) [2, 3, 1, 0] rfl ?_
  refine lp_qtick (Z0 := Z) (H0 := hc) C0 hM hn (fun x9 S9 F9 hT => ?_) n 0 _ _ _ (by omega) rfl
  rw [hf] at hT
  cases hT
  refine xs_aload_n C0 d_Md_tick_59 rfl 0 rfl ?_
  refine xs_dup C0 d_Md_tick_60 rfl ?_
  refine xs_get (q := 36) (v := .int tk) C0 f_Md_171 d_Md_tick_61 rfl rfl ?_
  refine xs_iload_n C0 d_Md_tick_64 rfl 1 rfl ?_
  refine xs_iadd C0 d_Md_tick_65 ?_
  refine xs_put (ω' := (wd Q0 Q1 Q2 Q3 Q4 ql qr qk qo QS QT QF QH qt ++ (wM (f0, g0, nI n0) (f1, g1, nI n1) (f2, g2, nI n2) (f3, g3, nI n3) (f4, g4, nI n4) pl dr ki rl Z1 cl hc1 sl (tk + (nI n)) kp pa tr 0 ++ rest))) C0 f_Md_171 ty_Md_6 d_Md_tick_66 rfl (Nat.le_of_ble_eq_true rfl) (fun _ => ⟨rfl, rfl⟩) rfl ?_
  refine xs_iload_n C0 d_Md_tick_69 rfl 2 rfl ?_
  exact xs_iret C0 d_Md_tick_70 (⟨rfl, rfl⟩) (Nat.le_of_ble_eq_true rfl) (Nat.le_of_ble_eq_true rfl)
set_option maxHeartbeats 4000000 in
set_option maxRecDepth 100000 in
theorem d_tickT {Q0 Q1 Q2 Q3 Q4 : wt_P} {ql qr qk qo : Nat → Int32} {QS QT : wt_S} {QF : wt_F} {QH : wt_H} {qt : Int32} {B : wb} {rl : Nat → Int32} {Z : mt_S} {cl : Nat → Int32} {hc : mt_H} {sl tk : Int32} {kp : mt_K} {pa : Nat → Int32} {tr : mt_T} {co : Int32} {rest : xm_O} {y : Int32} (hM : okM B rl) (h : ¬ gw y 1 500) : xm_M y_Md_tick (Cond.code y_Md_tick b_Md_tick 4 (some .int)) (xm_rm 5 0 0) [.ref 36, .int y] (wd Q0 Q1 Q2 Q3 Q4 ql qr qk qo QS QT QF QH qt ++ (wMB B rl Z cl hc sl tk kp pa tr co ++ rest)) (xm_eq (.inl (some (.int 0))) (wd Q0 Q1 Q2 Q3 Q4 ql qr qk qo QS QT QF QH qt ++ (wMB B rl Z cl hc sl tk kp pa tr 1 ++ rest))) := by
  obtain ⟨⟨f0, g0, n0⟩, ⟨f1, g1, n1⟩, ⟨f2, g2, n2⟩, ⟨f3, g3, n3⟩, ⟨f4, g4, n4⟩, pl, dr, ki, ow⟩ := B
  have hB := hM.1
  have hrl := hM.2
  obtain ⟨⟨h0, hp0⟩, ⟨h1, hp1⟩, ⟨h2, hp2⟩, ⟨h3, hp3⟩, ⟨h4, hp4⟩, hk⟩ := id hB
  dsimp only at h0 h1 h2 h3 h4 hp0 hp1 hp2 hp3 hp4 hk hrl
  refine xm_of (by decide) (Nat.le_of_ble_eq_true rfl) (fun E C0 => ?_)
  refine xs_eq (ω' := (wd Q0 Q1 Q2 Q3 Q4 ql qr qk qo QS QT QF QH qt ++ (wM (f0, g0, nI n0) (f1, g1, nI n1) (f2, g2, nI n2) (f3, g3, nI n3) (f4, g4, nI n4) pl dr ki rl Z cl hc sl tk kp pa tr co ++ rest))) (lv' := [(0, .ref 36), (1, .int y)]) rfl rfl rfl ?_
  refine xs_aload_n C0 d_Md_tick_0 rfl 0 rfl ?_
  refine xs_iload_n C0 d_Md_tick_1 rfl 1 rfl ?_
  refine xs_iconst (v := 1) C0 d_Md_tick_2 (by decide) ?_
  refine xs_sipush (v := 500) C0 d_Md_tick_3 (by decide) ?_
  refine xs_cS1 (ω' := (wd Q0 Q1 Q2 Q3 Q4 ql qr qk qo QS QT QF QH qt ++ (wM (f0, g0, nI n0) (f1, g1, nI n1) (f2, g2, nI n2) (f3, g3, nI n3) (f4, g4, nI n4) pl dr ki rl Z cl hc sl tk kp pa tr co ++ rest))) (av := [.int y, .int 1, .int 500]) (st := [.ref 36]) (kc' := 0) (ks' := 0) (v := .int 0) C0 d_Md_tick_6 l_Md_96 (d_in0 _ y 1 500 h) rfl rfl rfl (Nat.le_of_ble_eq_true rfl) (Nat.le_of_ble_eq_true rfl) (Nat.le_of_ble_eq_true rfl) (Nat.le_of_ble_eq_true rfl) (Nat.le_of_ble_eq_true rfl) (Nat.le_of_ble_eq_true rfl) ?_
  refine xs_if_eq (tgt := 16) C0 d_Md_tick_9 (by decide) (fun _ => ?_) (fun c9 => absurd rfl c9)
  refine xs_iconst (v := 1) C0 d_Md_tick_16 (by decide) ?_
  refine xs_put (ω' := (wd Q0 Q1 Q2 Q3 Q4 ql qr qk qo QS QT QF QH qt ++ (wM (f0, g0, nI n0) (f1, g1, nI n1) (f2, g2, nI n2) (f3, g3, nI n3) (f4, g4, nI n4) pl dr ki rl Z cl hc sl tk kp pa tr 1 ++ rest))) C0 f_Md_92 ty_Md_0 d_Md_tick_17 rfl (Nat.le_of_ble_eq_true rfl) (fun _ => ⟨rfl, rfl⟩) rfl ?_
  refine xs_aload_n C0 d_Md_tick_20 rfl 0 rfl ?_
  refine xs_get (q := 36) (v := .int 1) C0 f_Md_92 d_Md_tick_21 rfl rfl ?_
  refine xs_if_le (tgt := 29) C0 d_Md_tick_24 (by decide) (fun c9 => absurd c9 (by decide)) (fun _ => ?_)
  refine xs_iconst (v := 0) C0 d_Md_tick_27 (by decide) ?_
  exact xs_iret C0 d_Md_tick_28 (⟨rfl, rfl⟩) (Nat.le_of_ble_eq_true rfl) (Nat.le_of_ble_eq_true rfl)
set_option maxHeartbeats 4000000 in
set_option maxRecDepth 100000 in
theorem d_settle {Q0 Q1 Q2 Q3 Q4 : wt_P} {ql qr qk qo : Nat → Int32} {QS QT : wt_S} {QF : wt_F} {QH : wt_H} {qt : Int32} {B : wb} {rl : Nat → Int32} {Z : mt_S} {cl : Nat → Int32} {hc : mt_H} {sl tk : Int32} {kp : mt_K} {pa : Nat → Int32} {tr : mt_T} {co : Int32} {rest : xm_O} {m : Nat} {r : Int32} {Z1 : mt_S} {hc1 : mt_H} (hM : okM B rl) (hm : m ≤ 500) (hz : z01 Z) (h : gw (nI m) 0 500) (hf : m_run B rl cl sl m 0 (m_t1 B rl cl sl Z hc) = (r, Z1, hc1)) (hn1 : ¬ r = -1) : xm_M y_Md_settle (Cond.code y_Md_settle b_Md_settle 3 (some .int)) (xm_rm 6 0 0) [.ref 36, .int (nI m)] (wd Q0 Q1 Q2 Q3 Q4 ql qr qk qo QS QT QF QH qt ++ (wMB B rl Z cl hc sl tk kp pa tr co ++ rest)) (xm_eq (.inl (some (.int r))) (wd Q0 Q1 Q2 Q3 Q4 ql qr qk qo QS QT QF QH qt ++ (wMB B rl Z1 cl hc1 sl (tk + r) (m_keep Z tk kp) pa tr 0 ++ rest))) := by
  obtain ⟨⟨f0, g0, n0⟩, ⟨f1, g1, n1⟩, ⟨f2, g2, n2⟩, ⟨f3, g3, n3⟩, ⟨f4, g4, n4⟩, pl, dr, ki, ow⟩ := B
  have hB := hM.1
  have hrl := hM.2
  obtain ⟨⟨h0, hp0⟩, ⟨h1, hp1⟩, ⟨h2, hp2⟩, ⟨h3, hp3⟩, ⟨h4, hp4⟩, hk⟩ := id hB
  dsimp only at h0 h1 h2 h3 h4 hp0 hp1 hp2 hp3 hp4 hk hrl
  refine xm_of (by decide) (Nat.le_of_ble_eq_true rfl) (fun E C0 => ?_)
  refine xs_eq (ω' := (wd Q0 Q1 Q2 Q3 Q4 ql qr qk qo QS QT QF QH qt ++ (wM (f0, g0, nI n0) (f1, g1, nI n1) (f2, g2, nI n2) (f3, g3, nI n3) (f4, g4, nI n4) pl dr ki rl Z cl hc sl tk kp pa tr co ++ rest))) (lv' := [(0, .ref 36), (1, .int (nI m))]) rfl rfl rfl ?_
  refine xs_aload_n C0 d_Md_settle_0 rfl 0 rfl ?_
  refine xs_iload_n C0 d_Md_settle_1 rfl 1 rfl ?_
  refine xs_iconst (v := 0) C0 d_Md_settle_2 (by decide) ?_
  refine xs_sipush (v := 500) C0 d_Md_settle_3 (by decide) ?_
  refine xs_cS1 (ω' := (wd Q0 Q1 Q2 Q3 Q4 ql qr qk qo QS QT QF QH qt ++ (wM (f0, g0, nI n0) (f1, g1, nI n1) (f2, g2, nI n2) (f3, g3, nI n3) (f4, g4, nI n4) pl dr ki rl Z cl hc sl tk kp pa tr co ++ rest))) (av := [.int (nI m), .int 0, .int 500]) (st := [.ref 36]) (kc' := 0) (ks' := 0) (v := .int 1) C0 d_Md_settle_6 l_Md_96 (d_in1 _ (nI m) 0 500 h) rfl rfl rfl (Nat.le_of_ble_eq_true rfl) (Nat.le_of_ble_eq_true rfl) (Nat.le_of_ble_eq_true rfl) (Nat.le_of_ble_eq_true rfl) (Nat.le_of_ble_eq_true rfl) (Nat.le_of_ble_eq_true rfl) ?_
  refine xs_if_eq (tgt := 16) C0 d_Md_settle_9 (by decide) (fun c9 => absurd c9 (by decide)) (fun _ => ?_)
  refine xs_iconst (v := 0) C0 d_Md_settle_12 (by decide) ?_
  refine xs_goto (tgt := 17) C0 d_Md_settle_13 (by decide) ?_
  refine xs_put (ω' := (wd Q0 Q1 Q2 Q3 Q4 ql qr qk qo QS QT QF QH qt ++ (wM (f0, g0, nI n0) (f1, g1, nI n1) (f2, g2, nI n2) (f3, g3, nI n3) (f4, g4, nI n4) pl dr ki rl Z cl hc sl tk kp pa tr 0 ++ rest))) C0 f_Md_92 ty_Md_0 d_Md_settle_17 rfl (Nat.le_of_ble_eq_true rfl) (fun _ => ⟨rfl, rfl⟩) rfl ?_
  refine xs_aload_n C0 d_Md_settle_20 rfl 0 rfl ?_
  refine xs_get (q := 36) (v := .int 0) C0 f_Md_92 d_Md_settle_21 rfl rfl ?_
  refine xs_if_le (tgt := 29) C0 d_Md_settle_24 (by decide) (fun _ => ?_) (fun c9 => absurd c9 (by decide))
  refine xs_aload_n C0 d_Md_settle_29 rfl 0 rfl ?_
  obtain ⟨ms_1, mc_1, mw_1, mb_1⟩ := Z
  obtain ⟨ks_2, kc_2, kw_2, kb_2, kt_2⟩ := kp
  refine xs_cV0 (ω' := (wd Q0 Q1 Q2 Q3 Q4 ql qr qk qo QS QT QF QH qt ++ (wM (f0, g0, nI n0) (f1, g1, nI n1) (f2, g2, nI n2) (f3, g3, nI n3) (f4, g4, nI n4) pl dr ki rl (ms_1, mc_1, mw_1, mb_1) cl hc sl tk (cpn 16 ms_1 ks_2, cpn 16 mc_1 kc_2, cpn 16 mw_1 kw_2, mb_1, tk) pa tr 0 ++ rest))) (As := []) (st := []) (kc' := 0) (ks' := 0) C0 d_Md_settle_30 l_Md_181 rfl rfl (d_keep hz) rfl rfl rfl (Nat.le_of_ble_eq_true rfl) (Nat.le_of_ble_eq_true rfl) (Nat.le_of_ble_eq_true rfl) (Nat.le_of_ble_eq_true rfl) (Nat.le_of_ble_eq_true rfl) (Nat.le_of_ble_eq_true rfl) ?_
  refine xs_aload_n C0 d_Md_settle_33 rfl 0 rfl ?_
  refine xs_iload_n C0 d_Md_settle_34 rfl 1 rfl ?_
  refine xs_cV1 (ω' := (wd Q0 Q1 Q2 Q3 Q4 ql qr qk qo QS QT QF QH qt ++ (wM (f0, g0, nI n0) (f1, g1, nI n1) (f2, g2, nI n2) (f3, g3, nI n3) (f4, g4, nI n4) pl dr ki rl Z1 cl hc1 sl tk (cpn 16 ms_1 ks_2, cpn 16 mc_1 kc_2, cpn 16 mw_1 kw_2, mb_1, tk) pa tr 0 ++ rest))) (As := [.int (nI m)]) (st := []) (kc' := 0) (ks' := 0) (v := .int r) C0 d_Md_settle_35 l_Md_184 rfl rfl (d_run (B := ((f0, g0, n0), (f1, g1, n1), (f2, g2, n2), (f3, g3, n3), (f4, g4, n4), pl, dr, ki, ow)) hM (by omega) hf) rfl rfl rfl (Nat.le_of_ble_eq_true rfl) (Nat.le_of_ble_eq_true rfl) (Nat.le_of_ble_eq_true rfl) (Nat.le_of_ble_eq_true rfl) (Nat.le_of_ble_eq_true rfl) (Nat.le_of_ble_eq_true rfl) ?_
  refine xs_istore_n (lv' := [(2, .int r), (0, .ref 36), (1, .int (nI m))]) C0 d_Md_settle_38 rfl (by decide) rfl ?_
  refine xs_iload_n C0 d_Md_settle_39 rfl 0 rfl ?_
  refine xs_iconst (v := (-1)) C0 d_Md_settle_40 (by decide) ?_
  refine xs_icmp_ne (tgt := 55) C0 d_Md_settle_41 (by decide) (fun _ => ?_) (fun c9 => absurd c9 hn1)
  refine xs_aload_n C0 d_Md_settle_55 rfl 1 rfl ?_
  refine xs_dup C0 d_Md_settle_56 rfl ?_
  refine xs_get (q := 36) (v := .int tk) C0 f_Md_171 d_Md_settle_57 rfl rfl ?_
  refine xs_iload_n C0 d_Md_settle_60 rfl 0 rfl ?_
  refine xs_iadd C0 d_Md_settle_61 ?_
  refine xs_put (ω' := (wd Q0 Q1 Q2 Q3 Q4 ql qr qk qo QS QT QF QH qt ++ (wM (f0, g0, nI n0) (f1, g1, nI n1) (f2, g2, nI n2) (f3, g3, nI n3) (f4, g4, nI n4) pl dr ki rl Z1 cl hc1 sl (tk + r) (cpn 16 ms_1 ks_2, cpn 16 mc_1 kc_2, cpn 16 mw_1 kw_2, mb_1, tk) pa tr 0 ++ rest))) C0 f_Md_171 ty_Md_6 d_Md_settle_62 rfl (Nat.le_of_ble_eq_true rfl) (fun _ => ⟨rfl, rfl⟩) rfl ?_
  refine xs_iload_n C0 d_Md_settle_65 rfl 0 rfl ?_
  exact xs_iret C0 d_Md_settle_66 (⟨rfl, rfl⟩) (Nat.le_of_ble_eq_true rfl) (Nat.le_of_ble_eq_true rfl)
set_option maxHeartbeats 4000000 in
set_option maxRecDepth 100000 in
theorem d_settleU {Q0 Q1 Q2 Q3 Q4 : wt_P} {ql qr qk qo : Nat → Int32} {QS QT : wt_S} {QF : wt_F} {QH : wt_H} {qt : Int32} {B : wb} {rl : Nat → Int32} {Z : mt_S} {cl : Nat → Int32} {hc : mt_H} {sl tk : Int32} {kp : mt_K} {pa : Nat → Int32} {tr : mt_T} {co : Int32} {rest : xm_O} {m : Nat} {r : Int32} {Z1 : mt_S} {hc1 : mt_H} (hM : okM B rl) (hm : m ≤ 500) (hz : z01 Z) (h : gw (nI m) 0 500) (hf : m_run B rl cl sl m 0 (m_t1 B rl cl sl Z hc) = (r, Z1, hc1)) (hn1 : r = -1) : xm_M y_Md_settle (Cond.code y_Md_settle b_Md_settle 3 (some .int)) (xm_rm 6 0 0) [.ref 36, .int (nI m)] (wd Q0 Q1 Q2 Q3 Q4 ql qr qk qo QS QT QF QH qt ++ (wMB B rl Z cl hc sl tk kp pa tr co ++ rest)) (xm_eq (.inl (some (.int 0))) (wd Q0 Q1 Q2 Q3 Q4 ql qr qk qo QS QT QF QH qt ++ (wMB B rl (m_back (m_keep Z tk kp) Z1) cl hc1 sl tk (m_keep Z tk kp) pa tr 2 ++ rest))) := by
  obtain ⟨⟨f0, g0, n0⟩, ⟨f1, g1, n1⟩, ⟨f2, g2, n2⟩, ⟨f3, g3, n3⟩, ⟨f4, g4, n4⟩, pl, dr, ki, ow⟩ := B
  have hB := hM.1
  have hrl := hM.2
  obtain ⟨⟨h0, hp0⟩, ⟨h1, hp1⟩, ⟨h2, hp2⟩, ⟨h3, hp3⟩, ⟨h4, hp4⟩, hk⟩ := id hB
  dsimp only at h0 h1 h2 h3 h4 hp0 hp1 hp2 hp3 hp4 hk hrl
  refine xm_of (by decide) (Nat.le_of_ble_eq_true rfl) (fun E C0 => ?_)
  refine xs_eq (ω' := (wd Q0 Q1 Q2 Q3 Q4 ql qr qk qo QS QT QF QH qt ++ (wM (f0, g0, nI n0) (f1, g1, nI n1) (f2, g2, nI n2) (f3, g3, nI n3) (f4, g4, nI n4) pl dr ki rl Z cl hc sl tk kp pa tr co ++ rest))) (lv' := [(0, .ref 36), (1, .int (nI m))]) rfl rfl rfl ?_
  refine xs_aload_n C0 d_Md_settle_0 rfl 0 rfl ?_
  refine xs_iload_n C0 d_Md_settle_1 rfl 1 rfl ?_
  refine xs_iconst (v := 0) C0 d_Md_settle_2 (by decide) ?_
  refine xs_sipush (v := 500) C0 d_Md_settle_3 (by decide) ?_
  refine xs_cS1 (ω' := (wd Q0 Q1 Q2 Q3 Q4 ql qr qk qo QS QT QF QH qt ++ (wM (f0, g0, nI n0) (f1, g1, nI n1) (f2, g2, nI n2) (f3, g3, nI n3) (f4, g4, nI n4) pl dr ki rl Z cl hc sl tk kp pa tr co ++ rest))) (av := [.int (nI m), .int 0, .int 500]) (st := [.ref 36]) (kc' := 0) (ks' := 0) (v := .int 1) C0 d_Md_settle_6 l_Md_96 (d_in1 _ (nI m) 0 500 h) rfl rfl rfl (Nat.le_of_ble_eq_true rfl) (Nat.le_of_ble_eq_true rfl) (Nat.le_of_ble_eq_true rfl) (Nat.le_of_ble_eq_true rfl) (Nat.le_of_ble_eq_true rfl) (Nat.le_of_ble_eq_true rfl) ?_
  refine xs_if_eq (tgt := 16) C0 d_Md_settle_9 (by decide) (fun c9 => absurd c9 (by decide)) (fun _ => ?_)
  refine xs_iconst (v := 0) C0 d_Md_settle_12 (by decide) ?_
  refine xs_goto (tgt := 17) C0 d_Md_settle_13 (by decide) ?_
  refine xs_put (ω' := (wd Q0 Q1 Q2 Q3 Q4 ql qr qk qo QS QT QF QH qt ++ (wM (f0, g0, nI n0) (f1, g1, nI n1) (f2, g2, nI n2) (f3, g3, nI n3) (f4, g4, nI n4) pl dr ki rl Z cl hc sl tk kp pa tr 0 ++ rest))) C0 f_Md_92 ty_Md_0 d_Md_settle_17 rfl (Nat.le_of_ble_eq_true rfl) (fun _ => ⟨rfl, rfl⟩) rfl ?_
  refine xs_aload_n C0 d_Md_settle_20 rfl 0 rfl ?_
  refine xs_get (q := 36) (v := .int 0) C0 f_Md_92 d_Md_settle_21 rfl rfl ?_
  refine xs_if_le (tgt := 29) C0 d_Md_settle_24 (by decide) (fun _ => ?_) (fun c9 => absurd c9 (by decide))
  refine xs_aload_n C0 d_Md_settle_29 rfl 0 rfl ?_
  obtain ⟨ms_1, mc_1, mw_1, mb_1⟩ := Z
  obtain ⟨ks_2, kc_2, kw_2, kb_2, kt_2⟩ := kp
  refine xs_cV0 (ω' := (wd Q0 Q1 Q2 Q3 Q4 ql qr qk qo QS QT QF QH qt ++ (wM (f0, g0, nI n0) (f1, g1, nI n1) (f2, g2, nI n2) (f3, g3, nI n3) (f4, g4, nI n4) pl dr ki rl (ms_1, mc_1, mw_1, mb_1) cl hc sl tk (cpn 16 ms_1 ks_2, cpn 16 mc_1 kc_2, cpn 16 mw_1 kw_2, mb_1, tk) pa tr 0 ++ rest))) (As := []) (st := []) (kc' := 0) (ks' := 0) C0 d_Md_settle_30 l_Md_181 rfl rfl (d_keep hz) rfl rfl rfl (Nat.le_of_ble_eq_true rfl) (Nat.le_of_ble_eq_true rfl) (Nat.le_of_ble_eq_true rfl) (Nat.le_of_ble_eq_true rfl) (Nat.le_of_ble_eq_true rfl) (Nat.le_of_ble_eq_true rfl) ?_
  refine xs_aload_n C0 d_Md_settle_33 rfl 0 rfl ?_
  refine xs_iload_n C0 d_Md_settle_34 rfl 1 rfl ?_
  refine xs_cV1 (ω' := (wd Q0 Q1 Q2 Q3 Q4 ql qr qk qo QS QT QF QH qt ++ (wM (f0, g0, nI n0) (f1, g1, nI n1) (f2, g2, nI n2) (f3, g3, nI n3) (f4, g4, nI n4) pl dr ki rl Z1 cl hc1 sl tk (cpn 16 ms_1 ks_2, cpn 16 mc_1 kc_2, cpn 16 mw_1 kw_2, mb_1, tk) pa tr 0 ++ rest))) (As := [.int (nI m)]) (st := []) (kc' := 0) (ks' := 0) (v := .int r) C0 d_Md_settle_35 l_Md_184 rfl rfl (d_run (B := ((f0, g0, n0), (f1, g1, n1), (f2, g2, n2), (f3, g3, n3), (f4, g4, n4), pl, dr, ki, ow)) hM (by omega) hf) rfl rfl rfl (Nat.le_of_ble_eq_true rfl) (Nat.le_of_ble_eq_true rfl) (Nat.le_of_ble_eq_true rfl) (Nat.le_of_ble_eq_true rfl) (Nat.le_of_ble_eq_true rfl) (Nat.le_of_ble_eq_true rfl) ?_
  refine xs_istore_n (lv' := [(2, .int r), (0, .ref 36), (1, .int (nI m))]) C0 d_Md_settle_38 rfl (by decide) rfl ?_
  refine xs_iload_n C0 d_Md_settle_39 rfl 0 rfl ?_
  refine xs_iconst (v := (-1)) C0 d_Md_settle_40 (by decide) ?_
  refine xs_icmp_ne (tgt := 55) C0 d_Md_settle_41 (by decide) (fun c9 => absurd hn1 c9) (fun _ => ?_)
  refine xs_aload_n C0 d_Md_settle_44 rfl 1 rfl ?_
  obtain ⟨ms_3, mc_3, mw_3, mb_3⟩ := Z1
  refine xs_cV0 (ω' := (wd Q0 Q1 Q2 Q3 Q4 ql qr qk qo QS QT QF QH qt ++ (wM (f0, g0, nI n0) (f1, g1, nI n1) (f2, g2, nI n2) (f3, g3, nI n3) (f4, g4, nI n4) pl dr ki rl (cpn 16 (cpn 16 ms_1 ks_2) ms_3, cpn 16 (cpn 16 mc_1 kc_2) mc_3, cpn 16 (cpn 16 mw_1 kw_2) mw_3, mb_1) cl hc1 sl tk (cpn 16 ms_1 ks_2, cpn 16 mc_1 kc_2, cpn 16 mw_1 kw_2, mb_1, tk) pa tr 0 ++ rest))) (As := []) (st := []) (kc' := 0) (ks' := 0) C0 d_Md_settle_45 l_Md_187 rfl rfl (d_lb hz) rfl rfl rfl (Nat.le_of_ble_eq_true rfl) (Nat.le_of_ble_eq_true rfl) (Nat.le_of_ble_eq_true rfl) (Nat.le_of_ble_eq_true rfl) (Nat.le_of_ble_eq_true rfl) (Nat.le_of_ble_eq_true rfl) ?_
  refine xs_pc (pc' := 48) rfl ?_
  refine xs_aload_n C0 d_Md_settle_48 rfl 1 rfl ?_
  refine xs_iconst (v := 2) C0 d_Md_settle_49 (by decide) ?_
  refine xs_put (ω' := (wd Q0 Q1 Q2 Q3 Q4 ql qr qk qo QS QT QF QH qt ++ (wM (f0, g0, nI n0) (f1, g1, nI n1) (f2, g2, nI n2) (f3, g3, nI n3) (f4, g4, nI n4) pl dr ki rl (cpn 16 (cpn 16 ms_1 ks_2) ms_3, cpn 16 (cpn 16 mc_1 kc_2) mc_3, cpn 16 (cpn 16 mw_1 kw_2) mw_3, mb_1) cl hc1 sl tk (cpn 16 ms_1 ks_2, cpn 16 mc_1 kc_2, cpn 16 mw_1 kw_2, mb_1, tk) pa tr 2 ++ rest))) C0 f_Md_92 ty_Md_0 d_Md_settle_50 rfl (Nat.le_of_ble_eq_true rfl) (fun _ => ⟨rfl, rfl⟩) rfl ?_
  refine xs_iconst (v := 0) C0 d_Md_settle_53 (by decide) ?_
  exact xs_iret C0 d_Md_settle_54 (⟨rfl, rfl⟩) (Nat.le_of_ble_eq_true rfl) (Nat.le_of_ble_eq_true rfl)
set_option maxHeartbeats 4000000 in
set_option maxRecDepth 100000 in
theorem d_settleT {Q0 Q1 Q2 Q3 Q4 : wt_P} {ql qr qk qo : Nat → Int32} {QS QT : wt_S} {QF : wt_F} {QH : wt_H} {qt : Int32} {B : wb} {rl : Nat → Int32} {Z : mt_S} {cl : Nat → Int32} {hc : mt_H} {sl tk : Int32} {kp : mt_K} {pa : Nat → Int32} {tr : mt_T} {co : Int32} {rest : xm_O} {y : Int32} (hM : okM B rl) (h : ¬ gw y 0 500) : xm_M y_Md_settle (Cond.code y_Md_settle b_Md_settle 3 (some .int)) (xm_rm 6 0 0) [.ref 36, .int y] (wd Q0 Q1 Q2 Q3 Q4 ql qr qk qo QS QT QF QH qt ++ (wMB B rl Z cl hc sl tk kp pa tr co ++ rest)) (xm_eq (.inl (some (.int 0))) (wd Q0 Q1 Q2 Q3 Q4 ql qr qk qo QS QT QF QH qt ++ (wMB B rl Z cl hc sl tk kp pa tr 1 ++ rest))) := by
  obtain ⟨⟨f0, g0, n0⟩, ⟨f1, g1, n1⟩, ⟨f2, g2, n2⟩, ⟨f3, g3, n3⟩, ⟨f4, g4, n4⟩, pl, dr, ki, ow⟩ := B
  have hB := hM.1
  have hrl := hM.2
  obtain ⟨⟨h0, hp0⟩, ⟨h1, hp1⟩, ⟨h2, hp2⟩, ⟨h3, hp3⟩, ⟨h4, hp4⟩, hk⟩ := id hB
  dsimp only at h0 h1 h2 h3 h4 hp0 hp1 hp2 hp3 hp4 hk hrl
  refine xm_of (by decide) (Nat.le_of_ble_eq_true rfl) (fun E C0 => ?_)
  refine xs_eq (ω' := (wd Q0 Q1 Q2 Q3 Q4 ql qr qk qo QS QT QF QH qt ++ (wM (f0, g0, nI n0) (f1, g1, nI n1) (f2, g2, nI n2) (f3, g3, nI n3) (f4, g4, nI n4) pl dr ki rl Z cl hc sl tk kp pa tr co ++ rest))) (lv' := [(0, .ref 36), (1, .int y)]) rfl rfl rfl ?_
  refine xs_aload_n C0 d_Md_settle_0 rfl 0 rfl ?_
  refine xs_iload_n C0 d_Md_settle_1 rfl 1 rfl ?_
  refine xs_iconst (v := 0) C0 d_Md_settle_2 (by decide) ?_
  refine xs_sipush (v := 500) C0 d_Md_settle_3 (by decide) ?_
  refine xs_cS1 (ω' := (wd Q0 Q1 Q2 Q3 Q4 ql qr qk qo QS QT QF QH qt ++ (wM (f0, g0, nI n0) (f1, g1, nI n1) (f2, g2, nI n2) (f3, g3, nI n3) (f4, g4, nI n4) pl dr ki rl Z cl hc sl tk kp pa tr co ++ rest))) (av := [.int y, .int 0, .int 500]) (st := [.ref 36]) (kc' := 0) (ks' := 0) (v := .int 0) C0 d_Md_settle_6 l_Md_96 (d_in0 _ y 0 500 h) rfl rfl rfl (Nat.le_of_ble_eq_true rfl) (Nat.le_of_ble_eq_true rfl) (Nat.le_of_ble_eq_true rfl) (Nat.le_of_ble_eq_true rfl) (Nat.le_of_ble_eq_true rfl) (Nat.le_of_ble_eq_true rfl) ?_
  refine xs_if_eq (tgt := 16) C0 d_Md_settle_9 (by decide) (fun _ => ?_) (fun c9 => absurd rfl c9)
  refine xs_iconst (v := 1) C0 d_Md_settle_16 (by decide) ?_
  refine xs_put (ω' := (wd Q0 Q1 Q2 Q3 Q4 ql qr qk qo QS QT QF QH qt ++ (wM (f0, g0, nI n0) (f1, g1, nI n1) (f2, g2, nI n2) (f3, g3, nI n3) (f4, g4, nI n4) pl dr ki rl Z cl hc sl tk kp pa tr 1 ++ rest))) C0 f_Md_92 ty_Md_0 d_Md_settle_17 rfl (Nat.le_of_ble_eq_true rfl) (fun _ => ⟨rfl, rfl⟩) rfl ?_
  refine xs_aload_n C0 d_Md_settle_20 rfl 0 rfl ?_
  refine xs_get (q := 36) (v := .int 1) C0 f_Md_92 d_Md_settle_21 rfl rfl ?_
  refine xs_if_le (tgt := 29) C0 d_Md_settle_24 (by decide) (fun c9 => absurd c9 (by decide)) (fun _ => ?_)
  refine xs_iconst (v := 0) C0 d_Md_settle_27 (by decide) ?_
  exact xs_iret C0 d_Md_settle_28 (⟨rfl, rfl⟩) (Nat.le_of_ble_eq_true rfl) (Nat.le_of_ble_eq_true rfl)
set_option maxHeartbeats 4000000 in
set_option maxRecDepth 100000 in
theorem lp_qlit {Q0 Q1 Q2 Q3 Q4 : wt_P} {ql qr qk qo : Nat → Int32} {QS QT : wt_S} {QF : wt_F} {QH : wt_H} {qt : Int32} {f0 g0 f1 g1 f2 g2 f3 g3 f4 g4 : Nat → Int32} {n0 n1 n2 n3 n4 : Nat} {pl dr ki ow rl : Nat → Int32} {ms mc mw : Nat → Int32} {mb : Int32} {cl : Nat → Int32} {mh mo : Nat → Int32} {sl tk : Int32} {kp : mt_K} {pa : Nat → Int32} {tr : mt_T} {co : Int32} {rest : xm_O} {E : xm_X} {Q : State → Prop} (C0 : xm_C E y_Md_lit.cls b_Md_lit 3 (some .int) [] y_Md_lit.name (xm_rm 3 0 0)) (h4 : n4 ≤ 12) (hp4 : okP (f4, g4, nI n4) n4) (kx : xm_W E 3 Q 0 0 (wd Q0 Q1 Q2 Q3 Q4 ql qr qk qo QS QT QF QH qt ++ (wM (f0, g0, nI n0) (f1, g1, nI n1) (f2, g2, nI n2) (f3, g3, nI n3) (f4, g4, nI n4) pl dr ki rl (ms, mc, mw, mb) cl (mh, mo) sl tk kp pa tr co ++ rest)) 56 [(1, .int (q_lit mb (mh, mo) f4 g4 n4))] []) : ∀ j : Nat, ∀ (i : Nat) (bits : Int32), i + j = n4 → q_lit mb (mh, mo) f4 g4 i = bits → xm_W E 3 Q 0 0 (wd Q0 Q1 Q2 Q3 Q4 ql qr qk qo QS QT QF QH qt ++ (wM (f0, g0, nI n0) (f1, g1, nI n1) (f2, g2, nI n2) (f3, g3, nI n3) (f4, g4, nI n4) pl dr ki rl (ms, mc, mw, mb) cl (mh, mo) sl tk kp pa tr co ++ rest)) 13 [(0, .ref 36), (1, .int bits), (2, .int (nI i))] [] := by
  intro j
  induction j with
  | zero =>
    intro i bits hi hT
    have e : n4 = i := by omega
    subst e
    refine xs_iload_n C0 d_Md_lit_13 rfl 2 rfl ?_
    refine xs_aload_n C0 d_Md_lit_14 rfl 0 rfl ?_
    refine xs_get (q := 36) (v := .int (nI n4)) C0 f_Md_123 d_Md_lit_15 rfl rfl ?_
    refine xs_icmp_ge (tgt := 56) C0 d_Md_lit_18 (by decide) (fun _ => ?_) (fun c9 => absurd (nI_le (Nat.le_refl _) (by omega)) c9)
    refine xs_lv (lv' := [(1, .int bits)]) [1] rfl ?_
    subst hT
    exact kx
  | succ j ih =>
    intro i bits hi hT
    have hlt : i < n4 := by omega
    obtain ⟨ha1, ha2⟩ : vp_in (f4 i) 48 ∧ vp_in (g4 i) 48 := hp4 i hlt
    refine xs_iload_n C0 d_Md_lit_13 rfl 2 rfl ?_
    refine xs_aload_n C0 d_Md_lit_14 rfl 0 rfl ?_
    refine xs_get (q := 36) (v := .int (nI n4)) C0 f_Md_123 d_Md_lit_15 rfl rfl ?_
    refine xs_icmp_ge (tgt := 56) C0 d_Md_lit_18 (by decide) (fun c9 => absurd c9 (nI_ge hlt (by omega))) (fun _ => ?_)
    refine xs_iload_n C0 d_Md_lit_21 rfl 1 rfl ?_
    refine xs_aload_n C0 d_Md_lit_22 rfl 0 rfl ?_
    refine xs_aload_n C0 d_Md_lit_23 rfl 0 rfl ?_
    refine xs_get (q := 36) (v := .ref 53) C0 f_Md_59 d_Md_lit_24 rfl rfl ?_
    refine xs_iload_n C0 d_Md_lit_27 rfl 2 rfl ?_
    refine xs_iald C0 d_Md_lit_28 rfl (vp_in_nI (n := i) (by omega) (by decide)) ?_
    refine xs_top (v' := .int (f4 i)) (by rw [nI_clamp (by omega)]) ?_
    refine xs_aload_n C0 d_Md_lit_29 rfl 0 rfl ?_
    refine xs_get (q := 36) (v := .ref 54) C0 f_Md_62 d_Md_lit_30 rfl rfl ?_
    refine xs_pc (pc' := 33) rfl ?_
    refine xs_iload_n C0 d_Md_lit_33 rfl 2 rfl ?_
    refine xs_iald C0 d_Md_lit_34 rfl (vp_in_nI (n := i) (by omega) (by decide)) ?_
    refine xs_top (v' := .int (g4 i)) (by rw [nI_clamp (by omega)]) ?_
    refine xs_cV1 (ω' := (wd Q0 Q1 Q2 Q3 Q4 ql qr qk qo QS QT QF QH qt ++ (wM (f0, g0, nI n0) (f1, g1, nI n1) (f2, g2, nI n2) (f3, g3, nI n3) (f4, g4, nI n4) pl dr ki rl (ms, mc, mw, mb) cl (mh, mo) sl tk kp pa tr co ++ rest))) (As := [.int (f4 i), .int (g4 i)]) (st := [.int bits]) (kc' := 0) (ks' := 0) (v := .int (m_cur mb (mh, mo) (f4 i) (g4 i))) C0 d_Md_lit_35 l_Md_147 rfl rfl (d_cur (by assumption) (by assumption)) rfl rfl rfl (Nat.le_of_ble_eq_true rfl) (Nat.le_of_ble_eq_true rfl) (Nat.le_of_ble_eq_true rfl) (Nat.le_of_ble_eq_true rfl) (Nat.le_of_ble_eq_true rfl) (Nat.le_of_ble_eq_true rfl) ?_
    refine xs_if_eq (tgt := 47) C0 d_Md_lit_38 (by decide) (fun c_1 => ?_) (fun c_1 => ?_)
    · refine xs_iconst (v := 0) C0 d_Md_lit_47 (by decide) ?_
      refine xs_ior C0 d_Md_lit_48 ?_
      refine xs_top (v' := .int (q_lit mb (mh, mo) f4 g4 (i + 1))) (by rw [q_lit, hT, if_pos c_1]) ?_
      refine xs_istore_n (lv' := [(1, .int (q_lit mb (mh, mo) f4 g4 (i + 1))), (0, .ref 36), (2, .int (nI i))]) C0 d_Md_lit_49 rfl (by decide) rfl ?_
      refine xs_iinc (v := nI (i + 1)) (lv' := [(2, .int (nI (i + 1))), (1, .int (q_lit mb (mh, mo) f4 g4 (i + 1))), (0, .ref 36)]) C0 d_Md_lit_50 2 rfl (by rw [← nI_1]; rfl) (by decide) rfl ?_
      refine xs_goto (tgt := 13) C0 d_Md_lit_53 (by decide) ?_
      refine xs_lv (lv' := [(0, .ref 36), (1, .int (q_lit mb (mh, mo) f4 g4 (i + 1))), (2, .int (nI (i + 1)))]) [2, 1, 0] rfl ?_
      exact ih (i + 1) _ (by omega) rfl
    · refine xs_iconst (v := 1) C0 d_Md_lit_41 (by decide) ?_
      refine xs_iload_n C0 d_Md_lit_42 rfl 2 rfl ?_
      refine xs_ishl C0 d_Md_lit_43 ?_
      refine xs_goto (tgt := 48) C0 d_Md_lit_44 (by decide) ?_
      refine xs_ior C0 d_Md_lit_48 ?_
      refine xs_top (v' := .int (q_lit mb (mh, mo) f4 g4 (i + 1))) (by rw [q_lit, hT, if_neg c_1]) ?_
      refine xs_istore_n (lv' := [(1, .int (q_lit mb (mh, mo) f4 g4 (i + 1))), (0, .ref 36), (2, .int (nI i))]) C0 d_Md_lit_49 rfl (by decide) rfl ?_
      refine xs_iinc (v := nI (i + 1)) (lv' := [(2, .int (nI (i + 1))), (1, .int (q_lit mb (mh, mo) f4 g4 (i + 1))), (0, .ref 36)]) C0 d_Md_lit_50 2 rfl (by rw [← nI_1]; rfl) (by decide) rfl ?_
      refine xs_goto (tgt := 13) C0 d_Md_lit_53 (by decide) ?_
      refine xs_lv (lv' := [(0, .ref 36), (1, .int (q_lit mb (mh, mo) f4 g4 (i + 1))), (2, .int (nI (i + 1)))]) [2, 1, 0] rfl ?_
      exact ih (i + 1) _ (by omega) rfl
set_option maxHeartbeats 4000000 in
set_option maxRecDepth 100000 in
theorem d_lit {Q0 Q1 Q2 Q3 Q4 : wt_P} {ql qr qk qo : Nat → Int32} {QS QT : wt_S} {QF : wt_F} {QH : wt_H} {qt : Int32} {B : wb} {rl : Nat → Int32} {Z : mt_S} {cl : Nat → Int32} {hc : mt_H} {sl tk : Int32} {kp : mt_K} {pa : Nat → Int32} {tr : mt_T} {co : Int32} {rest : xm_O} {hc1 : mt_H} (hM : okM B rl) (hf : m_lay B rl Z.1 cl hc = hc1) : xm_M y_Md_lit (Cond.code y_Md_lit b_Md_lit 3 (some .int)) (xm_rm 3 0 0) [.ref 36] (wd Q0 Q1 Q2 Q3 Q4 ql qr qk qo QS QT QF QH qt ++ (wMB B rl Z cl hc sl tk kp pa tr co ++ rest)) (xm_eq (.inl (some (.int (q_lit Z.2.2.2 hc1 B.2.2.2.2.1.1 B.2.2.2.2.1.2.1 B.2.2.2.2.1.2.2)))) (wd Q0 Q1 Q2 Q3 Q4 ql qr qk qo QS QT QF QH qt ++ (wMB B rl Z cl hc1 sl tk kp pa tr 0 ++ rest))) := by
  obtain ⟨⟨f0, g0, n0⟩, ⟨f1, g1, n1⟩, ⟨f2, g2, n2⟩, ⟨f3, g3, n3⟩, ⟨f4, g4, n4⟩, pl, dr, ki, ow⟩ := B
  have hB := hM.1
  have hrl := hM.2
  obtain ⟨⟨h0, hp0⟩, ⟨h1, hp1⟩, ⟨h2, hp2⟩, ⟨h3, hp3⟩, ⟨h4, hp4⟩, hk⟩ := id hB
  dsimp only at h0 h1 h2 h3 h4 hp0 hp1 hp2 hp3 hp4 hk hrl
  refine xm_of (by decide) (Nat.le_of_ble_eq_true rfl) (fun E C0 => ?_)
  refine xs_eq (ω' := (wd Q0 Q1 Q2 Q3 Q4 ql qr qk qo QS QT QF QH qt ++ (wM (f0, g0, nI n0) (f1, g1, nI n1) (f2, g2, nI n2) (f3, g3, nI n3) (f4, g4, nI n4) pl dr ki rl Z cl hc sl tk kp pa tr co ++ rest))) (lv' := [(0, .ref 36)]) rfl rfl rfl ?_
  refine xs_aload_n C0 d_Md_lit_0 rfl 0 rfl ?_
  refine xs_iconst (v := 0) C0 d_Md_lit_1 (by decide) ?_
  refine xs_put (ω' := (wd Q0 Q1 Q2 Q3 Q4 ql qr qk qo QS QT QF QH qt ++ (wM (f0, g0, nI n0) (f1, g1, nI n1) (f2, g2, nI n2) (f3, g3, nI n3) (f4, g4, nI n4) pl dr ki rl Z cl hc sl tk kp pa tr 0 ++ rest))) C0 f_Md_92 ty_Md_0 d_Md_lit_2 rfl (Nat.le_of_ble_eq_true rfl) (fun _ => ⟨rfl, rfl⟩) rfl ?_
  refine xs_aload_n C0 d_Md_lit_5 rfl 0 rfl ?_
  obtain ⟨ms_1, mc_1, mw_1, mb_1⟩ := Z
  obtain ⟨hc_2, hhc_2⟩ : ∃ X, m_lay ((f0, g0, n0), (f1, g1, n1), (f2, g2, n2), (f3, g3, n3), (f4, g4, n4), pl, dr, ki, ow) rl ms_1 cl hc = X := ⟨_, rfl⟩
  refine xs_cV0 (ω' := (wd Q0 Q1 Q2 Q3 Q4 ql qr qk qo QS QT QF QH qt ++ (wM (f0, g0, nI n0) (f1, g1, nI n1) (f2, g2, nI n2) (f3, g3, nI n3) (f4, g4, nI n4) pl dr ki rl (ms_1, mc_1, mw_1, mb_1) cl hc_2 sl tk kp pa tr 0 ++ rest))) (As := []) (st := []) (kc' := 0) (ks' := 0) C0 d_Md_lit_6 l_Md_141 rfl rfl (d_lay (B := ((f0, g0, n0), (f1, g1, n1), (f2, g2, n2), (f3, g3, n3), (f4, g4, n4), pl, dr, ki, ow)) hM hhc_2) rfl rfl rfl (Nat.le_of_ble_eq_true rfl) (Nat.le_of_ble_eq_true rfl) (Nat.le_of_ble_eq_true rfl) (Nat.le_of_ble_eq_true rfl) (Nat.le_of_ble_eq_true rfl) (Nat.le_of_ble_eq_true rfl) ?_
  refine xs_iconst (v := 0) C0 d_Md_lit_9 (by decide) ?_
  refine xs_istore_n (lv' := [(1, .int 0), (0, .ref 36)]) C0 d_Md_lit_10 rfl (by decide) rfl ?_
  refine xs_iconst (v := 0) C0 d_Md_lit_11 (by decide) ?_
  refine xs_istore_n (lv' := [(2, .int 0), (1, .int 0), (0, .ref 36)]) C0 d_Md_lit_12 rfl (by decide) rfl ?_
  rw [hhc_2] at hf
  subst hf
  obtain ⟨mh_3, mo_3⟩ := hc_2
  refine xs_lv (lv' := [(0, .ref 36), (1, .int 0), (2, .int 0)]) [2, 1, 0] rfl ?_
  refine lp_qlit (ow := ow) C0 h4 hp4 ?_ n4 0 _ (by omega) rfl
  refine xs_iload_n C0 d_Md_lit_56 rfl 0 rfl ?_
  exact xs_iret C0 d_Md_lit_57 ⟨rfl, rfl⟩ (Nat.le_of_ble_eq_true rfl) (Nat.le_of_ble_eq_true rfl)
set_option maxHeartbeats 4000000 in
set_option maxRecDepth 100000 in
theorem d_state0 {Q0 Q1 Q2 Q3 Q4 : wt_P} {ql qr qk qo : Nat → Int32} {QS QT : wt_S} {QF : wt_F} {QH : wt_H} {qt : Int32} {B : wb} {rl : Nat → Int32} {Z : mt_S} {cl : Nat → Int32} {hc : mt_H} {sl tk : Int32} {kp : mt_K} {pa : Nat → Int32} {tr : mt_T} {co : Int32} {rest : xm_O} {x : Int32} {hc1 : mt_H} (hM : okM B rl) (h : gw x 0 (nI B.1.2.2 - 1)) (hf : m_lay B rl Z.1 cl hc = hc1) : xm_M y_Md_state (Cond.code y_Md_state b_Md_state 3 (some .int)) (xm_rm 3 0 0) [.ref 36, .int x, .int 0] (wd Q0 Q1 Q2 Q3 Q4 ql qr qk qo QS QT QF QH qt ++ (wMB B rl Z cl hc sl tk kp pa tr co ++ rest)) (xm_eq (.inl (some (.int (Z.1 x.toNatClampNeg)))) (wd Q0 Q1 Q2 Q3 Q4 ql qr qk qo QS QT QF QH qt ++ (wMB B rl Z cl hc1 sl tk kp pa tr 0 ++ rest))) := by
  obtain ⟨⟨f0, g0, n0⟩, ⟨f1, g1, n1⟩, ⟨f2, g2, n2⟩, ⟨f3, g3, n3⟩, ⟨f4, g4, n4⟩, pl, dr, ki, ow⟩ := B
  have hB := hM.1
  have hrl := hM.2
  obtain ⟨⟨h0, hp0⟩, ⟨h1, hp1⟩, ⟨h2, hp2⟩, ⟨h3, hp3⟩, ⟨h4, hp4⟩, hk⟩ := id hB
  dsimp only at h0 h1 h2 h3 h4 hp0 hp1 hp2 hp3 hp4 hk hrl
  refine xm_of (by decide) (Nat.le_of_ble_eq_true rfl) (fun E C0 => ?_)
  refine xs_eq (ω' := (wd Q0 Q1 Q2 Q3 Q4 ql qr qk qo QS QT QF QH qt ++ (wM (f0, g0, nI n0) (f1, g1, nI n1) (f2, g2, nI n2) (f3, g3, nI n3) (f4, g4, nI n4) pl dr ki rl Z cl hc sl tk kp pa tr co ++ rest))) (lv' := [(0, .ref 36), (1, .int x), (2, .int 0)]) rfl rfl rfl ?_
  refine xs_aload_n C0 d_Md_state_0 rfl 0 rfl ?_
  refine xs_iload_n C0 d_Md_state_1 rfl 1 rfl ?_
  refine xs_iconst (v := 0) C0 d_Md_state_2 (by decide) ?_
  refine xs_aload_n C0 d_Md_state_3 rfl 0 rfl ?_
  refine xs_get (q := 36) (v := .int (nI n0)) C0 f_Md_108 d_Md_state_4 rfl rfl ?_
  refine xs_iconst (v := 1) C0 d_Md_state_7 (by decide) ?_
  refine xs_isub C0 d_Md_state_8 ?_
  refine xs_cS1 (ω' := (wd Q0 Q1 Q2 Q3 Q4 ql qr qk qo QS QT QF QH qt ++ (wM (f0, g0, nI n0) (f1, g1, nI n1) (f2, g2, nI n2) (f3, g3, nI n3) (f4, g4, nI n4) pl dr ki rl Z cl hc sl tk kp pa tr co ++ rest))) (av := [.int x, .int 0, .int ((nI n0) - 1)]) (st := [.ref 36]) (kc' := 0) (ks' := 0) (v := .int 1) C0 d_Md_state_9 l_Md_96 (d_in1 _ x 0 ((nI n0) - 1) h) rfl rfl rfl (Nat.le_of_ble_eq_true rfl) (Nat.le_of_ble_eq_true rfl) (Nat.le_of_ble_eq_true rfl) (Nat.le_of_ble_eq_true rfl) (Nat.le_of_ble_eq_true rfl) (Nat.le_of_ble_eq_true rfl) ?_
  refine xs_if_eq (tgt := 28) C0 d_Md_state_12 (by decide) (fun c9 => absurd c9 (by decide)) (fun _ => ?_)
  refine xs_iload_n C0 d_Md_state_15 rfl 2 rfl ?_
  refine xs_iconst (v := 0) C0 d_Md_state_16 (by decide) ?_
  refine xs_iconst (v := 3) C0 d_Md_state_17 (by decide) ?_
  refine xs_pc (pc' := 18) rfl ?_
  refine xs_cS1 (ω' := (wd Q0 Q1 Q2 Q3 Q4 ql qr qk qo QS QT QF QH qt ++ (wM (f0, g0, nI n0) (f1, g1, nI n1) (f2, g2, nI n2) (f3, g3, nI n3) (f4, g4, nI n4) pl dr ki rl Z cl hc sl tk kp pa tr co ++ rest))) (av := [.int 0, .int 0, .int 3]) (st := [.ref 36]) (kc' := 0) (ks' := 0) (v := .int 1) C0 d_Md_state_18 l_Md_96 (d_in1 _ 0 0 3 ⟨by decide, by decide⟩) rfl rfl rfl (Nat.le_of_ble_eq_true rfl) (Nat.le_of_ble_eq_true rfl) (Nat.le_of_ble_eq_true rfl) (Nat.le_of_ble_eq_true rfl) (Nat.le_of_ble_eq_true rfl) (Nat.le_of_ble_eq_true rfl) ?_
  refine xs_if_eq (tgt := 28) C0 d_Md_state_21 (by decide) (fun c9 => absurd c9 (by decide)) (fun _ => ?_)
  refine xs_iconst (v := 0) C0 d_Md_state_24 (by decide) ?_
  refine xs_goto (tgt := 29) C0 d_Md_state_25 (by decide) ?_
  refine xs_put (ω' := (wd Q0 Q1 Q2 Q3 Q4 ql qr qk qo QS QT QF QH qt ++ (wM (f0, g0, nI n0) (f1, g1, nI n1) (f2, g2, nI n2) (f3, g3, nI n3) (f4, g4, nI n4) pl dr ki rl Z cl hc sl tk kp pa tr 0 ++ rest))) C0 f_Md_92 ty_Md_0 d_Md_state_29 rfl (Nat.le_of_ble_eq_true rfl) (fun _ => ⟨rfl, rfl⟩) rfl ?_
  refine xs_aload_n C0 d_Md_state_32 rfl 0 rfl ?_
  refine xs_get (q := 36) (v := .int 0) C0 f_Md_92 d_Md_state_33 rfl rfl ?_
  refine xs_if_le (tgt := 41) C0 d_Md_state_36 (by decide) (fun _ => ?_) (fun c9 => absurd c9 (by decide))
  refine xs_aload_n C0 d_Md_state_41 rfl 0 rfl ?_
  obtain ⟨ms_1, mc_1, mw_1, mb_1⟩ := Z
  obtain ⟨hc_2, hhc_2⟩ : ∃ X, m_lay ((f0, g0, n0), (f1, g1, n1), (f2, g2, n2), (f3, g3, n3), (f4, g4, n4), pl, dr, ki, ow) rl ms_1 cl hc = X := ⟨_, rfl⟩
  refine xs_cV0 (ω' := (wd Q0 Q1 Q2 Q3 Q4 ql qr qk qo QS QT QF QH qt ++ (wM (f0, g0, nI n0) (f1, g1, nI n1) (f2, g2, nI n2) (f3, g3, nI n3) (f4, g4, nI n4) pl dr ki rl (ms_1, mc_1, mw_1, mb_1) cl hc_2 sl tk kp pa tr 0 ++ rest))) (As := []) (st := []) (kc' := 0) (ks' := 0) C0 d_Md_state_42 l_Md_141 rfl rfl (d_lay (B := ((f0, g0, n0), (f1, g1, n1), (f2, g2, n2), (f3, g3, n3), (f4, g4, n4), pl, dr, ki, ow)) hM hhc_2) rfl rfl rfl (Nat.le_of_ble_eq_true rfl) (Nat.le_of_ble_eq_true rfl) (Nat.le_of_ble_eq_true rfl) (Nat.le_of_ble_eq_true rfl) (Nat.le_of_ble_eq_true rfl) (Nat.le_of_ble_eq_true rfl) ?_
  refine xs_iload_n C0 d_Md_state_45 rfl 2 rfl ?_
  refine xs_if_ne (tgt := 58) C0 d_Md_state_46 (by decide) (fun c9 => absurd rfl c9) (fun _ => ?_)
  refine xs_aload_n C0 d_Md_state_49 rfl 0 rfl ?_
  refine xs_get (q := 36) (v := .ref 41) C0 f_Md_22 d_Md_state_50 rfl rfl ?_
  refine xs_iload_n C0 d_Md_state_53 rfl 1 rfl ?_
  refine xs_iald C0 d_Md_state_54 rfl (gw_in16 h0 h) ?_
  refine xs_goto (tgt := 110) C0 d_Md_state_55 (by decide) ?_
  rw [hhc_2] at hf
  subst hf
  exact xs_iret C0 d_Md_state_110 (⟨rfl, rfl⟩) (Nat.le_of_ble_eq_true rfl) (Nat.le_of_ble_eq_true rfl)
set_option maxHeartbeats 4000000 in
set_option maxRecDepth 100000 in
theorem d_state1 {Q0 Q1 Q2 Q3 Q4 : wt_P} {ql qr qk qo : Nat → Int32} {QS QT : wt_S} {QF : wt_F} {QH : wt_H} {qt : Int32} {B : wb} {rl : Nat → Int32} {Z : mt_S} {cl : Nat → Int32} {hc : mt_H} {sl tk : Int32} {kp : mt_K} {pa : Nat → Int32} {tr : mt_T} {co : Int32} {rest : xm_O} {x : Int32} {hc1 : mt_H} (hM : okM B rl) (h : gw x 0 (nI B.1.2.2 - 1)) (hf : m_lay B rl Z.1 cl hc = hc1) : xm_M y_Md_state (Cond.code y_Md_state b_Md_state 3 (some .int)) (xm_rm 3 0 0) [.ref 36, .int x, .int 1] (wd Q0 Q1 Q2 Q3 Q4 ql qr qk qo QS QT QF QH qt ++ (wMB B rl Z cl hc sl tk kp pa tr co ++ rest)) (xm_eq (.inl (some (.int (Z.2.1 x.toNatClampNeg)))) (wd Q0 Q1 Q2 Q3 Q4 ql qr qk qo QS QT QF QH qt ++ (wMB B rl Z cl hc1 sl tk kp pa tr 0 ++ rest))) := by
  obtain ⟨⟨f0, g0, n0⟩, ⟨f1, g1, n1⟩, ⟨f2, g2, n2⟩, ⟨f3, g3, n3⟩, ⟨f4, g4, n4⟩, pl, dr, ki, ow⟩ := B
  have hB := hM.1
  have hrl := hM.2
  obtain ⟨⟨h0, hp0⟩, ⟨h1, hp1⟩, ⟨h2, hp2⟩, ⟨h3, hp3⟩, ⟨h4, hp4⟩, hk⟩ := id hB
  dsimp only at h0 h1 h2 h3 h4 hp0 hp1 hp2 hp3 hp4 hk hrl
  refine xm_of (by decide) (Nat.le_of_ble_eq_true rfl) (fun E C0 => ?_)
  refine xs_eq (ω' := (wd Q0 Q1 Q2 Q3 Q4 ql qr qk qo QS QT QF QH qt ++ (wM (f0, g0, nI n0) (f1, g1, nI n1) (f2, g2, nI n2) (f3, g3, nI n3) (f4, g4, nI n4) pl dr ki rl Z cl hc sl tk kp pa tr co ++ rest))) (lv' := [(0, .ref 36), (1, .int x), (2, .int 1)]) rfl rfl rfl ?_
  refine xs_aload_n C0 d_Md_state_0 rfl 0 rfl ?_
  refine xs_iload_n C0 d_Md_state_1 rfl 1 rfl ?_
  refine xs_iconst (v := 0) C0 d_Md_state_2 (by decide) ?_
  refine xs_aload_n C0 d_Md_state_3 rfl 0 rfl ?_
  refine xs_get (q := 36) (v := .int (nI n0)) C0 f_Md_108 d_Md_state_4 rfl rfl ?_
  refine xs_iconst (v := 1) C0 d_Md_state_7 (by decide) ?_
  refine xs_isub C0 d_Md_state_8 ?_
  refine xs_cS1 (ω' := (wd Q0 Q1 Q2 Q3 Q4 ql qr qk qo QS QT QF QH qt ++ (wM (f0, g0, nI n0) (f1, g1, nI n1) (f2, g2, nI n2) (f3, g3, nI n3) (f4, g4, nI n4) pl dr ki rl Z cl hc sl tk kp pa tr co ++ rest))) (av := [.int x, .int 0, .int ((nI n0) - 1)]) (st := [.ref 36]) (kc' := 0) (ks' := 0) (v := .int 1) C0 d_Md_state_9 l_Md_96 (d_in1 _ x 0 ((nI n0) - 1) h) rfl rfl rfl (Nat.le_of_ble_eq_true rfl) (Nat.le_of_ble_eq_true rfl) (Nat.le_of_ble_eq_true rfl) (Nat.le_of_ble_eq_true rfl) (Nat.le_of_ble_eq_true rfl) (Nat.le_of_ble_eq_true rfl) ?_
  refine xs_if_eq (tgt := 28) C0 d_Md_state_12 (by decide) (fun c9 => absurd c9 (by decide)) (fun _ => ?_)
  refine xs_iload_n C0 d_Md_state_15 rfl 2 rfl ?_
  refine xs_iconst (v := 0) C0 d_Md_state_16 (by decide) ?_
  refine xs_iconst (v := 3) C0 d_Md_state_17 (by decide) ?_
  refine xs_pc (pc' := 18) rfl ?_
  refine xs_cS1 (ω' := (wd Q0 Q1 Q2 Q3 Q4 ql qr qk qo QS QT QF QH qt ++ (wM (f0, g0, nI n0) (f1, g1, nI n1) (f2, g2, nI n2) (f3, g3, nI n3) (f4, g4, nI n4) pl dr ki rl Z cl hc sl tk kp pa tr co ++ rest))) (av := [.int 1, .int 0, .int 3]) (st := [.ref 36]) (kc' := 0) (ks' := 0) (v := .int 1) C0 d_Md_state_18 l_Md_96 (d_in1 _ 1 0 3 ⟨by decide, by decide⟩) rfl rfl rfl (Nat.le_of_ble_eq_true rfl) (Nat.le_of_ble_eq_true rfl) (Nat.le_of_ble_eq_true rfl) (Nat.le_of_ble_eq_true rfl) (Nat.le_of_ble_eq_true rfl) (Nat.le_of_ble_eq_true rfl) ?_
  refine xs_if_eq (tgt := 28) C0 d_Md_state_21 (by decide) (fun c9 => absurd c9 (by decide)) (fun _ => ?_)
  refine xs_iconst (v := 0) C0 d_Md_state_24 (by decide) ?_
  refine xs_goto (tgt := 29) C0 d_Md_state_25 (by decide) ?_
  refine xs_put (ω' := (wd Q0 Q1 Q2 Q3 Q4 ql qr qk qo QS QT QF QH qt ++ (wM (f0, g0, nI n0) (f1, g1, nI n1) (f2, g2, nI n2) (f3, g3, nI n3) (f4, g4, nI n4) pl dr ki rl Z cl hc sl tk kp pa tr 0 ++ rest))) C0 f_Md_92 ty_Md_0 d_Md_state_29 rfl (Nat.le_of_ble_eq_true rfl) (fun _ => ⟨rfl, rfl⟩) rfl ?_
  refine xs_aload_n C0 d_Md_state_32 rfl 0 rfl ?_
  refine xs_get (q := 36) (v := .int 0) C0 f_Md_92 d_Md_state_33 rfl rfl ?_
  refine xs_if_le (tgt := 41) C0 d_Md_state_36 (by decide) (fun _ => ?_) (fun c9 => absurd c9 (by decide))
  refine xs_aload_n C0 d_Md_state_41 rfl 0 rfl ?_
  obtain ⟨ms_1, mc_1, mw_1, mb_1⟩ := Z
  obtain ⟨hc_2, hhc_2⟩ : ∃ X, m_lay ((f0, g0, n0), (f1, g1, n1), (f2, g2, n2), (f3, g3, n3), (f4, g4, n4), pl, dr, ki, ow) rl ms_1 cl hc = X := ⟨_, rfl⟩
  refine xs_cV0 (ω' := (wd Q0 Q1 Q2 Q3 Q4 ql qr qk qo QS QT QF QH qt ++ (wM (f0, g0, nI n0) (f1, g1, nI n1) (f2, g2, nI n2) (f3, g3, nI n3) (f4, g4, nI n4) pl dr ki rl (ms_1, mc_1, mw_1, mb_1) cl hc_2 sl tk kp pa tr 0 ++ rest))) (As := []) (st := []) (kc' := 0) (ks' := 0) C0 d_Md_state_42 l_Md_141 rfl rfl (d_lay (B := ((f0, g0, n0), (f1, g1, n1), (f2, g2, n2), (f3, g3, n3), (f4, g4, n4), pl, dr, ki, ow)) hM hhc_2) rfl rfl rfl (Nat.le_of_ble_eq_true rfl) (Nat.le_of_ble_eq_true rfl) (Nat.le_of_ble_eq_true rfl) (Nat.le_of_ble_eq_true rfl) (Nat.le_of_ble_eq_true rfl) (Nat.le_of_ble_eq_true rfl) ?_
  refine xs_iload_n C0 d_Md_state_45 rfl 2 rfl ?_
  refine xs_if_ne (tgt := 58) C0 d_Md_state_46 (by decide) (fun _ => ?_) (fun c9 => absurd c9 (by decide))
  refine xs_iload_n C0 d_Md_state_58 rfl 2 rfl ?_
  refine xs_iconst (v := 1) C0 d_Md_state_59 (by decide) ?_
  refine xs_icmp_ne (tgt := 72) C0 d_Md_state_60 (by decide) (fun c9 => absurd rfl c9) (fun _ => ?_)
  refine xs_aload_n C0 d_Md_state_63 rfl 0 rfl ?_
  refine xs_get (q := 36) (v := .ref 42) C0 f_Md_25 d_Md_state_64 rfl rfl ?_
  refine xs_iload_n C0 d_Md_state_67 rfl 1 rfl ?_
  refine xs_iald C0 d_Md_state_68 rfl (gw_in16 h0 h) ?_
  refine xs_goto (tgt := 110) C0 d_Md_state_69 (by decide) ?_
  rw [hhc_2] at hf
  subst hf
  exact xs_iret C0 d_Md_state_110 (⟨rfl, rfl⟩) (Nat.le_of_ble_eq_true rfl) (Nat.le_of_ble_eq_true rfl)
set_option maxHeartbeats 4000000 in
set_option maxRecDepth 100000 in
theorem d_state3 {Q0 Q1 Q2 Q3 Q4 : wt_P} {ql qr qk qo : Nat → Int32} {QS QT : wt_S} {QF : wt_F} {QH : wt_H} {qt : Int32} {B : wb} {rl : Nat → Int32} {Z : mt_S} {cl : Nat → Int32} {hc : mt_H} {sl tk : Int32} {kp : mt_K} {pa : Nat → Int32} {tr : mt_T} {co : Int32} {rest : xm_O} {x : Int32} {hc1 : mt_H} (hM : okM B rl) (h : gw x 0 (nI B.1.2.2 - 1)) (hf : m_lay B rl Z.1 cl hc = hc1) : xm_M y_Md_state (Cond.code y_Md_state b_Md_state 3 (some .int)) (xm_rm 3 0 0) [.ref 36, .int x, .int 3] (wd Q0 Q1 Q2 Q3 Q4 ql qr qk qo QS QT QF QH qt ++ (wMB B rl Z cl hc sl tk kp pa tr co ++ rest)) (xm_eq (.inl (some (.int (Z.2.2.1 x.toNatClampNeg)))) (wd Q0 Q1 Q2 Q3 Q4 ql qr qk qo QS QT QF QH qt ++ (wMB B rl Z cl hc1 sl tk kp pa tr 0 ++ rest))) := by
  obtain ⟨⟨f0, g0, n0⟩, ⟨f1, g1, n1⟩, ⟨f2, g2, n2⟩, ⟨f3, g3, n3⟩, ⟨f4, g4, n4⟩, pl, dr, ki, ow⟩ := B
  have hB := hM.1
  have hrl := hM.2
  obtain ⟨⟨h0, hp0⟩, ⟨h1, hp1⟩, ⟨h2, hp2⟩, ⟨h3, hp3⟩, ⟨h4, hp4⟩, hk⟩ := id hB
  dsimp only at h0 h1 h2 h3 h4 hp0 hp1 hp2 hp3 hp4 hk hrl
  refine xm_of (by decide) (Nat.le_of_ble_eq_true rfl) (fun E C0 => ?_)
  refine xs_eq (ω' := (wd Q0 Q1 Q2 Q3 Q4 ql qr qk qo QS QT QF QH qt ++ (wM (f0, g0, nI n0) (f1, g1, nI n1) (f2, g2, nI n2) (f3, g3, nI n3) (f4, g4, nI n4) pl dr ki rl Z cl hc sl tk kp pa tr co ++ rest))) (lv' := [(0, .ref 36), (1, .int x), (2, .int 3)]) rfl rfl rfl ?_
  refine xs_aload_n C0 d_Md_state_0 rfl 0 rfl ?_
  refine xs_iload_n C0 d_Md_state_1 rfl 1 rfl ?_
  refine xs_iconst (v := 0) C0 d_Md_state_2 (by decide) ?_
  refine xs_aload_n C0 d_Md_state_3 rfl 0 rfl ?_
  refine xs_get (q := 36) (v := .int (nI n0)) C0 f_Md_108 d_Md_state_4 rfl rfl ?_
  refine xs_iconst (v := 1) C0 d_Md_state_7 (by decide) ?_
  refine xs_isub C0 d_Md_state_8 ?_
  refine xs_cS1 (ω' := (wd Q0 Q1 Q2 Q3 Q4 ql qr qk qo QS QT QF QH qt ++ (wM (f0, g0, nI n0) (f1, g1, nI n1) (f2, g2, nI n2) (f3, g3, nI n3) (f4, g4, nI n4) pl dr ki rl Z cl hc sl tk kp pa tr co ++ rest))) (av := [.int x, .int 0, .int ((nI n0) - 1)]) (st := [.ref 36]) (kc' := 0) (ks' := 0) (v := .int 1) C0 d_Md_state_9 l_Md_96 (d_in1 _ x 0 ((nI n0) - 1) h) rfl rfl rfl (Nat.le_of_ble_eq_true rfl) (Nat.le_of_ble_eq_true rfl) (Nat.le_of_ble_eq_true rfl) (Nat.le_of_ble_eq_true rfl) (Nat.le_of_ble_eq_true rfl) (Nat.le_of_ble_eq_true rfl) ?_
  refine xs_if_eq (tgt := 28) C0 d_Md_state_12 (by decide) (fun c9 => absurd c9 (by decide)) (fun _ => ?_)
  refine xs_iload_n C0 d_Md_state_15 rfl 2 rfl ?_
  refine xs_iconst (v := 0) C0 d_Md_state_16 (by decide) ?_
  refine xs_iconst (v := 3) C0 d_Md_state_17 (by decide) ?_
  refine xs_pc (pc' := 18) rfl ?_
  refine xs_cS1 (ω' := (wd Q0 Q1 Q2 Q3 Q4 ql qr qk qo QS QT QF QH qt ++ (wM (f0, g0, nI n0) (f1, g1, nI n1) (f2, g2, nI n2) (f3, g3, nI n3) (f4, g4, nI n4) pl dr ki rl Z cl hc sl tk kp pa tr co ++ rest))) (av := [.int 3, .int 0, .int 3]) (st := [.ref 36]) (kc' := 0) (ks' := 0) (v := .int 1) C0 d_Md_state_18 l_Md_96 (d_in1 _ 3 0 3 ⟨by decide, by decide⟩) rfl rfl rfl (Nat.le_of_ble_eq_true rfl) (Nat.le_of_ble_eq_true rfl) (Nat.le_of_ble_eq_true rfl) (Nat.le_of_ble_eq_true rfl) (Nat.le_of_ble_eq_true rfl) (Nat.le_of_ble_eq_true rfl) ?_
  refine xs_if_eq (tgt := 28) C0 d_Md_state_21 (by decide) (fun c9 => absurd c9 (by decide)) (fun _ => ?_)
  refine xs_iconst (v := 0) C0 d_Md_state_24 (by decide) ?_
  refine xs_goto (tgt := 29) C0 d_Md_state_25 (by decide) ?_
  refine xs_put (ω' := (wd Q0 Q1 Q2 Q3 Q4 ql qr qk qo QS QT QF QH qt ++ (wM (f0, g0, nI n0) (f1, g1, nI n1) (f2, g2, nI n2) (f3, g3, nI n3) (f4, g4, nI n4) pl dr ki rl Z cl hc sl tk kp pa tr 0 ++ rest))) C0 f_Md_92 ty_Md_0 d_Md_state_29 rfl (Nat.le_of_ble_eq_true rfl) (fun _ => ⟨rfl, rfl⟩) rfl ?_
  refine xs_aload_n C0 d_Md_state_32 rfl 0 rfl ?_
  refine xs_get (q := 36) (v := .int 0) C0 f_Md_92 d_Md_state_33 rfl rfl ?_
  refine xs_if_le (tgt := 41) C0 d_Md_state_36 (by decide) (fun _ => ?_) (fun c9 => absurd c9 (by decide))
  refine xs_aload_n C0 d_Md_state_41 rfl 0 rfl ?_
  obtain ⟨ms_1, mc_1, mw_1, mb_1⟩ := Z
  obtain ⟨hc_2, hhc_2⟩ : ∃ X, m_lay ((f0, g0, n0), (f1, g1, n1), (f2, g2, n2), (f3, g3, n3), (f4, g4, n4), pl, dr, ki, ow) rl ms_1 cl hc = X := ⟨_, rfl⟩
  refine xs_cV0 (ω' := (wd Q0 Q1 Q2 Q3 Q4 ql qr qk qo QS QT QF QH qt ++ (wM (f0, g0, nI n0) (f1, g1, nI n1) (f2, g2, nI n2) (f3, g3, nI n3) (f4, g4, nI n4) pl dr ki rl (ms_1, mc_1, mw_1, mb_1) cl hc_2 sl tk kp pa tr 0 ++ rest))) (As := []) (st := []) (kc' := 0) (ks' := 0) C0 d_Md_state_42 l_Md_141 rfl rfl (d_lay (B := ((f0, g0, n0), (f1, g1, n1), (f2, g2, n2), (f3, g3, n3), (f4, g4, n4), pl, dr, ki, ow)) hM hhc_2) rfl rfl rfl (Nat.le_of_ble_eq_true rfl) (Nat.le_of_ble_eq_true rfl) (Nat.le_of_ble_eq_true rfl) (Nat.le_of_ble_eq_true rfl) (Nat.le_of_ble_eq_true rfl) (Nat.le_of_ble_eq_true rfl) ?_
  refine xs_iload_n C0 d_Md_state_45 rfl 2 rfl ?_
  refine xs_if_ne (tgt := 58) C0 d_Md_state_46 (by decide) (fun _ => ?_) (fun c9 => absurd c9 (by decide))
  refine xs_iload_n C0 d_Md_state_58 rfl 2 rfl ?_
  refine xs_iconst (v := 1) C0 d_Md_state_59 (by decide) ?_
  refine xs_icmp_ne (tgt := 72) C0 d_Md_state_60 (by decide) (fun _ => ?_) (fun c9 => absurd c9 (by decide))
  refine xs_iload_n C0 d_Md_state_72 rfl 2 rfl ?_
  refine xs_iconst (v := 3) C0 d_Md_state_73 (by decide) ?_
  refine xs_icmp_ne (tgt := 86) C0 d_Md_state_74 (by decide) (fun c9 => absurd rfl c9) (fun _ => ?_)
  refine xs_aload_n C0 d_Md_state_77 rfl 0 rfl ?_
  refine xs_get (q := 36) (v := .ref 43) C0 f_Md_28 d_Md_state_78 rfl rfl ?_
  refine xs_iload_n C0 d_Md_state_81 rfl 1 rfl ?_
  refine xs_iald C0 d_Md_state_82 rfl (gw_in16 h0 h) ?_
  refine xs_goto (tgt := 110) C0 d_Md_state_83 (by decide) ?_
  rw [hhc_2] at hf
  subst hf
  exact xs_iret C0 d_Md_state_110 (⟨rfl, rfl⟩) (Nat.le_of_ble_eq_true rfl) (Nat.le_of_ble_eq_true rfl)
set_option maxHeartbeats 4000000 in
set_option maxRecDepth 100000 in
theorem d_state2 {Q0 Q1 Q2 Q3 Q4 : wt_P} {ql qr qk qo : Nat → Int32} {QS QT : wt_S} {QF : wt_F} {QH : wt_H} {qt : Int32} {B : wb} {rl : Nat → Int32} {Z : mt_S} {cl : Nat → Int32} {hc : mt_H} {sl tk : Int32} {kp : mt_K} {pa : Nat → Int32} {tr : mt_T} {co : Int32} {rest : xm_O} {x : Int32} {hc1 : mt_H} (hM : okM B rl) (h : gw x 0 (nI B.1.2.2 - 1)) (hf : m_lay B rl Z.1 cl hc = hc1) : xm_M y_Md_state (Cond.code y_Md_state b_Md_state 3 (some .int)) (xm_rm 3 0 0) [.ref 36, .int x, .int 2] (wd Q0 Q1 Q2 Q3 Q4 ql qr qk qo QS QT QF QH qt ++ (wMB B rl Z cl hc sl tk kp pa tr co ++ rest)) (xm_eq (.inl (some (.int (if ¬ m_cur Z.2.2.2 hc1 (B.1.1 x.toNatClampNeg) (B.1.2.1 x.toNatClampNeg) = 0 then 1 else 0)))) (wd Q0 Q1 Q2 Q3 Q4 ql qr qk qo QS QT QF QH qt ++ (wMB B rl Z cl hc1 sl tk kp pa tr 0 ++ rest))) := by
  obtain ⟨⟨f0, g0, n0⟩, ⟨f1, g1, n1⟩, ⟨f2, g2, n2⟩, ⟨f3, g3, n3⟩, ⟨f4, g4, n4⟩, pl, dr, ki, ow⟩ := B
  have hB := hM.1
  have hrl := hM.2
  obtain ⟨⟨h0, hp0⟩, ⟨h1, hp1⟩, ⟨h2, hp2⟩, ⟨h3, hp3⟩, ⟨h4, hp4⟩, hk⟩ := id hB
  dsimp only at h0 h1 h2 h3 h4 hp0 hp1 hp2 hp3 hp4 hk hrl
  refine xm_of (by decide) (Nat.le_of_ble_eq_true rfl) (fun E C0 => ?_)
  refine xs_eq (ω' := (wd Q0 Q1 Q2 Q3 Q4 ql qr qk qo QS QT QF QH qt ++ (wM (f0, g0, nI n0) (f1, g1, nI n1) (f2, g2, nI n2) (f3, g3, nI n3) (f4, g4, nI n4) pl dr ki rl Z cl hc sl tk kp pa tr co ++ rest))) (lv' := [(0, .ref 36), (1, .int x), (2, .int 2)]) rfl rfl rfl ?_
  obtain ⟨j9, hj9, e9⟩ := gw_part h0 (by decide) h
  have ha9 : vp_in (f0 x.toNatClampNeg) 48 ∧ vp_in (g0 x.toNatClampNeg) 48 := by rw [e9, nI_clamp (by omega)]; exact hp0 j9 hj9
  have ha1 := ha9.1
  have ha2 := ha9.2
  refine xs_aload_n C0 d_Md_state_0 rfl 0 rfl ?_
  refine xs_iload_n C0 d_Md_state_1 rfl 1 rfl ?_
  refine xs_iconst (v := 0) C0 d_Md_state_2 (by decide) ?_
  refine xs_aload_n C0 d_Md_state_3 rfl 0 rfl ?_
  refine xs_get (q := 36) (v := .int (nI n0)) C0 f_Md_108 d_Md_state_4 rfl rfl ?_
  refine xs_iconst (v := 1) C0 d_Md_state_7 (by decide) ?_
  refine xs_isub C0 d_Md_state_8 ?_
  refine xs_cS1 (ω' := (wd Q0 Q1 Q2 Q3 Q4 ql qr qk qo QS QT QF QH qt ++ (wM (f0, g0, nI n0) (f1, g1, nI n1) (f2, g2, nI n2) (f3, g3, nI n3) (f4, g4, nI n4) pl dr ki rl Z cl hc sl tk kp pa tr co ++ rest))) (av := [.int x, .int 0, .int ((nI n0) - 1)]) (st := [.ref 36]) (kc' := 0) (ks' := 0) (v := .int 1) C0 d_Md_state_9 l_Md_96 (d_in1 _ x 0 ((nI n0) - 1) h) rfl rfl rfl (Nat.le_of_ble_eq_true rfl) (Nat.le_of_ble_eq_true rfl) (Nat.le_of_ble_eq_true rfl) (Nat.le_of_ble_eq_true rfl) (Nat.le_of_ble_eq_true rfl) (Nat.le_of_ble_eq_true rfl) ?_
  refine xs_if_eq (tgt := 28) C0 d_Md_state_12 (by decide) (fun c9 => absurd c9 (by decide)) (fun _ => ?_)
  refine xs_iload_n C0 d_Md_state_15 rfl 2 rfl ?_
  refine xs_iconst (v := 0) C0 d_Md_state_16 (by decide) ?_
  refine xs_iconst (v := 3) C0 d_Md_state_17 (by decide) ?_
  refine xs_pc (pc' := 18) rfl ?_
  refine xs_cS1 (ω' := (wd Q0 Q1 Q2 Q3 Q4 ql qr qk qo QS QT QF QH qt ++ (wM (f0, g0, nI n0) (f1, g1, nI n1) (f2, g2, nI n2) (f3, g3, nI n3) (f4, g4, nI n4) pl dr ki rl Z cl hc sl tk kp pa tr co ++ rest))) (av := [.int 2, .int 0, .int 3]) (st := [.ref 36]) (kc' := 0) (ks' := 0) (v := .int 1) C0 d_Md_state_18 l_Md_96 (d_in1 _ 2 0 3 ⟨by decide, by decide⟩) rfl rfl rfl (Nat.le_of_ble_eq_true rfl) (Nat.le_of_ble_eq_true rfl) (Nat.le_of_ble_eq_true rfl) (Nat.le_of_ble_eq_true rfl) (Nat.le_of_ble_eq_true rfl) (Nat.le_of_ble_eq_true rfl) ?_
  refine xs_if_eq (tgt := 28) C0 d_Md_state_21 (by decide) (fun c9 => absurd c9 (by decide)) (fun _ => ?_)
  refine xs_iconst (v := 0) C0 d_Md_state_24 (by decide) ?_
  refine xs_goto (tgt := 29) C0 d_Md_state_25 (by decide) ?_
  refine xs_put (ω' := (wd Q0 Q1 Q2 Q3 Q4 ql qr qk qo QS QT QF QH qt ++ (wM (f0, g0, nI n0) (f1, g1, nI n1) (f2, g2, nI n2) (f3, g3, nI n3) (f4, g4, nI n4) pl dr ki rl Z cl hc sl tk kp pa tr 0 ++ rest))) C0 f_Md_92 ty_Md_0 d_Md_state_29 rfl (Nat.le_of_ble_eq_true rfl) (fun _ => ⟨rfl, rfl⟩) rfl ?_
  refine xs_aload_n C0 d_Md_state_32 rfl 0 rfl ?_
  refine xs_get (q := 36) (v := .int 0) C0 f_Md_92 d_Md_state_33 rfl rfl ?_
  refine xs_if_le (tgt := 41) C0 d_Md_state_36 (by decide) (fun _ => ?_) (fun c9 => absurd c9 (by decide))
  refine xs_aload_n C0 d_Md_state_41 rfl 0 rfl ?_
  obtain ⟨ms_1, mc_1, mw_1, mb_1⟩ := Z
  obtain ⟨hc_2, hhc_2⟩ : ∃ X, m_lay ((f0, g0, n0), (f1, g1, n1), (f2, g2, n2), (f3, g3, n3), (f4, g4, n4), pl, dr, ki, ow) rl ms_1 cl hc = X := ⟨_, rfl⟩
  refine xs_cV0 (ω' := (wd Q0 Q1 Q2 Q3 Q4 ql qr qk qo QS QT QF QH qt ++ (wM (f0, g0, nI n0) (f1, g1, nI n1) (f2, g2, nI n2) (f3, g3, nI n3) (f4, g4, nI n4) pl dr ki rl (ms_1, mc_1, mw_1, mb_1) cl hc_2 sl tk kp pa tr 0 ++ rest))) (As := []) (st := []) (kc' := 0) (ks' := 0) C0 d_Md_state_42 l_Md_141 rfl rfl (d_lay (B := ((f0, g0, n0), (f1, g1, n1), (f2, g2, n2), (f3, g3, n3), (f4, g4, n4), pl, dr, ki, ow)) hM hhc_2) rfl rfl rfl (Nat.le_of_ble_eq_true rfl) (Nat.le_of_ble_eq_true rfl) (Nat.le_of_ble_eq_true rfl) (Nat.le_of_ble_eq_true rfl) (Nat.le_of_ble_eq_true rfl) (Nat.le_of_ble_eq_true rfl) ?_
  refine xs_iload_n C0 d_Md_state_45 rfl 2 rfl ?_
  refine xs_if_ne (tgt := 58) C0 d_Md_state_46 (by decide) (fun _ => ?_) (fun c9 => absurd c9 (by decide))
  refine xs_iload_n C0 d_Md_state_58 rfl 2 rfl ?_
  refine xs_iconst (v := 1) C0 d_Md_state_59 (by decide) ?_
  refine xs_icmp_ne (tgt := 72) C0 d_Md_state_60 (by decide) (fun _ => ?_) (fun c9 => absurd c9 (by decide))
  refine xs_iload_n C0 d_Md_state_72 rfl 2 rfl ?_
  refine xs_iconst (v := 3) C0 d_Md_state_73 (by decide) ?_
  refine xs_icmp_ne (tgt := 86) C0 d_Md_state_74 (by decide) (fun _ => ?_) (fun c9 => absurd c9 (by decide))
  refine xs_aload_n C0 d_Md_state_86 rfl 0 rfl ?_
  refine xs_aload_n C0 d_Md_state_87 rfl 0 rfl ?_
  refine xs_get (q := 36) (v := .ref 37) C0 f_Md_7 d_Md_state_88 rfl rfl ?_
  refine xs_iload_n C0 d_Md_state_91 rfl 1 rfl ?_
  refine xs_iald C0 d_Md_state_92 rfl (gw_in16 h0 h) ?_
  refine xs_aload_n C0 d_Md_state_93 rfl 0 rfl ?_
  refine xs_get (q := 36) (v := .ref 38) C0 f_Md_13 d_Md_state_94 rfl rfl ?_
  refine xs_iload_n C0 d_Md_state_97 rfl 1 rfl ?_
  refine xs_iald C0 d_Md_state_98 rfl (gw_in16 h0 h) ?_
  obtain ⟨mh_3, mo_3⟩ := hc_2
  refine xs_cV1 (ω' := (wd Q0 Q1 Q2 Q3 Q4 ql qr qk qo QS QT QF QH qt ++ (wM (f0, g0, nI n0) (f1, g1, nI n1) (f2, g2, nI n2) (f3, g3, nI n3) (f4, g4, nI n4) pl dr ki rl (ms_1, mc_1, mw_1, mb_1) cl (mh_3, mo_3) sl tk kp pa tr 0 ++ rest))) (As := [.int (f0 x.toNatClampNeg), .int (g0 x.toNatClampNeg)]) (st := []) (kc' := 0) (ks' := 0) (v := .int (m_cur mb_1 (mh_3, mo_3) (f0 x.toNatClampNeg) (g0 x.toNatClampNeg))) C0 d_Md_state_99 l_Md_147 rfl rfl (d_cur (by assumption) (by assumption)) rfl rfl rfl (Nat.le_of_ble_eq_true rfl) (Nat.le_of_ble_eq_true rfl) (Nat.le_of_ble_eq_true rfl) (Nat.le_of_ble_eq_true rfl) (Nat.le_of_ble_eq_true rfl) (Nat.le_of_ble_eq_true rfl) ?_
  refine xs_bz_eq (u := 1) (v := 0) (tgt := 109) (J := 110) C0 d_Md_state_102 (by decide) d_Md_state_105 (by decide) d_Md_state_106 (by decide) d_Md_state_109 (by decide) rfl ?_
  rw [hhc_2] at hf
  subst hf
  exact xs_iret C0 d_Md_state_110 (⟨rfl, rfl⟩) (Nat.le_of_ble_eq_true rfl) (Nat.le_of_ble_eq_true rfl)
set_option maxHeartbeats 4000000 in
set_option maxRecDepth 100000 in
theorem d_stateT {Q0 Q1 Q2 Q3 Q4 : wt_P} {ql qr qk qo : Nat → Int32} {QS QT : wt_S} {QF : wt_F} {QH : wt_H} {qt : Int32} {B : wb} {rl : Nat → Int32} {Z : mt_S} {cl : Nat → Int32} {hc : mt_H} {sl tk : Int32} {kp : mt_K} {pa : Nat → Int32} {tr : mt_T} {co : Int32} {rest : xm_O} {x y : Int32} (hM : okM B rl) (h : ¬ (gw x 0 (nI B.1.2.2 - 1) ∧ gw y 0 3)) : xm_M y_Md_state (Cond.code y_Md_state b_Md_state 3 (some .int)) (xm_rm 3 0 0) [.ref 36, .int x, .int y] (wd Q0 Q1 Q2 Q3 Q4 ql qr qk qo QS QT QF QH qt ++ (wMB B rl Z cl hc sl tk kp pa tr co ++ rest)) (xm_eq (.inl (some (.int 0))) (wd Q0 Q1 Q2 Q3 Q4 ql qr qk qo QS QT QF QH qt ++ (wMB B rl Z cl hc sl tk kp pa tr 1 ++ rest))) := by
  obtain ⟨⟨f0, g0, n0⟩, ⟨f1, g1, n1⟩, ⟨f2, g2, n2⟩, ⟨f3, g3, n3⟩, ⟨f4, g4, n4⟩, pl, dr, ki, ow⟩ := B
  have hB := hM.1
  have hrl := hM.2
  obtain ⟨⟨h0, hp0⟩, ⟨h1, hp1⟩, ⟨h2, hp2⟩, ⟨h3, hp3⟩, ⟨h4, hp4⟩, hk⟩ := id hB
  dsimp only at h0 h1 h2 h3 h4 hp0 hp1 hp2 hp3 hp4 hk hrl
  refine xm_of (by decide) (Nat.le_of_ble_eq_true rfl) (fun E C0 => ?_)
  refine xs_eq (ω' := (wd Q0 Q1 Q2 Q3 Q4 ql qr qk qo QS QT QF QH qt ++ (wM (f0, g0, nI n0) (f1, g1, nI n1) (f2, g2, nI n2) (f3, g3, nI n3) (f4, g4, nI n4) pl dr ki rl Z cl hc sl tk kp pa tr co ++ rest))) (lv' := [(0, .ref 36), (1, .int x), (2, .int y)]) rfl rfl rfl ?_
  by_cases ha : gw x 0 (nI n0 - 1)
  · refine xs_aload_n C0 d_Md_state_0 rfl 0 rfl ?_
    refine xs_iload_n C0 d_Md_state_1 rfl 1 rfl ?_
    refine xs_iconst (v := 0) C0 d_Md_state_2 (by decide) ?_
    refine xs_aload_n C0 d_Md_state_3 rfl 0 rfl ?_
    refine xs_get (q := 36) (v := .int (nI n0)) C0 f_Md_108 d_Md_state_4 rfl rfl ?_
    refine xs_iconst (v := 1) C0 d_Md_state_7 (by decide) ?_
    refine xs_isub C0 d_Md_state_8 ?_
    refine xs_cS1 (ω' := (wd Q0 Q1 Q2 Q3 Q4 ql qr qk qo QS QT QF QH qt ++ (wM (f0, g0, nI n0) (f1, g1, nI n1) (f2, g2, nI n2) (f3, g3, nI n3) (f4, g4, nI n4) pl dr ki rl Z cl hc sl tk kp pa tr co ++ rest))) (av := [.int x, .int 0, .int ((nI n0) - 1)]) (st := [.ref 36]) (kc' := 0) (ks' := 0) (v := .int 1) C0 d_Md_state_9 l_Md_96 (d_in1 _ x 0 ((nI n0) - 1) ha) rfl rfl rfl (Nat.le_of_ble_eq_true rfl) (Nat.le_of_ble_eq_true rfl) (Nat.le_of_ble_eq_true rfl) (Nat.le_of_ble_eq_true rfl) (Nat.le_of_ble_eq_true rfl) (Nat.le_of_ble_eq_true rfl) ?_
    refine xs_if_eq (tgt := 28) C0 d_Md_state_12 (by decide) (fun c9 => absurd c9 (by decide)) (fun _ => ?_)
    refine xs_iload_n C0 d_Md_state_15 rfl 2 rfl ?_
    refine xs_iconst (v := 0) C0 d_Md_state_16 (by decide) ?_
    refine xs_iconst (v := 3) C0 d_Md_state_17 (by decide) ?_
    refine xs_pc (pc' := 18) rfl ?_
    refine xs_cS1 (ω' := (wd Q0 Q1 Q2 Q3 Q4 ql qr qk qo QS QT QF QH qt ++ (wM (f0, g0, nI n0) (f1, g1, nI n1) (f2, g2, nI n2) (f3, g3, nI n3) (f4, g4, nI n4) pl dr ki rl Z cl hc sl tk kp pa tr co ++ rest))) (av := [.int y, .int 0, .int 3]) (st := [.ref 36]) (kc' := 0) (ks' := 0) (v := .int 0) C0 d_Md_state_18 l_Md_96 (d_in0 _ y 0 3 (fun h9 => h ⟨ha, h9⟩)) rfl rfl rfl (Nat.le_of_ble_eq_true rfl) (Nat.le_of_ble_eq_true rfl) (Nat.le_of_ble_eq_true rfl) (Nat.le_of_ble_eq_true rfl) (Nat.le_of_ble_eq_true rfl) (Nat.le_of_ble_eq_true rfl) ?_
    refine xs_if_eq (tgt := 28) C0 d_Md_state_21 (by decide) (fun _ => ?_) (fun c9 => absurd rfl c9)
    refine xs_iconst (v := 1) C0 d_Md_state_28 (by decide) ?_
    refine xs_put (ω' := (wd Q0 Q1 Q2 Q3 Q4 ql qr qk qo QS QT QF QH qt ++ (wM (f0, g0, nI n0) (f1, g1, nI n1) (f2, g2, nI n2) (f3, g3, nI n3) (f4, g4, nI n4) pl dr ki rl Z cl hc sl tk kp pa tr 1 ++ rest))) C0 f_Md_92 ty_Md_0 d_Md_state_29 rfl (Nat.le_of_ble_eq_true rfl) (fun _ => ⟨rfl, rfl⟩) rfl ?_
    refine xs_aload_n C0 d_Md_state_32 rfl 0 rfl ?_
    refine xs_get (q := 36) (v := .int 1) C0 f_Md_92 d_Md_state_33 rfl rfl ?_
    refine xs_if_le (tgt := 41) C0 d_Md_state_36 (by decide) (fun c9 => absurd c9 (by decide)) (fun _ => ?_)
    refine xs_iconst (v := 0) C0 d_Md_state_39 (by decide) ?_
    exact xs_iret C0 d_Md_state_40 (⟨rfl, rfl⟩) (Nat.le_of_ble_eq_true rfl) (Nat.le_of_ble_eq_true rfl)
  · refine xs_aload_n C0 d_Md_state_0 rfl 0 rfl ?_
    refine xs_iload_n C0 d_Md_state_1 rfl 1 rfl ?_
    refine xs_iconst (v := 0) C0 d_Md_state_2 (by decide) ?_
    refine xs_aload_n C0 d_Md_state_3 rfl 0 rfl ?_
    refine xs_get (q := 36) (v := .int (nI n0)) C0 f_Md_108 d_Md_state_4 rfl rfl ?_
    refine xs_iconst (v := 1) C0 d_Md_state_7 (by decide) ?_
    refine xs_isub C0 d_Md_state_8 ?_
    refine xs_cS1 (ω' := (wd Q0 Q1 Q2 Q3 Q4 ql qr qk qo QS QT QF QH qt ++ (wM (f0, g0, nI n0) (f1, g1, nI n1) (f2, g2, nI n2) (f3, g3, nI n3) (f4, g4, nI n4) pl dr ki rl Z cl hc sl tk kp pa tr co ++ rest))) (av := [.int x, .int 0, .int ((nI n0) - 1)]) (st := [.ref 36]) (kc' := 0) (ks' := 0) (v := .int 0) C0 d_Md_state_9 l_Md_96 (d_in0 _ x 0 ((nI n0) - 1) ha) rfl rfl rfl (Nat.le_of_ble_eq_true rfl) (Nat.le_of_ble_eq_true rfl) (Nat.le_of_ble_eq_true rfl) (Nat.le_of_ble_eq_true rfl) (Nat.le_of_ble_eq_true rfl) (Nat.le_of_ble_eq_true rfl) ?_
    refine xs_if_eq (tgt := 28) C0 d_Md_state_12 (by decide) (fun _ => ?_) (fun c9 => absurd rfl c9)
    refine xs_iconst (v := 1) C0 d_Md_state_28 (by decide) ?_
    refine xs_put (ω' := (wd Q0 Q1 Q2 Q3 Q4 ql qr qk qo QS QT QF QH qt ++ (wM (f0, g0, nI n0) (f1, g1, nI n1) (f2, g2, nI n2) (f3, g3, nI n3) (f4, g4, nI n4) pl dr ki rl Z cl hc sl tk kp pa tr 1 ++ rest))) C0 f_Md_92 ty_Md_0 d_Md_state_29 rfl (Nat.le_of_ble_eq_true rfl) (fun _ => ⟨rfl, rfl⟩) rfl ?_
    refine xs_aload_n C0 d_Md_state_32 rfl 0 rfl ?_
    refine xs_get (q := 36) (v := .int 1) C0 f_Md_92 d_Md_state_33 rfl rfl ?_
    refine xs_if_le (tgt := 41) C0 d_Md_state_36 (by decide) (fun c9 => absurd c9 (by decide)) (fun _ => ?_)
    refine xs_iconst (v := 0) C0 d_Md_state_39 (by decide) ?_
    exact xs_iret C0 d_Md_state_40 (⟨rfl, rfl⟩) (Nat.le_of_ble_eq_true rfl) (Nat.le_of_ble_eq_true rfl)
set_option maxHeartbeats 4000000 in
set_option maxRecDepth 100000 in
theorem d_cnt0 {Q0 Q1 Q2 Q3 Q4 : wt_P} {ql qr qk qo : Nat → Int32} {QS QT : wt_S} {QF : wt_F} {QH : wt_H} {qt : Int32} {B : wb} {rl : Nat → Int32} {Z : mt_S} {cl : Nat → Int32} {hc : mt_H} {sl tk : Int32} {kp : mt_K} {pa : Nat → Int32} {tr : mt_T} {co : Int32} {rest : xm_O} (hM : okM B rl) : xm_M y_Md_count (Cond.code y_Md_count b_Md_count 4 (some .int)) (xm_rm 1 0 0) [.ref 36, .int 0] (wd Q0 Q1 Q2 Q3 Q4 ql qr qk qo QS QT QF QH qt ++ (wMB B rl Z cl hc sl tk kp pa tr co ++ rest)) (xm_eq (.inl (some (.int (nI B.1.2.2)))) (wd Q0 Q1 Q2 Q3 Q4 ql qr qk qo QS QT QF QH qt ++ (wMB B rl Z cl hc sl tk kp pa tr 0 ++ rest))) := by
  obtain ⟨⟨f0, g0, n0⟩, ⟨f1, g1, n1⟩, ⟨f2, g2, n2⟩, ⟨f3, g3, n3⟩, ⟨f4, g4, n4⟩, pl, dr, ki, ow⟩ := B
  have hB := hM.1
  have hrl := hM.2
  obtain ⟨⟨h0, hp0⟩, ⟨h1, hp1⟩, ⟨h2, hp2⟩, ⟨h3, hp3⟩, ⟨h4, hp4⟩, hk⟩ := id hB
  dsimp only at h0 h1 h2 h3 h4 hp0 hp1 hp2 hp3 hp4 hk hrl
  refine xm_of (by decide) (Nat.le_of_ble_eq_true rfl) (fun E C0 => ?_)
  refine xs_eq (ω' := (wd Q0 Q1 Q2 Q3 Q4 ql qr qk qo QS QT QF QH qt ++ (wM (f0, g0, nI n0) (f1, g1, nI n1) (f2, g2, nI n2) (f3, g3, nI n3) (f4, g4, nI n4) pl dr ki rl Z cl hc sl tk kp pa tr co ++ rest))) (lv' := [(0, .ref 36), (1, .int 0)]) rfl rfl rfl ?_
  refine xs_aload_n C0 d_Md_count_0 rfl 0 rfl ?_
  refine xs_iconst (v := 0) C0 d_Md_count_1 (by decide) ?_
  refine xs_put (ω' := (wd Q0 Q1 Q2 Q3 Q4 ql qr qk qo QS QT QF QH qt ++ (wM (f0, g0, nI n0) (f1, g1, nI n1) (f2, g2, nI n2) (f3, g3, nI n3) (f4, g4, nI n4) pl dr ki rl Z cl hc sl tk kp pa tr 0 ++ rest))) C0 f_Md_92 ty_Md_0 d_Md_count_2 rfl (Nat.le_of_ble_eq_true rfl) (fun _ => ⟨rfl, rfl⟩) rfl ?_
  refine xs_iload_n C0 d_Md_count_5 rfl 1 rfl ?_
  refine xs_iconst (v := 5) C0 d_Md_count_6 (by decide) ?_
  refine xs_icmp_ne (tgt := 46) C0 d_Md_count_7 (by decide) (fun _ => ?_) (fun c9 => absurd c9 (by decide))
  refine xs_iload_n C0 d_Md_count_46 rfl 1 rfl ?_
  refine xs_if_ne (tgt := 57) C0 d_Md_count_47 (by decide) (fun c9 => absurd rfl c9) (fun _ => ?_)
  refine xs_aload_n C0 d_Md_count_50 rfl 0 rfl ?_
  refine xs_get (q := 36) (v := .int (nI n0)) C0 f_Md_108 d_Md_count_51 rfl rfl ?_
  refine xs_goto (tgt := 119) C0 d_Md_count_54 (by decide) ?_
  exact xs_iret C0 d_Md_count_119 (⟨rfl, rfl⟩) (Nat.le_of_ble_eq_true rfl) (Nat.le_of_ble_eq_true rfl)
set_option maxHeartbeats 4000000 in
set_option maxRecDepth 100000 in
theorem d_cnt1 {Q0 Q1 Q2 Q3 Q4 : wt_P} {ql qr qk qo : Nat → Int32} {QS QT : wt_S} {QF : wt_F} {QH : wt_H} {qt : Int32} {B : wb} {rl : Nat → Int32} {Z : mt_S} {cl : Nat → Int32} {hc : mt_H} {sl tk : Int32} {kp : mt_K} {pa : Nat → Int32} {tr : mt_T} {co : Int32} {rest : xm_O} (hM : okM B rl) : xm_M y_Md_count (Cond.code y_Md_count b_Md_count 4 (some .int)) (xm_rm 1 0 0) [.ref 36, .int 1] (wd Q0 Q1 Q2 Q3 Q4 ql qr qk qo QS QT QF QH qt ++ (wMB B rl Z cl hc sl tk kp pa tr co ++ rest)) (xm_eq (.inl (some (.int (nI B.2.1.2.2)))) (wd Q0 Q1 Q2 Q3 Q4 ql qr qk qo QS QT QF QH qt ++ (wMB B rl Z cl hc sl tk kp pa tr 0 ++ rest))) := by
  obtain ⟨⟨f0, g0, n0⟩, ⟨f1, g1, n1⟩, ⟨f2, g2, n2⟩, ⟨f3, g3, n3⟩, ⟨f4, g4, n4⟩, pl, dr, ki, ow⟩ := B
  have hB := hM.1
  have hrl := hM.2
  obtain ⟨⟨h0, hp0⟩, ⟨h1, hp1⟩, ⟨h2, hp2⟩, ⟨h3, hp3⟩, ⟨h4, hp4⟩, hk⟩ := id hB
  dsimp only at h0 h1 h2 h3 h4 hp0 hp1 hp2 hp3 hp4 hk hrl
  refine xm_of (by decide) (Nat.le_of_ble_eq_true rfl) (fun E C0 => ?_)
  refine xs_eq (ω' := (wd Q0 Q1 Q2 Q3 Q4 ql qr qk qo QS QT QF QH qt ++ (wM (f0, g0, nI n0) (f1, g1, nI n1) (f2, g2, nI n2) (f3, g3, nI n3) (f4, g4, nI n4) pl dr ki rl Z cl hc sl tk kp pa tr co ++ rest))) (lv' := [(0, .ref 36), (1, .int 1)]) rfl rfl rfl ?_
  refine xs_aload_n C0 d_Md_count_0 rfl 0 rfl ?_
  refine xs_iconst (v := 0) C0 d_Md_count_1 (by decide) ?_
  refine xs_put (ω' := (wd Q0 Q1 Q2 Q3 Q4 ql qr qk qo QS QT QF QH qt ++ (wM (f0, g0, nI n0) (f1, g1, nI n1) (f2, g2, nI n2) (f3, g3, nI n3) (f4, g4, nI n4) pl dr ki rl Z cl hc sl tk kp pa tr 0 ++ rest))) C0 f_Md_92 ty_Md_0 d_Md_count_2 rfl (Nat.le_of_ble_eq_true rfl) (fun _ => ⟨rfl, rfl⟩) rfl ?_
  refine xs_iload_n C0 d_Md_count_5 rfl 1 rfl ?_
  refine xs_iconst (v := 5) C0 d_Md_count_6 (by decide) ?_
  refine xs_icmp_ne (tgt := 46) C0 d_Md_count_7 (by decide) (fun _ => ?_) (fun c9 => absurd c9 (by decide))
  refine xs_iload_n C0 d_Md_count_46 rfl 1 rfl ?_
  refine xs_if_ne (tgt := 57) C0 d_Md_count_47 (by decide) (fun _ => ?_) (fun c9 => absurd c9 (by decide))
  refine xs_iload_n C0 d_Md_count_57 rfl 1 rfl ?_
  refine xs_iconst (v := 1) C0 d_Md_count_58 (by decide) ?_
  refine xs_icmp_ne (tgt := 69) C0 d_Md_count_59 (by decide) (fun c9 => absurd rfl c9) (fun _ => ?_)
  refine xs_aload_n C0 d_Md_count_62 rfl 0 rfl ?_
  refine xs_get (q := 36) (v := .int (nI n1)) C0 f_Md_114 d_Md_count_63 rfl rfl ?_
  refine xs_goto (tgt := 119) C0 d_Md_count_66 (by decide) ?_
  exact xs_iret C0 d_Md_count_119 (⟨rfl, rfl⟩) (Nat.le_of_ble_eq_true rfl) (Nat.le_of_ble_eq_true rfl)
set_option maxHeartbeats 4000000 in
set_option maxRecDepth 100000 in
theorem d_cnt2 {Q0 Q1 Q2 Q3 Q4 : wt_P} {ql qr qk qo : Nat → Int32} {QS QT : wt_S} {QF : wt_F} {QH : wt_H} {qt : Int32} {B : wb} {rl : Nat → Int32} {Z : mt_S} {cl : Nat → Int32} {hc : mt_H} {sl tk : Int32} {kp : mt_K} {pa : Nat → Int32} {tr : mt_T} {co : Int32} {rest : xm_O} (hM : okM B rl) : xm_M y_Md_count (Cond.code y_Md_count b_Md_count 4 (some .int)) (xm_rm 1 0 0) [.ref 36, .int 2] (wd Q0 Q1 Q2 Q3 Q4 ql qr qk qo QS QT QF QH qt ++ (wMB B rl Z cl hc sl tk kp pa tr co ++ rest)) (xm_eq (.inl (some (.int (nI B.2.2.1.2.2)))) (wd Q0 Q1 Q2 Q3 Q4 ql qr qk qo QS QT QF QH qt ++ (wMB B rl Z cl hc sl tk kp pa tr 0 ++ rest))) := by
  obtain ⟨⟨f0, g0, n0⟩, ⟨f1, g1, n1⟩, ⟨f2, g2, n2⟩, ⟨f3, g3, n3⟩, ⟨f4, g4, n4⟩, pl, dr, ki, ow⟩ := B
  have hB := hM.1
  have hrl := hM.2
  obtain ⟨⟨h0, hp0⟩, ⟨h1, hp1⟩, ⟨h2, hp2⟩, ⟨h3, hp3⟩, ⟨h4, hp4⟩, hk⟩ := id hB
  dsimp only at h0 h1 h2 h3 h4 hp0 hp1 hp2 hp3 hp4 hk hrl
  refine xm_of (by decide) (Nat.le_of_ble_eq_true rfl) (fun E C0 => ?_)
  refine xs_eq (ω' := (wd Q0 Q1 Q2 Q3 Q4 ql qr qk qo QS QT QF QH qt ++ (wM (f0, g0, nI n0) (f1, g1, nI n1) (f2, g2, nI n2) (f3, g3, nI n3) (f4, g4, nI n4) pl dr ki rl Z cl hc sl tk kp pa tr co ++ rest))) (lv' := [(0, .ref 36), (1, .int 2)]) rfl rfl rfl ?_
  refine xs_aload_n C0 d_Md_count_0 rfl 0 rfl ?_
  refine xs_iconst (v := 0) C0 d_Md_count_1 (by decide) ?_
  refine xs_put (ω' := (wd Q0 Q1 Q2 Q3 Q4 ql qr qk qo QS QT QF QH qt ++ (wM (f0, g0, nI n0) (f1, g1, nI n1) (f2, g2, nI n2) (f3, g3, nI n3) (f4, g4, nI n4) pl dr ki rl Z cl hc sl tk kp pa tr 0 ++ rest))) C0 f_Md_92 ty_Md_0 d_Md_count_2 rfl (Nat.le_of_ble_eq_true rfl) (fun _ => ⟨rfl, rfl⟩) rfl ?_
  refine xs_iload_n C0 d_Md_count_5 rfl 1 rfl ?_
  refine xs_iconst (v := 5) C0 d_Md_count_6 (by decide) ?_
  refine xs_icmp_ne (tgt := 46) C0 d_Md_count_7 (by decide) (fun _ => ?_) (fun c9 => absurd c9 (by decide))
  refine xs_iload_n C0 d_Md_count_46 rfl 1 rfl ?_
  refine xs_if_ne (tgt := 57) C0 d_Md_count_47 (by decide) (fun _ => ?_) (fun c9 => absurd c9 (by decide))
  refine xs_iload_n C0 d_Md_count_57 rfl 1 rfl ?_
  refine xs_iconst (v := 1) C0 d_Md_count_58 (by decide) ?_
  refine xs_icmp_ne (tgt := 69) C0 d_Md_count_59 (by decide) (fun _ => ?_) (fun c9 => absurd c9 (by decide))
  refine xs_iload_n C0 d_Md_count_69 rfl 1 rfl ?_
  refine xs_iconst (v := 2) C0 d_Md_count_70 (by decide) ?_
  refine xs_icmp_ne (tgt := 81) C0 d_Md_count_71 (by decide) (fun c9 => absurd rfl c9) (fun _ => ?_)
  refine xs_aload_n C0 d_Md_count_74 rfl 0 rfl ?_
  refine xs_get (q := 36) (v := .int (nI n2)) C0 f_Md_117 d_Md_count_75 rfl rfl ?_
  refine xs_goto (tgt := 119) C0 d_Md_count_78 (by decide) ?_
  exact xs_iret C0 d_Md_count_119 (⟨rfl, rfl⟩) (Nat.le_of_ble_eq_true rfl) (Nat.le_of_ble_eq_true rfl)
set_option maxHeartbeats 4000000 in
set_option maxRecDepth 100000 in
theorem d_cnt3 {Q0 Q1 Q2 Q3 Q4 : wt_P} {ql qr qk qo : Nat → Int32} {QS QT : wt_S} {QF : wt_F} {QH : wt_H} {qt : Int32} {B : wb} {rl : Nat → Int32} {Z : mt_S} {cl : Nat → Int32} {hc : mt_H} {sl tk : Int32} {kp : mt_K} {pa : Nat → Int32} {tr : mt_T} {co : Int32} {rest : xm_O} (hM : okM B rl) : xm_M y_Md_count (Cond.code y_Md_count b_Md_count 4 (some .int)) (xm_rm 1 0 0) [.ref 36, .int 3] (wd Q0 Q1 Q2 Q3 Q4 ql qr qk qo QS QT QF QH qt ++ (wMB B rl Z cl hc sl tk kp pa tr co ++ rest)) (xm_eq (.inl (some (.int (nI B.2.2.2.1.2.2)))) (wd Q0 Q1 Q2 Q3 Q4 ql qr qk qo QS QT QF QH qt ++ (wMB B rl Z cl hc sl tk kp pa tr 0 ++ rest))) := by
  obtain ⟨⟨f0, g0, n0⟩, ⟨f1, g1, n1⟩, ⟨f2, g2, n2⟩, ⟨f3, g3, n3⟩, ⟨f4, g4, n4⟩, pl, dr, ki, ow⟩ := B
  have hB := hM.1
  have hrl := hM.2
  obtain ⟨⟨h0, hp0⟩, ⟨h1, hp1⟩, ⟨h2, hp2⟩, ⟨h3, hp3⟩, ⟨h4, hp4⟩, hk⟩ := id hB
  dsimp only at h0 h1 h2 h3 h4 hp0 hp1 hp2 hp3 hp4 hk hrl
  refine xm_of (by decide) (Nat.le_of_ble_eq_true rfl) (fun E C0 => ?_)
  refine xs_eq (ω' := (wd Q0 Q1 Q2 Q3 Q4 ql qr qk qo QS QT QF QH qt ++ (wM (f0, g0, nI n0) (f1, g1, nI n1) (f2, g2, nI n2) (f3, g3, nI n3) (f4, g4, nI n4) pl dr ki rl Z cl hc sl tk kp pa tr co ++ rest))) (lv' := [(0, .ref 36), (1, .int 3)]) rfl rfl rfl ?_
  refine xs_aload_n C0 d_Md_count_0 rfl 0 rfl ?_
  refine xs_iconst (v := 0) C0 d_Md_count_1 (by decide) ?_
  refine xs_put (ω' := (wd Q0 Q1 Q2 Q3 Q4 ql qr qk qo QS QT QF QH qt ++ (wM (f0, g0, nI n0) (f1, g1, nI n1) (f2, g2, nI n2) (f3, g3, nI n3) (f4, g4, nI n4) pl dr ki rl Z cl hc sl tk kp pa tr 0 ++ rest))) C0 f_Md_92 ty_Md_0 d_Md_count_2 rfl (Nat.le_of_ble_eq_true rfl) (fun _ => ⟨rfl, rfl⟩) rfl ?_
  refine xs_iload_n C0 d_Md_count_5 rfl 1 rfl ?_
  refine xs_iconst (v := 5) C0 d_Md_count_6 (by decide) ?_
  refine xs_icmp_ne (tgt := 46) C0 d_Md_count_7 (by decide) (fun _ => ?_) (fun c9 => absurd c9 (by decide))
  refine xs_iload_n C0 d_Md_count_46 rfl 1 rfl ?_
  refine xs_if_ne (tgt := 57) C0 d_Md_count_47 (by decide) (fun _ => ?_) (fun c9 => absurd c9 (by decide))
  refine xs_iload_n C0 d_Md_count_57 rfl 1 rfl ?_
  refine xs_iconst (v := 1) C0 d_Md_count_58 (by decide) ?_
  refine xs_icmp_ne (tgt := 69) C0 d_Md_count_59 (by decide) (fun _ => ?_) (fun c9 => absurd c9 (by decide))
  refine xs_iload_n C0 d_Md_count_69 rfl 1 rfl ?_
  refine xs_iconst (v := 2) C0 d_Md_count_70 (by decide) ?_
  refine xs_icmp_ne (tgt := 81) C0 d_Md_count_71 (by decide) (fun _ => ?_) (fun c9 => absurd c9 (by decide))
  refine xs_iload_n C0 d_Md_count_81 rfl 1 rfl ?_
  refine xs_iconst (v := 3) C0 d_Md_count_82 (by decide) ?_
  refine xs_icmp_ne (tgt := 93) C0 d_Md_count_83 (by decide) (fun c9 => absurd rfl c9) (fun _ => ?_)
  refine xs_aload_n C0 d_Md_count_86 rfl 0 rfl ?_
  refine xs_get (q := 36) (v := .int (nI n3)) C0 f_Md_120 d_Md_count_87 rfl rfl ?_
  refine xs_goto (tgt := 119) C0 d_Md_count_90 (by decide) ?_
  exact xs_iret C0 d_Md_count_119 (⟨rfl, rfl⟩) (Nat.le_of_ble_eq_true rfl) (Nat.le_of_ble_eq_true rfl)
set_option maxHeartbeats 4000000 in
set_option maxRecDepth 100000 in
theorem d_cnt4 {Q0 Q1 Q2 Q3 Q4 : wt_P} {ql qr qk qo : Nat → Int32} {QS QT : wt_S} {QF : wt_F} {QH : wt_H} {qt : Int32} {B : wb} {rl : Nat → Int32} {Z : mt_S} {cl : Nat → Int32} {hc : mt_H} {sl tk : Int32} {kp : mt_K} {pa : Nat → Int32} {tr : mt_T} {co : Int32} {rest : xm_O} (hM : okM B rl) : xm_M y_Md_count (Cond.code y_Md_count b_Md_count 4 (some .int)) (xm_rm 1 0 0) [.ref 36, .int 4] (wd Q0 Q1 Q2 Q3 Q4 ql qr qk qo QS QT QF QH qt ++ (wMB B rl Z cl hc sl tk kp pa tr co ++ rest)) (xm_eq (.inl (some (.int (nI B.2.2.2.2.1.2.2)))) (wd Q0 Q1 Q2 Q3 Q4 ql qr qk qo QS QT QF QH qt ++ (wMB B rl Z cl hc sl tk kp pa tr 0 ++ rest))) := by
  obtain ⟨⟨f0, g0, n0⟩, ⟨f1, g1, n1⟩, ⟨f2, g2, n2⟩, ⟨f3, g3, n3⟩, ⟨f4, g4, n4⟩, pl, dr, ki, ow⟩ := B
  have hB := hM.1
  have hrl := hM.2
  obtain ⟨⟨h0, hp0⟩, ⟨h1, hp1⟩, ⟨h2, hp2⟩, ⟨h3, hp3⟩, ⟨h4, hp4⟩, hk⟩ := id hB
  dsimp only at h0 h1 h2 h3 h4 hp0 hp1 hp2 hp3 hp4 hk hrl
  refine xm_of (by decide) (Nat.le_of_ble_eq_true rfl) (fun E C0 => ?_)
  refine xs_eq (ω' := (wd Q0 Q1 Q2 Q3 Q4 ql qr qk qo QS QT QF QH qt ++ (wM (f0, g0, nI n0) (f1, g1, nI n1) (f2, g2, nI n2) (f3, g3, nI n3) (f4, g4, nI n4) pl dr ki rl Z cl hc sl tk kp pa tr co ++ rest))) (lv' := [(0, .ref 36), (1, .int 4)]) rfl rfl rfl ?_
  refine xs_aload_n C0 d_Md_count_0 rfl 0 rfl ?_
  refine xs_iconst (v := 0) C0 d_Md_count_1 (by decide) ?_
  refine xs_put (ω' := (wd Q0 Q1 Q2 Q3 Q4 ql qr qk qo QS QT QF QH qt ++ (wM (f0, g0, nI n0) (f1, g1, nI n1) (f2, g2, nI n2) (f3, g3, nI n3) (f4, g4, nI n4) pl dr ki rl Z cl hc sl tk kp pa tr 0 ++ rest))) C0 f_Md_92 ty_Md_0 d_Md_count_2 rfl (Nat.le_of_ble_eq_true rfl) (fun _ => ⟨rfl, rfl⟩) rfl ?_
  refine xs_iload_n C0 d_Md_count_5 rfl 1 rfl ?_
  refine xs_iconst (v := 5) C0 d_Md_count_6 (by decide) ?_
  refine xs_icmp_ne (tgt := 46) C0 d_Md_count_7 (by decide) (fun _ => ?_) (fun c9 => absurd c9 (by decide))
  refine xs_iload_n C0 d_Md_count_46 rfl 1 rfl ?_
  refine xs_if_ne (tgt := 57) C0 d_Md_count_47 (by decide) (fun _ => ?_) (fun c9 => absurd c9 (by decide))
  refine xs_iload_n C0 d_Md_count_57 rfl 1 rfl ?_
  refine xs_iconst (v := 1) C0 d_Md_count_58 (by decide) ?_
  refine xs_icmp_ne (tgt := 69) C0 d_Md_count_59 (by decide) (fun _ => ?_) (fun c9 => absurd c9 (by decide))
  refine xs_iload_n C0 d_Md_count_69 rfl 1 rfl ?_
  refine xs_iconst (v := 2) C0 d_Md_count_70 (by decide) ?_
  refine xs_icmp_ne (tgt := 81) C0 d_Md_count_71 (by decide) (fun _ => ?_) (fun c9 => absurd c9 (by decide))
  refine xs_iload_n C0 d_Md_count_81 rfl 1 rfl ?_
  refine xs_iconst (v := 3) C0 d_Md_count_82 (by decide) ?_
  refine xs_icmp_ne (tgt := 93) C0 d_Md_count_83 (by decide) (fun _ => ?_) (fun c9 => absurd c9 (by decide))
  refine xs_iload_n C0 d_Md_count_93 rfl 1 rfl ?_
  refine xs_iconst (v := 4) C0 d_Md_count_94 (by decide) ?_
  refine xs_icmp_ne (tgt := 105) C0 d_Md_count_95 (by decide) (fun c9 => absurd rfl c9) (fun _ => ?_)
  refine xs_aload_n C0 d_Md_count_98 rfl 0 rfl ?_
  refine xs_get (q := 36) (v := .int (nI n4)) C0 f_Md_123 d_Md_count_99 rfl rfl ?_
  refine xs_goto (tgt := 119) C0 d_Md_count_102 (by decide) ?_
  exact xs_iret C0 d_Md_count_119 (⟨rfl, rfl⟩) (Nat.le_of_ble_eq_true rfl) (Nat.le_of_ble_eq_true rfl)
set_option maxHeartbeats 4000000 in
set_option maxRecDepth 100000 in
theorem d_cnt6 {Q0 Q1 Q2 Q3 Q4 : wt_P} {ql qr qk qo : Nat → Int32} {QS QT : wt_S} {QF : wt_F} {QH : wt_H} {qt : Int32} {B : wb} {rl : Nat → Int32} {Z : mt_S} {cl : Nat → Int32} {hc : mt_H} {sl tk : Int32} {kp : mt_K} {pa : Nat → Int32} {tr : mt_T} {co : Int32} {rest : xm_O} (hM : okM B rl) : xm_M y_Md_count (Cond.code y_Md_count b_Md_count 4 (some .int)) (xm_rm 1 0 0) [.ref 36, .int 6] (wd Q0 Q1 Q2 Q3 Q4 ql qr qk qo QS QT QF QH qt ++ (wMB B rl Z cl hc sl tk kp pa tr co ++ rest)) (xm_eq (.inl (some (.int (tk)))) (wd Q0 Q1 Q2 Q3 Q4 ql qr qk qo QS QT QF QH qt ++ (wMB B rl Z cl hc sl tk kp pa tr 0 ++ rest))) := by
  obtain ⟨⟨f0, g0, n0⟩, ⟨f1, g1, n1⟩, ⟨f2, g2, n2⟩, ⟨f3, g3, n3⟩, ⟨f4, g4, n4⟩, pl, dr, ki, ow⟩ := B
  have hB := hM.1
  have hrl := hM.2
  obtain ⟨⟨h0, hp0⟩, ⟨h1, hp1⟩, ⟨h2, hp2⟩, ⟨h3, hp3⟩, ⟨h4, hp4⟩, hk⟩ := id hB
  dsimp only at h0 h1 h2 h3 h4 hp0 hp1 hp2 hp3 hp4 hk hrl
  refine xm_of (by decide) (Nat.le_of_ble_eq_true rfl) (fun E C0 => ?_)
  refine xs_eq (ω' := (wd Q0 Q1 Q2 Q3 Q4 ql qr qk qo QS QT QF QH qt ++ (wM (f0, g0, nI n0) (f1, g1, nI n1) (f2, g2, nI n2) (f3, g3, nI n3) (f4, g4, nI n4) pl dr ki rl Z cl hc sl tk kp pa tr co ++ rest))) (lv' := [(0, .ref 36), (1, .int 6)]) rfl rfl rfl ?_
  refine xs_aload_n C0 d_Md_count_0 rfl 0 rfl ?_
  refine xs_iconst (v := 0) C0 d_Md_count_1 (by decide) ?_
  refine xs_put (ω' := (wd Q0 Q1 Q2 Q3 Q4 ql qr qk qo QS QT QF QH qt ++ (wM (f0, g0, nI n0) (f1, g1, nI n1) (f2, g2, nI n2) (f3, g3, nI n3) (f4, g4, nI n4) pl dr ki rl Z cl hc sl tk kp pa tr 0 ++ rest))) C0 f_Md_92 ty_Md_0 d_Md_count_2 rfl (Nat.le_of_ble_eq_true rfl) (fun _ => ⟨rfl, rfl⟩) rfl ?_
  refine xs_iload_n C0 d_Md_count_5 rfl 1 rfl ?_
  refine xs_iconst (v := 5) C0 d_Md_count_6 (by decide) ?_
  refine xs_icmp_ne (tgt := 46) C0 d_Md_count_7 (by decide) (fun _ => ?_) (fun c9 => absurd c9 (by decide))
  refine xs_iload_n C0 d_Md_count_46 rfl 1 rfl ?_
  refine xs_if_ne (tgt := 57) C0 d_Md_count_47 (by decide) (fun _ => ?_) (fun c9 => absurd c9 (by decide))
  refine xs_iload_n C0 d_Md_count_57 rfl 1 rfl ?_
  refine xs_iconst (v := 1) C0 d_Md_count_58 (by decide) ?_
  refine xs_icmp_ne (tgt := 69) C0 d_Md_count_59 (by decide) (fun _ => ?_) (fun c9 => absurd c9 (by decide))
  refine xs_iload_n C0 d_Md_count_69 rfl 1 rfl ?_
  refine xs_iconst (v := 2) C0 d_Md_count_70 (by decide) ?_
  refine xs_icmp_ne (tgt := 81) C0 d_Md_count_71 (by decide) (fun _ => ?_) (fun c9 => absurd c9 (by decide))
  refine xs_iload_n C0 d_Md_count_81 rfl 1 rfl ?_
  refine xs_iconst (v := 3) C0 d_Md_count_82 (by decide) ?_
  refine xs_icmp_ne (tgt := 93) C0 d_Md_count_83 (by decide) (fun _ => ?_) (fun c9 => absurd c9 (by decide))
  refine xs_iload_n C0 d_Md_count_93 rfl 1 rfl ?_
  refine xs_iconst (v := 4) C0 d_Md_count_94 (by decide) ?_
  refine xs_icmp_ne (tgt := 105) C0 d_Md_count_95 (by decide) (fun _ => ?_) (fun c9 => absurd c9 (by decide))
  refine xs_iload_n C0 d_Md_count_105 rfl 1 rfl ?_
  refine xs_bipush (v := 6) C0 d_Md_count_106 (by decide) ?_
  refine xs_icmp_ne (tgt := 118) C0 d_Md_count_108 (by decide) (fun c9 => absurd rfl c9) (fun _ => ?_)
  refine xs_aload_n C0 d_Md_count_111 rfl 0 rfl ?_
  refine xs_get (q := 36) (v := .int tk) C0 f_Md_171 d_Md_count_112 rfl rfl ?_
  refine xs_goto (tgt := 119) C0 d_Md_count_115 (by decide) ?_
  exact xs_iret C0 d_Md_count_119 (⟨rfl, rfl⟩) (Nat.le_of_ble_eq_true rfl) (Nat.le_of_ble_eq_true rfl)
set_option maxHeartbeats 4000000 in
set_option maxRecDepth 100000 in
theorem d_cntX {Q0 Q1 Q2 Q3 Q4 : wt_P} {ql qr qk qo : Nat → Int32} {QS QT : wt_S} {QF : wt_F} {QH : wt_H} {qt : Int32} {B : wb} {rl : Nat → Int32} {Z : mt_S} {cl : Nat → Int32} {hc : mt_H} {sl tk : Int32} {kp : mt_K} {pa : Nat → Int32} {tr : mt_T} {co : Int32} {rest : xm_O} {y : Int32} (hM : okM B rl) (hy : (y = 0 → False) ∧ (y = 1 → False) ∧ (y = 2 → False) ∧ (y = 3 → False) ∧ (y = 4 → False) ∧ (y = 5 → False) ∧ (y = 6 → False)) : xm_M y_Md_count (Cond.code y_Md_count b_Md_count 4 (some .int)) (xm_rm 1 0 0) [.ref 36, .int y] (wd Q0 Q1 Q2 Q3 Q4 ql qr qk qo QS QT QF QH qt ++ (wMB B rl Z cl hc sl tk kp pa tr co ++ rest)) (xm_eq (.inl (some (.int (-1)))) (wd Q0 Q1 Q2 Q3 Q4 ql qr qk qo QS QT QF QH qt ++ (wMB B rl Z cl hc sl tk kp pa tr 0 ++ rest))) := by
  obtain ⟨⟨f0, g0, n0⟩, ⟨f1, g1, n1⟩, ⟨f2, g2, n2⟩, ⟨f3, g3, n3⟩, ⟨f4, g4, n4⟩, pl, dr, ki, ow⟩ := B
  have hB := hM.1
  have hrl := hM.2
  obtain ⟨⟨h0, hp0⟩, ⟨h1, hp1⟩, ⟨h2, hp2⟩, ⟨h3, hp3⟩, ⟨h4, hp4⟩, hk⟩ := id hB
  dsimp only at h0 h1 h2 h3 h4 hp0 hp1 hp2 hp3 hp4 hk hrl
  refine xm_of (by decide) (Nat.le_of_ble_eq_true rfl) (fun E C0 => ?_)
  refine xs_eq (ω' := (wd Q0 Q1 Q2 Q3 Q4 ql qr qk qo QS QT QF QH qt ++ (wM (f0, g0, nI n0) (f1, g1, nI n1) (f2, g2, nI n2) (f3, g3, nI n3) (f4, g4, nI n4) pl dr ki rl Z cl hc sl tk kp pa tr co ++ rest))) (lv' := [(0, .ref 36), (1, .int y)]) rfl rfl rfl ?_
  refine xs_aload_n C0 d_Md_count_0 rfl 0 rfl ?_
  refine xs_iconst (v := 0) C0 d_Md_count_1 (by decide) ?_
  refine xs_put (ω' := (wd Q0 Q1 Q2 Q3 Q4 ql qr qk qo QS QT QF QH qt ++ (wM (f0, g0, nI n0) (f1, g1, nI n1) (f2, g2, nI n2) (f3, g3, nI n3) (f4, g4, nI n4) pl dr ki rl Z cl hc sl tk kp pa tr 0 ++ rest))) C0 f_Md_92 ty_Md_0 d_Md_count_2 rfl (Nat.le_of_ble_eq_true rfl) (fun _ => ⟨rfl, rfl⟩) rfl ?_
  refine xs_iload_n C0 d_Md_count_5 rfl 1 rfl ?_
  refine xs_iconst (v := 5) C0 d_Md_count_6 (by decide) ?_
  refine xs_icmp_ne (tgt := 46) C0 d_Md_count_7 (by decide) (fun _ => ?_) (fun c9 => (hy.2.2.2.2.2.1 c9).elim)
  refine xs_iload_n C0 d_Md_count_46 rfl 1 rfl ?_
  refine xs_if_ne (tgt := 57) C0 d_Md_count_47 (by decide) (fun _ => ?_) (fun c9 => (hy.1 c9).elim)
  refine xs_iload_n C0 d_Md_count_57 rfl 1 rfl ?_
  refine xs_iconst (v := 1) C0 d_Md_count_58 (by decide) ?_
  refine xs_icmp_ne (tgt := 69) C0 d_Md_count_59 (by decide) (fun _ => ?_) (fun c9 => (hy.2.1 c9).elim)
  refine xs_iload_n C0 d_Md_count_69 rfl 1 rfl ?_
  refine xs_iconst (v := 2) C0 d_Md_count_70 (by decide) ?_
  refine xs_icmp_ne (tgt := 81) C0 d_Md_count_71 (by decide) (fun _ => ?_) (fun c9 => (hy.2.2.1 c9).elim)
  refine xs_iload_n C0 d_Md_count_81 rfl 1 rfl ?_
  refine xs_iconst (v := 3) C0 d_Md_count_82 (by decide) ?_
  refine xs_icmp_ne (tgt := 93) C0 d_Md_count_83 (by decide) (fun _ => ?_) (fun c9 => (hy.2.2.2.1 c9).elim)
  refine xs_iload_n C0 d_Md_count_93 rfl 1 rfl ?_
  refine xs_iconst (v := 4) C0 d_Md_count_94 (by decide) ?_
  refine xs_icmp_ne (tgt := 105) C0 d_Md_count_95 (by decide) (fun _ => ?_) (fun c9 => (hy.2.2.2.2.1 c9).elim)
  refine xs_iload_n C0 d_Md_count_105 rfl 1 rfl ?_
  refine xs_bipush (v := 6) C0 d_Md_count_106 (by decide) ?_
  refine xs_icmp_ne (tgt := 118) C0 d_Md_count_108 (by decide) (fun _ => ?_) (fun c9 => (hy.2.2.2.2.2.2 c9).elim)
  refine xs_iconst (v := (-1)) C0 d_Md_count_118 (by decide) ?_
  exact xs_iret C0 d_Md_count_119 (⟨rfl, rfl⟩) (Nat.le_of_ble_eq_true rfl) (Nat.le_of_ble_eq_true rfl)
set_option maxHeartbeats 4000000 in
set_option maxRecDepth 100000 in
theorem lp_qcnt {Q0 Q1 Q2 Q3 Q4 : wt_P} {ql qr qk qo : Nat → Int32} {QS QT : wt_S} {QF : wt_F} {QH : wt_H} {qt : Int32} {f0 g0 f1 g1 f2 g2 f3 g3 f4 g4 : Nat → Int32} {n0 n1 n2 n3 n4 : Nat} {pl dr ki ow rl : Nat → Int32} {ms mc mw : Nat → Int32} {mb : Int32} {cl : Nat → Int32} {hc : mt_H} {sl tk : Int32} {kp : mt_K} {pa : Nat → Int32} {tr : mt_T} {co : Int32} {rest : xm_O} {E : xm_X} {Q : State → Prop} (C0 : xm_C E y_Md_count.cls b_Md_count 4 (some .int) [] y_Md_count.name (xm_rm 1 0 0)) (h1 : n1 ≤ 64) (hrl : ∀ c, c < n1 → ¬ ki c = 4 → vp_in (rl c) 16) (kx : xm_W E 4 Q 0 0 (wd Q0 Q1 Q2 Q3 Q4 ql qr qk qo QS QT QF QH qt ++ (wM (f0, g0, nI n0) (f1, g1, nI n1) (f2, g2, nI n2) (f3, g3, nI n3) (f4, g4, nI n4) pl dr ki rl (ms, mc, mw, mb) cl hc sl tk kp pa tr co ++ rest)) 44 [(2, .int (m_cnt ki rl ms n1))] []) : ∀ j : Nat, ∀ (i : Nat) (x : Int32), i + j = n1 → m_cnt ki rl ms i = x → xm_W E 4 Q 0 0 (wd Q0 Q1 Q2 Q3 Q4 ql qr qk qo QS QT QF QH qt ++ (wM (f0, g0, nI n0) (f1, g1, nI n1) (f2, g2, nI n2) (f3, g3, nI n3) (f4, g4, nI n4) pl dr ki rl (ms, mc, mw, mb) cl hc sl tk kp pa tr co ++ rest)) 14 [(0, .ref 36), (2, .int x), (3, .int (nI i))] [] := by
  intro j
  induction j with
  | zero =>
    intro i x hi hT
    have e : n1 = i := by omega
    subst e
    refine xs_iload_n C0 d_Md_count_14 rfl 2 rfl ?_
    refine xs_aload_n C0 d_Md_count_15 rfl 0 rfl ?_
    refine xs_get (q := 36) (v := .int (nI n1)) C0 f_Md_114 d_Md_count_16 rfl rfl ?_
    refine xs_icmp_ge (tgt := 44) C0 d_Md_count_19 (by decide) (fun _ => ?_) (fun c9 => absurd (nI_le (Nat.le_refl _) (by omega)) c9)
    refine xs_lv (lv' := [(2, .int x)]) [1] rfl ?_
    subst hT
    exact kx
  | succ j ih =>
    intro i x hi hT
    have hlt : i < n1 := by omega
    refine xs_iload_n C0 d_Md_count_14 rfl 2 rfl ?_
    refine xs_aload_n C0 d_Md_count_15 rfl 0 rfl ?_
    refine xs_get (q := 36) (v := .int (nI n1)) C0 f_Md_114 d_Md_count_16 rfl rfl ?_
    refine xs_icmp_ge (tgt := 44) C0 d_Md_count_19 (by decide) (fun c9 => absurd c9 (nI_ge hlt (by omega))) (fun _ => ?_)
    refine xs_iload_n C0 d_Md_count_22 rfl 1 rfl ?_
    refine xs_aload_n C0 d_Md_count_23 rfl 0 rfl ?_
    refine xs_iload_n C0 d_Md_count_24 rfl 2 rfl ?_
    refine xs_cV1 (ω' := (wd Q0 Q1 Q2 Q3 Q4 ql qr qk qo QS QT QF QH qt ++ (wM (f0, g0, nI n0) (f1, g1, nI n1) (f2, g2, nI n2) (f3, g3, nI n3) (f4, g4, nI n4) pl dr ki rl (ms, mc, mw, mb) cl hc sl tk kp pa tr co ++ rest))) (As := [.int (nI i)]) (st := [.int x]) (kc' := 0) (ks' := 0) (v := .int (m_cd ki rl ms i)) C0 d_Md_count_25 l_Md_126 rfl rfl (d_cd (show i < 64 by omega) (hrl i hlt)) rfl rfl rfl (Nat.le_of_ble_eq_true rfl) (Nat.le_of_ble_eq_true rfl) (Nat.le_of_ble_eq_true rfl) (Nat.le_of_ble_eq_true rfl) (Nat.le_of_ble_eq_true rfl) (Nat.le_of_ble_eq_true rfl) ?_
    refine xs_bz_eq (u := 1) (v := 0) (tgt := 35) (J := 36) C0 d_Md_count_28 (by decide) d_Md_count_31 (by decide) d_Md_count_32 (by decide) d_Md_count_35 (by decide) rfl ?_
    refine xs_iadd C0 d_Md_count_36 ?_
    refine xs_istore_n (lv' := [(2, .int (x + (if ¬ (m_cd ki rl ms i) = 0 then 1 else 0))), (0, .ref 36), (3, .int (nI i))]) C0 d_Md_count_37 rfl (by decide) rfl ?_
    refine xs_iinc (v := nI (i + 1)) (lv' := [(3, .int (nI (i + 1))), (2, .int (x + (if ¬ (m_cd ki rl ms i) = 0 then 1 else 0))), (0, .ref 36)]) C0 d_Md_count_38 2 rfl (by rw [← nI_1]; rfl) (by decide) rfl ?_
    refine xs_goto (tgt := 14) C0 d_Md_count_41 (by decide) ?_
    refine xs_lv (lv' := [(0, .ref 36), (2, .int (x + (if ¬ (m_cd ki rl ms i) = 0 then 1 else 0))), (3, .int (nI (i + 1)))]) [2, 1, 0] rfl ?_
    exact ih (i + 1) _ (by omega) (by rw [m_cnt, hT])
set_option maxHeartbeats 4000000 in
set_option maxRecDepth 100000 in
theorem d_cnt5 {Q0 Q1 Q2 Q3 Q4 : wt_P} {ql qr qk qo : Nat → Int32} {QS QT : wt_S} {QF : wt_F} {QH : wt_H} {qt : Int32} {B : wb} {rl : Nat → Int32} {Z : mt_S} {cl : Nat → Int32} {hc : mt_H} {sl tk : Int32} {kp : mt_K} {pa : Nat → Int32} {tr : mt_T} {co : Int32} {rest : xm_O} (hM : okM B rl) : xm_M y_Md_count (Cond.code y_Md_count b_Md_count 4 (some .int)) (xm_rm 1 0 0) [.ref 36, .int 5] (wd Q0 Q1 Q2 Q3 Q4 ql qr qk qo QS QT QF QH qt ++ (wMB B rl Z cl hc sl tk kp pa tr co ++ rest)) (xm_eq (.inl (some (.int (m_cnt B.2.2.2.2.2.2.2.1 rl Z.1 B.2.1.2.2)))) (wd Q0 Q1 Q2 Q3 Q4 ql qr qk qo QS QT QF QH qt ++ (wMB B rl Z cl hc sl tk kp pa tr 0 ++ rest))) := by
  obtain ⟨⟨f0, g0, n0⟩, ⟨f1, g1, n1⟩, ⟨f2, g2, n2⟩, ⟨f3, g3, n3⟩, ⟨f4, g4, n4⟩, pl, dr, ki, ow⟩ := B
  have hB := hM.1
  have hrl := hM.2
  obtain ⟨⟨h0, hp0⟩, ⟨h1, hp1⟩, ⟨h2, hp2⟩, ⟨h3, hp3⟩, ⟨h4, hp4⟩, hk⟩ := id hB
  dsimp only at h0 h1 h2 h3 h4 hp0 hp1 hp2 hp3 hp4 hk hrl
  refine xm_of (by decide) (Nat.le_of_ble_eq_true rfl) (fun E C0 => ?_)
  refine xs_eq (ω' := (wd Q0 Q1 Q2 Q3 Q4 ql qr qk qo QS QT QF QH qt ++ (wM (f0, g0, nI n0) (f1, g1, nI n1) (f2, g2, nI n2) (f3, g3, nI n3) (f4, g4, nI n4) pl dr ki rl Z cl hc sl tk kp pa tr co ++ rest))) (lv' := [(0, .ref 36), (1, .int 5)]) rfl rfl rfl ?_
  refine xs_aload_n C0 d_Md_count_0 rfl 0 rfl ?_
  refine xs_iconst (v := 0) C0 d_Md_count_1 (by decide) ?_
  refine xs_put (ω' := (wd Q0 Q1 Q2 Q3 Q4 ql qr qk qo QS QT QF QH qt ++ (wM (f0, g0, nI n0) (f1, g1, nI n1) (f2, g2, nI n2) (f3, g3, nI n3) (f4, g4, nI n4) pl dr ki rl Z cl hc sl tk kp pa tr 0 ++ rest))) C0 f_Md_92 ty_Md_0 d_Md_count_2 rfl (Nat.le_of_ble_eq_true rfl) (fun _ => ⟨rfl, rfl⟩) rfl ?_
  refine xs_iload_n C0 d_Md_count_5 rfl 1 rfl ?_
  refine xs_iconst (v := 5) C0 d_Md_count_6 (by decide) ?_
  refine xs_icmp_ne (tgt := 46) C0 d_Md_count_7 (by decide) (fun c9 => absurd rfl c9) (fun _ => ?_)
  refine xs_iconst (v := 0) C0 d_Md_count_10 (by decide) ?_
  refine xs_istore_n (lv' := [(2, .int 0), (0, .ref 36), (1, .int 5)]) C0 d_Md_count_11 rfl (by decide) rfl ?_
  refine xs_iconst (v := 0) C0 d_Md_count_12 (by decide) ?_
  refine xs_istore_n (lv' := [(3, .int 0), (2, .int 0), (0, .ref 36), (1, .int 5)]) C0 d_Md_count_13 rfl (by decide) rfl ?_
  obtain ⟨ms_1, mc_1, mw_1, mb_1⟩ := Z
  refine xs_lv (lv' := [(0, .ref 36), (2, .int 0), (3, .int 0)]) [2, 1, 0] rfl ?_
  refine lp_qcnt (ow := ow) C0 h1 hrl ?_ n1 0 _ (by omega) rfl
  refine xs_iload_n C0 d_Md_count_44 rfl 0 rfl ?_
  exact xs_iret C0 d_Md_count_45 ⟨rfl, rfl⟩ (Nat.le_of_ble_eq_true rfl) (Nat.le_of_ble_eq_true rfl)
