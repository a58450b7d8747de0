theorem rowR01 {og : Nat → Int32} {R : Nat → Prop} {y : Int32} (h : vp_in y 48) : rowR og R y.toNatClampNeg = 0 ∨ rowR og R y.toNatClampNeg = 1 := by
  obtain ⟨k, hk, rfl⟩ := pl_node h
  rw [nI_clamp (by omega)]
  unfold rowR
  rw [if_pos hk]
  split
  · exact Or.inr rfl
  · exact Or.inl rfl
set_option maxHeartbeats 4000000 in
set_option maxRecDepth 100000 in
theorem d_relay {Q0 Q1 Q2 Q3 Q4 : wt_P} {ql qr qk qo : Nat → Int32} {QS QT : wt_S} {QF : wt_F} {QH : wt_H} {qt : Int32} {B : wb} {rl : Nat → Int32} {Z : mt_S} {cl : Nat → Int32} {hc : mt_H} {sl tk : Int32} {kp : mt_K} {pa : Nat → Int32} {tr : mt_T} {co : Int32} {rest : xm_O} {a b u v : Int32} {Z1 : mt_S} {hc1 : mt_H} (hM : okM B rl) (hi : B.1.2.2 < 16) (hg : g2 a b) (hu : gw u 1 9) (hv : gw v 1 9) (hf : m_laf (b_addR B a b u v) rl cl Z hc = (Z1, hc1)) : xm_M y_Md_relay (Cond.code y_Md_relay b_Md_relay 5 (some .int)) (xm_rm 4 0 0) [.ref 36, .int a, .int b, .int u, .int v] (wd Q0 Q1 Q2 Q3 Q4 ql qr qk qo QS QT QF QH qt ++ (wMB B rl Z cl hc sl tk kp pa tr co ++ rest)) (xm_eq (.inl (some (.int (nI B.1.2.2)))) (wd Q0 Q1 Q2 Q3 Q4 ql qr qk qo QS QT QF QH qt ++ (wMB (b_addR B a b u v) rl Z1 cl hc1 sl tk kp pa tr 0 ++ rest))) := by
  obtain ⟨⟨f0, g0, n0⟩, ⟨f1, g1, n1⟩, ⟨f2, g2, n2⟩, ⟨f3, g3, n3⟩, ⟨f4, g4, n4⟩, pl, dr, ki, ow⟩ := B
  have hB := hM.1
  have hrl := hM.2
  obtain ⟨⟨h0, hp0⟩, ⟨h1, hp1⟩, ⟨h2, hp2⟩, ⟨h3, hp3⟩, ⟨h4, hp4⟩, hk⟩ := id hB
  dsimp only at h0 h1 h2 h3 h4 hp0 hp1 hp2 hp3 hp4 hk hrl
  dsimp only at hi
  refine xm_of (by decide) (Nat.le_of_ble_eq_true rfl) (fun E C0 => ?_)
  refine xs_eq (ω' := (wd Q0 Q1 Q2 Q3 Q4 ql qr qk qo QS QT QF QH qt ++ (wM (f0, g0, nI n0) (f1, g1, nI n1) (f2, g2, nI n2) (f3, g3, nI n3) (f4, g4, nI n4) pl dr ki rl Z cl hc sl tk kp pa tr co ++ rest))) (lv' := [(0, .ref 36), (1, .int a), (2, .int b), (3, .int u), (4, .int v)]) rfl rfl rfl ?_
  refine xs_aload_n C0 d_Md_relay_0 rfl 0 rfl ?_
  refine xs_iload_n C0 d_Md_relay_1 rfl 1 rfl ?_
  refine xs_iload_n C0 d_Md_relay_2 rfl 2 rfl ?_
  refine xs_cS1 (ω' := (wd Q0 Q1 Q2 Q3 Q4 ql qr qk qo QS QT QF QH qt ++ (wM (f0, g0, nI n0) (f1, g1, nI n1) (f2, g2, nI n2) (f3, g3, nI n3) (f4, g4, nI n4) pl dr ki rl Z cl hc sl tk kp pa tr co ++ rest))) (av := [.int a, .int b]) (st := [.ref 36]) (kc' := 0) (ks' := 0) (v := .int 1) C0 d_Md_relay_3 l_Md_104 (d_nn1 _ a b hg) rfl rfl rfl (Nat.le_of_ble_eq_true rfl) (Nat.le_of_ble_eq_true rfl) (Nat.le_of_ble_eq_true rfl) (Nat.le_of_ble_eq_true rfl) (Nat.le_of_ble_eq_true rfl) (Nat.le_of_ble_eq_true rfl) ?_
  refine xs_if_eq (tgt := 30) C0 d_Md_relay_6 (by decide) (fun c9 => absurd c9 (by decide)) (fun _ => ?_)
  refine xs_iload_n C0 d_Md_relay_9 rfl 3 rfl ?_
  refine xs_iconst (v := 1) C0 d_Md_relay_10 (by decide) ?_
  refine xs_bipush (v := 9) C0 d_Md_relay_11 (by decide) ?_
  refine xs_cS1 (ω' := (wd Q0 Q1 Q2 Q3 Q4 ql qr qk qo QS QT QF QH qt ++ (wM (f0, g0, nI n0) (f1, g1, nI n1) (f2, g2, nI n2) (f3, g3, nI n3) (f4, g4, nI n4) pl dr ki rl Z cl hc sl tk kp pa tr co ++ rest))) (av := [.int u, .int 1, .int 9]) (st := [.ref 36]) (kc' := 0) (ks' := 0) (v := .int 1) C0 d_Md_relay_13 l_Md_96 (d_in1 _ u 1 9 hu) rfl rfl rfl (Nat.le_of_ble_eq_true rfl) (Nat.le_of_ble_eq_true rfl) (Nat.le_of_ble_eq_true rfl) (Nat.le_of_ble_eq_true rfl) (Nat.le_of_ble_eq_true rfl) (Nat.le_of_ble_eq_true rfl) ?_
  refine xs_if_eq (tgt := 30) C0 d_Md_relay_16 (by decide) (fun c9 => absurd c9 (by decide)) (fun _ => ?_)
  refine xs_iload C0 d_Md_relay_19 4 rfl ?_
  refine xs_iconst (v := 1) C0 d_Md_relay_21 (by decide) ?_
  refine xs_pc (pc' := 22) rfl ?_
  refine xs_bipush (v := 9) C0 d_Md_relay_22 (by decide) ?_
  refine xs_cS1 (ω' := (wd Q0 Q1 Q2 Q3 Q4 ql qr qk qo QS QT QF QH qt ++ (wM (f0, g0, nI n0) (f1, g1, nI n1) (f2, g2, nI n2) (f3, g3, nI n3) (f4, g4, nI n4) pl dr ki rl Z cl hc sl tk kp pa tr co ++ rest))) (av := [.int v, .int 1, .int 9]) (st := [.ref 36]) (kc' := 0) (ks' := 0) (v := .int 1) C0 d_Md_relay_24 l_Md_96 (d_in1 _ v 1 9 hv) rfl rfl rfl (Nat.le_of_ble_eq_true rfl) (Nat.le_of_ble_eq_true rfl) (Nat.le_of_ble_eq_true rfl) (Nat.le_of_ble_eq_true rfl) (Nat.le_of_ble_eq_true rfl) (Nat.le_of_ble_eq_true rfl) ?_
  refine xs_if_ne (tgt := 34) C0 d_Md_relay_27 (by decide) (fun _ => ?_) (fun c9 => absurd c9 (by decide))
  refine xs_aload_n C0 d_Md_relay_34 rfl 0 rfl ?_
  refine xs_get (q := 36) (v := .int (nI n0)) C0 f_Md_108 d_Md_relay_35 rfl rfl ?_
  refine xs_bipush (v := 16) C0 d_Md_relay_38 (by decide) ?_
  refine xs_icmp_ne (tgt := 47) C0 d_Md_relay_40 (by decide) (fun _ => ?_) (fun c9 => absurd (nI_48 (by omega) (show 16 < 48 by decide) c9) (by omega))
  refine xs_iconst (v := 0) C0 d_Md_relay_47 (by decide) ?_
  refine xs_put (ω' := (wd Q0 Q1 Q2 Q3 Q4 ql qr qk qo QS QT QF QH qt ++ (wM (f0, g0, nI n0) (f1, g1, nI n1) (f2, g2, nI n2) (f3, g3, nI n3) (f4, g4, nI n4) pl dr ki rl Z cl hc sl tk kp pa tr 0 ++ rest))) C0 f_Md_92 ty_Md_0 d_Md_relay_48 rfl (Nat.le_of_ble_eq_true rfl) (fun _ => ⟨rfl, rfl⟩) rfl ?_
  refine xs_aload_n C0 d_Md_relay_51 rfl 0 rfl ?_
  refine xs_get (q := 36) (v := .int 0) C0 f_Md_92 d_Md_relay_52 rfl rfl ?_
  refine xs_if_le (tgt := 60) C0 d_Md_relay_55 (by decide) (fun _ => ?_) (fun c9 => absurd c9 (by decide))
  refine xs_aload_n C0 d_Md_relay_60 rfl 0 rfl ?_
  refine xs_get (q := 36) (v := .ref 37) C0 f_Md_7 d_Md_relay_61 rfl rfl ?_
  refine xs_aload_n C0 d_Md_relay_64 rfl 0 rfl ?_
  refine xs_get (q := 36) (v := .int (nI n0)) C0 f_Md_108 d_Md_relay_65 rfl rfl ?_
  refine xs_iload_n C0 d_Md_relay_68 rfl 1 rfl ?_
  refine xs_iast (ω' := (wd Q0 Q1 Q2 Q3 Q4 ql qr qk qo QS QT QF QH qt ++ (wM (upd f0 (nI n0).toNatClampNeg a, g0, nI n0) (f1, g1, nI n1) (f2, g2, nI n2) (f3, g3, nI n3) (f4, g4, nI n4) pl dr ki rl Z cl hc sl tk kp pa tr 0 ++ rest))) C0 d_Md_relay_69 rfl (vp_in_nI hi (by decide)) rfl ?_
  refine xs_world (ω' := (wd Q0 Q1 Q2 Q3 Q4 ql qr qk qo QS QT QF QH qt ++ (wM (upd f0 n0 a, g0, nI n0) (f1, g1, nI n1) (f2, g2, nI n2) (f3, g3, nI n3) (f4, g4, nI n4) pl dr ki rl Z cl hc sl tk kp pa tr 0 ++ rest))) (by rw [nI_clamp (by omega)]) ?_
  refine xs_aload_n C0 d_Md_relay_70 rfl 0 rfl ?_
  refine xs_get (q := 36) (v := .ref 38) C0 f_Md_13 d_Md_relay_71 rfl rfl ?_
  refine xs_aload_n C0 d_Md_relay_74 rfl 0 rfl ?_
  refine xs_get (q := 36) (v := .int (nI n0)) C0 f_Md_108 d_Md_relay_75 rfl rfl ?_
  refine xs_iload_n C0 d_Md_relay_78 rfl 2 rfl ?_
  refine xs_pc (pc' := 79) rfl ?_
  refine xs_iast (ω' := (wd Q0 Q1 Q2 Q3 Q4 ql qr qk qo QS QT QF QH qt ++ (wM (upd f0 n0 a, upd g0 (nI n0).toNatClampNeg b, nI n0) (f1, g1, nI n1) (f2, g2, nI n2) (f3, g3, nI n3) (f4, g4, nI n4) pl dr ki rl Z cl hc sl tk kp pa tr 0 ++ rest))) C0 d_Md_relay_79 rfl (vp_in_nI hi (by decide)) rfl ?_
  refine xs_world (ω' := (wd Q0 Q1 Q2 Q3 Q4 ql qr qk qo QS QT QF QH qt ++ (wM (upd f0 n0 a, upd g0 n0 b, nI n0) (f1, g1, nI n1) (f2, g2, nI n2) (f3, g3, nI n3) (f4, g4, nI n4) pl dr ki rl Z cl hc sl tk kp pa tr 0 ++ rest))) (by rw [nI_clamp (by omega)]) ?_
  refine xs_aload_n C0 d_Md_relay_80 rfl 0 rfl ?_
  refine xs_get (q := 36) (v := .ref 39) C0 f_Md_16 d_Md_relay_81 rfl rfl ?_
  refine xs_aload_n C0 d_Md_relay_84 rfl 0 rfl ?_
  refine xs_get (q := 36) (v := .int (nI n0)) C0 f_Md_108 d_Md_relay_85 rfl rfl ?_
  refine xs_iload_n C0 d_Md_relay_88 rfl 3 rfl ?_
  refine xs_iast (ω' := (wd Q0 Q1 Q2 Q3 Q4 ql qr qk qo QS QT QF QH qt ++ (wM (upd f0 n0 a, upd g0 n0 b, nI n0) (f1, g1, nI n1) (f2, g2, nI n2) (f3, g3, nI n3) (f4, g4, nI n4) (upd pl (nI n0).toNatClampNeg u) dr ki rl Z cl hc sl tk kp pa tr 0 ++ rest))) C0 d_Md_relay_89 rfl (vp_in_nI hi (by decide)) rfl ?_
  refine xs_world (ω' := (wd Q0 Q1 Q2 Q3 Q4 ql qr qk qo QS QT QF QH qt ++ (wM (upd f0 n0 a, upd g0 n0 b, nI n0) (f1, g1, nI n1) (f2, g2, nI n2) (f3, g3, nI n3) (f4, g4, nI n4) (upd pl n0 u) dr ki rl Z cl hc sl tk kp pa tr 0 ++ rest))) (by rw [nI_clamp (by omega)]) ?_
  refine xs_aload_n C0 d_Md_relay_90 rfl 0 rfl ?_
  refine xs_get (q := 36) (v := .ref 40) C0 f_Md_19 d_Md_relay_91 rfl rfl ?_
  refine xs_aload_n C0 d_Md_relay_94 rfl 0 rfl ?_
  refine xs_get (q := 36) (v := .int (nI n0)) C0 f_Md_108 d_Md_relay_95 rfl rfl ?_
  refine xs_iload C0 d_Md_relay_98 4 rfl ?_
  refine xs_pc (pc' := 100) rfl ?_
  refine xs_iast (ω' := (wd Q0 Q1 Q2 Q3 Q4 ql qr qk qo QS QT QF QH qt ++ (wM (upd f0 n0 a, upd g0 n0 b, nI n0) (f1, g1, nI n1) (f2, g2, nI n2) (f3, g3, nI n3) (f4, g4, nI n4) (upd pl n0 u) (upd dr (nI n0).toNatClampNeg v) ki rl Z cl hc sl tk kp pa tr 0 ++ rest))) C0 d_Md_relay_100 rfl (vp_in_nI hi (by decide)) rfl ?_
  refine xs_world (ω' := (wd Q0 Q1 Q2 Q3 Q4 ql qr qk qo QS QT QF QH qt ++ (wM (upd f0 n0 a, upd g0 n0 b, nI n0) (f1, g1, nI n1) (f2, g2, nI n2) (f3, g3, nI n3) (f4, g4, nI n4) (upd pl n0 u) (upd dr n0 v) ki rl Z cl hc sl tk kp pa tr 0 ++ rest))) (by rw [nI_clamp (by omega)]) ?_
  refine xs_aload_n C0 d_Md_relay_101 rfl 0 rfl ?_
  refine xs_dup C0 d_Md_relay_102 rfl ?_
  refine xs_get (q := 36) (v := .int (nI n0)) C0 f_Md_108 d_Md_relay_103 rfl rfl ?_
  refine xs_iconst (v := 1) C0 d_Md_relay_106 (by decide) ?_
  refine xs_iadd C0 d_Md_relay_107 ?_
  refine xs_top (v' := .int (nI (n0 + 1))) (by rw [nI_1]) ?_
  refine xs_put (ω' := (wd Q0 Q1 Q2 Q3 Q4 ql qr qk qo QS QT QF QH qt ++ (wM (upd f0 n0 a, upd g0 n0 b, (nI (n0 + 1))) (f1, g1, nI n1) (f2, g2, nI n2) (f3, g3, nI n3) (f4, g4, nI n4) (upd pl n0 u) (upd dr n0 v) ki rl Z cl hc sl tk kp pa tr 0 ++ rest))) C0 f_Md_108 ty_Md_1 d_Md_relay_108 rfl (Nat.le_of_ble_eq_true rfl) (fun _ => ⟨rfl, rfl⟩) rfl ?_
  refine xs_aload_n C0 d_Md_relay_111 rfl 0 rfl ?_
  refine xs_cV0 (ω' := (wd Q0 Q1 Q2 Q3 Q4 ql qr qk qo QS QT QF QH qt ++ (wM (upd f0 n0 a, upd g0 n0 b, (nI (n0 + 1))) (f1, g1, nI n1) (f2, g2, nI n2) (f3, g3, nI n3) (f4, g4, nI n4) (upd pl n0 u) (upd dr n0 v) ki rl Z1 cl hc1 sl tk kp pa tr 0 ++ rest))) (As := []) (st := []) (kc' := 0) (ks' := 0) C0 d_Md_relay_112 l_Md_111 rfl rfl (d_laf (B := b_addR ((f0, g0, n0), (f1, g1, n1), (f2, g2, n2), (f3, g3, n3), (f4, g4, n4), pl, dr, ki, ow) a b u v) (rl := rl) (⟨okB_addR hB hi hg, hM.2⟩) hf) rfl rfl rfl (Nat.le_of_ble_eq_true rfl) (Nat.le_of_ble_eq_true rfl) (Nat.le_of_ble_eq_true rfl) (Nat.le_of_ble_eq_true rfl) (Nat.le_of_ble_eq_true rfl) (Nat.le_of_ble_eq_true rfl) ?_
  refine xs_aload_n C0 d_Md_relay_115 rfl 0 rfl ?_
  refine xs_get (q := 36) (v := .int (nI (n0 + 1))) C0 f_Md_108 d_Md_relay_116 rfl rfl ?_
  refine xs_iconst (v := 1) C0 d_Md_relay_119 (by decide) ?_
  refine xs_pc (pc' := 120) rfl ?_
  refine xs_isub C0 d_Md_relay_120 ?_
  refine xs_top (v' := .int (nI n0)) (by rw [nI_pred]) ?_
  exact xs_iret C0 d_Md_relay_121 (⟨rfl, rfl⟩) (Nat.le_of_ble_eq_true rfl) (Nat.le_of_ble_eq_true rfl)
set_option maxHeartbeats 4000000 in
set_option maxRecDepth 100000 in
theorem d_relayT {Q0 Q1 Q2 Q3 Q4 : wt_P} {ql qr qk qo : Nat → Int32} {QS QT : wt_S} {QF : wt_F} {QH : wt_H} {qt : Int32} {B : wb} {rl : Nat → Int32} {Z : mt_S} {cl : Nat → Int32} {hc : mt_H} {sl tk : Int32} {kp : mt_K} {pa : Nat → Int32} {tr : mt_T} {co : Int32} {rest : xm_O} {a b u v : Int32} (hM : okM B rl) (h : ¬ (g2 a b ∧ gw u 1 9 ∧ gw v 1 9)) : xm_M y_Md_relay (Cond.code y_Md_relay b_Md_relay 5 (some .int)) (xm_rm 4 0 0) [.ref 36, .int a, .int b, .int u, .int v] (wd Q0 Q1 Q2 Q3 Q4 ql qr qk qo QS QT QF QH qt ++ (wMB B rl Z cl hc sl tk kp pa tr co ++ rest)) (xm_eq (.inl (some (.int 0))) (wd Q0 Q1 Q2 Q3 Q4 ql qr qk qo QS QT QF QH qt ++ (wMB B rl Z cl hc sl tk kp pa tr 1 ++ rest))) := by
  obtain ⟨⟨f0, g0, n0⟩, ⟨f1, g1, n1⟩, ⟨f2, g2, n2⟩, ⟨f3, g3, n3⟩, ⟨f4, g4, n4⟩, pl, dr, ki, ow⟩ := B
  have hB := hM.1
  have hrl := hM.2
  obtain ⟨⟨h0, hp0⟩, ⟨h1, hp1⟩, ⟨h2, hp2⟩, ⟨h3, hp3⟩, ⟨h4, hp4⟩, hk⟩ := id hB
  dsimp only at h0 h1 h2 h3 h4 hp0 hp1 hp2 hp3 hp4 hk hrl
  refine xm_of (by decide) (Nat.le_of_ble_eq_true rfl) (fun E C0 => ?_)
  refine xs_eq (ω' := (wd Q0 Q1 Q2 Q3 Q4 ql qr qk qo QS QT QF QH qt ++ (wM (f0, g0, nI n0) (f1, g1, nI n1) (f2, g2, nI n2) (f3, g3, nI n3) (f4, g4, nI n4) pl dr ki rl Z cl hc sl tk kp pa tr co ++ rest))) (lv' := [(0, .ref 36), (1, .int a), (2, .int b), (3, .int u), (4, .int v)]) rfl rfl rfl ?_
  by_cases ha : gN2 a b
  · by_cases hb : gw u 1 9
    · refine xs_aload_n C0 d_Md_relay_0 rfl 0 rfl ?_
      refine xs_iload_n C0 d_Md_relay_1 rfl 1 rfl ?_
      refine xs_iload_n C0 d_Md_relay_2 rfl 2 rfl ?_
      refine xs_cS1 (ω' := (wd Q0 Q1 Q2 Q3 Q4 ql qr qk qo QS QT QF QH qt ++ (wM (f0, g0, nI n0) (f1, g1, nI n1) (f2, g2, nI n2) (f3, g3, nI n3) (f4, g4, nI n4) pl dr ki rl Z cl hc sl tk kp pa tr co ++ rest))) (av := [.int a, .int b]) (st := [.ref 36]) (kc' := 0) (ks' := 0) (v := .int 1) C0 d_Md_relay_3 l_Md_104 (d_nn1 _ a b ha) rfl rfl rfl (Nat.le_of_ble_eq_true rfl) (Nat.le_of_ble_eq_true rfl) (Nat.le_of_ble_eq_true rfl) (Nat.le_of_ble_eq_true rfl) (Nat.le_of_ble_eq_true rfl) (Nat.le_of_ble_eq_true rfl) ?_
      refine xs_if_eq (tgt := 30) C0 d_Md_relay_6 (by decide) (fun c9 => absurd c9 (by decide)) (fun _ => ?_)
      refine xs_iload_n C0 d_Md_relay_9 rfl 3 rfl ?_
      refine xs_iconst (v := 1) C0 d_Md_relay_10 (by decide) ?_
      refine xs_bipush (v := 9) C0 d_Md_relay_11 (by decide) ?_
      refine xs_cS1 (ω' := (wd Q0 Q1 Q2 Q3 Q4 ql qr qk qo QS QT QF QH qt ++ (wM (f0, g0, nI n0) (f1, g1, nI n1) (f2, g2, nI n2) (f3, g3, nI n3) (f4, g4, nI n4) pl dr ki rl Z cl hc sl tk kp pa tr co ++ rest))) (av := [.int u, .int 1, .int 9]) (st := [.ref 36]) (kc' := 0) (ks' := 0) (v := .int 1) C0 d_Md_relay_13 l_Md_96 (d_in1 _ u 1 9 hb) rfl rfl rfl (Nat.le_of_ble_eq_true rfl) (Nat.le_of_ble_eq_true rfl) (Nat.le_of_ble_eq_true rfl) (Nat.le_of_ble_eq_true rfl) (Nat.le_of_ble_eq_true rfl) (Nat.le_of_ble_eq_true rfl) ?_
      refine xs_if_eq (tgt := 30) C0 d_Md_relay_16 (by decide) (fun c9 => absurd c9 (by decide)) (fun _ => ?_)
      refine xs_iload C0 d_Md_relay_19 4 rfl ?_
      refine xs_iconst (v := 1) C0 d_Md_relay_21 (by decide) ?_
      refine xs_pc (pc' := 22) rfl ?_
      refine xs_bipush (v := 9) C0 d_Md_relay_22 (by decide) ?_
      refine xs_cS1 (ω' := (wd Q0 Q1 Q2 Q3 Q4 ql qr qk qo QS QT QF QH qt ++ (wM (f0, g0, nI n0) (f1, g1, nI n1) (f2, g2, nI n2) (f3, g3, nI n3) (f4, g4, nI n4) pl dr ki rl Z cl hc sl tk kp pa tr co ++ rest))) (av := [.int v, .int 1, .int 9]) (st := [.ref 36]) (kc' := 0) (ks' := 0) (v := .int 0) C0 d_Md_relay_24 l_Md_96 (d_in0 _ v 1 9 (fun h9 => h ⟨ha, hb, h9⟩)) rfl rfl rfl (Nat.le_of_ble_eq_true rfl) (Nat.le_of_ble_eq_true rfl) (Nat.le_of_ble_eq_true rfl) (Nat.le_of_ble_eq_true rfl) (Nat.le_of_ble_eq_true rfl) (Nat.le_of_ble_eq_true rfl) ?_
      refine xs_if_ne (tgt := 34) C0 d_Md_relay_27 (by decide) (fun c9 => absurd c9 (by decide)) (fun _ => ?_)
      refine xs_iconst (v := 1) C0 d_Md_relay_30 (by decide) ?_
      refine xs_goto (tgt := 48) C0 d_Md_relay_31 (by decide) ?_
      refine xs_put (ω' := (wd Q0 Q1 Q2 Q3 Q4 ql qr qk qo QS QT QF QH qt ++ (wM (f0, g0, nI n0) (f1, g1, nI n1) (f2, g2, nI n2) (f3, g3, nI n3) (f4, g4, nI n4) pl dr ki rl Z cl hc sl tk kp pa tr 1 ++ rest))) C0 f_Md_92 ty_Md_0 d_Md_relay_48 rfl (Nat.le_of_ble_eq_true rfl) (fun _ => ⟨rfl, rfl⟩) rfl ?_
      refine xs_aload_n C0 d_Md_relay_51 rfl 0 rfl ?_
      refine xs_get (q := 36) (v := .int 1) C0 f_Md_92 d_Md_relay_52 rfl rfl ?_
      refine xs_if_le (tgt := 60) C0 d_Md_relay_55 (by decide) (fun c9 => absurd c9 (by decide)) (fun _ => ?_)
      refine xs_iconst (v := 0) C0 d_Md_relay_58 (by decide) ?_
      exact xs_iret C0 d_Md_relay_59 (⟨rfl, rfl⟩) (Nat.le_of_ble_eq_true rfl) (Nat.le_of_ble_eq_true rfl)
    · refine xs_aload_n C0 d_Md_relay_0 rfl 0 rfl ?_
      refine xs_iload_n C0 d_Md_relay_1 rfl 1 rfl ?_
      refine xs_iload_n C0 d_Md_relay_2 rfl 2 rfl ?_
      refine xs_cS1 (ω' := (wd Q0 Q1 Q2 Q3 Q4 ql qr qk qo QS QT QF QH qt ++ (wM (f0, g0, nI n0) (f1, g1, nI n1) (f2, g2, nI n2) (f3, g3, nI n3) (f4, g4, nI n4) pl dr ki rl Z cl hc sl tk kp pa tr co ++ rest))) (av := [.int a, .int b]) (st := [.ref 36]) (kc' := 0) (ks' := 0) (v := .int 1) C0 d_Md_relay_3 l_Md_104 (d_nn1 _ a b ha) rfl rfl rfl (Nat.le_of_ble_eq_true rfl) (Nat.le_of_ble_eq_true rfl) (Nat.le_of_ble_eq_true rfl) (Nat.le_of_ble_eq_true rfl) (Nat.le_of_ble_eq_true rfl) (Nat.le_of_ble_eq_true rfl) ?_
      refine xs_if_eq (tgt := 30) C0 d_Md_relay_6 (by decide) (fun c9 => absurd c9 (by decide)) (fun _ => ?_)
      refine xs_iload_n C0 d_Md_relay_9 rfl 3 rfl ?_
      refine xs_iconst (v := 1) C0 d_Md_relay_10 (by decide) ?_
      refine xs_bipush (v := 9) C0 d_Md_relay_11 (by decide) ?_
      refine xs_cS1 (ω' := (wd Q0 Q1 Q2 Q3 Q4 ql qr qk qo QS QT QF QH qt ++ (wM (f0, g0, nI n0) (f1, g1, nI n1) (f2, g2, nI n2) (f3, g3, nI n3) (f4, g4, nI n4) pl dr ki rl Z cl hc sl tk kp pa tr co ++ rest))) (av := [.int u, .int 1, .int 9]) (st := [.ref 36]) (kc' := 0) (ks' := 0) (v := .int 0) C0 d_Md_relay_13 l_Md_96 (d_in0 _ u 1 9 hb) rfl rfl rfl (Nat.le_of_ble_eq_true rfl) (Nat.le_of_ble_eq_true rfl) (Nat.le_of_ble_eq_true rfl) (Nat.le_of_ble_eq_true rfl) (Nat.le_of_ble_eq_true rfl) (Nat.le_of_ble_eq_true rfl) ?_
      refine xs_if_eq (tgt := 30) C0 d_Md_relay_16 (by decide) (fun _ => ?_) (fun c9 => absurd rfl c9)
      refine xs_iconst (v := 1) C0 d_Md_relay_30 (by decide) ?_
      refine xs_goto (tgt := 48) C0 d_Md_relay_31 (by decide) ?_
      refine xs_put (ω' := (wd Q0 Q1 Q2 Q3 Q4 ql qr qk qo QS QT QF QH qt ++ (wM (f0, g0, nI n0) (f1, g1, nI n1) (f2, g2, nI n2) (f3, g3, nI n3) (f4, g4, nI n4) pl dr ki rl Z cl hc sl tk kp pa tr 1 ++ rest))) C0 f_Md_92 ty_Md_0 d_Md_relay_48 rfl (Nat.le_of_ble_eq_true rfl) (fun _ => ⟨rfl, rfl⟩) rfl ?_
      refine xs_aload_n C0 d_Md_relay_51 rfl 0 rfl ?_
      refine xs_get (q := 36) (v := .int 1) C0 f_Md_92 d_Md_relay_52 rfl rfl ?_
      refine xs_if_le (tgt := 60) C0 d_Md_relay_55 (by decide) (fun c9 => absurd c9 (by decide)) (fun _ => ?_)
      refine xs_iconst (v := 0) C0 d_Md_relay_58 (by decide) ?_
      exact xs_iret C0 d_Md_relay_59 (⟨rfl, rfl⟩) (Nat.le_of_ble_eq_true rfl) (Nat.le_of_ble_eq_true rfl)
  · refine xs_aload_n C0 d_Md_relay_0 rfl 0 rfl ?_
    refine xs_iload_n C0 d_Md_relay_1 rfl 1 rfl ?_
    refine xs_iload_n C0 d_Md_relay_2 rfl 2 rfl ?_
    refine xs_cS1 (ω' := (wd Q0 Q1 Q2 Q3 Q4 ql qr qk qo QS QT QF QH qt ++ (wM (f0, g0, nI n0) (f1, g1, nI n1) (f2, g2, nI n2) (f3, g3, nI n3) (f4, g4, nI n4) pl dr ki rl Z cl hc sl tk kp pa tr co ++ rest))) (av := [.int a, .int b]) (st := [.ref 36]) (kc' := 0) (ks' := 0) (v := .int 0) C0 d_Md_relay_3 l_Md_104 (d_nn0 _ a b ha) rfl rfl rfl (Nat.le_of_ble_eq_true rfl) (Nat.le_of_ble_eq_true rfl) (Nat.le_of_ble_eq_true rfl) (Nat.le_of_ble_eq_true rfl) (Nat.le_of_ble_eq_true rfl) (Nat.le_of_ble_eq_true rfl) ?_
    refine xs_if_eq (tgt := 30) C0 d_Md_relay_6 (by decide) (fun _ => ?_) (fun c9 => absurd rfl c9)
    refine xs_iconst (v := 1) C0 d_Md_relay_30 (by decide) ?_
    refine xs_goto (tgt := 48) C0 d_Md_relay_31 (by decide) ?_
    refine xs_put (ω' := (wd Q0 Q1 Q2 Q3 Q4 ql qr qk qo QS QT QF QH qt ++ (wM (f0, g0, nI n0) (f1, g1, nI n1) (f2, g2, nI n2) (f3, g3, nI n3) (f4, g4, nI n4) pl dr ki rl Z cl hc sl tk kp pa tr 1 ++ rest))) C0 f_Md_92 ty_Md_0 d_Md_relay_48 rfl (Nat.le_of_ble_eq_true rfl) (fun _ => ⟨rfl, rfl⟩) rfl ?_
    refine xs_aload_n C0 d_Md_relay_51 rfl 0 rfl ?_
    refine xs_get (q := 36) (v := .int 1) C0 f_Md_92 d_Md_relay_52 rfl rfl ?_
    refine xs_if_le (tgt := 60) C0 d_Md_relay_55 (by decide) (fun c9 => absurd c9 (by decide)) (fun _ => ?_)
    refine xs_iconst (v := 0) C0 d_Md_relay_58 (by decide) ?_
    exact xs_iret C0 d_Md_relay_59 (⟨rfl, rfl⟩) (Nat.le_of_ble_eq_true rfl) (Nat.le_of_ble_eq_true rfl)
set_option maxHeartbeats 4000000 in
set_option maxRecDepth 100000 in
theorem d_relayX {Q0 Q1 Q2 Q3 Q4 : wt_P} {ql qr qk qo : Nat → Int32} {QS QT : wt_S} {QF : wt_F} {QH : wt_H} {qt : Int32} {B : wb} {rl : Nat → Int32} {Z : mt_S} {cl : Nat → Int32} {hc : mt_H} {sl tk : Int32} {kp : mt_K} {pa : Nat → Int32} {tr : mt_T} {co : Int32} {rest : xm_O} {a b u v : Int32} (hM : okM B rl) (hi : 16 ≤ B.1.2.2) (hg : g2 a b) (hu : gw u 1 9) (hv : gw v 1 9) : xm_M y_Md_relay (Cond.code y_Md_relay b_Md_relay 5 (some .int)) (xm_rm 4 0 0) [.ref 36, .int a, .int b, .int u, .int v] (wd Q0 Q1 Q2 Q3 Q4 ql qr qk qo QS QT QF QH qt ++ (wMB B rl Z cl hc sl tk kp pa tr co ++ rest)) (xm_eq (.inl (some (.int 0))) (wd Q0 Q1 Q2 Q3 Q4 ql qr qk qo QS QT QF QH qt ++ (wMB B rl Z cl hc sl tk kp pa tr 2 ++ rest))) := by
  obtain ⟨⟨f0, g0, n0⟩, ⟨f1, g1, n1⟩, ⟨f2, g2, n2⟩, ⟨f3, g3, n3⟩, ⟨f4, g4, n4⟩, pl, dr, ki, ow⟩ := B
  have hB := hM.1
  have hrl := hM.2
  obtain ⟨⟨h0, hp0⟩, ⟨h1, hp1⟩, ⟨h2, hp2⟩, ⟨h3, hp3⟩, ⟨h4, hp4⟩, hk⟩ := id hB
  dsimp only at h0 h1 h2 h3 h4 hp0 hp1 hp2 hp3 hp4 hk hrl
  dsimp only at hi
  refine xm_of (by decide) (Nat.le_of_ble_eq_true rfl) (fun E C0 => ?_)
  refine xs_eq (ω' := (wd Q0 Q1 Q2 Q3 Q4 ql qr qk qo QS QT QF QH qt ++ (wM (f0, g0, nI n0) (f1, g1, nI n1) (f2, g2, nI n2) (f3, g3, nI n3) (f4, g4, nI n4) pl dr ki rl Z cl hc sl tk kp pa tr co ++ rest))) (lv' := [(0, .ref 36), (1, .int a), (2, .int b), (3, .int u), (4, .int v)]) rfl rfl rfl ?_
  refine xs_aload_n C0 d_Md_relay_0 rfl 0 rfl ?_
  refine xs_iload_n C0 d_Md_relay_1 rfl 1 rfl ?_
  refine xs_iload_n C0 d_Md_relay_2 rfl 2 rfl ?_
  refine xs_cS1 (ω' := (wd Q0 Q1 Q2 Q3 Q4 ql qr qk qo QS QT QF QH qt ++ (wM (f0, g0, nI n0) (f1, g1, nI n1) (f2, g2, nI n2) (f3, g3, nI n3) (f4, g4, nI n4) pl dr ki rl Z cl hc sl tk kp pa tr co ++ rest))) (av := [.int a, .int b]) (st := [.ref 36]) (kc' := 0) (ks' := 0) (v := .int 1) C0 d_Md_relay_3 l_Md_104 (d_nn1 _ a b hg) rfl rfl rfl (Nat.le_of_ble_eq_true rfl) (Nat.le_of_ble_eq_true rfl) (Nat.le_of_ble_eq_true rfl) (Nat.le_of_ble_eq_true rfl) (Nat.le_of_ble_eq_true rfl) (Nat.le_of_ble_eq_true rfl) ?_
  refine xs_if_eq (tgt := 30) C0 d_Md_relay_6 (by decide) (fun c9 => absurd c9 (by decide)) (fun _ => ?_)
  refine xs_iload_n C0 d_Md_relay_9 rfl 3 rfl ?_
  refine xs_iconst (v := 1) C0 d_Md_relay_10 (by decide) ?_
  refine xs_bipush (v := 9) C0 d_Md_relay_11 (by decide) ?_
  refine xs_cS1 (ω' := (wd Q0 Q1 Q2 Q3 Q4 ql qr qk qo QS QT QF QH qt ++ (wM (f0, g0, nI n0) (f1, g1, nI n1) (f2, g2, nI n2) (f3, g3, nI n3) (f4, g4, nI n4) pl dr ki rl Z cl hc sl tk kp pa tr co ++ rest))) (av := [.int u, .int 1, .int 9]) (st := [.ref 36]) (kc' := 0) (ks' := 0) (v := .int 1) C0 d_Md_relay_13 l_Md_96 (d_in1 _ u 1 9 hu) rfl rfl rfl (Nat.le_of_ble_eq_true rfl) (Nat.le_of_ble_eq_true rfl) (Nat.le_of_ble_eq_true rfl) (Nat.le_of_ble_eq_true rfl) (Nat.le_of_ble_eq_true rfl) (Nat.le_of_ble_eq_true rfl) ?_
  refine xs_if_eq (tgt := 30) C0 d_Md_relay_16 (by decide) (fun c9 => absurd c9 (by decide)) (fun _ => ?_)
  refine xs_iload C0 d_Md_relay_19 4 rfl ?_
  refine xs_iconst (v := 1) C0 d_Md_relay_21 (by decide) ?_
  refine xs_pc (pc' := 22) rfl ?_
  refine xs_bipush (v := 9) C0 d_Md_relay_22 (by decide) ?_
  refine xs_cS1 (ω' := (wd Q0 Q1 Q2 Q3 Q4 ql qr qk qo QS QT QF QH qt ++ (wM (f0, g0, nI n0) (f1, g1, nI n1) (f2, g2, nI n2) (f3, g3, nI n3) (f4, g4, nI n4) pl dr ki rl Z cl hc sl tk kp pa tr co ++ rest))) (av := [.int v, .int 1, .int 9]) (st := [.ref 36]) (kc' := 0) (ks' := 0) (v := .int 1) C0 d_Md_relay_24 l_Md_96 (d_in1 _ v 1 9 hv) rfl rfl rfl (Nat.le_of_ble_eq_true rfl) (Nat.le_of_ble_eq_true rfl) (Nat.le_of_ble_eq_true rfl) (Nat.le_of_ble_eq_true rfl) (Nat.le_of_ble_eq_true rfl) (Nat.le_of_ble_eq_true rfl) ?_
  refine xs_if_ne (tgt := 34) C0 d_Md_relay_27 (by decide) (fun _ => ?_) (fun c9 => absurd c9 (by decide))
  refine xs_aload_n C0 d_Md_relay_34 rfl 0 rfl ?_
  refine xs_get (q := 36) (v := .int (nI n0)) C0 f_Md_108 d_Md_relay_35 rfl rfl ?_
  refine xs_bipush (v := 16) C0 d_Md_relay_38 (by decide) ?_
  refine xs_icmp_ne (tgt := 47) C0 d_Md_relay_40 (by decide) (fun c9 => absurd (show nI n0 = 16 by rw [show n0 = 16 by omega]; rfl) c9) (fun _ => ?_)
  refine xs_iconst (v := 2) C0 d_Md_relay_43 (by decide) ?_
  refine xs_goto (tgt := 48) C0 d_Md_relay_44 (by decide) ?_
  refine xs_put (ω' := (wd Q0 Q1 Q2 Q3 Q4 ql qr qk qo QS QT QF QH qt ++ (wM (f0, g0, nI n0) (f1, g1, nI n1) (f2, g2, nI n2) (f3, g3, nI n3) (f4, g4, nI n4) pl dr ki rl Z cl hc sl tk kp pa tr 2 ++ rest))) C0 f_Md_92 ty_Md_0 d_Md_relay_48 rfl (Nat.le_of_ble_eq_true rfl) (fun _ => ⟨rfl, rfl⟩) rfl ?_
  refine xs_aload_n C0 d_Md_relay_51 rfl 0 rfl ?_
  refine xs_get (q := 36) (v := .int 2) C0 f_Md_92 d_Md_relay_52 rfl rfl ?_
  refine xs_if_le (tgt := 60) C0 d_Md_relay_55 (by decide) (fun c9 => absurd c9 (by decide)) (fun _ => ?_)
  refine xs_iconst (v := 0) C0 d_Md_relay_58 (by decide) ?_
  exact xs_iret C0 d_Md_relay_59 (⟨rfl, rfl⟩) (Nat.le_of_ble_eq_true rfl) (Nat.le_of_ble_eq_true rfl)
set_option maxHeartbeats 4000000 in
set_option maxRecDepth 100000 in
theorem d_cont {Q0 Q1 Q2 Q3 Q4 : wt_P} {ql qr qk qo : Nat → Int32} {QS QT : wt_S} {QF : wt_F} {QH : wt_H} {qt : Int32} {B : wb} {rl : Nat → Int32} {Z : mt_S} {cl : Nat → Int32} {hc : mt_H} {sl tk : Int32} {kp : mt_K} {pa : Nat → Int32} {tr : mt_T} {co : Int32} {rest : xm_O} {a b u v : Int32} {Z1 : mt_S} {hc1 : mt_H} (hM : okM B rl) (hi : B.2.1.2.2 < 64) (hu : gw u 0 4) (hv : u = 4 ∨ gw v 0 (nI B.1.2.2 - 1)) (hg : g2 a b) (hf : m_laf (b_addC B u v a b) (upd rl B.2.1.2.2 v) cl Z hc = (Z1, hc1)) : xm_M y_Md_contact (Cond.code y_Md_contact b_Md_contact 6 (some .int)) (xm_rm 4 0 0) [.ref 36, .int u, .int v, .int a, .int b] (wd Q0 Q1 Q2 Q3 Q4 ql qr qk qo QS QT QF QH qt ++ (wMB B rl Z cl hc sl tk kp pa tr co ++ rest)) (xm_eq (.inl (some (.int (nI B.2.1.2.2)))) (wd Q0 Q1 Q2 Q3 Q4 ql qr qk qo QS QT QF QH qt ++ (wMB (b_addC B u v a b) (upd rl B.2.1.2.2 v) Z1 cl hc1 sl tk kp pa tr 0 ++ rest))) := by
  obtain ⟨⟨f0, g0, n0⟩, ⟨f1, g1, n1⟩, ⟨f2, g2, n2⟩, ⟨f3, g3, n3⟩, ⟨f4, g4, n4⟩, pl, dr, ki, ow⟩ := B
  have hB := hM.1
  have hrl := hM.2
  obtain ⟨⟨h0, hp0⟩, ⟨h1, hp1⟩, ⟨h2, hp2⟩, ⟨h3, hp3⟩, ⟨h4, hp4⟩, hk⟩ := id hB
  dsimp only at h0 h1 h2 h3 h4 hp0 hp1 hp2 hp3 hp4 hk hrl
  dsimp only at hi
  refine xm_of (by decide) (Nat.le_of_ble_eq_true rfl) (fun E C0 => ?_)
  refine xs_eq (ω' := (wd Q0 Q1 Q2 Q3 Q4 ql qr qk qo QS QT QF QH qt ++ (wM (f0, g0, nI n0) (f1, g1, nI n1) (f2, g2, nI n2) (f3, g3, nI n3) (f4, g4, nI n4) pl dr ki rl Z cl hc sl tk kp pa tr co ++ rest))) (lv' := [(0, .ref 36), (1, .int u), (2, .int v), (3, .int a), (4, .int b)]) rfl rfl rfl ?_
  refine xs_iload_n C0 d_Md_contact_0 rfl 1 rfl ?_
  refine xs_iconst (v := 0) C0 d_Md_contact_1 (by decide) ?_
  refine xs_iconst (v := 4) C0 d_Md_contact_2 (by decide) ?_
  refine xs_cS1 (ω' := (wd Q0 Q1 Q2 Q3 Q4 ql qr qk qo QS QT QF QH qt ++ (wM (f0, g0, nI n0) (f1, g1, nI n1) (f2, g2, nI n2) (f3, g3, nI n3) (f4, g4, nI n4) pl dr ki rl Z cl hc sl tk kp pa tr co ++ rest))) (av := [.int u, .int 0, .int 4]) (st := []) (kc' := 0) (ks' := 0) (v := .int 1) C0 d_Md_contact_3 l_Md_96 (d_in1 _ u 0 4 hu) rfl rfl rfl (Nat.le_of_ble_eq_true rfl) (Nat.le_of_ble_eq_true rfl) (Nat.le_of_ble_eq_true rfl) (Nat.le_of_ble_eq_true rfl) (Nat.le_of_ble_eq_true rfl) (Nat.le_of_ble_eq_true rfl) ?_
  refine xs_if_eq (tgt := 41) C0 d_Md_contact_6 (by decide) (fun c9 => absurd c9 (by decide)) (fun _ => ?_)
  refine xs_iload_n C0 d_Md_contact_9 rfl 3 rfl ?_
  refine xs_iload C0 d_Md_contact_10 4 rfl ?_
  refine xs_cS1 (ω' := (wd Q0 Q1 Q2 Q3 Q4 ql qr qk qo QS QT QF QH qt ++ (wM (f0, g0, nI n0) (f1, g1, nI n1) (f2, g2, nI n2) (f3, g3, nI n3) (f4, g4, nI n4) pl dr ki rl Z cl hc sl tk kp pa tr co ++ rest))) (av := [.int a, .int b]) (st := []) (kc' := 0) (ks' := 0) (v := .int 1) C0 d_Md_contact_12 l_Md_104 (d_nn1 _ a b hg) rfl rfl rfl (Nat.le_of_ble_eq_true rfl) (Nat.le_of_ble_eq_true rfl) (Nat.le_of_ble_eq_true rfl) (Nat.le_of_ble_eq_true rfl) (Nat.le_of_ble_eq_true rfl) (Nat.le_of_ble_eq_true rfl) ?_
  refine xs_if_eq (tgt := 41) C0 d_Md_contact_15 (by decide) (fun c9 => absurd c9 (by decide)) (fun _ => ?_)
  refine xs_iload_n C0 d_Md_contact_18 rfl 1 rfl ?_
  refine xs_iconst (v := 4) C0 d_Md_contact_19 (by decide) ?_
  refine xs_icmp_eq (tgt := 37) C0 d_Md_contact_20 (by decide) (fun c1 => ?_) (fun c1 => ?_)
  · refine xs_iconst (v := 1) C0 d_Md_contact_37 (by decide) ?_
    refine xs_goto (tgt := 42) C0 d_Md_contact_38 (by decide) ?_
    refine xs_istore (lv' := [(5, .int 1), (0, .ref 36), (1, .int u), (2, .int v), (3, .int a), (4, .int b)]) C0 d_Md_contact_42 (by decide) rfl ?_
    refine xs_aload_n C0 d_Md_contact_44 rfl 1 rfl ?_
    refine xs_iload C0 d_Md_contact_45 0 rfl ?_
    refine xs_if_ne (tgt := 54) C0 d_Md_contact_47 (by decide) (fun _ => ?_) (fun c9 => absurd c9 (by decide))
    refine xs_aload_n C0 d_Md_contact_54 rfl 1 rfl ?_
    refine xs_get (q := 36) (v := .int (nI n1)) C0 f_Md_114 d_Md_contact_55 rfl rfl ?_
    refine xs_bipush (v := 64) C0 d_Md_contact_58 (by decide) ?_
    refine xs_icmp_ne (tgt := 67) C0 d_Md_contact_60 (by decide) (fun _ => ?_) (fun c9 => absurd ((nI_eq (by omega) (by decide)).mp (show nI n1 = nI 64 from c9)) (by omega))
    refine xs_iconst (v := 0) C0 d_Md_contact_67 (by decide) ?_
    refine xs_put (ω' := (wd Q0 Q1 Q2 Q3 Q4 ql qr qk qo QS QT QF QH qt ++ (wM (f0, g0, nI n0) (f1, g1, nI n1) (f2, g2, nI n2) (f3, g3, nI n3) (f4, g4, nI n4) pl dr ki rl Z cl hc sl tk kp pa tr 0 ++ rest))) C0 f_Md_92 ty_Md_0 d_Md_contact_68 rfl (Nat.le_of_ble_eq_true rfl) (fun _ => ⟨rfl, rfl⟩) rfl ?_
    refine xs_aload_n C0 d_Md_contact_71 rfl 1 rfl ?_
    refine xs_get (q := 36) (v := .int 0) C0 f_Md_92 d_Md_contact_72 rfl rfl ?_
    refine xs_if_le (tgt := 80) C0 d_Md_contact_75 (by decide) (fun _ => ?_) (fun c9 => absurd c9 (by decide))
    refine xs_aload_n C0 d_Md_contact_80 rfl 1 rfl ?_
    refine xs_get (q := 36) (v := .ref 44) C0 f_Md_31 d_Md_contact_81 rfl rfl ?_
    refine xs_aload_n C0 d_Md_contact_84 rfl 1 rfl ?_
    refine xs_get (q := 36) (v := .int (nI n1)) C0 f_Md_114 d_Md_contact_85 rfl rfl ?_
    refine xs_iload_n C0 d_Md_contact_88 rfl 2 rfl ?_
    refine xs_iast (ω' := (wd Q0 Q1 Q2 Q3 Q4 ql qr qk qo QS QT QF QH qt ++ (wM (f0, g0, nI n0) (f1, g1, nI n1) (f2, g2, nI n2) (f3, g3, nI n3) (f4, g4, nI n4) pl dr (upd ki (nI n1).toNatClampNeg u) rl Z cl hc sl tk kp pa tr 0 ++ rest))) C0 d_Md_contact_89 rfl (vp_in_nI hi (by decide)) rfl ?_
    refine xs_world (ω' := (wd Q0 Q1 Q2 Q3 Q4 ql qr qk qo QS QT QF QH qt ++ (wM (f0, g0, nI n0) (f1, g1, nI n1) (f2, g2, nI n2) (f3, g3, nI n3) (f4, g4, nI n4) pl dr (upd ki n1 u) rl Z cl hc sl tk kp pa tr 0 ++ rest))) (by rw [nI_clamp (by omega)]) ?_
    refine xs_aload_n C0 d_Md_contact_90 rfl 1 rfl ?_
    refine xs_get (q := 36) (v := .ref 45) C0 f_Md_34 d_Md_contact_91 rfl rfl ?_
    refine xs_aload_n C0 d_Md_contact_94 rfl 1 rfl ?_
    refine xs_get (q := 36) (v := .int (nI n1)) C0 f_Md_114 d_Md_contact_95 rfl rfl ?_
    refine xs_iload_n C0 d_Md_contact_98 rfl 3 rfl ?_
    refine xs_pc (pc' := 99) rfl ?_
    refine xs_iast (ω' := (wd Q0 Q1 Q2 Q3 Q4 ql qr qk qo QS QT QF QH qt ++ (wM (f0, g0, nI n0) (f1, g1, nI n1) (f2, g2, nI n2) (f3, g3, nI n3) (f4, g4, nI n4) pl dr (upd ki n1 u) (upd rl (nI n1).toNatClampNeg v) Z cl hc sl tk kp pa tr 0 ++ rest))) C0 d_Md_contact_99 rfl (vp_in_nI hi (by decide)) rfl ?_
    refine xs_world (ω' := (wd Q0 Q1 Q2 Q3 Q4 ql qr qk qo QS QT QF QH qt ++ (wM (f0, g0, nI n0) (f1, g1, nI n1) (f2, g2, nI n2) (f3, g3, nI n3) (f4, g4, nI n4) pl dr (upd ki n1 u) (upd rl n1 v) Z cl hc sl tk kp pa tr 0 ++ rest))) (by rw [nI_clamp (by omega)]) ?_
    refine xs_aload_n C0 d_Md_contact_100 rfl 1 rfl ?_
    refine xs_get (q := 36) (v := .ref 46) C0 f_Md_37 d_Md_contact_101 rfl rfl ?_
    refine xs_aload_n C0 d_Md_contact_104 rfl 1 rfl ?_
    refine xs_get (q := 36) (v := .int (nI n1)) C0 f_Md_114 d_Md_contact_105 rfl rfl ?_
    refine xs_iload_n C0 d_Md_contact_108 rfl 4 rfl ?_
    refine xs_iast (ω' := (wd Q0 Q1 Q2 Q3 Q4 ql qr qk qo QS QT QF QH qt ++ (wM (f0, g0, nI n0) (upd f1 (nI n1).toNatClampNeg a, g1, nI n1) (f2, g2, nI n2) (f3, g3, nI n3) (f4, g4, nI n4) pl dr (upd ki n1 u) (upd rl n1 v) Z cl hc sl tk kp pa tr 0 ++ rest))) C0 d_Md_contact_109 rfl (vp_in_nI hi (by decide)) rfl ?_
    refine xs_world (ω' := (wd Q0 Q1 Q2 Q3 Q4 ql qr qk qo QS QT QF QH qt ++ (wM (f0, g0, nI n0) (upd f1 n1 a, g1, nI n1) (f2, g2, nI n2) (f3, g3, nI n3) (f4, g4, nI n4) pl dr (upd ki n1 u) (upd rl n1 v) Z cl hc sl tk kp pa tr 0 ++ rest))) (by rw [nI_clamp (by omega)]) ?_
    refine xs_aload_n C0 d_Md_contact_110 rfl 1 rfl ?_
    refine xs_get (q := 36) (v := .ref 47) C0 f_Md_40 d_Md_contact_111 rfl rfl ?_
    refine xs_aload_n C0 d_Md_contact_114 rfl 1 rfl ?_
    refine xs_get (q := 36) (v := .int (nI n1)) C0 f_Md_114 d_Md_contact_115 rfl rfl ?_
    refine xs_iload C0 d_Md_contact_118 5 rfl ?_
    refine xs_pc (pc' := 120) rfl ?_
    refine xs_iast (ω' := (wd Q0 Q1 Q2 Q3 Q4 ql qr qk qo QS QT QF QH qt ++ (wM (f0, g0, nI n0) (upd f1 n1 a, upd g1 (nI n1).toNatClampNeg b, nI n1) (f2, g2, nI n2) (f3, g3, nI n3) (f4, g4, nI n4) pl dr (upd ki n1 u) (upd rl n1 v) Z cl hc sl tk kp pa tr 0 ++ rest))) C0 d_Md_contact_120 rfl (vp_in_nI hi (by decide)) rfl ?_
    refine xs_world (ω' := (wd Q0 Q1 Q2 Q3 Q4 ql qr qk qo QS QT QF QH qt ++ (wM (f0, g0, nI n0) (upd f1 n1 a, upd g1 n1 b, nI n1) (f2, g2, nI n2) (f3, g3, nI n3) (f4, g4, nI n4) pl dr (upd ki n1 u) (upd rl n1 v) Z cl hc sl tk kp pa tr 0 ++ rest))) (by rw [nI_clamp (by omega)]) ?_
    refine xs_aload_n C0 d_Md_contact_121 rfl 1 rfl ?_
    refine xs_dup C0 d_Md_contact_122 rfl ?_
    refine xs_get (q := 36) (v := .int (nI n1)) C0 f_Md_114 d_Md_contact_123 rfl rfl ?_
    refine xs_iconst (v := 1) C0 d_Md_contact_126 (by decide) ?_
    refine xs_iadd C0 d_Md_contact_127 ?_
    refine xs_top (v' := .int (nI (n1 + 1))) (by rw [nI_1]) ?_
    refine xs_put (ω' := (wd Q0 Q1 Q2 Q3 Q4 ql qr qk qo QS QT QF QH qt ++ (wM (f0, g0, nI n0) (upd f1 n1 a, upd g1 n1 b, (nI (n1 + 1))) (f2, g2, nI n2) (f3, g3, nI n3) (f4, g4, nI n4) pl dr (upd ki n1 u) (upd rl n1 v) Z cl hc sl tk kp pa tr 0 ++ rest))) C0 f_Md_114 ty_Md_2 d_Md_contact_128 rfl (Nat.le_of_ble_eq_true rfl) (fun _ => ⟨rfl, rfl⟩) rfl ?_
    refine xs_aload_n C0 d_Md_contact_131 rfl 1 rfl ?_
    refine xs_cV0 (ω' := (wd Q0 Q1 Q2 Q3 Q4 ql qr qk qo QS QT QF QH qt ++ (wM (f0, g0, nI n0) (upd f1 n1 a, upd g1 n1 b, (nI (n1 + 1))) (f2, g2, nI n2) (f3, g3, nI n3) (f4, g4, nI n4) pl dr (upd ki n1 u) (upd rl n1 v) Z1 cl hc1 sl tk kp pa tr 0 ++ rest))) (As := []) (st := []) (kc' := 0) (ks' := 0) C0 d_Md_contact_132 l_Md_111 rfl rfl (d_laf (B := b_addC ((f0, g0, n0), (f1, g1, n1), (f2, g2, n2), (f3, g3, n3), (f4, g4, n4), pl, dr, ki, ow) u v a b) (rl := (upd rl n1 v)) (okM_addC hM hi hu hv hg) hf) rfl rfl rfl (Nat.le_of_ble_eq_true rfl) (Nat.le_of_ble_eq_true rfl) (Nat.le_of_ble_eq_true rfl) (Nat.le_of_ble_eq_true rfl) (Nat.le_of_ble_eq_true rfl) (Nat.le_of_ble_eq_true rfl) ?_
    refine xs_aload_n C0 d_Md_contact_135 rfl 1 rfl ?_
    refine xs_get (q := 36) (v := .int (nI (n1 + 1))) C0 f_Md_114 d_Md_contact_136 rfl rfl ?_
    refine xs_iconst (v := 1) C0 d_Md_contact_139 (by decide) ?_
    refine xs_pc (pc' := 140) rfl ?_
    refine xs_isub C0 d_Md_contact_140 ?_
    refine xs_top (v' := .int (nI n1)) (by rw [nI_pred]) ?_
    exact xs_iret C0 d_Md_contact_141 (⟨rfl, rfl⟩) (Nat.le_of_ble_eq_true rfl) (Nat.le_of_ble_eq_true rfl)
  · refine xs_iload_n C0 d_Md_contact_23 rfl 2 rfl ?_
    refine xs_iconst (v := 0) C0 d_Md_contact_24 (by decide) ?_
    refine xs_aload_n C0 d_Md_contact_25 rfl 0 rfl ?_
    refine xs_get (q := 36) (v := .int (nI n0)) C0 f_Md_108 d_Md_contact_26 rfl rfl ?_
    refine xs_iconst (v := 1) C0 d_Md_contact_29 (by decide) ?_
    refine xs_isub C0 d_Md_contact_30 ?_
    refine xs_cS1 (ω' := (wd Q0 Q1 Q2 Q3 Q4 ql qr qk qo QS QT QF QH qt ++ (wM (f0, g0, nI n0) (f1, g1, nI n1) (f2, g2, nI n2) (f3, g3, nI n3) (f4, g4, nI n4) pl dr ki rl Z cl hc sl tk kp pa tr co ++ rest))) (av := [.int v, .int 0, .int ((nI n0) - 1)]) (st := []) (kc' := 0) (ks' := 0) (v := .int 1) C0 d_Md_contact_31 l_Md_96 (d_in1 _ v 0 ((nI n0) - 1) (hv.resolve_left c1)) rfl rfl rfl (Nat.le_of_ble_eq_true rfl) (Nat.le_of_ble_eq_true rfl) (Nat.le_of_ble_eq_true rfl) (Nat.le_of_ble_eq_true rfl) (Nat.le_of_ble_eq_true rfl) (Nat.le_of_ble_eq_true rfl) ?_
    refine xs_if_eq (tgt := 41) C0 d_Md_contact_34 (by decide) (fun c9 => absurd c9 (by decide)) (fun _ => ?_)
    refine xs_iconst (v := 1) C0 d_Md_contact_37 (by decide) ?_
    refine xs_goto (tgt := 42) C0 d_Md_contact_38 (by decide) ?_
    refine xs_istore (lv' := [(5, .int 1), (0, .ref 36), (1, .int u), (2, .int v), (3, .int a), (4, .int b)]) C0 d_Md_contact_42 (by decide) rfl ?_
    refine xs_aload_n C0 d_Md_contact_44 rfl 1 rfl ?_
    refine xs_iload C0 d_Md_contact_45 0 rfl ?_
    refine xs_if_ne (tgt := 54) C0 d_Md_contact_47 (by decide) (fun _ => ?_) (fun c9 => absurd c9 (by decide))
    refine xs_aload_n C0 d_Md_contact_54 rfl 1 rfl ?_
    refine xs_get (q := 36) (v := .int (nI n1)) C0 f_Md_114 d_Md_contact_55 rfl rfl ?_
    refine xs_bipush (v := 64) C0 d_Md_contact_58 (by decide) ?_
    refine xs_icmp_ne (tgt := 67) C0 d_Md_contact_60 (by decide) (fun _ => ?_) (fun c9 => absurd ((nI_eq (by omega) (by decide)).mp (show nI n1 = nI 64 from c9)) (by omega))
    refine xs_iconst (v := 0) C0 d_Md_contact_67 (by decide) ?_
    refine xs_put (ω' := (wd Q0 Q1 Q2 Q3 Q4 ql qr qk qo QS QT QF QH qt ++ (wM (f0, g0, nI n0) (f1, g1, nI n1) (f2, g2, nI n2) (f3, g3, nI n3) (f4, g4, nI n4) pl dr ki rl Z cl hc sl tk kp pa tr 0 ++ rest))) C0 f_Md_92 ty_Md_0 d_Md_contact_68 rfl (Nat.le_of_ble_eq_true rfl) (fun _ => ⟨rfl, rfl⟩) rfl ?_
    refine xs_aload_n C0 d_Md_contact_71 rfl 1 rfl ?_
    refine xs_get (q := 36) (v := .int 0) C0 f_Md_92 d_Md_contact_72 rfl rfl ?_
    refine xs_if_le (tgt := 80) C0 d_Md_contact_75 (by decide) (fun _ => ?_) (fun c9 => absurd c9 (by decide))
    refine xs_aload_n C0 d_Md_contact_80 rfl 1 rfl ?_
    refine xs_get (q := 36) (v := .ref 44) C0 f_Md_31 d_Md_contact_81 rfl rfl ?_
    refine xs_aload_n C0 d_Md_contact_84 rfl 1 rfl ?_
    refine xs_get (q := 36) (v := .int (nI n1)) C0 f_Md_114 d_Md_contact_85 rfl rfl ?_
    refine xs_iload_n C0 d_Md_contact_88 rfl 2 rfl ?_
    refine xs_iast (ω' := (wd Q0 Q1 Q2 Q3 Q4 ql qr qk qo QS QT QF QH qt ++ (wM (f0, g0, nI n0) (f1, g1, nI n1) (f2, g2, nI n2) (f3, g3, nI n3) (f4, g4, nI n4) pl dr (upd ki (nI n1).toNatClampNeg u) rl Z cl hc sl tk kp pa tr 0 ++ rest))) C0 d_Md_contact_89 rfl (vp_in_nI hi (by decide)) rfl ?_
    refine xs_world (ω' := (wd Q0 Q1 Q2 Q3 Q4 ql qr qk qo QS QT QF QH qt ++ (wM (f0, g0, nI n0) (f1, g1, nI n1) (f2, g2, nI n2) (f3, g3, nI n3) (f4, g4, nI n4) pl dr (upd ki n1 u) rl Z cl hc sl tk kp pa tr 0 ++ rest))) (by rw [nI_clamp (by omega)]) ?_
    refine xs_aload_n C0 d_Md_contact_90 rfl 1 rfl ?_
    refine xs_get (q := 36) (v := .ref 45) C0 f_Md_34 d_Md_contact_91 rfl rfl ?_
    refine xs_aload_n C0 d_Md_contact_94 rfl 1 rfl ?_
    refine xs_get (q := 36) (v := .int (nI n1)) C0 f_Md_114 d_Md_contact_95 rfl rfl ?_
    refine xs_iload_n C0 d_Md_contact_98 rfl 3 rfl ?_
    refine xs_pc (pc' := 99) rfl ?_
    refine xs_iast (ω' := (wd Q0 Q1 Q2 Q3 Q4 ql qr qk qo QS QT QF QH qt ++ (wM (f0, g0, nI n0) (f1, g1, nI n1) (f2, g2, nI n2) (f3, g3, nI n3) (f4, g4, nI n4) pl dr (upd ki n1 u) (upd rl (nI n1).toNatClampNeg v) Z cl hc sl tk kp pa tr 0 ++ rest))) C0 d_Md_contact_99 rfl (vp_in_nI hi (by decide)) rfl ?_
    refine xs_world (ω' := (wd Q0 Q1 Q2 Q3 Q4 ql qr qk qo QS QT QF QH qt ++ (wM (f0, g0, nI n0) (f1, g1, nI n1) (f2, g2, nI n2) (f3, g3, nI n3) (f4, g4, nI n4) pl dr (upd ki n1 u) (upd rl n1 v) Z cl hc sl tk kp pa tr 0 ++ rest))) (by rw [nI_clamp (by omega)]) ?_
    refine xs_aload_n C0 d_Md_contact_100 rfl 1 rfl ?_
    refine xs_get (q := 36) (v := .ref 46) C0 f_Md_37 d_Md_contact_101 rfl rfl ?_
    refine xs_aload_n C0 d_Md_contact_104 rfl 1 rfl ?_
    refine xs_get (q := 36) (v := .int (nI n1)) C0 f_Md_114 d_Md_contact_105 rfl rfl ?_
    refine xs_iload_n C0 d_Md_contact_108 rfl 4 rfl ?_
    refine xs_iast (ω' := (wd Q0 Q1 Q2 Q3 Q4 ql qr qk qo QS QT QF QH qt ++ (wM (f0, g0, nI n0) (upd f1 (nI n1).toNatClampNeg a, g1, nI n1) (f2, g2, nI n2) (f3, g3, nI n3) (f4, g4, nI n4) pl dr (upd ki n1 u) (upd rl n1 v) Z cl hc sl tk kp pa tr 0 ++ rest))) C0 d_Md_contact_109 rfl (vp_in_nI hi (by decide)) rfl ?_
    refine xs_world (ω' := (wd Q0 Q1 Q2 Q3 Q4 ql qr qk qo QS QT QF QH qt ++ (wM (f0, g0, nI n0) (upd f1 n1 a, g1, nI n1) (f2, g2, nI n2) (f3, g3, nI n3) (f4, g4, nI n4) pl dr (upd ki n1 u) (upd rl n1 v) Z cl hc sl tk kp pa tr 0 ++ rest))) (by rw [nI_clamp (by omega)]) ?_
    refine xs_aload_n C0 d_Md_contact_110 rfl 1 rfl ?_
    refine xs_get (q := 36) (v := .ref 47) C0 f_Md_40 d_Md_contact_111 rfl rfl ?_
    refine xs_aload_n C0 d_Md_contact_114 rfl 1 rfl ?_
    refine xs_get (q := 36) (v := .int (nI n1)) C0 f_Md_114 d_Md_contact_115 rfl rfl ?_
    refine xs_iload C0 d_Md_contact_118 5 rfl ?_
    refine xs_pc (pc' := 120) rfl ?_
    refine xs_iast (ω' := (wd Q0 Q1 Q2 Q3 Q4 ql qr qk qo QS QT QF QH qt ++ (wM (f0, g0, nI n0) (upd f1 n1 a, upd g1 (nI n1).toNatClampNeg b, nI n1) (f2, g2, nI n2) (f3, g3, nI n3) (f4, g4, nI n4) pl dr (upd ki n1 u) (upd rl n1 v) Z cl hc sl tk kp pa tr 0 ++ rest))) C0 d_Md_contact_120 rfl (vp_in_nI hi (by decide)) rfl ?_
    refine xs_world (ω' := (wd Q0 Q1 Q2 Q3 Q4 ql qr qk qo QS QT QF QH qt ++ (wM (f0, g0, nI n0) (upd f1 n1 a, upd g1 n1 b, nI n1) (f2, g2, nI n2) (f3, g3, nI n3) (f4, g4, nI n4) pl dr (upd ki n1 u) (upd rl n1 v) Z cl hc sl tk kp pa tr 0 ++ rest))) (by rw [nI_clamp (by omega)]) ?_
    refine xs_aload_n C0 d_Md_contact_121 rfl 1 rfl ?_
    refine xs_dup C0 d_Md_contact_122 rfl ?_
    refine xs_get (q := 36) (v := .int (nI n1)) C0 f_Md_114 d_Md_contact_123 rfl rfl ?_
    refine xs_iconst (v := 1) C0 d_Md_contact_126 (by decide) ?_
    refine xs_iadd C0 d_Md_contact_127 ?_
    refine xs_top (v' := .int (nI (n1 + 1))) (by rw [nI_1]) ?_
    refine xs_put (ω' := (wd Q0 Q1 Q2 Q3 Q4 ql qr qk qo QS QT QF QH qt ++ (wM (f0, g0, nI n0) (upd f1 n1 a, upd g1 n1 b, (nI (n1 + 1))) (f2, g2, nI n2) (f3, g3, nI n3) (f4, g4, nI n4) pl dr (upd ki n1 u) (upd rl n1 v) Z cl hc sl tk kp pa tr 0 ++ rest))) C0 f_Md_114 ty_Md_2 d_Md_contact_128 rfl (Nat.le_of_ble_eq_true rfl) (fun _ => ⟨rfl, rfl⟩) rfl ?_
    refine xs_aload_n C0 d_Md_contact_131 rfl 1 rfl ?_
    refine xs_cV0 (ω' := (wd Q0 Q1 Q2 Q3 Q4 ql qr qk qo QS QT QF QH qt ++ (wM (f0, g0, nI n0) (upd f1 n1 a, upd g1 n1 b, (nI (n1 + 1))) (f2, g2, nI n2) (f3, g3, nI n3) (f4, g4, nI n4) pl dr (upd ki n1 u) (upd rl n1 v) Z1 cl hc1 sl tk kp pa tr 0 ++ rest))) (As := []) (st := []) (kc' := 0) (ks' := 0) C0 d_Md_contact_132 l_Md_111 rfl rfl (d_laf (B := b_addC ((f0, g0, n0), (f1, g1, n1), (f2, g2, n2), (f3, g3, n3), (f4, g4, n4), pl, dr, ki, ow) u v a b) (rl := (upd rl n1 v)) (okM_addC hM hi hu hv hg) hf) rfl rfl rfl (Nat.le_of_ble_eq_true rfl) (Nat.le_of_ble_eq_true rfl) (Nat.le_of_ble_eq_true rfl) (Nat.le_of_ble_eq_true rfl) (Nat.le_of_ble_eq_true rfl) (Nat.le_of_ble_eq_true rfl) ?_
    refine xs_aload_n C0 d_Md_contact_135 rfl 1 rfl ?_
    refine xs_get (q := 36) (v := .int (nI (n1 + 1))) C0 f_Md_114 d_Md_contact_136 rfl rfl ?_
    refine xs_iconst (v := 1) C0 d_Md_contact_139 (by decide) ?_
    refine xs_pc (pc' := 140) rfl ?_
    refine xs_isub C0 d_Md_contact_140 ?_
    refine xs_top (v' := .int (nI n1)) (by rw [nI_pred]) ?_
    exact xs_iret C0 d_Md_contact_141 (⟨rfl, rfl⟩) (Nat.le_of_ble_eq_true rfl) (Nat.le_of_ble_eq_true rfl)
set_option maxHeartbeats 4000000 in
set_option maxRecDepth 100000 in
theorem d_contT {Q0 Q1 Q2 Q3 Q4 : wt_P} {ql qr qk qo : Nat → Int32} {QS QT : wt_S} {QF : wt_F} {QH : wt_H} {qt : Int32} {B : wb} {rl : Nat → Int32} {Z : mt_S} {cl : Nat → Int32} {hc : mt_H} {sl tk : Int32} {kp : mt_K} {pa : Nat → Int32} {tr : mt_T} {co : Int32} {rest : xm_O} {a b u v : Int32} (hM : okM B rl) (h : ¬ (gw u 0 4 ∧ (u = 4 ∨ gw v 0 (nI B.1.2.2 - 1)) ∧ g2 a b)) : xm_M y_Md_contact (Cond.code y_Md_contact b_Md_contact 6 (some .int)) (xm_rm 4 0 0) [.ref 36, .int u, .int v, .int a, .int b] (wd Q0 Q1 Q2 Q3 Q4 ql qr qk qo QS QT QF QH qt ++ (wMB B rl Z cl hc sl tk kp pa tr co ++ rest)) (xm_eq (.inl (some (.int 0))) (wd Q0 Q1 Q2 Q3 Q4 ql qr qk qo QS QT QF QH qt ++ (wMB B rl Z cl hc sl tk kp pa tr 1 ++ rest))) := by
  obtain ⟨⟨f0, g0, n0⟩, ⟨f1, g1, n1⟩, ⟨f2, g2, n2⟩, ⟨f3, g3, n3⟩, ⟨f4, g4, n4⟩, pl, dr, ki, ow⟩ := B
  have hB := hM.1
  have hrl := hM.2
  obtain ⟨⟨h0, hp0⟩, ⟨h1, hp1⟩, ⟨h2, hp2⟩, ⟨h3, hp3⟩, ⟨h4, hp4⟩, hk⟩ := id hB
  dsimp only at h0 h1 h2 h3 h4 hp0 hp1 hp2 hp3 hp4 hk hrl
  refine xm_of (by decide) (Nat.le_of_ble_eq_true rfl) (fun E C0 => ?_)
  refine xs_eq (ω' := (wd Q0 Q1 Q2 Q3 Q4 ql qr qk qo QS QT QF QH qt ++ (wM (f0, g0, nI n0) (f1, g1, nI n1) (f2, g2, nI n2) (f3, g3, nI n3) (f4, g4, nI n4) pl dr ki rl Z cl hc sl tk kp pa tr co ++ rest))) (lv' := [(0, .ref 36), (1, .int u), (2, .int v), (3, .int a), (4, .int b)]) rfl rfl rfl ?_
  by_cases hu : gw u 0 4
  · by_cases hg : gN2 a b
    · refine xs_iload_n C0 d_Md_contact_0 rfl 1 rfl ?_
      refine xs_iconst (v := 0) C0 d_Md_contact_1 (by decide) ?_
      refine xs_iconst (v := 4) C0 d_Md_contact_2 (by decide) ?_
      refine xs_cS1 (ω' := (wd Q0 Q1 Q2 Q3 Q4 ql qr qk qo QS QT QF QH qt ++ (wM (f0, g0, nI n0) (f1, g1, nI n1) (f2, g2, nI n2) (f3, g3, nI n3) (f4, g4, nI n4) pl dr ki rl Z cl hc sl tk kp pa tr co ++ rest))) (av := [.int u, .int 0, .int 4]) (st := []) (kc' := 0) (ks' := 0) (v := .int 1) C0 d_Md_contact_3 l_Md_96 (d_in1 _ u 0 4 hu) rfl rfl rfl (Nat.le_of_ble_eq_true rfl) (Nat.le_of_ble_eq_true rfl) (Nat.le_of_ble_eq_true rfl) (Nat.le_of_ble_eq_true rfl) (Nat.le_of_ble_eq_true rfl) (Nat.le_of_ble_eq_true rfl) ?_
      refine xs_if_eq (tgt := 41) C0 d_Md_contact_6 (by decide) (fun c9 => absurd c9 (by decide)) (fun _ => ?_)
      refine xs_iload_n C0 d_Md_contact_9 rfl 3 rfl ?_
      refine xs_iload C0 d_Md_contact_10 4 rfl ?_
      refine xs_cS1 (ω' := (wd Q0 Q1 Q2 Q3 Q4 ql qr qk qo QS QT QF QH qt ++ (wM (f0, g0, nI n0) (f1, g1, nI n1) (f2, g2, nI n2) (f3, g3, nI n3) (f4, g4, nI n4) pl dr ki rl Z cl hc sl tk kp pa tr co ++ rest))) (av := [.int a, .int b]) (st := []) (kc' := 0) (ks' := 0) (v := .int 1) C0 d_Md_contact_12 l_Md_104 (d_nn1 _ a b hg) rfl rfl rfl (Nat.le_of_ble_eq_true rfl) (Nat.le_of_ble_eq_true rfl) (Nat.le_of_ble_eq_true rfl) (Nat.le_of_ble_eq_true rfl) (Nat.le_of_ble_eq_true rfl) (Nat.le_of_ble_eq_true rfl) ?_
      refine xs_if_eq (tgt := 41) C0 d_Md_contact_15 (by decide) (fun c9 => absurd c9 (by decide)) (fun _ => ?_)
      refine xs_iload_n C0 d_Md_contact_18 rfl 1 rfl ?_
      refine xs_iconst (v := 4) C0 d_Md_contact_19 (by decide) ?_
      refine xs_icmp_eq (tgt := 37) C0 d_Md_contact_20 (by decide) (fun c9 => absurd ⟨hu, Or.inl c9, hg⟩ h) (fun _ => ?_)
      refine xs_pc (pc' := 23) rfl ?_
      refine xs_iload_n C0 d_Md_contact_23 rfl 2 rfl ?_
      refine xs_iconst (v := 0) C0 d_Md_contact_24 (by decide) ?_
      refine xs_aload_n C0 d_Md_contact_25 rfl 0 rfl ?_
      refine xs_get (q := 36) (v := .int (nI n0)) C0 f_Md_108 d_Md_contact_26 rfl rfl ?_
      refine xs_iconst (v := 1) C0 d_Md_contact_29 (by decide) ?_
      refine xs_isub C0 d_Md_contact_30 ?_
      refine xs_cS1 (ω' := (wd Q0 Q1 Q2 Q3 Q4 ql qr qk qo QS QT QF QH qt ++ (wM (f0, g0, nI n0) (f1, g1, nI n1) (f2, g2, nI n2) (f3, g3, nI n3) (f4, g4, nI n4) pl dr ki rl Z cl hc sl tk kp pa tr co ++ rest))) (av := [.int v, .int 0, .int ((nI n0) - 1)]) (st := []) (kc' := 0) (ks' := 0) (v := .int 0) C0 d_Md_contact_31 l_Md_96 (d_in0 _ v 0 ((nI n0) - 1) (fun h9 => h ⟨hu, Or.inr h9, hg⟩)) rfl rfl rfl (Nat.le_of_ble_eq_true rfl) (Nat.le_of_ble_eq_true rfl) (Nat.le_of_ble_eq_true rfl) (Nat.le_of_ble_eq_true rfl) (Nat.le_of_ble_eq_true rfl) (Nat.le_of_ble_eq_true rfl) ?_
      refine xs_if_eq (tgt := 41) C0 d_Md_contact_34 (by decide) (fun _ => ?_) (fun c9 => absurd rfl c9)
      refine xs_iconst (v := 0) C0 d_Md_contact_41 (by decide) ?_
      refine xs_istore (lv' := [(5, .int 0), (0, .ref 36), (1, .int u), (2, .int v), (3, .int a), (4, .int b)]) C0 d_Md_contact_42 (by decide) rfl ?_
      refine xs_aload_n C0 d_Md_contact_44 rfl 1 rfl ?_
      refine xs_iload C0 d_Md_contact_45 0 rfl ?_
      refine xs_if_ne (tgt := 54) C0 d_Md_contact_47 (by decide) (fun c9 => absurd c9 (by decide)) (fun _ => ?_)
      refine xs_iconst (v := 1) C0 d_Md_contact_50 (by decide) ?_
      refine xs_goto (tgt := 68) C0 d_Md_contact_51 (by decide) ?_
      refine xs_put (ω' := (wd Q0 Q1 Q2 Q3 Q4 ql qr qk qo QS QT QF QH qt ++ (wM (f0, g0, nI n0) (f1, g1, nI n1) (f2, g2, nI n2) (f3, g3, nI n3) (f4, g4, nI n4) pl dr ki rl Z cl hc sl tk kp pa tr 1 ++ rest))) C0 f_Md_92 ty_Md_0 d_Md_contact_68 rfl (Nat.le_of_ble_eq_true rfl) (fun _ => ⟨rfl, rfl⟩) rfl ?_
      refine xs_aload_n C0 d_Md_contact_71 rfl 1 rfl ?_
      refine xs_get (q := 36) (v := .int 1) C0 f_Md_92 d_Md_contact_72 rfl rfl ?_
      refine xs_if_le (tgt := 80) C0 d_Md_contact_75 (by decide) (fun c9 => absurd c9 (by decide)) (fun _ => ?_)
      refine xs_iconst (v := 0) C0 d_Md_contact_78 (by decide) ?_
      exact xs_iret C0 d_Md_contact_79 (⟨rfl, rfl⟩) (Nat.le_of_ble_eq_true rfl) (Nat.le_of_ble_eq_true rfl)
    · refine xs_iload_n C0 d_Md_contact_0 rfl 1 rfl ?_
      refine xs_iconst (v := 0) C0 d_Md_contact_1 (by decide) ?_
      refine xs_iconst (v := 4) C0 d_Md_contact_2 (by decide) ?_
      refine xs_cS1 (ω' := (wd Q0 Q1 Q2 Q3 Q4 ql qr qk qo QS QT QF QH qt ++ (wM (f0, g0, nI n0) (f1, g1, nI n1) (f2, g2, nI n2) (f3, g3, nI n3) (f4, g4, nI n4) pl dr ki rl Z cl hc sl tk kp pa tr co ++ rest))) (av := [.int u, .int 0, .int 4]) (st := []) (kc' := 0) (ks' := 0) (v := .int 1) C0 d_Md_contact_3 l_Md_96 (d_in1 _ u 0 4 hu) rfl rfl rfl (Nat.le_of_ble_eq_true rfl) (Nat.le_of_ble_eq_true rfl) (Nat.le_of_ble_eq_true rfl) (Nat.le_of_ble_eq_true rfl) (Nat.le_of_ble_eq_true rfl) (Nat.le_of_ble_eq_true rfl) ?_
      refine xs_if_eq (tgt := 41) C0 d_Md_contact_6 (by decide) (fun c9 => absurd c9 (by decide)) (fun _ => ?_)
      refine xs_iload_n C0 d_Md_contact_9 rfl 3 rfl ?_
      refine xs_iload C0 d_Md_contact_10 4 rfl ?_
      refine xs_cS1 (ω' := (wd Q0 Q1 Q2 Q3 Q4 ql qr qk qo QS QT QF QH qt ++ (wM (f0, g0, nI n0) (f1, g1, nI n1) (f2, g2, nI n2) (f3, g3, nI n3) (f4, g4, nI n4) pl dr ki rl Z cl hc sl tk kp pa tr co ++ rest))) (av := [.int a, .int b]) (st := []) (kc' := 0) (ks' := 0) (v := .int 0) C0 d_Md_contact_12 l_Md_104 (d_nn0 _ a b hg) rfl rfl rfl (Nat.le_of_ble_eq_true rfl) (Nat.le_of_ble_eq_true rfl) (Nat.le_of_ble_eq_true rfl) (Nat.le_of_ble_eq_true rfl) (Nat.le_of_ble_eq_true rfl) (Nat.le_of_ble_eq_true rfl) ?_
      refine xs_if_eq (tgt := 41) C0 d_Md_contact_15 (by decide) (fun _ => ?_) (fun c9 => absurd rfl c9)
      refine xs_iconst (v := 0) C0 d_Md_contact_41 (by decide) ?_
      refine xs_istore (lv' := [(5, .int 0), (0, .ref 36), (1, .int u), (2, .int v), (3, .int a), (4, .int b)]) C0 d_Md_contact_42 (by decide) rfl ?_
      refine xs_aload_n C0 d_Md_contact_44 rfl 1 rfl ?_
      refine xs_iload C0 d_Md_contact_45 0 rfl ?_
      refine xs_if_ne (tgt := 54) C0 d_Md_contact_47 (by decide) (fun c9 => absurd c9 (by decide)) (fun _ => ?_)
      refine xs_iconst (v := 1) C0 d_Md_contact_50 (by decide) ?_
      refine xs_goto (tgt := 68) C0 d_Md_contact_51 (by decide) ?_
      refine xs_put (ω' := (wd Q0 Q1 Q2 Q3 Q4 ql qr qk qo QS QT QF QH qt ++ (wM (f0, g0, nI n0) (f1, g1, nI n1) (f2, g2, nI n2) (f3, g3, nI n3) (f4, g4, nI n4) pl dr ki rl Z cl hc sl tk kp pa tr 1 ++ rest))) C0 f_Md_92 ty_Md_0 d_Md_contact_68 rfl (Nat.le_of_ble_eq_true rfl) (fun _ => ⟨rfl, rfl⟩) rfl ?_
      refine xs_aload_n C0 d_Md_contact_71 rfl 1 rfl ?_
      refine xs_get (q := 36) (v := .int 1) C0 f_Md_92 d_Md_contact_72 rfl rfl ?_
      refine xs_if_le (tgt := 80) C0 d_Md_contact_75 (by decide) (fun c9 => absurd c9 (by decide)) (fun _ => ?_)
      refine xs_iconst (v := 0) C0 d_Md_contact_78 (by decide) ?_
      exact xs_iret C0 d_Md_contact_79 (⟨rfl, rfl⟩) (Nat.le_of_ble_eq_true rfl) (Nat.le_of_ble_eq_true rfl)
  · refine xs_iload_n C0 d_Md_contact_0 rfl 1 rfl ?_
    refine xs_iconst (v := 0) C0 d_Md_contact_1 (by decide) ?_
    refine xs_iconst (v := 4) C0 d_Md_contact_2 (by decide) ?_
    refine xs_cS1 (ω' := (wd Q0 Q1 Q2 Q3 Q4 ql qr qk qo QS QT QF QH qt ++ (wM (f0, g0, nI n0) (f1, g1, nI n1) (f2, g2, nI n2) (f3, g3, nI n3) (f4, g4, nI n4) pl dr ki rl Z cl hc sl tk kp pa tr co ++ rest))) (av := [.int u, .int 0, .int 4]) (st := []) (kc' := 0) (ks' := 0) (v := .int 0) C0 d_Md_contact_3 l_Md_96 (d_in0 _ u 0 4 hu) rfl rfl rfl (Nat.le_of_ble_eq_true rfl) (Nat.le_of_ble_eq_true rfl) (Nat.le_of_ble_eq_true rfl) (Nat.le_of_ble_eq_true rfl) (Nat.le_of_ble_eq_true rfl) (Nat.le_of_ble_eq_true rfl) ?_
    refine xs_if_eq (tgt := 41) C0 d_Md_contact_6 (by decide) (fun _ => ?_) (fun c9 => absurd rfl c9)
    refine xs_iconst (v := 0) C0 d_Md_contact_41 (by decide) ?_
    refine xs_istore (lv' := [(5, .int 0), (0, .ref 36), (1, .int u), (2, .int v), (3, .int a), (4, .int b)]) C0 d_Md_contact_42 (by decide) rfl ?_
    refine xs_aload_n C0 d_Md_contact_44 rfl 1 rfl ?_
    refine xs_iload C0 d_Md_contact_45 0 rfl ?_
    refine xs_if_ne (tgt := 54) C0 d_Md_contact_47 (by decide) (fun c9 => absurd c9 (by decide)) (fun _ => ?_)
    refine xs_iconst (v := 1) C0 d_Md_contact_50 (by decide) ?_
    refine xs_goto (tgt := 68) C0 d_Md_contact_51 (by decide) ?_
    refine xs_put (ω' := (wd Q0 Q1 Q2 Q3 Q4 ql qr qk qo QS QT QF QH qt ++ (wM (f0, g0, nI n0) (f1, g1, nI n1) (f2, g2, nI n2) (f3, g3, nI n3) (f4, g4, nI n4) pl dr ki rl Z cl hc sl tk kp pa tr 1 ++ rest))) C0 f_Md_92 ty_Md_0 d_Md_contact_68 rfl (Nat.le_of_ble_eq_true rfl) (fun _ => ⟨rfl, rfl⟩) rfl ?_
    refine xs_aload_n C0 d_Md_contact_71 rfl 1 rfl ?_
    refine xs_get (q := 36) (v := .int 1) C0 f_Md_92 d_Md_contact_72 rfl rfl ?_
    refine xs_if_le (tgt := 80) C0 d_Md_contact_75 (by decide) (fun c9 => absurd c9 (by decide)) (fun _ => ?_)
    refine xs_iconst (v := 0) C0 d_Md_contact_78 (by decide) ?_
    exact xs_iret C0 d_Md_contact_79 (⟨rfl, rfl⟩) (Nat.le_of_ble_eq_true rfl) (Nat.le_of_ble_eq_true rfl)
set_option maxHeartbeats 4000000 in
set_option maxRecDepth 100000 in
theorem d_contX {Q0 Q1 Q2 Q3 Q4 : wt_P} {ql qr qk qo : Nat → Int32} {QS QT : wt_S} {QF : wt_F} {QH : wt_H} {qt : Int32} {B : wb} {rl : Nat → Int32} {Z : mt_S} {cl : Nat → Int32} {hc : mt_H} {sl tk : Int32} {kp : mt_K} {pa : Nat → Int32} {tr : mt_T} {co : Int32} {rest : xm_O} {a b u v : Int32} (hM : okM B rl) (hi : 64 ≤ B.2.1.2.2) (hu : gw u 0 4) (hv : u = 4 ∨ gw v 0 (nI B.1.2.2 - 1)) (hg : g2 a b) : xm_M y_Md_contact (Cond.code y_Md_contact b_Md_contact 6 (some .int)) (xm_rm 4 0 0) [.ref 36, .int u, .int v, .int a, .int b] (wd Q0 Q1 Q2 Q3 Q4 ql qr qk qo QS QT QF QH qt ++ (wMB B rl Z cl hc sl tk kp pa tr co ++ rest)) (xm_eq (.inl (some (.int 0))) (wd Q0 Q1 Q2 Q3 Q4 ql qr qk qo QS QT QF QH qt ++ (wMB B rl Z cl hc sl tk kp pa tr 2 ++ rest))) := by
  obtain ⟨⟨f0, g0, n0⟩, ⟨f1, g1, n1⟩, ⟨f2, g2, n2⟩, ⟨f3, g3, n3⟩, ⟨f4, g4, n4⟩, pl, dr, ki, ow⟩ := B
  have hB := hM.1
  have hrl := hM.2
  obtain ⟨⟨h0, hp0⟩, ⟨h1, hp1⟩, ⟨h2, hp2⟩, ⟨h3, hp3⟩, ⟨h4, hp4⟩, hk⟩ := id hB
  dsimp only at h0 h1 h2 h3 h4 hp0 hp1 hp2 hp3 hp4 hk hrl
  dsimp only at hi
  refine xm_of (by decide) (Nat.le_of_ble_eq_true rfl) (fun E C0 => ?_)
  refine xs_eq (ω' := (wd Q0 Q1 Q2 Q3 Q4 ql qr qk qo QS QT QF QH qt ++ (wM (f0, g0, nI n0) (f1, g1, nI n1) (f2, g2, nI n2) (f3, g3, nI n3) (f4, g4, nI n4) pl dr ki rl Z cl hc sl tk kp pa tr co ++ rest))) (lv' := [(0, .ref 36), (1, .int u), (2, .int v), (3, .int a), (4, .int b)]) rfl rfl rfl ?_
  refine xs_iload_n C0 d_Md_contact_0 rfl 1 rfl ?_
  refine xs_iconst (v := 0) C0 d_Md_contact_1 (by decide) ?_
  refine xs_iconst (v := 4) C0 d_Md_contact_2 (by decide) ?_
  refine xs_cS1 (ω' := (wd Q0 Q1 Q2 Q3 Q4 ql qr qk qo QS QT QF QH qt ++ (wM (f0, g0, nI n0) (f1, g1, nI n1) (f2, g2, nI n2) (f3, g3, nI n3) (f4, g4, nI n4) pl dr ki rl Z cl hc sl tk kp pa tr co ++ rest))) (av := [.int u, .int 0, .int 4]) (st := []) (kc' := 0) (ks' := 0) (v := .int 1) C0 d_Md_contact_3 l_Md_96 (d_in1 _ u 0 4 hu) rfl rfl rfl (Nat.le_of_ble_eq_true rfl) (Nat.le_of_ble_eq_true rfl) (Nat.le_of_ble_eq_true rfl) (Nat.le_of_ble_eq_true rfl) (Nat.le_of_ble_eq_true rfl) (Nat.le_of_ble_eq_true rfl) ?_
  refine xs_if_eq (tgt := 41) C0 d_Md_contact_6 (by decide) (fun c9 => absurd c9 (by decide)) (fun _ => ?_)
  refine xs_iload_n C0 d_Md_contact_9 rfl 3 rfl ?_
  refine xs_iload C0 d_Md_contact_10 4 rfl ?_
  refine xs_cS1 (ω' := (wd Q0 Q1 Q2 Q3 Q4 ql qr qk qo QS QT QF QH qt ++ (wM (f0, g0, nI n0) (f1, g1, nI n1) (f2, g2, nI n2) (f3, g3, nI n3) (f4, g4, nI n4) pl dr ki rl Z cl hc sl tk kp pa tr co ++ rest))) (av := [.int a, .int b]) (st := []) (kc' := 0) (ks' := 0) (v := .int 1) C0 d_Md_contact_12 l_Md_104 (d_nn1 _ a b hg) rfl rfl rfl (Nat.le_of_ble_eq_true rfl) (Nat.le_of_ble_eq_true rfl) (Nat.le_of_ble_eq_true rfl) (Nat.le_of_ble_eq_true rfl) (Nat.le_of_ble_eq_true rfl) (Nat.le_of_ble_eq_true rfl) ?_
  refine xs_if_eq (tgt := 41) C0 d_Md_contact_15 (by decide) (fun c9 => absurd c9 (by decide)) (fun _ => ?_)
  refine xs_iload_n C0 d_Md_contact_18 rfl 1 rfl ?_
  refine xs_iconst (v := 4) C0 d_Md_contact_19 (by decide) ?_
  refine xs_icmp_eq (tgt := 37) C0 d_Md_contact_20 (by decide) (fun c1 => ?_) (fun c1 => ?_)
  · refine xs_iconst (v := 1) C0 d_Md_contact_37 (by decide) ?_
    refine xs_goto (tgt := 42) C0 d_Md_contact_38 (by decide) ?_
    refine xs_istore (lv' := [(5, .int 1), (0, .ref 36), (1, .int u), (2, .int v), (3, .int a), (4, .int b)]) C0 d_Md_contact_42 (by decide) rfl ?_
    refine xs_aload_n C0 d_Md_contact_44 rfl 1 rfl ?_
    refine xs_iload C0 d_Md_contact_45 0 rfl ?_
    refine xs_if_ne (tgt := 54) C0 d_Md_contact_47 (by decide) (fun _ => ?_) (fun c9 => absurd c9 (by decide))
    refine xs_aload_n C0 d_Md_contact_54 rfl 1 rfl ?_
    refine xs_get (q := 36) (v := .int (nI n1)) C0 f_Md_114 d_Md_contact_55 rfl rfl ?_
    refine xs_bipush (v := 64) C0 d_Md_contact_58 (by decide) ?_
    refine xs_icmp_ne (tgt := 67) C0 d_Md_contact_60 (by decide) (fun c9 => absurd (show nI n1 = 64 by rw [show n1 = 64 by omega]; rfl) c9) (fun _ => ?_)
    refine xs_iconst (v := 2) C0 d_Md_contact_63 (by decide) ?_
    refine xs_goto (tgt := 68) C0 d_Md_contact_64 (by decide) ?_
    refine xs_put (ω' := (wd Q0 Q1 Q2 Q3 Q4 ql qr qk qo QS QT QF QH qt ++ (wM (f0, g0, nI n0) (f1, g1, nI n1) (f2, g2, nI n2) (f3, g3, nI n3) (f4, g4, nI n4) pl dr ki rl Z cl hc sl tk kp pa tr 2 ++ rest))) C0 f_Md_92 ty_Md_0 d_Md_contact_68 rfl (Nat.le_of_ble_eq_true rfl) (fun _ => ⟨rfl, rfl⟩) rfl ?_
    refine xs_aload_n C0 d_Md_contact_71 rfl 1 rfl ?_
    refine xs_get (q := 36) (v := .int 2) C0 f_Md_92 d_Md_contact_72 rfl rfl ?_
    refine xs_if_le (tgt := 80) C0 d_Md_contact_75 (by decide) (fun c9 => absurd c9 (by decide)) (fun _ => ?_)
    refine xs_iconst (v := 0) C0 d_Md_contact_78 (by decide) ?_
    exact xs_iret C0 d_Md_contact_79 (⟨rfl, rfl⟩) (Nat.le_of_ble_eq_true rfl) (Nat.le_of_ble_eq_true rfl)
  · refine xs_iload_n C0 d_Md_contact_23 rfl 2 rfl ?_
    refine xs_iconst (v := 0) C0 d_Md_contact_24 (by decide) ?_
    refine xs_aload_n C0 d_Md_contact_25 rfl 0 rfl ?_
    refine xs_get (q := 36) (v := .int (nI n0)) C0 f_Md_108 d_Md_contact_26 rfl rfl ?_
    refine xs_iconst (v := 1) C0 d_Md_contact_29 (by decide) ?_
    refine xs_isub C0 d_Md_contact_30 ?_
    refine xs_cS1 (ω' := (wd Q0 Q1 Q2 Q3 Q4 ql qr qk qo QS QT QF QH qt ++ (wM (f0, g0, nI n0) (f1, g1, nI n1) (f2, g2, nI n2) (f3, g3, nI n3) (f4, g4, nI n4) pl dr ki rl Z cl hc sl tk kp pa tr co ++ rest))) (av := [.int v, .int 0, .int ((nI n0) - 1)]) (st := []) (kc' := 0) (ks' := 0) (v := .int 1) C0 d_Md_contact_31 l_Md_96 (d_in1 _ v 0 ((nI n0) - 1) (hv.resolve_left c1)) rfl rfl rfl (Nat.le_of_ble_eq_true rfl) (Nat.le_of_ble_eq_true rfl) (Nat.le_of_ble_eq_true rfl) (Nat.le_of_ble_eq_true rfl) (Nat.le_of_ble_eq_true rfl) (Nat.le_of_ble_eq_true rfl) ?_
    refine xs_if_eq (tgt := 41) C0 d_Md_contact_34 (by decide) (fun c9 => absurd c9 (by decide)) (fun _ => ?_)
    refine xs_iconst (v := 1) C0 d_Md_contact_37 (by decide) ?_
    refine xs_goto (tgt := 42) C0 d_Md_contact_38 (by decide) ?_
    refine xs_istore (lv' := [(5, .int 1), (0, .ref 36), (1, .int u), (2, .int v), (3, .int a), (4, .int b)]) C0 d_Md_contact_42 (by decide) rfl ?_
    refine xs_aload_n C0 d_Md_contact_44 rfl 1 rfl ?_
    refine xs_iload C0 d_Md_contact_45 0 rfl ?_
    refine xs_if_ne (tgt := 54) C0 d_Md_contact_47 (by decide) (fun _ => ?_) (fun c9 => absurd c9 (by decide))
    refine xs_aload_n C0 d_Md_contact_54 rfl 1 rfl ?_
    refine xs_get (q := 36) (v := .int (nI n1)) C0 f_Md_114 d_Md_contact_55 rfl rfl ?_
    refine xs_bipush (v := 64) C0 d_Md_contact_58 (by decide) ?_
    refine xs_icmp_ne (tgt := 67) C0 d_Md_contact_60 (by decide) (fun c9 => absurd (show nI n1 = 64 by rw [show n1 = 64 by omega]; rfl) c9) (fun _ => ?_)
    refine xs_iconst (v := 2) C0 d_Md_contact_63 (by decide) ?_
    refine xs_goto (tgt := 68) C0 d_Md_contact_64 (by decide) ?_
    refine xs_put (ω' := (wd Q0 Q1 Q2 Q3 Q4 ql qr qk qo QS QT QF QH qt ++ (wM (f0, g0, nI n0) (f1, g1, nI n1) (f2, g2, nI n2) (f3, g3, nI n3) (f4, g4, nI n4) pl dr ki rl Z cl hc sl tk kp pa tr 2 ++ rest))) C0 f_Md_92 ty_Md_0 d_Md_contact_68 rfl (Nat.le_of_ble_eq_true rfl) (fun _ => ⟨rfl, rfl⟩) rfl ?_
    refine xs_aload_n C0 d_Md_contact_71 rfl 1 rfl ?_
    refine xs_get (q := 36) (v := .int 2) C0 f_Md_92 d_Md_contact_72 rfl rfl ?_
    refine xs_if_le (tgt := 80) C0 d_Md_contact_75 (by decide) (fun c9 => absurd c9 (by decide)) (fun _ => ?_)
    refine xs_iconst (v := 0) C0 d_Md_contact_78 (by decide) ?_
    exact xs_iret C0 d_Md_contact_79 (⟨rfl, rfl⟩) (Nat.le_of_ble_eq_true rfl) (Nat.le_of_ble_eq_true rfl)
set_option maxHeartbeats 4000000 in
set_option maxRecDepth 100000 in
theorem d_knob {Q0 Q1 Q2 Q3 Q4 : wt_P} {ql qr qk qo : Nat → Int32} {QS QT : wt_S} {QF : wt_F} {QH : wt_H} {qt : Int32} {B : wb} {rl : Nat → Int32} {Z : mt_S} {cl : Nat → Int32} {hc : mt_H} {sl tk : Int32} {kp : mt_K} {pa : Nat → Int32} {tr : mt_T} {co : Int32} {rest : xm_O} {a b : Int32} {Z1 : mt_S} {hc1 : mt_H} (hM : okM B rl) (hi : B.2.2.1.2.2 < 12) (hg : g2 a b) (hf : m_laf (b_add2 B a b) rl cl Z hc = (Z1, hc1)) : xm_M y_Md_knob (Cond.code y_Md_knob b_Md_knob 3 (some .int)) (xm_rm 4 0 0) [.ref 36, .int a, .int b] (wd Q0 Q1 Q2 Q3 Q4 ql qr qk qo QS QT QF QH qt ++ (wMB B rl Z cl hc sl tk kp pa tr co ++ rest)) (xm_eq (.inl (some (.int (nI B.2.2.1.2.2)))) (wd Q0 Q1 Q2 Q3 Q4 ql qr qk qo QS QT QF QH qt ++ (wMB (b_add2 B a b) rl Z1 cl hc1 sl tk kp pa tr 0 ++ rest))) := by
  obtain ⟨⟨f0, g0, n0⟩, ⟨f1, g1, n1⟩, ⟨f2, g2, n2⟩, ⟨f3, g3, n3⟩, ⟨f4, g4, n4⟩, pl, dr, ki, ow⟩ := B
  have hB := hM.1
  have hrl := hM.2
  obtain ⟨⟨h0, hp0⟩, ⟨h1, hp1⟩, ⟨h2, hp2⟩, ⟨h3, hp3⟩, ⟨h4, hp4⟩, hk⟩ := id hB
  dsimp only at h0 h1 h2 h3 h4 hp0 hp1 hp2 hp3 hp4 hk hrl
  dsimp only at hi
  refine xm_of (by decide) (Nat.le_of_ble_eq_true rfl) (fun E C0 => ?_)
  refine xs_eq (ω' := (wd Q0 Q1 Q2 Q3 Q4 ql qr qk qo QS QT QF QH qt ++ (wM (f0, g0, nI n0) (f1, g1, nI n1) (f2, g2, nI n2) (f3, g3, nI n3) (f4, g4, nI n4) pl dr ki rl Z cl hc sl tk kp pa tr co ++ rest))) (lv' := [(0, .ref 36), (1, .int a), (2, .int b)]) rfl rfl rfl ?_
  refine xs_aload_n C0 d_Md_knob_0 rfl 0 rfl ?_
  refine xs_iload_n C0 d_Md_knob_1 rfl 1 rfl ?_
  refine xs_iload_n C0 d_Md_knob_2 rfl 2 rfl ?_
  refine xs_cS1 (ω' := (wd Q0 Q1 Q2 Q3 Q4 ql qr qk qo QS QT QF QH qt ++ (wM (f0, g0, nI n0) (f1, g1, nI n1) (f2, g2, nI n2) (f3, g3, nI n3) (f4, g4, nI n4) pl dr ki rl Z cl hc sl tk kp pa tr co ++ rest))) (av := [.int a, .int b]) (st := [.ref 36]) (kc' := 0) (ks' := 0) (v := .int 1) C0 d_Md_knob_3 l_Md_104 (d_nn1 _ a b hg) rfl rfl rfl (Nat.le_of_ble_eq_true rfl) (Nat.le_of_ble_eq_true rfl) (Nat.le_of_ble_eq_true rfl) (Nat.le_of_ble_eq_true rfl) (Nat.le_of_ble_eq_true rfl) (Nat.le_of_ble_eq_true rfl) ?_
  refine xs_if_ne (tgt := 13) C0 d_Md_knob_6 (by decide) (fun _ => ?_) (fun c9 => absurd c9 (by decide))
  refine xs_aload_n C0 d_Md_knob_13 rfl 0 rfl ?_
  refine xs_get (q := 36) (v := .int (nI n2)) C0 f_Md_117 d_Md_knob_14 rfl rfl ?_
  refine xs_bipush (v := 12) C0 d_Md_knob_17 (by decide) ?_
  refine xs_icmp_ne (tgt := 26) C0 d_Md_knob_19 (by decide) (fun _ => ?_) (fun c9 => absurd (nI_48 (by omega) (show 12 < 48 by decide) c9) (by omega))
  refine xs_iconst (v := 0) C0 d_Md_knob_26 (by decide) ?_
  refine xs_put (ω' := (wd Q0 Q1 Q2 Q3 Q4 ql qr qk qo QS QT QF QH qt ++ (wM (f0, g0, nI n0) (f1, g1, nI n1) (f2, g2, nI n2) (f3, g3, nI n3) (f4, g4, nI n4) pl dr ki rl Z cl hc sl tk kp pa tr 0 ++ rest))) C0 f_Md_92 ty_Md_0 d_Md_knob_27 rfl (Nat.le_of_ble_eq_true rfl) (fun _ => ⟨rfl, rfl⟩) rfl ?_
  refine xs_aload_n C0 d_Md_knob_30 rfl 0 rfl ?_
  refine xs_get (q := 36) (v := .int 0) C0 f_Md_92 d_Md_knob_31 rfl rfl ?_
  refine xs_if_le (tgt := 39) C0 d_Md_knob_34 (by decide) (fun _ => ?_) (fun c9 => absurd c9 (by decide))
  refine xs_aload_n C0 d_Md_knob_39 rfl 0 rfl ?_
  refine xs_get (q := 36) (v := .ref 48) C0 f_Md_43 d_Md_knob_40 rfl rfl ?_
  refine xs_aload_n C0 d_Md_knob_43 rfl 0 rfl ?_
  refine xs_get (q := 36) (v := .int (nI n2)) C0 f_Md_117 d_Md_knob_44 rfl rfl ?_
  refine xs_iload_n C0 d_Md_knob_47 rfl 1 rfl ?_
  refine xs_iast (ω' := (wd Q0 Q1 Q2 Q3 Q4 ql qr qk qo QS QT QF QH qt ++ (wM (f0, g0, nI n0) (f1, g1, nI n1) (upd f2 (nI n2).toNatClampNeg a, g2, nI n2) (f3, g3, nI n3) (f4, g4, nI n4) pl dr ki rl Z cl hc sl tk kp pa tr 0 ++ rest))) C0 d_Md_knob_48 rfl (vp_in_nI hi (by decide)) rfl ?_
  refine xs_world (ω' := (wd Q0 Q1 Q2 Q3 Q4 ql qr qk qo QS QT QF QH qt ++ (wM (f0, g0, nI n0) (f1, g1, nI n1) (upd f2 n2 a, g2, nI n2) (f3, g3, nI n3) (f4, g4, nI n4) pl dr ki rl Z cl hc sl tk kp pa tr 0 ++ rest))) (by rw [nI_clamp (by omega)]) ?_
  refine xs_aload_n C0 d_Md_knob_49 rfl 0 rfl ?_
  refine xs_get (q := 36) (v := .ref 49) C0 f_Md_46 d_Md_knob_50 rfl rfl ?_
  refine xs_aload_n C0 d_Md_knob_53 rfl 0 rfl ?_
  refine xs_get (q := 36) (v := .int (nI n2)) C0 f_Md_117 d_Md_knob_54 rfl rfl ?_
  refine xs_iload_n C0 d_Md_knob_57 rfl 2 rfl ?_
  refine xs_pc (pc' := 58) rfl ?_
  refine xs_iast (ω' := (wd Q0 Q1 Q2 Q3 Q4 ql qr qk qo QS QT QF QH qt ++ (wM (f0, g0, nI n0) (f1, g1, nI n1) (upd f2 n2 a, upd g2 (nI n2).toNatClampNeg b, nI n2) (f3, g3, nI n3) (f4, g4, nI n4) pl dr ki rl Z cl hc sl tk kp pa tr 0 ++ rest))) C0 d_Md_knob_58 rfl (vp_in_nI hi (by decide)) rfl ?_
  refine xs_world (ω' := (wd Q0 Q1 Q2 Q3 Q4 ql qr qk qo QS QT QF QH qt ++ (wM (f0, g0, nI n0) (f1, g1, nI n1) (upd f2 n2 a, upd g2 n2 b, nI n2) (f3, g3, nI n3) (f4, g4, nI n4) pl dr ki rl Z cl hc sl tk kp pa tr 0 ++ rest))) (by rw [nI_clamp (by omega)]) ?_
  refine xs_aload_n C0 d_Md_knob_59 rfl 0 rfl ?_
  refine xs_dup C0 d_Md_knob_60 rfl ?_
  refine xs_get (q := 36) (v := .int (nI n2)) C0 f_Md_117 d_Md_knob_61 rfl rfl ?_
  refine xs_iconst (v := 1) C0 d_Md_knob_64 (by decide) ?_
  refine xs_iadd C0 d_Md_knob_65 ?_
  refine xs_top (v' := .int (nI (n2 + 1))) (by rw [nI_1]) ?_
  refine xs_put (ω' := (wd Q0 Q1 Q2 Q3 Q4 ql qr qk qo QS QT QF QH qt ++ (wM (f0, g0, nI n0) (f1, g1, nI n1) (upd f2 n2 a, upd g2 n2 b, (nI (n2 + 1))) (f3, g3, nI n3) (f4, g4, nI n4) pl dr ki rl Z cl hc sl tk kp pa tr 0 ++ rest))) C0 f_Md_117 ty_Md_3 d_Md_knob_66 rfl (Nat.le_of_ble_eq_true rfl) (fun _ => ⟨rfl, rfl⟩) rfl ?_
  refine xs_aload_n C0 d_Md_knob_69 rfl 0 rfl ?_
  refine xs_cV0 (ω' := (wd Q0 Q1 Q2 Q3 Q4 ql qr qk qo QS QT QF QH qt ++ (wM (f0, g0, nI n0) (f1, g1, nI n1) (upd f2 n2 a, upd g2 n2 b, (nI (n2 + 1))) (f3, g3, nI n3) (f4, g4, nI n4) pl dr ki rl Z1 cl hc1 sl tk kp pa tr 0 ++ rest))) (As := []) (st := []) (kc' := 0) (ks' := 0) C0 d_Md_knob_70 l_Md_111 rfl rfl (d_laf (B := b_add2 ((f0, g0, n0), (f1, g1, n1), (f2, g2, n2), (f3, g3, n3), (f4, g4, n4), pl, dr, ki, ow) a b) (rl := rl) (⟨okB_add2 hB hi hg, hM.2⟩) hf) rfl rfl rfl (Nat.le_of_ble_eq_true rfl) (Nat.le_of_ble_eq_true rfl) (Nat.le_of_ble_eq_true rfl) (Nat.le_of_ble_eq_true rfl) (Nat.le_of_ble_eq_true rfl) (Nat.le_of_ble_eq_true rfl) ?_
  refine xs_aload_n C0 d_Md_knob_73 rfl 0 rfl ?_
  refine xs_get (q := 36) (v := .int (nI (n2 + 1))) C0 f_Md_117 d_Md_knob_74 rfl rfl ?_
  refine xs_iconst (v := 1) C0 d_Md_knob_77 (by decide) ?_
  refine xs_pc (pc' := 78) rfl ?_
  refine xs_isub C0 d_Md_knob_78 ?_
  refine xs_top (v' := .int (nI n2)) (by rw [nI_pred]) ?_
  exact xs_iret C0 d_Md_knob_79 (⟨rfl, rfl⟩) (Nat.le_of_ble_eq_true rfl) (Nat.le_of_ble_eq_true rfl)
set_option maxHeartbeats 4000000 in
set_option maxRecDepth 100000 in
theorem d_knobT {Q0 Q1 Q2 Q3 Q4 : wt_P} {ql qr qk qo : Nat → Int32} {QS QT : wt_S} {QF : wt_F} {QH : wt_H} {qt : Int32} {B : wb} {rl : Nat → Int32} {Z : mt_S} {cl : Nat → Int32} {hc : mt_H} {sl tk : Int32} {kp : mt_K} {pa : Nat → Int32} {tr : mt_T} {co : Int32} {rest : xm_O} {a b : Int32} (hM : okM B rl) (h : ¬ g2 a b) : xm_M y_Md_knob (Cond.code y_Md_knob b_Md_knob 3 (some .int)) (xm_rm 4 0 0) [.ref 36, .int a, .int b] (wd Q0 Q1 Q2 Q3 Q4 ql qr qk qo QS QT QF QH qt ++ (wMB B rl Z cl hc sl tk kp pa tr co ++ rest)) (xm_eq (.inl (some (.int 0))) (wd Q0 Q1 Q2 Q3 Q4 ql qr qk qo QS QT QF QH qt ++ (wMB B rl Z cl hc sl tk kp pa tr 1 ++ rest))) := by
  obtain ⟨⟨f0, g0, n0⟩, ⟨f1, g1, n1⟩, ⟨f2, g2, n2⟩, ⟨f3, g3, n3⟩, ⟨f4, g4, n4⟩, pl, dr, ki, ow⟩ := B
  have hB := hM.1
  have hrl := hM.2
  obtain ⟨⟨h0, hp0⟩, ⟨h1, hp1⟩, ⟨h2, hp2⟩, ⟨h3, hp3⟩, ⟨h4, hp4⟩, hk⟩ := id hB
  dsimp only at h0 h1 h2 h3 h4 hp0 hp1 hp2 hp3 hp4 hk hrl
  refine xm_of (by decide) (Nat.le_of_ble_eq_true rfl) (fun E C0 => ?_)
  refine xs_eq (ω' := (wd Q0 Q1 Q2 Q3 Q4 ql qr qk qo QS QT QF QH qt ++ (wM (f0, g0, nI n0) (f1, g1, nI n1) (f2, g2, nI n2) (f3, g3, nI n3) (f4, g4, nI n4) pl dr ki rl Z cl hc sl tk kp pa tr co ++ rest))) (lv' := [(0, .ref 36), (1, .int a), (2, .int b)]) rfl rfl rfl ?_
  refine xs_aload_n C0 d_Md_knob_0 rfl 0 rfl ?_
  refine xs_iload_n C0 d_Md_knob_1 rfl 1 rfl ?_
  refine xs_iload_n C0 d_Md_knob_2 rfl 2 rfl ?_
  refine xs_cS1 (ω' := (wd Q0 Q1 Q2 Q3 Q4 ql qr qk qo QS QT QF QH qt ++ (wM (f0, g0, nI n0) (f1, g1, nI n1) (f2, g2, nI n2) (f3, g3, nI n3) (f4, g4, nI n4) pl dr ki rl Z cl hc sl tk kp pa tr co ++ rest))) (av := [.int a, .int b]) (st := [.ref 36]) (kc' := 0) (ks' := 0) (v := .int 0) C0 d_Md_knob_3 l_Md_104 (d_nn0 _ a b h) rfl rfl rfl (Nat.le_of_ble_eq_true rfl) (Nat.le_of_ble_eq_true rfl) (Nat.le_of_ble_eq_true rfl) (Nat.le_of_ble_eq_true rfl) (Nat.le_of_ble_eq_true rfl) (Nat.le_of_ble_eq_true rfl) ?_
  refine xs_if_ne (tgt := 13) C0 d_Md_knob_6 (by decide) (fun c9 => absurd c9 (by decide)) (fun _ => ?_)
  refine xs_iconst (v := 1) C0 d_Md_knob_9 (by decide) ?_
  refine xs_goto (tgt := 27) C0 d_Md_knob_10 (by decide) ?_
  refine xs_put (ω' := (wd Q0 Q1 Q2 Q3 Q4 ql qr qk qo QS QT QF QH qt ++ (wM (f0, g0, nI n0) (f1, g1, nI n1) (f2, g2, nI n2) (f3, g3, nI n3) (f4, g4, nI n4) pl dr ki rl Z cl hc sl tk kp pa tr 1 ++ rest))) C0 f_Md_92 ty_Md_0 d_Md_knob_27 rfl (Nat.le_of_ble_eq_true rfl) (fun _ => ⟨rfl, rfl⟩) rfl ?_
  refine xs_aload_n C0 d_Md_knob_30 rfl 0 rfl ?_
  refine xs_get (q := 36) (v := .int 1) C0 f_Md_92 d_Md_knob_31 rfl rfl ?_
  refine xs_if_le (tgt := 39) C0 d_Md_knob_34 (by decide) (fun c9 => absurd c9 (by decide)) (fun _ => ?_)
  refine xs_iconst (v := 0) C0 d_Md_knob_37 (by decide) ?_
  exact xs_iret C0 d_Md_knob_38 (⟨rfl, rfl⟩) (Nat.le_of_ble_eq_true rfl) (Nat.le_of_ble_eq_true rfl)
set_option maxHeartbeats 4000000 in
set_option maxRecDepth 100000 in
theorem d_knobX {Q0 Q1 Q2 Q3 Q4 : wt_P} {ql qr qk qo : Nat → Int32} {QS QT : wt_S} {QF : wt_F} {QH : wt_H} {qt : Int32} {B : wb} {rl : Nat → Int32} {Z : mt_S} {cl : Nat → Int32} {hc : mt_H} {sl tk : Int32} {kp : mt_K} {pa : Nat → Int32} {tr : mt_T} {co : Int32} {rest : xm_O} {a b : Int32} (hM : okM B rl) (hi : 12 ≤ B.2.2.1.2.2) (hg : g2 a b) : xm_M y_Md_knob (Cond.code y_Md_knob b_Md_knob 3 (some .int)) (xm_rm 4 0 0) [.ref 36, .int a, .int b] (wd Q0 Q1 Q2 Q3 Q4 ql qr qk qo QS QT QF QH qt ++ (wMB B rl Z cl hc sl tk kp pa tr co ++ rest)) (xm_eq (.inl (some (.int 0))) (wd Q0 Q1 Q2 Q3 Q4 ql qr qk qo QS QT QF QH qt ++ (wMB B rl Z cl hc sl tk kp pa tr 2 ++ rest))) := by
  obtain ⟨⟨f0, g0, n0⟩, ⟨f1, g1, n1⟩, ⟨f2, g2, n2⟩, ⟨f3, g3, n3⟩, ⟨f4, g4, n4⟩, pl, dr, ki, ow⟩ := B
  have hB := hM.1
  have hrl := hM.2
  obtain ⟨⟨h0, hp0⟩, ⟨h1, hp1⟩, ⟨h2, hp2⟩, ⟨h3, hp3⟩, ⟨h4, hp4⟩, hk⟩ := id hB
  dsimp only at h0 h1 h2 h3 h4 hp0 hp1 hp2 hp3 hp4 hk hrl
  dsimp only at hi
  refine xm_of (by decide) (Nat.le_of_ble_eq_true rfl) (fun E C0 => ?_)
  refine xs_eq (ω' := (wd Q0 Q1 Q2 Q3 Q4 ql qr qk qo QS QT QF QH qt ++ (wM (f0, g0, nI n0) (f1, g1, nI n1) (f2, g2, nI n2) (f3, g3, nI n3) (f4, g4, nI n4) pl dr ki rl Z cl hc sl tk kp pa tr co ++ rest))) (lv' := [(0, .ref 36), (1, .int a), (2, .int b)]) rfl rfl rfl ?_
  refine xs_aload_n C0 d_Md_knob_0 rfl 0 rfl ?_
  refine xs_iload_n C0 d_Md_knob_1 rfl 1 rfl ?_
  refine xs_iload_n C0 d_Md_knob_2 rfl 2 rfl ?_
  refine xs_cS1 (ω' := (wd Q0 Q1 Q2 Q3 Q4 ql qr qk qo QS QT QF QH qt ++ (wM (f0, g0, nI n0) (f1, g1, nI n1) (f2, g2, nI n2) (f3, g3, nI n3) (f4, g4, nI n4) pl dr ki rl Z cl hc sl tk kp pa tr co ++ rest))) (av := [.int a, .int b]) (st := [.ref 36]) (kc' := 0) (ks' := 0) (v := .int 1) C0 d_Md_knob_3 l_Md_104 (d_nn1 _ a b hg) rfl rfl rfl (Nat.le_of_ble_eq_true rfl) (Nat.le_of_ble_eq_true rfl) (Nat.le_of_ble_eq_true rfl) (Nat.le_of_ble_eq_true rfl) (Nat.le_of_ble_eq_true rfl) (Nat.le_of_ble_eq_true rfl) ?_
  refine xs_if_ne (tgt := 13) C0 d_Md_knob_6 (by decide) (fun _ => ?_) (fun c9 => absurd c9 (by decide))
  refine xs_aload_n C0 d_Md_knob_13 rfl 0 rfl ?_
  refine xs_get (q := 36) (v := .int (nI n2)) C0 f_Md_117 d_Md_knob_14 rfl rfl ?_
  refine xs_bipush (v := 12) C0 d_Md_knob_17 (by decide) ?_
  refine xs_icmp_ne (tgt := 26) C0 d_Md_knob_19 (by decide) (fun c9 => absurd (show nI n2 = 12 by rw [show n2 = 12 by omega]; rfl) c9) (fun _ => ?_)
  refine xs_iconst (v := 2) C0 d_Md_knob_22 (by decide) ?_
  refine xs_goto (tgt := 27) C0 d_Md_knob_23 (by decide) ?_
  refine xs_put (ω' := (wd Q0 Q1 Q2 Q3 Q4 ql qr qk qo QS QT QF QH qt ++ (wM (f0, g0, nI n0) (f1, g1, nI n1) (f2, g2, nI n2) (f3, g3, nI n3) (f4, g4, nI n4) pl dr ki rl Z cl hc sl tk kp pa tr 2 ++ rest))) C0 f_Md_92 ty_Md_0 d_Md_knob_27 rfl (Nat.le_of_ble_eq_true rfl) (fun _ => ⟨rfl, rfl⟩) rfl ?_
  refine xs_aload_n C0 d_Md_knob_30 rfl 0 rfl ?_
  refine xs_get (q := 36) (v := .int 2) C0 f_Md_92 d_Md_knob_31 rfl rfl ?_
  refine xs_if_le (tgt := 39) C0 d_Md_knob_34 (by decide) (fun c9 => absurd c9 (by decide)) (fun _ => ?_)
  refine xs_iconst (v := 0) C0 d_Md_knob_37 (by decide) ?_
  exact xs_iret C0 d_Md_knob_38 (⟨rfl, rfl⟩) (Nat.le_of_ble_eq_true rfl) (Nat.le_of_ble_eq_true rfl)
set_option maxHeartbeats 4000000 in
set_option maxRecDepth 100000 in
theorem d_diode {Q0 Q1 Q2 Q3 Q4 : wt_P} {ql qr qk qo : Nat → Int32} {QS QT : wt_S} {QF : wt_F} {QH : wt_H} {qt : Int32} {B : wb} {rl : Nat → Int32} {Z : mt_S} {cl : Nat → Int32} {hc : mt_H} {sl tk : Int32} {kp : mt_K} {pa : Nat → Int32} {tr : mt_T} {co : Int32} {rest : xm_O} {a b : Int32} {Z1 : mt_S} {hc1 : mt_H} (hM : okM B rl) (hi : B.2.2.2.1.2.2 < 24) (hg : g2 a b) (hf : m_laf (b_add3 B a b) rl cl Z hc = (Z1, hc1)) : xm_M y_Md_diode (Cond.code y_Md_diode b_Md_diode 3 (some .int)) (xm_rm 4 0 0) [.ref 36, .int a, .int b] (wd Q0 Q1 Q2 Q3 Q4 ql qr qk qo QS QT QF QH qt ++ (wMB B rl Z cl hc sl tk kp pa tr co ++ rest)) (xm_eq (.inl (some (.int (nI B.2.2.2.1.2.2)))) (wd Q0 Q1 Q2 Q3 Q4 ql qr qk qo QS QT QF QH qt ++ (wMB (b_add3 B a b) rl Z1 cl hc1 sl tk kp pa tr 0 ++ rest))) := by
  obtain ⟨⟨f0, g0, n0⟩, ⟨f1, g1, n1⟩, ⟨f2, g2, n2⟩, ⟨f3, g3, n3⟩, ⟨f4, g4, n4⟩, pl, dr, ki, ow⟩ := B
  have hB := hM.1
  have hrl := hM.2
  obtain ⟨⟨h0, hp0⟩, ⟨h1, hp1⟩, ⟨h2, hp2⟩, ⟨h3, hp3⟩, ⟨h4, hp4⟩, hk⟩ := id hB
  dsimp only at h0 h1 h2 h3 h4 hp0 hp1 hp2 hp3 hp4 hk hrl
  dsimp only at hi
  refine xm_of (by decide) (Nat.le_of_ble_eq_true rfl) (fun E C0 => ?_)
  refine xs_eq (ω' := (wd Q0 Q1 Q2 Q3 Q4 ql qr qk qo QS QT QF QH qt ++ (wM (f0, g0, nI n0) (f1, g1, nI n1) (f2, g2, nI n2) (f3, g3, nI n3) (f4, g4, nI n4) pl dr ki rl Z cl hc sl tk kp pa tr co ++ rest))) (lv' := [(0, .ref 36), (1, .int a), (2, .int b)]) rfl rfl rfl ?_
  refine xs_aload_n C0 d_Md_diode_0 rfl 0 rfl ?_
  refine xs_iload_n C0 d_Md_diode_1 rfl 1 rfl ?_
  refine xs_iload_n C0 d_Md_diode_2 rfl 2 rfl ?_
  refine xs_cS1 (ω' := (wd Q0 Q1 Q2 Q3 Q4 ql qr qk qo QS QT QF QH qt ++ (wM (f0, g0, nI n0) (f1, g1, nI n1) (f2, g2, nI n2) (f3, g3, nI n3) (f4, g4, nI n4) pl dr ki rl Z cl hc sl tk kp pa tr co ++ rest))) (av := [.int a, .int b]) (st := [.ref 36]) (kc' := 0) (ks' := 0) (v := .int 1) C0 d_Md_diode_3 l_Md_104 (d_nn1 _ a b hg) rfl rfl rfl (Nat.le_of_ble_eq_true rfl) (Nat.le_of_ble_eq_true rfl) (Nat.le_of_ble_eq_true rfl) (Nat.le_of_ble_eq_true rfl) (Nat.le_of_ble_eq_true rfl) (Nat.le_of_ble_eq_true rfl) ?_
  refine xs_if_ne (tgt := 13) C0 d_Md_diode_6 (by decide) (fun _ => ?_) (fun c9 => absurd c9 (by decide))
  refine xs_aload_n C0 d_Md_diode_13 rfl 0 rfl ?_
  refine xs_get (q := 36) (v := .int (nI n3)) C0 f_Md_120 d_Md_diode_14 rfl rfl ?_
  refine xs_bipush (v := 24) C0 d_Md_diode_17 (by decide) ?_
  refine xs_icmp_ne (tgt := 26) C0 d_Md_diode_19 (by decide) (fun _ => ?_) (fun c9 => absurd (nI_48 (by omega) (show 24 < 48 by decide) c9) (by omega))
  refine xs_iconst (v := 0) C0 d_Md_diode_26 (by decide) ?_
  refine xs_put (ω' := (wd Q0 Q1 Q2 Q3 Q4 ql qr qk qo QS QT QF QH qt ++ (wM (f0, g0, nI n0) (f1, g1, nI n1) (f2, g2, nI n2) (f3, g3, nI n3) (f4, g4, nI n4) pl dr ki rl Z cl hc sl tk kp pa tr 0 ++ rest))) C0 f_Md_92 ty_Md_0 d_Md_diode_27 rfl (Nat.le_of_ble_eq_true rfl) (fun _ => ⟨rfl, rfl⟩) rfl ?_
  refine xs_aload_n C0 d_Md_diode_30 rfl 0 rfl ?_
  refine xs_get (q := 36) (v := .int 0) C0 f_Md_92 d_Md_diode_31 rfl rfl ?_
  refine xs_if_le (tgt := 39) C0 d_Md_diode_34 (by decide) (fun _ => ?_) (fun c9 => absurd c9 (by decide))
  refine xs_aload_n C0 d_Md_diode_39 rfl 0 rfl ?_
  refine xs_get (q := 36) (v := .ref 51) C0 f_Md_53 d_Md_diode_40 rfl rfl ?_
  refine xs_aload_n C0 d_Md_diode_43 rfl 0 rfl ?_
  refine xs_get (q := 36) (v := .int (nI n3)) C0 f_Md_120 d_Md_diode_44 rfl rfl ?_
  refine xs_iload_n C0 d_Md_diode_47 rfl 1 rfl ?_
  refine xs_iast (ω' := (wd Q0 Q1 Q2 Q3 Q4 ql qr qk qo QS QT QF QH qt ++ (wM (f0, g0, nI n0) (f1, g1, nI n1) (f2, g2, nI n2) (upd f3 (nI n3).toNatClampNeg a, g3, nI n3) (f4, g4, nI n4) pl dr ki rl Z cl hc sl tk kp pa tr 0 ++ rest))) C0 d_Md_diode_48 rfl (vp_in_nI hi (by decide)) rfl ?_
  refine xs_world (ω' := (wd Q0 Q1 Q2 Q3 Q4 ql qr qk qo QS QT QF QH qt ++ (wM (f0, g0, nI n0) (f1, g1, nI n1) (f2, g2, nI n2) (upd f3 n3 a, g3, nI n3) (f4, g4, nI n4) pl dr ki rl Z cl hc sl tk kp pa tr 0 ++ rest))) (by rw [nI_clamp (by omega)]) ?_
  refine xs_aload_n C0 d_Md_diode_49 rfl 0 rfl ?_
  refine xs_get (q := 36) (v := .ref 52) C0 f_Md_56 d_Md_diode_50 rfl rfl ?_
  refine xs_aload_n C0 d_Md_diode_53 rfl 0 rfl ?_
  refine xs_get (q := 36) (v := .int (nI n3)) C0 f_Md_120 d_Md_diode_54 rfl rfl ?_
  refine xs_iload_n C0 d_Md_diode_57 rfl 2 rfl ?_
  refine xs_pc (pc' := 58) rfl ?_
  refine xs_iast (ω' := (wd Q0 Q1 Q2 Q3 Q4 ql qr qk qo QS QT QF QH qt ++ (wM (f0, g0, nI n0) (f1, g1, nI n1) (f2, g2, nI n2) (upd f3 n3 a, upd g3 (nI n3).toNatClampNeg b, nI n3) (f4, g4, nI n4) pl dr ki rl Z cl hc sl tk kp pa tr 0 ++ rest))) C0 d_Md_diode_58 rfl (vp_in_nI hi (by decide)) rfl ?_
  refine xs_world (ω' := (wd Q0 Q1 Q2 Q3 Q4 ql qr qk qo QS QT QF QH qt ++ (wM (f0, g0, nI n0) (f1, g1, nI n1) (f2, g2, nI n2) (upd f3 n3 a, upd g3 n3 b, nI n3) (f4, g4, nI n4) pl dr ki rl Z cl hc sl tk kp pa tr 0 ++ rest))) (by rw [nI_clamp (by omega)]) ?_
  refine xs_aload_n C0 d_Md_diode_59 rfl 0 rfl ?_
  refine xs_dup C0 d_Md_diode_60 rfl ?_
  refine xs_get (q := 36) (v := .int (nI n3)) C0 f_Md_120 d_Md_diode_61 rfl rfl ?_
  refine xs_iconst (v := 1) C0 d_Md_diode_64 (by decide) ?_
  refine xs_iadd C0 d_Md_diode_65 ?_
  refine xs_top (v' := .int (nI (n3 + 1))) (by rw [nI_1]) ?_
  refine xs_put (ω' := (wd Q0 Q1 Q2 Q3 Q4 ql qr qk qo QS QT QF QH qt ++ (wM (f0, g0, nI n0) (f1, g1, nI n1) (f2, g2, nI n2) (upd f3 n3 a, upd g3 n3 b, (nI (n3 + 1))) (f4, g4, nI n4) pl dr ki rl Z cl hc sl tk kp pa tr 0 ++ rest))) C0 f_Md_120 ty_Md_4 d_Md_diode_66 rfl (Nat.le_of_ble_eq_true rfl) (fun _ => ⟨rfl, rfl⟩) rfl ?_
  refine xs_aload_n C0 d_Md_diode_69 rfl 0 rfl ?_
  refine xs_cV0 (ω' := (wd Q0 Q1 Q2 Q3 Q4 ql qr qk qo QS QT QF QH qt ++ (wM (f0, g0, nI n0) (f1, g1, nI n1) (f2, g2, nI n2) (upd f3 n3 a, upd g3 n3 b, (nI (n3 + 1))) (f4, g4, nI n4) pl dr ki rl Z1 cl hc1 sl tk kp pa tr 0 ++ rest))) (As := []) (st := []) (kc' := 0) (ks' := 0) C0 d_Md_diode_70 l_Md_111 rfl rfl (d_laf (B := b_add3 ((f0, g0, n0), (f1, g1, n1), (f2, g2, n2), (f3, g3, n3), (f4, g4, n4), pl, dr, ki, ow) a b) (rl := rl) (⟨okB_add3 hB hi hg, hM.2⟩) hf) rfl rfl rfl (Nat.le_of_ble_eq_true rfl) (Nat.le_of_ble_eq_true rfl) (Nat.le_of_ble_eq_true rfl) (Nat.le_of_ble_eq_true rfl) (Nat.le_of_ble_eq_true rfl) (Nat.le_of_ble_eq_true rfl) ?_
  refine xs_aload_n C0 d_Md_diode_73 rfl 0 rfl ?_
  refine xs_get (q := 36) (v := .int (nI (n3 + 1))) C0 f_Md_120 d_Md_diode_74 rfl rfl ?_
  refine xs_iconst (v := 1) C0 d_Md_diode_77 (by decide) ?_
  refine xs_pc (pc' := 78) rfl ?_
  refine xs_isub C0 d_Md_diode_78 ?_
  refine xs_top (v' := .int (nI n3)) (by rw [nI_pred]) ?_
  exact xs_iret C0 d_Md_diode_79 (⟨rfl, rfl⟩) (Nat.le_of_ble_eq_true rfl) (Nat.le_of_ble_eq_true rfl)
set_option maxHeartbeats 4000000 in
set_option maxRecDepth 100000 in
theorem d_diodeT {Q0 Q1 Q2 Q3 Q4 : wt_P} {ql qr qk qo : Nat → Int32} {QS QT : wt_S} {QF : wt_F} {QH : wt_H} {qt : Int32} {B : wb} {rl : Nat → Int32} {Z : mt_S} {cl : Nat → Int32} {hc : mt_H} {sl tk : Int32} {kp : mt_K} {pa : Nat → Int32} {tr : mt_T} {co : Int32} {rest : xm_O} {a b : Int32} (hM : okM B rl) (h : ¬ g2 a b) : xm_M y_Md_diode (Cond.code y_Md_diode b_Md_diode 3 (some .int)) (xm_rm 4 0 0) [.ref 36, .int a, .int b] (wd Q0 Q1 Q2 Q3 Q4 ql qr qk qo QS QT QF QH qt ++ (wMB B rl Z cl hc sl tk kp pa tr co ++ rest)) (xm_eq (.inl (some (.int 0))) (wd Q0 Q1 Q2 Q3 Q4 ql qr qk qo QS QT QF QH qt ++ (wMB B rl Z cl hc sl tk kp pa tr 1 ++ rest))) := by
  obtain ⟨⟨f0, g0, n0⟩, ⟨f1, g1, n1⟩, ⟨f2, g2, n2⟩, ⟨f3, g3, n3⟩, ⟨f4, g4, n4⟩, pl, dr, ki, ow⟩ := B
  have hB := hM.1
  have hrl := hM.2
  obtain ⟨⟨h0, hp0⟩, ⟨h1, hp1⟩, ⟨h2, hp2⟩, ⟨h3, hp3⟩, ⟨h4, hp4⟩, hk⟩ := id hB
  dsimp only at h0 h1 h2 h3 h4 hp0 hp1 hp2 hp3 hp4 hk hrl
  refine xm_of (by decide) (Nat.le_of_ble_eq_true rfl) (fun E C0 => ?_)
  refine xs_eq (ω' := (wd Q0 Q1 Q2 Q3 Q4 ql qr qk qo QS QT QF QH qt ++ (wM (f0, g0, nI n0) (f1, g1, nI n1) (f2, g2, nI n2) (f3, g3, nI n3) (f4, g4, nI n4) pl dr ki rl Z cl hc sl tk kp pa tr co ++ rest))) (lv' := [(0, .ref 36), (1, .int a), (2, .int b)]) rfl rfl rfl ?_
  refine xs_aload_n C0 d_Md_diode_0 rfl 0 rfl ?_
  refine xs_iload_n C0 d_Md_diode_1 rfl 1 rfl ?_
  refine xs_iload_n C0 d_Md_diode_2 rfl 2 rfl ?_
  refine xs_cS1 (ω' := (wd Q0 Q1 Q2 Q3 Q4 ql qr qk qo QS QT QF QH qt ++ (wM (f0, g0, nI n0) (f1, g1, nI n1) (f2, g2, nI n2) (f3, g3, nI n3) (f4, g4, nI n4) pl dr ki rl Z cl hc sl tk kp pa tr co ++ rest))) (av := [.int a, .int b]) (st := [.ref 36]) (kc' := 0) (ks' := 0) (v := .int 0) C0 d_Md_diode_3 l_Md_104 (d_nn0 _ a b h) rfl rfl rfl (Nat.le_of_ble_eq_true rfl) (Nat.le_of_ble_eq_true rfl) (Nat.le_of_ble_eq_true rfl) (Nat.le_of_ble_eq_true rfl) (Nat.le_of_ble_eq_true rfl) (Nat.le_of_ble_eq_true rfl) ?_
  refine xs_if_ne (tgt := 13) C0 d_Md_diode_6 (by decide) (fun c9 => absurd c9 (by decide)) (fun _ => ?_)
  refine xs_iconst (v := 1) C0 d_Md_diode_9 (by decide) ?_
  refine xs_goto (tgt := 27) C0 d_Md_diode_10 (by decide) ?_
  refine xs_put (ω' := (wd Q0 Q1 Q2 Q3 Q4 ql qr qk qo QS QT QF QH qt ++ (wM (f0, g0, nI n0) (f1, g1, nI n1) (f2, g2, nI n2) (f3, g3, nI n3) (f4, g4, nI n4) pl dr ki rl Z cl hc sl tk kp pa tr 1 ++ rest))) C0 f_Md_92 ty_Md_0 d_Md_diode_27 rfl (Nat.le_of_ble_eq_true rfl) (fun _ => ⟨rfl, rfl⟩) rfl ?_
  refine xs_aload_n C0 d_Md_diode_30 rfl 0 rfl ?_
  refine xs_get (q := 36) (v := .int 1) C0 f_Md_92 d_Md_diode_31 rfl rfl ?_
  refine xs_if_le (tgt := 39) C0 d_Md_diode_34 (by decide) (fun c9 => absurd c9 (by decide)) (fun _ => ?_)
  refine xs_iconst (v := 0) C0 d_Md_diode_37 (by decide) ?_
  exact xs_iret C0 d_Md_diode_38 (⟨rfl, rfl⟩) (Nat.le_of_ble_eq_true rfl) (Nat.le_of_ble_eq_true rfl)
set_option maxHeartbeats 4000000 in
set_option maxRecDepth 100000 in
theorem d_diodeX {Q0 Q1 Q2 Q3 Q4 : wt_P} {ql qr qk qo : Nat → Int32} {QS QT : wt_S} {QF : wt_F} {QH : wt_H} {qt : Int32} {B : wb} {rl : Nat → Int32} {Z : mt_S} {cl : Nat → Int32} {hc : mt_H} {sl tk : Int32} {kp : mt_K} {pa : Nat → Int32} {tr : mt_T} {co : Int32} {rest : xm_O} {a b : Int32} (hM : okM B rl) (hi : 24 ≤ B.2.2.2.1.2.2) (hg : g2 a b) : xm_M y_Md_diode (Cond.code y_Md_diode b_Md_diode 3 (some .int)) (xm_rm 4 0 0) [.ref 36, .int a, .int b] (wd Q0 Q1 Q2 Q3 Q4 ql qr qk qo QS QT QF QH qt ++ (wMB B rl Z cl hc sl tk kp pa tr co ++ rest)) (xm_eq (.inl (some (.int 0))) (wd Q0 Q1 Q2 Q3 Q4 ql qr qk qo QS QT QF QH qt ++ (wMB B rl Z cl hc sl tk kp pa tr 2 ++ rest))) := by
  obtain ⟨⟨f0, g0, n0⟩, ⟨f1, g1, n1⟩, ⟨f2, g2, n2⟩, ⟨f3, g3, n3⟩, ⟨f4, g4, n4⟩, pl, dr, ki, ow⟩ := B
  have hB := hM.1
  have hrl := hM.2
  obtain ⟨⟨h0, hp0⟩, ⟨h1, hp1⟩, ⟨h2, hp2⟩, ⟨h3, hp3⟩, ⟨h4, hp4⟩, hk⟩ := id hB
  dsimp only at h0 h1 h2 h3 h4 hp0 hp1 hp2 hp3 hp4 hk hrl
  dsimp only at hi
  refine xm_of (by decide) (Nat.le_of_ble_eq_true rfl) (fun E C0 => ?_)
  refine xs_eq (ω' := (wd Q0 Q1 Q2 Q3 Q4 ql qr qk qo QS QT QF QH qt ++ (wM (f0, g0, nI n0) (f1, g1, nI n1) (f2, g2, nI n2) (f3, g3, nI n3) (f4, g4, nI n4) pl dr ki rl Z cl hc sl tk kp pa tr co ++ rest))) (lv' := [(0, .ref 36), (1, .int a), (2, .int b)]) rfl rfl rfl ?_
  refine xs_aload_n C0 d_Md_diode_0 rfl 0 rfl ?_
  refine xs_iload_n C0 d_Md_diode_1 rfl 1 rfl ?_
  refine xs_iload_n C0 d_Md_diode_2 rfl 2 rfl ?_
  refine xs_cS1 (ω' := (wd Q0 Q1 Q2 Q3 Q4 ql qr qk qo QS QT QF QH qt ++ (wM (f0, g0, nI n0) (f1, g1, nI n1) (f2, g2, nI n2) (f3, g3, nI n3) (f4, g4, nI n4) pl dr ki rl Z cl hc sl tk kp pa tr co ++ rest))) (av := [.int a, .int b]) (st := [.ref 36]) (kc' := 0) (ks' := 0) (v := .int 1) C0 d_Md_diode_3 l_Md_104 (d_nn1 _ a b hg) rfl rfl rfl (Nat.le_of_ble_eq_true rfl) (Nat.le_of_ble_eq_true rfl) (Nat.le_of_ble_eq_true rfl) (Nat.le_of_ble_eq_true rfl) (Nat.le_of_ble_eq_true rfl) (Nat.le_of_ble_eq_true rfl) ?_
  refine xs_if_ne (tgt := 13) C0 d_Md_diode_6 (by decide) (fun _ => ?_) (fun c9 => absurd c9 (by decide))
  refine xs_aload_n C0 d_Md_diode_13 rfl 0 rfl ?_
  refine xs_get (q := 36) (v := .int (nI n3)) C0 f_Md_120 d_Md_diode_14 rfl rfl ?_
  refine xs_bipush (v := 24) C0 d_Md_diode_17 (by decide) ?_
  refine xs_icmp_ne (tgt := 26) C0 d_Md_diode_19 (by decide) (fun c9 => absurd (show nI n3 = 24 by rw [show n3 = 24 by omega]; rfl) c9) (fun _ => ?_)
  refine xs_iconst (v := 2) C0 d_Md_diode_22 (by decide) ?_
  refine xs_goto (tgt := 27) C0 d_Md_diode_23 (by decide) ?_
  refine xs_put (ω' := (wd Q0 Q1 Q2 Q3 Q4 ql qr qk qo QS QT QF QH qt ++ (wM (f0, g0, nI n0) (f1, g1, nI n1) (f2, g2, nI n2) (f3, g3, nI n3) (f4, g4, nI n4) pl dr ki rl Z cl hc sl tk kp pa tr 2 ++ rest))) C0 f_Md_92 ty_Md_0 d_Md_diode_27 rfl (Nat.le_of_ble_eq_true rfl) (fun _ => ⟨rfl, rfl⟩) rfl ?_
  refine xs_aload_n C0 d_Md_diode_30 rfl 0 rfl ?_
  refine xs_get (q := 36) (v := .int 2) C0 f_Md_92 d_Md_diode_31 rfl rfl ?_
  refine xs_if_le (tgt := 39) C0 d_Md_diode_34 (by decide) (fun c9 => absurd c9 (by decide)) (fun _ => ?_)
  refine xs_iconst (v := 0) C0 d_Md_diode_37 (by decide) ?_
  exact xs_iret C0 d_Md_diode_38 (⟨rfl, rfl⟩) (Nat.le_of_ble_eq_true rfl) (Nat.le_of_ble_eq_true rfl)
set_option maxHeartbeats 4000000 in
set_option maxRecDepth 100000 in
theorem d_lamp {Q0 Q1 Q2 Q3 Q4 : wt_P} {ql qr qk qo : Nat → Int32} {QS QT : wt_S} {QF : wt_F} {QH : wt_H} {qt : Int32} {B : wb} {rl : Nat → Int32} {Z : mt_S} {cl : Nat → Int32} {hc : mt_H} {sl tk : Int32} {kp : mt_K} {pa : Nat → Int32} {tr : mt_T} {co : Int32} {rest : xm_O} {a b : Int32} {Z1 : mt_S} {hc1 : mt_H} (hM : okM B rl) (hi : B.2.2.2.2.1.2.2 < 12) (hg : g2 a b) (hf : m_laf (b_add4 B a b) rl cl Z hc = (Z1, hc1)) : xm_M y_Md_lamp (Cond.code y_Md_lamp b_Md_lamp 3 (some .int)) (xm_rm 4 0 0) [.ref 36, .int a, .int b] (wd Q0 Q1 Q2 Q3 Q4 ql qr qk qo QS QT QF QH qt ++ (wMB B rl Z cl hc sl tk kp pa tr co ++ rest)) (xm_eq (.inl (some (.int (nI B.2.2.2.2.1.2.2)))) (wd Q0 Q1 Q2 Q3 Q4 ql qr qk qo QS QT QF QH qt ++ (wMB (b_add4 B a b) rl Z1 cl hc1 sl tk kp pa tr 0 ++ rest))) := by
  obtain ⟨⟨f0, g0, n0⟩, ⟨f1, g1, n1⟩, ⟨f2, g2, n2⟩, ⟨f3, g3, n3⟩, ⟨f4, g4, n4⟩, pl, dr, ki, ow⟩ := B
  have hB := hM.1
  have hrl := hM.2
  obtain ⟨⟨h0, hp0⟩, ⟨h1, hp1⟩, ⟨h2, hp2⟩, ⟨h3, hp3⟩, ⟨h4, hp4⟩, hk⟩ := id hB
  dsimp only at h0 h1 h2 h3 h4 hp0 hp1 hp2 hp3 hp4 hk hrl
  dsimp only at hi
  refine xm_of (by decide) (Nat.le_of_ble_eq_true rfl) (fun E C0 => ?_)
  refine xs_eq (ω' := (wd Q0 Q1 Q2 Q3 Q4 ql qr qk qo QS QT QF QH qt ++ (wM (f0, g0, nI n0) (f1, g1, nI n1) (f2, g2, nI n2) (f3, g3, nI n3) (f4, g4, nI n4) pl dr ki rl Z cl hc sl tk kp pa tr co ++ rest))) (lv' := [(0, .ref 36), (1, .int a), (2, .int b)]) rfl rfl rfl ?_
  refine xs_aload_n C0 d_Md_lamp_0 rfl 0 rfl ?_
  refine xs_iload_n C0 d_Md_lamp_1 rfl 1 rfl ?_
  refine xs_iload_n C0 d_Md_lamp_2 rfl 2 rfl ?_
  refine xs_cS1 (ω' := (wd Q0 Q1 Q2 Q3 Q4 ql qr qk qo QS QT QF QH qt ++ (wM (f0, g0, nI n0) (f1, g1, nI n1) (f2, g2, nI n2) (f3, g3, nI n3) (f4, g4, nI n4) pl dr ki rl Z cl hc sl tk kp pa tr co ++ rest))) (av := [.int a, .int b]) (st := [.ref 36]) (kc' := 0) (ks' := 0) (v := .int 1) C0 d_Md_lamp_3 l_Md_104 (d_nn1 _ a b hg) rfl rfl rfl (Nat.le_of_ble_eq_true rfl) (Nat.le_of_ble_eq_true rfl) (Nat.le_of_ble_eq_true rfl) (Nat.le_of_ble_eq_true rfl) (Nat.le_of_ble_eq_true rfl) (Nat.le_of_ble_eq_true rfl) ?_
  refine xs_if_ne (tgt := 13) C0 d_Md_lamp_6 (by decide) (fun _ => ?_) (fun c9 => absurd c9 (by decide))
  refine xs_aload_n C0 d_Md_lamp_13 rfl 0 rfl ?_
  refine xs_get (q := 36) (v := .int (nI n4)) C0 f_Md_123 d_Md_lamp_14 rfl rfl ?_
  refine xs_bipush (v := 12) C0 d_Md_lamp_17 (by decide) ?_
  refine xs_icmp_ne (tgt := 26) C0 d_Md_lamp_19 (by decide) (fun _ => ?_) (fun c9 => absurd (nI_48 (by omega) (show 12 < 48 by decide) c9) (by omega))
  refine xs_iconst (v := 0) C0 d_Md_lamp_26 (by decide) ?_
  refine xs_put (ω' := (wd Q0 Q1 Q2 Q3 Q4 ql qr qk qo QS QT QF QH qt ++ (wM (f0, g0, nI n0) (f1, g1, nI n1) (f2, g2, nI n2) (f3, g3, nI n3) (f4, g4, nI n4) pl dr ki rl Z cl hc sl tk kp pa tr 0 ++ rest))) C0 f_Md_92 ty_Md_0 d_Md_lamp_27 rfl (Nat.le_of_ble_eq_true rfl) (fun _ => ⟨rfl, rfl⟩) rfl ?_
  refine xs_aload_n C0 d_Md_lamp_30 rfl 0 rfl ?_
  refine xs_get (q := 36) (v := .int 0) C0 f_Md_92 d_Md_lamp_31 rfl rfl ?_
  refine xs_if_le (tgt := 39) C0 d_Md_lamp_34 (by decide) (fun _ => ?_) (fun c9 => absurd c9 (by decide))
  refine xs_aload_n C0 d_Md_lamp_39 rfl 0 rfl ?_
  refine xs_get (q := 36) (v := .ref 53) C0 f_Md_59 d_Md_lamp_40 rfl rfl ?_
  refine xs_aload_n C0 d_Md_lamp_43 rfl 0 rfl ?_
  refine xs_get (q := 36) (v := .int (nI n4)) C0 f_Md_123 d_Md_lamp_44 rfl rfl ?_
  refine xs_iload_n C0 d_Md_lamp_47 rfl 1 rfl ?_
  refine xs_iast (ω' := (wd Q0 Q1 Q2 Q3 Q4 ql qr qk qo QS QT QF QH qt ++ (wM (f0, g0, nI n0) (f1, g1, nI n1) (f2, g2, nI n2) (f3, g3, nI n3) (upd f4 (nI n4).toNatClampNeg a, g4, nI n4) pl dr ki rl Z cl hc sl tk kp pa tr 0 ++ rest))) C0 d_Md_lamp_48 rfl (vp_in_nI hi (by decide)) rfl ?_
  refine xs_world (ω' := (wd Q0 Q1 Q2 Q3 Q4 ql qr qk qo QS QT QF QH qt ++ (wM (f0, g0, nI n0) (f1, g1, nI n1) (f2, g2, nI n2) (f3, g3, nI n3) (upd f4 n4 a, g4, nI n4) pl dr ki rl Z cl hc sl tk kp pa tr 0 ++ rest))) (by rw [nI_clamp (by omega)]) ?_
  refine xs_aload_n C0 d_Md_lamp_49 rfl 0 rfl ?_
  refine xs_get (q := 36) (v := .ref 54) C0 f_Md_62 d_Md_lamp_50 rfl rfl ?_
  refine xs_aload_n C0 d_Md_lamp_53 rfl 0 rfl ?_
  refine xs_get (q := 36) (v := .int (nI n4)) C0 f_Md_123 d_Md_lamp_54 rfl rfl ?_
  refine xs_iload_n C0 d_Md_lamp_57 rfl 2 rfl ?_
  refine xs_pc (pc' := 58) rfl ?_
  refine xs_iast (ω' := (wd Q0 Q1 Q2 Q3 Q4 ql qr qk qo QS QT QF QH qt ++ (wM (f0, g0, nI n0) (f1, g1, nI n1) (f2, g2, nI n2) (f3, g3, nI n3) (upd f4 n4 a, upd g4 (nI n4).toNatClampNeg b, nI n4) pl dr ki rl Z cl hc sl tk kp pa tr 0 ++ rest))) C0 d_Md_lamp_58 rfl (vp_in_nI hi (by decide)) rfl ?_
  refine xs_world (ω' := (wd Q0 Q1 Q2 Q3 Q4 ql qr qk qo QS QT QF QH qt ++ (wM (f0, g0, nI n0) (f1, g1, nI n1) (f2, g2, nI n2) (f3, g3, nI n3) (upd f4 n4 a, upd g4 n4 b, nI n4) pl dr ki rl Z cl hc sl tk kp pa tr 0 ++ rest))) (by rw [nI_clamp (by omega)]) ?_
  refine xs_aload_n C0 d_Md_lamp_59 rfl 0 rfl ?_
  refine xs_dup C0 d_Md_lamp_60 rfl ?_
  refine xs_get (q := 36) (v := .int (nI n4)) C0 f_Md_123 d_Md_lamp_61 rfl rfl ?_
  refine xs_iconst (v := 1) C0 d_Md_lamp_64 (by decide) ?_
  refine xs_iadd C0 d_Md_lamp_65 ?_
  refine xs_top (v' := .int (nI (n4 + 1))) (by rw [nI_1]) ?_
  refine xs_put (ω' := (wd Q0 Q1 Q2 Q3 Q4 ql qr qk qo QS QT QF QH qt ++ (wM (f0, g0, nI n0) (f1, g1, nI n1) (f2, g2, nI n2) (f3, g3, nI n3) (upd f4 n4 a, upd g4 n4 b, (nI (n4 + 1))) pl dr ki rl Z cl hc sl tk kp pa tr 0 ++ rest))) C0 f_Md_123 ty_Md_5 d_Md_lamp_66 rfl (Nat.le_of_ble_eq_true rfl) (fun _ => ⟨rfl, rfl⟩) rfl ?_
  refine xs_aload_n C0 d_Md_lamp_69 rfl 0 rfl ?_
  refine xs_cV0 (ω' := (wd Q0 Q1 Q2 Q3 Q4 ql qr qk qo QS QT QF QH qt ++ (wM (f0, g0, nI n0) (f1, g1, nI n1) (f2, g2, nI n2) (f3, g3, nI n3) (upd f4 n4 a, upd g4 n4 b, (nI (n4 + 1))) pl dr ki rl Z1 cl hc1 sl tk kp pa tr 0 ++ rest))) (As := []) (st := []) (kc' := 0) (ks' := 0) C0 d_Md_lamp_70 l_Md_111 rfl rfl (d_laf (B := b_add4 ((f0, g0, n0), (f1, g1, n1), (f2, g2, n2), (f3, g3, n3), (f4, g4, n4), pl, dr, ki, ow) a b) (rl := rl) (⟨okB_add4 hB hi hg, hM.2⟩) hf) rfl rfl rfl (Nat.le_of_ble_eq_true rfl) (Nat.le_of_ble_eq_true rfl) (Nat.le_of_ble_eq_true rfl) (Nat.le_of_ble_eq_true rfl) (Nat.le_of_ble_eq_true rfl) (Nat.le_of_ble_eq_true rfl) ?_
  refine xs_aload_n C0 d_Md_lamp_73 rfl 0 rfl ?_
  refine xs_get (q := 36) (v := .int (nI (n4 + 1))) C0 f_Md_123 d_Md_lamp_74 rfl rfl ?_
  refine xs_iconst (v := 1) C0 d_Md_lamp_77 (by decide) ?_
  refine xs_pc (pc' := 78) rfl ?_
  refine xs_isub C0 d_Md_lamp_78 ?_
  refine xs_top (v' := .int (nI n4)) (by rw [nI_pred]) ?_
  exact xs_iret C0 d_Md_lamp_79 (⟨rfl, rfl⟩) (Nat.le_of_ble_eq_true rfl) (Nat.le_of_ble_eq_true rfl)
set_option maxHeartbeats 4000000 in
set_option maxRecDepth 100000 in
theorem d_lampT {Q0 Q1 Q2 Q3 Q4 : wt_P} {ql qr qk qo : Nat → Int32} {QS QT : wt_S} {QF : wt_F} {QH : wt_H} {qt : Int32} {B : wb} {rl : Nat → Int32} {Z : mt_S} {cl : Nat → Int32} {hc : mt_H} {sl tk : Int32} {kp : mt_K} {pa : Nat → Int32} {tr : mt_T} {co : Int32} {rest : xm_O} {a b : Int32} (hM : okM B rl) (h : ¬ g2 a b) : xm_M y_Md_lamp (Cond.code y_Md_lamp b_Md_lamp 3 (some .int)) (xm_rm 4 0 0) [.ref 36, .int a, .int b] (wd Q0 Q1 Q2 Q3 Q4 ql qr qk qo QS QT QF QH qt ++ (wMB B rl Z cl hc sl tk kp pa tr co ++ rest)) (xm_eq (.inl (some (.int 0))) (wd Q0 Q1 Q2 Q3 Q4 ql qr qk qo QS QT QF QH qt ++ (wMB B rl Z cl hc sl tk kp pa tr 1 ++ rest))) := by
  obtain ⟨⟨f0, g0, n0⟩, ⟨f1, g1, n1⟩, ⟨f2, g2, n2⟩, ⟨f3, g3, n3⟩, ⟨f4, g4, n4⟩, pl, dr, ki, ow⟩ := B
  have hB := hM.1
  have hrl := hM.2
  obtain ⟨⟨h0, hp0⟩, ⟨h1, hp1⟩, ⟨h2, hp2⟩, ⟨h3, hp3⟩, ⟨h4, hp4⟩, hk⟩ := id hB
  dsimp only at h0 h1 h2 h3 h4 hp0 hp1 hp2 hp3 hp4 hk hrl
  refine xm_of (by decide) (Nat.le_of_ble_eq_true rfl) (fun E C0 => ?_)
  refine xs_eq (ω' := (wd Q0 Q1 Q2 Q3 Q4 ql qr qk qo QS QT QF QH qt ++ (wM (f0, g0, nI n0) (f1, g1, nI n1) (f2, g2, nI n2) (f3, g3, nI n3) (f4, g4, nI n4) pl dr ki rl Z cl hc sl tk kp pa tr co ++ rest))) (lv' := [(0, .ref 36), (1, .int a), (2, .int b)]) rfl rfl rfl ?_
  refine xs_aload_n C0 d_Md_lamp_0 rfl 0 rfl ?_
  refine xs_iload_n C0 d_Md_lamp_1 rfl 1 rfl ?_
  refine xs_iload_n C0 d_Md_lamp_2 rfl 2 rfl ?_
  refine xs_cS1 (ω' := (wd Q0 Q1 Q2 Q3 Q4 ql qr qk qo QS QT QF QH qt ++ (wM (f0, g0, nI n0) (f1, g1, nI n1) (f2, g2, nI n2) (f3, g3, nI n3) (f4, g4, nI n4) pl dr ki rl Z cl hc sl tk kp pa tr co ++ rest))) (av := [.int a, .int b]) (st := [.ref 36]) (kc' := 0) (ks' := 0) (v := .int 0) C0 d_Md_lamp_3 l_Md_104 (d_nn0 _ a b h) rfl rfl rfl (Nat.le_of_ble_eq_true rfl) (Nat.le_of_ble_eq_true rfl) (Nat.le_of_ble_eq_true rfl) (Nat.le_of_ble_eq_true rfl) (Nat.le_of_ble_eq_true rfl) (Nat.le_of_ble_eq_true rfl) ?_
  refine xs_if_ne (tgt := 13) C0 d_Md_lamp_6 (by decide) (fun c9 => absurd c9 (by decide)) (fun _ => ?_)
  refine xs_iconst (v := 1) C0 d_Md_lamp_9 (by decide) ?_
  refine xs_goto (tgt := 27) C0 d_Md_lamp_10 (by decide) ?_
  refine xs_put (ω' := (wd Q0 Q1 Q2 Q3 Q4 ql qr qk qo QS QT QF QH qt ++ (wM (f0, g0, nI n0) (f1, g1, nI n1) (f2, g2, nI n2) (f3, g3, nI n3) (f4, g4, nI n4) pl dr ki rl Z cl hc sl tk kp pa tr 1 ++ rest))) C0 f_Md_92 ty_Md_0 d_Md_lamp_27 rfl (Nat.le_of_ble_eq_true rfl) (fun _ => ⟨rfl, rfl⟩) rfl ?_
  refine xs_aload_n C0 d_Md_lamp_30 rfl 0 rfl ?_
  refine xs_get (q := 36) (v := .int 1) C0 f_Md_92 d_Md_lamp_31 rfl rfl ?_
  refine xs_if_le (tgt := 39) C0 d_Md_lamp_34 (by decide) (fun c9 => absurd c9 (by decide)) (fun _ => ?_)
  refine xs_iconst (v := 0) C0 d_Md_lamp_37 (by decide) ?_
  exact xs_iret C0 d_Md_lamp_38 (⟨rfl, rfl⟩) (Nat.le_of_ble_eq_true rfl) (Nat.le_of_ble_eq_true rfl)
set_option maxHeartbeats 4000000 in
set_option maxRecDepth 100000 in
theorem d_lampX {Q0 Q1 Q2 Q3 Q4 : wt_P} {ql qr qk qo : Nat → Int32} {QS QT : wt_S} {QF : wt_F} {QH : wt_H} {qt : Int32} {B : wb} {rl : Nat → Int32} {Z : mt_S} {cl : Nat → Int32} {hc : mt_H} {sl tk : Int32} {kp : mt_K} {pa : Nat → Int32} {tr : mt_T} {co : Int32} {rest : xm_O} {a b : Int32} (hM : okM B rl) (hi : 12 ≤ B.2.2.2.2.1.2.2) (hg : g2 a b) : xm_M y_Md_lamp (Cond.code y_Md_lamp b_Md_lamp 3 (some .int)) (xm_rm 4 0 0) [.ref 36, .int a, .int b] (wd Q0 Q1 Q2 Q3 Q4 ql qr qk qo QS QT QF QH qt ++ (wMB B rl Z cl hc sl tk kp pa tr co ++ rest)) (xm_eq (.inl (some (.int 0))) (wd Q0 Q1 Q2 Q3 Q4 ql qr qk qo QS QT QF QH qt ++ (wMB B rl Z cl hc sl tk kp pa tr 2 ++ rest))) := by
  obtain ⟨⟨f0, g0, n0⟩, ⟨f1, g1, n1⟩, ⟨f2, g2, n2⟩, ⟨f3, g3, n3⟩, ⟨f4, g4, n4⟩, pl, dr, ki, ow⟩ := B
  have hB := hM.1
  have hrl := hM.2
  obtain ⟨⟨h0, hp0⟩, ⟨h1, hp1⟩, ⟨h2, hp2⟩, ⟨h3, hp3⟩, ⟨h4, hp4⟩, hk⟩ := id hB
  dsimp only at h0 h1 h2 h3 h4 hp0 hp1 hp2 hp3 hp4 hk hrl
  dsimp only at hi
  refine xm_of (by decide) (Nat.le_of_ble_eq_true rfl) (fun E C0 => ?_)
  refine xs_eq (ω' := (wd Q0 Q1 Q2 Q3 Q4 ql qr qk qo QS QT QF QH qt ++ (wM (f0, g0, nI n0) (f1, g1, nI n1) (f2, g2, nI n2) (f3, g3, nI n3) (f4, g4, nI n4) pl dr ki rl Z cl hc sl tk kp pa tr co ++ rest))) (lv' := [(0, .ref 36), (1, .int a), (2, .int b)]) rfl rfl rfl ?_
  refine xs_aload_n C0 d_Md_lamp_0 rfl 0 rfl ?_
  refine xs_iload_n C0 d_Md_lamp_1 rfl 1 rfl ?_
  refine xs_iload_n C0 d_Md_lamp_2 rfl 2 rfl ?_
  refine xs_cS1 (ω' := (wd Q0 Q1 Q2 Q3 Q4 ql qr qk qo QS QT QF QH qt ++ (wM (f0, g0, nI n0) (f1, g1, nI n1) (f2, g2, nI n2) (f3, g3, nI n3) (f4, g4, nI n4) pl dr ki rl Z cl hc sl tk kp pa tr co ++ rest))) (av := [.int a, .int b]) (st := [.ref 36]) (kc' := 0) (ks' := 0) (v := .int 1) C0 d_Md_lamp_3 l_Md_104 (d_nn1 _ a b hg) rfl rfl rfl (Nat.le_of_ble_eq_true rfl) (Nat.le_of_ble_eq_true rfl) (Nat.le_of_ble_eq_true rfl) (Nat.le_of_ble_eq_true rfl) (Nat.le_of_ble_eq_true rfl) (Nat.le_of_ble_eq_true rfl) ?_
  refine xs_if_ne (tgt := 13) C0 d_Md_lamp_6 (by decide) (fun _ => ?_) (fun c9 => absurd c9 (by decide))
  refine xs_aload_n C0 d_Md_lamp_13 rfl 0 rfl ?_
  refine xs_get (q := 36) (v := .int (nI n4)) C0 f_Md_123 d_Md_lamp_14 rfl rfl ?_
  refine xs_bipush (v := 12) C0 d_Md_lamp_17 (by decide) ?_
  refine xs_icmp_ne (tgt := 26) C0 d_Md_lamp_19 (by decide) (fun c9 => absurd (show nI n4 = 12 by rw [show n4 = 12 by omega]; rfl) c9) (fun _ => ?_)
  refine xs_iconst (v := 2) C0 d_Md_lamp_22 (by decide) ?_
  refine xs_goto (tgt := 27) C0 d_Md_lamp_23 (by decide) ?_
  refine xs_put (ω' := (wd Q0 Q1 Q2 Q3 Q4 ql qr qk qo QS QT QF QH qt ++ (wM (f0, g0, nI n0) (f1, g1, nI n1) (f2, g2, nI n2) (f3, g3, nI n3) (f4, g4, nI n4) pl dr ki rl Z cl hc sl tk kp pa tr 2 ++ rest))) C0 f_Md_92 ty_Md_0 d_Md_lamp_27 rfl (Nat.le_of_ble_eq_true rfl) (fun _ => ⟨rfl, rfl⟩) rfl ?_
  refine xs_aload_n C0 d_Md_lamp_30 rfl 0 rfl ?_
  refine xs_get (q := 36) (v := .int 2) C0 f_Md_92 d_Md_lamp_31 rfl rfl ?_
  refine xs_if_le (tgt := 39) C0 d_Md_lamp_34 (by decide) (fun c9 => absurd c9 (by decide)) (fun _ => ?_)
  refine xs_iconst (v := 0) C0 d_Md_lamp_37 (by decide) ?_
  exact xs_iret C0 d_Md_lamp_38 (⟨rfl, rfl⟩) (Nat.le_of_ble_eq_true rfl) (Nat.le_of_ble_eq_true rfl)
set_option maxHeartbeats 4000000 in
set_option maxRecDepth 100000 in
theorem d_ups {Q0 Q1 Q2 Q3 Q4 : wt_P} {ql qr qk qo : Nat → Int32} {QS QT : wt_S} {QF : wt_F} {QH : wt_H} {qt : Int32} {B : wb} {rl : Nat → Int32} {Z : mt_S} {cl : Nat → Int32} {hc : mt_H} {sl tk : Int32} {kp : mt_K} {pa : Nat → Int32} {tr : mt_T} {co : Int32} {rest : xm_O} (hM : okM B rl) : xm_M y_Md_ups (Cond.code y_Md_ups b_Md_ups 1 (some .int)) (xm_rm 1 0 0) [.ref 36] (wd Q0 Q1 Q2 Q3 Q4 ql qr qk qo QS QT QF QH qt ++ (wMB B rl Z cl hc sl tk kp pa tr co ++ rest)) (xm_eq (.inl (some (.int (m_up Z.1 B.1.2.2)))) (wd Q0 Q1 Q2 Q3 Q4 ql qr qk qo QS QT QF QH qt ++ (wMB B rl Z cl hc sl tk kp pa tr 0 ++ rest))) := by
  obtain ⟨⟨f0, g0, n0⟩, ⟨f1, g1, n1⟩, ⟨f2, g2, n2⟩, ⟨f3, g3, n3⟩, ⟨f4, g4, n4⟩, pl, dr, ki, ow⟩ := B
  have hB := hM.1
  have hrl := hM.2
  obtain ⟨⟨h0, hp0⟩, ⟨h1, hp1⟩, ⟨h2, hp2⟩, ⟨h3, hp3⟩, ⟨h4, hp4⟩, hk⟩ := id hB
  dsimp only at h0 h1 h2 h3 h4 hp0 hp1 hp2 hp3 hp4 hk hrl
  refine xm_of (by decide) (Nat.le_of_ble_eq_true rfl) (fun E C0 => ?_)
  refine xs_eq (ω' := (wd Q0 Q1 Q2 Q3 Q4 ql qr qk qo QS QT QF QH qt ++ (wM (f0, g0, nI n0) (f1, g1, nI n1) (f2, g2, nI n2) (f3, g3, nI n3) (f4, g4, nI n4) pl dr ki rl Z cl hc sl tk kp pa tr co ++ rest))) (lv' := [(0, .ref 36)]) rfl rfl rfl ?_
  refine xs_aload_n C0 d_Md_ups_0 rfl 0 rfl ?_
  refine xs_iconst (v := 0) C0 d_Md_ups_1 (by decide) ?_
  refine xs_put (ω' := (wd Q0 Q1 Q2 Q3 Q4 ql qr qk qo QS QT QF QH qt ++ (wM (f0, g0, nI n0) (f1, g1, nI n1) (f2, g2, nI n2) (f3, g3, nI n3) (f4, g4, nI n4) pl dr ki rl Z cl hc sl tk kp pa tr 0 ++ rest))) C0 f_Md_92 ty_Md_0 d_Md_ups_2 rfl (Nat.le_of_ble_eq_true rfl) (fun _ => ⟨rfl, rfl⟩) rfl ?_
  refine xs_aload_n C0 d_Md_ups_5 rfl 0 rfl ?_
  obtain ⟨ms_1, mc_1, mw_1, mb_1⟩ := Z
  refine xs_cV1 (ω' := (wd Q0 Q1 Q2 Q3 Q4 ql qr qk qo QS QT QF QH qt ++ (wM (f0, g0, nI n0) (f1, g1, nI n1) (f2, g2, nI n2) (f3, g3, nI n3) (f4, g4, nI n4) pl dr ki rl (ms_1, mc_1, mw_1, mb_1) cl hc sl tk kp pa tr 0 ++ rest))) (As := []) (st := []) (kc' := 0) (ks' := 0) (v := .int (m_up ms_1 n0)) C0 d_Md_ups_6 l_Md_203 rfl rfl (d_up h0) rfl rfl rfl (Nat.le_of_ble_eq_true rfl) (Nat.le_of_ble_eq_true rfl) (Nat.le_of_ble_eq_true rfl) (Nat.le_of_ble_eq_true rfl) (Nat.le_of_ble_eq_true rfl) (Nat.le_of_ble_eq_true rfl) ?_
  exact xs_iret C0 d_Md_ups_9 (⟨rfl, rfl⟩) (Nat.le_of_ble_eq_true rfl) (Nat.le_of_ble_eq_true rfl)
set_option maxHeartbeats 4000000 in
set_option maxRecDepth 100000 in
theorem d_blown {Q0 Q1 Q2 Q3 Q4 : wt_P} {ql qr qk qo : Nat → Int32} {QS QT : wt_S} {QF : wt_F} {QH : wt_H} {qt : Int32} {B : wb} {rl : Nat → Int32} {Z : mt_S} {cl : Nat → Int32} {hc : mt_H} {sl tk : Int32} {kp : mt_K} {pa : Nat → Int32} {tr : mt_T} {co : Int32} {rest : xm_O} (hM : okM B rl) (hz : z01 Z) : xm_M y_Md_blown (Cond.code y_Md_blown b_Md_blown 1 (some .boolean)) (xm_rm 0 0 0) [.ref 36] (wd Q0 Q1 Q2 Q3 Q4 ql qr qk qo QS QT QF QH qt ++ (wMB B rl Z cl hc sl tk kp pa tr co ++ rest)) (xm_eq (.inl (some (.int Z.2.2.2))) (wd Q0 Q1 Q2 Q3 Q4 ql qr qk qo QS QT QF QH qt ++ (wMB B rl Z cl hc sl tk kp pa tr 0 ++ rest))) := by
  obtain ⟨⟨f0, g0, n0⟩, ⟨f1, g1, n1⟩, ⟨f2, g2, n2⟩, ⟨f3, g3, n3⟩, ⟨f4, g4, n4⟩, pl, dr, ki, ow⟩ := B
  have hB := hM.1
  have hrl := hM.2
  obtain ⟨⟨h0, hp0⟩, ⟨h1, hp1⟩, ⟨h2, hp2⟩, ⟨h3, hp3⟩, ⟨h4, hp4⟩, hk⟩ := id hB
  dsimp only at h0 h1 h2 h3 h4 hp0 hp1 hp2 hp3 hp4 hk hrl
  refine xm_of (by decide) (Nat.le_of_ble_eq_true rfl) (fun E C0 => ?_)
  refine xs_eq (ω' := (wd Q0 Q1 Q2 Q3 Q4 ql qr qk qo QS QT QF QH qt ++ (wM (f0, g0, nI n0) (f1, g1, nI n1) (f2, g2, nI n2) (f3, g3, nI n3) (f4, g4, nI n4) pl dr ki rl Z cl hc sl tk kp pa tr co ++ rest))) (lv' := [(0, .ref 36)]) rfl rfl rfl ?_
  refine xs_aload_n C0 d_Md_blown_0 rfl 0 rfl ?_
  refine xs_iconst (v := 0) C0 d_Md_blown_1 (by decide) ?_
  refine xs_put (ω' := (wd Q0 Q1 Q2 Q3 Q4 ql qr qk qo QS QT QF QH qt ++ (wM (f0, g0, nI n0) (f1, g1, nI n1) (f2, g2, nI n2) (f3, g3, nI n3) (f4, g4, nI n4) pl dr ki rl Z cl hc sl tk kp pa tr 0 ++ rest))) C0 f_Md_92 ty_Md_0 d_Md_blown_2 rfl (Nat.le_of_ble_eq_true rfl) (fun _ => ⟨rfl, rfl⟩) rfl ?_
  refine xs_aload_n C0 d_Md_blown_5 rfl 0 rfl ?_
  obtain ⟨ms_1, mc_1, mw_1, mb_1⟩ := Z
  refine xs_get (q := 36) (v := .int mb_1) C0 f_Md_137 d_Md_blown_6 rfl rfl ?_
  exact xs_zret C0 d_Md_blown_9 hz (⟨rfl, rfl⟩) (Nat.le_of_ble_eq_true rfl) (Nat.le_of_ble_eq_true rfl)
noncomputable def q_fuse (B : wb) (rl cl : Nat → Int32) (Z : mt_S) (hc : mt_H) : mt_S × mt_H := if Z.2.2.2 = 0 then (Z, hc) else m_laf B rl cl (z_bl Z 0) hc
set_option maxHeartbeats 4000000 in
set_option maxRecDepth 100000 in
theorem d_fuse {Q0 Q1 Q2 Q3 Q4 : wt_P} {ql qr qk qo : Nat → Int32} {QS QT : wt_S} {QF : wt_F} {QH : wt_H} {qt : Int32} {B : wb} {rl : Nat → Int32} {Z : mt_S} {cl : Nat → Int32} {hc : mt_H} {sl tk : Int32} {kp : mt_K} {pa : Nat → Int32} {tr : mt_T} {co : Int32} {rest : xm_O} {Z1 : mt_S} {hc1 : mt_H} (hM : okM B rl) (hf : q_fuse B rl cl Z hc = (Z1, hc1)) : xm_M y_Md_fuse (Cond.code y_Md_fuse b_Md_fuse 1 (some .boolean)) (xm_rm 4 0 0) [.ref 36] (wd Q0 Q1 Q2 Q3 Q4 ql qr qk qo QS QT QF QH qt ++ (wMB B rl Z cl hc sl tk kp pa tr co ++ rest)) (xm_eq (.inl (some (.int (if Z1.2.2.2 = 0 then 1 else 0)))) (wd Q0 Q1 Q2 Q3 Q4 ql qr qk qo QS QT QF QH qt ++ (wMB B rl Z1 cl hc1 sl tk kp pa tr 0 ++ rest))) := by
  obtain ⟨⟨f0, g0, n0⟩, ⟨f1, g1, n1⟩, ⟨f2, g2, n2⟩, ⟨f3, g3, n3⟩, ⟨f4, g4, n4⟩, pl, dr, ki, ow⟩ := B
  have hB := hM.1
  have hrl := hM.2
  obtain ⟨⟨h0, hp0⟩, ⟨h1, hp1⟩, ⟨h2, hp2⟩, ⟨h3, hp3⟩, ⟨h4, hp4⟩, hk⟩ := id hB
  dsimp only at h0 h1 h2 h3 h4 hp0 hp1 hp2 hp3 hp4 hk hrl
  refine xm_of (by decide) (Nat.le_of_ble_eq_true rfl) (fun E C0 => ?_)
  refine xs_eq (ω' := (wd Q0 Q1 Q2 Q3 Q4 ql qr qk qo QS QT QF QH qt ++ (wM (f0, g0, nI n0) (f1, g1, nI n1) (f2, g2, nI n2) (f3, g3, nI n3) (f4, g4, nI n4) pl dr ki rl Z cl hc sl tk kp pa tr co ++ rest))) (lv' := [(0, .ref 36)]) rfl rfl rfl ?_
  refine xs_aload_n C0 d_Md_fuse_0 rfl 0 rfl ?_
  refine xs_iconst (v := 0) C0 d_Md_fuse_1 (by decide) ?_
  refine xs_put (ω' := (wd Q0 Q1 Q2 Q3 Q4 ql qr qk qo QS QT QF QH qt ++ (wM (f0, g0, nI n0) (f1, g1, nI n1) (f2, g2, nI n2) (f3, g3, nI n3) (f4, g4, nI n4) pl dr ki rl Z cl hc sl tk kp pa tr 0 ++ rest))) C0 f_Md_92 ty_Md_0 d_Md_fuse_2 rfl (Nat.le_of_ble_eq_true rfl) (fun _ => ⟨rfl, rfl⟩) rfl ?_
  refine xs_aload_n C0 d_Md_fuse_5 rfl 0 rfl ?_
  obtain ⟨ms_1, mc_1, mw_1, mb_1⟩ := Z
  refine xs_get (q := 36) (v := .int mb_1) C0 f_Md_137 d_Md_fuse_6 rfl rfl ?_
  refine xs_if_ne (tgt := 14) C0 d_Md_fuse_9 (by decide) (fun c_2 => ?_) (fun c_2 => ?_)
  · refine xs_aload_n C0 d_Md_fuse_14 rfl 0 rfl ?_
    refine xs_iconst (v := 0) C0 d_Md_fuse_15 (by decide) ?_
    refine xs_put (ω' := (wd Q0 Q1 Q2 Q3 Q4 ql qr qk qo QS QT QF QH qt ++ (wM (f0, g0, nI n0) (f1, g1, nI n1) (f2, g2, nI n2) (f3, g3, nI n3) (f4, g4, nI n4) pl dr ki rl (ms_1, mc_1, mw_1, 0) cl hc sl tk kp pa tr 0 ++ rest))) C0 f_Md_137 ty_Md_14 d_Md_fuse_16 rfl (Nat.le_of_ble_eq_true rfl) (xm_zfit (Or.inl rfl)) rfl ?_
    refine xs_aload_n C0 d_Md_fuse_19 rfl 0 rfl ?_
    obtain ⟨Z_3, hc_4, hZ_3⟩ : ∃ X Y, m_laf ((f0, g0, n0), (f1, g1, n1), (f2, g2, n2), (f3, g3, n3), (f4, g4, n4), pl, dr, ki, ow) rl cl (ms_1, mc_1, mw_1, 0) hc = (X, Y) := ⟨_, _, rfl⟩
    refine xs_cV0 (ω' := (wd Q0 Q1 Q2 Q3 Q4 ql qr qk qo QS QT QF QH qt ++ (wM (f0, g0, nI n0) (f1, g1, nI n1) (f2, g2, nI n2) (f3, g3, nI n3) (f4, g4, nI n4) pl dr ki rl Z_3 cl hc_4 sl tk kp pa tr 0 ++ rest))) (As := []) (st := []) (kc' := 0) (ks' := 0) C0 d_Md_fuse_20 l_Md_111 rfl rfl (d_laf (B := ((f0, g0, n0), (f1, g1, n1), (f2, g2, n2), (f3, g3, n3), (f4, g4, n4), pl, dr, ki, ow)) hM hZ_3) rfl rfl rfl (Nat.le_of_ble_eq_true rfl) (Nat.le_of_ble_eq_true rfl) (Nat.le_of_ble_eq_true rfl) (Nat.le_of_ble_eq_true rfl) (Nat.le_of_ble_eq_true rfl) (Nat.le_of_ble_eq_true rfl) ?_
    refine xs_aload_n C0 d_Md_fuse_23 rfl 0 rfl ?_
    obtain ⟨ms_5, mc_5, mw_5, mb_5⟩ := Z_3
    refine xs_get (q := 36) (v := .int mb_5) C0 f_Md_137 d_Md_fuse_24 rfl rfl ?_
    refine xs_bz_ne (u := 1) (v := 0) (tgt := 34) (J := 35) C0 d_Md_fuse_27 (by decide) d_Md_fuse_30 (by decide) d_Md_fuse_31 (by decide) d_Md_fuse_34 (by decide) rfl ?_
    rw [q_fuse, if_neg c_2] at hf
    rw [z_bl] at hf
    dsimp only at hf
    rw [hZ_3] at hf
    cases hf
    exact xs_zret C0 d_Md_fuse_35 xm_b01 (⟨rfl, rfl⟩) (Nat.le_of_ble_eq_true rfl) (Nat.le_of_ble_eq_true rfl)
  · refine xs_iconst (v := 1) C0 d_Md_fuse_12 (by decide) ?_
    rw [q_fuse, if_pos c_2] at hf
    cases hf
    exact xs_zret C0 d_Md_fuse_13 (by decide) (⟨by rw [if_pos c_2], rfl⟩) (Nat.le_of_ble_eq_true rfl) (Nat.le_of_ble_eq_true rfl)
set_option maxHeartbeats 4000000 in
set_option maxRecDepth 100000 in
theorem d_node {Q0 Q1 Q2 Q3 Q4 : wt_P} {ql qr qk qo : Nat → Int32} {QS QT : wt_S} {QF : wt_F} {QH : wt_H} {qt : Int32} {B : wb} {rl : Nat → Int32} {Z : mt_S} {cl : Nat → Int32} {hc : mt_H} {sl tk : Int32} {kp : mt_K} {pa : Nat → Int32} {tr : mt_T} {co : Int32} {rest : xm_O} {x : Int32} {hc1 : mt_H} (hM : okM B rl) (h : gw x 0 47) (hf : m_lay B rl Z.1 cl hc = hc1) : xm_M y_Md_node (Cond.code y_Md_node b_Md_node 2 (some .int)) (xm_rm 3 0 0) [.ref 36, .int x] (wd Q0 Q1 Q2 Q3 Q4 ql qr qk qo QS QT QF QH qt ++ (wMB B rl Z cl hc sl tk kp pa tr co ++ rest)) (xm_eq (.inl (some (.int ((if ¬ hc1.1 x.toNatClampNeg = 0 then 1 else 0) + (if ¬ hc1.2 x.toNatClampNeg = 0 then 2 else 0))))) (wd Q0 Q1 Q2 Q3 Q4 ql qr qk qo QS QT QF QH qt ++ (wMB B rl Z cl hc1 sl tk kp pa tr 0 ++ rest))) := by
  obtain ⟨⟨f0, g0, n0⟩, ⟨f1, g1, n1⟩, ⟨f2, g2, n2⟩, ⟨f3, g3, n3⟩, ⟨f4, g4, n4⟩, pl, dr, ki, ow⟩ := B
  have hB := hM.1
  have hrl := hM.2
  obtain ⟨⟨h0, hp0⟩, ⟨h1, hp1⟩, ⟨h2, hp2⟩, ⟨h3, hp3⟩, ⟨h4, hp4⟩, hk⟩ := id hB
  dsimp only at h0 h1 h2 h3 h4 hp0 hp1 hp2 hp3 hp4 hk hrl
  refine xm_of (by decide) (Nat.le_of_ble_eq_true rfl) (fun E C0 => ?_)
  refine xs_eq (ω' := (wd Q0 Q1 Q2 Q3 Q4 ql qr qk qo QS QT QF QH qt ++ (wM (f0, g0, nI n0) (f1, g1, nI n1) (f2, g2, nI n2) (f3, g3, nI n3) (f4, g4, nI n4) pl dr ki rl Z cl hc sl tk kp pa tr co ++ rest))) (lv' := [(0, .ref 36), (1, .int x)]) rfl rfl rfl ?_
  refine xs_aload_n C0 d_Md_node_0 rfl 0 rfl ?_
  refine xs_iload_n C0 d_Md_node_1 rfl 1 rfl ?_
  refine xs_cS1 (ω' := (wd Q0 Q1 Q2 Q3 Q4 ql qr qk qo QS QT QF QH qt ++ (wM (f0, g0, nI n0) (f1, g1, nI n1) (f2, g2, nI n2) (f3, g3, nI n3) (f4, g4, nI n4) pl dr ki rl Z cl hc sl tk kp pa tr co ++ rest))) (av := [.int x]) (st := [.ref 36]) (kc' := 0) (ks' := 0) (v := .int 1) C0 d_Md_node_2 l_Md_100 (d_nd1 _ x h) rfl rfl rfl (Nat.le_of_ble_eq_true rfl) (Nat.le_of_ble_eq_true rfl) (Nat.le_of_ble_eq_true rfl) (Nat.le_of_ble_eq_true rfl) (Nat.le_of_ble_eq_true rfl) (Nat.le_of_ble_eq_true rfl) ?_
  refine xs_if_eq (tgt := 12) C0 d_Md_node_5 (by decide) (fun c9 => absurd c9 (by decide)) (fun _ => ?_)
  refine xs_iconst (v := 0) C0 d_Md_node_8 (by decide) ?_
  refine xs_goto (tgt := 13) C0 d_Md_node_9 (by decide) ?_
  refine xs_put (ω' := (wd Q0 Q1 Q2 Q3 Q4 ql qr qk qo QS QT QF QH qt ++ (wM (f0, g0, nI n0) (f1, g1, nI n1) (f2, g2, nI n2) (f3, g3, nI n3) (f4, g4, nI n4) pl dr ki rl Z cl hc sl tk kp pa tr 0 ++ rest))) C0 f_Md_92 ty_Md_0 d_Md_node_13 rfl (Nat.le_of_ble_eq_true rfl) (fun _ => ⟨rfl, rfl⟩) rfl ?_
  refine xs_aload_n C0 d_Md_node_16 rfl 0 rfl ?_
  refine xs_get (q := 36) (v := .int 0) C0 f_Md_92 d_Md_node_17 rfl rfl ?_
  refine xs_if_le (tgt := 25) C0 d_Md_node_20 (by decide) (fun _ => ?_) (fun c9 => absurd c9 (by decide))
  refine xs_aload_n C0 d_Md_node_25 rfl 0 rfl ?_
  obtain ⟨ms_1, mc_1, mw_1, mb_1⟩ := Z
  obtain ⟨hc_2, hhc_2⟩ : ∃ X, m_lay ((f0, g0, n0), (f1, g1, n1), (f2, g2, n2), (f3, g3, n3), (f4, g4, n4), pl, dr, ki, ow) rl ms_1 cl hc = X := ⟨_, rfl⟩
  refine xs_cV0 (ω' := (wd Q0 Q1 Q2 Q3 Q4 ql qr qk qo QS QT QF QH qt ++ (wM (f0, g0, nI n0) (f1, g1, nI n1) (f2, g2, nI n2) (f3, g3, nI n3) (f4, g4, nI n4) pl dr ki rl (ms_1, mc_1, mw_1, mb_1) cl hc_2 sl tk kp pa tr 0 ++ rest))) (As := []) (st := []) (kc' := 0) (ks' := 0) C0 d_Md_node_26 l_Md_141 rfl rfl (d_lay (B := ((f0, g0, n0), (f1, g1, n1), (f2, g2, n2), (f3, g3, n3), (f4, g4, n4), pl, dr, ki, ow)) hM hhc_2) rfl rfl rfl (Nat.le_of_ble_eq_true rfl) (Nat.le_of_ble_eq_true rfl) (Nat.le_of_ble_eq_true rfl) (Nat.le_of_ble_eq_true rfl) (Nat.le_of_ble_eq_true rfl) (Nat.le_of_ble_eq_true rfl) ?_
  refine xs_aload_n C0 d_Md_node_29 rfl 0 rfl ?_
  refine xs_get (q := 36) (v := .ref 55) C0 f_Md_65 d_Md_node_30 rfl rfl ?_
  refine xs_iload_n C0 d_Md_node_33 rfl 1 rfl ?_
  obtain ⟨mh_3, mo_3⟩ := hc_2
  refine xs_zald C0 d_Md_node_34 rfl (gw_in h) ?_
  refine xs_bz_eq (u := 1) (v := 0) (tgt := 42) (J := 43) C0 d_Md_node_35 (by decide) d_Md_node_38 (by decide) d_Md_node_39 (by decide) d_Md_node_42 (by decide) rfl ?_
  refine xs_aload_n C0 d_Md_node_43 rfl 0 rfl ?_
  refine xs_get (q := 36) (v := .ref 56) C0 f_Md_68 d_Md_node_44 rfl rfl ?_
  refine xs_iload_n C0 d_Md_node_47 rfl 1 rfl ?_
  refine xs_zald C0 d_Md_node_48 rfl (gw_in h) ?_
  refine xs_bz_eq (u := 2) (v := 0) (tgt := 56) (J := 57) C0 d_Md_node_49 (by decide) d_Md_node_52 (by decide) d_Md_node_53 (by decide) d_Md_node_56 (by decide) rfl ?_
  refine xs_iadd C0 d_Md_node_57 ?_
  rw [hhc_2] at hf
  subst hf
  exact xs_iret C0 d_Md_node_58 (⟨rfl, rfl⟩) (Nat.le_of_ble_eq_true rfl) (Nat.le_of_ble_eq_true rfl)
set_option maxHeartbeats 4000000 in
set_option maxRecDepth 100000 in
theorem d_nodeT {Q0 Q1 Q2 Q3 Q4 : wt_P} {ql qr qk qo : Nat → Int32} {QS QT : wt_S} {QF : wt_F} {QH : wt_H} {qt : Int32} {B : wb} {rl : Nat → Int32} {Z : mt_S} {cl : Nat → Int32} {hc : mt_H} {sl tk : Int32} {kp : mt_K} {pa : Nat → Int32} {tr : mt_T} {co : Int32} {rest : xm_O} {x : Int32} (hM : okM B rl) (h : ¬ gw x 0 47) : xm_M y_Md_node (Cond.code y_Md_node b_Md_node 2 (some .int)) (xm_rm 3 0 0) [.ref 36, .int x] (wd Q0 Q1 Q2 Q3 Q4 ql qr qk qo QS QT QF QH qt ++ (wMB B rl Z cl hc sl tk kp pa tr co ++ rest)) (xm_eq (.inl (some (.int 0))) (wd Q0 Q1 Q2 Q3 Q4 ql qr qk qo QS QT QF QH qt ++ (wMB B rl Z cl hc sl tk kp pa tr 1 ++ rest))) := by
  obtain ⟨⟨f0, g0, n0⟩, ⟨f1, g1, n1⟩, ⟨f2, g2, n2⟩, ⟨f3, g3, n3⟩, ⟨f4, g4, n4⟩, pl, dr, ki, ow⟩ := B
  have hB := hM.1
  have hrl := hM.2
  obtain ⟨⟨h0, hp0⟩, ⟨h1, hp1⟩, ⟨h2, hp2⟩, ⟨h3, hp3⟩, ⟨h4, hp4⟩, hk⟩ := id hB
  dsimp only at h0 h1 h2 h3 h4 hp0 hp1 hp2 hp3 hp4 hk hrl
  refine xm_of (by decide) (Nat.le_of_ble_eq_true rfl) (fun E C0 => ?_)
  refine xs_eq (ω' := (wd Q0 Q1 Q2 Q3 Q4 ql qr qk qo QS QT QF QH qt ++ (wM (f0, g0, nI n0) (f1, g1, nI n1) (f2, g2, nI n2) (f3, g3, nI n3) (f4, g4, nI n4) pl dr ki rl Z cl hc sl tk kp pa tr co ++ rest))) (lv' := [(0, .ref 36), (1, .int x)]) rfl rfl rfl ?_
  refine xs_aload_n C0 d_Md_node_0 rfl 0 rfl ?_
  refine xs_iload_n C0 d_Md_node_1 rfl 1 rfl ?_
  refine xs_cS1 (ω' := (wd Q0 Q1 Q2 Q3 Q4 ql qr qk qo QS QT QF QH qt ++ (wM (f0, g0, nI n0) (f1, g1, nI n1) (f2, g2, nI n2) (f3, g3, nI n3) (f4, g4, nI n4) pl dr ki rl Z cl hc sl tk kp pa tr co ++ rest))) (av := [.int x]) (st := [.ref 36]) (kc' := 0) (ks' := 0) (v := .int 0) C0 d_Md_node_2 l_Md_100 (d_nd0 _ x h) rfl rfl rfl (Nat.le_of_ble_eq_true rfl) (Nat.le_of_ble_eq_true rfl) (Nat.le_of_ble_eq_true rfl) (Nat.le_of_ble_eq_true rfl) (Nat.le_of_ble_eq_true rfl) (Nat.le_of_ble_eq_true rfl) ?_
  refine xs_if_eq (tgt := 12) C0 d_Md_node_5 (by decide) (fun _ => ?_) (fun c9 => absurd rfl c9)
  refine xs_iconst (v := 1) C0 d_Md_node_12 (by decide) ?_
  refine xs_put (ω' := (wd Q0 Q1 Q2 Q3 Q4 ql qr qk qo QS QT QF QH qt ++ (wM (f0, g0, nI n0) (f1, g1, nI n1) (f2, g2, nI n2) (f3, g3, nI n3) (f4, g4, nI n4) pl dr ki rl Z cl hc sl tk kp pa tr 1 ++ rest))) C0 f_Md_92 ty_Md_0 d_Md_node_13 rfl (Nat.le_of_ble_eq_true rfl) (fun _ => ⟨rfl, rfl⟩) rfl ?_
  refine xs_aload_n C0 d_Md_node_16 rfl 0 rfl ?_
  refine xs_get (q := 36) (v := .int 1) C0 f_Md_92 d_Md_node_17 rfl rfl ?_
  refine xs_if_le (tgt := 25) C0 d_Md_node_20 (by decide) (fun c9 => absurd c9 (by decide)) (fun _ => ?_)
  refine xs_iconst (v := 0) C0 d_Md_node_23 (by decide) ?_
  exact xs_iret C0 d_Md_node_24 (⟨rfl, rfl⟩) (Nat.le_of_ble_eq_true rfl) (Nat.le_of_ble_eq_true rfl)
set_option maxHeartbeats 4000000 in
set_option maxRecDepth 100000 in
theorem d_leads {Q0 Q1 Q2 Q3 Q4 : wt_P} {ql qr qk qo : Nat → Int32} {QS QT : wt_S} {QF : wt_F} {QH : wt_H} {qt : Int32} {B : wb} {rl : Nat → Int32} {Z : mt_S} {cl : Nat → Int32} {hc : mt_H} {sl tk : Int32} {kp : mt_K} {pa : Nat → Int32} {tr : mt_T} {co : Int32} {rest : xm_O} {x : Nat} {y : Int32} (hM : okM B rl) (hx : x < 48) (h : gw (nI x) 0 47) (h9 : gw y 0 47) : xm_M y_Md_leads (Cond.code y_Md_leads b_Md_leads 3 (some .boolean)) (xm_rm 2 0 0) [.ref 36, .int (nI x), .int y] (wd Q0 Q1 Q2 Q3 Q4 ql qr qk qo QS QT QF QH qt ++ (wMB B rl Z cl hc sl tk kp pa tr co ++ rest)) (xm_eq (.inl (some (.int (rowR hc.1 (Rch (m_eh B rl Z.1 cl) x) y.toNatClampNeg)))) (wd Q0 Q1 Q2 Q3 Q4 ql qr qk qo QS QT QF QH qt ++ (wMB B rl Z cl (rowR hc.1 (Rch (m_eh B rl Z.1 cl) x), hc.2) sl tk kp pa tr 0 ++ rest))) := by
  obtain ⟨⟨f0, g0, n0⟩, ⟨f1, g1, n1⟩, ⟨f2, g2, n2⟩, ⟨f3, g3, n3⟩, ⟨f4, g4, n4⟩, pl, dr, ki, ow⟩ := B
  have hB := hM.1
  have hrl := hM.2
  obtain ⟨⟨h0, hp0⟩, ⟨h1, hp1⟩, ⟨h2, hp2⟩, ⟨h3, hp3⟩, ⟨h4, hp4⟩, hk⟩ := id hB
  dsimp only at h0 h1 h2 h3 h4 hp0 hp1 hp2 hp3 hp4 hk hrl
  refine xm_of (by decide) (Nat.le_of_ble_eq_true rfl) (fun E C0 => ?_)
  refine xs_eq (ω' := (wd Q0 Q1 Q2 Q3 Q4 ql qr qk qo QS QT QF QH qt ++ (wM (f0, g0, nI n0) (f1, g1, nI n1) (f2, g2, nI n2) (f3, g3, nI n3) (f4, g4, nI n4) pl dr ki rl Z cl hc sl tk kp pa tr co ++ rest))) (lv' := [(0, .ref 36), (1, .int (nI x)), (2, .int y)]) rfl rfl rfl ?_
  refine xs_aload_n C0 d_Md_leads_0 rfl 0 rfl ?_
  refine xs_iload_n C0 d_Md_leads_1 rfl 1 rfl ?_
  refine xs_cS1 (ω' := (wd Q0 Q1 Q2 Q3 Q4 ql qr qk qo QS QT QF QH qt ++ (wM (f0, g0, nI n0) (f1, g1, nI n1) (f2, g2, nI n2) (f3, g3, nI n3) (f4, g4, nI n4) pl dr ki rl Z cl hc sl tk kp pa tr co ++ rest))) (av := [.int (nI x)]) (st := [.ref 36]) (kc' := 0) (ks' := 0) (v := .int 1) C0 d_Md_leads_2 l_Md_100 (d_nd1 _ (nI x) h) rfl rfl rfl (Nat.le_of_ble_eq_true rfl) (Nat.le_of_ble_eq_true rfl) (Nat.le_of_ble_eq_true rfl) (Nat.le_of_ble_eq_true rfl) (Nat.le_of_ble_eq_true rfl) (Nat.le_of_ble_eq_true rfl) ?_
  refine xs_if_eq (tgt := 19) C0 d_Md_leads_5 (by decide) (fun c9 => absurd c9 (by decide)) (fun _ => ?_)
  refine xs_iload_n C0 d_Md_leads_8 rfl 2 rfl ?_
  refine xs_cS1 (ω' := (wd Q0 Q1 Q2 Q3 Q4 ql qr qk qo QS QT QF QH qt ++ (wM (f0, g0, nI n0) (f1, g1, nI n1) (f2, g2, nI n2) (f3, g3, nI n3) (f4, g4, nI n4) pl dr ki rl Z cl hc sl tk kp pa tr co ++ rest))) (av := [.int y]) (st := [.ref 36]) (kc' := 0) (ks' := 0) (v := .int 1) C0 d_Md_leads_9 l_Md_100 (d_nd1 _ y h9) rfl rfl rfl (Nat.le_of_ble_eq_true rfl) (Nat.le_of_ble_eq_true rfl) (Nat.le_of_ble_eq_true rfl) (Nat.le_of_ble_eq_true rfl) (Nat.le_of_ble_eq_true rfl) (Nat.le_of_ble_eq_true rfl) ?_
  refine xs_if_eq (tgt := 19) C0 d_Md_leads_12 (by decide) (fun c9 => absurd c9 (by decide)) (fun _ => ?_)
  refine xs_iconst (v := 0) C0 d_Md_leads_15 (by decide) ?_
  refine xs_goto (tgt := 20) C0 d_Md_leads_16 (by decide) ?_
  refine xs_put (ω' := (wd Q0 Q1 Q2 Q3 Q4 ql qr qk qo QS QT QF QH qt ++ (wM (f0, g0, nI n0) (f1, g1, nI n1) (f2, g2, nI n2) (f3, g3, nI n3) (f4, g4, nI n4) pl dr ki rl Z cl hc sl tk kp pa tr 0 ++ rest))) C0 f_Md_92 ty_Md_0 d_Md_leads_20 rfl (Nat.le_of_ble_eq_true rfl) (fun _ => ⟨rfl, rfl⟩) rfl ?_
  refine xs_aload_n C0 d_Md_leads_23 rfl 0 rfl ?_
  refine xs_get (q := 36) (v := .int 0) C0 f_Md_92 d_Md_leads_24 rfl rfl ?_
  refine xs_if_le (tgt := 32) C0 d_Md_leads_27 (by decide) (fun _ => ?_) (fun c9 => absurd c9 (by decide))
  refine xs_aload_n C0 d_Md_leads_32 rfl 0 rfl ?_
  refine xs_aload_n C0 d_Md_leads_33 rfl 0 rfl ?_
  refine xs_get (q := 36) (v := .ref 55) C0 f_Md_65 d_Md_leads_34 rfl rfl ?_
  refine xs_iload_n C0 d_Md_leads_37 rfl 1 rfl ?_
  refine xs_iconst (v := 0) C0 d_Md_leads_38 (by decide) ?_
  obtain ⟨ms_1, mc_1, mw_1, mb_1⟩ := Z
  obtain ⟨mh_2, mo_2⟩ := hc
  refine xs_cV0 (ω' := (wd Q0 Q1 Q2 Q3 Q4 ql qr qk qo QS QT QF QH qt ++ (wM (f0, g0, nI n0) (f1, g1, nI n1) (f2, g2, nI n2) (f3, g3, nI n3) (f4, g4, nI n4) pl dr ki rl (ms_1, mc_1, mw_1, mb_1) cl (rowR mh_2 (Rch (m_e (f1, g1, nI n1) (f2, g2, nI n2) ki rl ms_1 cl n1 n2 n3 f3 g3) x), mo_2) sl tk kp pa tr 0 ++ rest))) (As := [.ref 55, .int (nI x), .int 0]) (st := []) (kc' := 0) (ks' := 0) C0 d_Md_leads_39 l_Md_133 rfl rfl (d_sprh (a := x) h1 h2 h3 hp1 hp2 hp3 hrl hx) rfl rfl rfl (Nat.le_of_ble_eq_true rfl) (Nat.le_of_ble_eq_true rfl) (Nat.le_of_ble_eq_true rfl) (Nat.le_of_ble_eq_true rfl) (Nat.le_of_ble_eq_true rfl) (Nat.le_of_ble_eq_true rfl) ?_
  refine xs_aload_n C0 d_Md_leads_42 rfl 0 rfl ?_
  refine xs_get (q := 36) (v := .ref 55) C0 f_Md_65 d_Md_leads_43 rfl rfl ?_
  refine xs_iload_n C0 d_Md_leads_46 rfl 2 rfl ?_
  refine xs_zald C0 d_Md_leads_47 rfl (gw_in h9) ?_
  exact xs_zret C0 d_Md_leads_48 (rowR01 (gw_in h9)) (⟨rfl, rfl⟩) (Nat.le_of_ble_eq_true rfl) (Nat.le_of_ble_eq_true rfl)
set_option maxHeartbeats 4000000 in
set_option maxRecDepth 100000 in
theorem d_leadsT {Q0 Q1 Q2 Q3 Q4 : wt_P} {ql qr qk qo : Nat → Int32} {QS QT : wt_S} {QF : wt_F} {QH : wt_H} {qt : Int32} {B : wb} {rl : Nat → Int32} {Z : mt_S} {cl : Nat → Int32} {hc : mt_H} {sl tk : Int32} {kp : mt_K} {pa : Nat → Int32} {tr : mt_T} {co : Int32} {rest : xm_O} {x y : Int32} (hM : okM B rl) (h : ¬ (gw x 0 47 ∧ gw y 0 47)) : xm_M y_Md_leads (Cond.code y_Md_leads b_Md_leads 3 (some .boolean)) (xm_rm 2 0 0) [.ref 36, .int x, .int y] (wd Q0 Q1 Q2 Q3 Q4 ql qr qk qo QS QT QF QH qt ++ (wMB B rl Z cl hc sl tk kp pa tr co ++ rest)) (xm_eq (.inl (some (.int 0))) (wd Q0 Q1 Q2 Q3 Q4 ql qr qk qo QS QT QF QH qt ++ (wMB B rl Z cl hc sl tk kp pa tr 1 ++ rest))) := by
  obtain ⟨⟨f0, g0, n0⟩, ⟨f1, g1, n1⟩, ⟨f2, g2, n2⟩, ⟨f3, g3, n3⟩, ⟨f4, g4, n4⟩, pl, dr, ki, ow⟩ := B
  have hB := hM.1
  have hrl := hM.2
  obtain ⟨⟨h0, hp0⟩, ⟨h1, hp1⟩, ⟨h2, hp2⟩, ⟨h3, hp3⟩, ⟨h4, hp4⟩, hk⟩ := id hB
  dsimp only at h0 h1 h2 h3 h4 hp0 hp1 hp2 hp3 hp4 hk hrl
  refine xm_of (by decide) (Nat.le_of_ble_eq_true rfl) (fun E C0 => ?_)
  refine xs_eq (ω' := (wd Q0 Q1 Q2 Q3 Q4 ql qr qk qo QS QT QF QH qt ++ (wM (f0, g0, nI n0) (f1, g1, nI n1) (f2, g2, nI n2) (f3, g3, nI n3) (f4, g4, nI n4) pl dr ki rl Z cl hc sl tk kp pa tr co ++ rest))) (lv' := [(0, .ref 36), (1, .int x), (2, .int y)]) rfl rfl rfl ?_
  by_cases ha : gw x 0 47
  · refine xs_aload_n C0 d_Md_leads_0 rfl 0 rfl ?_
    refine xs_iload_n C0 d_Md_leads_1 rfl 1 rfl ?_
    refine xs_cS1 (ω' := (wd Q0 Q1 Q2 Q3 Q4 ql qr qk qo QS QT QF QH qt ++ (wM (f0, g0, nI n0) (f1, g1, nI n1) (f2, g2, nI n2) (f3, g3, nI n3) (f4, g4, nI n4) pl dr ki rl Z cl hc sl tk kp pa tr co ++ rest))) (av := [.int x]) (st := [.ref 36]) (kc' := 0) (ks' := 0) (v := .int 1) C0 d_Md_leads_2 l_Md_100 (d_nd1 _ x ha) rfl rfl rfl (Nat.le_of_ble_eq_true rfl) (Nat.le_of_ble_eq_true rfl) (Nat.le_of_ble_eq_true rfl) (Nat.le_of_ble_eq_true rfl) (Nat.le_of_ble_eq_true rfl) (Nat.le_of_ble_eq_true rfl) ?_
    refine xs_if_eq (tgt := 19) C0 d_Md_leads_5 (by decide) (fun c9 => absurd c9 (by decide)) (fun _ => ?_)
    refine xs_iload_n C0 d_Md_leads_8 rfl 2 rfl ?_
    refine xs_cS1 (ω' := (wd Q0 Q1 Q2 Q3 Q4 ql qr qk qo QS QT QF QH qt ++ (wM (f0, g0, nI n0) (f1, g1, nI n1) (f2, g2, nI n2) (f3, g3, nI n3) (f4, g4, nI n4) pl dr ki rl Z cl hc sl tk kp pa tr co ++ rest))) (av := [.int y]) (st := [.ref 36]) (kc' := 0) (ks' := 0) (v := .int 0) C0 d_Md_leads_9 l_Md_100 (d_nd0 _ y (fun h9 => h ⟨ha, h9⟩)) rfl rfl rfl (Nat.le_of_ble_eq_true rfl) (Nat.le_of_ble_eq_true rfl) (Nat.le_of_ble_eq_true rfl) (Nat.le_of_ble_eq_true rfl) (Nat.le_of_ble_eq_true rfl) (Nat.le_of_ble_eq_true rfl) ?_
    refine xs_if_eq (tgt := 19) C0 d_Md_leads_12 (by decide) (fun _ => ?_) (fun c9 => absurd rfl c9)
    refine xs_iconst (v := 1) C0 d_Md_leads_19 (by decide) ?_
    refine xs_put (ω' := (wd Q0 Q1 Q2 Q3 Q4 ql qr qk qo QS QT QF QH qt ++ (wM (f0, g0, nI n0) (f1, g1, nI n1) (f2, g2, nI n2) (f3, g3, nI n3) (f4, g4, nI n4) pl dr ki rl Z cl hc sl tk kp pa tr 1 ++ rest))) C0 f_Md_92 ty_Md_0 d_Md_leads_20 rfl (Nat.le_of_ble_eq_true rfl) (fun _ => ⟨rfl, rfl⟩) rfl ?_
    refine xs_aload_n C0 d_Md_leads_23 rfl 0 rfl ?_
    refine xs_get (q := 36) (v := .int 1) C0 f_Md_92 d_Md_leads_24 rfl rfl ?_
    refine xs_if_le (tgt := 32) C0 d_Md_leads_27 (by decide) (fun c9 => absurd c9 (by decide)) (fun _ => ?_)
    refine xs_iconst (v := 0) C0 d_Md_leads_30 (by decide) ?_
    exact xs_zret C0 d_Md_leads_31 (by decide) (⟨rfl, rfl⟩) (Nat.le_of_ble_eq_true rfl) (Nat.le_of_ble_eq_true rfl)
  · refine xs_aload_n C0 d_Md_leads_0 rfl 0 rfl ?_
    refine xs_iload_n C0 d_Md_leads_1 rfl 1 rfl ?_
    refine xs_cS1 (ω' := (wd Q0 Q1 Q2 Q3 Q4 ql qr qk qo QS QT QF QH qt ++ (wM (f0, g0, nI n0) (f1, g1, nI n1) (f2, g2, nI n2) (f3, g3, nI n3) (f4, g4, nI n4) pl dr ki rl Z cl hc sl tk kp pa tr co ++ rest))) (av := [.int x]) (st := [.ref 36]) (kc' := 0) (ks' := 0) (v := .int 0) C0 d_Md_leads_2 l_Md_100 (d_nd0 _ x ha) rfl rfl rfl (Nat.le_of_ble_eq_true rfl) (Nat.le_of_ble_eq_true rfl) (Nat.le_of_ble_eq_true rfl) (Nat.le_of_ble_eq_true rfl) (Nat.le_of_ble_eq_true rfl) (Nat.le_of_ble_eq_true rfl) ?_
    refine xs_if_eq (tgt := 19) C0 d_Md_leads_5 (by decide) (fun _ => ?_) (fun c9 => absurd rfl c9)
    refine xs_iconst (v := 1) C0 d_Md_leads_19 (by decide) ?_
    refine xs_put (ω' := (wd Q0 Q1 Q2 Q3 Q4 ql qr qk qo QS QT QF QH qt ++ (wM (f0, g0, nI n0) (f1, g1, nI n1) (f2, g2, nI n2) (f3, g3, nI n3) (f4, g4, nI n4) pl dr ki rl Z cl hc sl tk kp pa tr 1 ++ rest))) C0 f_Md_92 ty_Md_0 d_Md_leads_20 rfl (Nat.le_of_ble_eq_true rfl) (fun _ => ⟨rfl, rfl⟩) rfl ?_
    refine xs_aload_n C0 d_Md_leads_23 rfl 0 rfl ?_
    refine xs_get (q := 36) (v := .int 1) C0 f_Md_92 d_Md_leads_24 rfl rfl ?_
    refine xs_if_le (tgt := 32) C0 d_Md_leads_27 (by decide) (fun c9 => absurd c9 (by decide)) (fun _ => ?_)
    refine xs_iconst (v := 0) C0 d_Md_leads_30 (by decide) ?_
    exact xs_zret C0 d_Md_leads_31 (by decide) (⟨rfl, rfl⟩) (Nat.le_of_ble_eq_true rfl) (Nat.le_of_ble_eq_true rfl)
