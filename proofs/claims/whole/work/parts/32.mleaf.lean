set_option maxHeartbeats 4000000 in
set_option maxRecDepth 100000 in
theorem d_in1 (ω : xm_O) (x a b : Int32) (h : gw x a b) : xm_M y_Md_in (Cond.code y_Md_in b_Md_in 3 (some .boolean)) (xm_rm 0 0 0) [.int x, .int a, .int b] ω (xm_eq (.inl (some (.int 1))) ω) := by
  refine xm_of (by decide) (Nat.le_of_ble_eq_true rfl) (fun E C0 => ?_)
  refine xs_eq (lv' := [(0, .int x), (1, .int a), (2, .int b)]) rfl rfl rfl ?_
  refine xs_iload_n C0 d_Md_in_0 rfl 0 rfl ?_
  refine xs_iload_n C0 d_Md_in_1 rfl 1 rfl ?_
  refine xs_icmp_lt (tgt := 14) C0 d_Md_in_2 (by decide) (fun c9 => absurd c9 h.1) (fun _ => ?_)
  refine xs_iload_n C0 d_Md_in_5 rfl 0 rfl ?_
  refine xs_iload_n C0 d_Md_in_6 rfl 2 rfl ?_
  refine xs_bi_gt (u := 1) (v := 0) (tgt := 14) (J := 15) C0 d_Md_in_7 (by decide) d_Md_in_10 (by decide) d_Md_in_11 (by decide) d_Md_in_14 (by decide) rfl ?_
  exact xs_zret C0 d_Md_in_15 xm_b01 (⟨by rw [if_pos (Int32.not_lt.mpr h.2)], rfl⟩) (Nat.le_of_ble_eq_true rfl) (Nat.le_of_ble_eq_true rfl)
set_option maxHeartbeats 4000000 in
set_option maxRecDepth 100000 in
theorem d_in0 (ω : xm_O) (x a b : Int32) (h : ¬ gw x a b) : xm_M y_Md_in (Cond.code y_Md_in b_Md_in 3 (some .boolean)) (xm_rm 0 0 0) [.int x, .int a, .int b] ω (xm_eq (.inl (some (.int 0))) ω) := by
  refine xm_of (by decide) (Nat.le_of_ble_eq_true rfl) (fun E C0 => ?_)
  refine xs_eq (lv' := [(0, .int x), (1, .int a), (2, .int b)]) rfl rfl rfl ?_
  refine xs_iload_n C0 d_Md_in_0 rfl 0 rfl ?_
  refine xs_iload_n C0 d_Md_in_1 rfl 1 rfl ?_
  refine xs_icmp_lt (tgt := 14) C0 d_Md_in_2 (by decide) (fun c1 => ?_) (fun c1 => ?_)
  · refine xs_iconst (v := 0) C0 d_Md_in_14 (by decide) ?_
    exact xs_zret C0 d_Md_in_15 (Or.inl rfl) (⟨rfl, rfl⟩) (Nat.le_of_ble_eq_true rfl) (Nat.le_of_ble_eq_true rfl)
  · refine xs_iload_n C0 d_Md_in_5 rfl 0 rfl ?_
    refine xs_iload_n C0 d_Md_in_6 rfl 2 rfl ?_
    refine xs_bi_gt (u := 1) (v := 0) (tgt := 14) (J := 15) C0 d_Md_in_7 (by decide) d_Md_in_10 (by decide) d_Md_in_11 (by decide) d_Md_in_14 (by decide) rfl ?_
    exact xs_zret C0 d_Md_in_15 xm_b01 (⟨by rw [if_neg (fun h9 => h ⟨c1, Int32.not_lt.mp h9⟩)], rfl⟩) (Nat.le_of_ble_eq_true rfl) (Nat.le_of_ble_eq_true rfl)
set_option maxHeartbeats 4000000 in
set_option maxRecDepth 100000 in
theorem d_nd1 (ω : xm_O) (x : Int32) (h : gw x 0 47) : xm_M y_Md_isNode (Cond.code y_Md_isNode b_Md_isNode 1 (some .boolean)) (xm_rm 1 0 0) [.int x] ω (xm_eq (.inl (some (.int 1))) ω) := by
  refine xm_of (by decide) (Nat.le_of_ble_eq_true rfl) (fun E C0 => ?_)
  refine xs_eq (lv' := [(0, .int x)]) rfl rfl rfl ?_
  refine xs_iload_n C0 d_Md_isNode_0 rfl 0 rfl ?_
  refine xs_iconst (v := 0) C0 d_Md_isNode_1 (by decide) ?_
  refine xs_bipush (v := 47) C0 d_Md_isNode_2 (by decide) ?_
  refine xs_cS1 (ω' := ω) (av := [.int x, .int 0, .int 47]) (st := []) (kc' := 0) (ks' := 0) (v := .int 1) C0 d_Md_isNode_4 l_Md_96 (d_in1 _ x 0 47 h) rfl rfl rfl (Nat.le_of_ble_eq_true rfl) (Nat.le_of_ble_eq_true rfl) (Nat.le_of_ble_eq_true rfl) (Nat.le_of_ble_eq_true rfl) (Nat.le_of_ble_eq_true rfl) (Nat.le_of_ble_eq_true rfl) ?_
  exact xs_zret C0 d_Md_isNode_7 (by decide) (⟨rfl, rfl⟩) (Nat.le_of_ble_eq_true rfl) (Nat.le_of_ble_eq_true rfl)
set_option maxHeartbeats 4000000 in
set_option maxRecDepth 100000 in
theorem d_nd0 (ω : xm_O) (x : Int32) (h : ¬ gw x 0 47) : xm_M y_Md_isNode (Cond.code y_Md_isNode b_Md_isNode 1 (some .boolean)) (xm_rm 1 0 0) [.int x] ω (xm_eq (.inl (some (.int 0))) ω) := by
  refine xm_of (by decide) (Nat.le_of_ble_eq_true rfl) (fun E C0 => ?_)
  refine xs_eq (lv' := [(0, .int x)]) rfl rfl rfl ?_
  refine xs_iload_n C0 d_Md_isNode_0 rfl 0 rfl ?_
  refine xs_iconst (v := 0) C0 d_Md_isNode_1 (by decide) ?_
  refine xs_bipush (v := 47) C0 d_Md_isNode_2 (by decide) ?_
  refine xs_cS1 (ω' := ω) (av := [.int x, .int 0, .int 47]) (st := []) (kc' := 0) (ks' := 0) (v := .int 0) C0 d_Md_isNode_4 l_Md_96 (d_in0 _ x 0 47 h) rfl rfl rfl (Nat.le_of_ble_eq_true rfl) (Nat.le_of_ble_eq_true rfl) (Nat.le_of_ble_eq_true rfl) (Nat.le_of_ble_eq_true rfl) (Nat.le_of_ble_eq_true rfl) (Nat.le_of_ble_eq_true rfl) ?_
  exact xs_zret C0 d_Md_isNode_7 (by decide) (⟨rfl, rfl⟩) (Nat.le_of_ble_eq_true rfl) (Nat.le_of_ble_eq_true rfl)
set_option maxHeartbeats 4000000 in
set_option maxRecDepth 100000 in
theorem d_nn1 (ω : xm_O) (a b : Int32) (h : g2 a b) : xm_M y_Md_areNodes (Cond.code y_Md_areNodes b_Md_areNodes 2 (some .boolean)) (xm_rm 2 0 0) [.int a, .int b] ω (xm_eq (.inl (some (.int 1))) ω) := by
  refine xm_of (by decide) (Nat.le_of_ble_eq_true rfl) (fun E C0 => ?_)
  refine xs_eq (lv' := [(0, .int a), (1, .int b)]) rfl rfl rfl ?_
  refine xs_iload_n C0 d_Md_areNodes_0 rfl 0 rfl ?_
  refine xs_cS1 (ω' := ω) (av := [.int a]) (st := []) (kc' := 0) (ks' := 0) (v := .int 1) C0 d_Md_areNodes_1 l_Md_100 (d_nd1 _ a h.1) rfl rfl rfl (Nat.le_of_ble_eq_true rfl) (Nat.le_of_ble_eq_true rfl) (Nat.le_of_ble_eq_true rfl) (Nat.le_of_ble_eq_true rfl) (Nat.le_of_ble_eq_true rfl) (Nat.le_of_ble_eq_true rfl) ?_
  refine xs_if_eq (tgt := 23) C0 d_Md_areNodes_4 (by decide) (fun c9 => absurd c9 (by decide)) (fun _ => ?_)
  refine xs_iload_n C0 d_Md_areNodes_7 rfl 1 rfl ?_
  refine xs_cS1 (ω' := ω) (av := [.int b]) (st := []) (kc' := 0) (ks' := 0) (v := .int 1) C0 d_Md_areNodes_8 l_Md_100 (d_nd1 _ b h.2.1) rfl rfl rfl (Nat.le_of_ble_eq_true rfl) (Nat.le_of_ble_eq_true rfl) (Nat.le_of_ble_eq_true rfl) (Nat.le_of_ble_eq_true rfl) (Nat.le_of_ble_eq_true rfl) (Nat.le_of_ble_eq_true rfl) ?_
  refine xs_if_eq (tgt := 23) C0 d_Md_areNodes_11 (by decide) (fun c9 => absurd c9 (by decide)) (fun _ => ?_)
  refine xs_iload_n C0 d_Md_areNodes_14 rfl 0 rfl ?_
  refine xs_iload_n C0 d_Md_areNodes_15 rfl 1 rfl ?_
  refine xs_bi_eq (u := 1) (v := 0) (tgt := 23) (J := 24) C0 d_Md_areNodes_16 (by decide) d_Md_areNodes_19 (by decide) d_Md_areNodes_20 (by decide) d_Md_areNodes_23 (by decide) rfl ?_
  exact xs_zret C0 d_Md_areNodes_24 xm_b01 (⟨by rw [if_pos h.2.2], rfl⟩) (Nat.le_of_ble_eq_true rfl) (Nat.le_of_ble_eq_true rfl)
set_option maxHeartbeats 4000000 in
set_option maxRecDepth 100000 in
theorem d_nn0 (ω : xm_O) (a b : Int32) (h : ¬ g2 a b) : xm_M y_Md_areNodes (Cond.code y_Md_areNodes b_Md_areNodes 2 (some .boolean)) (xm_rm 2 0 0) [.int a, .int b] ω (xm_eq (.inl (some (.int 0))) ω) := by
  refine xm_of (by decide) (Nat.le_of_ble_eq_true rfl) (fun E C0 => ?_)
  refine xs_eq (lv' := [(0, .int a), (1, .int b)]) rfl rfl rfl ?_
  by_cases ha : gw a 0 47
  · by_cases hb : gw b 0 47
    · refine xs_iload_n C0 d_Md_areNodes_0 rfl 0 rfl ?_
      refine xs_cS1 (ω' := ω) (av := [.int a]) (st := []) (kc' := 0) (ks' := 0) (v := .int 1) C0 d_Md_areNodes_1 l_Md_100 (d_nd1 _ a ha) rfl rfl rfl (Nat.le_of_ble_eq_true rfl) (Nat.le_of_ble_eq_true rfl) (Nat.le_of_ble_eq_true rfl) (Nat.le_of_ble_eq_true rfl) (Nat.le_of_ble_eq_true rfl) (Nat.le_of_ble_eq_true rfl) ?_
      refine xs_if_eq (tgt := 23) C0 d_Md_areNodes_4 (by decide) (fun c9 => absurd c9 (by decide)) (fun _ => ?_)
      refine xs_iload_n C0 d_Md_areNodes_7 rfl 1 rfl ?_
      refine xs_cS1 (ω' := ω) (av := [.int b]) (st := []) (kc' := 0) (ks' := 0) (v := .int 1) C0 d_Md_areNodes_8 l_Md_100 (d_nd1 _ b hb) rfl rfl rfl (Nat.le_of_ble_eq_true rfl) (Nat.le_of_ble_eq_true rfl) (Nat.le_of_ble_eq_true rfl) (Nat.le_of_ble_eq_true rfl) (Nat.le_of_ble_eq_true rfl) (Nat.le_of_ble_eq_true rfl) ?_
      refine xs_if_eq (tgt := 23) C0 d_Md_areNodes_11 (by decide) (fun c9 => absurd c9 (by decide)) (fun _ => ?_)
      refine xs_iload_n C0 d_Md_areNodes_14 rfl 0 rfl ?_
      refine xs_iload_n C0 d_Md_areNodes_15 rfl 1 rfl ?_
      refine xs_bi_eq (u := 1) (v := 0) (tgt := 23) (J := 24) C0 d_Md_areNodes_16 (by decide) d_Md_areNodes_19 (by decide) d_Md_areNodes_20 (by decide) d_Md_areNodes_23 (by decide) rfl ?_
      exact xs_zret C0 d_Md_areNodes_24 xm_b01 (⟨by rw [if_neg (fun h9 => h ⟨ha, hb, h9⟩)], rfl⟩) (Nat.le_of_ble_eq_true rfl) (Nat.le_of_ble_eq_true rfl)
    · refine xs_iload_n C0 d_Md_areNodes_0 rfl 0 rfl ?_
      refine xs_cS1 (ω' := ω) (av := [.int a]) (st := []) (kc' := 0) (ks' := 0) (v := .int 1) C0 d_Md_areNodes_1 l_Md_100 (d_nd1 _ a ha) rfl rfl rfl (Nat.le_of_ble_eq_true rfl) (Nat.le_of_ble_eq_true rfl) (Nat.le_of_ble_eq_true rfl) (Nat.le_of_ble_eq_true rfl) (Nat.le_of_ble_eq_true rfl) (Nat.le_of_ble_eq_true rfl) ?_
      refine xs_if_eq (tgt := 23) C0 d_Md_areNodes_4 (by decide) (fun c9 => absurd c9 (by decide)) (fun _ => ?_)
      refine xs_iload_n C0 d_Md_areNodes_7 rfl 1 rfl ?_
      refine xs_cS1 (ω' := ω) (av := [.int b]) (st := []) (kc' := 0) (ks' := 0) (v := .int 0) C0 d_Md_areNodes_8 l_Md_100 (d_nd0 _ b hb) rfl rfl rfl (Nat.le_of_ble_eq_true rfl) (Nat.le_of_ble_eq_true rfl) (Nat.le_of_ble_eq_true rfl) (Nat.le_of_ble_eq_true rfl) (Nat.le_of_ble_eq_true rfl) (Nat.le_of_ble_eq_true rfl) ?_
      refine xs_if_eq (tgt := 23) C0 d_Md_areNodes_11 (by decide) (fun _ => ?_) (fun c9 => absurd rfl c9)
      refine xs_iconst (v := 0) C0 d_Md_areNodes_23 (by decide) ?_
      exact xs_zret C0 d_Md_areNodes_24 (by decide) (⟨rfl, rfl⟩) (Nat.le_of_ble_eq_true rfl) (Nat.le_of_ble_eq_true rfl)
  · refine xs_iload_n C0 d_Md_areNodes_0 rfl 0 rfl ?_
    refine xs_cS1 (ω' := ω) (av := [.int a]) (st := []) (kc' := 0) (ks' := 0) (v := .int 0) C0 d_Md_areNodes_1 l_Md_100 (d_nd0 _ a ha) rfl rfl rfl (Nat.le_of_ble_eq_true rfl) (Nat.le_of_ble_eq_true rfl) (Nat.le_of_ble_eq_true rfl) (Nat.le_of_ble_eq_true rfl) (Nat.le_of_ble_eq_true rfl) (Nat.le_of_ble_eq_true rfl) ?_
    refine xs_if_eq (tgt := 23) C0 d_Md_areNodes_4 (by decide) (fun _ => ?_) (fun c9 => absurd rfl c9)
    refine xs_iconst (v := 0) C0 d_Md_areNodes_23 (by decide) ?_
    exact xs_zret C0 d_Md_areNodes_24 (by decide) (⟨rfl, rfl⟩) (Nat.le_of_ble_eq_true rfl) (Nat.le_of_ble_eq_true rfl)
set_option maxHeartbeats 4000000 in
set_option maxRecDepth 100000 in
theorem d_thrown {Q0 Q1 Q2 Q3 Q4 : wt_P} {ql qr qk qo : Nat → Int32} {QS QT : wt_S} {QF : wt_F} {QH : wt_H} {qt : Int32} {P0 : wt_P} {P1 : wt_P} {P2 : wt_P} {P3 : wt_P} {P4 : wt_P} {pl dr ki rl : Nat → Int32} {Z : mt_S} {cl : Nat → Int32} {hc : mt_H} {sl tk : Int32} {kp : mt_K} {pa : Nat → Int32} {tr : mt_T} {co : Int32} {rest : xm_O} : xm_M y_Md_thrown (Cond.code y_Md_thrown b_Md_thrown 1 (some .int)) (xm_rm 0 0 0) [.ref 36] (wd Q0 Q1 Q2 Q3 Q4 ql qr qk qo QS QT QF QH qt ++ (wM P0 P1 P2 P3 P4 pl dr ki rl Z cl hc sl tk kp pa tr co ++ rest)) (xm_eq (.inl (some (.int co))) (wd Q0 Q1 Q2 Q3 Q4 ql qr qk qo QS QT QF QH qt ++ (wM P0 P1 P2 P3 P4 pl dr ki rl Z cl hc sl tk kp pa tr co ++ rest))) := by
  refine xm_of (by decide) (Nat.le_of_ble_eq_true rfl) (fun E C0 => ?_)
  refine xs_eq (lv' := [(0, .ref 36)]) rfl rfl rfl ?_
  refine xs_aload_n C0 d_Md_thrown_0 rfl 0 rfl ?_
  refine xs_get (q := 36) (v := .int co) C0 f_Md_92 d_Md_thrown_1 rfl rfl ?_
  exact xs_iret C0 d_Md_thrown_4 (⟨rfl, rfl⟩) (Nat.le_of_ble_eq_true rfl) (Nat.le_of_ble_eq_true rfl)
def m_more (sl r : Int32) : Int32 := (sl >>> (r &&& 31)) &&& 1
set_option maxHeartbeats 4000000 in
set_option maxRecDepth 100000 in
theorem d_more {Q0 Q1 Q2 Q3 Q4 : wt_P} {ql qr qk qo : Nat → Int32} {QS QT : wt_S} {QF : wt_F} {QH : wt_H} {qt : Int32} {P0 : wt_P} {P1 : wt_P} {P2 : wt_P} {P3 : wt_P} {P4 : wt_P} {pl dr ki rl : Nat → Int32} {Z : mt_S} {cl : Nat → Int32} {hc : mt_H} {sl tk : Int32} {kp : mt_K} {pa : Nat → Int32} {tr : mt_T} {co : Int32} {rest : xm_O} {r : Int32} : xm_M y_Md_more (Cond.code y_Md_more b_Md_more 2 (some .int)) (xm_rm 0 0 0) [.ref 36, .int r] (wd Q0 Q1 Q2 Q3 Q4 ql qr qk qo QS QT QF QH qt ++ (wM P0 P1 P2 P3 P4 pl dr ki rl Z cl hc sl tk kp pa tr co ++ rest)) (xm_eq (.inl (some (.int (m_more sl r)))) (wd Q0 Q1 Q2 Q3 Q4 ql qr qk qo QS QT QF QH qt ++ (wM P0 P1 P2 P3 P4 pl dr ki rl Z cl hc sl tk kp pa tr co ++ rest))) := by
  refine xm_of (by decide) (Nat.le_of_ble_eq_true rfl) (fun E C0 => ?_)
  refine xs_eq (lv' := [(0, .ref 36), (1, .int r)]) rfl rfl rfl ?_
  refine xs_aload_n C0 d_Md_more_0 rfl 0 rfl ?_
  refine xs_get (q := 36) (v := .int sl) C0 f_Md_144 d_Md_more_1 rfl rfl ?_
  refine xs_iload_n C0 d_Md_more_4 rfl 1 rfl ?_
  refine xs_ishr C0 d_Md_more_5 ?_
  refine xs_iconst (v := 1) C0 d_Md_more_6 (by decide) ?_
  refine xs_iand C0 d_Md_more_7 ?_
  exact xs_iret C0 d_Md_more_8 (⟨rfl, rfl⟩) (Nat.le_of_ble_eq_true rfl) (Nat.le_of_ble_eq_true rfl)
def m_hold (Z : mt_S) (r s : Int32) : mt_S := (upd Z.1 r.toNatClampNeg s, upd Z.2.1 r.toNatClampNeg 0, Z.2.2.1, Z.2.2.2)
def m_set (Z : mt_S) (r s n : Int32) : mt_S := (upd Z.1 r.toNatClampNeg s, upd Z.2.1 r.toNatClampNeg n, Z.2.2.1, Z.2.2.2)
def m_wear (Z : mt_S) (r : Int32) : mt_S := (Z.1, Z.2.1, upd Z.2.2.1 r.toNatClampNeg (Z.2.2.1 r.toNatClampNeg + 1), Z.2.2.2)
set_option maxHeartbeats 4000000 in
set_option maxRecDepth 100000 in
theorem d_hold {Q0 Q1 Q2 Q3 Q4 : wt_P} {ql qr qk qo : Nat → Int32} {QS QT : wt_S} {QF : wt_F} {QH : wt_H} {qt : Int32} {P0 : wt_P} {P1 : wt_P} {P2 : wt_P} {P3 : wt_P} {P4 : wt_P} {pl dr ki rl : Nat → Int32} {Z : mt_S} {cl : Nat → Int32} {hc : mt_H} {sl tk : Int32} {kp : mt_K} {pa : Nat → Int32} {tr : mt_T} {co : Int32} {rest : xm_O} {Z1 : mt_S} {r s : Int32} (hr : vp_in r 16) (hf : m_hold Z r s = Z1) : xm_M y_Md_hold (Cond.code y_Md_hold b_Md_hold 3 none) (xm_rm 0 0 0) [.ref 36, .int r, .int s] (wd Q0 Q1 Q2 Q3 Q4 ql qr qk qo QS QT QF QH qt ++ (wM P0 P1 P2 P3 P4 pl dr ki rl Z cl hc sl tk kp pa tr co ++ rest)) (xm_eq (.inl none) (wd Q0 Q1 Q2 Q3 Q4 ql qr qk qo QS QT QF QH qt ++ (wM P0 P1 P2 P3 P4 pl dr ki rl Z1 cl hc sl tk kp pa tr co ++ rest))) := by
  refine xm_of (by decide) (Nat.le_of_ble_eq_true rfl) (fun E C0 => ?_)
  refine xs_eq (lv' := [(0, .ref 36), (1, .int r), (2, .int s)]) rfl rfl rfl ?_
  refine xs_aload_n C0 d_Md_hold_0 rfl 0 rfl ?_
  refine xs_get (q := 36) (v := .ref 41) C0 f_Md_22 d_Md_hold_1 rfl rfl ?_
  refine xs_iload_n C0 d_Md_hold_4 rfl 1 rfl ?_
  refine xs_iload_n C0 d_Md_hold_5 rfl 2 rfl ?_
  obtain ⟨ms_1, mc_1, mw_1, mb_1⟩ := Z
  refine xs_iast (ω' := (wd Q0 Q1 Q2 Q3 Q4 ql qr qk qo QS QT QF QH qt ++ (wM P0 P1 P2 P3 P4 pl dr ki rl (upd ms_1 r.toNatClampNeg s, mc_1, mw_1, mb_1) cl hc sl tk kp pa tr co ++ rest))) C0 d_Md_hold_6 rfl (by assumption) rfl ?_
  refine xs_aload_n C0 d_Md_hold_7 rfl 0 rfl ?_
  refine xs_get (q := 36) (v := .ref 42) C0 f_Md_25 d_Md_hold_8 rfl rfl ?_
  refine xs_iload_n C0 d_Md_hold_11 rfl 1 rfl ?_
  refine xs_iconst (v := 0) C0 d_Md_hold_12 (by decide) ?_
  refine xs_iast (ω' := (wd Q0 Q1 Q2 Q3 Q4 ql qr qk qo QS QT QF QH qt ++ (wM P0 P1 P2 P3 P4 pl dr ki rl (upd ms_1 r.toNatClampNeg s, upd mc_1 r.toNatClampNeg 0, mw_1, mb_1) cl hc sl tk kp pa tr co ++ rest))) C0 d_Md_hold_13 rfl (by assumption) rfl ?_
  subst hf
  exact xs_vret C0 d_Md_hold_14 (⟨rfl, rfl⟩) (Nat.le_of_ble_eq_true rfl) (Nat.le_of_ble_eq_true rfl)
def m_rise (Z : mt_S) (r n q : Int32) : mt_S := if q ≤ n then m_wear (m_hold (m_set Z r 1 n) r 2) r else m_set Z r 1 n
def m_fall (Z : mt_S) (r n q : Int32) : mt_S := if n < q then m_set Z r 3 n else m_hold (m_set Z r 3 n) r 0
set_option maxHeartbeats 4000000 in
set_option maxRecDepth 100000 in
theorem d_rise {Q0 Q1 Q2 Q3 Q4 : wt_P} {ql qr qk qo : Nat → Int32} {QS QT : wt_S} {QF : wt_F} {QH : wt_H} {qt : Int32} {P0 : wt_P} {P1 : wt_P} {P2 : wt_P} {P3 : wt_P} {P4 : wt_P} {pl dr ki rl : Nat → Int32} {Z : mt_S} {cl : Nat → Int32} {hc : mt_H} {sl tk : Int32} {kp : mt_K} {pa : Nat → Int32} {tr : mt_T} {co : Int32} {rest : xm_O} {Z1 : mt_S} {r n : Int32} (hr : vp_in r 16) (hf : m_rise Z r n (pl r.toNatClampNeg + m_more sl r) = Z1) : xm_M y_Md_rise (Cond.code y_Md_rise b_Md_rise 3 none) (xm_rm 1 0 0) [.ref 36, .int r, .int n] (wd Q0 Q1 Q2 Q3 Q4 ql qr qk qo QS QT QF QH qt ++ (wM P0 P1 P2 P3 P4 pl dr ki rl Z cl hc sl tk kp pa tr co ++ rest)) (xm_eq (.inl none) (wd Q0 Q1 Q2 Q3 Q4 ql qr qk qo QS QT QF QH qt ++ (wM P0 P1 P2 P3 P4 pl dr ki rl Z1 cl hc sl tk kp pa tr co ++ rest))) := by
  refine xm_of (by decide) (Nat.le_of_ble_eq_true rfl) (fun E C0 => ?_)
  refine xs_eq (lv' := [(0, .ref 36), (1, .int r), (2, .int n)]) rfl rfl rfl ?_
  refine xs_aload_n C0 d_Md_rise_0 rfl 0 rfl ?_
  refine xs_get (q := 36) (v := .ref 41) C0 f_Md_22 d_Md_rise_1 rfl rfl ?_
  refine xs_iload_n C0 d_Md_rise_4 rfl 1 rfl ?_
  refine xs_iconst (v := 1) C0 d_Md_rise_5 (by decide) ?_
  obtain ⟨ms_1, mc_1, mw_1, mb_1⟩ := Z
  refine xs_iast (ω' := (wd Q0 Q1 Q2 Q3 Q4 ql qr qk qo QS QT QF QH qt ++ (wM P0 P1 P2 P3 P4 pl dr ki rl (upd ms_1 r.toNatClampNeg 1, mc_1, mw_1, mb_1) cl hc sl tk kp pa tr co ++ rest))) C0 d_Md_rise_6 rfl (by assumption) rfl ?_
  refine xs_aload_n C0 d_Md_rise_7 rfl 0 rfl ?_
  refine xs_get (q := 36) (v := .ref 42) C0 f_Md_25 d_Md_rise_8 rfl rfl ?_
  refine xs_iload_n C0 d_Md_rise_11 rfl 1 rfl ?_
  refine xs_iload_n C0 d_Md_rise_12 rfl 2 rfl ?_
  refine xs_iast (ω' := (wd Q0 Q1 Q2 Q3 Q4 ql qr qk qo QS QT QF QH qt ++ (wM P0 P1 P2 P3 P4 pl dr ki rl (upd ms_1 r.toNatClampNeg 1, upd mc_1 r.toNatClampNeg n, mw_1, mb_1) cl hc sl tk kp pa tr co ++ rest))) C0 d_Md_rise_13 rfl (by assumption) rfl ?_
  refine xs_iload_n C0 d_Md_rise_14 rfl 2 rfl ?_
  refine xs_aload_n C0 d_Md_rise_15 rfl 0 rfl ?_
  refine xs_pc (pc' := 16) rfl ?_
  refine xs_get (q := 36) (v := .ref 39) C0 f_Md_16 d_Md_rise_16 rfl rfl ?_
  refine xs_iload_n C0 d_Md_rise_19 rfl 1 rfl ?_
  refine xs_iald C0 d_Md_rise_20 rfl (by assumption) ?_
  refine xs_aload_n C0 d_Md_rise_21 rfl 0 rfl ?_
  refine xs_iload_n C0 d_Md_rise_22 rfl 1 rfl ?_
  refine xs_cV1 (ω' := (wd Q0 Q1 Q2 Q3 Q4 ql qr qk qo QS QT QF QH qt ++ (wM P0 P1 P2 P3 P4 pl dr ki rl (upd ms_1 r.toNatClampNeg 1, upd mc_1 r.toNatClampNeg n, mw_1, mb_1) cl hc sl tk kp pa tr co ++ rest))) (As := [.int r]) (st := [.int (pl r.toNatClampNeg), .int n]) (kc' := 0) (ks' := 0) (v := .int (m_more sl r)) C0 d_Md_rise_23 l_Md_164 rfl rfl d_more rfl rfl rfl (Nat.le_of_ble_eq_true rfl) (Nat.le_of_ble_eq_true rfl) (Nat.le_of_ble_eq_true rfl) (Nat.le_of_ble_eq_true rfl) (Nat.le_of_ble_eq_true rfl) (Nat.le_of_ble_eq_true rfl) ?_
  refine xs_iadd C0 d_Md_rise_26 ?_
  refine xs_icmp_ge (tgt := 31) C0 d_Md_rise_27 (by decide) (fun c1 => ?_) (fun c1 => ?_)
  · refine xs_aload_n C0 d_Md_rise_31 rfl 0 rfl ?_
    refine xs_iload_n C0 d_Md_rise_32 rfl 1 rfl ?_
    refine xs_iconst (v := 2) C0 d_Md_rise_33 (by decide) ?_
    obtain ⟨Z_2, hZ_2⟩ : ∃ X, m_hold (upd ms_1 r.toNatClampNeg 1, upd mc_1 r.toNatClampNeg n, mw_1, mb_1) r 2 = X := ⟨_, rfl⟩
    refine xs_cV0 (ω' := (wd Q0 Q1 Q2 Q3 Q4 ql qr qk qo QS QT QF QH qt ++ (wM P0 P1 P2 P3 P4 pl dr ki rl Z_2 cl hc sl tk kp pa tr co ++ rest))) (As := [.int r, .int 2]) (st := []) (kc' := 0) (ks' := 0) C0 d_Md_rise_34 l_Md_158 rfl rfl (d_hold (by assumption) hZ_2) rfl rfl rfl (Nat.le_of_ble_eq_true rfl) (Nat.le_of_ble_eq_true rfl) (Nat.le_of_ble_eq_true rfl) (Nat.le_of_ble_eq_true rfl) (Nat.le_of_ble_eq_true rfl) (Nat.le_of_ble_eq_true rfl) ?_
    refine xs_aload_n C0 d_Md_rise_37 rfl 0 rfl ?_
    refine xs_get (q := 36) (v := .ref 43) C0 f_Md_28 d_Md_rise_38 rfl rfl ?_
    refine xs_iload_n C0 d_Md_rise_41 rfl 1 rfl ?_
    refine xs_dup2_11 C0 d_Md_rise_42 rfl rfl ?_
    obtain ⟨ms_3, mc_3, mw_3, mb_3⟩ := Z_2
    refine xs_iald C0 d_Md_rise_43 rfl (by assumption) ?_
    refine xs_iconst (v := 1) C0 d_Md_rise_44 (by decide) ?_
    refine xs_iadd C0 d_Md_rise_45 ?_
    refine xs_iast (ω' := (wd Q0 Q1 Q2 Q3 Q4 ql qr qk qo QS QT QF QH qt ++ (wM P0 P1 P2 P3 P4 pl dr ki rl (ms_3, mc_3, upd mw_3 r.toNatClampNeg ((mw_3 r.toNatClampNeg) + 1), mb_3) cl hc sl tk kp pa tr co ++ rest))) C0 d_Md_rise_46 rfl (by assumption) rfl ?_
    refine xs_pc (pc' := 47) rfl ?_
    rw [m_rise, if_pos c1] at hf
    rw [show m_hold (m_set (ms_1, mc_1, mw_1, mb_1) r 1 n) r 2 = _ from hZ_2] at hf
    subst hf
    exact xs_vret C0 d_Md_rise_47 (⟨rfl, rfl⟩) (Nat.le_of_ble_eq_true rfl) (Nat.le_of_ble_eq_true rfl)
  · rw [m_rise, if_neg c1] at hf
    subst hf
    exact xs_vret C0 d_Md_rise_30 (⟨rfl, rfl⟩) (Nat.le_of_ble_eq_true rfl) (Nat.le_of_ble_eq_true rfl)
set_option maxHeartbeats 4000000 in
set_option maxRecDepth 100000 in
theorem d_fall {Q0 Q1 Q2 Q3 Q4 : wt_P} {ql qr qk qo : Nat → Int32} {QS QT : wt_S} {QF : wt_F} {QH : wt_H} {qt : Int32} {P0 : wt_P} {P1 : wt_P} {P2 : wt_P} {P3 : wt_P} {P4 : wt_P} {pl dr ki rl : Nat → Int32} {Z : mt_S} {cl : Nat → Int32} {hc : mt_H} {sl tk : Int32} {kp : mt_K} {pa : Nat → Int32} {tr : mt_T} {co : Int32} {rest : xm_O} {Z1 : mt_S} {r n : Int32} (hr : vp_in r 16) (hf : m_fall Z r n (dr r.toNatClampNeg + m_more sl r) = Z1) : xm_M y_Md_fall (Cond.code y_Md_fall b_Md_fall 3 none) (xm_rm 1 0 0) [.ref 36, .int r, .int n] (wd Q0 Q1 Q2 Q3 Q4 ql qr qk qo QS QT QF QH qt ++ (wM P0 P1 P2 P3 P4 pl dr ki rl Z cl hc sl tk kp pa tr co ++ rest)) (xm_eq (.inl none) (wd Q0 Q1 Q2 Q3 Q4 ql qr qk qo QS QT QF QH qt ++ (wM P0 P1 P2 P3 P4 pl dr ki rl Z1 cl hc sl tk kp pa tr co ++ rest))) := by
  refine xm_of (by decide) (Nat.le_of_ble_eq_true rfl) (fun E C0 => ?_)
  refine xs_eq (lv' := [(0, .ref 36), (1, .int r), (2, .int n)]) rfl rfl rfl ?_
  refine xs_aload_n C0 d_Md_fall_0 rfl 0 rfl ?_
  refine xs_get (q := 36) (v := .ref 41) C0 f_Md_22 d_Md_fall_1 rfl rfl ?_
  refine xs_iload_n C0 d_Md_fall_4 rfl 1 rfl ?_
  refine xs_iconst (v := 3) C0 d_Md_fall_5 (by decide) ?_
  obtain ⟨ms_1, mc_1, mw_1, mb_1⟩ := Z
  refine xs_iast (ω' := (wd Q0 Q1 Q2 Q3 Q4 ql qr qk qo QS QT QF QH qt ++ (wM P0 P1 P2 P3 P4 pl dr ki rl (upd ms_1 r.toNatClampNeg 3, mc_1, mw_1, mb_1) cl hc sl tk kp pa tr co ++ rest))) C0 d_Md_fall_6 rfl (by assumption) rfl ?_
  refine xs_aload_n C0 d_Md_fall_7 rfl 0 rfl ?_
  refine xs_get (q := 36) (v := .ref 42) C0 f_Md_25 d_Md_fall_8 rfl rfl ?_
  refine xs_iload_n C0 d_Md_fall_11 rfl 1 rfl ?_
  refine xs_iload_n C0 d_Md_fall_12 rfl 2 rfl ?_
  refine xs_iast (ω' := (wd Q0 Q1 Q2 Q3 Q4 ql qr qk qo QS QT QF QH qt ++ (wM P0 P1 P2 P3 P4 pl dr ki rl (upd ms_1 r.toNatClampNeg 3, upd mc_1 r.toNatClampNeg n, mw_1, mb_1) cl hc sl tk kp pa tr co ++ rest))) C0 d_Md_fall_13 rfl (by assumption) rfl ?_
  refine xs_iload_n C0 d_Md_fall_14 rfl 2 rfl ?_
  refine xs_aload_n C0 d_Md_fall_15 rfl 0 rfl ?_
  refine xs_pc (pc' := 16) rfl ?_
  refine xs_get (q := 36) (v := .ref 40) C0 f_Md_19 d_Md_fall_16 rfl rfl ?_
  refine xs_iload_n C0 d_Md_fall_19 rfl 1 rfl ?_
  refine xs_iald C0 d_Md_fall_20 rfl (by assumption) ?_
  refine xs_aload_n C0 d_Md_fall_21 rfl 0 rfl ?_
  refine xs_iload_n C0 d_Md_fall_22 rfl 1 rfl ?_
  refine xs_cV1 (ω' := (wd Q0 Q1 Q2 Q3 Q4 ql qr qk qo QS QT QF QH qt ++ (wM P0 P1 P2 P3 P4 pl dr ki rl (upd ms_1 r.toNatClampNeg 3, upd mc_1 r.toNatClampNeg n, mw_1, mb_1) cl hc sl tk kp pa tr co ++ rest))) (As := [.int r]) (st := [.int (dr r.toNatClampNeg), .int n]) (kc' := 0) (ks' := 0) (v := .int (m_more sl r)) C0 d_Md_fall_23 l_Md_164 rfl rfl d_more rfl rfl rfl (Nat.le_of_ble_eq_true rfl) (Nat.le_of_ble_eq_true rfl) (Nat.le_of_ble_eq_true rfl) (Nat.le_of_ble_eq_true rfl) (Nat.le_of_ble_eq_true rfl) (Nat.le_of_ble_eq_true rfl) ?_
  refine xs_iadd C0 d_Md_fall_26 ?_
  refine xs_icmp_lt (tgt := 36) C0 d_Md_fall_27 (by decide) (fun c1 => ?_) (fun c1 => ?_)
  · rw [m_fall, if_pos c1] at hf
    subst hf
    exact xs_vret C0 d_Md_fall_36 (⟨rfl, rfl⟩) (Nat.le_of_ble_eq_true rfl) (Nat.le_of_ble_eq_true rfl)
  · refine xs_aload_n C0 d_Md_fall_30 rfl 0 rfl ?_
    refine xs_iload_n C0 d_Md_fall_31 rfl 1 rfl ?_
    refine xs_iconst (v := 0) C0 d_Md_fall_32 (by decide) ?_
    obtain ⟨Z_2, hZ_2⟩ : ∃ X, m_hold (upd ms_1 r.toNatClampNeg 3, upd mc_1 r.toNatClampNeg n, mw_1, mb_1) r 0 = X := ⟨_, rfl⟩
    refine xs_cV0 (ω' := (wd Q0 Q1 Q2 Q3 Q4 ql qr qk qo QS QT QF QH qt ++ (wM P0 P1 P2 P3 P4 pl dr ki rl Z_2 cl hc sl tk kp pa tr co ++ rest))) (As := [.int r, .int 0]) (st := []) (kc' := 0) (ks' := 0) C0 d_Md_fall_33 l_Md_158 rfl rfl (d_hold (by assumption) hZ_2) rfl rfl rfl (Nat.le_of_ble_eq_true rfl) (Nat.le_of_ble_eq_true rfl) (Nat.le_of_ble_eq_true rfl) (Nat.le_of_ble_eq_true rfl) (Nat.le_of_ble_eq_true rfl) (Nat.le_of_ble_eq_true rfl) ?_
    rw [m_fall, if_neg c1] at hf
    rw [show m_hold (m_set (ms_1, mc_1, mw_1, mb_1) r 3 n) r 0 = _ from hZ_2] at hf
    subst hf
    exact xs_vret C0 d_Md_fall_36 (⟨rfl, rfl⟩) (Nat.le_of_ble_eq_true rfl) (Nat.le_of_ble_eq_true rfl)
