set_option maxHeartbeats 4000000 in
set_option maxRecDepth 100000 in
theorem l_relay {B B2 : wb} {S T : wt_S} {F : wt_F} {H : wt_H} {tt : Int32} {rl : Nat → Int32} {Z : mt_S} {cl : Nat → Int32} {hc : mt_H} {sl tk : Int32} {kp : mt_K} {pa : Nat → Int32} {tr : mt_T} {co : Int32} {o : Nat → Int64} {B' : wb} {S' T' : wt_S} {F' : wt_F} {H' : wt_H} {tt' : Int32} {a0 a1 a2 a3 : Int32} {v : Int32} (h : xm_M y_Rb_relay (Cond.code y_Rb_relay b_Rb_relay 6 (some .int)) (xm_rm 5 0 0) [.ref 0, .int a0, .int a1, .int a2, .int a3] (wB B S T F H tt ++ (wMB B2 rl Z cl hc sl tk kp pa tr co ++ [.inl (1, 1, .inr (.inl o))])) (xm_eq (.inl (some (.int v))) (wB B' S' T' F' H' tt' ++ (wMB B2 rl Z cl hc sl tk kp pa tr co ++ [.inl (1, 1, .inr (.inl o))])))) : xm_M y_Lw_relay (Cond.codeWith y_Lw_relay b_Lw_relay 7 (some .int) [(0, 14, 17, 13), (0, 14, 21, 15)]) (xm_rm 6 0 0) [.ref 0, .int a0, .int a1, .int a2, .int a3, .ref 64] (wB B S T F H tt ++ (wMB B2 rl Z cl hc sl tk kp pa tr co ++ [.inl (1, 1, .inr (.inl o))])) (xm_eq (.inl (some (.int 0))) (wB B' S' T' F' H' tt' ++ (wMB B2 rl Z cl hc sl tk kp pa tr co ++ [.inl (1, 1, .inr (.inl (vp_updL o 0 v.toInt64)))]))) := by
  refine xm_ofH (by decide) (Nat.le_of_ble_eq_true rfl) (fun E C0 => ?_)
  refine xs_eq (lv' := [(0, .ref 0), (1, .int a0), (2, .int a1), (3, .int a2), (4, .int a3), (5, .ref 64)]) rfl rfl rfl ?_
  refine xs_aload C0 d_Lw_relay_0 5 rfl ?_
  refine xs_iconst (v := 0) C0 d_Lw_relay_2 (by decide) ?_
  refine xs_top (v' := .int (nI 0)) rfl ?_
  refine xs_aload_n C0 d_Lw_relay_3 rfl 0 rfl ?_
  refine xs_iload_n C0 d_Lw_relay_4 rfl 1 rfl ?_
  refine xs_iload_n C0 d_Lw_relay_5 rfl 2 rfl ?_
  refine xs_iload_n C0 d_Lw_relay_6 rfl 3 rfl ?_
  refine xs_iload C0 d_Lw_relay_7 4 rfl ?_
  refine xs_cV1 (ω' := (wB B' S' T' F' H' tt' ++ (wMB B2 rl Z cl hc sl tk kp pa tr co ++ [.inl (1, 1, .inr (.inl o))]))) (As := [.int a0, .int a1, .int a2, .int a3]) (st := [.int (nI 0), .ref 64]) (kc' := 0) (ks' := 0) (v := .int v) C0 d_Lw_relay_9 l_Lw_7 rfl rfl h rfl rfl rfl (Nat.le_of_ble_eq_true rfl) (Nat.le_of_ble_eq_true rfl) (Nat.le_of_ble_eq_true rfl) (Nat.le_of_ble_eq_true rfl) (Nat.le_of_ble_eq_true rfl) (Nat.le_of_ble_eq_true rfl) ?_
  refine xs_i2l C0 d_Lw_relay_12 ?_
  refine xs_last (ω' := (wB B' S' T' F' H' tt' ++ (wMB B2 rl Z cl hc sl tk kp pa tr co ++ [.inl (1, 1, .inr (.inl (vp_updL o (nI 0).toNatClampNeg v.toInt64)))]))) C0 d_Lw_relay_13 rfl (vp_in_nI (n := 0) (by decide) (by decide)) rfl ?_
  refine xs_world (ω' := (wB B' S' T' F' H' tt' ++ (wMB B2 rl Z cl hc sl tk kp pa tr co ++ [.inl (1, 1, .inr (.inl (vp_updL o 0 v.toInt64)))]))) (by rw [nI_clamp (by omega)]) ?_
  refine xs_goto (tgt := 25) C0 d_Lw_relay_14 (by decide) ?_
  refine xs_iconst (v := 0) C0 d_Lw_relay_25 (by decide) ?_
  exact xs_iret C0 d_Lw_relay_26 (⟨rfl, rfl⟩) (Nat.le_of_ble_eq_true rfl) (Nat.le_of_ble_eq_true rfl)
set_option maxHeartbeats 4000000 in
set_option maxRecDepth 100000 in
theorem l_relayT {B B2 : wb} {S T : wt_S} {F : wt_F} {H : wt_H} {tt : Int32} {rl : Nat → Int32} {Z : mt_S} {cl : Nat → Int32} {hc : mt_H} {sl tk : Int32} {kp : mt_K} {pa : Nat → Int32} {tr : mt_T} {co : Int32} {o : Nat → Int64} {B' : wb} {S' T' : wt_S} {F' : wt_F} {H' : wt_H} {tt' : Int32} {a0 a1 a2 a3 : Int32} (h : xm_M y_Rb_relay (Cond.code y_Rb_relay b_Rb_relay 6 (some .int)) (xm_rm 9 1 6) [.ref 0, .int a0, .int a1, .int a2, .int a3] (wB B S T F H tt ++ (wMB B2 rl Z cl hc sl tk kp pa tr co ++ [.inl (1, 1, .inr (.inl o))])) (xm_eq (.inr "java/lang/IllegalArgumentException") (wB B' S' T' F' H' tt' ++ (wMB B2 rl Z cl hc sl tk kp pa tr co ++ [.inl (1, 1, .inr (.inl o))])))) : xm_M y_Lw_relay (Cond.codeWith y_Lw_relay b_Lw_relay 7 (some .int) [(0, 14, 17, 13), (0, 14, 21, 15)]) (xm_rm 10 1 6) [.ref 0, .int a0, .int a1, .int a2, .int a3, .ref 64] (wB B S T F H tt ++ (wMB B2 rl Z cl hc sl tk kp pa tr co ++ [.inl (1, 1, .inr (.inl o))])) (xm_eq (.inl (some (.int 1))) (wB B' S' T' F' H' tt' ++ (wMB B2 rl Z cl hc sl tk kp pa tr co ++ [.inl (1, 1, .inr (.inl o))]))) := by
  refine xm_ofH (by decide) (Nat.le_of_ble_eq_true rfl) (fun E C0 => ?_)
  refine xs_eq (lv' := [(0, .ref 0), (1, .int a0), (2, .int a1), (3, .int a2), (4, .int a3), (5, .ref 64)]) rfl rfl rfl ?_
  refine xs_aload C0 d_Lw_relay_0 5 rfl ?_
  refine xs_iconst (v := 0) C0 d_Lw_relay_2 (by decide) ?_
  refine xs_aload_n C0 d_Lw_relay_3 rfl 0 rfl ?_
  refine xs_iload_n C0 d_Lw_relay_4 rfl 1 rfl ?_
  refine xs_iload_n C0 d_Lw_relay_5 rfl 2 rfl ?_
  refine xs_iload_n C0 d_Lw_relay_6 rfl 3 rfl ?_
  refine xs_iload C0 d_Lw_relay_7 4 rfl ?_
  refine xs_cVT (As := [.int a0, .int a1, .int a2, .int a3]) (st := [.int 0, .ref 64]) C0 d_Lw_relay_9 l_Lw_7 rfl rfl h rfl rfl rfl (Nat.le_of_ble_eq_true rfl) (Nat.le_of_ble_eq_true rfl) (Nat.le_of_ble_eq_true rfl) (Nat.le_of_ble_eq_true rfl) (xt_catch1 C0 ⟨by decide, by decide⟩ (by decide) k_318 k_335 rfl ?_)
  refine xs_top (v' := .ref 65) rfl ?_
  refine xs_astore (lv' := [(6, .ref 65), (0, .ref 0), (1, .int a0), (2, .int a1), (3, .int a2), (4, .int a3), (5, .ref 64)]) C0 d_Lw_relay_17 (by decide) rfl ?_
  refine xs_iconst (v := 1) C0 d_Lw_relay_19 (by decide) ?_
  exact xs_iret C0 d_Lw_relay_20 (⟨rfl, rfl⟩) (Nat.le_of_ble_eq_true rfl) (Nat.le_of_ble_eq_true rfl)
set_option maxHeartbeats 4000000 in
set_option maxRecDepth 100000 in
theorem l_relayX {B B2 : wb} {S T : wt_S} {F : wt_F} {H : wt_H} {tt : Int32} {rl : Nat → Int32} {Z : mt_S} {cl : Nat → Int32} {hc : mt_H} {sl tk : Int32} {kp : mt_K} {pa : Nat → Int32} {tr : mt_T} {co : Int32} {o : Nat → Int64} {B' : wb} {S' T' : wt_S} {F' : wt_F} {H' : wt_H} {tt' : Int32} {a0 a1 a2 a3 : Int32} (h : xm_M y_Rb_relay (Cond.code y_Rb_relay b_Rb_relay 6 (some .int)) (xm_rm 9 1 6) [.ref 0, .int a0, .int a1, .int a2, .int a3] (wB B S T F H tt ++ (wMB B2 rl Z cl hc sl tk kp pa tr co ++ [.inl (1, 1, .inr (.inl o))])) (xm_eq (.inr "java/lang/IllegalStateException") (wB B' S' T' F' H' tt' ++ (wMB B2 rl Z cl hc sl tk kp pa tr co ++ [.inl (1, 1, .inr (.inl o))])))) : xm_M y_Lw_relay (Cond.codeWith y_Lw_relay b_Lw_relay 7 (some .int) [(0, 14, 17, 13), (0, 14, 21, 15)]) (xm_rm 10 1 6) [.ref 0, .int a0, .int a1, .int a2, .int a3, .ref 64] (wB B S T F H tt ++ (wMB B2 rl Z cl hc sl tk kp pa tr co ++ [.inl (1, 1, .inr (.inl o))])) (xm_eq (.inl (some (.int 2))) (wB B' S' T' F' H' tt' ++ (wMB B2 rl Z cl hc sl tk kp pa tr co ++ [.inl (1, 1, .inr (.inl o))]))) := by
  refine xm_ofH (by decide) (Nat.le_of_ble_eq_true rfl) (fun E C0 => ?_)
  refine xs_eq (lv' := [(0, .ref 0), (1, .int a0), (2, .int a1), (3, .int a2), (4, .int a3), (5, .ref 64)]) rfl rfl rfl ?_
  refine xs_aload C0 d_Lw_relay_0 5 rfl ?_
  refine xs_iconst (v := 0) C0 d_Lw_relay_2 (by decide) ?_
  refine xs_aload_n C0 d_Lw_relay_3 rfl 0 rfl ?_
  refine xs_iload_n C0 d_Lw_relay_4 rfl 1 rfl ?_
  refine xs_iload_n C0 d_Lw_relay_5 rfl 2 rfl ?_
  refine xs_iload_n C0 d_Lw_relay_6 rfl 3 rfl ?_
  refine xs_iload C0 d_Lw_relay_7 4 rfl ?_
  refine xs_cVT (As := [.int a0, .int a1, .int a2, .int a3]) (st := [.int 0, .ref 64]) C0 d_Lw_relay_9 l_Lw_7 rfl rfl h rfl rfl rfl (Nat.le_of_ble_eq_true rfl) (Nat.le_of_ble_eq_true rfl) (Nat.le_of_ble_eq_true rfl) (Nat.le_of_ble_eq_true rfl) (xt_catch2 C0 ⟨by decide, by decide⟩ ⟨by decide, by decide⟩ (by decide) (by decide) k_318 k_319 k_414 (fun _ _ _ h9 => h9.2.2.1) rfl ?_)
  refine xs_top (v' := .ref 65) rfl ?_
  refine xs_astore (lv' := [(6, .ref 65), (0, .ref 0), (1, .int a0), (2, .int a1), (3, .int a2), (4, .int a3), (5, .ref 64)]) C0 d_Lw_relay_21 (by decide) rfl ?_
  refine xs_iconst (v := 2) C0 d_Lw_relay_23 (by decide) ?_
  exact xs_iret C0 d_Lw_relay_24 (⟨rfl, rfl⟩) (Nat.le_of_ble_eq_true rfl) (Nat.le_of_ble_eq_true rfl)
set_option maxHeartbeats 4000000 in
set_option maxRecDepth 100000 in
theorem l_contact {B B2 : wb} {S T : wt_S} {F : wt_F} {H : wt_H} {tt : Int32} {rl : Nat → Int32} {Z : mt_S} {cl : Nat → Int32} {hc : mt_H} {sl tk : Int32} {kp : mt_K} {pa : Nat → Int32} {tr : mt_T} {co : Int32} {o : Nat → Int64} {B' : wb} {S' T' : wt_S} {F' : wt_F} {H' : wt_H} {tt' : Int32} {a0 a1 a2 a3 : Int32} {v : Int32} (h : xm_M y_Rb_contact (Cond.code y_Rb_contact b_Rb_contact 6 (some .int)) (xm_rm 5 0 0) [.ref 0, .int a0, .int a1, .int a2, .int a3] (wB B S T F H tt ++ (wMB B2 rl Z cl hc sl tk kp pa tr co ++ [.inl (1, 1, .inr (.inl o))])) (xm_eq (.inl (some (.int v))) (wB B' S' T' F' H' tt' ++ (wMB B2 rl Z cl hc sl tk kp pa tr co ++ [.inl (1, 1, .inr (.inl o))])))) : xm_M y_Lw_contact (Cond.codeWith y_Lw_contact b_Lw_contact 7 (some .int) [(0, 14, 17, 13), (0, 14, 21, 15)]) (xm_rm 6 0 0) [.ref 0, .int a0, .int a1, .int a2, .int a3, .ref 64] (wB B S T F H tt ++ (wMB B2 rl Z cl hc sl tk kp pa tr co ++ [.inl (1, 1, .inr (.inl o))])) (xm_eq (.inl (some (.int 0))) (wB B' S' T' F' H' tt' ++ (wMB B2 rl Z cl hc sl tk kp pa tr co ++ [.inl (1, 1, .inr (.inl (vp_updL o 0 v.toInt64)))]))) := by
  refine xm_ofH (by decide) (Nat.le_of_ble_eq_true rfl) (fun E C0 => ?_)
  refine xs_eq (lv' := [(0, .ref 0), (1, .int a0), (2, .int a1), (3, .int a2), (4, .int a3), (5, .ref 64)]) rfl rfl rfl ?_
  refine xs_aload C0 d_Lw_contact_0 5 rfl ?_
  refine xs_iconst (v := 0) C0 d_Lw_contact_2 (by decide) ?_
  refine xs_top (v' := .int (nI 0)) rfl ?_
  refine xs_aload_n C0 d_Lw_contact_3 rfl 0 rfl ?_
  refine xs_iload_n C0 d_Lw_contact_4 rfl 1 rfl ?_
  refine xs_iload_n C0 d_Lw_contact_5 rfl 2 rfl ?_
  refine xs_iload_n C0 d_Lw_contact_6 rfl 3 rfl ?_
  refine xs_iload C0 d_Lw_contact_7 4 rfl ?_
  refine xs_cV1 (ω' := (wB B' S' T' F' H' tt' ++ (wMB B2 rl Z cl hc sl tk kp pa tr co ++ [.inl (1, 1, .inr (.inl o))]))) (As := [.int a0, .int a1, .int a2, .int a3]) (st := [.int (nI 0), .ref 64]) (kc' := 0) (ks' := 0) (v := .int v) C0 d_Lw_contact_9 l_Lw_17 rfl rfl h rfl rfl rfl (Nat.le_of_ble_eq_true rfl) (Nat.le_of_ble_eq_true rfl) (Nat.le_of_ble_eq_true rfl) (Nat.le_of_ble_eq_true rfl) (Nat.le_of_ble_eq_true rfl) (Nat.le_of_ble_eq_true rfl) ?_
  refine xs_i2l C0 d_Lw_contact_12 ?_
  refine xs_last (ω' := (wB B' S' T' F' H' tt' ++ (wMB B2 rl Z cl hc sl tk kp pa tr co ++ [.inl (1, 1, .inr (.inl (vp_updL o (nI 0).toNatClampNeg v.toInt64)))]))) C0 d_Lw_contact_13 rfl (vp_in_nI (n := 0) (by decide) (by decide)) rfl ?_
  refine xs_world (ω' := (wB B' S' T' F' H' tt' ++ (wMB B2 rl Z cl hc sl tk kp pa tr co ++ [.inl (1, 1, .inr (.inl (vp_updL o 0 v.toInt64)))]))) (by rw [nI_clamp (by omega)]) ?_
  refine xs_goto (tgt := 25) C0 d_Lw_contact_14 (by decide) ?_
  refine xs_iconst (v := 0) C0 d_Lw_contact_25 (by decide) ?_
  exact xs_iret C0 d_Lw_contact_26 (⟨rfl, rfl⟩) (Nat.le_of_ble_eq_true rfl) (Nat.le_of_ble_eq_true rfl)
set_option maxHeartbeats 4000000 in
set_option maxRecDepth 100000 in
theorem l_contactT {B B2 : wb} {S T : wt_S} {F : wt_F} {H : wt_H} {tt : Int32} {rl : Nat → Int32} {Z : mt_S} {cl : Nat → Int32} {hc : mt_H} {sl tk : Int32} {kp : mt_K} {pa : Nat → Int32} {tr : mt_T} {co : Int32} {o : Nat → Int64} {B' : wb} {S' T' : wt_S} {F' : wt_F} {H' : wt_H} {tt' : Int32} {a0 a1 a2 a3 : Int32} (h : xm_M y_Rb_contact (Cond.code y_Rb_contact b_Rb_contact 6 (some .int)) (xm_rm 9 1 6) [.ref 0, .int a0, .int a1, .int a2, .int a3] (wB B S T F H tt ++ (wMB B2 rl Z cl hc sl tk kp pa tr co ++ [.inl (1, 1, .inr (.inl o))])) (xm_eq (.inr "java/lang/IllegalArgumentException") (wB B' S' T' F' H' tt' ++ (wMB B2 rl Z cl hc sl tk kp pa tr co ++ [.inl (1, 1, .inr (.inl o))])))) : xm_M y_Lw_contact (Cond.codeWith y_Lw_contact b_Lw_contact 7 (some .int) [(0, 14, 17, 13), (0, 14, 21, 15)]) (xm_rm 10 1 6) [.ref 0, .int a0, .int a1, .int a2, .int a3, .ref 64] (wB B S T F H tt ++ (wMB B2 rl Z cl hc sl tk kp pa tr co ++ [.inl (1, 1, .inr (.inl o))])) (xm_eq (.inl (some (.int 1))) (wB B' S' T' F' H' tt' ++ (wMB B2 rl Z cl hc sl tk kp pa tr co ++ [.inl (1, 1, .inr (.inl o))]))) := by
  refine xm_ofH (by decide) (Nat.le_of_ble_eq_true rfl) (fun E C0 => ?_)
  refine xs_eq (lv' := [(0, .ref 0), (1, .int a0), (2, .int a1), (3, .int a2), (4, .int a3), (5, .ref 64)]) rfl rfl rfl ?_
  refine xs_aload C0 d_Lw_contact_0 5 rfl ?_
  refine xs_iconst (v := 0) C0 d_Lw_contact_2 (by decide) ?_
  refine xs_aload_n C0 d_Lw_contact_3 rfl 0 rfl ?_
  refine xs_iload_n C0 d_Lw_contact_4 rfl 1 rfl ?_
  refine xs_iload_n C0 d_Lw_contact_5 rfl 2 rfl ?_
  refine xs_iload_n C0 d_Lw_contact_6 rfl 3 rfl ?_
  refine xs_iload C0 d_Lw_contact_7 4 rfl ?_
  refine xs_cVT (As := [.int a0, .int a1, .int a2, .int a3]) (st := [.int 0, .ref 64]) C0 d_Lw_contact_9 l_Lw_17 rfl rfl h rfl rfl rfl (Nat.le_of_ble_eq_true rfl) (Nat.le_of_ble_eq_true rfl) (Nat.le_of_ble_eq_true rfl) (Nat.le_of_ble_eq_true rfl) (xt_catch1 C0 ⟨by decide, by decide⟩ (by decide) k_318 k_335 rfl ?_)
  refine xs_top (v' := .ref 65) rfl ?_
  refine xs_astore (lv' := [(6, .ref 65), (0, .ref 0), (1, .int a0), (2, .int a1), (3, .int a2), (4, .int a3), (5, .ref 64)]) C0 d_Lw_contact_17 (by decide) rfl ?_
  refine xs_iconst (v := 1) C0 d_Lw_contact_19 (by decide) ?_
  exact xs_iret C0 d_Lw_contact_20 (⟨rfl, rfl⟩) (Nat.le_of_ble_eq_true rfl) (Nat.le_of_ble_eq_true rfl)
set_option maxHeartbeats 4000000 in
set_option maxRecDepth 100000 in
theorem l_contactX {B B2 : wb} {S T : wt_S} {F : wt_F} {H : wt_H} {tt : Int32} {rl : Nat → Int32} {Z : mt_S} {cl : Nat → Int32} {hc : mt_H} {sl tk : Int32} {kp : mt_K} {pa : Nat → Int32} {tr : mt_T} {co : Int32} {o : Nat → Int64} {B' : wb} {S' T' : wt_S} {F' : wt_F} {H' : wt_H} {tt' : Int32} {a0 a1 a2 a3 : Int32} (h : xm_M y_Rb_contact (Cond.code y_Rb_contact b_Rb_contact 6 (some .int)) (xm_rm 9 1 6) [.ref 0, .int a0, .int a1, .int a2, .int a3] (wB B S T F H tt ++ (wMB B2 rl Z cl hc sl tk kp pa tr co ++ [.inl (1, 1, .inr (.inl o))])) (xm_eq (.inr "java/lang/IllegalStateException") (wB B' S' T' F' H' tt' ++ (wMB B2 rl Z cl hc sl tk kp pa tr co ++ [.inl (1, 1, .inr (.inl o))])))) : xm_M y_Lw_contact (Cond.codeWith y_Lw_contact b_Lw_contact 7 (some .int) [(0, 14, 17, 13), (0, 14, 21, 15)]) (xm_rm 10 1 6) [.ref 0, .int a0, .int a1, .int a2, .int a3, .ref 64] (wB B S T F H tt ++ (wMB B2 rl Z cl hc sl tk kp pa tr co ++ [.inl (1, 1, .inr (.inl o))])) (xm_eq (.inl (some (.int 2))) (wB B' S' T' F' H' tt' ++ (wMB B2 rl Z cl hc sl tk kp pa tr co ++ [.inl (1, 1, .inr (.inl o))]))) := by
  refine xm_ofH (by decide) (Nat.le_of_ble_eq_true rfl) (fun E C0 => ?_)
  refine xs_eq (lv' := [(0, .ref 0), (1, .int a0), (2, .int a1), (3, .int a2), (4, .int a3), (5, .ref 64)]) rfl rfl rfl ?_
  refine xs_aload C0 d_Lw_contact_0 5 rfl ?_
  refine xs_iconst (v := 0) C0 d_Lw_contact_2 (by decide) ?_
  refine xs_aload_n C0 d_Lw_contact_3 rfl 0 rfl ?_
  refine xs_iload_n C0 d_Lw_contact_4 rfl 1 rfl ?_
  refine xs_iload_n C0 d_Lw_contact_5 rfl 2 rfl ?_
  refine xs_iload_n C0 d_Lw_contact_6 rfl 3 rfl ?_
  refine xs_iload C0 d_Lw_contact_7 4 rfl ?_
  refine xs_cVT (As := [.int a0, .int a1, .int a2, .int a3]) (st := [.int 0, .ref 64]) C0 d_Lw_contact_9 l_Lw_17 rfl rfl h rfl rfl rfl (Nat.le_of_ble_eq_true rfl) (Nat.le_of_ble_eq_true rfl) (Nat.le_of_ble_eq_true rfl) (Nat.le_of_ble_eq_true rfl) (xt_catch2 C0 ⟨by decide, by decide⟩ ⟨by decide, by decide⟩ (by decide) (by decide) k_318 k_319 k_414 (fun _ _ _ h9 => h9.2.2.1) rfl ?_)
  refine xs_top (v' := .ref 65) rfl ?_
  refine xs_astore (lv' := [(6, .ref 65), (0, .ref 0), (1, .int a0), (2, .int a1), (3, .int a2), (4, .int a3), (5, .ref 64)]) C0 d_Lw_contact_21 (by decide) rfl ?_
  refine xs_iconst (v := 2) C0 d_Lw_contact_23 (by decide) ?_
  exact xs_iret C0 d_Lw_contact_24 (⟨rfl, rfl⟩) (Nat.le_of_ble_eq_true rfl) (Nat.le_of_ble_eq_true rfl)
set_option maxHeartbeats 4000000 in
set_option maxRecDepth 100000 in
theorem l_knob {B B2 : wb} {S T : wt_S} {F : wt_F} {H : wt_H} {tt : Int32} {rl : Nat → Int32} {Z : mt_S} {cl : Nat → Int32} {hc : mt_H} {sl tk : Int32} {kp : mt_K} {pa : Nat → Int32} {tr : mt_T} {co : Int32} {o : Nat → Int64} {B' : wb} {S' T' : wt_S} {F' : wt_F} {H' : wt_H} {tt' : Int32} {a0 a1 : Int32} {v : Int32} (h : xm_M y_Rb_knob (Cond.code y_Rb_knob b_Rb_knob 3 (some .int)) (xm_rm 6 0 0) [.ref 0, .int a0, .int a1] (wB B S T F H tt ++ (wMB B2 rl Z cl hc sl tk kp pa tr co ++ [.inl (1, 1, .inr (.inl o))])) (xm_eq (.inl (some (.int v))) (wB B' S' T' F' H' tt' ++ (wMB B2 rl Z cl hc sl tk kp pa tr co ++ [.inl (1, 1, .inr (.inl o))])))) : xm_M y_Lw_knob (Cond.codeWith y_Lw_knob b_Lw_knob 5 (some .int) [(0, 10, 13, 13), (0, 10, 17, 15)]) (xm_rm 7 0 0) [.ref 0, .int a0, .int a1, .ref 64] (wB B S T F H tt ++ (wMB B2 rl Z cl hc sl tk kp pa tr co ++ [.inl (1, 1, .inr (.inl o))])) (xm_eq (.inl (some (.int 0))) (wB B' S' T' F' H' tt' ++ (wMB B2 rl Z cl hc sl tk kp pa tr co ++ [.inl (1, 1, .inr (.inl (vp_updL o 0 v.toInt64)))]))) := by
  refine xm_ofH (by decide) (Nat.le_of_ble_eq_true rfl) (fun E C0 => ?_)
  refine xs_eq (lv' := [(0, .ref 0), (1, .int a0), (2, .int a1), (3, .ref 64)]) rfl rfl rfl ?_
  refine xs_aload_n C0 d_Lw_knob_0 rfl 3 rfl ?_
  refine xs_iconst (v := 0) C0 d_Lw_knob_1 (by decide) ?_
  refine xs_top (v' := .int (nI 0)) rfl ?_
  refine xs_aload_n C0 d_Lw_knob_2 rfl 0 rfl ?_
  refine xs_iload_n C0 d_Lw_knob_3 rfl 1 rfl ?_
  refine xs_iload_n C0 d_Lw_knob_4 rfl 2 rfl ?_
  refine xs_cV1 (ω' := (wB B' S' T' F' H' tt' ++ (wMB B2 rl Z cl hc sl tk kp pa tr co ++ [.inl (1, 1, .inr (.inl o))]))) (As := [.int a0, .int a1]) (st := [.int (nI 0), .ref 64]) (kc' := 0) (ks' := 0) (v := .int v) C0 d_Lw_knob_5 l_Lw_20 rfl rfl h rfl rfl rfl (Nat.le_of_ble_eq_true rfl) (Nat.le_of_ble_eq_true rfl) (Nat.le_of_ble_eq_true rfl) (Nat.le_of_ble_eq_true rfl) (Nat.le_of_ble_eq_true rfl) (Nat.le_of_ble_eq_true rfl) ?_
  refine xs_i2l C0 d_Lw_knob_8 ?_
  refine xs_last (ω' := (wB B' S' T' F' H' tt' ++ (wMB B2 rl Z cl hc sl tk kp pa tr co ++ [.inl (1, 1, .inr (.inl (vp_updL o (nI 0).toNatClampNeg v.toInt64)))]))) C0 d_Lw_knob_9 rfl (vp_in_nI (n := 0) (by decide) (by decide)) rfl ?_
  refine xs_world (ω' := (wB B' S' T' F' H' tt' ++ (wMB B2 rl Z cl hc sl tk kp pa tr co ++ [.inl (1, 1, .inr (.inl (vp_updL o 0 v.toInt64)))]))) (by rw [nI_clamp (by omega)]) ?_
  refine xs_goto (tgt := 21) C0 d_Lw_knob_10 (by decide) ?_
  refine xs_iconst (v := 0) C0 d_Lw_knob_21 (by decide) ?_
  exact xs_iret C0 d_Lw_knob_22 (⟨rfl, rfl⟩) (Nat.le_of_ble_eq_true rfl) (Nat.le_of_ble_eq_true rfl)
set_option maxHeartbeats 4000000 in
set_option maxRecDepth 100000 in
theorem l_knobT {B B2 : wb} {S T : wt_S} {F : wt_F} {H : wt_H} {tt : Int32} {rl : Nat → Int32} {Z : mt_S} {cl : Nat → Int32} {hc : mt_H} {sl tk : Int32} {kp : mt_K} {pa : Nat → Int32} {tr : mt_T} {co : Int32} {o : Nat → Int64} {B' : wb} {S' T' : wt_S} {F' : wt_F} {H' : wt_H} {tt' : Int32} {a0 a1 : Int32} (h : xm_M y_Rb_knob (Cond.code y_Rb_knob b_Rb_knob 3 (some .int)) (xm_rm 10 1 6) [.ref 0, .int a0, .int a1] (wB B S T F H tt ++ (wMB B2 rl Z cl hc sl tk kp pa tr co ++ [.inl (1, 1, .inr (.inl o))])) (xm_eq (.inr "java/lang/IllegalArgumentException") (wB B' S' T' F' H' tt' ++ (wMB B2 rl Z cl hc sl tk kp pa tr co ++ [.inl (1, 1, .inr (.inl o))])))) : xm_M y_Lw_knob (Cond.codeWith y_Lw_knob b_Lw_knob 5 (some .int) [(0, 10, 13, 13), (0, 10, 17, 15)]) (xm_rm 11 1 6) [.ref 0, .int a0, .int a1, .ref 64] (wB B S T F H tt ++ (wMB B2 rl Z cl hc sl tk kp pa tr co ++ [.inl (1, 1, .inr (.inl o))])) (xm_eq (.inl (some (.int 1))) (wB B' S' T' F' H' tt' ++ (wMB B2 rl Z cl hc sl tk kp pa tr co ++ [.inl (1, 1, .inr (.inl o))]))) := by
  refine xm_ofH (by decide) (Nat.le_of_ble_eq_true rfl) (fun E C0 => ?_)
  refine xs_eq (lv' := [(0, .ref 0), (1, .int a0), (2, .int a1), (3, .ref 64)]) rfl rfl rfl ?_
  refine xs_aload_n C0 d_Lw_knob_0 rfl 3 rfl ?_
  refine xs_iconst (v := 0) C0 d_Lw_knob_1 (by decide) ?_
  refine xs_aload_n C0 d_Lw_knob_2 rfl 0 rfl ?_
  refine xs_iload_n C0 d_Lw_knob_3 rfl 1 rfl ?_
  refine xs_iload_n C0 d_Lw_knob_4 rfl 2 rfl ?_
  refine xs_cVT (As := [.int a0, .int a1]) (st := [.int 0, .ref 64]) C0 d_Lw_knob_5 l_Lw_20 rfl rfl h rfl rfl rfl (Nat.le_of_ble_eq_true rfl) (Nat.le_of_ble_eq_true rfl) (Nat.le_of_ble_eq_true rfl) (Nat.le_of_ble_eq_true rfl) (xt_catch1 C0 ⟨by decide, by decide⟩ (by decide) k_318 k_335 rfl ?_)
  refine xs_top (v' := .ref 65) rfl ?_
  refine xs_astore (lv' := [(4, .ref 65), (0, .ref 0), (1, .int a0), (2, .int a1), (3, .ref 64)]) C0 d_Lw_knob_13 (by decide) rfl ?_
  refine xs_iconst (v := 1) C0 d_Lw_knob_15 (by decide) ?_
  exact xs_iret C0 d_Lw_knob_16 (⟨rfl, rfl⟩) (Nat.le_of_ble_eq_true rfl) (Nat.le_of_ble_eq_true rfl)
set_option maxHeartbeats 4000000 in
set_option maxRecDepth 100000 in
theorem l_knobX {B B2 : wb} {S T : wt_S} {F : wt_F} {H : wt_H} {tt : Int32} {rl : Nat → Int32} {Z : mt_S} {cl : Nat → Int32} {hc : mt_H} {sl tk : Int32} {kp : mt_K} {pa : Nat → Int32} {tr : mt_T} {co : Int32} {o : Nat → Int64} {B' : wb} {S' T' : wt_S} {F' : wt_F} {H' : wt_H} {tt' : Int32} {a0 a1 : Int32} (h : xm_M y_Rb_knob (Cond.code y_Rb_knob b_Rb_knob 3 (some .int)) (xm_rm 10 1 6) [.ref 0, .int a0, .int a1] (wB B S T F H tt ++ (wMB B2 rl Z cl hc sl tk kp pa tr co ++ [.inl (1, 1, .inr (.inl o))])) (xm_eq (.inr "java/lang/IllegalStateException") (wB B' S' T' F' H' tt' ++ (wMB B2 rl Z cl hc sl tk kp pa tr co ++ [.inl (1, 1, .inr (.inl o))])))) : xm_M y_Lw_knob (Cond.codeWith y_Lw_knob b_Lw_knob 5 (some .int) [(0, 10, 13, 13), (0, 10, 17, 15)]) (xm_rm 11 1 6) [.ref 0, .int a0, .int a1, .ref 64] (wB B S T F H tt ++ (wMB B2 rl Z cl hc sl tk kp pa tr co ++ [.inl (1, 1, .inr (.inl o))])) (xm_eq (.inl (some (.int 2))) (wB B' S' T' F' H' tt' ++ (wMB B2 rl Z cl hc sl tk kp pa tr co ++ [.inl (1, 1, .inr (.inl o))]))) := by
  refine xm_ofH (by decide) (Nat.le_of_ble_eq_true rfl) (fun E C0 => ?_)
  refine xs_eq (lv' := [(0, .ref 0), (1, .int a0), (2, .int a1), (3, .ref 64)]) rfl rfl rfl ?_
  refine xs_aload_n C0 d_Lw_knob_0 rfl 3 rfl ?_
  refine xs_iconst (v := 0) C0 d_Lw_knob_1 (by decide) ?_
  refine xs_aload_n C0 d_Lw_knob_2 rfl 0 rfl ?_
  refine xs_iload_n C0 d_Lw_knob_3 rfl 1 rfl ?_
  refine xs_iload_n C0 d_Lw_knob_4 rfl 2 rfl ?_
  refine xs_cVT (As := [.int a0, .int a1]) (st := [.int 0, .ref 64]) C0 d_Lw_knob_5 l_Lw_20 rfl rfl h rfl rfl rfl (Nat.le_of_ble_eq_true rfl) (Nat.le_of_ble_eq_true rfl) (Nat.le_of_ble_eq_true rfl) (Nat.le_of_ble_eq_true rfl) (xt_catch2 C0 ⟨by decide, by decide⟩ ⟨by decide, by decide⟩ (by decide) (by decide) k_318 k_319 k_414 (fun _ _ _ h9 => h9.2.2.1) rfl ?_)
  refine xs_top (v' := .ref 65) rfl ?_
  refine xs_astore (lv' := [(4, .ref 65), (0, .ref 0), (1, .int a0), (2, .int a1), (3, .ref 64)]) C0 d_Lw_knob_17 (by decide) rfl ?_
  refine xs_iconst (v := 2) C0 d_Lw_knob_19 (by decide) ?_
  exact xs_iret C0 d_Lw_knob_20 (⟨rfl, rfl⟩) (Nat.le_of_ble_eq_true rfl) (Nat.le_of_ble_eq_true rfl)
set_option maxHeartbeats 4000000 in
set_option maxRecDepth 100000 in
theorem l_diode {B B2 : wb} {S T : wt_S} {F : wt_F} {H : wt_H} {tt : Int32} {rl : Nat → Int32} {Z : mt_S} {cl : Nat → Int32} {hc : mt_H} {sl tk : Int32} {kp : mt_K} {pa : Nat → Int32} {tr : mt_T} {co : Int32} {o : Nat → Int64} {B' : wb} {S' T' : wt_S} {F' : wt_F} {H' : wt_H} {tt' : Int32} {a0 a1 : Int32} {v : Int32} (h : xm_M y_Rb_diode (Cond.code y_Rb_diode b_Rb_diode 3 (some .int)) (xm_rm 6 0 0) [.ref 0, .int a0, .int a1] (wB B S T F H tt ++ (wMB B2 rl Z cl hc sl tk kp pa tr co ++ [.inl (1, 1, .inr (.inl o))])) (xm_eq (.inl (some (.int v))) (wB B' S' T' F' H' tt' ++ (wMB B2 rl Z cl hc sl tk kp pa tr co ++ [.inl (1, 1, .inr (.inl o))])))) : xm_M y_Lw_diode (Cond.codeWith y_Lw_diode b_Lw_diode 5 (some .int) [(0, 10, 13, 13), (0, 10, 17, 15)]) (xm_rm 7 0 0) [.ref 0, .int a0, .int a1, .ref 64] (wB B S T F H tt ++ (wMB B2 rl Z cl hc sl tk kp pa tr co ++ [.inl (1, 1, .inr (.inl o))])) (xm_eq (.inl (some (.int 0))) (wB B' S' T' F' H' tt' ++ (wMB B2 rl Z cl hc sl tk kp pa tr co ++ [.inl (1, 1, .inr (.inl (vp_updL o 0 v.toInt64)))]))) := by
  refine xm_ofH (by decide) (Nat.le_of_ble_eq_true rfl) (fun E C0 => ?_)
  refine xs_eq (lv' := [(0, .ref 0), (1, .int a0), (2, .int a1), (3, .ref 64)]) rfl rfl rfl ?_
  refine xs_aload_n C0 d_Lw_diode_0 rfl 3 rfl ?_
  refine xs_iconst (v := 0) C0 d_Lw_diode_1 (by decide) ?_
  refine xs_top (v' := .int (nI 0)) rfl ?_
  refine xs_aload_n C0 d_Lw_diode_2 rfl 0 rfl ?_
  refine xs_iload_n C0 d_Lw_diode_3 rfl 1 rfl ?_
  refine xs_iload_n C0 d_Lw_diode_4 rfl 2 rfl ?_
  refine xs_cV1 (ω' := (wB B' S' T' F' H' tt' ++ (wMB B2 rl Z cl hc sl tk kp pa tr co ++ [.inl (1, 1, .inr (.inl o))]))) (As := [.int a0, .int a1]) (st := [.int (nI 0), .ref 64]) (kc' := 0) (ks' := 0) (v := .int v) C0 d_Lw_diode_5 l_Lw_24 rfl rfl h rfl rfl rfl (Nat.le_of_ble_eq_true rfl) (Nat.le_of_ble_eq_true rfl) (Nat.le_of_ble_eq_true rfl) (Nat.le_of_ble_eq_true rfl) (Nat.le_of_ble_eq_true rfl) (Nat.le_of_ble_eq_true rfl) ?_
  refine xs_i2l C0 d_Lw_diode_8 ?_
  refine xs_last (ω' := (wB B' S' T' F' H' tt' ++ (wMB B2 rl Z cl hc sl tk kp pa tr co ++ [.inl (1, 1, .inr (.inl (vp_updL o (nI 0).toNatClampNeg v.toInt64)))]))) C0 d_Lw_diode_9 rfl (vp_in_nI (n := 0) (by decide) (by decide)) rfl ?_
  refine xs_world (ω' := (wB B' S' T' F' H' tt' ++ (wMB B2 rl Z cl hc sl tk kp pa tr co ++ [.inl (1, 1, .inr (.inl (vp_updL o 0 v.toInt64)))]))) (by rw [nI_clamp (by omega)]) ?_
  refine xs_goto (tgt := 21) C0 d_Lw_diode_10 (by decide) ?_
  refine xs_iconst (v := 0) C0 d_Lw_diode_21 (by decide) ?_
  exact xs_iret C0 d_Lw_diode_22 (⟨rfl, rfl⟩) (Nat.le_of_ble_eq_true rfl) (Nat.le_of_ble_eq_true rfl)
set_option maxHeartbeats 4000000 in
set_option maxRecDepth 100000 in
theorem l_diodeT {B B2 : wb} {S T : wt_S} {F : wt_F} {H : wt_H} {tt : Int32} {rl : Nat → Int32} {Z : mt_S} {cl : Nat → Int32} {hc : mt_H} {sl tk : Int32} {kp : mt_K} {pa : Nat → Int32} {tr : mt_T} {co : Int32} {o : Nat → Int64} {B' : wb} {S' T' : wt_S} {F' : wt_F} {H' : wt_H} {tt' : Int32} {a0 a1 : Int32} (h : xm_M y_Rb_diode (Cond.code y_Rb_diode b_Rb_diode 3 (some .int)) (xm_rm 10 1 6) [.ref 0, .int a0, .int a1] (wB B S T F H tt ++ (wMB B2 rl Z cl hc sl tk kp pa tr co ++ [.inl (1, 1, .inr (.inl o))])) (xm_eq (.inr "java/lang/IllegalArgumentException") (wB B' S' T' F' H' tt' ++ (wMB B2 rl Z cl hc sl tk kp pa tr co ++ [.inl (1, 1, .inr (.inl o))])))) : xm_M y_Lw_diode (Cond.codeWith y_Lw_diode b_Lw_diode 5 (some .int) [(0, 10, 13, 13), (0, 10, 17, 15)]) (xm_rm 11 1 6) [.ref 0, .int a0, .int a1, .ref 64] (wB B S T F H tt ++ (wMB B2 rl Z cl hc sl tk kp pa tr co ++ [.inl (1, 1, .inr (.inl o))])) (xm_eq (.inl (some (.int 1))) (wB B' S' T' F' H' tt' ++ (wMB B2 rl Z cl hc sl tk kp pa tr co ++ [.inl (1, 1, .inr (.inl o))]))) := by
  refine xm_ofH (by decide) (Nat.le_of_ble_eq_true rfl) (fun E C0 => ?_)
  refine xs_eq (lv' := [(0, .ref 0), (1, .int a0), (2, .int a1), (3, .ref 64)]) rfl rfl rfl ?_
  refine xs_aload_n C0 d_Lw_diode_0 rfl 3 rfl ?_
  refine xs_iconst (v := 0) C0 d_Lw_diode_1 (by decide) ?_
  refine xs_aload_n C0 d_Lw_diode_2 rfl 0 rfl ?_
  refine xs_iload_n C0 d_Lw_diode_3 rfl 1 rfl ?_
  refine xs_iload_n C0 d_Lw_diode_4 rfl 2 rfl ?_
  refine xs_cVT (As := [.int a0, .int a1]) (st := [.int 0, .ref 64]) C0 d_Lw_diode_5 l_Lw_24 rfl rfl h rfl rfl rfl (Nat.le_of_ble_eq_true rfl) (Nat.le_of_ble_eq_true rfl) (Nat.le_of_ble_eq_true rfl) (Nat.le_of_ble_eq_true rfl) (xt_catch1 C0 ⟨by decide, by decide⟩ (by decide) k_318 k_335 rfl ?_)
  refine xs_top (v' := .ref 65) rfl ?_
  refine xs_astore (lv' := [(4, .ref 65), (0, .ref 0), (1, .int a0), (2, .int a1), (3, .ref 64)]) C0 d_Lw_diode_13 (by decide) rfl ?_
  refine xs_iconst (v := 1) C0 d_Lw_diode_15 (by decide) ?_
  exact xs_iret C0 d_Lw_diode_16 (⟨rfl, rfl⟩) (Nat.le_of_ble_eq_true rfl) (Nat.le_of_ble_eq_true rfl)
set_option maxHeartbeats 4000000 in
set_option maxRecDepth 100000 in
theorem l_diodeX {B B2 : wb} {S T : wt_S} {F : wt_F} {H : wt_H} {tt : Int32} {rl : Nat → Int32} {Z : mt_S} {cl : Nat → Int32} {hc : mt_H} {sl tk : Int32} {kp : mt_K} {pa : Nat → Int32} {tr : mt_T} {co : Int32} {o : Nat → Int64} {B' : wb} {S' T' : wt_S} {F' : wt_F} {H' : wt_H} {tt' : Int32} {a0 a1 : Int32} (h : xm_M y_Rb_diode (Cond.code y_Rb_diode b_Rb_diode 3 (some .int)) (xm_rm 10 1 6) [.ref 0, .int a0, .int a1] (wB B S T F H tt ++ (wMB B2 rl Z cl hc sl tk kp pa tr co ++ [.inl (1, 1, .inr (.inl o))])) (xm_eq (.inr "java/lang/IllegalStateException") (wB B' S' T' F' H' tt' ++ (wMB B2 rl Z cl hc sl tk kp pa tr co ++ [.inl (1, 1, .inr (.inl o))])))) : xm_M y_Lw_diode (Cond.codeWith y_Lw_diode b_Lw_diode 5 (some .int) [(0, 10, 13, 13), (0, 10, 17, 15)]) (xm_rm 11 1 6) [.ref 0, .int a0, .int a1, .ref 64] (wB B S T F H tt ++ (wMB B2 rl Z cl hc sl tk kp pa tr co ++ [.inl (1, 1, .inr (.inl o))])) (xm_eq (.inl (some (.int 2))) (wB B' S' T' F' H' tt' ++ (wMB B2 rl Z cl hc sl tk kp pa tr co ++ [.inl (1, 1, .inr (.inl o))]))) := by
  refine xm_ofH (by decide) (Nat.le_of_ble_eq_true rfl) (fun E C0 => ?_)
  refine xs_eq (lv' := [(0, .ref 0), (1, .int a0), (2, .int a1), (3, .ref 64)]) rfl rfl rfl ?_
  refine xs_aload_n C0 d_Lw_diode_0 rfl 3 rfl ?_
  refine xs_iconst (v := 0) C0 d_Lw_diode_1 (by decide) ?_
  refine xs_aload_n C0 d_Lw_diode_2 rfl 0 rfl ?_
  refine xs_iload_n C0 d_Lw_diode_3 rfl 1 rfl ?_
  refine xs_iload_n C0 d_Lw_diode_4 rfl 2 rfl ?_
  refine xs_cVT (As := [.int a0, .int a1]) (st := [.int 0, .ref 64]) C0 d_Lw_diode_5 l_Lw_24 rfl rfl h rfl rfl rfl (Nat.le_of_ble_eq_true rfl) (Nat.le_of_ble_eq_true rfl) (Nat.le_of_ble_eq_true rfl) (Nat.le_of_ble_eq_true rfl) (xt_catch2 C0 ⟨by decide, by decide⟩ ⟨by decide, by decide⟩ (by decide) (by decide) k_318 k_319 k_414 (fun _ _ _ h9 => h9.2.2.1) rfl ?_)
  refine xs_top (v' := .ref 65) rfl ?_
  refine xs_astore (lv' := [(4, .ref 65), (0, .ref 0), (1, .int a0), (2, .int a1), (3, .ref 64)]) C0 d_Lw_diode_17 (by decide) rfl ?_
  refine xs_iconst (v := 2) C0 d_Lw_diode_19 (by decide) ?_
  exact xs_iret C0 d_Lw_diode_20 (⟨rfl, rfl⟩) (Nat.le_of_ble_eq_true rfl) (Nat.le_of_ble_eq_true rfl)
set_option maxHeartbeats 4000000 in
set_option maxRecDepth 100000 in
theorem l_lamp {B B2 : wb} {S T : wt_S} {F : wt_F} {H : wt_H} {tt : Int32} {rl : Nat → Int32} {Z : mt_S} {cl : Nat → Int32} {hc : mt_H} {sl tk : Int32} {kp : mt_K} {pa : Nat → Int32} {tr : mt_T} {co : Int32} {o : Nat → Int64} {B' : wb} {S' T' : wt_S} {F' : wt_F} {H' : wt_H} {tt' : Int32} {a0 a1 : Int32} {v : Int32} (h : xm_M y_Rb_lamp (Cond.code y_Rb_lamp b_Rb_lamp 3 (some .int)) (xm_rm 6 0 0) [.ref 0, .int a0, .int a1] (wB B S T F H tt ++ (wMB B2 rl Z cl hc sl tk kp pa tr co ++ [.inl (1, 1, .inr (.inl o))])) (xm_eq (.inl (some (.int v))) (wB B' S' T' F' H' tt' ++ (wMB B2 rl Z cl hc sl tk kp pa tr co ++ [.inl (1, 1, .inr (.inl o))])))) : xm_M y_Lw_lamp (Cond.codeWith y_Lw_lamp b_Lw_lamp 5 (some .int) [(0, 10, 13, 13), (0, 10, 17, 15)]) (xm_rm 7 0 0) [.ref 0, .int a0, .int a1, .ref 64] (wB B S T F H tt ++ (wMB B2 rl Z cl hc sl tk kp pa tr co ++ [.inl (1, 1, .inr (.inl o))])) (xm_eq (.inl (some (.int 0))) (wB B' S' T' F' H' tt' ++ (wMB B2 rl Z cl hc sl tk kp pa tr co ++ [.inl (1, 1, .inr (.inl (vp_updL o 0 v.toInt64)))]))) := by
  refine xm_ofH (by decide) (Nat.le_of_ble_eq_true rfl) (fun E C0 => ?_)
  refine xs_eq (lv' := [(0, .ref 0), (1, .int a0), (2, .int a1), (3, .ref 64)]) rfl rfl rfl ?_
  refine xs_aload_n C0 d_Lw_lamp_0 rfl 3 rfl ?_
  refine xs_iconst (v := 0) C0 d_Lw_lamp_1 (by decide) ?_
  refine xs_top (v' := .int (nI 0)) rfl ?_
  refine xs_aload_n C0 d_Lw_lamp_2 rfl 0 rfl ?_
  refine xs_iload_n C0 d_Lw_lamp_3 rfl 1 rfl ?_
  refine xs_iload_n C0 d_Lw_lamp_4 rfl 2 rfl ?_
  refine xs_cV1 (ω' := (wB B' S' T' F' H' tt' ++ (wMB B2 rl Z cl hc sl tk kp pa tr co ++ [.inl (1, 1, .inr (.inl o))]))) (As := [.int a0, .int a1]) (st := [.int (nI 0), .ref 64]) (kc' := 0) (ks' := 0) (v := .int v) C0 d_Lw_lamp_5 l_Lw_27 rfl rfl h rfl rfl rfl (Nat.le_of_ble_eq_true rfl) (Nat.le_of_ble_eq_true rfl) (Nat.le_of_ble_eq_true rfl) (Nat.le_of_ble_eq_true rfl) (Nat.le_of_ble_eq_true rfl) (Nat.le_of_ble_eq_true rfl) ?_
  refine xs_i2l C0 d_Lw_lamp_8 ?_
  refine xs_last (ω' := (wB B' S' T' F' H' tt' ++ (wMB B2 rl Z cl hc sl tk kp pa tr co ++ [.inl (1, 1, .inr (.inl (vp_updL o (nI 0).toNatClampNeg v.toInt64)))]))) C0 d_Lw_lamp_9 rfl (vp_in_nI (n := 0) (by decide) (by decide)) rfl ?_
  refine xs_world (ω' := (wB B' S' T' F' H' tt' ++ (wMB B2 rl Z cl hc sl tk kp pa tr co ++ [.inl (1, 1, .inr (.inl (vp_updL o 0 v.toInt64)))]))) (by rw [nI_clamp (by omega)]) ?_
  refine xs_goto (tgt := 21) C0 d_Lw_lamp_10 (by decide) ?_
  refine xs_iconst (v := 0) C0 d_Lw_lamp_21 (by decide) ?_
  exact xs_iret C0 d_Lw_lamp_22 (⟨rfl, rfl⟩) (Nat.le_of_ble_eq_true rfl) (Nat.le_of_ble_eq_true rfl)
set_option maxHeartbeats 4000000 in
set_option maxRecDepth 100000 in
theorem l_lampT {B B2 : wb} {S T : wt_S} {F : wt_F} {H : wt_H} {tt : Int32} {rl : Nat → Int32} {Z : mt_S} {cl : Nat → Int32} {hc : mt_H} {sl tk : Int32} {kp : mt_K} {pa : Nat → Int32} {tr : mt_T} {co : Int32} {o : Nat → Int64} {B' : wb} {S' T' : wt_S} {F' : wt_F} {H' : wt_H} {tt' : Int32} {a0 a1 : Int32} (h : xm_M y_Rb_lamp (Cond.code y_Rb_lamp b_Rb_lamp 3 (some .int)) (xm_rm 10 1 6) [.ref 0, .int a0, .int a1] (wB B S T F H tt ++ (wMB B2 rl Z cl hc sl tk kp pa tr co ++ [.inl (1, 1, .inr (.inl o))])) (xm_eq (.inr "java/lang/IllegalArgumentException") (wB B' S' T' F' H' tt' ++ (wMB B2 rl Z cl hc sl tk kp pa tr co ++ [.inl (1, 1, .inr (.inl o))])))) : xm_M y_Lw_lamp (Cond.codeWith y_Lw_lamp b_Lw_lamp 5 (some .int) [(0, 10, 13, 13), (0, 10, 17, 15)]) (xm_rm 11 1 6) [.ref 0, .int a0, .int a1, .ref 64] (wB B S T F H tt ++ (wMB B2 rl Z cl hc sl tk kp pa tr co ++ [.inl (1, 1, .inr (.inl o))])) (xm_eq (.inl (some (.int 1))) (wB B' S' T' F' H' tt' ++ (wMB B2 rl Z cl hc sl tk kp pa tr co ++ [.inl (1, 1, .inr (.inl o))]))) := by
  refine xm_ofH (by decide) (Nat.le_of_ble_eq_true rfl) (fun E C0 => ?_)
  refine xs_eq (lv' := [(0, .ref 0), (1, .int a0), (2, .int a1), (3, .ref 64)]) rfl rfl rfl ?_
  refine xs_aload_n C0 d_Lw_lamp_0 rfl 3 rfl ?_
  refine xs_iconst (v := 0) C0 d_Lw_lamp_1 (by decide) ?_
  refine xs_aload_n C0 d_Lw_lamp_2 rfl 0 rfl ?_
  refine xs_iload_n C0 d_Lw_lamp_3 rfl 1 rfl ?_
  refine xs_iload_n C0 d_Lw_lamp_4 rfl 2 rfl ?_
  refine xs_cVT (As := [.int a0, .int a1]) (st := [.int 0, .ref 64]) C0 d_Lw_lamp_5 l_Lw_27 rfl rfl h rfl rfl rfl (Nat.le_of_ble_eq_true rfl) (Nat.le_of_ble_eq_true rfl) (Nat.le_of_ble_eq_true rfl) (Nat.le_of_ble_eq_true rfl) (xt_catch1 C0 ⟨by decide, by decide⟩ (by decide) k_318 k_335 rfl ?_)
  refine xs_top (v' := .ref 65) rfl ?_
  refine xs_astore (lv' := [(4, .ref 65), (0, .ref 0), (1, .int a0), (2, .int a1), (3, .ref 64)]) C0 d_Lw_lamp_13 (by decide) rfl ?_
  refine xs_iconst (v := 1) C0 d_Lw_lamp_15 (by decide) ?_
  exact xs_iret C0 d_Lw_lamp_16 (⟨rfl, rfl⟩) (Nat.le_of_ble_eq_true rfl) (Nat.le_of_ble_eq_true rfl)
set_option maxHeartbeats 4000000 in
set_option maxRecDepth 100000 in
theorem l_lampX {B B2 : wb} {S T : wt_S} {F : wt_F} {H : wt_H} {tt : Int32} {rl : Nat → Int32} {Z : mt_S} {cl : Nat → Int32} {hc : mt_H} {sl tk : Int32} {kp : mt_K} {pa : Nat → Int32} {tr : mt_T} {co : Int32} {o : Nat → Int64} {B' : wb} {S' T' : wt_S} {F' : wt_F} {H' : wt_H} {tt' : Int32} {a0 a1 : Int32} (h : xm_M y_Rb_lamp (Cond.code y_Rb_lamp b_Rb_lamp 3 (some .int)) (xm_rm 10 1 6) [.ref 0, .int a0, .int a1] (wB B S T F H tt ++ (wMB B2 rl Z cl hc sl tk kp pa tr co ++ [.inl (1, 1, .inr (.inl o))])) (xm_eq (.inr "java/lang/IllegalStateException") (wB B' S' T' F' H' tt' ++ (wMB B2 rl Z cl hc sl tk kp pa tr co ++ [.inl (1, 1, .inr (.inl o))])))) : xm_M y_Lw_lamp (Cond.codeWith y_Lw_lamp b_Lw_lamp 5 (some .int) [(0, 10, 13, 13), (0, 10, 17, 15)]) (xm_rm 11 1 6) [.ref 0, .int a0, .int a1, .ref 64] (wB B S T F H tt ++ (wMB B2 rl Z cl hc sl tk kp pa tr co ++ [.inl (1, 1, .inr (.inl o))])) (xm_eq (.inl (some (.int 2))) (wB B' S' T' F' H' tt' ++ (wMB B2 rl Z cl hc sl tk kp pa tr co ++ [.inl (1, 1, .inr (.inl o))]))) := by
  refine xm_ofH (by decide) (Nat.le_of_ble_eq_true rfl) (fun E C0 => ?_)
  refine xs_eq (lv' := [(0, .ref 0), (1, .int a0), (2, .int a1), (3, .ref 64)]) rfl rfl rfl ?_
  refine xs_aload_n C0 d_Lw_lamp_0 rfl 3 rfl ?_
  refine xs_iconst (v := 0) C0 d_Lw_lamp_1 (by decide) ?_
  refine xs_aload_n C0 d_Lw_lamp_2 rfl 0 rfl ?_
  refine xs_iload_n C0 d_Lw_lamp_3 rfl 1 rfl ?_
  refine xs_iload_n C0 d_Lw_lamp_4 rfl 2 rfl ?_
  refine xs_cVT (As := [.int a0, .int a1]) (st := [.int 0, .ref 64]) C0 d_Lw_lamp_5 l_Lw_27 rfl rfl h rfl rfl rfl (Nat.le_of_ble_eq_true rfl) (Nat.le_of_ble_eq_true rfl) (Nat.le_of_ble_eq_true rfl) (Nat.le_of_ble_eq_true rfl) (xt_catch2 C0 ⟨by decide, by decide⟩ ⟨by decide, by decide⟩ (by decide) (by decide) k_318 k_319 k_414 (fun _ _ _ h9 => h9.2.2.1) rfl ?_)
  refine xs_top (v' := .ref 65) rfl ?_
  refine xs_astore (lv' := [(4, .ref 65), (0, .ref 0), (1, .int a0), (2, .int a1), (3, .ref 64)]) C0 d_Lw_lamp_17 (by decide) rfl ?_
  refine xs_iconst (v := 2) C0 d_Lw_lamp_19 (by decide) ?_
  exact xs_iret C0 d_Lw_lamp_20 (⟨rfl, rfl⟩) (Nat.le_of_ble_eq_true rfl) (Nat.le_of_ble_eq_true rfl)
set_option maxHeartbeats 4000000 in
set_option maxRecDepth 100000 in
theorem l_turn {B B2 : wb} {S T : wt_S} {F : wt_F} {H : wt_H} {tt : Int32} {rl : Nat → Int32} {Z : mt_S} {cl : Nat → Int32} {hc : mt_H} {sl tk : Int32} {kp : mt_K} {pa : Nat → Int32} {tr : mt_T} {co : Int32} {o : Nat → Int64} {B' : wb} {S' T' : wt_S} {F' : wt_F} {H' : wt_H} {tt' : Int32} {a0 a1 : Int32} {v : Int32} (h : xm_M y_Rb_turn (Cond.code y_Rb_turn b_Rb_turn 4 (some .boolean)) (xm_rm 5 0 0) [.ref 0, .int a0, .int a1] (wB B S T F H tt ++ (wMB B2 rl Z cl hc sl tk kp pa tr co ++ [.inl (1, 1, .inr (.inl o))])) (xm_eq (.inl (some (.int v))) (wB B' S' T' F' H' tt' ++ (wMB B2 rl Z cl hc sl tk kp pa tr co ++ [.inl (1, 1, .inr (.inl o))])))) : xm_M y_Lw_turn (Cond.codeWith y_Lw_turn b_Lw_turn 5 (some .int) [(0, 17, 20, 13)]) (xm_rm 6 0 0) [.ref 0, .int a0, .int a1, .ref 64] (wB B S T F H tt ++ (wMB B2 rl Z cl hc sl tk kp pa tr co ++ [.inl (1, 1, .inr (.inl o))])) (xm_eq (.inl (some (.int 0))) (wB B' S' T' F' H' tt' ++ (wMB B2 rl Z cl hc sl tk kp pa tr co ++ [.inl (1, 1, .inr (.inl (vp_updL o 0 (if v = 0 then 0 else 1))))]))) := by
  refine xm_ofH (by decide) (Nat.le_of_ble_eq_true rfl) (fun E C0 => ?_)
  refine xs_eq (lv' := [(0, .ref 0), (1, .int a0), (2, .int a1), (3, .ref 64)]) rfl rfl rfl ?_
  refine xs_aload_n C0 d_Lw_turn_0 rfl 3 rfl ?_
  refine xs_iconst (v := 0) C0 d_Lw_turn_1 (by decide) ?_
  refine xs_top (v' := .int (nI 0)) rfl ?_
  refine xs_aload_n C0 d_Lw_turn_2 rfl 0 rfl ?_
  refine xs_iload_n C0 d_Lw_turn_3 rfl 1 rfl ?_
  refine xs_iload_n C0 d_Lw_turn_4 rfl 2 rfl ?_
  refine xs_cV1 (ω' := (wB B' S' T' F' H' tt' ++ (wMB B2 rl Z cl hc sl tk kp pa tr co ++ [.inl (1, 1, .inr (.inl o))]))) (As := [.int a0, .int a1]) (st := [.int (nI 0), .ref 64]) (kc' := 0) (ks' := 0) (v := .int v) C0 d_Lw_turn_5 l_Lw_30 rfl rfl h rfl rfl rfl (Nat.le_of_ble_eq_true rfl) (Nat.le_of_ble_eq_true rfl) (Nat.le_of_ble_eq_true rfl) (Nat.le_of_ble_eq_true rfl) (Nat.le_of_ble_eq_true rfl) (Nat.le_of_ble_eq_true rfl) ?_
  refine xs_if_eq (tgt := 15) C0 d_Lw_turn_8 (by decide) (fun c1 => ?_) (fun c1 => ?_)
  · refine xs_lconst (v := 0) C0 d_Lw_turn_15 rfl ?_
    refine xs_top (v' := .long (if v = 0 then 0 else 1)) (by rw [if_pos c1]) ?_
    refine xs_last (ω' := (wB B' S' T' F' H' tt' ++ (wMB B2 rl Z cl hc sl tk kp pa tr co ++ [.inl (1, 1, .inr (.inl (vp_updL o (nI 0).toNatClampNeg (if v = 0 then 0 else 1))))]))) C0 d_Lw_turn_16 rfl (vp_in_nI (n := 0) (by decide) (by decide)) rfl ?_
    refine xs_world (ω' := (wB B' S' T' F' H' tt' ++ (wMB B2 rl Z cl hc sl tk kp pa tr co ++ [.inl (1, 1, .inr (.inl (vp_updL o 0 (if v = 0 then 0 else 1))))]))) (by rw [nI_clamp (by omega)]) ?_
    refine xs_goto (tgt := 24) C0 d_Lw_turn_17 (by decide) ?_
    refine xs_iconst (v := 0) C0 d_Lw_turn_24 (by decide) ?_
    exact xs_iret C0 d_Lw_turn_25 (⟨rfl, rfl⟩) (Nat.le_of_ble_eq_true rfl) (Nat.le_of_ble_eq_true rfl)
  · refine xs_lconst (v := 1) C0 d_Lw_turn_11 rfl ?_
    refine xs_goto (tgt := 16) C0 d_Lw_turn_12 (by decide) ?_
    refine xs_top (v' := .long (if v = 0 then 0 else 1)) (by rw [if_neg c1]) ?_
    refine xs_last (ω' := (wB B' S' T' F' H' tt' ++ (wMB B2 rl Z cl hc sl tk kp pa tr co ++ [.inl (1, 1, .inr (.inl (vp_updL o (nI 0).toNatClampNeg (if v = 0 then 0 else 1))))]))) C0 d_Lw_turn_16 rfl (vp_in_nI (n := 0) (by decide) (by decide)) rfl ?_
    refine xs_world (ω' := (wB B' S' T' F' H' tt' ++ (wMB B2 rl Z cl hc sl tk kp pa tr co ++ [.inl (1, 1, .inr (.inl (vp_updL o 0 (if v = 0 then 0 else 1))))]))) (by rw [nI_clamp (by omega)]) ?_
    refine xs_goto (tgt := 24) C0 d_Lw_turn_17 (by decide) ?_
    refine xs_iconst (v := 0) C0 d_Lw_turn_24 (by decide) ?_
    exact xs_iret C0 d_Lw_turn_25 (⟨rfl, rfl⟩) (Nat.le_of_ble_eq_true rfl) (Nat.le_of_ble_eq_true rfl)
set_option maxHeartbeats 4000000 in
set_option maxRecDepth 100000 in
theorem l_turnT {B B2 : wb} {S T : wt_S} {F : wt_F} {H : wt_H} {tt : Int32} {rl : Nat → Int32} {Z : mt_S} {cl : Nat → Int32} {hc : mt_H} {sl tk : Int32} {kp : mt_K} {pa : Nat → Int32} {tr : mt_T} {co : Int32} {o : Nat → Int64} {B' : wb} {S' T' : wt_S} {F' : wt_F} {H' : wt_H} {tt' : Int32} {a0 a1 : Int32} (h : xm_M y_Rb_turn (Cond.code y_Rb_turn b_Rb_turn 4 (some .boolean)) (xm_rm 8 1 6) [.ref 0, .int a0, .int a1] (wB B S T F H tt ++ (wMB B2 rl Z cl hc sl tk kp pa tr co ++ [.inl (1, 1, .inr (.inl o))])) (xm_eq (.inr "java/lang/IllegalArgumentException") (wB B' S' T' F' H' tt' ++ (wMB B2 rl Z cl hc sl tk kp pa tr co ++ [.inl (1, 1, .inr (.inl o))])))) : xm_M y_Lw_turn (Cond.codeWith y_Lw_turn b_Lw_turn 5 (some .int) [(0, 17, 20, 13)]) (xm_rm 9 1 6) [.ref 0, .int a0, .int a1, .ref 64] (wB B S T F H tt ++ (wMB B2 rl Z cl hc sl tk kp pa tr co ++ [.inl (1, 1, .inr (.inl o))])) (xm_eq (.inl (some (.int 1))) (wB B' S' T' F' H' tt' ++ (wMB B2 rl Z cl hc sl tk kp pa tr co ++ [.inl (1, 1, .inr (.inl o))]))) := by
  refine xm_ofH (by decide) (Nat.le_of_ble_eq_true rfl) (fun E C0 => ?_)
  refine xs_eq (lv' := [(0, .ref 0), (1, .int a0), (2, .int a1), (3, .ref 64)]) rfl rfl rfl ?_
  refine xs_aload_n C0 d_Lw_turn_0 rfl 3 rfl ?_
  refine xs_iconst (v := 0) C0 d_Lw_turn_1 (by decide) ?_
  refine xs_aload_n C0 d_Lw_turn_2 rfl 0 rfl ?_
  refine xs_iload_n C0 d_Lw_turn_3 rfl 1 rfl ?_
  refine xs_iload_n C0 d_Lw_turn_4 rfl 2 rfl ?_
  refine xs_cVT (As := [.int a0, .int a1]) (st := [.int 0, .ref 64]) C0 d_Lw_turn_5 l_Lw_30 rfl rfl h rfl rfl rfl (Nat.le_of_ble_eq_true rfl) (Nat.le_of_ble_eq_true rfl) (Nat.le_of_ble_eq_true rfl) (Nat.le_of_ble_eq_true rfl) (xt_catch1 C0 ⟨by decide, by decide⟩ (by decide) k_318 k_335 rfl ?_)
  refine xs_top (v' := .ref 65) rfl ?_
  refine xs_astore (lv' := [(4, .ref 65), (0, .ref 0), (1, .int a0), (2, .int a1), (3, .ref 64)]) C0 d_Lw_turn_20 (by decide) rfl ?_
  refine xs_iconst (v := 1) C0 d_Lw_turn_22 (by decide) ?_
  exact xs_iret C0 d_Lw_turn_23 (⟨rfl, rfl⟩) (Nat.le_of_ble_eq_true rfl) (Nat.le_of_ble_eq_true rfl)
set_option maxHeartbeats 4000000 in
set_option maxRecDepth 100000 in
theorem l_dial {B B2 : wb} {S T : wt_S} {F : wt_F} {H : wt_H} {tt : Int32} {rl : Nat → Int32} {Z : mt_S} {cl : Nat → Int32} {hc : mt_H} {sl tk : Int32} {kp : mt_K} {pa : Nat → Int32} {tr : mt_T} {co : Int32} {o : Nat → Int64} {B' : wb} {S' T' : wt_S} {F' : wt_F} {H' : wt_H} {tt' : Int32} {a0 a1 a2 : Int32} (h : xm_M y_Rb_dial (Cond.code y_Rb_dial b_Rb_dial 5 none) (xm_rm 5 0 0) [.ref 0, .int a0, .int a1, .int a2] (wB B S T F H tt ++ (wMB B2 rl Z cl hc sl tk kp pa tr co ++ [.inl (1, 1, .inr (.inl o))])) (xm_eq (.inl none) (wB B' S' T' F' H' tt' ++ (wMB B2 rl Z cl hc sl tk kp pa tr co ++ [.inl (1, 1, .inr (.inl o))])))) : xm_M y_Lw_dial (Cond.codeWith y_Lw_dial b_Lw_dial 5 (some .int) [(0, 7, 10, 13)]) (xm_rm 6 0 0) [.ref 0, .int a0, .int a1, .int a2] (wB B S T F H tt ++ (wMB B2 rl Z cl hc sl tk kp pa tr co ++ [.inl (1, 1, .inr (.inl o))])) (xm_eq (.inl (some (.int 0))) (wB B' S' T' F' H' tt' ++ (wMB B2 rl Z cl hc sl tk kp pa tr co ++ [.inl (1, 1, .inr (.inl o))]))) := by
  refine xm_ofH (by decide) (Nat.le_of_ble_eq_true rfl) (fun E C0 => ?_)
  refine xs_eq (lv' := [(0, .ref 0), (1, .int a0), (2, .int a1), (3, .int a2)]) rfl rfl rfl ?_
  refine xs_aload_n C0 d_Lw_dial_0 rfl 0 rfl ?_
  refine xs_iload_n C0 d_Lw_dial_1 rfl 1 rfl ?_
  refine xs_iload_n C0 d_Lw_dial_2 rfl 2 rfl ?_
  refine xs_iload_n C0 d_Lw_dial_3 rfl 3 rfl ?_
  refine xs_cV0 (ω' := (wB B' S' T' F' H' tt' ++ (wMB B2 rl Z cl hc sl tk kp pa tr co ++ [.inl (1, 1, .inr (.inl o))]))) (As := [.int a0, .int a1, .int a2]) (st := []) (kc' := 0) (ks' := 0) C0 d_Lw_dial_4 l_Lw_34 rfl rfl h rfl rfl rfl (Nat.le_of_ble_eq_true rfl) (Nat.le_of_ble_eq_true rfl) (Nat.le_of_ble_eq_true rfl) (Nat.le_of_ble_eq_true rfl) (Nat.le_of_ble_eq_true rfl) (Nat.le_of_ble_eq_true rfl) ?_
  refine xs_goto (tgt := 14) C0 d_Lw_dial_7 (by decide) ?_
  refine xs_iconst (v := 0) C0 d_Lw_dial_14 (by decide) ?_
  exact xs_iret C0 d_Lw_dial_15 (⟨rfl, rfl⟩) (Nat.le_of_ble_eq_true rfl) (Nat.le_of_ble_eq_true rfl)
set_option maxHeartbeats 4000000 in
set_option maxRecDepth 100000 in
theorem l_dialT {B B2 : wb} {S T : wt_S} {F : wt_F} {H : wt_H} {tt : Int32} {rl : Nat → Int32} {Z : mt_S} {cl : Nat → Int32} {hc : mt_H} {sl tk : Int32} {kp : mt_K} {pa : Nat → Int32} {tr : mt_T} {co : Int32} {o : Nat → Int64} {B' : wb} {S' T' : wt_S} {F' : wt_F} {H' : wt_H} {tt' : Int32} {a0 a1 a2 : Int32} (h : xm_M y_Rb_dial (Cond.code y_Rb_dial b_Rb_dial 5 none) (xm_rm 7 1 6) [.ref 0, .int a0, .int a1, .int a2] (wB B S T F H tt ++ (wMB B2 rl Z cl hc sl tk kp pa tr co ++ [.inl (1, 1, .inr (.inl o))])) (xm_eq (.inr "java/lang/IllegalArgumentException") (wB B' S' T' F' H' tt' ++ (wMB B2 rl Z cl hc sl tk kp pa tr co ++ [.inl (1, 1, .inr (.inl o))])))) : xm_M y_Lw_dial (Cond.codeWith y_Lw_dial b_Lw_dial 5 (some .int) [(0, 7, 10, 13)]) (xm_rm 8 1 6) [.ref 0, .int a0, .int a1, .int a2] (wB B S T F H tt ++ (wMB B2 rl Z cl hc sl tk kp pa tr co ++ [.inl (1, 1, .inr (.inl o))])) (xm_eq (.inl (some (.int 1))) (wB B' S' T' F' H' tt' ++ (wMB B2 rl Z cl hc sl tk kp pa tr co ++ [.inl (1, 1, .inr (.inl o))]))) := by
  refine xm_ofH (by decide) (Nat.le_of_ble_eq_true rfl) (fun E C0 => ?_)
  refine xs_eq (lv' := [(0, .ref 0), (1, .int a0), (2, .int a1), (3, .int a2)]) rfl rfl rfl ?_
  refine xs_aload_n C0 d_Lw_dial_0 rfl 0 rfl ?_
  refine xs_iload_n C0 d_Lw_dial_1 rfl 1 rfl ?_
  refine xs_iload_n C0 d_Lw_dial_2 rfl 2 rfl ?_
  refine xs_iload_n C0 d_Lw_dial_3 rfl 3 rfl ?_
  refine xs_cVT (As := [.int a0, .int a1, .int a2]) (st := []) C0 d_Lw_dial_4 l_Lw_34 rfl rfl h rfl rfl rfl (Nat.le_of_ble_eq_true rfl) (Nat.le_of_ble_eq_true rfl) (Nat.le_of_ble_eq_true rfl) (Nat.le_of_ble_eq_true rfl) (xt_catch1 C0 ⟨by decide, by decide⟩ (by decide) k_318 k_335 rfl ?_)
  refine xs_top (v' := .ref 65) rfl ?_
  refine xs_astore (lv' := [(4, .ref 65), (0, .ref 0), (1, .int a0), (2, .int a1), (3, .int a2)]) C0 d_Lw_dial_10 (by decide) rfl ?_
  refine xs_iconst (v := 1) C0 d_Lw_dial_12 (by decide) ?_
  exact xs_iret C0 d_Lw_dial_13 (⟨rfl, rfl⟩) (Nat.le_of_ble_eq_true rfl) (Nat.le_of_ble_eq_true rfl)
set_option maxHeartbeats 4000000 in
set_option maxRecDepth 100000 in
theorem l_tick {B B2 : wb} {S T : wt_S} {F : wt_F} {H : wt_H} {tt : Int32} {rl : Nat → Int32} {Z : mt_S} {cl : Nat → Int32} {hc : mt_H} {sl tk : Int32} {kp : mt_K} {pa : Nat → Int32} {tr : mt_T} {co : Int32} {o : Nat → Int64} {B' : wb} {S' T' : wt_S} {F' : wt_F} {H' : wt_H} {tt' : Int32} {a0 : Int32} {v : Int32} (h : xm_M y_Rb_tick (Cond.code y_Rb_tick b_Rb_tick 4 (some .int)) (xm_rm 6 0 0) [.ref 0, .int a0] (wB B S T F H tt ++ (wMB B2 rl Z cl hc sl tk kp pa tr co ++ [.inl (1, 1, .inr (.inl o))])) (xm_eq (.inl (some (.int v))) (wB B' S' T' F' H' tt' ++ (wMB B2 rl Z cl hc sl tk kp pa tr co ++ [.inl (1, 1, .inr (.inl o))])))) : xm_M y_Lw_tick (Cond.codeWith y_Lw_tick b_Lw_tick 4 (some .int) [(0, 9, 12, 13)]) (xm_rm 7 0 0) [.ref 0, .int a0, .ref 64] (wB B S T F H tt ++ (wMB B2 rl Z cl hc sl tk kp pa tr co ++ [.inl (1, 1, .inr (.inl o))])) (xm_eq (.inl (some (.int 0))) (wB B' S' T' F' H' tt' ++ (wMB B2 rl Z cl hc sl tk kp pa tr co ++ [.inl (1, 1, .inr (.inl (vp_updL o 0 v.toInt64)))]))) := by
  refine xm_ofH (by decide) (Nat.le_of_ble_eq_true rfl) (fun E C0 => ?_)
  refine xs_eq (lv' := [(0, .ref 0), (1, .int a0), (2, .ref 64)]) rfl rfl rfl ?_
  refine xs_aload_n C0 d_Lw_tick_0 rfl 2 rfl ?_
  refine xs_iconst (v := 0) C0 d_Lw_tick_1 (by decide) ?_
  refine xs_top (v' := .int (nI 0)) rfl ?_
  refine xs_aload_n C0 d_Lw_tick_2 rfl 0 rfl ?_
  refine xs_iload_n C0 d_Lw_tick_3 rfl 1 rfl ?_
  refine xs_cV1 (ω' := (wB B' S' T' F' H' tt' ++ (wMB B2 rl Z cl hc sl tk kp pa tr co ++ [.inl (1, 1, .inr (.inl o))]))) (As := [.int a0]) (st := [.int (nI 0), .ref 64]) (kc' := 0) (ks' := 0) (v := .int v) C0 d_Lw_tick_4 l_Lw_38 rfl rfl h rfl rfl rfl (Nat.le_of_ble_eq_true rfl) (Nat.le_of_ble_eq_true rfl) (Nat.le_of_ble_eq_true rfl) (Nat.le_of_ble_eq_true rfl) (Nat.le_of_ble_eq_true rfl) (Nat.le_of_ble_eq_true rfl) ?_
  refine xs_i2l C0 d_Lw_tick_7 ?_
  refine xs_last (ω' := (wB B' S' T' F' H' tt' ++ (wMB B2 rl Z cl hc sl tk kp pa tr co ++ [.inl (1, 1, .inr (.inl (vp_updL o (nI 0).toNatClampNeg v.toInt64)))]))) C0 d_Lw_tick_8 rfl (vp_in_nI (n := 0) (by decide) (by decide)) rfl ?_
  refine xs_world (ω' := (wB B' S' T' F' H' tt' ++ (wMB B2 rl Z cl hc sl tk kp pa tr co ++ [.inl (1, 1, .inr (.inl (vp_updL o 0 v.toInt64)))]))) (by rw [nI_clamp (by omega)]) ?_
  refine xs_goto (tgt := 15) C0 d_Lw_tick_9 (by decide) ?_
  refine xs_iconst (v := 0) C0 d_Lw_tick_15 (by decide) ?_
  exact xs_iret C0 d_Lw_tick_16 (⟨rfl, rfl⟩) (Nat.le_of_ble_eq_true rfl) (Nat.le_of_ble_eq_true rfl)
set_option maxHeartbeats 4000000 in
set_option maxRecDepth 100000 in
theorem l_tickT {B B2 : wb} {S T : wt_S} {F : wt_F} {H : wt_H} {tt : Int32} {rl : Nat → Int32} {Z : mt_S} {cl : Nat → Int32} {hc : mt_H} {sl tk : Int32} {kp : mt_K} {pa : Nat → Int32} {tr : mt_T} {co : Int32} {o : Nat → Int64} {B' : wb} {S' T' : wt_S} {F' : wt_F} {H' : wt_H} {tt' : Int32} {a0 : Int32} (h : xm_M y_Rb_tick (Cond.code y_Rb_tick b_Rb_tick 4 (some .int)) (xm_rm 7 1 6) [.ref 0, .int a0] (wB B S T F H tt ++ (wMB B2 rl Z cl hc sl tk kp pa tr co ++ [.inl (1, 1, .inr (.inl o))])) (xm_eq (.inr "java/lang/IllegalArgumentException") (wB B' S' T' F' H' tt' ++ (wMB B2 rl Z cl hc sl tk kp pa tr co ++ [.inl (1, 1, .inr (.inl o))])))) : xm_M y_Lw_tick (Cond.codeWith y_Lw_tick b_Lw_tick 4 (some .int) [(0, 9, 12, 13)]) (xm_rm 8 1 6) [.ref 0, .int a0, .ref 64] (wB B S T F H tt ++ (wMB B2 rl Z cl hc sl tk kp pa tr co ++ [.inl (1, 1, .inr (.inl o))])) (xm_eq (.inl (some (.int 1))) (wB B' S' T' F' H' tt' ++ (wMB B2 rl Z cl hc sl tk kp pa tr co ++ [.inl (1, 1, .inr (.inl o))]))) := by
  refine xm_ofH (by decide) (Nat.le_of_ble_eq_true rfl) (fun E C0 => ?_)
  refine xs_eq (lv' := [(0, .ref 0), (1, .int a0), (2, .ref 64)]) rfl rfl rfl ?_
  refine xs_aload_n C0 d_Lw_tick_0 rfl 2 rfl ?_
  refine xs_iconst (v := 0) C0 d_Lw_tick_1 (by decide) ?_
  refine xs_aload_n C0 d_Lw_tick_2 rfl 0 rfl ?_
  refine xs_iload_n C0 d_Lw_tick_3 rfl 1 rfl ?_
  refine xs_cVT (As := [.int a0]) (st := [.int 0, .ref 64]) C0 d_Lw_tick_4 l_Lw_38 rfl rfl h rfl rfl rfl (Nat.le_of_ble_eq_true rfl) (Nat.le_of_ble_eq_true rfl) (Nat.le_of_ble_eq_true rfl) (Nat.le_of_ble_eq_true rfl) (xt_catch1 C0 ⟨by decide, by decide⟩ (by decide) k_318 k_335 rfl ?_)
  refine xs_top (v' := .ref 65) rfl ?_
  refine xs_astore_n (lv' := [(3, .ref 65), (0, .ref 0), (1, .int a0), (2, .ref 64)]) C0 d_Lw_tick_12 rfl (by decide) rfl ?_
  refine xs_iconst (v := 1) C0 d_Lw_tick_13 (by decide) ?_
  exact xs_iret C0 d_Lw_tick_14 (⟨rfl, rfl⟩) (Nat.le_of_ble_eq_true rfl) (Nat.le_of_ble_eq_true rfl)
set_option maxHeartbeats 4000000 in
set_option maxRecDepth 100000 in
theorem l_settle {B B2 : wb} {S T : wt_S} {F : wt_F} {H : wt_H} {tt : Int32} {rl : Nat → Int32} {Z : mt_S} {cl : Nat → Int32} {hc : mt_H} {sl tk : Int32} {kp : mt_K} {pa : Nat → Int32} {tr : mt_T} {co : Int32} {o : Nat → Int64} {B' : wb} {S' T' : wt_S} {F' : wt_F} {H' : wt_H} {tt' : Int32} {a0 : Int32} {v : Int32} (h : xm_M y_Rb_settle (Cond.code y_Rb_settle b_Rb_settle 3 (some .int)) (xm_rm 7 0 0) [.ref 0, .int a0] (wB B S T F H tt ++ (wMB B2 rl Z cl hc sl tk kp pa tr co ++ [.inl (1, 1, .inr (.inl o))])) (xm_eq (.inl (some (.int v))) (wB B' S' T' F' H' tt' ++ (wMB B2 rl Z cl hc sl tk kp pa tr co ++ [.inl (1, 1, .inr (.inl o))])))) : xm_M y_Lw_settle (Cond.codeWith y_Lw_settle b_Lw_settle 4 (some .int) [(0, 9, 12, 13), (0, 9, 15, 45)]) (xm_rm 8 0 0) [.ref 0, .int a0, .ref 64] (wB B S T F H tt ++ (wMB B2 rl Z cl hc sl tk kp pa tr co ++ [.inl (1, 1, .inr (.inl o))])) (xm_eq (.inl (some (.int 0))) (wB B' S' T' F' H' tt' ++ (wMB B2 rl Z cl hc sl tk kp pa tr co ++ [.inl (1, 1, .inr (.inl (vp_updL o 0 v.toInt64)))]))) := by
  refine xm_ofH (by decide) (Nat.le_of_ble_eq_true rfl) (fun E C0 => ?_)
  refine xs_eq (lv' := [(0, .ref 0), (1, .int a0), (2, .ref 64)]) rfl rfl rfl ?_
  refine xs_aload_n C0 d_Lw_settle_0 rfl 2 rfl ?_
  refine xs_iconst (v := 0) C0 d_Lw_settle_1 (by decide) ?_
  refine xs_top (v' := .int (nI 0)) rfl ?_
  refine xs_aload_n C0 d_Lw_settle_2 rfl 0 rfl ?_
  refine xs_iload_n C0 d_Lw_settle_3 rfl 1 rfl ?_
  refine xs_cV1 (ω' := (wB B' S' T' F' H' tt' ++ (wMB B2 rl Z cl hc sl tk kp pa tr co ++ [.inl (1, 1, .inr (.inl o))]))) (As := [.int a0]) (st := [.int (nI 0), .ref 64]) (kc' := 0) (ks' := 0) (v := .int v) C0 d_Lw_settle_4 l_Lw_42 rfl rfl h rfl rfl rfl (Nat.le_of_ble_eq_true rfl) (Nat.le_of_ble_eq_true rfl) (Nat.le_of_ble_eq_true rfl) (Nat.le_of_ble_eq_true rfl) (Nat.le_of_ble_eq_true rfl) (Nat.le_of_ble_eq_true rfl) ?_
  refine xs_i2l C0 d_Lw_settle_7 ?_
  refine xs_last (ω' := (wB B' S' T' F' H' tt' ++ (wMB B2 rl Z cl hc sl tk kp pa tr co ++ [.inl (1, 1, .inr (.inl (vp_updL o (nI 0).toNatClampNeg v.toInt64)))]))) C0 d_Lw_settle_8 rfl (vp_in_nI (n := 0) (by decide) (by decide)) rfl ?_
  refine xs_world (ω' := (wB B' S' T' F' H' tt' ++ (wMB B2 rl Z cl hc sl tk kp pa tr co ++ [.inl (1, 1, .inr (.inl (vp_updL o 0 v.toInt64)))]))) (by rw [nI_clamp (by omega)]) ?_
  refine xs_goto (tgt := 18) C0 d_Lw_settle_9 (by decide) ?_
  refine xs_iconst (v := 0) C0 d_Lw_settle_18 (by decide) ?_
  exact xs_iret C0 d_Lw_settle_19 (⟨rfl, rfl⟩) (Nat.le_of_ble_eq_true rfl) (Nat.le_of_ble_eq_true rfl)
set_option maxHeartbeats 4000000 in
set_option maxRecDepth 100000 in
theorem l_settleT {B B2 : wb} {S T : wt_S} {F : wt_F} {H : wt_H} {tt : Int32} {rl : Nat → Int32} {Z : mt_S} {cl : Nat → Int32} {hc : mt_H} {sl tk : Int32} {kp : mt_K} {pa : Nat → Int32} {tr : mt_T} {co : Int32} {o : Nat → Int64} {B' : wb} {S' T' : wt_S} {F' : wt_F} {H' : wt_H} {tt' : Int32} {a0 : Int32} (h : xm_M y_Rb_settle (Cond.code y_Rb_settle b_Rb_settle 3 (some .int)) (xm_rm 7 1 6) [.ref 0, .int a0] (wB B S T F H tt ++ (wMB B2 rl Z cl hc sl tk kp pa tr co ++ [.inl (1, 1, .inr (.inl o))])) (xm_eq (.inr "java/lang/IllegalArgumentException") (wB B' S' T' F' H' tt' ++ (wMB B2 rl Z cl hc sl tk kp pa tr co ++ [.inl (1, 1, .inr (.inl o))])))) : xm_M y_Lw_settle (Cond.codeWith y_Lw_settle b_Lw_settle 4 (some .int) [(0, 9, 12, 13), (0, 9, 15, 45)]) (xm_rm 8 1 6) [.ref 0, .int a0, .ref 64] (wB B S T F H tt ++ (wMB B2 rl Z cl hc sl tk kp pa tr co ++ [.inl (1, 1, .inr (.inl o))])) (xm_eq (.inl (some (.int 1))) (wB B' S' T' F' H' tt' ++ (wMB B2 rl Z cl hc sl tk kp pa tr co ++ [.inl (1, 1, .inr (.inl o))]))) := by
  refine xm_ofH (by decide) (Nat.le_of_ble_eq_true rfl) (fun E C0 => ?_)
  refine xs_eq (lv' := [(0, .ref 0), (1, .int a0), (2, .ref 64)]) rfl rfl rfl ?_
  refine xs_aload_n C0 d_Lw_settle_0 rfl 2 rfl ?_
  refine xs_iconst (v := 0) C0 d_Lw_settle_1 (by decide) ?_
  refine xs_aload_n C0 d_Lw_settle_2 rfl 0 rfl ?_
  refine xs_iload_n C0 d_Lw_settle_3 rfl 1 rfl ?_
  refine xs_cVT (As := [.int a0]) (st := [.int 0, .ref 64]) C0 d_Lw_settle_4 l_Lw_42 rfl rfl h rfl rfl rfl (Nat.le_of_ble_eq_true rfl) (Nat.le_of_ble_eq_true rfl) (Nat.le_of_ble_eq_true rfl) (Nat.le_of_ble_eq_true rfl) (xt_catch1 C0 ⟨by decide, by decide⟩ (by decide) k_318 k_335 rfl ?_)
  refine xs_top (v' := .ref 65) rfl ?_
  refine xs_astore_n (lv' := [(3, .ref 65), (0, .ref 0), (1, .int a0), (2, .ref 64)]) C0 d_Lw_settle_12 rfl (by decide) rfl ?_
  refine xs_iconst (v := 1) C0 d_Lw_settle_13 (by decide) ?_
  exact xs_iret C0 d_Lw_settle_14 (⟨rfl, rfl⟩) (Nat.le_of_ble_eq_true rfl) (Nat.le_of_ble_eq_true rfl)
set_option maxHeartbeats 4000000 in
set_option maxRecDepth 100000 in
theorem l_settleX {B B2 : wb} {S T : wt_S} {F : wt_F} {H : wt_H} {tt : Int32} {rl : Nat → Int32} {Z : mt_S} {cl : Nat → Int32} {hc : mt_H} {sl tk : Int32} {kp : mt_K} {pa : Nat → Int32} {tr : mt_T} {co : Int32} {o : Nat → Int64} {B' : wb} {S' T' : wt_S} {F' : wt_F} {H' : wt_H} {tt' : Int32} {a0 : Int32} (h : xm_M y_Rb_settle (Cond.code y_Rb_settle b_Rb_settle 3 (some .int)) (xm_rm 7 1 6) [.ref 0, .int a0] (wB B S T F H tt ++ (wMB B2 rl Z cl hc sl tk kp pa tr co ++ [.inl (1, 1, .inr (.inl o))])) (xm_eq (.inr "java/lang/UnsupportedOperationException") (wB B' S' T' F' H' tt' ++ (wMB B2 rl Z cl hc sl tk kp pa tr co ++ [.inl (1, 1, .inr (.inl o))])))) : xm_M y_Lw_settle (Cond.codeWith y_Lw_settle b_Lw_settle 4 (some .int) [(0, 9, 12, 13), (0, 9, 15, 45)]) (xm_rm 8 1 6) [.ref 0, .int a0, .ref 64] (wB B S T F H tt ++ (wMB B2 rl Z cl hc sl tk kp pa tr co ++ [.inl (1, 1, .inr (.inl o))])) (xm_eq (.inl (some (.int 2))) (wB B' S' T' F' H' tt' ++ (wMB B2 rl Z cl hc sl tk kp pa tr co ++ [.inl (1, 1, .inr (.inl o))]))) := by
  refine xm_ofH (by decide) (Nat.le_of_ble_eq_true rfl) (fun E C0 => ?_)
  refine xs_eq (lv' := [(0, .ref 0), (1, .int a0), (2, .ref 64)]) rfl rfl rfl ?_
  refine xs_aload_n C0 d_Lw_settle_0 rfl 2 rfl ?_
  refine xs_iconst (v := 0) C0 d_Lw_settle_1 (by decide) ?_
  refine xs_aload_n C0 d_Lw_settle_2 rfl 0 rfl ?_
  refine xs_iload_n C0 d_Lw_settle_3 rfl 1 rfl ?_
  refine xs_cVT (As := [.int a0]) (st := [.int 0, .ref 64]) C0 d_Lw_settle_4 l_Lw_42 rfl rfl h rfl rfl rfl (Nat.le_of_ble_eq_true rfl) (Nat.le_of_ble_eq_true rfl) (Nat.le_of_ble_eq_true rfl) (Nat.le_of_ble_eq_true rfl) (xt_catch2 C0 ⟨by decide, by decide⟩ ⟨by decide, by decide⟩ (by decide) (by decide) k_318 k_528 k_547 (fun _ _ _ h9 => h9.2.2.2) rfl ?_)
  refine xs_top (v' := .ref 65) rfl ?_
  refine xs_astore_n (lv' := [(3, .ref 65), (0, .ref 0), (1, .int a0), (2, .ref 64)]) C0 d_Lw_settle_15 rfl (by decide) rfl ?_
  refine xs_iconst (v := 2) C0 d_Lw_settle_16 (by decide) ?_
  exact xs_iret C0 d_Lw_settle_17 (⟨rfl, rfl⟩) (Nat.le_of_ble_eq_true rfl) (Nat.le_of_ble_eq_true rfl)
set_option maxHeartbeats 4000000 in
set_option maxRecDepth 100000 in
theorem l_circle {B B2 : wb} {S T : wt_S} {F : wt_F} {H : wt_H} {tt : Int32} {rl : Nat → Int32} {Z : mt_S} {cl : Nat → Int32} {hc : mt_H} {sl tk : Int32} {kp : mt_K} {pa : Nat → Int32} {tr : mt_T} {co : Int32} {o : Nat → Int64} {B' : wb} {S' T' : wt_S} {F' : wt_F} {H' : wt_H} {tt' : Int32} {a0 : Int32} {v : Int32} (h : xm_M y_Rb_circle (Cond.code y_Rb_circle b_Rb_circle 4 (some .int)) (xm_rm 6 0 0) [.ref 0, .int a0] (wB B S T F H tt ++ (wMB B2 rl Z cl hc sl tk kp pa tr co ++ [.inl (1, 1, .inr (.inl o))])) (xm_eq (.inl (some (.int v))) (wB B' S' T' F' H' tt' ++ (wMB B2 rl Z cl hc sl tk kp pa tr co ++ [.inl (1, 1, .inr (.inl o))])))) : xm_M y_Lw_circle (Cond.codeWith y_Lw_circle b_Lw_circle 4 (some .int) [(0, 9, 12, 13), (0, 9, 15, 45)]) (xm_rm 7 0 0) [.ref 0, .int a0, .ref 64] (wB B S T F H tt ++ (wMB B2 rl Z cl hc sl tk kp pa tr co ++ [.inl (1, 1, .inr (.inl o))])) (xm_eq (.inl (some (.int 0))) (wB B' S' T' F' H' tt' ++ (wMB B2 rl Z cl hc sl tk kp pa tr co ++ [.inl (1, 1, .inr (.inl (vp_updL o 0 v.toInt64)))]))) := by
  refine xm_ofH (by decide) (Nat.le_of_ble_eq_true rfl) (fun E C0 => ?_)
  refine xs_eq (lv' := [(0, .ref 0), (1, .int a0), (2, .ref 64)]) rfl rfl rfl ?_
  refine xs_aload_n C0 d_Lw_circle_0 rfl 2 rfl ?_
  refine xs_iconst (v := 0) C0 d_Lw_circle_1 (by decide) ?_
  refine xs_top (v' := .int (nI 0)) rfl ?_
  refine xs_aload_n C0 d_Lw_circle_2 rfl 0 rfl ?_
  refine xs_iload_n C0 d_Lw_circle_3 rfl 1 rfl ?_
  refine xs_cV1 (ω' := (wB B' S' T' F' H' tt' ++ (wMB B2 rl Z cl hc sl tk kp pa tr co ++ [.inl (1, 1, .inr (.inl o))]))) (As := [.int a0]) (st := [.int (nI 0), .ref 64]) (kc' := 0) (ks' := 0) (v := .int v) C0 d_Lw_circle_4 l_Lw_47 rfl rfl h rfl rfl rfl (Nat.le_of_ble_eq_true rfl) (Nat.le_of_ble_eq_true rfl) (Nat.le_of_ble_eq_true rfl) (Nat.le_of_ble_eq_true rfl) (Nat.le_of_ble_eq_true rfl) (Nat.le_of_ble_eq_true rfl) ?_
  refine xs_i2l C0 d_Lw_circle_7 ?_
  refine xs_last (ω' := (wB B' S' T' F' H' tt' ++ (wMB B2 rl Z cl hc sl tk kp pa tr co ++ [.inl (1, 1, .inr (.inl (vp_updL o (nI 0).toNatClampNeg v.toInt64)))]))) C0 d_Lw_circle_8 rfl (vp_in_nI (n := 0) (by decide) (by decide)) rfl ?_
  refine xs_world (ω' := (wB B' S' T' F' H' tt' ++ (wMB B2 rl Z cl hc sl tk kp pa tr co ++ [.inl (1, 1, .inr (.inl (vp_updL o 0 v.toInt64)))]))) (by rw [nI_clamp (by omega)]) ?_
  refine xs_goto (tgt := 18) C0 d_Lw_circle_9 (by decide) ?_
  refine xs_iconst (v := 0) C0 d_Lw_circle_18 (by decide) ?_
  exact xs_iret C0 d_Lw_circle_19 (⟨rfl, rfl⟩) (Nat.le_of_ble_eq_true rfl) (Nat.le_of_ble_eq_true rfl)
set_option maxHeartbeats 4000000 in
set_option maxRecDepth 100000 in
theorem l_circleT {B B2 : wb} {S T : wt_S} {F : wt_F} {H : wt_H} {tt : Int32} {rl : Nat → Int32} {Z : mt_S} {cl : Nat → Int32} {hc : mt_H} {sl tk : Int32} {kp : mt_K} {pa : Nat → Int32} {tr : mt_T} {co : Int32} {o : Nat → Int64} {B' : wb} {S' T' : wt_S} {F' : wt_F} {H' : wt_H} {tt' : Int32} {a0 : Int32} (h : xm_M y_Rb_circle (Cond.code y_Rb_circle b_Rb_circle 4 (some .int)) (xm_rm 7 1 6) [.ref 0, .int a0] (wB B S T F H tt ++ (wMB B2 rl Z cl hc sl tk kp pa tr co ++ [.inl (1, 1, .inr (.inl o))])) (xm_eq (.inr "java/lang/IllegalArgumentException") (wB B' S' T' F' H' tt' ++ (wMB B2 rl Z cl hc sl tk kp pa tr co ++ [.inl (1, 1, .inr (.inl o))])))) : xm_M y_Lw_circle (Cond.codeWith y_Lw_circle b_Lw_circle 4 (some .int) [(0, 9, 12, 13), (0, 9, 15, 45)]) (xm_rm 8 1 6) [.ref 0, .int a0, .ref 64] (wB B S T F H tt ++ (wMB B2 rl Z cl hc sl tk kp pa tr co ++ [.inl (1, 1, .inr (.inl o))])) (xm_eq (.inl (some (.int 1))) (wB B' S' T' F' H' tt' ++ (wMB B2 rl Z cl hc sl tk kp pa tr co ++ [.inl (1, 1, .inr (.inl o))]))) := by
  refine xm_ofH (by decide) (Nat.le_of_ble_eq_true rfl) (fun E C0 => ?_)
  refine xs_eq (lv' := [(0, .ref 0), (1, .int a0), (2, .ref 64)]) rfl rfl rfl ?_
  refine xs_aload_n C0 d_Lw_circle_0 rfl 2 rfl ?_
  refine xs_iconst (v := 0) C0 d_Lw_circle_1 (by decide) ?_
  refine xs_aload_n C0 d_Lw_circle_2 rfl 0 rfl ?_
  refine xs_iload_n C0 d_Lw_circle_3 rfl 1 rfl ?_
  refine xs_cVT (As := [.int a0]) (st := [.int 0, .ref 64]) C0 d_Lw_circle_4 l_Lw_47 rfl rfl h rfl rfl rfl (Nat.le_of_ble_eq_true rfl) (Nat.le_of_ble_eq_true rfl) (Nat.le_of_ble_eq_true rfl) (Nat.le_of_ble_eq_true rfl) (xt_catch1 C0 ⟨by decide, by decide⟩ (by decide) k_318 k_335 rfl ?_)
  refine xs_top (v' := .ref 65) rfl ?_
  refine xs_astore_n (lv' := [(3, .ref 65), (0, .ref 0), (1, .int a0), (2, .ref 64)]) C0 d_Lw_circle_12 rfl (by decide) rfl ?_
  refine xs_iconst (v := 1) C0 d_Lw_circle_13 (by decide) ?_
  exact xs_iret C0 d_Lw_circle_14 (⟨rfl, rfl⟩) (Nat.le_of_ble_eq_true rfl) (Nat.le_of_ble_eq_true rfl)
set_option maxHeartbeats 4000000 in
set_option maxRecDepth 100000 in
theorem l_circleX {B B2 : wb} {S T : wt_S} {F : wt_F} {H : wt_H} {tt : Int32} {rl : Nat → Int32} {Z : mt_S} {cl : Nat → Int32} {hc : mt_H} {sl tk : Int32} {kp : mt_K} {pa : Nat → Int32} {tr : mt_T} {co : Int32} {o : Nat → Int64} {B' : wb} {S' T' : wt_S} {F' : wt_F} {H' : wt_H} {tt' : Int32} {a0 : Int32} (h : xm_M y_Rb_circle (Cond.code y_Rb_circle b_Rb_circle 4 (some .int)) (xm_rm 7 1 6) [.ref 0, .int a0] (wB B S T F H tt ++ (wMB B2 rl Z cl hc sl tk kp pa tr co ++ [.inl (1, 1, .inr (.inl o))])) (xm_eq (.inr "java/lang/UnsupportedOperationException") (wB B' S' T' F' H' tt' ++ (wMB B2 rl Z cl hc sl tk kp pa tr co ++ [.inl (1, 1, .inr (.inl o))])))) : xm_M y_Lw_circle (Cond.codeWith y_Lw_circle b_Lw_circle 4 (some .int) [(0, 9, 12, 13), (0, 9, 15, 45)]) (xm_rm 8 1 6) [.ref 0, .int a0, .ref 64] (wB B S T F H tt ++ (wMB B2 rl Z cl hc sl tk kp pa tr co ++ [.inl (1, 1, .inr (.inl o))])) (xm_eq (.inl (some (.int 2))) (wB B' S' T' F' H' tt' ++ (wMB B2 rl Z cl hc sl tk kp pa tr co ++ [.inl (1, 1, .inr (.inl o))]))) := by
  refine xm_ofH (by decide) (Nat.le_of_ble_eq_true rfl) (fun E C0 => ?_)
  refine xs_eq (lv' := [(0, .ref 0), (1, .int a0), (2, .ref 64)]) rfl rfl rfl ?_
  refine xs_aload_n C0 d_Lw_circle_0 rfl 2 rfl ?_
  refine xs_iconst (v := 0) C0 d_Lw_circle_1 (by decide) ?_
  refine xs_aload_n C0 d_Lw_circle_2 rfl 0 rfl ?_
  refine xs_iload_n C0 d_Lw_circle_3 rfl 1 rfl ?_
  refine xs_cVT (As := [.int a0]) (st := [.int 0, .ref 64]) C0 d_Lw_circle_4 l_Lw_47 rfl rfl h rfl rfl rfl (Nat.le_of_ble_eq_true rfl) (Nat.le_of_ble_eq_true rfl) (Nat.le_of_ble_eq_true rfl) (Nat.le_of_ble_eq_true rfl) (xt_catch2 C0 ⟨by decide, by decide⟩ ⟨by decide, by decide⟩ (by decide) (by decide) k_318 k_528 k_547 (fun _ _ _ h9 => h9.2.2.2) rfl ?_)
  refine xs_top (v' := .ref 65) rfl ?_
  refine xs_astore_n (lv' := [(3, .ref 65), (0, .ref 0), (1, .int a0), (2, .ref 64)]) C0 d_Lw_circle_15 rfl (by decide) rfl ?_
  refine xs_iconst (v := 2) C0 d_Lw_circle_16 (by decide) ?_
  exact xs_iret C0 d_Lw_circle_17 (⟨rfl, rfl⟩) (Nat.le_of_ble_eq_true rfl) (Nat.le_of_ble_eq_true rfl)
set_option maxHeartbeats 4000000 in
set_option maxRecDepth 100000 in
theorem l_race {B B2 : wb} {S T : wt_S} {F : wt_F} {H : wt_H} {tt : Int32} {rl : Nat → Int32} {Z : mt_S} {cl : Nat → Int32} {hc : mt_H} {sl tk : Int32} {kp : mt_K} {pa : Nat → Int32} {tr : mt_T} {co : Int32} {o : Nat → Int64} {B' : wb} {S' T' : wt_S} {F' : wt_F} {H' : wt_H} {tt' : Int32} {a0 a1 a2 a3 : Int32} {v : Int32} (h : xm_M y_Rb_race (Cond.code y_Rb_race b_Rb_race 7 (some .int)) (xm_rm 8 0 0) [.ref 0, .int a0, .int a1, .int a2, .int a3] (wB B S T F H tt ++ (wMB B2 rl Z cl hc sl tk kp pa tr co ++ [.inl (1, 1, .inr (.inl o))])) (xm_eq (.inl (some (.int v))) (wB B' S' T' F' H' tt' ++ (wMB B2 rl Z cl hc sl tk kp pa tr co ++ [.inl (1, 1, .inr (.inl o))])))) : xm_M y_Lw_race (Cond.codeWith y_Lw_race b_Lw_race 7 (some .int) [(0, 14, 17, 13)]) (xm_rm 9 0 0) [.ref 0, .int a0, .int a1, .int a2, .int a3, .ref 64] (wB B S T F H tt ++ (wMB B2 rl Z cl hc sl tk kp pa tr co ++ [.inl (1, 1, .inr (.inl o))])) (xm_eq (.inl (some (.int 0))) (wB B' S' T' F' H' tt' ++ (wMB B2 rl Z cl hc sl tk kp pa tr co ++ [.inl (1, 1, .inr (.inl (vp_updL o 0 v.toInt64)))]))) := by
  refine xm_ofH (by decide) (Nat.le_of_ble_eq_true rfl) (fun E C0 => ?_)
  refine xs_eq (lv' := [(0, .ref 0), (1, .int a0), (2, .int a1), (3, .int a2), (4, .int a3), (5, .ref 64)]) rfl rfl rfl ?_
  refine xs_aload C0 d_Lw_race_0 5 rfl ?_
  refine xs_iconst (v := 0) C0 d_Lw_race_2 (by decide) ?_
  refine xs_top (v' := .int (nI 0)) rfl ?_
  refine xs_aload_n C0 d_Lw_race_3 rfl 0 rfl ?_
  refine xs_iload_n C0 d_Lw_race_4 rfl 1 rfl ?_
  refine xs_iload_n C0 d_Lw_race_5 rfl 2 rfl ?_
  refine xs_iload_n C0 d_Lw_race_6 rfl 3 rfl ?_
  refine xs_iload C0 d_Lw_race_7 4 rfl ?_
  refine xs_cV1 (ω' := (wB B' S' T' F' H' tt' ++ (wMB B2 rl Z cl hc sl tk kp pa tr co ++ [.inl (1, 1, .inr (.inl o))]))) (As := [.int a0, .int a1, .int a2, .int a3]) (st := [.int (nI 0), .ref 64]) (kc' := 0) (ks' := 0) (v := .int v) C0 d_Lw_race_9 l_Lw_50 rfl rfl h rfl rfl rfl (Nat.le_of_ble_eq_true rfl) (Nat.le_of_ble_eq_true rfl) (Nat.le_of_ble_eq_true rfl) (Nat.le_of_ble_eq_true rfl) (Nat.le_of_ble_eq_true rfl) (Nat.le_of_ble_eq_true rfl) ?_
  refine xs_i2l C0 d_Lw_race_12 ?_
  refine xs_last (ω' := (wB B' S' T' F' H' tt' ++ (wMB B2 rl Z cl hc sl tk kp pa tr co ++ [.inl (1, 1, .inr (.inl (vp_updL o (nI 0).toNatClampNeg v.toInt64)))]))) C0 d_Lw_race_13 rfl (vp_in_nI (n := 0) (by decide) (by decide)) rfl ?_
  refine xs_world (ω' := (wB B' S' T' F' H' tt' ++ (wMB B2 rl Z cl hc sl tk kp pa tr co ++ [.inl (1, 1, .inr (.inl (vp_updL o 0 v.toInt64)))]))) (by rw [nI_clamp (by omega)]) ?_
  refine xs_goto (tgt := 21) C0 d_Lw_race_14 (by decide) ?_
  refine xs_iconst (v := 0) C0 d_Lw_race_21 (by decide) ?_
  exact xs_iret C0 d_Lw_race_22 (⟨rfl, rfl⟩) (Nat.le_of_ble_eq_true rfl) (Nat.le_of_ble_eq_true rfl)
set_option maxHeartbeats 4000000 in
set_option maxRecDepth 100000 in
theorem l_raceT {B B2 : wb} {S T : wt_S} {F : wt_F} {H : wt_H} {tt : Int32} {rl : Nat → Int32} {Z : mt_S} {cl : Nat → Int32} {hc : mt_H} {sl tk : Int32} {kp : mt_K} {pa : Nat → Int32} {tr : mt_T} {co : Int32} {o : Nat → Int64} {B' : wb} {S' T' : wt_S} {F' : wt_F} {H' : wt_H} {tt' : Int32} {a0 a1 a2 a3 : Int32} (h : xm_M y_Rb_race (Cond.code y_Rb_race b_Rb_race 7 (some .int)) (xm_rm 8 1 6) [.ref 0, .int a0, .int a1, .int a2, .int a3] (wB B S T F H tt ++ (wMB B2 rl Z cl hc sl tk kp pa tr co ++ [.inl (1, 1, .inr (.inl o))])) (xm_eq (.inr "java/lang/IllegalArgumentException") (wB B' S' T' F' H' tt' ++ (wMB B2 rl Z cl hc sl tk kp pa tr co ++ [.inl (1, 1, .inr (.inl o))])))) : xm_M y_Lw_race (Cond.codeWith y_Lw_race b_Lw_race 7 (some .int) [(0, 14, 17, 13)]) (xm_rm 9 1 6) [.ref 0, .int a0, .int a1, .int a2, .int a3, .ref 64] (wB B S T F H tt ++ (wMB B2 rl Z cl hc sl tk kp pa tr co ++ [.inl (1, 1, .inr (.inl o))])) (xm_eq (.inl (some (.int 1))) (wB B' S' T' F' H' tt' ++ (wMB B2 rl Z cl hc sl tk kp pa tr co ++ [.inl (1, 1, .inr (.inl o))]))) := by
  refine xm_ofH (by decide) (Nat.le_of_ble_eq_true rfl) (fun E C0 => ?_)
  refine xs_eq (lv' := [(0, .ref 0), (1, .int a0), (2, .int a1), (3, .int a2), (4, .int a3), (5, .ref 64)]) rfl rfl rfl ?_
  refine xs_aload C0 d_Lw_race_0 5 rfl ?_
  refine xs_iconst (v := 0) C0 d_Lw_race_2 (by decide) ?_
  refine xs_aload_n C0 d_Lw_race_3 rfl 0 rfl ?_
  refine xs_iload_n C0 d_Lw_race_4 rfl 1 rfl ?_
  refine xs_iload_n C0 d_Lw_race_5 rfl 2 rfl ?_
  refine xs_iload_n C0 d_Lw_race_6 rfl 3 rfl ?_
  refine xs_iload C0 d_Lw_race_7 4 rfl ?_
  refine xs_cVT (As := [.int a0, .int a1, .int a2, .int a3]) (st := [.int 0, .ref 64]) C0 d_Lw_race_9 l_Lw_50 rfl rfl h rfl rfl rfl (Nat.le_of_ble_eq_true rfl) (Nat.le_of_ble_eq_true rfl) (Nat.le_of_ble_eq_true rfl) (Nat.le_of_ble_eq_true rfl) (xt_catch1 C0 ⟨by decide, by decide⟩ (by decide) k_318 k_335 rfl ?_)
  refine xs_top (v' := .ref 65) rfl ?_
  refine xs_astore (lv' := [(6, .ref 65), (0, .ref 0), (1, .int a0), (2, .int a1), (3, .int a2), (4, .int a3), (5, .ref 64)]) C0 d_Lw_race_17 (by decide) rfl ?_
  refine xs_iconst (v := 1) C0 d_Lw_race_19 (by decide) ?_
  exact xs_iret C0 d_Lw_race_20 (⟨rfl, rfl⟩) (Nat.le_of_ble_eq_true rfl) (Nat.le_of_ble_eq_true rfl)
set_option maxHeartbeats 4000000 in
set_option maxRecDepth 100000 in
theorem l_state {B B2 : wb} {S T : wt_S} {F : wt_F} {H : wt_H} {tt : Int32} {rl : Nat → Int32} {Z : mt_S} {cl : Nat → Int32} {hc : mt_H} {sl tk : Int32} {kp : mt_K} {pa : Nat → Int32} {tr : mt_T} {co : Int32} {o : Nat → Int64} {B' : wb} {S' T' : wt_S} {F' : wt_F} {H' : wt_H} {tt' : Int32} {a0 a1 : Int32} {v : Int32} (h : xm_M y_Rb_state (Cond.code y_Rb_state b_Rb_state 3 (some .int)) (xm_rm 5 0 0) [.ref 0, .int a0, .int a1] (wB B S T F H tt ++ (wMB B2 rl Z cl hc sl tk kp pa tr co ++ [.inl (1, 1, .inr (.inl o))])) (xm_eq (.inl (some (.int v))) (wB B' S' T' F' H' tt' ++ (wMB B2 rl Z cl hc sl tk kp pa tr co ++ [.inl (1, 1, .inr (.inl o))])))) : xm_M y_Lw_state (Cond.codeWith y_Lw_state b_Lw_state 5 (some .int) [(0, 10, 13, 13)]) (xm_rm 6 0 0) [.ref 0, .int a0, .int a1, .ref 64] (wB B S T F H tt ++ (wMB B2 rl Z cl hc sl tk kp pa tr co ++ [.inl (1, 1, .inr (.inl o))])) (xm_eq (.inl (some (.int 0))) (wB B' S' T' F' H' tt' ++ (wMB B2 rl Z cl hc sl tk kp pa tr co ++ [.inl (1, 1, .inr (.inl (vp_updL o 0 v.toInt64)))]))) := by
  refine xm_ofH (by decide) (Nat.le_of_ble_eq_true rfl) (fun E C0 => ?_)
  refine xs_eq (lv' := [(0, .ref 0), (1, .int a0), (2, .int a1), (3, .ref 64)]) rfl rfl rfl ?_
  refine xs_aload_n C0 d_Lw_state_0 rfl 3 rfl ?_
  refine xs_iconst (v := 0) C0 d_Lw_state_1 (by decide) ?_
  refine xs_top (v' := .int (nI 0)) rfl ?_
  refine xs_aload_n C0 d_Lw_state_2 rfl 0 rfl ?_
  refine xs_iload_n C0 d_Lw_state_3 rfl 1 rfl ?_
  refine xs_iload_n C0 d_Lw_state_4 rfl 2 rfl ?_
  refine xs_cV1 (ω' := (wB B' S' T' F' H' tt' ++ (wMB B2 rl Z cl hc sl tk kp pa tr co ++ [.inl (1, 1, .inr (.inl o))]))) (As := [.int a0, .int a1]) (st := [.int (nI 0), .ref 64]) (kc' := 0) (ks' := 0) (v := .int v) C0 d_Lw_state_5 l_Lw_54 rfl rfl h rfl rfl rfl (Nat.le_of_ble_eq_true rfl) (Nat.le_of_ble_eq_true rfl) (Nat.le_of_ble_eq_true rfl) (Nat.le_of_ble_eq_true rfl) (Nat.le_of_ble_eq_true rfl) (Nat.le_of_ble_eq_true rfl) ?_
  refine xs_i2l C0 d_Lw_state_8 ?_
  refine xs_last (ω' := (wB B' S' T' F' H' tt' ++ (wMB B2 rl Z cl hc sl tk kp pa tr co ++ [.inl (1, 1, .inr (.inl (vp_updL o (nI 0).toNatClampNeg v.toInt64)))]))) C0 d_Lw_state_9 rfl (vp_in_nI (n := 0) (by decide) (by decide)) rfl ?_
  refine xs_world (ω' := (wB B' S' T' F' H' tt' ++ (wMB B2 rl Z cl hc sl tk kp pa tr co ++ [.inl (1, 1, .inr (.inl (vp_updL o 0 v.toInt64)))]))) (by rw [nI_clamp (by omega)]) ?_
  refine xs_goto (tgt := 17) C0 d_Lw_state_10 (by decide) ?_
  refine xs_iconst (v := 0) C0 d_Lw_state_17 (by decide) ?_
  exact xs_iret C0 d_Lw_state_18 (⟨rfl, rfl⟩) (Nat.le_of_ble_eq_true rfl) (Nat.le_of_ble_eq_true rfl)
set_option maxHeartbeats 4000000 in
set_option maxRecDepth 100000 in
theorem l_state2 {B B2 : wb} {S T : wt_S} {F : wt_F} {H : wt_H} {tt : Int32} {rl : Nat → Int32} {Z : mt_S} {cl : Nat → Int32} {hc : mt_H} {sl tk : Int32} {kp : mt_K} {pa : Nat → Int32} {tr : mt_T} {co : Int32} {o : Nat → Int64} {B' : wb} {S' T' : wt_S} {F' : wt_F} {H' : wt_H} {tt' : Int32} {a0 a1 : Int32} {v : Int32} (h : xm_M y_Rb_state (Cond.code y_Rb_state b_Rb_state 3 (some .int)) (xm_rm 2 0 0) [.ref 0, .int a0, .int a1] (wB B S T F H tt ++ (wMB B2 rl Z cl hc sl tk kp pa tr co ++ [.inl (1, 1, .inr (.inl o))])) (xm_eq (.inl (some (.int v))) (wB B' S' T' F' H' tt' ++ (wMB B2 rl Z cl hc sl tk kp pa tr co ++ [.inl (1, 1, .inr (.inl o))])))) : xm_M y_Lw_state (Cond.codeWith y_Lw_state b_Lw_state 5 (some .int) [(0, 10, 13, 13)]) (xm_rm 3 0 0) [.ref 0, .int a0, .int a1, .ref 64] (wB B S T F H tt ++ (wMB B2 rl Z cl hc sl tk kp pa tr co ++ [.inl (1, 1, .inr (.inl o))])) (xm_eq (.inl (some (.int 0))) (wB B' S' T' F' H' tt' ++ (wMB B2 rl Z cl hc sl tk kp pa tr co ++ [.inl (1, 1, .inr (.inl (vp_updL o 0 v.toInt64)))]))) := by
  refine xm_ofH (by decide) (Nat.le_of_ble_eq_true rfl) (fun E C0 => ?_)
  refine xs_eq (lv' := [(0, .ref 0), (1, .int a0), (2, .int a1), (3, .ref 64)]) rfl rfl rfl ?_
  refine xs_aload_n C0 d_Lw_state_0 rfl 3 rfl ?_
  refine xs_iconst (v := 0) C0 d_Lw_state_1 (by decide) ?_
  refine xs_top (v' := .int (nI 0)) rfl ?_
  refine xs_aload_n C0 d_Lw_state_2 rfl 0 rfl ?_
  refine xs_iload_n C0 d_Lw_state_3 rfl 1 rfl ?_
  refine xs_iload_n C0 d_Lw_state_4 rfl 2 rfl ?_
  refine xs_cV1 (ω' := (wB B' S' T' F' H' tt' ++ (wMB B2 rl Z cl hc sl tk kp pa tr co ++ [.inl (1, 1, .inr (.inl o))]))) (As := [.int a0, .int a1]) (st := [.int (nI 0), .ref 64]) (kc' := 0) (ks' := 0) (v := .int v) C0 d_Lw_state_5 l_Lw_54 rfl rfl h rfl rfl rfl (Nat.le_of_ble_eq_true rfl) (Nat.le_of_ble_eq_true rfl) (Nat.le_of_ble_eq_true rfl) (Nat.le_of_ble_eq_true rfl) (Nat.le_of_ble_eq_true rfl) (Nat.le_of_ble_eq_true rfl) ?_
  refine xs_i2l C0 d_Lw_state_8 ?_
  refine xs_last (ω' := (wB B' S' T' F' H' tt' ++ (wMB B2 rl Z cl hc sl tk kp pa tr co ++ [.inl (1, 1, .inr (.inl (vp_updL o (nI 0).toNatClampNeg v.toInt64)))]))) C0 d_Lw_state_9 rfl (vp_in_nI (n := 0) (by decide) (by decide)) rfl ?_
  refine xs_world (ω' := (wB B' S' T' F' H' tt' ++ (wMB B2 rl Z cl hc sl tk kp pa tr co ++ [.inl (1, 1, .inr (.inl (vp_updL o 0 v.toInt64)))]))) (by rw [nI_clamp (by omega)]) ?_
  refine xs_goto (tgt := 17) C0 d_Lw_state_10 (by decide) ?_
  refine xs_iconst (v := 0) C0 d_Lw_state_17 (by decide) ?_
  exact xs_iret C0 d_Lw_state_18 (⟨rfl, rfl⟩) (Nat.le_of_ble_eq_true rfl) (Nat.le_of_ble_eq_true rfl)
set_option maxHeartbeats 4000000 in
set_option maxRecDepth 100000 in
theorem l_stateT {B B2 : wb} {S T : wt_S} {F : wt_F} {H : wt_H} {tt : Int32} {rl : Nat → Int32} {Z : mt_S} {cl : Nat → Int32} {hc : mt_H} {sl tk : Int32} {kp : mt_K} {pa : Nat → Int32} {tr : mt_T} {co : Int32} {o : Nat → Int64} {B' : wb} {S' T' : wt_S} {F' : wt_F} {H' : wt_H} {tt' : Int32} {a0 a1 : Int32} (h : xm_M y_Rb_state (Cond.code y_Rb_state b_Rb_state 3 (some .int)) (xm_rm 8 1 6) [.ref 0, .int a0, .int a1] (wB B S T F H tt ++ (wMB B2 rl Z cl hc sl tk kp pa tr co ++ [.inl (1, 1, .inr (.inl o))])) (xm_eq (.inr "java/lang/IllegalArgumentException") (wB B' S' T' F' H' tt' ++ (wMB B2 rl Z cl hc sl tk kp pa tr co ++ [.inl (1, 1, .inr (.inl o))])))) : xm_M y_Lw_state (Cond.codeWith y_Lw_state b_Lw_state 5 (some .int) [(0, 10, 13, 13)]) (xm_rm 9 1 6) [.ref 0, .int a0, .int a1, .ref 64] (wB B S T F H tt ++ (wMB B2 rl Z cl hc sl tk kp pa tr co ++ [.inl (1, 1, .inr (.inl o))])) (xm_eq (.inl (some (.int 1))) (wB B' S' T' F' H' tt' ++ (wMB B2 rl Z cl hc sl tk kp pa tr co ++ [.inl (1, 1, .inr (.inl o))]))) := by
  refine xm_ofH (by decide) (Nat.le_of_ble_eq_true rfl) (fun E C0 => ?_)
  refine xs_eq (lv' := [(0, .ref 0), (1, .int a0), (2, .int a1), (3, .ref 64)]) rfl rfl rfl ?_
  refine xs_aload_n C0 d_Lw_state_0 rfl 3 rfl ?_
  refine xs_iconst (v := 0) C0 d_Lw_state_1 (by decide) ?_
  refine xs_aload_n C0 d_Lw_state_2 rfl 0 rfl ?_
  refine xs_iload_n C0 d_Lw_state_3 rfl 1 rfl ?_
  refine xs_iload_n C0 d_Lw_state_4 rfl 2 rfl ?_
  refine xs_cVT (As := [.int a0, .int a1]) (st := [.int 0, .ref 64]) C0 d_Lw_state_5 l_Lw_54 rfl rfl h rfl rfl rfl (Nat.le_of_ble_eq_true rfl) (Nat.le_of_ble_eq_true rfl) (Nat.le_of_ble_eq_true rfl) (Nat.le_of_ble_eq_true rfl) (xt_catch1 C0 ⟨by decide, by decide⟩ (by decide) k_318 k_335 rfl ?_)
  refine xs_top (v' := .ref 65) rfl ?_
  refine xs_astore (lv' := [(4, .ref 65), (0, .ref 0), (1, .int a0), (2, .int a1), (3, .ref 64)]) C0 d_Lw_state_13 (by decide) rfl ?_
  refine xs_iconst (v := 1) C0 d_Lw_state_15 (by decide) ?_
  exact xs_iret C0 d_Lw_state_16 (⟨rfl, rfl⟩) (Nat.le_of_ble_eq_true rfl) (Nat.le_of_ble_eq_true rfl)
set_option maxHeartbeats 4000000 in
set_option maxRecDepth 100000 in
theorem l_node {B B2 : wb} {S T : wt_S} {F : wt_F} {H : wt_H} {tt : Int32} {rl : Nat → Int32} {Z : mt_S} {cl : Nat → Int32} {hc : mt_H} {sl tk : Int32} {kp : mt_K} {pa : Nat → Int32} {tr : mt_T} {co : Int32} {o : Nat → Int64} {B' : wb} {S' T' : wt_S} {F' : wt_F} {H' : wt_H} {tt' : Int32} {a0 : Int32} {v : Int32} (h : xm_M y_Rb_node (Cond.code y_Rb_node b_Rb_node 3 (some .int)) (xm_rm 5 0 0) [.ref 0, .int a0] (wB B S T F H tt ++ (wMB B2 rl Z cl hc sl tk kp pa tr co ++ [.inl (1, 1, .inr (.inl o))])) (xm_eq (.inl (some (.int v))) (wB B' S' T' F' H' tt' ++ (wMB B2 rl Z cl hc sl tk kp pa tr co ++ [.inl (1, 1, .inr (.inl o))])))) : xm_M y_Lw_node (Cond.codeWith y_Lw_node b_Lw_node 4 (some .int) [(0, 9, 12, 13)]) (xm_rm 6 0 0) [.ref 0, .int a0, .ref 64] (wB B S T F H tt ++ (wMB B2 rl Z cl hc sl tk kp pa tr co ++ [.inl (1, 1, .inr (.inl o))])) (xm_eq (.inl (some (.int 0))) (wB B' S' T' F' H' tt' ++ (wMB B2 rl Z cl hc sl tk kp pa tr co ++ [.inl (1, 1, .inr (.inl (vp_updL o 0 v.toInt64)))]))) := by
  refine xm_ofH (by decide) (Nat.le_of_ble_eq_true rfl) (fun E C0 => ?_)
  refine xs_eq (lv' := [(0, .ref 0), (1, .int a0), (2, .ref 64)]) rfl rfl rfl ?_
  refine xs_aload_n C0 d_Lw_node_0 rfl 2 rfl ?_
  refine xs_iconst (v := 0) C0 d_Lw_node_1 (by decide) ?_
  refine xs_top (v' := .int (nI 0)) rfl ?_
  refine xs_aload_n C0 d_Lw_node_2 rfl 0 rfl ?_
  refine xs_iload_n C0 d_Lw_node_3 rfl 1 rfl ?_
  refine xs_cV1 (ω' := (wB B' S' T' F' H' tt' ++ (wMB B2 rl Z cl hc sl tk kp pa tr co ++ [.inl (1, 1, .inr (.inl o))]))) (As := [.int a0]) (st := [.int (nI 0), .ref 64]) (kc' := 0) (ks' := 0) (v := .int v) C0 d_Lw_node_4 l_Lw_57 rfl rfl h rfl rfl rfl (Nat.le_of_ble_eq_true rfl) (Nat.le_of_ble_eq_true rfl) (Nat.le_of_ble_eq_true rfl) (Nat.le_of_ble_eq_true rfl) (Nat.le_of_ble_eq_true rfl) (Nat.le_of_ble_eq_true rfl) ?_
  refine xs_i2l C0 d_Lw_node_7 ?_
  refine xs_last (ω' := (wB B' S' T' F' H' tt' ++ (wMB B2 rl Z cl hc sl tk kp pa tr co ++ [.inl (1, 1, .inr (.inl (vp_updL o (nI 0).toNatClampNeg v.toInt64)))]))) C0 d_Lw_node_8 rfl (vp_in_nI (n := 0) (by decide) (by decide)) rfl ?_
  refine xs_world (ω' := (wB B' S' T' F' H' tt' ++ (wMB B2 rl Z cl hc sl tk kp pa tr co ++ [.inl (1, 1, .inr (.inl (vp_updL o 0 v.toInt64)))]))) (by rw [nI_clamp (by omega)]) ?_
  refine xs_goto (tgt := 15) C0 d_Lw_node_9 (by decide) ?_
  refine xs_iconst (v := 0) C0 d_Lw_node_15 (by decide) ?_
  exact xs_iret C0 d_Lw_node_16 (⟨rfl, rfl⟩) (Nat.le_of_ble_eq_true rfl) (Nat.le_of_ble_eq_true rfl)
set_option maxHeartbeats 4000000 in
set_option maxRecDepth 100000 in
theorem l_nodeT {B B2 : wb} {S T : wt_S} {F : wt_F} {H : wt_H} {tt : Int32} {rl : Nat → Int32} {Z : mt_S} {cl : Nat → Int32} {hc : mt_H} {sl tk : Int32} {kp : mt_K} {pa : Nat → Int32} {tr : mt_T} {co : Int32} {o : Nat → Int64} {B' : wb} {S' T' : wt_S} {F' : wt_F} {H' : wt_H} {tt' : Int32} {a0 : Int32} (h : xm_M y_Rb_node (Cond.code y_Rb_node b_Rb_node 3 (some .int)) (xm_rm 8 1 6) [.ref 0, .int a0] (wB B S T F H tt ++ (wMB B2 rl Z cl hc sl tk kp pa tr co ++ [.inl (1, 1, .inr (.inl o))])) (xm_eq (.inr "java/lang/IllegalArgumentException") (wB B' S' T' F' H' tt' ++ (wMB B2 rl Z cl hc sl tk kp pa tr co ++ [.inl (1, 1, .inr (.inl o))])))) : xm_M y_Lw_node (Cond.codeWith y_Lw_node b_Lw_node 4 (some .int) [(0, 9, 12, 13)]) (xm_rm 9 1 6) [.ref 0, .int a0, .ref 64] (wB B S T F H tt ++ (wMB B2 rl Z cl hc sl tk kp pa tr co ++ [.inl (1, 1, .inr (.inl o))])) (xm_eq (.inl (some (.int 1))) (wB B' S' T' F' H' tt' ++ (wMB B2 rl Z cl hc sl tk kp pa tr co ++ [.inl (1, 1, .inr (.inl o))]))) := by
  refine xm_ofH (by decide) (Nat.le_of_ble_eq_true rfl) (fun E C0 => ?_)
  refine xs_eq (lv' := [(0, .ref 0), (1, .int a0), (2, .ref 64)]) rfl rfl rfl ?_
  refine xs_aload_n C0 d_Lw_node_0 rfl 2 rfl ?_
  refine xs_iconst (v := 0) C0 d_Lw_node_1 (by decide) ?_
  refine xs_aload_n C0 d_Lw_node_2 rfl 0 rfl ?_
  refine xs_iload_n C0 d_Lw_node_3 rfl 1 rfl ?_
  refine xs_cVT (As := [.int a0]) (st := [.int 0, .ref 64]) C0 d_Lw_node_4 l_Lw_57 rfl rfl h rfl rfl rfl (Nat.le_of_ble_eq_true rfl) (Nat.le_of_ble_eq_true rfl) (Nat.le_of_ble_eq_true rfl) (Nat.le_of_ble_eq_true rfl) (xt_catch1 C0 ⟨by decide, by decide⟩ (by decide) k_318 k_335 rfl ?_)
  refine xs_top (v' := .ref 65) rfl ?_
  refine xs_astore_n (lv' := [(3, .ref 65), (0, .ref 0), (1, .int a0), (2, .ref 64)]) C0 d_Lw_node_12 rfl (by decide) rfl ?_
  refine xs_iconst (v := 1) C0 d_Lw_node_13 (by decide) ?_
  exact xs_iret C0 d_Lw_node_14 (⟨rfl, rfl⟩) (Nat.le_of_ble_eq_true rfl) (Nat.le_of_ble_eq_true rfl)
set_option maxHeartbeats 4000000 in
set_option maxRecDepth 100000 in
theorem l_leads {B B2 : wb} {S T : wt_S} {F : wt_F} {H : wt_H} {tt : Int32} {rl : Nat → Int32} {Z : mt_S} {cl : Nat → Int32} {hc : mt_H} {sl tk : Int32} {kp : mt_K} {pa : Nat → Int32} {tr : mt_T} {co : Int32} {o : Nat → Int64} {B' : wb} {S' T' : wt_S} {F' : wt_F} {H' : wt_H} {tt' : Int32} {a0 a1 : Int32} {v : Int32} (h : xm_M y_Rb_leads (Cond.code y_Rb_leads b_Rb_leads 3 (some .boolean)) (xm_rm 5 0 0) [.ref 0, .int a0, .int a1] (wB B S T F H tt ++ (wMB B2 rl Z cl hc sl tk kp pa tr co ++ [.inl (1, 1, .inr (.inl o))])) (xm_eq (.inl (some (.int v))) (wB B' S' T' F' H' tt' ++ (wMB B2 rl Z cl hc sl tk kp pa tr co ++ [.inl (1, 1, .inr (.inl o))])))) : xm_M y_Lw_leads (Cond.codeWith y_Lw_leads b_Lw_leads 5 (some .int) [(0, 17, 20, 13)]) (xm_rm 6 0 0) [.ref 0, .int a0, .int a1, .ref 64] (wB B S T F H tt ++ (wMB B2 rl Z cl hc sl tk kp pa tr co ++ [.inl (1, 1, .inr (.inl o))])) (xm_eq (.inl (some (.int 0))) (wB B' S' T' F' H' tt' ++ (wMB B2 rl Z cl hc sl tk kp pa tr co ++ [.inl (1, 1, .inr (.inl (vp_updL o 0 (if v = 0 then 0 else 1))))]))) := by
  refine xm_ofH (by decide) (Nat.le_of_ble_eq_true rfl) (fun E C0 => ?_)
  refine xs_eq (lv' := [(0, .ref 0), (1, .int a0), (2, .int a1), (3, .ref 64)]) rfl rfl rfl ?_
  refine xs_aload_n C0 d_Lw_leads_0 rfl 3 rfl ?_
  refine xs_iconst (v := 0) C0 d_Lw_leads_1 (by decide) ?_
  refine xs_top (v' := .int (nI 0)) rfl ?_
  refine xs_aload_n C0 d_Lw_leads_2 rfl 0 rfl ?_
  refine xs_iload_n C0 d_Lw_leads_3 rfl 1 rfl ?_
  refine xs_iload_n C0 d_Lw_leads_4 rfl 2 rfl ?_
  refine xs_cV1 (ω' := (wB B' S' T' F' H' tt' ++ (wMB B2 rl Z cl hc sl tk kp pa tr co ++ [.inl (1, 1, .inr (.inl o))]))) (As := [.int a0, .int a1]) (st := [.int (nI 0), .ref 64]) (kc' := 0) (ks' := 0) (v := .int v) C0 d_Lw_leads_5 l_Lw_60 rfl rfl h rfl rfl rfl (Nat.le_of_ble_eq_true rfl) (Nat.le_of_ble_eq_true rfl) (Nat.le_of_ble_eq_true rfl) (Nat.le_of_ble_eq_true rfl) (Nat.le_of_ble_eq_true rfl) (Nat.le_of_ble_eq_true rfl) ?_
  refine xs_if_eq (tgt := 15) C0 d_Lw_leads_8 (by decide) (fun c1 => ?_) (fun c1 => ?_)
  · refine xs_lconst (v := 0) C0 d_Lw_leads_15 rfl ?_
    refine xs_top (v' := .long (if v = 0 then 0 else 1)) (by rw [if_pos c1]) ?_
    refine xs_last (ω' := (wB B' S' T' F' H' tt' ++ (wMB B2 rl Z cl hc sl tk kp pa tr co ++ [.inl (1, 1, .inr (.inl (vp_updL o (nI 0).toNatClampNeg (if v = 0 then 0 else 1))))]))) C0 d_Lw_leads_16 rfl (vp_in_nI (n := 0) (by decide) (by decide)) rfl ?_
    refine xs_world (ω' := (wB B' S' T' F' H' tt' ++ (wMB B2 rl Z cl hc sl tk kp pa tr co ++ [.inl (1, 1, .inr (.inl (vp_updL o 0 (if v = 0 then 0 else 1))))]))) (by rw [nI_clamp (by omega)]) ?_
    refine xs_goto (tgt := 24) C0 d_Lw_leads_17 (by decide) ?_
    refine xs_iconst (v := 0) C0 d_Lw_leads_24 (by decide) ?_
    exact xs_iret C0 d_Lw_leads_25 (⟨rfl, rfl⟩) (Nat.le_of_ble_eq_true rfl) (Nat.le_of_ble_eq_true rfl)
  · refine xs_lconst (v := 1) C0 d_Lw_leads_11 rfl ?_
    refine xs_goto (tgt := 16) C0 d_Lw_leads_12 (by decide) ?_
    refine xs_top (v' := .long (if v = 0 then 0 else 1)) (by rw [if_neg c1]) ?_
    refine xs_last (ω' := (wB B' S' T' F' H' tt' ++ (wMB B2 rl Z cl hc sl tk kp pa tr co ++ [.inl (1, 1, .inr (.inl (vp_updL o (nI 0).toNatClampNeg (if v = 0 then 0 else 1))))]))) C0 d_Lw_leads_16 rfl (vp_in_nI (n := 0) (by decide) (by decide)) rfl ?_
    refine xs_world (ω' := (wB B' S' T' F' H' tt' ++ (wMB B2 rl Z cl hc sl tk kp pa tr co ++ [.inl (1, 1, .inr (.inl (vp_updL o 0 (if v = 0 then 0 else 1))))]))) (by rw [nI_clamp (by omega)]) ?_
    refine xs_goto (tgt := 24) C0 d_Lw_leads_17 (by decide) ?_
    refine xs_iconst (v := 0) C0 d_Lw_leads_24 (by decide) ?_
    exact xs_iret C0 d_Lw_leads_25 (⟨rfl, rfl⟩) (Nat.le_of_ble_eq_true rfl) (Nat.le_of_ble_eq_true rfl)
set_option maxHeartbeats 4000000 in
set_option maxRecDepth 100000 in
theorem l_leadsT {B B2 : wb} {S T : wt_S} {F : wt_F} {H : wt_H} {tt : Int32} {rl : Nat → Int32} {Z : mt_S} {cl : Nat → Int32} {hc : mt_H} {sl tk : Int32} {kp : mt_K} {pa : Nat → Int32} {tr : mt_T} {co : Int32} {o : Nat → Int64} {B' : wb} {S' T' : wt_S} {F' : wt_F} {H' : wt_H} {tt' : Int32} {a0 a1 : Int32} (h : xm_M y_Rb_leads (Cond.code y_Rb_leads b_Rb_leads 3 (some .boolean)) (xm_rm 8 1 6) [.ref 0, .int a0, .int a1] (wB B S T F H tt ++ (wMB B2 rl Z cl hc sl tk kp pa tr co ++ [.inl (1, 1, .inr (.inl o))])) (xm_eq (.inr "java/lang/IllegalArgumentException") (wB B' S' T' F' H' tt' ++ (wMB B2 rl Z cl hc sl tk kp pa tr co ++ [.inl (1, 1, .inr (.inl o))])))) : xm_M y_Lw_leads (Cond.codeWith y_Lw_leads b_Lw_leads 5 (some .int) [(0, 17, 20, 13)]) (xm_rm 9 1 6) [.ref 0, .int a0, .int a1, .ref 64] (wB B S T F H tt ++ (wMB B2 rl Z cl hc sl tk kp pa tr co ++ [.inl (1, 1, .inr (.inl o))])) (xm_eq (.inl (some (.int 1))) (wB B' S' T' F' H' tt' ++ (wMB B2 rl Z cl hc sl tk kp pa tr co ++ [.inl (1, 1, .inr (.inl o))]))) := by
  refine xm_ofH (by decide) (Nat.le_of_ble_eq_true rfl) (fun E C0 => ?_)
  refine xs_eq (lv' := [(0, .ref 0), (1, .int a0), (2, .int a1), (3, .ref 64)]) rfl rfl rfl ?_
  refine xs_aload_n C0 d_Lw_leads_0 rfl 3 rfl ?_
  refine xs_iconst (v := 0) C0 d_Lw_leads_1 (by decide) ?_
  refine xs_aload_n C0 d_Lw_leads_2 rfl 0 rfl ?_
  refine xs_iload_n C0 d_Lw_leads_3 rfl 1 rfl ?_
  refine xs_iload_n C0 d_Lw_leads_4 rfl 2 rfl ?_
  refine xs_cVT (As := [.int a0, .int a1]) (st := [.int 0, .ref 64]) C0 d_Lw_leads_5 l_Lw_60 rfl rfl h rfl rfl rfl (Nat.le_of_ble_eq_true rfl) (Nat.le_of_ble_eq_true rfl) (Nat.le_of_ble_eq_true rfl) (Nat.le_of_ble_eq_true rfl) (xt_catch1 C0 ⟨by decide, by decide⟩ (by decide) k_318 k_335 rfl ?_)
  refine xs_top (v' := .ref 65) rfl ?_
  refine xs_astore (lv' := [(4, .ref 65), (0, .ref 0), (1, .int a0), (2, .int a1), (3, .ref 64)]) C0 d_Lw_leads_20 (by decide) rfl ?_
  refine xs_iconst (v := 1) C0 d_Lw_leads_22 (by decide) ?_
  exact xs_iret C0 d_Lw_leads_23 (⟨rfl, rfl⟩) (Nat.le_of_ble_eq_true rfl) (Nat.le_of_ble_eq_true rfl)
