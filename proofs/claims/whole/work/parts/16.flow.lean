def f_b64 (h : Int64) (k : Int32) : Int32 := if ¬ lg_cmp ((h >>> (k.toInt64 &&& 63)) &&& 1) 0 = 0 then 1 else 0
theorem f_b64_01 (h : Int64) (k : Int32) : f_b64 h k = 0 ∨ f_b64 h k = 1 := xm_b01
set_option maxHeartbeats 4000000 in
set_option maxRecDepth 100000 in
theorem c_hot {P0 P1 P2 P3 P4 : wt_P} {pl dr ki ow : Nat → Int32} {S T : wt_S} {F : wt_F} {H : wt_H} {tt : Int32} {rest : xm_O} {x : Int32} : xm_M y_Fl_isHot (Cond.code y_Fl_isHot b_Fl_isHot 2 (some .boolean)) (xm_rm 0 0 0) [.ref 30, .int x] (wd P0 P1 P2 P3 P4 pl dr ki ow S T F H tt ++ rest) (xm_eq (.inl (some (.int (f_b64 F.2.2.1 x)))) (wd P0 P1 P2 P3 P4 pl dr ki ow S T F H tt ++ rest)) := by
  refine xm_of (by decide) (Nat.le_of_ble_eq_true rfl) (fun E C0 => ?_)
  refine xs_eq (lv' := [(0, .ref 30), (1, .int x)]) rfl rfl rfl ?_
  refine xs_aload_n C0 d_Fl_isHot_0 rfl 0 rfl ?_
  obtain ⟨on_1, bk_1, ho_1, co_1, cg_1, m1_1, m2_1, m3_1, m4_1⟩ := F
  refine xs_get (q := 30) (v := .long ho_1) C0 f_Fl_18 d_Fl_isHot_1 rfl rfl ?_
  refine xs_iload_n C0 d_Fl_isHot_4 rfl 1 rfl ?_
  refine xs_lshr C0 d_Fl_isHot_5 ?_
  refine xs_lconst (v := 1) C0 d_Fl_isHot_6 rfl ?_
  refine xs_land C0 d_Fl_isHot_7 ?_
  refine xs_lconst (v := 0) C0 d_Fl_isHot_8 rfl ?_
  refine xs_lcmp C0 d_Fl_isHot_9 ?_
  refine xs_bz_eq (u := 1) (v := 0) (tgt := 17) (J := 18) C0 d_Fl_isHot_10 (by decide) d_Fl_isHot_13 (by decide) d_Fl_isHot_14 (by decide) d_Fl_isHot_17 (by decide) rfl ?_
  exact xs_zret C0 d_Fl_isHot_18 xm_b01 (⟨rfl, rfl⟩) (Nat.le_of_ble_eq_true rfl) (Nat.le_of_ble_eq_true rfl)
set_option maxHeartbeats 4000000 in
set_option maxRecDepth 100000 in
theorem c_cold {P0 P1 P2 P3 P4 : wt_P} {pl dr ki ow : Nat → Int32} {S T : wt_S} {F : wt_F} {H : wt_H} {tt : Int32} {rest : xm_O} {x : Int32} : xm_M y_Fl_isCold (Cond.code y_Fl_isCold b_Fl_isCold 2 (some .boolean)) (xm_rm 0 0 0) [.ref 30, .int x] (wd P0 P1 P2 P3 P4 pl dr ki ow S T F H tt ++ rest) (xm_eq (.inl (some (.int (f_b64 F.2.2.2.1 x)))) (wd P0 P1 P2 P3 P4 pl dr ki ow S T F H tt ++ rest)) := by
  refine xm_of (by decide) (Nat.le_of_ble_eq_true rfl) (fun E C0 => ?_)
  refine xs_eq (lv' := [(0, .ref 30), (1, .int x)]) rfl rfl rfl ?_
  refine xs_aload_n C0 d_Fl_isCold_0 rfl 0 rfl ?_
  obtain ⟨on_1, bk_1, ho_1, co_1, cg_1, m1_1, m2_1, m3_1, m4_1⟩ := F
  refine xs_get (q := 30) (v := .long co_1) C0 f_Fl_22 d_Fl_isCold_1 rfl rfl ?_
  refine xs_iload_n C0 d_Fl_isCold_4 rfl 1 rfl ?_
  refine xs_lshr C0 d_Fl_isCold_5 ?_
  refine xs_lconst (v := 1) C0 d_Fl_isCold_6 rfl ?_
  refine xs_land C0 d_Fl_isCold_7 ?_
  refine xs_lconst (v := 0) C0 d_Fl_isCold_8 rfl ?_
  refine xs_lcmp C0 d_Fl_isCold_9 ?_
  refine xs_bz_eq (u := 1) (v := 0) (tgt := 17) (J := 18) C0 d_Fl_isCold_10 (by decide) d_Fl_isCold_13 (by decide) d_Fl_isCold_14 (by decide) d_Fl_isCold_17 (by decide) rfl ?_
  exact xs_zret C0 d_Fl_isCold_18 xm_b01 (⟨rfl, rfl⟩) (Nat.le_of_ble_eq_true rfl) (Nat.le_of_ble_eq_true rfl)
def f_join (F : wt_F) (a b : Int32) : wt_F := (vp_updL F.1 a.toNatClampNeg (F.1 a.toNatClampNeg ||| ((1 : Int64) <<< (b.toInt64 &&& 63))), vp_updL F.2.1 b.toNatClampNeg (F.2.1 b.toNatClampNeg ||| ((1 : Int64) <<< (a.toInt64 &&& 63))), F.2.2)
set_option maxHeartbeats 4000000 in
set_option maxRecDepth 100000 in
theorem c_join {P0 P1 P2 P3 P4 : wt_P} {pl dr ki ow : Nat → Int32} {S T : wt_S} {F : wt_F} {H : wt_H} {tt : Int32} {rest : xm_O} {F1 : wt_F} {a b : Int32} (ha : vp_in a 48) (hb : vp_in b 48) (hf : f_join F a b = F1) : xm_M y_Fl_join (Cond.code y_Fl_join b_Fl_join 3 none) (xm_rm 0 0 0) [.ref 30, .int a, .int b] (wd P0 P1 P2 P3 P4 pl dr ki ow S T F H tt ++ rest) (xm_eq (.inl none) (wd P0 P1 P2 P3 P4 pl dr ki ow S T F1 H tt ++ rest)) := by
  refine xm_of (by decide) (Nat.le_of_ble_eq_true rfl) (fun E C0 => ?_)
  refine xs_eq (lv' := [(0, .ref 30), (1, .int a), (2, .int b)]) rfl rfl rfl ?_
  refine xs_aload_n C0 d_Fl_join_0 rfl 0 rfl ?_
  refine xs_get (q := 30) (v := .ref 31) C0 f_Fl_9 d_Fl_join_1 rfl rfl ?_
  refine xs_iload_n C0 d_Fl_join_4 rfl 1 rfl ?_
  refine xs_dup2_11 C0 d_Fl_join_5 rfl rfl ?_
  obtain ⟨on_1, bk_1, ho_1, co_1, cg_1, m1_1, m2_1, m3_1, m4_1⟩ := F
  refine xs_lald C0 d_Fl_join_6 rfl (by assumption) ?_
  refine xs_lconst (v := 1) C0 d_Fl_join_7 rfl ?_
  refine xs_iload_n C0 d_Fl_join_8 rfl 2 rfl ?_
  refine xs_lshl C0 d_Fl_join_9 ?_
  refine xs_lor C0 d_Fl_join_10 ?_
  refine xs_last (ω' := (wd P0 P1 P2 P3 P4 pl dr ki ow S T (vp_updL on_1 a.toNatClampNeg ((on_1 a.toNatClampNeg) ||| ((1 : Int64) <<< (b.toInt64 &&& 63))), bk_1, ho_1, co_1, cg_1, m1_1, m2_1, m3_1, m4_1) H tt ++ rest)) C0 d_Fl_join_11 rfl (by assumption) rfl ?_
  refine xs_aload_n C0 d_Fl_join_12 rfl 0 rfl ?_
  refine xs_get (q := 30) (v := .ref 32) C0 f_Fl_15 d_Fl_join_13 rfl rfl ?_
  refine xs_pc (pc' := 16) rfl ?_
  refine xs_iload_n C0 d_Fl_join_16 rfl 2 rfl ?_
  refine xs_dup2_11 C0 d_Fl_join_17 rfl rfl ?_
  refine xs_lald C0 d_Fl_join_18 rfl (by assumption) ?_
  refine xs_lconst (v := 1) C0 d_Fl_join_19 rfl ?_
  refine xs_iload_n C0 d_Fl_join_20 rfl 1 rfl ?_
  refine xs_lshl C0 d_Fl_join_21 ?_
  refine xs_lor C0 d_Fl_join_22 ?_
  refine xs_last (ω' := (wd P0 P1 P2 P3 P4 pl dr ki ow S T (vp_updL on_1 a.toNatClampNeg ((on_1 a.toNatClampNeg) ||| ((1 : Int64) <<< (b.toInt64 &&& 63))), vp_updL bk_1 b.toNatClampNeg ((bk_1 b.toNatClampNeg) ||| ((1 : Int64) <<< (a.toInt64 &&& 63))), ho_1, co_1, cg_1, m1_1, m2_1, m3_1, m4_1) H tt ++ rest)) C0 d_Fl_join_23 rfl (by assumption) rfl ?_
  subst hf
  exact xs_vret C0 d_Fl_join_24 (⟨rfl, rfl⟩) (Nat.le_of_ble_eq_true rfl) (Nat.le_of_ble_eq_true rfl)
def f_made (F : wt_F) (n : Int32) (S : wt_S) : Int32 := if F.2.2.2.2.2.1 = n ∧ F.2.2.2.2.2.2.1 = S.2.2.2.1 ∧ F.2.2.2.2.2.2.2.1 = S.2.2.2.2.1 ∧ F.2.2.2.2.2.2.2.2 = S.2.2.2.2.2.1 then 1 else 0
set_option maxHeartbeats 4000000 in
set_option maxRecDepth 100000 in
theorem c_maden {P0 P1 P2 P3 P4 : wt_P} {pl dr ki ow : Nat → Int32} {S T : wt_S} {F : wt_F} {H : wt_H} {tt : Int32} {rest : xm_O} : xm_M y_Fl_isMadeFor (Cond.code y_Fl_isMadeFor b_Fl_isMadeFor 2 (some .boolean)) (xm_rm 1 0 0) [.ref 30, .ref 21] (wd P0 P1 P2 P3 P4 pl dr ki ow S T F H tt ++ rest) (xm_eq (.inl (some (.int (f_made F (f_cc P1 P2 P3) S)))) (wd P0 P1 P2 P3 P4 pl dr ki ow S T F H tt ++ rest)) := by
  refine xm_of (by decide) (Nat.le_of_ble_eq_true rfl) (fun E C0 => ?_)
  refine xs_eq (lv' := [(0, .ref 30), (1, .ref 21)]) rfl rfl rfl ?_
  refine xs_aload_n C0 d_Fl_isMadeFor_0 rfl 0 rfl ?_
  obtain ⟨on_1, bk_1, ho_1, co_1, cg_1, m1_1, m2_1, m3_1, m4_1⟩ := F
  refine xs_get (q := 30) (v := .int m1_1) C0 f_Fl_29 d_Fl_isMadeFor_1 rfl rfl ?_
  refine xs_aload_n C0 d_Fl_isMadeFor_4 rfl 0 rfl ?_
  refine xs_get (q := 30) (v := .ref 1) C0 f_Fl_41 d_Fl_isMadeFor_5 rfl rfl ?_
  refine xs_cV1 (ω' := (wd P0 P1 P2 P3 P4 pl dr ki ow S T (on_1, bk_1, ho_1, co_1, cg_1, m1_1, m2_1, m3_1, m4_1) H tt ++ rest)) (As := []) (st := [.int m1_1]) (kc' := 0) (ks' := 0) (v := .int (f_cc P1 P2 P3)) C0 d_Fl_isMadeFor_8 l_Fl_49 rfl rfl c_cc rfl rfl rfl (Nat.le_of_ble_eq_true rfl) (Nat.le_of_ble_eq_true rfl) (Nat.le_of_ble_eq_true rfl) (Nat.le_of_ble_eq_true rfl) (Nat.le_of_ble_eq_true rfl) (Nat.le_of_ble_eq_true rfl) ?_
  refine xs_icmp_ne (tgt := 51) C0 d_Fl_isMadeFor_11 (by decide) (fun c_2 => ?_) (fun c_2 => ?_)
  · refine xs_iconst (v := 0) C0 d_Fl_isMadeFor_51 (by decide) ?_
    exact xs_zret C0 d_Fl_isMadeFor_52 (by decide) (⟨by rw [f_made, if_neg (fun h9 => c_2 h9.1)], rfl⟩) (Nat.le_of_ble_eq_true rfl) (Nat.le_of_ble_eq_true rfl)
  · refine xs_aload_n C0 d_Fl_isMadeFor_14 rfl 0 rfl ?_
    refine xs_get (q := 30) (v := .int m2_1) C0 f_Fl_32 d_Fl_isMadeFor_15 rfl rfl ?_
    refine xs_aload_n C0 d_Fl_isMadeFor_18 rfl 1 rfl ?_
    obtain ⟨ss_3, sc_3, sw_3, su_3, sd_3, sk_3, sb_3⟩ := S
    refine xs_get (q := 21) (v := .int su_3) C0 f_Fl_55 d_Fl_isMadeFor_19 rfl rfl ?_
    refine xs_icmp_ne (tgt := 51) C0 d_Fl_isMadeFor_22 (by decide) (fun c_4 => ?_) (fun c_4 => ?_)
    · refine xs_iconst (v := 0) C0 d_Fl_isMadeFor_51 (by decide) ?_
      exact xs_zret C0 d_Fl_isMadeFor_52 (by decide) (⟨by rw [f_made, if_neg (fun h9 => c_4 h9.2.1)], rfl⟩) (Nat.le_of_ble_eq_true rfl) (Nat.le_of_ble_eq_true rfl)
    · refine xs_aload_n C0 d_Fl_isMadeFor_25 rfl 0 rfl ?_
      refine xs_get (q := 30) (v := .int m3_1) C0 f_Fl_35 d_Fl_isMadeFor_26 rfl rfl ?_
      refine xs_aload_n C0 d_Fl_isMadeFor_29 rfl 1 rfl ?_
      refine xs_get (q := 21) (v := .int sd_3) C0 f_Fl_60 d_Fl_isMadeFor_30 rfl rfl ?_
      refine xs_icmp_ne (tgt := 51) C0 d_Fl_isMadeFor_33 (by decide) (fun c_5 => ?_) (fun c_5 => ?_)
      · refine xs_iconst (v := 0) C0 d_Fl_isMadeFor_51 (by decide) ?_
        exact xs_zret C0 d_Fl_isMadeFor_52 (by decide) (⟨by rw [f_made, if_neg (fun h9 => c_5 h9.2.2.1)], rfl⟩) (Nat.le_of_ble_eq_true rfl) (Nat.le_of_ble_eq_true rfl)
      · refine xs_aload_n C0 d_Fl_isMadeFor_36 rfl 0 rfl ?_
        refine xs_get (q := 30) (v := .int m4_1) C0 f_Fl_38 d_Fl_isMadeFor_37 rfl rfl ?_
        refine xs_aload_n C0 d_Fl_isMadeFor_40 rfl 1 rfl ?_
        refine xs_get (q := 21) (v := .int sk_3) C0 f_Fl_63 d_Fl_isMadeFor_41 rfl rfl ?_
        refine xs_icmp_ne (tgt := 51) C0 d_Fl_isMadeFor_44 (by decide) (fun c_6 => ?_) (fun c_6 => ?_)
        · refine xs_iconst (v := 0) C0 d_Fl_isMadeFor_51 (by decide) ?_
          exact xs_zret C0 d_Fl_isMadeFor_52 (by decide) (⟨by rw [f_made, if_neg (fun h9 => c_6 h9.2.2.2)], rfl⟩) (Nat.le_of_ble_eq_true rfl) (Nat.le_of_ble_eq_true rfl)
        · refine xs_iconst (v := 1) C0 d_Fl_isMadeFor_47 (by decide) ?_
          refine xs_goto (tgt := 52) C0 d_Fl_isMadeFor_48 (by decide) ?_
          exact xs_zret C0 d_Fl_isMadeFor_52 (by decide) (⟨by rw [f_made, if_pos ⟨c_2, c_4, c_5, c_6⟩], rfl⟩) (Nat.le_of_ble_eq_true rfl) (Nat.le_of_ble_eq_true rfl)
set_option maxHeartbeats 4000000 in
set_option maxRecDepth 100000 in
theorem c_madet {P0 P1 P2 P3 P4 : wt_P} {pl dr ki ow : Nat → Int32} {S T : wt_S} {F : wt_F} {H : wt_H} {tt : Int32} {rest : xm_O} : xm_M y_Fl_isMadeFor (Cond.code y_Fl_isMadeFor b_Fl_isMadeFor 2 (some .boolean)) (xm_rm 1 0 0) [.ref 30, .ref 25] (wd P0 P1 P2 P3 P4 pl dr ki ow S T F H tt ++ rest) (xm_eq (.inl (some (.int (f_made F (f_cc P1 P2 P3) T)))) (wd P0 P1 P2 P3 P4 pl dr ki ow S T F H tt ++ rest)) := by
  refine xm_of (by decide) (Nat.le_of_ble_eq_true rfl) (fun E C0 => ?_)
  refine xs_eq (lv' := [(0, .ref 30), (1, .ref 25)]) rfl rfl rfl ?_
  refine xs_aload_n C0 d_Fl_isMadeFor_0 rfl 0 rfl ?_
  obtain ⟨on_1, bk_1, ho_1, co_1, cg_1, m1_1, m2_1, m3_1, m4_1⟩ := F
  refine xs_get (q := 30) (v := .int m1_1) C0 f_Fl_29 d_Fl_isMadeFor_1 rfl rfl ?_
  refine xs_aload_n C0 d_Fl_isMadeFor_4 rfl 0 rfl ?_
  refine xs_get (q := 30) (v := .ref 1) C0 f_Fl_41 d_Fl_isMadeFor_5 rfl rfl ?_
  refine xs_cV1 (ω' := (wd P0 P1 P2 P3 P4 pl dr ki ow S T (on_1, bk_1, ho_1, co_1, cg_1, m1_1, m2_1, m3_1, m4_1) H tt ++ rest)) (As := []) (st := [.int m1_1]) (kc' := 0) (ks' := 0) (v := .int (f_cc P1 P2 P3)) C0 d_Fl_isMadeFor_8 l_Fl_49 rfl rfl c_cc rfl rfl rfl (Nat.le_of_ble_eq_true rfl) (Nat.le_of_ble_eq_true rfl) (Nat.le_of_ble_eq_true rfl) (Nat.le_of_ble_eq_true rfl) (Nat.le_of_ble_eq_true rfl) (Nat.le_of_ble_eq_true rfl) ?_
  refine xs_icmp_ne (tgt := 51) C0 d_Fl_isMadeFor_11 (by decide) (fun c_2 => ?_) (fun c_2 => ?_)
  · refine xs_iconst (v := 0) C0 d_Fl_isMadeFor_51 (by decide) ?_
    exact xs_zret C0 d_Fl_isMadeFor_52 (by decide) (⟨by rw [f_made, if_neg (fun h9 => c_2 h9.1)], rfl⟩) (Nat.le_of_ble_eq_true rfl) (Nat.le_of_ble_eq_true rfl)
  · refine xs_aload_n C0 d_Fl_isMadeFor_14 rfl 0 rfl ?_
    refine xs_get (q := 30) (v := .int m2_1) C0 f_Fl_32 d_Fl_isMadeFor_15 rfl rfl ?_
    refine xs_aload_n C0 d_Fl_isMadeFor_18 rfl 1 rfl ?_
    obtain ⟨ts_3, tc_3, tw_3, tu_3, td_3, tk_3, tb_3⟩ := T
    refine xs_get (q := 25) (v := .int tu_3) C0 f_Fl_55 d_Fl_isMadeFor_19 rfl rfl ?_
    refine xs_icmp_ne (tgt := 51) C0 d_Fl_isMadeFor_22 (by decide) (fun c_4 => ?_) (fun c_4 => ?_)
    · refine xs_iconst (v := 0) C0 d_Fl_isMadeFor_51 (by decide) ?_
      exact xs_zret C0 d_Fl_isMadeFor_52 (by decide) (⟨by rw [f_made, if_neg (fun h9 => c_4 h9.2.1)], rfl⟩) (Nat.le_of_ble_eq_true rfl) (Nat.le_of_ble_eq_true rfl)
    · refine xs_aload_n C0 d_Fl_isMadeFor_25 rfl 0 rfl ?_
      refine xs_get (q := 30) (v := .int m3_1) C0 f_Fl_35 d_Fl_isMadeFor_26 rfl rfl ?_
      refine xs_aload_n C0 d_Fl_isMadeFor_29 rfl 1 rfl ?_
      refine xs_get (q := 25) (v := .int td_3) C0 f_Fl_60 d_Fl_isMadeFor_30 rfl rfl ?_
      refine xs_icmp_ne (tgt := 51) C0 d_Fl_isMadeFor_33 (by decide) (fun c_5 => ?_) (fun c_5 => ?_)
      · refine xs_iconst (v := 0) C0 d_Fl_isMadeFor_51 (by decide) ?_
        exact xs_zret C0 d_Fl_isMadeFor_52 (by decide) (⟨by rw [f_made, if_neg (fun h9 => c_5 h9.2.2.1)], rfl⟩) (Nat.le_of_ble_eq_true rfl) (Nat.le_of_ble_eq_true rfl)
      · refine xs_aload_n C0 d_Fl_isMadeFor_36 rfl 0 rfl ?_
        refine xs_get (q := 30) (v := .int m4_1) C0 f_Fl_38 d_Fl_isMadeFor_37 rfl rfl ?_
        refine xs_aload_n C0 d_Fl_isMadeFor_40 rfl 1 rfl ?_
        refine xs_get (q := 25) (v := .int tk_3) C0 f_Fl_63 d_Fl_isMadeFor_41 rfl rfl ?_
        refine xs_icmp_ne (tgt := 51) C0 d_Fl_isMadeFor_44 (by decide) (fun c_6 => ?_) (fun c_6 => ?_)
        · refine xs_iconst (v := 0) C0 d_Fl_isMadeFor_51 (by decide) ?_
          exact xs_zret C0 d_Fl_isMadeFor_52 (by decide) (⟨by rw [f_made, if_neg (fun h9 => c_6 h9.2.2.2)], rfl⟩) (Nat.le_of_ble_eq_true rfl) (Nat.le_of_ble_eq_true rfl)
        · refine xs_iconst (v := 1) C0 d_Fl_isMadeFor_47 (by decide) ?_
          refine xs_goto (tgt := 52) C0 d_Fl_isMadeFor_48 (by decide) ?_
          exact xs_zret C0 d_Fl_isMadeFor_52 (by decide) (⟨by rw [f_made, if_pos ⟨c_2, c_4, c_5, c_6⟩], rfl⟩) (Nat.le_of_ble_eq_true rfl) (Nat.le_of_ble_eq_true rfl)
