set_option maxHeartbeats 4000000 in
set_option maxRecDepth 100000 in
theorem c_full0 {P1 P2 P3 P4 : wt_P} {pl dr ki ow : Nat → Int32} {S T : wt_S} {F : wt_F} {H : wt_H} {tt : Int32} {rest : xm_O} {f g : Nat → Int32} {i : Nat} (hi : i < 16) : xm_M y_Pa_isFull (Cond.code y_Pa_isFull b_Pa_isFull 1 (some .boolean)) (xm_rm 0 0 0) [.ref 2] (wd (f, g, nI i) P1 P2 P3 P4 pl dr ki ow S T F H tt ++ rest) (xm_eq (.inl (some (.int 0))) (wd (f, g, nI i) P1 P2 P3 P4 pl dr ki ow S T F H tt ++ rest)) := by
  refine xm_of (by decide) (Nat.le_of_ble_eq_true rfl) (fun E C0 => ?_)
  refine xs_eq (lv' := [(0, .ref 2)]) rfl rfl rfl ?_
  refine xs_aload_n C0 d_Pa_isFull_0 rfl 0 rfl ?_
  refine xs_get (q := 2) (v := .int (nI i)) C0 f_Pa_16 d_Pa_isFull_1 rfl rfl ?_
  refine xs_aload_n C0 d_Pa_isFull_4 rfl 0 rfl ?_
  refine xs_get (q := 2) (v := .ref 3) C0 f_Pa_7 d_Pa_isFull_5 rfl rfl ?_
  refine xs_alen (v := 16) C0 d_Pa_isFull_8 rfl (by decide) rfl ?_
  refine xs_bi_lt (u := 1) (v := 0) (tgt := 16) (J := 17) C0 d_Pa_isFull_9 (by decide) d_Pa_isFull_12 (by decide) d_Pa_isFull_13 (by decide) d_Pa_isFull_16 (by decide) rfl ?_
  exact xs_zret C0 d_Pa_isFull_17 xm_b01 (⟨by rw [if_neg (fun h9 => h9 (show nI i < 16 from nI_lt (b := 16) hi (by decide)))], rfl⟩) (Nat.le_of_ble_eq_true rfl) (Nat.le_of_ble_eq_true rfl)
set_option maxHeartbeats 4000000 in
set_option maxRecDepth 100000 in
theorem c_fullT0 {P1 P2 P3 P4 : wt_P} {pl dr ki ow : Nat → Int32} {S T : wt_S} {F : wt_F} {H : wt_H} {tt : Int32} {rest : xm_O} {f g : Nat → Int32} {i : Nat} (hi : 16 ≤ i) (hi2 : i < 2 ^ 31) : xm_M y_Pa_isFull (Cond.code y_Pa_isFull b_Pa_isFull 1 (some .boolean)) (xm_rm 0 0 0) [.ref 2] (wd (f, g, nI i) P1 P2 P3 P4 pl dr ki ow S T F H tt ++ rest) (xm_eq (.inl (some (.int 1))) (wd (f, g, nI i) P1 P2 P3 P4 pl dr ki ow S T F H tt ++ rest)) := by
  refine xm_of (by decide) (Nat.le_of_ble_eq_true rfl) (fun E C0 => ?_)
  refine xs_eq (lv' := [(0, .ref 2)]) rfl rfl rfl ?_
  refine xs_aload_n C0 d_Pa_isFull_0 rfl 0 rfl ?_
  refine xs_get (q := 2) (v := .int (nI i)) C0 f_Pa_16 d_Pa_isFull_1 rfl rfl ?_
  refine xs_aload_n C0 d_Pa_isFull_4 rfl 0 rfl ?_
  refine xs_get (q := 2) (v := .ref 3) C0 f_Pa_7 d_Pa_isFull_5 rfl rfl ?_
  refine xs_alen (v := 16) C0 d_Pa_isFull_8 rfl (by decide) rfl ?_
  refine xs_bi_lt (u := 1) (v := 0) (tgt := 16) (J := 17) C0 d_Pa_isFull_9 (by decide) d_Pa_isFull_12 (by decide) d_Pa_isFull_13 (by decide) d_Pa_isFull_16 (by decide) rfl ?_
  exact xs_zret C0 d_Pa_isFull_17 xm_b01 (⟨by rw [if_pos (show ¬ nI i < 16 from nI_nlt (b := 16) hi hi2)], rfl⟩) (Nat.le_of_ble_eq_true rfl) (Nat.le_of_ble_eq_true rfl)
set_option maxHeartbeats 4000000 in
set_option maxRecDepth 100000 in
theorem c_add0 {P1 P2 P3 P4 : wt_P} {pl dr ki ow : Nat → Int32} {S T : wt_S} {F : wt_F} {H : wt_H} {tt : Int32} {rest : xm_O} {f g : Nat → Int32} {i : Nat} {a b : Int32} (hi : i < 16) : xm_M y_Pa_add (Cond.code y_Pa_add b_Pa_add 3 (some .int)) (xm_rm 0 0 0) [.ref 2, .int a, .int b] (wd (f, g, nI i) P1 P2 P3 P4 pl dr ki ow S T F H tt ++ rest) (xm_eq (.inl (some (.int (nI i)))) (wd (upd f i a, upd g i b, nI (i + 1)) P1 P2 P3 P4 pl dr ki ow S T F H tt ++ rest)) := by
  refine xm_of (by decide) (Nat.le_of_ble_eq_true rfl) (fun E C0 => ?_)
  refine xs_eq (lv' := [(0, .ref 2), (1, .int a), (2, .int b)]) rfl rfl rfl ?_
  refine xs_aload_n C0 d_Pa_add_0 rfl 0 rfl ?_
  refine xs_get (q := 2) (v := .ref 3) C0 f_Pa_7 d_Pa_add_1 rfl rfl ?_
  refine xs_aload_n C0 d_Pa_add_4 rfl 0 rfl ?_
  refine xs_get (q := 2) (v := .int (nI i)) C0 f_Pa_16 d_Pa_add_5 rfl rfl ?_
  refine xs_iload_n C0 d_Pa_add_8 rfl 1 rfl ?_
  refine xs_iast (ω' := (wd (upd f (nI i).toNatClampNeg a, g, nI i) P1 P2 P3 P4 pl dr ki ow S T F H tt ++ rest)) C0 d_Pa_add_9 rfl (vp_in_nI hi (by decide)) rfl ?_
  refine xs_world (ω' := (wd (upd f i a, g, nI i) P1 P2 P3 P4 pl dr ki ow S T F H tt ++ rest)) (by rw [nI_clamp (by omega)]) ?_
  refine xs_aload_n C0 d_Pa_add_10 rfl 0 rfl ?_
  refine xs_get (q := 2) (v := .ref 4) C0 f_Pa_13 d_Pa_add_11 rfl rfl ?_
  refine xs_aload_n C0 d_Pa_add_14 rfl 0 rfl ?_
  refine xs_get (q := 2) (v := .int (nI i)) C0 f_Pa_16 d_Pa_add_15 rfl rfl ?_
  refine xs_iload_n C0 d_Pa_add_18 rfl 2 rfl ?_
  refine xs_iast (ω' := (wd (upd f i a, upd g (nI i).toNatClampNeg b, nI i) P1 P2 P3 P4 pl dr ki ow S T F H tt ++ rest)) C0 d_Pa_add_19 rfl (vp_in_nI hi (by decide)) rfl ?_
  refine xs_world (ω' := (wd (upd f i a, upd g i b, nI i) P1 P2 P3 P4 pl dr ki ow S T F H tt ++ rest)) (by rw [nI_clamp (by omega)]) ?_
  refine xs_pc (pc' := 20) rfl ?_
  refine xs_aload_n C0 d_Pa_add_20 rfl 0 rfl ?_
  refine xs_dup C0 d_Pa_add_21 rfl ?_
  refine xs_get (q := 2) (v := .int (nI i)) C0 f_Pa_16 d_Pa_add_22 rfl rfl ?_
  refine xs_iconst (v := 1) C0 d_Pa_add_25 (by decide) ?_
  refine xs_iadd C0 d_Pa_add_26 ?_
  refine xs_top (v' := .int (nI (i + 1))) (by rw [nI_1]) ?_
  refine xs_put (ω' := (wd (upd f i a, upd g i b, (nI (i + 1))) P1 P2 P3 P4 pl dr ki ow S T F H tt ++ rest)) C0 f_Pa_16 ty_Pa_2 d_Pa_add_27 rfl (Nat.le_of_ble_eq_true rfl) (fun _ => ⟨rfl, rfl⟩) rfl ?_
  refine xs_aload_n C0 d_Pa_add_30 rfl 0 rfl ?_
  refine xs_get (q := 2) (v := .int (nI (i + 1))) C0 f_Pa_16 d_Pa_add_31 rfl rfl ?_
  refine xs_iconst (v := 1) C0 d_Pa_add_34 (by decide) ?_
  refine xs_isub C0 d_Pa_add_35 ?_
  refine xs_top (v' := .int (nI i)) (by rw [nI_pred]) ?_
  exact xs_iret C0 d_Pa_add_36 (⟨rfl, rfl⟩) (Nat.le_of_ble_eq_true rfl) (Nat.le_of_ble_eq_true rfl)
set_option maxHeartbeats 4000000 in
set_option maxRecDepth 100000 in
theorem c_np0 {P1 P2 P3 P4 : wt_P} {pl dr ki ow : Nat → Int32} {S T : wt_S} {F : wt_F} {H : wt_H} {tt : Int32} {rest : xm_O} {f g : Nat → Int32} {i : Nat} {x : Int32} (h : gw x 0 (nI i - 1)) : xm_M y_Rb_needPart (Cond.code y_Rb_needPart b_Rb_needPart 2 none) (xm_rm 1 0 0) [.ref 2, .int x] (wd (f, g, nI i) P1 P2 P3 P4 pl dr ki ow S T F H tt ++ rest) (xm_eq (.inl none) (wd (f, g, nI i) P1 P2 P3 P4 pl dr ki ow S T F H tt ++ rest)) := by
  refine xm_of (by decide) (Nat.le_of_ble_eq_true rfl) (fun E C0 => ?_)
  refine xs_eq (lv' := [(0, .ref 2), (1, .int x)]) rfl rfl rfl ?_
  refine xs_iload_n C0 d_Rb_needPart_0 rfl 1 rfl ?_
  refine xs_iconst (v := 0) C0 d_Rb_needPart_1 (by decide) ?_
  refine xs_aload_n C0 d_Rb_needPart_2 rfl 0 rfl ?_
  refine xs_get (q := 2) (v := .int (nI i)) C0 f_Rb_101 d_Rb_needPart_3 rfl rfl ?_
  refine xs_iconst (v := 1) C0 d_Rb_needPart_6 (by decide) ?_
  refine xs_isub C0 d_Rb_needPart_7 ?_
  refine xs_cS0 (ω' := (wd (f, g, nI i) P1 P2 P3 P4 pl dr ki ow S T F H tt ++ rest)) (av := [.int x, .int 0, .int ((nI i) - 1)]) (st := []) (kc' := 0) (ks' := 0) C0 d_Rb_needPart_8 l_Rb_70 (c_nw _ x 0 ((nI i) - 1) h) rfl rfl rfl (Nat.le_of_ble_eq_true rfl) (Nat.le_of_ble_eq_true rfl) (Nat.le_of_ble_eq_true rfl) (Nat.le_of_ble_eq_true rfl) (Nat.le_of_ble_eq_true rfl) (Nat.le_of_ble_eq_true rfl) ?_
  exact xs_vret C0 d_Rb_needPart_11 (⟨rfl, rfl⟩) (Nat.le_of_ble_eq_true rfl) (Nat.le_of_ble_eq_true rfl)
set_option maxHeartbeats 4000000 in
set_option maxRecDepth 100000 in
theorem c_npT0 {P1 P2 P3 P4 : wt_P} {pl dr ki ow : Nat → Int32} {S T : wt_S} {F : wt_F} {H : wt_H} {tt : Int32} {rest : xm_O} {f g : Nat → Int32} {i : Nat} {x : Int32} (h : ¬ gw x 0 (nI i - 1)) : xm_M y_Rb_needPart (Cond.code y_Rb_needPart b_Rb_needPart 2 none) (xm_rm 7 1 6) [.ref 2, .int x] (wd (f, g, nI i) P1 P2 P3 P4 pl dr ki ow S T F H tt ++ rest) (xm_eq (.inr "java/lang/IllegalArgumentException") (wd (f, g, nI i) P1 P2 P3 P4 pl dr ki ow S T F H tt ++ rest)) := by
  refine xm_of (by decide) (Nat.le_of_ble_eq_true rfl) (fun E C0 => ?_)
  refine xs_eq (lv' := [(0, .ref 2), (1, .int x)]) rfl rfl rfl ?_
  refine xs_iload_n C0 d_Rb_needPart_0 rfl 1 rfl ?_
  refine xs_iconst (v := 0) C0 d_Rb_needPart_1 (by decide) ?_
  refine xs_aload_n C0 d_Rb_needPart_2 rfl 0 rfl ?_
  refine xs_get (q := 2) (v := .int (nI i)) C0 f_Rb_101 d_Rb_needPart_3 rfl rfl ?_
  refine xs_iconst (v := 1) C0 d_Rb_needPart_6 (by decide) ?_
  refine xs_isub C0 d_Rb_needPart_7 ?_
  exact xs_cST (av := [.int x, .int 0, .int ((nI i) - 1)]) (st := []) C0 d_Rb_needPart_8 l_Rb_70 (c_nwT _ x 0 ((nI i) - 1) h) rfl rfl rfl (Nat.le_of_ble_eq_true rfl) (Nat.le_of_ble_eq_true rfl) (Nat.le_of_ble_eq_true rfl) (Nat.le_of_ble_eq_true rfl) (xt_leave C0 ⟨rfl, rfl⟩ (Nat.le_of_ble_eq_true rfl) (Nat.le_of_ble_eq_true rfl))
set_option maxHeartbeats 4000000 in
set_option maxRecDepth 100000 in
theorem c_nr0 {P1 P2 P3 P4 : wt_P} {pl dr ki ow : Nat → Int32} {S T : wt_S} {F : wt_F} {H : wt_H} {tt : Int32} {rest : xm_O} {f g : Nat → Int32} {i : Nat} (hi : i < 16) : xm_M y_Rb_needRoom (Cond.code y_Rb_needRoom b_Rb_needRoom 1 none) (xm_rm 1 0 0) [.ref 2] (wd (f, g, nI i) P1 P2 P3 P4 pl dr ki ow S T F H tt ++ rest) (xm_eq (.inl none) (wd (f, g, nI i) P1 P2 P3 P4 pl dr ki ow S T F H tt ++ rest)) := by
  refine xm_of (by decide) (Nat.le_of_ble_eq_true rfl) (fun E C0 => ?_)
  refine xs_eq (lv' := [(0, .ref 2)]) rfl rfl rfl ?_
  refine xs_aload_n C0 d_Rb_needRoom_0 rfl 0 rfl ?_
  refine xs_cV1 (ω' := (wd (f, g, nI i) P1 P2 P3 P4 pl dr ki ow S T F H tt ++ rest)) (As := []) (st := []) (kc' := 0) (ks' := 0) (v := .int 0) C0 d_Rb_needRoom_1 l_Rb_204 rfl rfl (c_full0 hi) rfl rfl rfl (Nat.le_of_ble_eq_true rfl) (Nat.le_of_ble_eq_true rfl) (Nat.le_of_ble_eq_true rfl) (Nat.le_of_ble_eq_true rfl) (Nat.le_of_ble_eq_true rfl) (Nat.le_of_ble_eq_true rfl) ?_
  refine xs_if_eq (tgt := 17) C0 d_Rb_needRoom_4 (by decide) (fun _ => ?_) (fun c9 => absurd rfl c9)
  exact xs_vret C0 d_Rb_needRoom_17 (⟨rfl, rfl⟩) (Nat.le_of_ble_eq_true rfl) (Nat.le_of_ble_eq_true rfl)
set_option maxHeartbeats 4000000 in
set_option maxRecDepth 100000 in
theorem c_nrT0 {P1 P2 P3 P4 : wt_P} {pl dr ki ow : Nat → Int32} {S T : wt_S} {F : wt_F} {H : wt_H} {tt : Int32} {rest : xm_O} {f g : Nat → Int32} {i : Nat} (hi : 16 ≤ i) (hi2 : i < 2 ^ 31) : xm_M y_Rb_needRoom (Cond.code y_Rb_needRoom b_Rb_needRoom 1 none) (xm_rm 6 1 6) [.ref 2] (wd (f, g, nI i) P1 P2 P3 P4 pl dr ki ow S T F H tt ++ rest) (xm_eq (.inr "java/lang/IllegalStateException") (wd (f, g, nI i) P1 P2 P3 P4 pl dr ki ow S T F H tt ++ rest)) := by
  refine xm_of (by decide) (Nat.le_of_ble_eq_true rfl) (fun E C0 => ?_)
  refine xs_eq (lv' := [(0, .ref 2)]) rfl rfl rfl ?_
  refine xs_aload_n C0 d_Rb_needRoom_0 rfl 0 rfl ?_
  refine xs_cV1 (ω' := (wd (f, g, nI i) P1 P2 P3 P4 pl dr ki ow S T F H tt ++ rest)) (As := []) (st := []) (kc' := 0) (ks' := 0) (v := .int 1) C0 d_Rb_needRoom_1 l_Rb_204 rfl rfl (c_fullT0 hi hi2) rfl rfl rfl (Nat.le_of_ble_eq_true rfl) (Nat.le_of_ble_eq_true rfl) (Nat.le_of_ble_eq_true rfl) (Nat.le_of_ble_eq_true rfl) (Nat.le_of_ble_eq_true rfl) (Nat.le_of_ble_eq_true rfl) ?_
  refine xs_if_eq (tgt := 17) C0 d_Rb_needRoom_4 (by decide) (fun c9 => absurd c9 (by decide)) (fun _ => ?_)
  exact xs_throw (cls := "java/lang/IllegalStateException") (names := xm_up) C0 k_412 k_413 k_13 k_421 ta_ISE (by decide +kernel) (by decide +kernel) d_Rb_needRoom_7 d_Rb_needRoom_10 d_Rb_needRoom_11 d_Rb_needRoom_13 d_Rb_needRoom_16 (Nat.le_of_ble_eq_true rfl) (Nat.le_of_ble_eq_true rfl) (Nat.le_of_ble_eq_true rfl) (Nat.le_of_ble_eq_true rfl) ⟨rfl, rfl⟩
set_option maxHeartbeats 4000000 in
set_option maxRecDepth 100000 in
theorem c_full1 {P0 P2 P3 P4 : wt_P} {pl dr ki ow : Nat → Int32} {S T : wt_S} {F : wt_F} {H : wt_H} {tt : Int32} {rest : xm_O} {f g : Nat → Int32} {i : Nat} (hi : i < 64) : xm_M y_Pa_isFull (Cond.code y_Pa_isFull b_Pa_isFull 1 (some .boolean)) (xm_rm 0 0 0) [.ref 5] (wd P0 (f, g, nI i) P2 P3 P4 pl dr ki ow S T F H tt ++ rest) (xm_eq (.inl (some (.int 0))) (wd P0 (f, g, nI i) P2 P3 P4 pl dr ki ow S T F H tt ++ rest)) := by
  refine xm_of (by decide) (Nat.le_of_ble_eq_true rfl) (fun E C0 => ?_)
  refine xs_eq (lv' := [(0, .ref 5)]) rfl rfl rfl ?_
  refine xs_aload_n C0 d_Pa_isFull_0 rfl 0 rfl ?_
  refine xs_get (q := 5) (v := .int (nI i)) C0 f_Pa_16 d_Pa_isFull_1 rfl rfl ?_
  refine xs_aload_n C0 d_Pa_isFull_4 rfl 0 rfl ?_
  refine xs_get (q := 5) (v := .ref 6) C0 f_Pa_7 d_Pa_isFull_5 rfl rfl ?_
  refine xs_alen (v := 64) C0 d_Pa_isFull_8 rfl (by decide) rfl ?_
  refine xs_bi_lt (u := 1) (v := 0) (tgt := 16) (J := 17) C0 d_Pa_isFull_9 (by decide) d_Pa_isFull_12 (by decide) d_Pa_isFull_13 (by decide) d_Pa_isFull_16 (by decide) rfl ?_
  exact xs_zret C0 d_Pa_isFull_17 xm_b01 (⟨by rw [if_neg (fun h9 => h9 (show nI i < 64 from nI_lt (b := 64) hi (by decide)))], rfl⟩) (Nat.le_of_ble_eq_true rfl) (Nat.le_of_ble_eq_true rfl)
set_option maxHeartbeats 4000000 in
set_option maxRecDepth 100000 in
theorem c_fullT1 {P0 P2 P3 P4 : wt_P} {pl dr ki ow : Nat → Int32} {S T : wt_S} {F : wt_F} {H : wt_H} {tt : Int32} {rest : xm_O} {f g : Nat → Int32} {i : Nat} (hi : 64 ≤ i) (hi2 : i < 2 ^ 31) : xm_M y_Pa_isFull (Cond.code y_Pa_isFull b_Pa_isFull 1 (some .boolean)) (xm_rm 0 0 0) [.ref 5] (wd P0 (f, g, nI i) P2 P3 P4 pl dr ki ow S T F H tt ++ rest) (xm_eq (.inl (some (.int 1))) (wd P0 (f, g, nI i) P2 P3 P4 pl dr ki ow S T F H tt ++ rest)) := by
  refine xm_of (by decide) (Nat.le_of_ble_eq_true rfl) (fun E C0 => ?_)
  refine xs_eq (lv' := [(0, .ref 5)]) rfl rfl rfl ?_
  refine xs_aload_n C0 d_Pa_isFull_0 rfl 0 rfl ?_
  refine xs_get (q := 5) (v := .int (nI i)) C0 f_Pa_16 d_Pa_isFull_1 rfl rfl ?_
  refine xs_aload_n C0 d_Pa_isFull_4 rfl 0 rfl ?_
  refine xs_get (q := 5) (v := .ref 6) C0 f_Pa_7 d_Pa_isFull_5 rfl rfl ?_
  refine xs_alen (v := 64) C0 d_Pa_isFull_8 rfl (by decide) rfl ?_
  refine xs_bi_lt (u := 1) (v := 0) (tgt := 16) (J := 17) C0 d_Pa_isFull_9 (by decide) d_Pa_isFull_12 (by decide) d_Pa_isFull_13 (by decide) d_Pa_isFull_16 (by decide) rfl ?_
  exact xs_zret C0 d_Pa_isFull_17 xm_b01 (⟨by rw [if_pos (show ¬ nI i < 64 from nI_nlt (b := 64) hi hi2)], rfl⟩) (Nat.le_of_ble_eq_true rfl) (Nat.le_of_ble_eq_true rfl)
set_option maxHeartbeats 4000000 in
set_option maxRecDepth 100000 in
theorem c_add1 {P0 P2 P3 P4 : wt_P} {pl dr ki ow : Nat → Int32} {S T : wt_S} {F : wt_F} {H : wt_H} {tt : Int32} {rest : xm_O} {f g : Nat → Int32} {i : Nat} {a b : Int32} (hi : i < 64) : xm_M y_Pa_add (Cond.code y_Pa_add b_Pa_add 3 (some .int)) (xm_rm 0 0 0) [.ref 5, .int a, .int b] (wd P0 (f, g, nI i) P2 P3 P4 pl dr ki ow S T F H tt ++ rest) (xm_eq (.inl (some (.int (nI i)))) (wd P0 (upd f i a, upd g i b, nI (i + 1)) P2 P3 P4 pl dr ki ow S T F H tt ++ rest)) := by
  refine xm_of (by decide) (Nat.le_of_ble_eq_true rfl) (fun E C0 => ?_)
  refine xs_eq (lv' := [(0, .ref 5), (1, .int a), (2, .int b)]) rfl rfl rfl ?_
  refine xs_aload_n C0 d_Pa_add_0 rfl 0 rfl ?_
  refine xs_get (q := 5) (v := .ref 6) C0 f_Pa_7 d_Pa_add_1 rfl rfl ?_
  refine xs_aload_n C0 d_Pa_add_4 rfl 0 rfl ?_
  refine xs_get (q := 5) (v := .int (nI i)) C0 f_Pa_16 d_Pa_add_5 rfl rfl ?_
  refine xs_iload_n C0 d_Pa_add_8 rfl 1 rfl ?_
  refine xs_iast (ω' := (wd P0 (upd f (nI i).toNatClampNeg a, g, nI i) P2 P3 P4 pl dr ki ow S T F H tt ++ rest)) C0 d_Pa_add_9 rfl (vp_in_nI hi (by decide)) rfl ?_
  refine xs_world (ω' := (wd P0 (upd f i a, g, nI i) P2 P3 P4 pl dr ki ow S T F H tt ++ rest)) (by rw [nI_clamp (by omega)]) ?_
  refine xs_aload_n C0 d_Pa_add_10 rfl 0 rfl ?_
  refine xs_get (q := 5) (v := .ref 7) C0 f_Pa_13 d_Pa_add_11 rfl rfl ?_
  refine xs_aload_n C0 d_Pa_add_14 rfl 0 rfl ?_
  refine xs_get (q := 5) (v := .int (nI i)) C0 f_Pa_16 d_Pa_add_15 rfl rfl ?_
  refine xs_iload_n C0 d_Pa_add_18 rfl 2 rfl ?_
  refine xs_iast (ω' := (wd P0 (upd f i a, upd g (nI i).toNatClampNeg b, nI i) P2 P3 P4 pl dr ki ow S T F H tt ++ rest)) C0 d_Pa_add_19 rfl (vp_in_nI hi (by decide)) rfl ?_
  refine xs_world (ω' := (wd P0 (upd f i a, upd g i b, nI i) P2 P3 P4 pl dr ki ow S T F H tt ++ rest)) (by rw [nI_clamp (by omega)]) ?_
  refine xs_pc (pc' := 20) rfl ?_
  refine xs_aload_n C0 d_Pa_add_20 rfl 0 rfl ?_
  refine xs_dup C0 d_Pa_add_21 rfl ?_
  refine xs_get (q := 5) (v := .int (nI i)) C0 f_Pa_16 d_Pa_add_22 rfl rfl ?_
  refine xs_iconst (v := 1) C0 d_Pa_add_25 (by decide) ?_
  refine xs_iadd C0 d_Pa_add_26 ?_
  refine xs_top (v' := .int (nI (i + 1))) (by rw [nI_1]) ?_
  refine xs_put (ω' := (wd P0 (upd f i a, upd g i b, (nI (i + 1))) P2 P3 P4 pl dr ki ow S T F H tt ++ rest)) C0 f_Pa_16 ty_Pa_2 d_Pa_add_27 rfl (Nat.le_of_ble_eq_true rfl) (fun _ => ⟨rfl, rfl⟩) rfl ?_
  refine xs_aload_n C0 d_Pa_add_30 rfl 0 rfl ?_
  refine xs_get (q := 5) (v := .int (nI (i + 1))) C0 f_Pa_16 d_Pa_add_31 rfl rfl ?_
  refine xs_iconst (v := 1) C0 d_Pa_add_34 (by decide) ?_
  refine xs_isub C0 d_Pa_add_35 ?_
  refine xs_top (v' := .int (nI i)) (by rw [nI_pred]) ?_
  exact xs_iret C0 d_Pa_add_36 (⟨rfl, rfl⟩) (Nat.le_of_ble_eq_true rfl) (Nat.le_of_ble_eq_true rfl)
set_option maxHeartbeats 4000000 in
set_option maxRecDepth 100000 in
theorem c_nr1 {P0 P2 P3 P4 : wt_P} {pl dr ki ow : Nat → Int32} {S T : wt_S} {F : wt_F} {H : wt_H} {tt : Int32} {rest : xm_O} {f g : Nat → Int32} {i : Nat} (hi : i < 64) : xm_M y_Rb_needRoom (Cond.code y_Rb_needRoom b_Rb_needRoom 1 none) (xm_rm 1 0 0) [.ref 5] (wd P0 (f, g, nI i) P2 P3 P4 pl dr ki ow S T F H tt ++ rest) (xm_eq (.inl none) (wd P0 (f, g, nI i) P2 P3 P4 pl dr ki ow S T F H tt ++ rest)) := by
  refine xm_of (by decide) (Nat.le_of_ble_eq_true rfl) (fun E C0 => ?_)
  refine xs_eq (lv' := [(0, .ref 5)]) rfl rfl rfl ?_
  refine xs_aload_n C0 d_Rb_needRoom_0 rfl 0 rfl ?_
  refine xs_cV1 (ω' := (wd P0 (f, g, nI i) P2 P3 P4 pl dr ki ow S T F H tt ++ rest)) (As := []) (st := []) (kc' := 0) (ks' := 0) (v := .int 0) C0 d_Rb_needRoom_1 l_Rb_204 rfl rfl (c_full1 hi) rfl rfl rfl (Nat.le_of_ble_eq_true rfl) (Nat.le_of_ble_eq_true rfl) (Nat.le_of_ble_eq_true rfl) (Nat.le_of_ble_eq_true rfl) (Nat.le_of_ble_eq_true rfl) (Nat.le_of_ble_eq_true rfl) ?_
  refine xs_if_eq (tgt := 17) C0 d_Rb_needRoom_4 (by decide) (fun _ => ?_) (fun c9 => absurd rfl c9)
  exact xs_vret C0 d_Rb_needRoom_17 (⟨rfl, rfl⟩) (Nat.le_of_ble_eq_true rfl) (Nat.le_of_ble_eq_true rfl)
set_option maxHeartbeats 4000000 in
set_option maxRecDepth 100000 in
theorem c_nrT1 {P0 P2 P3 P4 : wt_P} {pl dr ki ow : Nat → Int32} {S T : wt_S} {F : wt_F} {H : wt_H} {tt : Int32} {rest : xm_O} {f g : Nat → Int32} {i : Nat} (hi : 64 ≤ i) (hi2 : i < 2 ^ 31) : xm_M y_Rb_needRoom (Cond.code y_Rb_needRoom b_Rb_needRoom 1 none) (xm_rm 6 1 6) [.ref 5] (wd P0 (f, g, nI i) P2 P3 P4 pl dr ki ow S T F H tt ++ rest) (xm_eq (.inr "java/lang/IllegalStateException") (wd P0 (f, g, nI i) P2 P3 P4 pl dr ki ow S T F H tt ++ rest)) := by
  refine xm_of (by decide) (Nat.le_of_ble_eq_true rfl) (fun E C0 => ?_)
  refine xs_eq (lv' := [(0, .ref 5)]) rfl rfl rfl ?_
  refine xs_aload_n C0 d_Rb_needRoom_0 rfl 0 rfl ?_
  refine xs_cV1 (ω' := (wd P0 (f, g, nI i) P2 P3 P4 pl dr ki ow S T F H tt ++ rest)) (As := []) (st := []) (kc' := 0) (ks' := 0) (v := .int 1) C0 d_Rb_needRoom_1 l_Rb_204 rfl rfl (c_fullT1 hi hi2) rfl rfl rfl (Nat.le_of_ble_eq_true rfl) (Nat.le_of_ble_eq_true rfl) (Nat.le_of_ble_eq_true rfl) (Nat.le_of_ble_eq_true rfl) (Nat.le_of_ble_eq_true rfl) (Nat.le_of_ble_eq_true rfl) ?_
  refine xs_if_eq (tgt := 17) C0 d_Rb_needRoom_4 (by decide) (fun c9 => absurd c9 (by decide)) (fun _ => ?_)
  exact xs_throw (cls := "java/lang/IllegalStateException") (names := xm_up) C0 k_412 k_413 k_13 k_421 ta_ISE (by decide +kernel) (by decide +kernel) d_Rb_needRoom_7 d_Rb_needRoom_10 d_Rb_needRoom_11 d_Rb_needRoom_13 d_Rb_needRoom_16 (Nat.le_of_ble_eq_true rfl) (Nat.le_of_ble_eq_true rfl) (Nat.le_of_ble_eq_true rfl) (Nat.le_of_ble_eq_true rfl) ⟨rfl, rfl⟩
set_option maxHeartbeats 4000000 in
set_option maxRecDepth 100000 in
theorem c_full2 {P0 P1 P3 P4 : wt_P} {pl dr ki ow : Nat → Int32} {S T : wt_S} {F : wt_F} {H : wt_H} {tt : Int32} {rest : xm_O} {f g : Nat → Int32} {i : Nat} (hi : i < 12) : xm_M y_Pa_isFull (Cond.code y_Pa_isFull b_Pa_isFull 1 (some .boolean)) (xm_rm 0 0 0) [.ref 8] (wd P0 P1 (f, g, nI i) P3 P4 pl dr ki ow S T F H tt ++ rest) (xm_eq (.inl (some (.int 0))) (wd P0 P1 (f, g, nI i) P3 P4 pl dr ki ow S T F H tt ++ rest)) := by
  refine xm_of (by decide) (Nat.le_of_ble_eq_true rfl) (fun E C0 => ?_)
  refine xs_eq (lv' := [(0, .ref 8)]) rfl rfl rfl ?_
  refine xs_aload_n C0 d_Pa_isFull_0 rfl 0 rfl ?_
  refine xs_get (q := 8) (v := .int (nI i)) C0 f_Pa_16 d_Pa_isFull_1 rfl rfl ?_
  refine xs_aload_n C0 d_Pa_isFull_4 rfl 0 rfl ?_
  refine xs_get (q := 8) (v := .ref 9) C0 f_Pa_7 d_Pa_isFull_5 rfl rfl ?_
  refine xs_alen (v := 12) C0 d_Pa_isFull_8 rfl (by decide) rfl ?_
  refine xs_bi_lt (u := 1) (v := 0) (tgt := 16) (J := 17) C0 d_Pa_isFull_9 (by decide) d_Pa_isFull_12 (by decide) d_Pa_isFull_13 (by decide) d_Pa_isFull_16 (by decide) rfl ?_
  exact xs_zret C0 d_Pa_isFull_17 xm_b01 (⟨by rw [if_neg (fun h9 => h9 (show nI i < 12 from nI_lt (b := 12) hi (by decide)))], rfl⟩) (Nat.le_of_ble_eq_true rfl) (Nat.le_of_ble_eq_true rfl)
set_option maxHeartbeats 4000000 in
set_option maxRecDepth 100000 in
theorem c_fullT2 {P0 P1 P3 P4 : wt_P} {pl dr ki ow : Nat → Int32} {S T : wt_S} {F : wt_F} {H : wt_H} {tt : Int32} {rest : xm_O} {f g : Nat → Int32} {i : Nat} (hi : 12 ≤ i) (hi2 : i < 2 ^ 31) : xm_M y_Pa_isFull (Cond.code y_Pa_isFull b_Pa_isFull 1 (some .boolean)) (xm_rm 0 0 0) [.ref 8] (wd P0 P1 (f, g, nI i) P3 P4 pl dr ki ow S T F H tt ++ rest) (xm_eq (.inl (some (.int 1))) (wd P0 P1 (f, g, nI i) P3 P4 pl dr ki ow S T F H tt ++ rest)) := by
  refine xm_of (by decide) (Nat.le_of_ble_eq_true rfl) (fun E C0 => ?_)
  refine xs_eq (lv' := [(0, .ref 8)]) rfl rfl rfl ?_
  refine xs_aload_n C0 d_Pa_isFull_0 rfl 0 rfl ?_
  refine xs_get (q := 8) (v := .int (nI i)) C0 f_Pa_16 d_Pa_isFull_1 rfl rfl ?_
  refine xs_aload_n C0 d_Pa_isFull_4 rfl 0 rfl ?_
  refine xs_get (q := 8) (v := .ref 9) C0 f_Pa_7 d_Pa_isFull_5 rfl rfl ?_
  refine xs_alen (v := 12) C0 d_Pa_isFull_8 rfl (by decide) rfl ?_
  refine xs_bi_lt (u := 1) (v := 0) (tgt := 16) (J := 17) C0 d_Pa_isFull_9 (by decide) d_Pa_isFull_12 (by decide) d_Pa_isFull_13 (by decide) d_Pa_isFull_16 (by decide) rfl ?_
  exact xs_zret C0 d_Pa_isFull_17 xm_b01 (⟨by rw [if_pos (show ¬ nI i < 12 from nI_nlt (b := 12) hi hi2)], rfl⟩) (Nat.le_of_ble_eq_true rfl) (Nat.le_of_ble_eq_true rfl)
set_option maxHeartbeats 4000000 in
set_option maxRecDepth 100000 in
theorem c_add2 {P0 P1 P3 P4 : wt_P} {pl dr ki ow : Nat → Int32} {S T : wt_S} {F : wt_F} {H : wt_H} {tt : Int32} {rest : xm_O} {f g : Nat → Int32} {i : Nat} {a b : Int32} (hi : i < 12) : xm_M y_Pa_add (Cond.code y_Pa_add b_Pa_add 3 (some .int)) (xm_rm 0 0 0) [.ref 8, .int a, .int b] (wd P0 P1 (f, g, nI i) P3 P4 pl dr ki ow S T F H tt ++ rest) (xm_eq (.inl (some (.int (nI i)))) (wd P0 P1 (upd f i a, upd g i b, nI (i + 1)) P3 P4 pl dr ki ow S T F H tt ++ rest)) := by
  refine xm_of (by decide) (Nat.le_of_ble_eq_true rfl) (fun E C0 => ?_)
  refine xs_eq (lv' := [(0, .ref 8), (1, .int a), (2, .int b)]) rfl rfl rfl ?_
  refine xs_aload_n C0 d_Pa_add_0 rfl 0 rfl ?_
  refine xs_get (q := 8) (v := .ref 9) C0 f_Pa_7 d_Pa_add_1 rfl rfl ?_
  refine xs_aload_n C0 d_Pa_add_4 rfl 0 rfl ?_
  refine xs_get (q := 8) (v := .int (nI i)) C0 f_Pa_16 d_Pa_add_5 rfl rfl ?_
  refine xs_iload_n C0 d_Pa_add_8 rfl 1 rfl ?_
  refine xs_iast (ω' := (wd P0 P1 (upd f (nI i).toNatClampNeg a, g, nI i) P3 P4 pl dr ki ow S T F H tt ++ rest)) C0 d_Pa_add_9 rfl (vp_in_nI hi (by decide)) rfl ?_
  refine xs_world (ω' := (wd P0 P1 (upd f i a, g, nI i) P3 P4 pl dr ki ow S T F H tt ++ rest)) (by rw [nI_clamp (by omega)]) ?_
  refine xs_aload_n C0 d_Pa_add_10 rfl 0 rfl ?_
  refine xs_get (q := 8) (v := .ref 10) C0 f_Pa_13 d_Pa_add_11 rfl rfl ?_
  refine xs_aload_n C0 d_Pa_add_14 rfl 0 rfl ?_
  refine xs_get (q := 8) (v := .int (nI i)) C0 f_Pa_16 d_Pa_add_15 rfl rfl ?_
  refine xs_iload_n C0 d_Pa_add_18 rfl 2 rfl ?_
  refine xs_iast (ω' := (wd P0 P1 (upd f i a, upd g (nI i).toNatClampNeg b, nI i) P3 P4 pl dr ki ow S T F H tt ++ rest)) C0 d_Pa_add_19 rfl (vp_in_nI hi (by decide)) rfl ?_
  refine xs_world (ω' := (wd P0 P1 (upd f i a, upd g i b, nI i) P3 P4 pl dr ki ow S T F H tt ++ rest)) (by rw [nI_clamp (by omega)]) ?_
  refine xs_pc (pc' := 20) rfl ?_
  refine xs_aload_n C0 d_Pa_add_20 rfl 0 rfl ?_
  refine xs_dup C0 d_Pa_add_21 rfl ?_
  refine xs_get (q := 8) (v := .int (nI i)) C0 f_Pa_16 d_Pa_add_22 rfl rfl ?_
  refine xs_iconst (v := 1) C0 d_Pa_add_25 (by decide) ?_
  refine xs_iadd C0 d_Pa_add_26 ?_
  refine xs_top (v' := .int (nI (i + 1))) (by rw [nI_1]) ?_
  refine xs_put (ω' := (wd P0 P1 (upd f i a, upd g i b, (nI (i + 1))) P3 P4 pl dr ki ow S T F H tt ++ rest)) C0 f_Pa_16 ty_Pa_2 d_Pa_add_27 rfl (Nat.le_of_ble_eq_true rfl) (fun _ => ⟨rfl, rfl⟩) rfl ?_
  refine xs_aload_n C0 d_Pa_add_30 rfl 0 rfl ?_
  refine xs_get (q := 8) (v := .int (nI (i + 1))) C0 f_Pa_16 d_Pa_add_31 rfl rfl ?_
  refine xs_iconst (v := 1) C0 d_Pa_add_34 (by decide) ?_
  refine xs_isub C0 d_Pa_add_35 ?_
  refine xs_top (v' := .int (nI i)) (by rw [nI_pred]) ?_
  exact xs_iret C0 d_Pa_add_36 (⟨rfl, rfl⟩) (Nat.le_of_ble_eq_true rfl) (Nat.le_of_ble_eq_true rfl)
set_option maxHeartbeats 4000000 in
set_option maxRecDepth 100000 in
theorem c_np2 {P0 P1 P3 P4 : wt_P} {pl dr ki ow : Nat → Int32} {S T : wt_S} {F : wt_F} {H : wt_H} {tt : Int32} {rest : xm_O} {f g : Nat → Int32} {i : Nat} {x : Int32} (h : gw x 0 (nI i - 1)) : xm_M y_Rb_needPart (Cond.code y_Rb_needPart b_Rb_needPart 2 none) (xm_rm 1 0 0) [.ref 8, .int x] (wd P0 P1 (f, g, nI i) P3 P4 pl dr ki ow S T F H tt ++ rest) (xm_eq (.inl none) (wd P0 P1 (f, g, nI i) P3 P4 pl dr ki ow S T F H tt ++ rest)) := by
  refine xm_of (by decide) (Nat.le_of_ble_eq_true rfl) (fun E C0 => ?_)
  refine xs_eq (lv' := [(0, .ref 8), (1, .int x)]) rfl rfl rfl ?_
  refine xs_iload_n C0 d_Rb_needPart_0 rfl 1 rfl ?_
  refine xs_iconst (v := 0) C0 d_Rb_needPart_1 (by decide) ?_
  refine xs_aload_n C0 d_Rb_needPart_2 rfl 0 rfl ?_
  refine xs_get (q := 8) (v := .int (nI i)) C0 f_Rb_101 d_Rb_needPart_3 rfl rfl ?_
  refine xs_iconst (v := 1) C0 d_Rb_needPart_6 (by decide) ?_
  refine xs_isub C0 d_Rb_needPart_7 ?_
  refine xs_cS0 (ω' := (wd P0 P1 (f, g, nI i) P3 P4 pl dr ki ow S T F H tt ++ rest)) (av := [.int x, .int 0, .int ((nI i) - 1)]) (st := []) (kc' := 0) (ks' := 0) C0 d_Rb_needPart_8 l_Rb_70 (c_nw _ x 0 ((nI i) - 1) h) rfl rfl rfl (Nat.le_of_ble_eq_true rfl) (Nat.le_of_ble_eq_true rfl) (Nat.le_of_ble_eq_true rfl) (Nat.le_of_ble_eq_true rfl) (Nat.le_of_ble_eq_true rfl) (Nat.le_of_ble_eq_true rfl) ?_
  exact xs_vret C0 d_Rb_needPart_11 (⟨rfl, rfl⟩) (Nat.le_of_ble_eq_true rfl) (Nat.le_of_ble_eq_true rfl)
set_option maxHeartbeats 4000000 in
set_option maxRecDepth 100000 in
theorem c_npT2 {P0 P1 P3 P4 : wt_P} {pl dr ki ow : Nat → Int32} {S T : wt_S} {F : wt_F} {H : wt_H} {tt : Int32} {rest : xm_O} {f g : Nat → Int32} {i : Nat} {x : Int32} (h : ¬ gw x 0 (nI i - 1)) : xm_M y_Rb_needPart (Cond.code y_Rb_needPart b_Rb_needPart 2 none) (xm_rm 7 1 6) [.ref 8, .int x] (wd P0 P1 (f, g, nI i) P3 P4 pl dr ki ow S T F H tt ++ rest) (xm_eq (.inr "java/lang/IllegalArgumentException") (wd P0 P1 (f, g, nI i) P3 P4 pl dr ki ow S T F H tt ++ rest)) := by
  refine xm_of (by decide) (Nat.le_of_ble_eq_true rfl) (fun E C0 => ?_)
  refine xs_eq (lv' := [(0, .ref 8), (1, .int x)]) rfl rfl rfl ?_
  refine xs_iload_n C0 d_Rb_needPart_0 rfl 1 rfl ?_
  refine xs_iconst (v := 0) C0 d_Rb_needPart_1 (by decide) ?_
  refine xs_aload_n C0 d_Rb_needPart_2 rfl 0 rfl ?_
  refine xs_get (q := 8) (v := .int (nI i)) C0 f_Rb_101 d_Rb_needPart_3 rfl rfl ?_
  refine xs_iconst (v := 1) C0 d_Rb_needPart_6 (by decide) ?_
  refine xs_isub C0 d_Rb_needPart_7 ?_
  exact xs_cST (av := [.int x, .int 0, .int ((nI i) - 1)]) (st := []) C0 d_Rb_needPart_8 l_Rb_70 (c_nwT _ x 0 ((nI i) - 1) h) rfl rfl rfl (Nat.le_of_ble_eq_true rfl) (Nat.le_of_ble_eq_true rfl) (Nat.le_of_ble_eq_true rfl) (Nat.le_of_ble_eq_true rfl) (xt_leave C0 ⟨rfl, rfl⟩ (Nat.le_of_ble_eq_true rfl) (Nat.le_of_ble_eq_true rfl))
set_option maxHeartbeats 4000000 in
set_option maxRecDepth 100000 in
theorem c_nr2 {P0 P1 P3 P4 : wt_P} {pl dr ki ow : Nat → Int32} {S T : wt_S} {F : wt_F} {H : wt_H} {tt : Int32} {rest : xm_O} {f g : Nat → Int32} {i : Nat} (hi : i < 12) : xm_M y_Rb_needRoom (Cond.code y_Rb_needRoom b_Rb_needRoom 1 none) (xm_rm 1 0 0) [.ref 8] (wd P0 P1 (f, g, nI i) P3 P4 pl dr ki ow S T F H tt ++ rest) (xm_eq (.inl none) (wd P0 P1 (f, g, nI i) P3 P4 pl dr ki ow S T F H tt ++ rest)) := by
  refine xm_of (by decide) (Nat.le_of_ble_eq_true rfl) (fun E C0 => ?_)
  refine xs_eq (lv' := [(0, .ref 8)]) rfl rfl rfl ?_
  refine xs_aload_n C0 d_Rb_needRoom_0 rfl 0 rfl ?_
  refine xs_cV1 (ω' := (wd P0 P1 (f, g, nI i) P3 P4 pl dr ki ow S T F H tt ++ rest)) (As := []) (st := []) (kc' := 0) (ks' := 0) (v := .int 0) C0 d_Rb_needRoom_1 l_Rb_204 rfl rfl (c_full2 hi) rfl rfl rfl (Nat.le_of_ble_eq_true rfl) (Nat.le_of_ble_eq_true rfl) (Nat.le_of_ble_eq_true rfl) (Nat.le_of_ble_eq_true rfl) (Nat.le_of_ble_eq_true rfl) (Nat.le_of_ble_eq_true rfl) ?_
  refine xs_if_eq (tgt := 17) C0 d_Rb_needRoom_4 (by decide) (fun _ => ?_) (fun c9 => absurd rfl c9)
  exact xs_vret C0 d_Rb_needRoom_17 (⟨rfl, rfl⟩) (Nat.le_of_ble_eq_true rfl) (Nat.le_of_ble_eq_true rfl)
set_option maxHeartbeats 4000000 in
set_option maxRecDepth 100000 in
theorem c_nrT2 {P0 P1 P3 P4 : wt_P} {pl dr ki ow : Nat → Int32} {S T : wt_S} {F : wt_F} {H : wt_H} {tt : Int32} {rest : xm_O} {f g : Nat → Int32} {i : Nat} (hi : 12 ≤ i) (hi2 : i < 2 ^ 31) : xm_M y_Rb_needRoom (Cond.code y_Rb_needRoom b_Rb_needRoom 1 none) (xm_rm 6 1 6) [.ref 8] (wd P0 P1 (f, g, nI i) P3 P4 pl dr ki ow S T F H tt ++ rest) (xm_eq (.inr "java/lang/IllegalStateException") (wd P0 P1 (f, g, nI i) P3 P4 pl dr ki ow S T F H tt ++ rest)) := by
  refine xm_of (by decide) (Nat.le_of_ble_eq_true rfl) (fun E C0 => ?_)
  refine xs_eq (lv' := [(0, .ref 8)]) rfl rfl rfl ?_
  refine xs_aload_n C0 d_Rb_needRoom_0 rfl 0 rfl ?_
  refine xs_cV1 (ω' := (wd P0 P1 (f, g, nI i) P3 P4 pl dr ki ow S T F H tt ++ rest)) (As := []) (st := []) (kc' := 0) (ks' := 0) (v := .int 1) C0 d_Rb_needRoom_1 l_Rb_204 rfl rfl (c_fullT2 hi hi2) rfl rfl rfl (Nat.le_of_ble_eq_true rfl) (Nat.le_of_ble_eq_true rfl) (Nat.le_of_ble_eq_true rfl) (Nat.le_of_ble_eq_true rfl) (Nat.le_of_ble_eq_true rfl) (Nat.le_of_ble_eq_true rfl) ?_
  refine xs_if_eq (tgt := 17) C0 d_Rb_needRoom_4 (by decide) (fun c9 => absurd c9 (by decide)) (fun _ => ?_)
  exact xs_throw (cls := "java/lang/IllegalStateException") (names := xm_up) C0 k_412 k_413 k_13 k_421 ta_ISE (by decide +kernel) (by decide +kernel) d_Rb_needRoom_7 d_Rb_needRoom_10 d_Rb_needRoom_11 d_Rb_needRoom_13 d_Rb_needRoom_16 (Nat.le_of_ble_eq_true rfl) (Nat.le_of_ble_eq_true rfl) (Nat.le_of_ble_eq_true rfl) (Nat.le_of_ble_eq_true rfl) ⟨rfl, rfl⟩
set_option maxHeartbeats 4000000 in
set_option maxRecDepth 100000 in
theorem c_full3 {P0 P1 P2 P4 : wt_P} {pl dr ki ow : Nat → Int32} {S T : wt_S} {F : wt_F} {H : wt_H} {tt : Int32} {rest : xm_O} {f g : Nat → Int32} {i : Nat} (hi : i < 24) : xm_M y_Pa_isFull (Cond.code y_Pa_isFull b_Pa_isFull 1 (some .boolean)) (xm_rm 0 0 0) [.ref 11] (wd P0 P1 P2 (f, g, nI i) P4 pl dr ki ow S T F H tt ++ rest) (xm_eq (.inl (some (.int 0))) (wd P0 P1 P2 (f, g, nI i) P4 pl dr ki ow S T F H tt ++ rest)) := by
  refine xm_of (by decide) (Nat.le_of_ble_eq_true rfl) (fun E C0 => ?_)
  refine xs_eq (lv' := [(0, .ref 11)]) rfl rfl rfl ?_
  refine xs_aload_n C0 d_Pa_isFull_0 rfl 0 rfl ?_
  refine xs_get (q := 11) (v := .int (nI i)) C0 f_Pa_16 d_Pa_isFull_1 rfl rfl ?_
  refine xs_aload_n C0 d_Pa_isFull_4 rfl 0 rfl ?_
  refine xs_get (q := 11) (v := .ref 12) C0 f_Pa_7 d_Pa_isFull_5 rfl rfl ?_
  refine xs_alen (v := 24) C0 d_Pa_isFull_8 rfl (by decide) rfl ?_
  refine xs_bi_lt (u := 1) (v := 0) (tgt := 16) (J := 17) C0 d_Pa_isFull_9 (by decide) d_Pa_isFull_12 (by decide) d_Pa_isFull_13 (by decide) d_Pa_isFull_16 (by decide) rfl ?_
  exact xs_zret C0 d_Pa_isFull_17 xm_b01 (⟨by rw [if_neg (fun h9 => h9 (show nI i < 24 from nI_lt (b := 24) hi (by decide)))], rfl⟩) (Nat.le_of_ble_eq_true rfl) (Nat.le_of_ble_eq_true rfl)
set_option maxHeartbeats 4000000 in
set_option maxRecDepth 100000 in
theorem c_fullT3 {P0 P1 P2 P4 : wt_P} {pl dr ki ow : Nat → Int32} {S T : wt_S} {F : wt_F} {H : wt_H} {tt : Int32} {rest : xm_O} {f g : Nat → Int32} {i : Nat} (hi : 24 ≤ i) (hi2 : i < 2 ^ 31) : xm_M y_Pa_isFull (Cond.code y_Pa_isFull b_Pa_isFull 1 (some .boolean)) (xm_rm 0 0 0) [.ref 11] (wd P0 P1 P2 (f, g, nI i) P4 pl dr ki ow S T F H tt ++ rest) (xm_eq (.inl (some (.int 1))) (wd P0 P1 P2 (f, g, nI i) P4 pl dr ki ow S T F H tt ++ rest)) := by
  refine xm_of (by decide) (Nat.le_of_ble_eq_true rfl) (fun E C0 => ?_)
  refine xs_eq (lv' := [(0, .ref 11)]) rfl rfl rfl ?_
  refine xs_aload_n C0 d_Pa_isFull_0 rfl 0 rfl ?_
  refine xs_get (q := 11) (v := .int (nI i)) C0 f_Pa_16 d_Pa_isFull_1 rfl rfl ?_
  refine xs_aload_n C0 d_Pa_isFull_4 rfl 0 rfl ?_
  refine xs_get (q := 11) (v := .ref 12) C0 f_Pa_7 d_Pa_isFull_5 rfl rfl ?_
  refine xs_alen (v := 24) C0 d_Pa_isFull_8 rfl (by decide) rfl ?_
  refine xs_bi_lt (u := 1) (v := 0) (tgt := 16) (J := 17) C0 d_Pa_isFull_9 (by decide) d_Pa_isFull_12 (by decide) d_Pa_isFull_13 (by decide) d_Pa_isFull_16 (by decide) rfl ?_
  exact xs_zret C0 d_Pa_isFull_17 xm_b01 (⟨by rw [if_pos (show ¬ nI i < 24 from nI_nlt (b := 24) hi hi2)], rfl⟩) (Nat.le_of_ble_eq_true rfl) (Nat.le_of_ble_eq_true rfl)
set_option maxHeartbeats 4000000 in
set_option maxRecDepth 100000 in
theorem c_add3 {P0 P1 P2 P4 : wt_P} {pl dr ki ow : Nat → Int32} {S T : wt_S} {F : wt_F} {H : wt_H} {tt : Int32} {rest : xm_O} {f g : Nat → Int32} {i : Nat} {a b : Int32} (hi : i < 24) : xm_M y_Pa_add (Cond.code y_Pa_add b_Pa_add 3 (some .int)) (xm_rm 0 0 0) [.ref 11, .int a, .int b] (wd P0 P1 P2 (f, g, nI i) P4 pl dr ki ow S T F H tt ++ rest) (xm_eq (.inl (some (.int (nI i)))) (wd P0 P1 P2 (upd f i a, upd g i b, nI (i + 1)) P4 pl dr ki ow S T F H tt ++ rest)) := by
  refine xm_of (by decide) (Nat.le_of_ble_eq_true rfl) (fun E C0 => ?_)
  refine xs_eq (lv' := [(0, .ref 11), (1, .int a), (2, .int b)]) rfl rfl rfl ?_
  refine xs_aload_n C0 d_Pa_add_0 rfl 0 rfl ?_
  refine xs_get (q := 11) (v := .ref 12) C0 f_Pa_7 d_Pa_add_1 rfl rfl ?_
  refine xs_aload_n C0 d_Pa_add_4 rfl 0 rfl ?_
  refine xs_get (q := 11) (v := .int (nI i)) C0 f_Pa_16 d_Pa_add_5 rfl rfl ?_
  refine xs_iload_n C0 d_Pa_add_8 rfl 1 rfl ?_
  refine xs_iast (ω' := (wd P0 P1 P2 (upd f (nI i).toNatClampNeg a, g, nI i) P4 pl dr ki ow S T F H tt ++ rest)) C0 d_Pa_add_9 rfl (vp_in_nI hi (by decide)) rfl ?_
  refine xs_world (ω' := (wd P0 P1 P2 (upd f i a, g, nI i) P4 pl dr ki ow S T F H tt ++ rest)) (by rw [nI_clamp (by omega)]) ?_
  refine xs_aload_n C0 d_Pa_add_10 rfl 0 rfl ?_
  refine xs_get (q := 11) (v := .ref 13) C0 f_Pa_13 d_Pa_add_11 rfl rfl ?_
  refine xs_aload_n C0 d_Pa_add_14 rfl 0 rfl ?_
  refine xs_get (q := 11) (v := .int (nI i)) C0 f_Pa_16 d_Pa_add_15 rfl rfl ?_
  refine xs_iload_n C0 d_Pa_add_18 rfl 2 rfl ?_
  refine xs_iast (ω' := (wd P0 P1 P2 (upd f i a, upd g (nI i).toNatClampNeg b, nI i) P4 pl dr ki ow S T F H tt ++ rest)) C0 d_Pa_add_19 rfl (vp_in_nI hi (by decide)) rfl ?_
  refine xs_world (ω' := (wd P0 P1 P2 (upd f i a, upd g i b, nI i) P4 pl dr ki ow S T F H tt ++ rest)) (by rw [nI_clamp (by omega)]) ?_
  refine xs_pc (pc' := 20) rfl ?_
  refine xs_aload_n C0 d_Pa_add_20 rfl 0 rfl ?_
  refine xs_dup C0 d_Pa_add_21 rfl ?_
  refine xs_get (q := 11) (v := .int (nI i)) C0 f_Pa_16 d_Pa_add_22 rfl rfl ?_
  refine xs_iconst (v := 1) C0 d_Pa_add_25 (by decide) ?_
  refine xs_iadd C0 d_Pa_add_26 ?_
  refine xs_top (v' := .int (nI (i + 1))) (by rw [nI_1]) ?_
  refine xs_put (ω' := (wd P0 P1 P2 (upd f i a, upd g i b, (nI (i + 1))) P4 pl dr ki ow S T F H tt ++ rest)) C0 f_Pa_16 ty_Pa_2 d_Pa_add_27 rfl (Nat.le_of_ble_eq_true rfl) (fun _ => ⟨rfl, rfl⟩) rfl ?_
  refine xs_aload_n C0 d_Pa_add_30 rfl 0 rfl ?_
  refine xs_get (q := 11) (v := .int (nI (i + 1))) C0 f_Pa_16 d_Pa_add_31 rfl rfl ?_
  refine xs_iconst (v := 1) C0 d_Pa_add_34 (by decide) ?_
  refine xs_isub C0 d_Pa_add_35 ?_
  refine xs_top (v' := .int (nI i)) (by rw [nI_pred]) ?_
  exact xs_iret C0 d_Pa_add_36 (⟨rfl, rfl⟩) (Nat.le_of_ble_eq_true rfl) (Nat.le_of_ble_eq_true rfl)
set_option maxHeartbeats 4000000 in
set_option maxRecDepth 100000 in
theorem c_nr3 {P0 P1 P2 P4 : wt_P} {pl dr ki ow : Nat → Int32} {S T : wt_S} {F : wt_F} {H : wt_H} {tt : Int32} {rest : xm_O} {f g : Nat → Int32} {i : Nat} (hi : i < 24) : xm_M y_Rb_needRoom (Cond.code y_Rb_needRoom b_Rb_needRoom 1 none) (xm_rm 1 0 0) [.ref 11] (wd P0 P1 P2 (f, g, nI i) P4 pl dr ki ow S T F H tt ++ rest) (xm_eq (.inl none) (wd P0 P1 P2 (f, g, nI i) P4 pl dr ki ow S T F H tt ++ rest)) := by
  refine xm_of (by decide) (Nat.le_of_ble_eq_true rfl) (fun E C0 => ?_)
  refine xs_eq (lv' := [(0, .ref 11)]) rfl rfl rfl ?_
  refine xs_aload_n C0 d_Rb_needRoom_0 rfl 0 rfl ?_
  refine xs_cV1 (ω' := (wd P0 P1 P2 (f, g, nI i) P4 pl dr ki ow S T F H tt ++ rest)) (As := []) (st := []) (kc' := 0) (ks' := 0) (v := .int 0) C0 d_Rb_needRoom_1 l_Rb_204 rfl rfl (c_full3 hi) rfl rfl rfl (Nat.le_of_ble_eq_true rfl) (Nat.le_of_ble_eq_true rfl) (Nat.le_of_ble_eq_true rfl) (Nat.le_of_ble_eq_true rfl) (Nat.le_of_ble_eq_true rfl) (Nat.le_of_ble_eq_true rfl) ?_
  refine xs_if_eq (tgt := 17) C0 d_Rb_needRoom_4 (by decide) (fun _ => ?_) (fun c9 => absurd rfl c9)
  exact xs_vret C0 d_Rb_needRoom_17 (⟨rfl, rfl⟩) (Nat.le_of_ble_eq_true rfl) (Nat.le_of_ble_eq_true rfl)
set_option maxHeartbeats 4000000 in
set_option maxRecDepth 100000 in
theorem c_nrT3 {P0 P1 P2 P4 : wt_P} {pl dr ki ow : Nat → Int32} {S T : wt_S} {F : wt_F} {H : wt_H} {tt : Int32} {rest : xm_O} {f g : Nat → Int32} {i : Nat} (hi : 24 ≤ i) (hi2 : i < 2 ^ 31) : xm_M y_Rb_needRoom (Cond.code y_Rb_needRoom b_Rb_needRoom 1 none) (xm_rm 6 1 6) [.ref 11] (wd P0 P1 P2 (f, g, nI i) P4 pl dr ki ow S T F H tt ++ rest) (xm_eq (.inr "java/lang/IllegalStateException") (wd P0 P1 P2 (f, g, nI i) P4 pl dr ki ow S T F H tt ++ rest)) := by
  refine xm_of (by decide) (Nat.le_of_ble_eq_true rfl) (fun E C0 => ?_)
  refine xs_eq (lv' := [(0, .ref 11)]) rfl rfl rfl ?_
  refine xs_aload_n C0 d_Rb_needRoom_0 rfl 0 rfl ?_
  refine xs_cV1 (ω' := (wd P0 P1 P2 (f, g, nI i) P4 pl dr ki ow S T F H tt ++ rest)) (As := []) (st := []) (kc' := 0) (ks' := 0) (v := .int 1) C0 d_Rb_needRoom_1 l_Rb_204 rfl rfl (c_fullT3 hi hi2) rfl rfl rfl (Nat.le_of_ble_eq_true rfl) (Nat.le_of_ble_eq_true rfl) (Nat.le_of_ble_eq_true rfl) (Nat.le_of_ble_eq_true rfl) (Nat.le_of_ble_eq_true rfl) (Nat.le_of_ble_eq_true rfl) ?_
  refine xs_if_eq (tgt := 17) C0 d_Rb_needRoom_4 (by decide) (fun c9 => absurd c9 (by decide)) (fun _ => ?_)
  exact xs_throw (cls := "java/lang/IllegalStateException") (names := xm_up) C0 k_412 k_413 k_13 k_421 ta_ISE (by decide +kernel) (by decide +kernel) d_Rb_needRoom_7 d_Rb_needRoom_10 d_Rb_needRoom_11 d_Rb_needRoom_13 d_Rb_needRoom_16 (Nat.le_of_ble_eq_true rfl) (Nat.le_of_ble_eq_true rfl) (Nat.le_of_ble_eq_true rfl) (Nat.le_of_ble_eq_true rfl) ⟨rfl, rfl⟩
set_option maxHeartbeats 4000000 in
set_option maxRecDepth 100000 in
theorem c_full4 {P0 P1 P2 P3 : wt_P} {pl dr ki ow : Nat → Int32} {S T : wt_S} {F : wt_F} {H : wt_H} {tt : Int32} {rest : xm_O} {f g : Nat → Int32} {i : Nat} (hi : i < 12) : xm_M y_Pa_isFull (Cond.code y_Pa_isFull b_Pa_isFull 1 (some .boolean)) (xm_rm 0 0 0) [.ref 14] (wd P0 P1 P2 P3 (f, g, nI i) pl dr ki ow S T F H tt ++ rest) (xm_eq (.inl (some (.int 0))) (wd P0 P1 P2 P3 (f, g, nI i) pl dr ki ow S T F H tt ++ rest)) := by
  refine xm_of (by decide) (Nat.le_of_ble_eq_true rfl) (fun E C0 => ?_)
  refine xs_eq (lv' := [(0, .ref 14)]) rfl rfl rfl ?_
  refine xs_aload_n C0 d_Pa_isFull_0 rfl 0 rfl ?_
  refine xs_get (q := 14) (v := .int (nI i)) C0 f_Pa_16 d_Pa_isFull_1 rfl rfl ?_
  refine xs_aload_n C0 d_Pa_isFull_4 rfl 0 rfl ?_
  refine xs_get (q := 14) (v := .ref 15) C0 f_Pa_7 d_Pa_isFull_5 rfl rfl ?_
  refine xs_alen (v := 12) C0 d_Pa_isFull_8 rfl (by decide) rfl ?_
  refine xs_bi_lt (u := 1) (v := 0) (tgt := 16) (J := 17) C0 d_Pa_isFull_9 (by decide) d_Pa_isFull_12 (by decide) d_Pa_isFull_13 (by decide) d_Pa_isFull_16 (by decide) rfl ?_
  exact xs_zret C0 d_Pa_isFull_17 xm_b01 (⟨by rw [if_neg (fun h9 => h9 (show nI i < 12 from nI_lt (b := 12) hi (by decide)))], rfl⟩) (Nat.le_of_ble_eq_true rfl) (Nat.le_of_ble_eq_true rfl)
set_option maxHeartbeats 4000000 in
set_option maxRecDepth 100000 in
theorem c_fullT4 {P0 P1 P2 P3 : wt_P} {pl dr ki ow : Nat → Int32} {S T : wt_S} {F : wt_F} {H : wt_H} {tt : Int32} {rest : xm_O} {f g : Nat → Int32} {i : Nat} (hi : 12 ≤ i) (hi2 : i < 2 ^ 31) : xm_M y_Pa_isFull (Cond.code y_Pa_isFull b_Pa_isFull 1 (some .boolean)) (xm_rm 0 0 0) [.ref 14] (wd P0 P1 P2 P3 (f, g, nI i) pl dr ki ow S T F H tt ++ rest) (xm_eq (.inl (some (.int 1))) (wd P0 P1 P2 P3 (f, g, nI i) pl dr ki ow S T F H tt ++ rest)) := by
  refine xm_of (by decide) (Nat.le_of_ble_eq_true rfl) (fun E C0 => ?_)
  refine xs_eq (lv' := [(0, .ref 14)]) rfl rfl rfl ?_
  refine xs_aload_n C0 d_Pa_isFull_0 rfl 0 rfl ?_
  refine xs_get (q := 14) (v := .int (nI i)) C0 f_Pa_16 d_Pa_isFull_1 rfl rfl ?_
  refine xs_aload_n C0 d_Pa_isFull_4 rfl 0 rfl ?_
  refine xs_get (q := 14) (v := .ref 15) C0 f_Pa_7 d_Pa_isFull_5 rfl rfl ?_
  refine xs_alen (v := 12) C0 d_Pa_isFull_8 rfl (by decide) rfl ?_
  refine xs_bi_lt (u := 1) (v := 0) (tgt := 16) (J := 17) C0 d_Pa_isFull_9 (by decide) d_Pa_isFull_12 (by decide) d_Pa_isFull_13 (by decide) d_Pa_isFull_16 (by decide) rfl ?_
  exact xs_zret C0 d_Pa_isFull_17 xm_b01 (⟨by rw [if_pos (show ¬ nI i < 12 from nI_nlt (b := 12) hi hi2)], rfl⟩) (Nat.le_of_ble_eq_true rfl) (Nat.le_of_ble_eq_true rfl)
set_option maxHeartbeats 4000000 in
set_option maxRecDepth 100000 in
theorem c_add4 {P0 P1 P2 P3 : wt_P} {pl dr ki ow : Nat → Int32} {S T : wt_S} {F : wt_F} {H : wt_H} {tt : Int32} {rest : xm_O} {f g : Nat → Int32} {i : Nat} {a b : Int32} (hi : i < 12) : xm_M y_Pa_add (Cond.code y_Pa_add b_Pa_add 3 (some .int)) (xm_rm 0 0 0) [.ref 14, .int a, .int b] (wd P0 P1 P2 P3 (f, g, nI i) pl dr ki ow S T F H tt ++ rest) (xm_eq (.inl (some (.int (nI i)))) (wd P0 P1 P2 P3 (upd f i a, upd g i b, nI (i + 1)) pl dr ki ow S T F H tt ++ rest)) := by
  refine xm_of (by decide) (Nat.le_of_ble_eq_true rfl) (fun E C0 => ?_)
  refine xs_eq (lv' := [(0, .ref 14), (1, .int a), (2, .int b)]) rfl rfl rfl ?_
  refine xs_aload_n C0 d_Pa_add_0 rfl 0 rfl ?_
  refine xs_get (q := 14) (v := .ref 15) C0 f_Pa_7 d_Pa_add_1 rfl rfl ?_
  refine xs_aload_n C0 d_Pa_add_4 rfl 0 rfl ?_
  refine xs_get (q := 14) (v := .int (nI i)) C0 f_Pa_16 d_Pa_add_5 rfl rfl ?_
  refine xs_iload_n C0 d_Pa_add_8 rfl 1 rfl ?_
  refine xs_iast (ω' := (wd P0 P1 P2 P3 (upd f (nI i).toNatClampNeg a, g, nI i) pl dr ki ow S T F H tt ++ rest)) C0 d_Pa_add_9 rfl (vp_in_nI hi (by decide)) rfl ?_
  refine xs_world (ω' := (wd P0 P1 P2 P3 (upd f i a, g, nI i) pl dr ki ow S T F H tt ++ rest)) (by rw [nI_clamp (by omega)]) ?_
  refine xs_aload_n C0 d_Pa_add_10 rfl 0 rfl ?_
  refine xs_get (q := 14) (v := .ref 16) C0 f_Pa_13 d_Pa_add_11 rfl rfl ?_
  refine xs_aload_n C0 d_Pa_add_14 rfl 0 rfl ?_
  refine xs_get (q := 14) (v := .int (nI i)) C0 f_Pa_16 d_Pa_add_15 rfl rfl ?_
  refine xs_iload_n C0 d_Pa_add_18 rfl 2 rfl ?_
  refine xs_iast (ω' := (wd P0 P1 P2 P3 (upd f i a, upd g (nI i).toNatClampNeg b, nI i) pl dr ki ow S T F H tt ++ rest)) C0 d_Pa_add_19 rfl (vp_in_nI hi (by decide)) rfl ?_
  refine xs_world (ω' := (wd P0 P1 P2 P3 (upd f i a, upd g i b, nI i) pl dr ki ow S T F H tt ++ rest)) (by rw [nI_clamp (by omega)]) ?_
  refine xs_pc (pc' := 20) rfl ?_
  refine xs_aload_n C0 d_Pa_add_20 rfl 0 rfl ?_
  refine xs_dup C0 d_Pa_add_21 rfl ?_
  refine xs_get (q := 14) (v := .int (nI i)) C0 f_Pa_16 d_Pa_add_22 rfl rfl ?_
  refine xs_iconst (v := 1) C0 d_Pa_add_25 (by decide) ?_
  refine xs_iadd C0 d_Pa_add_26 ?_
  refine xs_top (v' := .int (nI (i + 1))) (by rw [nI_1]) ?_
  refine xs_put (ω' := (wd P0 P1 P2 P3 (upd f i a, upd g i b, (nI (i + 1))) pl dr ki ow S T F H tt ++ rest)) C0 f_Pa_16 ty_Pa_2 d_Pa_add_27 rfl (Nat.le_of_ble_eq_true rfl) (fun _ => ⟨rfl, rfl⟩) rfl ?_
  refine xs_aload_n C0 d_Pa_add_30 rfl 0 rfl ?_
  refine xs_get (q := 14) (v := .int (nI (i + 1))) C0 f_Pa_16 d_Pa_add_31 rfl rfl ?_
  refine xs_iconst (v := 1) C0 d_Pa_add_34 (by decide) ?_
  refine xs_isub C0 d_Pa_add_35 ?_
  refine xs_top (v' := .int (nI i)) (by rw [nI_pred]) ?_
  exact xs_iret C0 d_Pa_add_36 (⟨rfl, rfl⟩) (Nat.le_of_ble_eq_true rfl) (Nat.le_of_ble_eq_true rfl)
set_option maxHeartbeats 4000000 in
set_option maxRecDepth 100000 in
theorem c_nr4 {P0 P1 P2 P3 : wt_P} {pl dr ki ow : Nat → Int32} {S T : wt_S} {F : wt_F} {H : wt_H} {tt : Int32} {rest : xm_O} {f g : Nat → Int32} {i : Nat} (hi : i < 12) : xm_M y_Rb_needRoom (Cond.code y_Rb_needRoom b_Rb_needRoom 1 none) (xm_rm 1 0 0) [.ref 14] (wd P0 P1 P2 P3 (f, g, nI i) pl dr ki ow S T F H tt ++ rest) (xm_eq (.inl none) (wd P0 P1 P2 P3 (f, g, nI i) pl dr ki ow S T F H tt ++ rest)) := by
  refine xm_of (by decide) (Nat.le_of_ble_eq_true rfl) (fun E C0 => ?_)
  refine xs_eq (lv' := [(0, .ref 14)]) rfl rfl rfl ?_
  refine xs_aload_n C0 d_Rb_needRoom_0 rfl 0 rfl ?_
  refine xs_cV1 (ω' := (wd P0 P1 P2 P3 (f, g, nI i) pl dr ki ow S T F H tt ++ rest)) (As := []) (st := []) (kc' := 0) (ks' := 0) (v := .int 0) C0 d_Rb_needRoom_1 l_Rb_204 rfl rfl (c_full4 hi) rfl rfl rfl (Nat.le_of_ble_eq_true rfl) (Nat.le_of_ble_eq_true rfl) (Nat.le_of_ble_eq_true rfl) (Nat.le_of_ble_eq_true rfl) (Nat.le_of_ble_eq_true rfl) (Nat.le_of_ble_eq_true rfl) ?_
  refine xs_if_eq (tgt := 17) C0 d_Rb_needRoom_4 (by decide) (fun _ => ?_) (fun c9 => absurd rfl c9)
  exact xs_vret C0 d_Rb_needRoom_17 (⟨rfl, rfl⟩) (Nat.le_of_ble_eq_true rfl) (Nat.le_of_ble_eq_true rfl)
set_option maxHeartbeats 4000000 in
set_option maxRecDepth 100000 in
theorem c_nrT4 {P0 P1 P2 P3 : wt_P} {pl dr ki ow : Nat → Int32} {S T : wt_S} {F : wt_F} {H : wt_H} {tt : Int32} {rest : xm_O} {f g : Nat → Int32} {i : Nat} (hi : 12 ≤ i) (hi2 : i < 2 ^ 31) : xm_M y_Rb_needRoom (Cond.code y_Rb_needRoom b_Rb_needRoom 1 none) (xm_rm 6 1 6) [.ref 14] (wd P0 P1 P2 P3 (f, g, nI i) pl dr ki ow S T F H tt ++ rest) (xm_eq (.inr "java/lang/IllegalStateException") (wd P0 P1 P2 P3 (f, g, nI i) pl dr ki ow S T F H tt ++ rest)) := by
  refine xm_of (by decide) (Nat.le_of_ble_eq_true rfl) (fun E C0 => ?_)
  refine xs_eq (lv' := [(0, .ref 14)]) rfl rfl rfl ?_
  refine xs_aload_n C0 d_Rb_needRoom_0 rfl 0 rfl ?_
  refine xs_cV1 (ω' := (wd P0 P1 P2 P3 (f, g, nI i) pl dr ki ow S T F H tt ++ rest)) (As := []) (st := []) (kc' := 0) (ks' := 0) (v := .int 1) C0 d_Rb_needRoom_1 l_Rb_204 rfl rfl (c_fullT4 hi hi2) rfl rfl rfl (Nat.le_of_ble_eq_true rfl) (Nat.le_of_ble_eq_true rfl) (Nat.le_of_ble_eq_true rfl) (Nat.le_of_ble_eq_true rfl) (Nat.le_of_ble_eq_true rfl) (Nat.le_of_ble_eq_true rfl) ?_
  refine xs_if_eq (tgt := 17) C0 d_Rb_needRoom_4 (by decide) (fun c9 => absurd c9 (by decide)) (fun _ => ?_)
  exact xs_throw (cls := "java/lang/IllegalStateException") (names := xm_up) C0 k_412 k_413 k_13 k_421 ta_ISE (by decide +kernel) (by decide +kernel) d_Rb_needRoom_7 d_Rb_needRoom_10 d_Rb_needRoom_11 d_Rb_needRoom_13 d_Rb_needRoom_16 (Nat.le_of_ble_eq_true rfl) (Nat.le_of_ble_eq_true rfl) (Nat.le_of_ble_eq_true rfl) (Nat.le_of_ble_eq_true rfl) ⟨rfl, rfl⟩
set_option maxHeartbeats 4000000 in
set_option maxRecDepth 100000 in
theorem c_addR {P1 P2 P3 P4 : wt_P} {pl dr ki ow : Nat → Int32} {S T : wt_S} {F : wt_F} {H : wt_H} {tt : Int32} {rest : xm_O} {f g : Nat → Int32} {i : Nat} {a b u v : Int32} (hi : i < 16) : xm_M y_Bo_addRelay (Cond.code y_Bo_addRelay b_Bo_addRelay 6 (some .int)) (xm_rm 1 0 0) [.ref 1, .int a, .int b, .int u, .int v] (wd (f, g, nI i) P1 P2 P3 P4 pl dr ki ow S T F H tt ++ rest) (xm_eq (.inl (some (.int (nI i)))) (wd (upd f i a, upd g i b, nI (i + 1)) P1 P2 P3 P4 (upd pl i u) (upd dr i v) ki ow S T F H tt ++ rest)) := by
  refine xm_of (by decide) (Nat.le_of_ble_eq_true rfl) (fun E C0 => ?_)
  refine xs_eq (lv' := [(0, .ref 1), (1, .int a), (2, .int b), (3, .int u), (4, .int v)]) rfl rfl rfl ?_
  refine xs_aload_n C0 d_Bo_addRelay_0 rfl 0 rfl ?_
  refine xs_get (q := 1) (v := .ref 2) C0 f_Bo_14 d_Bo_addRelay_1 rfl rfl ?_
  refine xs_iload_n C0 d_Bo_addRelay_4 rfl 1 rfl ?_
  refine xs_iload_n C0 d_Bo_addRelay_5 rfl 2 rfl ?_
  refine xs_cV1 (ω' := (wd (upd f i a, upd g i b, nI (i + 1)) P1 P2 P3 P4 pl dr ki ow S T F H tt ++ rest)) (As := [.int a, .int b]) (st := []) (kc' := 0) (ks' := 0) (v := .int (nI i)) C0 d_Bo_addRelay_6 l_Bo_45 rfl rfl (c_add0 (by assumption)) rfl rfl rfl (Nat.le_of_ble_eq_true rfl) (Nat.le_of_ble_eq_true rfl) (Nat.le_of_ble_eq_true rfl) (Nat.le_of_ble_eq_true rfl) (Nat.le_of_ble_eq_true rfl) (Nat.le_of_ble_eq_true rfl) ?_
  refine xs_istore (lv' := [(5, .int (nI i)), (0, .ref 1), (1, .int a), (2, .int b), (3, .int u), (4, .int v)]) C0 d_Bo_addRelay_9 (by decide) rfl ?_
  refine xs_aload_n C0 d_Bo_addRelay_11 rfl 1 rfl ?_
  refine xs_get (q := 1) (v := .ref 17) C0 f_Bo_32 d_Bo_addRelay_12 rfl rfl ?_
  refine xs_iload C0 d_Bo_addRelay_15 0 rfl ?_
  refine xs_iload_n C0 d_Bo_addRelay_17 rfl 4 rfl ?_
  refine xs_iast (ω' := (wd (upd f i a, upd g i b, nI (i + 1)) P1 P2 P3 P4 (upd pl (nI i).toNatClampNeg u) dr ki ow S T F H tt ++ rest)) C0 d_Bo_addRelay_18 rfl (vp_in_nI hi (by decide)) rfl ?_
  refine xs_world (ω' := (wd (upd f i a, upd g i b, nI (i + 1)) P1 P2 P3 P4 (upd pl i u) dr ki ow S T F H tt ++ rest)) (by rw [nI_clamp (by omega)]) ?_
  refine xs_aload_n C0 d_Bo_addRelay_19 rfl 1 rfl ?_
  refine xs_pc (pc' := 20) rfl ?_
  refine xs_get (q := 1) (v := .ref 18) C0 f_Bo_36 d_Bo_addRelay_20 rfl rfl ?_
  refine xs_iload C0 d_Bo_addRelay_23 0 rfl ?_
  refine xs_iload C0 d_Bo_addRelay_25 5 rfl ?_
  refine xs_iast (ω' := (wd (upd f i a, upd g i b, nI (i + 1)) P1 P2 P3 P4 (upd pl i u) (upd dr (nI i).toNatClampNeg v) ki ow S T F H tt ++ rest)) C0 d_Bo_addRelay_27 rfl (vp_in_nI hi (by decide)) rfl ?_
  refine xs_world (ω' := (wd (upd f i a, upd g i b, nI (i + 1)) P1 P2 P3 P4 (upd pl i u) (upd dr i v) ki ow S T F H tt ++ rest)) (by rw [nI_clamp (by omega)]) ?_
  refine xs_iload C0 d_Bo_addRelay_28 0 rfl ?_
  exact xs_iret C0 d_Bo_addRelay_30 (⟨rfl, rfl⟩) (Nat.le_of_ble_eq_true rfl) (Nat.le_of_ble_eq_true rfl)
set_option maxHeartbeats 4000000 in
set_option maxRecDepth 100000 in
theorem c_addC {P0 P2 P3 P4 : wt_P} {pl dr ki ow : Nat → Int32} {S T : wt_S} {F : wt_F} {H : wt_H} {tt : Int32} {rest : xm_O} {f g : Nat → Int32} {i : Nat} {a b u v : Int32} (hi : i < 64) : xm_M y_Bo_addContact (Cond.code y_Bo_addContact b_Bo_addContact 6 (some .int)) (xm_rm 1 0 0) [.ref 1, .int u, .int v, .int a, .int b] (wd P0 (f, g, nI i) P2 P3 P4 pl dr ki ow S T F H tt ++ rest) (xm_eq (.inl (some (.int (nI i)))) (wd P0 (upd f i a, upd g i b, nI (i + 1)) P2 P3 P4 pl dr (upd ki i u) (upd ow i (if u = 4 then 0 else v)) S T F H tt ++ rest)) := by
  refine xm_of (by decide) (Nat.le_of_ble_eq_true rfl) (fun E C0 => ?_)
  refine xs_eq (lv' := [(0, .ref 1), (1, .int u), (2, .int v), (3, .int a), (4, .int b)]) rfl rfl rfl ?_
  refine xs_aload_n C0 d_Bo_addContact_0 rfl 0 rfl ?_
  refine xs_get (q := 1) (v := .ref 5) C0 f_Bo_20 d_Bo_addContact_1 rfl rfl ?_
  refine xs_iload_n C0 d_Bo_addContact_4 rfl 3 rfl ?_
  refine xs_iload C0 d_Bo_addContact_5 4 rfl ?_
  refine xs_cV1 (ω' := (wd P0 (upd f i a, upd g i b, nI (i + 1)) P2 P3 P4 pl dr ki ow S T F H tt ++ rest)) (As := [.int a, .int b]) (st := []) (kc' := 0) (ks' := 0) (v := .int (nI i)) C0 d_Bo_addContact_7 l_Bo_45 rfl rfl (c_add1 (by assumption)) rfl rfl rfl (Nat.le_of_ble_eq_true rfl) (Nat.le_of_ble_eq_true rfl) (Nat.le_of_ble_eq_true rfl) (Nat.le_of_ble_eq_true rfl) (Nat.le_of_ble_eq_true rfl) (Nat.le_of_ble_eq_true rfl) ?_
  refine xs_istore (lv' := [(5, .int (nI i)), (0, .ref 1), (1, .int u), (2, .int v), (3, .int a), (4, .int b)]) C0 d_Bo_addContact_10 (by decide) rfl ?_
  refine xs_aload_n C0 d_Bo_addContact_12 rfl 1 rfl ?_
  refine xs_get (q := 1) (v := .ref 19) C0 f_Bo_39 d_Bo_addContact_13 rfl rfl ?_
  refine xs_iload C0 d_Bo_addContact_16 0 rfl ?_
  refine xs_iload_n C0 d_Bo_addContact_18 rfl 2 rfl ?_
  refine xs_iast (ω' := (wd P0 (upd f i a, upd g i b, nI (i + 1)) P2 P3 P4 pl dr (upd ki (nI i).toNatClampNeg u) ow S T F H tt ++ rest)) C0 d_Bo_addContact_19 rfl (vp_in_nI hi (by decide)) rfl ?_
  refine xs_world (ω' := (wd P0 (upd f i a, upd g i b, nI (i + 1)) P2 P3 P4 pl dr (upd ki i u) ow S T F H tt ++ rest)) (by rw [nI_clamp (by omega)]) ?_
  refine xs_aload_n C0 d_Bo_addContact_20 rfl 1 rfl ?_
  refine xs_pc (pc' := 21) rfl ?_
  refine xs_get (q := 1) (v := .ref 20) C0 f_Bo_42 d_Bo_addContact_21 rfl rfl ?_
  refine xs_iload C0 d_Bo_addContact_24 0 rfl ?_
  refine xs_iload_n C0 d_Bo_addContact_26 rfl 2 rfl ?_
  refine xs_iconst (v := 4) C0 d_Bo_addContact_27 (by decide) ?_
  refine xs_icmp_ne (tgt := 35) C0 d_Bo_addContact_28 (by decide) (fun c1 => ?_) (fun c1 => ?_)
  · refine xs_iload_n C0 d_Bo_addContact_35 rfl 3 rfl ?_
    refine xs_iast (ω' := (wd P0 (upd f i a, upd g i b, nI (i + 1)) P2 P3 P4 pl dr (upd ki i u) (upd ow (nI i).toNatClampNeg v) S T F H tt ++ rest)) C0 d_Bo_addContact_36 rfl (vp_in_nI hi (by decide)) rfl ?_
    refine xs_world (ω' := (wd P0 (upd f i a, upd g i b, nI (i + 1)) P2 P3 P4 pl dr (upd ki i u) (upd ow i v) S T F H tt ++ rest)) (by rw [nI_clamp (by omega)]) ?_
    refine xs_iload C0 d_Bo_addContact_37 0 rfl ?_
    exact xs_iret C0 d_Bo_addContact_39 (⟨rfl, by rw [if_neg c1]⟩) (Nat.le_of_ble_eq_true rfl) (Nat.le_of_ble_eq_true rfl)
  · refine xs_iconst (v := 0) C0 d_Bo_addContact_31 (by decide) ?_
    refine xs_goto (tgt := 36) C0 d_Bo_addContact_32 (by decide) ?_
    refine xs_iast (ω' := (wd P0 (upd f i a, upd g i b, nI (i + 1)) P2 P3 P4 pl dr (upd ki i u) (upd ow (nI i).toNatClampNeg 0) S T F H tt ++ rest)) C0 d_Bo_addContact_36 rfl (vp_in_nI hi (by decide)) rfl ?_
    refine xs_world (ω' := (wd P0 (upd f i a, upd g i b, nI (i + 1)) P2 P3 P4 pl dr (upd ki i u) (upd ow i 0) S T F H tt ++ rest)) (by rw [nI_clamp (by omega)]) ?_
    refine xs_iload C0 d_Bo_addContact_37 0 rfl ?_
    exact xs_iret C0 d_Bo_addContact_39 (⟨rfl, by rw [if_pos c1]⟩) (Nat.le_of_ble_eq_true rfl) (Nat.le_of_ble_eq_true rfl)
def f_cc (P1 P2 P3 : wt_P) : Int32 := P1.2.2 + P2.2.2 + P3.2.2
set_option maxHeartbeats 4000000 in
set_option maxRecDepth 100000 in
theorem c_cc {P0 P1 P2 P3 P4 : wt_P} {pl dr ki ow : Nat → Int32} {S T : wt_S} {F : wt_F} {H : wt_H} {tt : Int32} {rest : xm_O} : xm_M y_Bo_countConductors (Cond.code y_Bo_countConductors b_Bo_countConductors 1 (some .int)) (xm_rm 0 0 0) [.ref 1] (wd P0 P1 P2 P3 P4 pl dr ki ow S T F H tt ++ rest) (xm_eq (.inl (some (.int (f_cc P1 P2 P3)))) (wd P0 P1 P2 P3 P4 pl dr ki ow S T F H tt ++ rest)) := by
  refine xm_of (by decide) (Nat.le_of_ble_eq_true rfl) (fun E C0 => ?_)
  refine xs_eq (lv' := [(0, .ref 1)]) rfl rfl rfl ?_
  refine xs_aload_n C0 d_Bo_countConductors_0 rfl 0 rfl ?_
  refine xs_get (q := 1) (v := .ref 5) C0 f_Bo_20 d_Bo_countConductors_1 rfl rfl ?_
  obtain ⟨f1_1, g1_1, n1_1⟩ := P1
  refine xs_get (q := 5) (v := .int n1_1) C0 f_Bo_49 d_Bo_countConductors_4 rfl rfl ?_
  refine xs_aload_n C0 d_Bo_countConductors_7 rfl 0 rfl ?_
  refine xs_get (q := 1) (v := .ref 8) C0 f_Bo_23 d_Bo_countConductors_8 rfl rfl ?_
  obtain ⟨f2_2, g2_2, n2_2⟩ := P2
  refine xs_get (q := 8) (v := .int n2_2) C0 f_Bo_49 d_Bo_countConductors_11 rfl rfl ?_
  refine xs_iadd C0 d_Bo_countConductors_14 ?_
  refine xs_aload_n C0 d_Bo_countConductors_15 rfl 0 rfl ?_
  refine xs_get (q := 1) (v := .ref 11) C0 f_Bo_26 d_Bo_countConductors_16 rfl rfl ?_
  obtain ⟨f3_3, g3_3, n3_3⟩ := P3
  refine xs_get (q := 11) (v := .int n3_3) C0 f_Bo_49 d_Bo_countConductors_19 rfl rfl ?_
  refine xs_iadd C0 d_Bo_countConductors_22 ?_
  exact xs_iret C0 d_Bo_countConductors_23 (⟨rfl, rfl⟩) (Nat.le_of_ble_eq_true rfl) (Nat.le_of_ble_eq_true rfl)
