set_option maxHeartbeats 4000000 in
set_option maxRecDepth 100000 in
theorem lp_pk {P0 P1 P2 P3 P4 : wt_P} {pl dr ki ow : Nat → Int32} {S : wt_S} {ts tc tw : Nat → Int32} {tu td tk tb : Int32} {F : wt_F} {H : wt_H} {tt : Int32} {rest : xm_O} {fr : Nat} {E : xm_X} {Q : State → Prop} (C0 : xm_C E y_Hi_pack.cls b_Hi_pack 5 (some .long) [] y_Hi_pack.name (xm_rm 0 0 0)) (hfr : fr ≤ 8) (kx : ∀ p, f_pk ts tc fr 8 = p → xm_W E 5 Q 0 0 (wd P0 P1 P2 P3 P4 pl dr ki ow S (ts, tc, tw, tu, td, tk, tb) F H tt ++ rest) 45 [(2, .long p)] []) : ∀ j : Nat, ∀ (i : Nat) (p : Int64), i + j = 8 → f_pk ts tc fr i = p → xm_W E 5 Q 0 0 (wd P0 P1 P2 P3 P4 pl dr ki ow S (ts, tc, tw, tu, td, tk, tb) F H tt ++ rest) 5 [(0, .ref 25), (1, .int (nI fr)), (2, .long p), (4, .int (nI (fr + i)))] [] := by
  intro j
  induction j with
  | zero =>
    intro i p hi hM
    have e : 8 = i := by omega
    subst e
    refine xs_iload C0 d_Hi_pack_5 3 rfl ?_
    refine xs_iload_n C0 d_Hi_pack_7 rfl 1 rfl ?_
    refine xs_bipush (v := 8) C0 d_Hi_pack_8 (by decide) ?_
    refine xs_iadd C0 d_Hi_pack_10 ?_
    refine xs_top (v' := .int (nI (fr + 8))) (by rw [show (8 : Int32) = nI 8 from rfl, nI_add]) ?_
    refine xs_icmp_ge (tgt := 45) C0 d_Hi_pack_11 (by decide) (fun _ => ?_) (fun c9 => absurd (nI_le (Nat.le_refl _) (by omega)) c9)
    refine xs_lv (lv' := [(2, .long p)]) [2] rfl ?_
    exact kx p hM
  | succ j ih =>
    intro i p hi hM
    have hlt : i < 8 := by omega
    refine xs_iload C0 d_Hi_pack_5 3 rfl ?_
    refine xs_iload_n C0 d_Hi_pack_7 rfl 1 rfl ?_
    refine xs_bipush (v := 8) C0 d_Hi_pack_8 (by decide) ?_
    refine xs_iadd C0 d_Hi_pack_10 ?_
    refine xs_top (v' := .int (nI (fr + 8))) (by rw [show (8 : Int32) = nI 8 from rfl, nI_add]) ?_
    refine xs_icmp_ge (tgt := 45) C0 d_Hi_pack_11 (by decide) (fun c9 => absurd c9 (nI_ge (by omega) (by omega))) (fun _ => ?_)
    refine xs_lload_n C0 d_Hi_pack_14 rfl 2 rfl ?_
    refine xs_bipush (v := 6) C0 d_Hi_pack_15 (by decide) ?_
    refine xs_lshl C0 d_Hi_pack_17 ?_
    refine xs_aload_n C0 d_Hi_pack_18 rfl 0 rfl ?_
    refine xs_get (q := 25) (v := .ref 26) C0 f_Hi_36 d_Hi_pack_19 rfl rfl ?_
    refine xs_iload C0 d_Hi_pack_22 3 rfl ?_
    refine xs_iald C0 d_Hi_pack_24 rfl (vp_in_nI (n := fr + i) (by omega) (by decide)) ?_
    refine xs_top (v' := .int (ts (fr + i))) (by rw [nI_clamp (by omega)]) ?_
    refine xs_pc (pc' := 25) rfl ?_
    refine xs_iconst (v := 4) C0 d_Hi_pack_25 (by decide) ?_
    refine xs_ishl C0 d_Hi_pack_26 ?_
    refine xs_i2l C0 d_Hi_pack_27 ?_
    refine xs_lor C0 d_Hi_pack_28 ?_
    refine xs_aload_n C0 d_Hi_pack_29 rfl 0 rfl ?_
    refine xs_get (q := 25) (v := .ref 27) C0 f_Hi_40 d_Hi_pack_30 rfl rfl ?_
    refine xs_iload C0 d_Hi_pack_33 3 rfl ?_
    refine xs_iald C0 d_Hi_pack_35 rfl (vp_in_nI (n := fr + i) (by omega) (by decide)) ?_
    refine xs_top (v' := .int (tc (fr + i))) (by rw [nI_clamp (by omega)]) ?_
    refine xs_i2l C0 d_Hi_pack_36 ?_
    refine xs_lor C0 d_Hi_pack_37 ?_
    refine xs_lstore_n (lv' := [(2, .long (((p <<< ((6 : Int32).toInt64 &&& 63)) ||| ((ts (fr + i)) <<< (4 &&& 31)).toInt64) ||| (tc (fr + i)).toInt64)), (0, .ref 25), (1, .int (nI fr)), (4, .int (nI (fr + i)))]) C0 d_Hi_pack_38 rfl (by decide) rfl ?_
    refine xs_iinc (v := nI (fr + (i + 1))) (lv' := [(4, .int (nI (fr + (i + 1)))), (2, .long (((p <<< ((6 : Int32).toInt64 &&& 63)) ||| ((ts (fr + i)) <<< (4 &&& 31)).toInt64) ||| (tc (fr + i)).toInt64)), (0, .ref 25), (1, .int (nI fr))]) C0 d_Hi_pack_39 3 rfl (by rw [← Nat.add_assoc, ← nI_1]; rfl) (by decide) rfl ?_
    refine xs_pc (pc' := 42) rfl ?_
    refine xs_goto (tgt := 5) C0 d_Hi_pack_42 (by decide) ?_
    refine xs_lv (lv' := [(0, .ref 25), (1, .int (nI fr)), (2, .long (((p <<< ((6 : Int32).toInt64 &&& 63)) ||| ((ts (fr + i)) <<< (4 &&& 31)).toInt64) ||| (tc (fr + i)).toInt64)), (4, .int (nI (fr + (i + 1))))]) [2, 3, 1, 0] rfl ?_
    exact ih (i + 1) _ (by omega) (by rw [f_pk, hM])
set_option maxHeartbeats 4000000 in
set_option maxRecDepth 100000 in
theorem c_pk {P0 P1 P2 P3 P4 : wt_P} {pl dr ki ow : Nat → Int32} {S : wt_S} {ts tc tw : Nat → Int32} {tu td tk tb : Int32} {F : wt_F} {H : wt_H} {tt : Int32} {rest : xm_O} {fr : Nat} (hfr : fr ≤ 8) : xm_M y_Hi_pack (Cond.code y_Hi_pack b_Hi_pack 5 (some .long)) (xm_rm 0 0 0) [.ref 25, .int (nI fr)] (wd P0 P1 P2 P3 P4 pl dr ki ow S (ts, tc, tw, tu, td, tk, tb) F H tt ++ rest) (xm_eq (.inl (some (.long (f_pk ts tc fr 8)))) (wd P0 P1 P2 P3 P4 pl dr ki ow S (ts, tc, tw, tu, td, tk, tb) F H tt ++ rest)) := by
  refine xm_of (by decide) (Nat.le_of_ble_eq_true rfl) (fun E C0 => ?_)
  refine xs_eq (lv' := [(0, .ref 25), (1, .int (nI fr))]) rfl rfl rfl ?_
  refine xs_lconst (v := 0) C0 d_Hi_pack_0 rfl ?_
  refine xs_lstore_n (lv' := [(2, .long 0), (0, .ref 25), (1, .int (nI fr))]) C0 d_Hi_pack_1 rfl (by decide) rfl ?_
  refine xs_iload_n C0 d_Hi_pack_2 rfl 2 rfl ?_
  refine xs_istore (lv' := [(4, .int (nI fr)), (2, .long 0), (0, .ref 25), (1, .int (nI fr))]) C0 d_Hi_pack_3 (by decide) rfl ?_
  refine xs_lv (lv' := [(0, .ref 25), (1, .int (nI fr)), (2, .long 0), (4, .int (nI fr))]) [2, 3, 1, 0] rfl ?_
  refine xs_eq (lv' := [(0, .ref 25), (1, .int (nI fr)), (2, .long 0), (4, .int (nI (fr + 0)))]) rfl rfl rfl ?_
  refine lp_pk C0 hfr (fun p hM => ?_) 8 0 _ (by omega) rfl
  subst hM
  refine xs_lload_n C0 d_Hi_pack_45 rfl 0 rfl ?_
  exact xs_lret C0 d_Hi_pack_46 ⟨rfl, rfl⟩ (Nat.le_of_ble_eq_true rfl) (Nat.le_of_ble_eq_true rfl)
set_option maxHeartbeats 4000000 in
set_option maxRecDepth 100000 in
theorem lp_ff {P0 P1 P2 P3 P4 : wt_P} {pl dr ki ow : Nat → Int32} {S T : wt_S} {F : wt_F} {lo hi : Nat → Int64} {n : Nat} {tt : Int32} {rest : xm_O} {l h : Int64} {r : Int32} {E : xm_X} {Q : State → Prop} (C0 : xm_C E y_Hi_findOrKeep.cls b_Hi_findOrKeep 7 (some .int) [] y_Hi_findOrKeep.name (xm_rm 1 0 0)) (hn : n ≤ 500) (kx1 : ∀ k, k < n → r = nI k → xm_W E 7 Q 0 0 (wd P0 P1 P2 P3 P4 pl dr ki ow S T F (lo, hi, nI n) tt ++ rest) 67 [(6, .int (nI k))] []) (kx2 : r = -1 → xm_W E 7 Q 0 0 (wd P0 P1 P2 P3 P4 pl dr ki ow S T F (lo, hi, nI n) tt ++ rest) 76 [(0, .ref 33), (2, .long l), (4, .long h)] []) : ∀ j : Nat, ∀ (i : Nat), i + j = n → g_ff lo hi l h j i = r → xm_W E 7 Q 0 0 (wd P0 P1 P2 P3 P4 pl dr ki ow S T F (lo, hi, nI n) tt ++ rest) 33 [(0, .ref 33), (2, .long l), (4, .long h), (6, .int (nI i))] [] := by
  intro j
  induction j with
  | zero =>
    intro i hi0 hR
    have e : n = i := by omega
    subst e
    refine xs_iload C0 d_Hi_findOrKeep_33 3 rfl ?_
    refine xs_aload_n C0 d_Hi_findOrKeep_35 rfl 0 rfl ?_
    refine xs_get (q := 33) (v := .int (nI n)) C0 f_Hi_18 d_Hi_findOrKeep_36 rfl rfl ?_
    refine xs_icmp_ge (tgt := 76) C0 d_Hi_findOrKeep_39 (by decide) (fun _ => ?_) (fun c9 => absurd (nI_le (Nat.le_refl _) (by omega)) c9)
    refine xs_lv (lv' := [(0, .ref 33), (2, .long l), (4, .long h)]) [0, 1, 2] rfl ?_
    exact kx2 (by rw [g_ff] at hR; exact hR.symm)
  | succ j ih =>
    intro i hi0 hR
    have hlt : i < n := by omega
    refine xs_iload C0 d_Hi_findOrKeep_33 3 rfl ?_
    refine xs_aload_n C0 d_Hi_findOrKeep_35 rfl 0 rfl ?_
    refine xs_get (q := 33) (v := .int (nI n)) C0 f_Hi_18 d_Hi_findOrKeep_36 rfl rfl ?_
    refine xs_icmp_ge (tgt := 76) C0 d_Hi_findOrKeep_39 (by decide) (fun c9 => absurd c9 (nI_ge hlt (by omega))) (fun _ => ?_)
    refine xs_aload_n C0 d_Hi_findOrKeep_42 rfl 0 rfl ?_
    refine xs_get (q := 33) (v := .ref 34) C0 f_Hi_9 d_Hi_findOrKeep_43 rfl rfl ?_
    refine xs_iload C0 d_Hi_findOrKeep_46 3 rfl ?_
    refine xs_lald C0 d_Hi_findOrKeep_48 rfl (vp_in_nI (n := i) (by omega) (by decide)) ?_
    refine xs_top (v' := .long (lo i)) (by rw [nI_clamp (by omega)]) ?_
    refine xs_lload_n C0 d_Hi_findOrKeep_49 rfl 1 rfl ?_
    refine xs_lcmp C0 d_Hi_findOrKeep_50 ?_
    refine xs_if_ne (tgt := 70) C0 d_Hi_findOrKeep_51 (by decide) (fun c1 => ?_) (fun c1 => ?_)
    · refine xs_iinc (v := nI (i + 1)) (lv' := [(6, .int (nI (i + 1))), (0, .ref 33), (2, .long l), (4, .long h)]) C0 d_Hi_findOrKeep_70 3 rfl (by rw [← nI_1]; rfl) (by decide) rfl ?_
      refine xs_goto (tgt := 33) C0 d_Hi_findOrKeep_73 (by decide) ?_
      refine xs_lv (lv' := [(0, .ref 33), (2, .long l), (4, .long h), (6, .int (nI (i + 1)))]) [1, 2, 3, 0] rfl ?_
      exact ih (i + 1) (by omega) (by rw [g_ff, if_neg (fun q9 => c1 (lg_cmp0.mpr q9.1))] at hR; exact hR)
    · refine xs_aload_n C0 d_Hi_findOrKeep_54 rfl 0 rfl ?_
      refine xs_get (q := 33) (v := .ref 35) C0 f_Hi_15 d_Hi_findOrKeep_55 rfl rfl ?_
      refine xs_iload C0 d_Hi_findOrKeep_58 3 rfl ?_
      refine xs_lald C0 d_Hi_findOrKeep_60 rfl (vp_in_nI (n := i) (by omega) (by decide)) ?_
      refine xs_top (v' := .long (hi i)) (by rw [nI_clamp (by omega)]) ?_
      refine xs_lload C0 d_Hi_findOrKeep_61 2 rfl ?_
      refine xs_lcmp C0 d_Hi_findOrKeep_63 ?_
      refine xs_if_ne (tgt := 70) C0 d_Hi_findOrKeep_64 (by decide) (fun c2 => ?_) (fun c2 => ?_)
      · refine xs_iinc (v := nI (i + 1)) (lv' := [(6, .int (nI (i + 1))), (0, .ref 33), (2, .long l), (4, .long h)]) C0 d_Hi_findOrKeep_70 3 rfl (by rw [← nI_1]; rfl) (by decide) rfl ?_
        refine xs_goto (tgt := 33) C0 d_Hi_findOrKeep_73 (by decide) ?_
        refine xs_lv (lv' := [(0, .ref 33), (2, .long l), (4, .long h), (6, .int (nI (i + 1)))]) [1, 2, 3, 0] rfl ?_
        exact ih (i + 1) (by omega) (by rw [g_ff, if_neg (fun q9 => c2 (lg_cmp0.mpr q9.2))] at hR; exact hR)
      · refine xs_lv (lv' := [(6, .int (nI i))]) [3] rfl ?_
        exact kx1 i hlt (by rw [g_ff, if_pos ⟨lg_cmp0.mp c1, lg_cmp0.mp c2⟩] at hR; exact hR.symm)
set_option maxHeartbeats 4000000 in
set_option maxRecDepth 100000 in
theorem c_fok {P0 P1 P2 P3 P4 : wt_P} {pl dr ki ow : Nat → Int32} {S T : wt_S} {F : wt_F} {lo hi : Nat → Int64} {n : Nat} {tt : Int32} {rest : xm_O} {r : Int32} {H1 : wh} (hn : n ≤ 500) (hf : g_fk T (lo, hi, n) = (r, H1)) : xm_M y_Hi_findOrKeep (Cond.code y_Hi_findOrKeep b_Hi_findOrKeep 7 (some .int)) (xm_rm 1 0 0) [.ref 33, .ref 25] (wd P0 P1 P2 P3 P4 pl dr ki ow S T F (lo, hi, nI n) tt ++ rest) (xm_eq (.inl (some (.int r))) (wd P0 P1 P2 P3 P4 pl dr ki ow S T F (hw H1) tt ++ rest)) := by
  refine xm_of (by decide) (Nat.le_of_ble_eq_true rfl) (fun E C0 => ?_)
  refine xs_eq (lv' := [(0, .ref 33), (1, .ref 25)]) rfl rfl rfl ?_
  refine xs_aload_n C0 d_Hi_findOrKeep_0 rfl 1 rfl ?_
  refine xs_iconst (v := 0) C0 d_Hi_findOrKeep_1 (by decide) ?_
  obtain ⟨ts_1, tc_1, tw_1, tu_1, td_1, tk_1, tb_1⟩ := T
  refine xs_cS1 (ω' := (wd P0 P1 P2 P3 P4 pl dr ki ow S (ts_1, tc_1, tw_1, tu_1, td_1, tk_1, tb_1) F (lo, hi, nI n) tt ++ rest)) (av := [.ref 25, .int 0]) (st := []) (kc' := 0) (ks' := 0) (v := .long (f_pk ts_1 tc_1 0 8)) C0 d_Hi_findOrKeep_2 l_Hi_26 (c_pk (fr := 0) (by decide)) rfl rfl rfl (Nat.le_of_ble_eq_true rfl) (Nat.le_of_ble_eq_true rfl) (Nat.le_of_ble_eq_true rfl) (Nat.le_of_ble_eq_true rfl) (Nat.le_of_ble_eq_true rfl) (Nat.le_of_ble_eq_true rfl) ?_
  refine xs_topl (fun l9 el9 => ?_)
  refine xs_lstore_n (lv' := [(2, .long l9), (0, .ref 33), (1, .ref 25)]) C0 d_Hi_findOrKeep_5 rfl (by decide) rfl ?_
  refine xs_aload_n C0 d_Hi_findOrKeep_6 rfl 2 rfl ?_
  refine xs_bipush (v := 8) C0 d_Hi_findOrKeep_7 (by decide) ?_
  refine xs_cS1 (ω' := (wd P0 P1 P2 P3 P4 pl dr ki ow S (ts_1, tc_1, tw_1, tu_1, td_1, tk_1, tb_1) F (lo, hi, nI n) tt ++ rest)) (av := [.ref 25, .int 8]) (st := []) (kc' := 0) (ks' := 0) (v := .long (f_pk ts_1 tc_1 8 8)) C0 d_Hi_findOrKeep_9 l_Hi_26 (c_pk (fr := 8) (by decide)) rfl rfl rfl (Nat.le_of_ble_eq_true rfl) (Nat.le_of_ble_eq_true rfl) (Nat.le_of_ble_eq_true rfl) (Nat.le_of_ble_eq_true rfl) (Nat.le_of_ble_eq_true rfl) (Nat.le_of_ble_eq_true rfl) ?_
  refine xs_iconst (v := 1) C0 d_Hi_findOrKeep_12 (by decide) ?_
  refine xs_lshl C0 d_Hi_findOrKeep_13 ?_
  refine xs_aload_n C0 d_Hi_findOrKeep_14 rfl 2 rfl ?_
  refine xs_get (q := 25) (v := .int tb_1) C0 f_Hi_30 d_Hi_findOrKeep_15 rfl rfl ?_
  refine xs_bz_eq (u := 1) (v := 0) (tgt := 25) (J := 26) C0 d_Hi_findOrKeep_18 (by decide) d_Hi_findOrKeep_21 (by decide) d_Hi_findOrKeep_22 (by decide) d_Hi_findOrKeep_25 (by decide) rfl ?_
  refine xs_i2l C0 d_Hi_findOrKeep_26 ?_
  refine xs_lor C0 d_Hi_findOrKeep_27 ?_
  refine xs_topl (fun h9 eh9 => ?_)
  refine xs_lstore (lv' := [(4, .long h9), (2, .long l9), (0, .ref 33), (1, .ref 25)]) C0 d_Hi_findOrKeep_28 (by decide) rfl ?_
  refine xs_iconst (v := 0) C0 d_Hi_findOrKeep_30 (by decide) ?_
  refine xs_istore (lv' := [(6, .int 0), (4, .long h9), (2, .long l9), (0, .ref 33), (1, .ref 25)]) C0 d_Hi_findOrKeep_31 (by decide) rfl ?_
  refine xs_lv (lv' := [(0, .ref 33), (2, .long l9), (4, .long h9), (6, .int 0)]) [3, 2, 1, 0] rfl ?_
  have hl9 : f_low (ts_1, tc_1, tw_1, tu_1, td_1, tk_1, tb_1) = l9 := el9.symm
  have hh9 : f_high (ts_1, tc_1, tw_1, tu_1, td_1, tk_1, tb_1) = h9 := eh9.symm
  refine lp_ff (r := g_ff lo hi l9 h9 n 0) C0 hn (fun k9 hk9 hr9 => ?_) (fun hr9 => ?_) n 0 (by omega) rfl
  · rw [g_fk] at hf
    dsimp only at hf
    rw [hl9, hh9, hr9, if_neg (nI_ne k9 (by omega))] at hf
    cases hf
    refine xs_iload C0 d_Hi_findOrKeep_67 0 rfl ?_
    exact xs_iret C0 d_Hi_findOrKeep_69 ⟨rfl, rfl⟩ (Nat.le_of_ble_eq_true rfl) (Nat.le_of_ble_eq_true rfl)
  · refine xs_aload_n C0 d_Hi_findOrKeep_76 rfl 0 rfl ?_
    refine xs_get (q := 33) (v := .int (nI n)) C0 f_Hi_18 d_Hi_findOrKeep_77 rfl rfl ?_
    refine xs_aload_n C0 d_Hi_findOrKeep_80 rfl 0 rfl ?_
    refine xs_get (q := 33) (v := .ref 34) C0 f_Hi_9 d_Hi_findOrKeep_81 rfl rfl ?_
    refine xs_alen (v := 501) C0 d_Hi_findOrKeep_84 rfl (by decide) rfl ?_
    refine xs_icmp_ge (tgt := 119) C0 d_Hi_findOrKeep_85 (by decide) (fun c9 => absurd c9 (nI_ge (b := 501) (by omega) (by decide))) (fun _ => ?_)
    refine xs_aload_n C0 d_Hi_findOrKeep_88 rfl 0 rfl ?_
    refine xs_get (q := 33) (v := .ref 34) C0 f_Hi_9 d_Hi_findOrKeep_89 rfl rfl ?_
    refine xs_aload_n C0 d_Hi_findOrKeep_92 rfl 0 rfl ?_
    refine xs_get (q := 33) (v := .int (nI n)) C0 f_Hi_18 d_Hi_findOrKeep_93 rfl rfl ?_
    refine xs_lload_n C0 d_Hi_findOrKeep_96 rfl 1 rfl ?_
    refine xs_last (ω' := (wd P0 P1 P2 P3 P4 pl dr ki ow S (ts_1, tc_1, tw_1, tu_1, td_1, tk_1, tb_1) F (vp_updL lo (nI n).toNatClampNeg l9, hi, nI n) tt ++ rest)) C0 d_Hi_findOrKeep_97 rfl (vp_in_nI (n := n) (by omega) (by decide)) rfl ?_
    refine xs_world (ω' := (wd P0 P1 P2 P3 P4 pl dr ki ow S (ts_1, tc_1, tw_1, tu_1, td_1, tk_1, tb_1) F (vp_updL lo n l9, hi, nI n) tt ++ rest)) (by rw [nI_clamp (by omega)]) ?_
    refine xs_pc (pc' := 98) rfl ?_
    refine xs_aload_n C0 d_Hi_findOrKeep_98 rfl 0 rfl ?_
    refine xs_get (q := 33) (v := .ref 35) C0 f_Hi_15 d_Hi_findOrKeep_99 rfl rfl ?_
    refine xs_aload_n C0 d_Hi_findOrKeep_102 rfl 0 rfl ?_
    refine xs_get (q := 33) (v := .int (nI n)) C0 f_Hi_18 d_Hi_findOrKeep_103 rfl rfl ?_
    refine xs_lload C0 d_Hi_findOrKeep_106 2 rfl ?_
    refine xs_last (ω' := (wd P0 P1 P2 P3 P4 pl dr ki ow S (ts_1, tc_1, tw_1, tu_1, td_1, tk_1, tb_1) F (vp_updL lo n l9, vp_updL hi (nI n).toNatClampNeg h9, nI n) tt ++ rest)) C0 d_Hi_findOrKeep_108 rfl (vp_in_nI (n := n) (by omega) (by decide)) rfl ?_
    refine xs_world (ω' := (wd P0 P1 P2 P3 P4 pl dr ki ow S (ts_1, tc_1, tw_1, tu_1, td_1, tk_1, tb_1) F (vp_updL lo n l9, vp_updL hi n h9, nI n) tt ++ rest)) (by rw [nI_clamp (by omega)]) ?_
    refine xs_aload_n C0 d_Hi_findOrKeep_109 rfl 0 rfl ?_
    refine xs_dup C0 d_Hi_findOrKeep_110 rfl ?_
    refine xs_get (q := 33) (v := .int (nI n)) C0 f_Hi_18 d_Hi_findOrKeep_111 rfl rfl ?_
    refine xs_iconst (v := 1) C0 d_Hi_findOrKeep_114 (by decide) ?_
    refine xs_iadd C0 d_Hi_findOrKeep_115 ?_
    refine xs_top (v' := .int (nI (n + 1))) (by rw [nI_1]) ?_
    refine xs_put (ω' := (wd P0 P1 P2 P3 P4 pl dr ki ow S (ts_1, tc_1, tw_1, tu_1, td_1, tk_1, tb_1) F (vp_updL lo n l9, vp_updL hi n h9, (nI (n + 1))) tt ++ rest)) C0 f_Hi_18 ty_Hi_2 d_Hi_findOrKeep_116 rfl (Nat.le_of_ble_eq_true rfl) (fun _ => ⟨rfl, rfl⟩) rfl ?_
    refine xs_pc (pc' := 119) rfl ?_
    refine xs_iconst (v := (-1)) C0 d_Hi_findOrKeep_119 (by decide) ?_
    have hl9 : f_low (ts_1, tc_1, tw_1, tu_1, td_1, tk_1, tb_1) = l9 := el9.symm
    have hh9 : f_high (ts_1, tc_1, tw_1, tu_1, td_1, tk_1, tb_1) = h9 := eh9.symm
    rw [g_fk] at hf
    dsimp only at hf
    rw [hl9, hh9] at hf
    rw [if_pos hr9, hr9] at hf
    cases hf
    exact xs_iret C0 d_Hi_findOrKeep_120 (⟨rfl, rfl⟩) (Nat.le_of_ble_eq_true rfl) (Nat.le_of_ble_eq_true rfl)
set_option maxHeartbeats 4000000 in
set_option maxRecDepth 100000 in
theorem c_beg {P0 P1 P2 P3 P4 : wt_P} {pl dr ki ow : Nat → Int32} {S T : wt_S} {F : wt_F} {H : wt_H} {tt : Int32} {rest : xm_O} {r : Int32} {H1 : wh} (hf : g_fk T (H.1, H.2.1, 0) = (r, H1)) : xm_M y_Hi_begin (Cond.code y_Hi_begin b_Hi_begin 2 none) (xm_rm 2 0 0) [.ref 33, .ref 25] (wd P0 P1 P2 P3 P4 pl dr ki ow S T F H tt ++ rest) (xm_eq (.inl none) (wd P0 P1 P2 P3 P4 pl dr ki ow S T F (hw H1) tt ++ rest)) := by
  refine xm_of (by decide) (Nat.le_of_ble_eq_true rfl) (fun E C0 => ?_)
  refine xs_eq (lv' := [(0, .ref 33), (1, .ref 25)]) rfl rfl rfl ?_
  refine xs_aload_n C0 d_Hi_begin_0 rfl 0 rfl ?_
  refine xs_iconst (v := 0) C0 d_Hi_begin_1 (by decide) ?_
  refine xs_top (v' := .int (nI 0)) rfl ?_
  obtain ⟨lo_1, hi_1, hn_1⟩ := H
  refine xs_put (ω' := (wd P0 P1 P2 P3 P4 pl dr ki ow S T F (lo_1, hi_1, (nI 0)) tt ++ rest)) C0 f_Hi_18 ty_Hi_2 d_Hi_begin_2 rfl (Nat.le_of_ble_eq_true rfl) (fun _ => ⟨rfl, rfl⟩) rfl ?_
  refine xs_aload_n C0 d_Hi_begin_5 rfl 0 rfl ?_
  refine xs_aload_n C0 d_Hi_begin_6 rfl 1 rfl ?_
  refine xs_cV1 (ω' := (wd P0 P1 P2 P3 P4 pl dr ki ow S T F (hw H1) tt ++ rest)) (As := [.ref 25]) (st := []) (kc' := 0) (ks' := 0) (v := .int r) C0 d_Hi_begin_7 l_Hi_22 rfl rfl (c_fok (by decide) hf) rfl rfl rfl (Nat.le_of_ble_eq_true rfl) (Nat.le_of_ble_eq_true rfl) (Nat.le_of_ble_eq_true rfl) (Nat.le_of_ble_eq_true rfl) (Nat.le_of_ble_eq_true rfl) (Nat.le_of_ble_eq_true rfl) ?_
  refine xs_pop C0 d_Hi_begin_10 rfl ?_
  exact xs_vret C0 d_Hi_begin_11 (⟨rfl, rfl⟩) (Nat.le_of_ble_eq_true rfl) (Nat.le_of_ble_eq_true rfl)
theorem hw_nI (H : wh) {d : Nat} (h : H.2.2 = d) : hw H = (H.1, H.2.1, nI d) := by rw [hw, h]
set_option maxHeartbeats 4000000 in
set_option maxRecDepth 100000 in
theorem lp_circ {f0 g0 f1 g1 f2 g2 f3 g3 f4 g4 : Nat → Int32} {n0 n1 n2 n3 n4 : Nat} {pl dr ki ow : Nat → Int32} {S : wt_S} {tt : Int32} {rest : xm_O} {r : Option Int32} {T1 : wt_S} {F1 : wt_F} {H1 : wh} {m : Nat} {v : Int32} {E : xm_X} (C0 : xm_C E y_Rb_circle.cls b_Rb_circle 4 (some .int) [] y_Rb_circle.name (xm_rm 6 0 0)) (hB : okB ((f0, g0, n0), (f1, g1, n1), (f2, g2, n2), (f3, g3, n3), (f4, g4, n4), pl, dr, ki, ow)) (hm : m ≤ 500) (hr : r = some v) : ∀ j : Nat, ∀ (i : Nat) (lo hi : Nat → Int64) (T : wt_S) (F : wt_F), i + j = m + 1 → g_circ ((f0, g0, n0), (f1, g1, n1), (f2, g2, n2), (f3, g3, n3), (f4, g4, n4), pl, dr, ki, ow) j i T F (lo, hi, i) = (r, T1, F1, H1) → xm_W E 4 (xm_F E (xm_rm 6 0 0).cells (xm_rm 6 0 0).slots (xm_eq (.inl (some (.int v))) (wB ((f0, g0, n0), (f1, g1, n1), (f2, g2, n2), (f3, g3, n3), (f4, g4, n4), pl, dr, ki, ow) S T1 F1 (hw H1) tt ++ rest))) 0 0 (wd (f0, g0, nI n0) (f1, g1, nI n1) (f2, g2, nI n2) (f3, g3, nI n3) (f4, g4, nI n4) pl dr ki ow S T F (lo, hi, nI i) tt ++ rest) 32 [(0, .ref 0), (1, .int (nI m)), (2, .int (nI i))] [] := by
  intro j
  induction j with
  | zero =>
    intro i lo hi T F hi0 hf
    refine xs_iload_n C0 d_Rb_circle_32 rfl 2 rfl ?_
    refine xs_iload_n C0 d_Rb_circle_33 rfl 1 rfl ?_
    refine xs_icmp_gt (tgt := 83) C0 d_Rb_circle_34 (by decide) (fun _ => ?_) (fun c9 => absurd (nI_lt (by omega) (by omega)) c9)
    rw [g_circ] at hf
    cases hf
    cases hr
  | succ j ih =>
    intro i lo hi T F hi0 hf
    refine xs_iload_n C0 d_Rb_circle_32 rfl 2 rfl ?_
    refine xs_iload_n C0 d_Rb_circle_33 rfl 1 rfl ?_
    refine xs_icmp_gt (tgt := 83) C0 d_Rb_circle_34 (by decide) (fun c9 => absurd c9 (nI_nlt (by omega) (by omega))) (fun _ => ?_)
    refine xs_aload_n C0 d_Rb_circle_37 rfl 0 rfl ?_
    refine xs_get (q := 0) (v := .ref 29) C0 f_Rb_31 d_Rb_circle_38 rfl rfl ?_
    refine xs_aload_n C0 d_Rb_circle_41 rfl 0 rfl ?_
    refine xs_get (q := 0) (v := .ref 25) C0 f_Rb_23 d_Rb_circle_42 rfl rfl ?_
    refine xs_iconst (v := 0) C0 d_Rb_circle_45 (by decide) ?_
    obtain ⟨b_1, T_2, F_3, hb_1⟩ : ∃ X Y Z, g_step ((f0, g0, n0), (f1, g1, n1), (f2, g2, n2), (f3, g3, n3), (f4, g4, n4), pl, dr, ki, ow) 0 T F = (X, Y, Z) := ⟨_, _, _, rfl⟩
    refine xs_cV1 (ω' := (wd (f0, g0, nI n0) (f1, g1, nI n1) (f2, g2, nI n2) (f3, g3, nI n3) (f4, g4, nI n4) pl dr ki ow S T_2 F_3 (lo, hi, nI i) tt ++ rest)) (As := [.ref 25, .int 0]) (st := []) (kc' := 0) (ks' := 0) (v := .int b_1) C0 d_Rb_circle_46 l_Rb_110 rfl rfl (c_stept (B := ((f0, g0, n0), (f1, g1, n1), (f2, g2, n2), (f3, g3, n3), (f4, g4, n4), pl, dr, ki, ow)) hB hb_1) rfl rfl rfl (Nat.le_of_ble_eq_true rfl) (Nat.le_of_ble_eq_true rfl) (Nat.le_of_ble_eq_true rfl) (Nat.le_of_ble_eq_true rfl) (Nat.le_of_ble_eq_true rfl) (Nat.le_of_ble_eq_true rfl) ?_
    refine xs_pop C0 d_Rb_circle_49 rfl ?_
    refine xs_aload_n C0 d_Rb_circle_50 rfl 0 rfl ?_
    refine xs_get (q := 0) (v := .ref 33) C0 f_Rb_38 d_Rb_circle_51 rfl rfl ?_
    refine xs_pc (pc' := 54) rfl ?_
    refine xs_aload_n C0 d_Rb_circle_54 rfl 0 rfl ?_
    refine xs_get (q := 0) (v := .ref 25) C0 f_Rb_23 d_Rb_circle_55 rfl rfl ?_
    obtain ⟨r_4, H_5, hr_4⟩ : ∃ X Y, g_fk T_2 (lo, hi, i) = (X, Y) := ⟨_, _, rfl⟩
    refine xs_cV1 (ω' := (wd (f0, g0, nI n0) (f1, g1, nI n1) (f2, g2, nI n2) (f3, g3, nI n3) (f4, g4, nI n4) pl dr ki ow S T_2 F_3 (hw H_5) tt ++ rest)) (As := [.ref 25]) (st := []) (kc' := 0) (ks' := 0) (v := .int r_4) C0 d_Rb_circle_58 l_Rb_132 rfl rfl (c_fok (by omega) hr_4) rfl rfl rfl (Nat.le_of_ble_eq_true rfl) (Nat.le_of_ble_eq_true rfl) (Nat.le_of_ble_eq_true rfl) (Nat.le_of_ble_eq_true rfl) (Nat.le_of_ble_eq_true rfl) (Nat.le_of_ble_eq_true rfl) ?_
    refine xs_istore_n (lv' := [(3, .int r_4), (0, .ref 0), (1, .int (nI m)), (2, .int (nI i))]) C0 d_Rb_circle_61 rfl (by decide) rfl ?_
    refine xs_iload_n C0 d_Rb_circle_62 rfl 0 rfl ?_
    refine xs_iconst (v := (-1)) C0 d_Rb_circle_63 (by decide) ?_
    refine xs_icmp_eq (tgt := 77) C0 d_Rb_circle_64 (by decide) (fun c1 => ?_) (fun c1 => ?_)
    · refine xs_iinc (v := nI (i + 1)) (lv' := [(2, .int (nI (i + 1))), (3, .int r_4), (0, .ref 0), (1, .int (nI m))]) C0 d_Rb_circle_77 3 rfl (by rw [← nI_1]; rfl) (by decide) rfl ?_
      rw [g_circ, hb_1] at hf
      dsimp only at hf
      rw [hr_4] at hf
      dsimp only at hf
      rw [if_pos c1] at hf
      have hsz : H_5.2.2 = i + 1 := by have h9 := g_fk_sz (T := T_2) (H := (lo, hi, i)) (by rw [hr_4]; exact c1); rw [hr_4] at h9; exact h9
      refine xs_goto (tgt := 32) C0 d_Rb_circle_80 (by decide) ?_
      refine xs_lv (lv' := [(0, .ref 0), (1, .int (nI m)), (2, .int (nI (i + 1)))]) [2, 3, 0] rfl ?_
      refine xs_world (ω' := (wd (f0, g0, nI n0) (f1, g1, nI n1) (f2, g2, nI n2) (f3, g3, nI n3) (f4, g4, nI n4) pl dr ki ow S T_2 F_3 (H_5.1, H_5.2.1, nI (i + 1)) tt ++ rest)) (by rw [hw_nI H_5 hsz]) ?_
      exact ih (i + 1) _ _ _ _ (by omega) (by rw [show (H_5.1, H_5.2.1, i + 1) = H_5 from by rw [← hsz]]; exact hf)
    · refine xs_iload_n C0 d_Rb_circle_67 rfl 0 rfl ?_
      refine xs_sipush (v := 1000) C0 d_Rb_circle_68 (by decide) ?_
      refine xs_iload_n C0 d_Rb_circle_71 rfl 3 rfl ?_
      refine xs_iload_n C0 d_Rb_circle_72 rfl 0 rfl ?_
      refine xs_isub C0 d_Rb_circle_73 ?_
      refine xs_imul C0 d_Rb_circle_74 ?_
      refine xs_iadd C0 d_Rb_circle_75 ?_
      rw [g_circ, hb_1] at hf
      dsimp only at hf
      rw [hr_4] at hf
      dsimp only at hf
      rw [if_neg c1] at hf
      cases hf
      cases hr
      exact xs_iret C0 d_Rb_circle_76 (⟨rfl, rfl⟩) (Nat.le_of_ble_eq_true rfl) (Nat.le_of_ble_eq_true rfl)
set_option maxHeartbeats 4000000 in
set_option maxRecDepth 100000 in
theorem m_circ {B : wb} {S T : wt_S} {F : wt_F} {H : wt_H} {tt : Int32} {rest : xm_O} {m : Nat} {r : Option Int32} {T1 : wt_S} {F1 : wt_F} {H1 : wh} {v : Int32} (hB : okB B) (hm : m ≤ 500) (hz : s01 S) (h : gw (nI m) 1 500) (hf : g_circ B m 1 (f_bec S T) F (g_fk (f_bec S T) (H.1, H.2.1, 0)).2 = (r, T1, F1, H1)) (hr : r = some v) : xm_M y_Rb_circle (Cond.code y_Rb_circle b_Rb_circle 4 (some .int)) (xm_rm 6 0 0) [.ref 0, .int (nI m)] (wB B S T F H tt ++ rest) (xm_eq (.inl (some (.int v))) (wB B S T1 F1 (hw H1) tt ++ rest)) := by
  obtain ⟨⟨f0, g0, n0⟩, ⟨f1, g1, n1⟩, ⟨f2, g2, n2⟩, ⟨f3, g3, n3⟩, ⟨f4, g4, n4⟩, pl, dr, ki, ow⟩ := B
  obtain ⟨⟨h0, hp0⟩, ⟨h1, hp1⟩, ⟨h2, hp2⟩, ⟨h3, hp3⟩, ⟨h4, hp4⟩, hk⟩ := id hB
  dsimp only at h0 h1 h2 h3 h4 hp0 hp1 hp2 hp3 hp4 hk
  refine xm_of (by decide) (Nat.le_of_ble_eq_true rfl) (fun E C0 => ?_)
  refine xs_eq (ω' := (wd (f0, g0, nI n0) (f1, g1, nI n1) (f2, g2, nI n2) (f3, g3, nI n3) (f4, g4, nI n4) pl dr ki ow S T F H tt ++ rest)) (lv' := [(0, .ref 0), (1, .int (nI m))]) rfl rfl rfl ?_
  refine xs_iload_n C0 d_Rb_circle_0 rfl 1 rfl ?_
  refine xs_iconst (v := 1) C0 d_Rb_circle_1 (by decide) ?_
  refine xs_sipush (v := 500) C0 d_Rb_circle_2 (by decide) ?_
  refine xs_cS0 (ω' := (wd (f0, g0, nI n0) (f1, g1, nI n1) (f2, g2, nI n2) (f3, g3, nI n3) (f4, g4, nI n4) pl dr ki ow S T F H tt ++ rest)) (av := [.int (nI m), .int 1, .int 500]) (st := []) (kc' := 0) (ks' := 0) C0 d_Rb_circle_5 l_Rb_70 (c_nw _ (nI m) 1 500 h) rfl rfl rfl (Nat.le_of_ble_eq_true rfl) (Nat.le_of_ble_eq_true rfl) (Nat.le_of_ble_eq_true rfl) (Nat.le_of_ble_eq_true rfl) (Nat.le_of_ble_eq_true rfl) (Nat.le_of_ble_eq_true rfl) ?_
  refine xs_aload_n C0 d_Rb_circle_8 rfl 0 rfl ?_
  refine xs_get (q := 0) (v := .ref 25) C0 f_Rb_23 d_Rb_circle_9 rfl rfl ?_
  refine xs_aload_n C0 d_Rb_circle_12 rfl 0 rfl ?_
  refine xs_get (q := 0) (v := .ref 21) C0 f_Rb_19 d_Rb_circle_13 rfl rfl ?_
  obtain ⟨T_1, hT_1⟩ : ∃ X, f_bec S T = X := ⟨_, rfl⟩
  refine xs_cV0 (ω' := (wd (f0, g0, nI n0) (f1, g1, nI n1) (f2, g2, nI n2) (f3, g3, nI n3) (f4, g4, nI n4) pl dr ki ow S T_1 F H tt ++ rest)) (As := [.ref 21]) (st := []) (kc' := 0) (ks' := 0) C0 d_Rb_circle_16 l_Rb_114 rfl rfl (c_bect hz hT_1) rfl rfl rfl (Nat.le_of_ble_eq_true rfl) (Nat.le_of_ble_eq_true rfl) (Nat.le_of_ble_eq_true rfl) (Nat.le_of_ble_eq_true rfl) (Nat.le_of_ble_eq_true rfl) (Nat.le_of_ble_eq_true rfl) ?_
  refine xs_aload_n C0 d_Rb_circle_19 rfl 0 rfl ?_
  refine xs_get (q := 0) (v := .ref 33) C0 f_Rb_38 d_Rb_circle_20 rfl rfl ?_
  refine xs_aload_n C0 d_Rb_circle_23 rfl 0 rfl ?_
  refine xs_pc (pc' := 24) rfl ?_
  refine xs_get (q := 0) (v := .ref 25) C0 f_Rb_23 d_Rb_circle_24 rfl rfl ?_
  obtain ⟨lo_2, hi_2, hn_2⟩ := H
  obtain ⟨r_3, H_4, hr_3⟩ : ∃ X Y, g_fk T_1 (lo_2, hi_2, 0) = (X, Y) := ⟨_, _, rfl⟩
  refine xs_cV0 (ω' := (wd (f0, g0, nI n0) (f1, g1, nI n1) (f2, g2, nI n2) (f3, g3, nI n3) (f4, g4, nI n4) pl dr ki ow S T_1 F (hw H_4) tt ++ rest)) (As := [.ref 25]) (st := []) (kc' := 0) (ks' := 0) C0 d_Rb_circle_27 l_Rb_129 rfl rfl (c_beg hr_3) rfl rfl rfl (Nat.le_of_ble_eq_true rfl) (Nat.le_of_ble_eq_true rfl) (Nat.le_of_ble_eq_true rfl) (Nat.le_of_ble_eq_true rfl) (Nat.le_of_ble_eq_true rfl) (Nat.le_of_ble_eq_true rfl) ?_
  refine xs_iconst (v := 1) C0 d_Rb_circle_30 (by decide) ?_
  refine xs_istore_n (lv' := [(2, .int 1), (0, .ref 0), (1, .int (nI m))]) C0 d_Rb_circle_31 rfl (by decide) rfl ?_
  refine xs_lv (lv' := [(0, .ref 0), (1, .int (nI m)), (2, .int 1)]) [1, 2, 0] rfl ?_
  have h99 : (H_4).2.2 = 1 := by have h9 := g_fk_sz (T := T_1) (H := (lo_2, hi_2, 0)) (by rw [hr_3]; have h8 := congrArg Prod.fst hr_3; exact h8.symm.trans rfl); rw [hr_3] at h9; exact h9
  refine xs_world (ω' := (wd (f0, g0, nI n0) (f1, g1, nI n1) (f2, g2, nI n2) (f3, g3, nI n3) (f4, g4, nI n4) pl dr ki ow S T_1 F (H_4.1, H_4.2.1, nI 1) tt ++ rest)) (by rw [hw_nI H_4 h99]) ?_
  rw [hT_1] at hf
  rw [show g_fk T_1 (lo_2, hi_2, 0) = _ from hr_3] at hf
  dsimp only at hf
  exact lp_circ C0 hB hm hr m 1 _ _ _ _ (by omega) (by rw [show (H_4.1, H_4.2.1, 1) = H_4 from by rw [← h99]]; exact hf)
set_option maxHeartbeats 4000000 in
set_option maxRecDepth 100000 in
theorem lp_circU {f0 g0 f1 g1 f2 g2 f3 g3 f4 g4 : Nat → Int32} {n0 n1 n2 n3 n4 : Nat} {pl dr ki ow : Nat → Int32} {S : wt_S} {tt : Int32} {rest : xm_O} {r : Option Int32} {T1 : wt_S} {F1 : wt_F} {H1 : wh} {m : Nat} {E : xm_X} (C0 : xm_C E y_Rb_circle.cls b_Rb_circle 4 (some .int) [] y_Rb_circle.name (xm_rm 7 1 6)) (hB : okB ((f0, g0, n0), (f1, g1, n1), (f2, g2, n2), (f3, g3, n3), (f4, g4, n4), pl, dr, ki, ow)) (hm : m ≤ 500) (hr : r = none) : ∀ j : Nat, ∀ (i : Nat) (lo hi : Nat → Int64) (T : wt_S) (F : wt_F), i + j = m + 1 → g_circ ((f0, g0, n0), (f1, g1, n1), (f2, g2, n2), (f3, g3, n3), (f4, g4, n4), pl, dr, ki, ow) j i T F (lo, hi, i) = (r, T1, F1, H1) → xm_W E 4 (xm_F E (xm_rm 7 1 6).cells (xm_rm 7 1 6).slots (xm_eq (.inr "java/lang/UnsupportedOperationException") (wB ((f0, g0, n0), (f1, g1, n1), (f2, g2, n2), (f3, g3, n3), (f4, g4, n4), pl, dr, ki, ow) S T1 F1 (hw H1) tt ++ rest))) 0 0 (wd (f0, g0, nI n0) (f1, g1, nI n1) (f2, g2, nI n2) (f3, g3, nI n3) (f4, g4, nI n4) pl dr ki ow S T F (lo, hi, nI i) tt ++ rest) 32 [(0, .ref 0), (1, .int (nI m)), (2, .int (nI i))] [] := by
  intro j
  induction j with
  | zero =>
    intro i lo hi T F hi0 hf
    refine xs_iload_n C0 d_Rb_circle_32 rfl 2 rfl ?_
    refine xs_iload_n C0 d_Rb_circle_33 rfl 1 rfl ?_
    refine xs_icmp_gt (tgt := 83) C0 d_Rb_circle_34 (by decide) (fun _ => ?_) (fun c9 => absurd (nI_lt (by omega) (by omega)) c9)
    rw [g_circ] at hf
    cases hf
    exact xs_throw (cls := "java/lang/UnsupportedOperationException") (names := xm_up) C0 k_545 k_546 k_17 k_580 ta_UOE (by decide +kernel) (by decide +kernel) d_Rb_circle_83 d_Rb_circle_86 d_Rb_circle_87 d_Rb_circle_89 d_Rb_circle_92 (Nat.le_of_ble_eq_true rfl) (Nat.le_of_ble_eq_true rfl) (Nat.le_of_ble_eq_true rfl) (Nat.le_of_ble_eq_true rfl) ⟨rfl, rfl⟩
  | succ j ih =>
    intro i lo hi T F hi0 hf
    refine xs_iload_n C0 d_Rb_circle_32 rfl 2 rfl ?_
    refine xs_iload_n C0 d_Rb_circle_33 rfl 1 rfl ?_
    refine xs_icmp_gt (tgt := 83) C0 d_Rb_circle_34 (by decide) (fun c9 => absurd c9 (nI_nlt (by omega) (by omega))) (fun _ => ?_)
    refine xs_aload_n C0 d_Rb_circle_37 rfl 0 rfl ?_
    refine xs_get (q := 0) (v := .ref 29) C0 f_Rb_31 d_Rb_circle_38 rfl rfl ?_
    refine xs_aload_n C0 d_Rb_circle_41 rfl 0 rfl ?_
    refine xs_get (q := 0) (v := .ref 25) C0 f_Rb_23 d_Rb_circle_42 rfl rfl ?_
    refine xs_iconst (v := 0) C0 d_Rb_circle_45 (by decide) ?_
    obtain ⟨b_1, T_2, F_3, hb_1⟩ : ∃ X Y Z, g_step ((f0, g0, n0), (f1, g1, n1), (f2, g2, n2), (f3, g3, n3), (f4, g4, n4), pl, dr, ki, ow) 0 T F = (X, Y, Z) := ⟨_, _, _, rfl⟩
    refine xs_cV1 (ω' := (wd (f0, g0, nI n0) (f1, g1, nI n1) (f2, g2, nI n2) (f3, g3, nI n3) (f4, g4, nI n4) pl dr ki ow S T_2 F_3 (lo, hi, nI i) tt ++ rest)) (As := [.ref 25, .int 0]) (st := []) (kc' := 0) (ks' := 0) (v := .int b_1) C0 d_Rb_circle_46 l_Rb_110 rfl rfl (c_stept (B := ((f0, g0, n0), (f1, g1, n1), (f2, g2, n2), (f3, g3, n3), (f4, g4, n4), pl, dr, ki, ow)) hB hb_1) rfl rfl rfl (Nat.le_of_ble_eq_true rfl) (Nat.le_of_ble_eq_true rfl) (Nat.le_of_ble_eq_true rfl) (Nat.le_of_ble_eq_true rfl) (Nat.le_of_ble_eq_true rfl) (Nat.le_of_ble_eq_true rfl) ?_
    refine xs_pop C0 d_Rb_circle_49 rfl ?_
    refine xs_aload_n C0 d_Rb_circle_50 rfl 0 rfl ?_
    refine xs_get (q := 0) (v := .ref 33) C0 f_Rb_38 d_Rb_circle_51 rfl rfl ?_
    refine xs_pc (pc' := 54) rfl ?_
    refine xs_aload_n C0 d_Rb_circle_54 rfl 0 rfl ?_
    refine xs_get (q := 0) (v := .ref 25) C0 f_Rb_23 d_Rb_circle_55 rfl rfl ?_
    obtain ⟨r_4, H_5, hr_4⟩ : ∃ X Y, g_fk T_2 (lo, hi, i) = (X, Y) := ⟨_, _, rfl⟩
    refine xs_cV1 (ω' := (wd (f0, g0, nI n0) (f1, g1, nI n1) (f2, g2, nI n2) (f3, g3, nI n3) (f4, g4, nI n4) pl dr ki ow S T_2 F_3 (hw H_5) tt ++ rest)) (As := [.ref 25]) (st := []) (kc' := 0) (ks' := 0) (v := .int r_4) C0 d_Rb_circle_58 l_Rb_132 rfl rfl (c_fok (by omega) hr_4) rfl rfl rfl (Nat.le_of_ble_eq_true rfl) (Nat.le_of_ble_eq_true rfl) (Nat.le_of_ble_eq_true rfl) (Nat.le_of_ble_eq_true rfl) (Nat.le_of_ble_eq_true rfl) (Nat.le_of_ble_eq_true rfl) ?_
    refine xs_istore_n (lv' := [(3, .int r_4), (0, .ref 0), (1, .int (nI m)), (2, .int (nI i))]) C0 d_Rb_circle_61 rfl (by decide) rfl ?_
    refine xs_iload_n C0 d_Rb_circle_62 rfl 0 rfl ?_
    refine xs_iconst (v := (-1)) C0 d_Rb_circle_63 (by decide) ?_
    refine xs_icmp_eq (tgt := 77) C0 d_Rb_circle_64 (by decide) (fun c1 => ?_) (fun c1 => ?_)
    · refine xs_iinc (v := nI (i + 1)) (lv' := [(2, .int (nI (i + 1))), (3, .int r_4), (0, .ref 0), (1, .int (nI m))]) C0 d_Rb_circle_77 3 rfl (by rw [← nI_1]; rfl) (by decide) rfl ?_
      rw [g_circ, hb_1] at hf
      dsimp only at hf
      rw [hr_4] at hf
      dsimp only at hf
      rw [if_pos c1] at hf
      have hsz : H_5.2.2 = i + 1 := by have h9 := g_fk_sz (T := T_2) (H := (lo, hi, i)) (by rw [hr_4]; exact c1); rw [hr_4] at h9; exact h9
      refine xs_goto (tgt := 32) C0 d_Rb_circle_80 (by decide) ?_
      refine xs_lv (lv' := [(0, .ref 0), (1, .int (nI m)), (2, .int (nI (i + 1)))]) [2, 3, 0] rfl ?_
      refine xs_world (ω' := (wd (f0, g0, nI n0) (f1, g1, nI n1) (f2, g2, nI n2) (f3, g3, nI n3) (f4, g4, nI n4) pl dr ki ow S T_2 F_3 (H_5.1, H_5.2.1, nI (i + 1)) tt ++ rest)) (by rw [hw_nI H_5 hsz]) ?_
      exact ih (i + 1) _ _ _ _ (by omega) (by rw [show (H_5.1, H_5.2.1, i + 1) = H_5 from by rw [← hsz]]; exact hf)
    · refine xs_iload_n C0 d_Rb_circle_67 rfl 0 rfl ?_
      refine xs_sipush (v := 1000) C0 d_Rb_circle_68 (by decide) ?_
      refine xs_iload_n C0 d_Rb_circle_71 rfl 3 rfl ?_
      refine xs_iload_n C0 d_Rb_circle_72 rfl 0 rfl ?_
      refine xs_isub C0 d_Rb_circle_73 ?_
      refine xs_imul C0 d_Rb_circle_74 ?_
      refine xs_iadd C0 d_Rb_circle_75 ?_
      rw [g_circ, hb_1] at hf
      dsimp only at hf
      rw [hr_4] at hf
      dsimp only at hf
      rw [if_neg c1] at hf
      cases hf
      cases hr
set_option maxHeartbeats 4000000 in
set_option maxRecDepth 100000 in
theorem m_circU {B : wb} {S T : wt_S} {F : wt_F} {H : wt_H} {tt : Int32} {rest : xm_O} {m : Nat} {r : Option Int32} {T1 : wt_S} {F1 : wt_F} {H1 : wh} (hB : okB B) (hm : m ≤ 500) (hz : s01 S) (h : gw (nI m) 1 500) (hf : g_circ B m 1 (f_bec S T) F (g_fk (f_bec S T) (H.1, H.2.1, 0)).2 = (r, T1, F1, H1)) (hr : r = none) : xm_M y_Rb_circle (Cond.code y_Rb_circle b_Rb_circle 4 (some .int)) (xm_rm 7 1 6) [.ref 0, .int (nI m)] (wB B S T F H tt ++ rest) (xm_eq (.inr "java/lang/UnsupportedOperationException") (wB B S T1 F1 (hw H1) tt ++ rest)) := by
  obtain ⟨⟨f0, g0, n0⟩, ⟨f1, g1, n1⟩, ⟨f2, g2, n2⟩, ⟨f3, g3, n3⟩, ⟨f4, g4, n4⟩, pl, dr, ki, ow⟩ := B
  obtain ⟨⟨h0, hp0⟩, ⟨h1, hp1⟩, ⟨h2, hp2⟩, ⟨h3, hp3⟩, ⟨h4, hp4⟩, hk⟩ := id hB
  dsimp only at h0 h1 h2 h3 h4 hp0 hp1 hp2 hp3 hp4 hk
  refine xm_of (by decide) (Nat.le_of_ble_eq_true rfl) (fun E C0 => ?_)
  refine xs_eq (ω' := (wd (f0, g0, nI n0) (f1, g1, nI n1) (f2, g2, nI n2) (f3, g3, nI n3) (f4, g4, nI n4) pl dr ki ow S T F H tt ++ rest)) (lv' := [(0, .ref 0), (1, .int (nI m))]) rfl rfl rfl ?_
  refine xs_iload_n C0 d_Rb_circle_0 rfl 1 rfl ?_
  refine xs_iconst (v := 1) C0 d_Rb_circle_1 (by decide) ?_
  refine xs_sipush (v := 500) C0 d_Rb_circle_2 (by decide) ?_
  refine xs_cS0 (ω' := (wd (f0, g0, nI n0) (f1, g1, nI n1) (f2, g2, nI n2) (f3, g3, nI n3) (f4, g4, nI n4) pl dr ki ow S T F H tt ++ rest)) (av := [.int (nI m), .int 1, .int 500]) (st := []) (kc' := 0) (ks' := 0) C0 d_Rb_circle_5 l_Rb_70 (c_nw _ (nI m) 1 500 h) rfl rfl rfl (Nat.le_of_ble_eq_true rfl) (Nat.le_of_ble_eq_true rfl) (Nat.le_of_ble_eq_true rfl) (Nat.le_of_ble_eq_true rfl) (Nat.le_of_ble_eq_true rfl) (Nat.le_of_ble_eq_true rfl) ?_
  refine xs_aload_n C0 d_Rb_circle_8 rfl 0 rfl ?_
  refine xs_get (q := 0) (v := .ref 25) C0 f_Rb_23 d_Rb_circle_9 rfl rfl ?_
  refine xs_aload_n C0 d_Rb_circle_12 rfl 0 rfl ?_
  refine xs_get (q := 0) (v := .ref 21) C0 f_Rb_19 d_Rb_circle_13 rfl rfl ?_
  obtain ⟨T_1, hT_1⟩ : ∃ X, f_bec S T = X := ⟨_, rfl⟩
  refine xs_cV0 (ω' := (wd (f0, g0, nI n0) (f1, g1, nI n1) (f2, g2, nI n2) (f3, g3, nI n3) (f4, g4, nI n4) pl dr ki ow S T_1 F H tt ++ rest)) (As := [.ref 21]) (st := []) (kc' := 0) (ks' := 0) C0 d_Rb_circle_16 l_Rb_114 rfl rfl (c_bect hz hT_1) rfl rfl rfl (Nat.le_of_ble_eq_true rfl) (Nat.le_of_ble_eq_true rfl) (Nat.le_of_ble_eq_true rfl) (Nat.le_of_ble_eq_true rfl) (Nat.le_of_ble_eq_true rfl) (Nat.le_of_ble_eq_true rfl) ?_
  refine xs_aload_n C0 d_Rb_circle_19 rfl 0 rfl ?_
  refine xs_get (q := 0) (v := .ref 33) C0 f_Rb_38 d_Rb_circle_20 rfl rfl ?_
  refine xs_aload_n C0 d_Rb_circle_23 rfl 0 rfl ?_
  refine xs_pc (pc' := 24) rfl ?_
  refine xs_get (q := 0) (v := .ref 25) C0 f_Rb_23 d_Rb_circle_24 rfl rfl ?_
  obtain ⟨lo_2, hi_2, hn_2⟩ := H
  obtain ⟨r_3, H_4, hr_3⟩ : ∃ X Y, g_fk T_1 (lo_2, hi_2, 0) = (X, Y) := ⟨_, _, rfl⟩
  refine xs_cV0 (ω' := (wd (f0, g0, nI n0) (f1, g1, nI n1) (f2, g2, nI n2) (f3, g3, nI n3) (f4, g4, nI n4) pl dr ki ow S T_1 F (hw H_4) tt ++ rest)) (As := [.ref 25]) (st := []) (kc' := 0) (ks' := 0) C0 d_Rb_circle_27 l_Rb_129 rfl rfl (c_beg hr_3) rfl rfl rfl (Nat.le_of_ble_eq_true rfl) (Nat.le_of_ble_eq_true rfl) (Nat.le_of_ble_eq_true rfl) (Nat.le_of_ble_eq_true rfl) (Nat.le_of_ble_eq_true rfl) (Nat.le_of_ble_eq_true rfl) ?_
  refine xs_iconst (v := 1) C0 d_Rb_circle_30 (by decide) ?_
  refine xs_istore_n (lv' := [(2, .int 1), (0, .ref 0), (1, .int (nI m))]) C0 d_Rb_circle_31 rfl (by decide) rfl ?_
  refine xs_lv (lv' := [(0, .ref 0), (1, .int (nI m)), (2, .int 1)]) [1, 2, 0] rfl ?_
  have h99 : (H_4).2.2 = 1 := by have h9 := g_fk_sz (T := T_1) (H := (lo_2, hi_2, 0)) (by rw [hr_3]; have h8 := congrArg Prod.fst hr_3; exact h8.symm.trans rfl); rw [hr_3] at h9; exact h9
  refine xs_world (ω' := (wd (f0, g0, nI n0) (f1, g1, nI n1) (f2, g2, nI n2) (f3, g3, nI n3) (f4, g4, nI n4) pl dr ki ow S T_1 F (H_4.1, H_4.2.1, nI 1) tt ++ rest)) (by rw [hw_nI H_4 h99]) ?_
  rw [hT_1] at hf
  rw [show g_fk T_1 (lo_2, hi_2, 0) = _ from hr_3] at hf
  dsimp only at hf
  exact lp_circU C0 hB hm hr m 1 _ _ _ _ (by omega) (by rw [show (H_4.1, H_4.2.1, 1) = H_4 from by rw [← h99]]; exact hf)
set_option maxHeartbeats 4000000 in
set_option maxRecDepth 100000 in
theorem m_circT {B : wb} {S T : wt_S} {F : wt_F} {H : wt_H} {tt : Int32} {rest : xm_O} {y : Int32} (hB : okB B) (h : ¬ gw y 1 500) : xm_M y_Rb_circle (Cond.code y_Rb_circle b_Rb_circle 4 (some .int)) (xm_rm 7 1 6) [.ref 0, .int y] (wB B S T F H tt ++ rest) (xm_eq (.inr "java/lang/IllegalArgumentException") (wB B S T F H tt ++ rest)) := by
  obtain ⟨⟨f0, g0, n0⟩, ⟨f1, g1, n1⟩, ⟨f2, g2, n2⟩, ⟨f3, g3, n3⟩, ⟨f4, g4, n4⟩, pl, dr, ki, ow⟩ := B
  obtain ⟨⟨h0, hp0⟩, ⟨h1, hp1⟩, ⟨h2, hp2⟩, ⟨h3, hp3⟩, ⟨h4, hp4⟩, hk⟩ := id hB
  dsimp only at h0 h1 h2 h3 h4 hp0 hp1 hp2 hp3 hp4 hk
  refine xm_of (by decide) (Nat.le_of_ble_eq_true rfl) (fun E C0 => ?_)
  refine xs_eq (ω' := (wd (f0, g0, nI n0) (f1, g1, nI n1) (f2, g2, nI n2) (f3, g3, nI n3) (f4, g4, nI n4) pl dr ki ow S T F H tt ++ rest)) (lv' := [(0, .ref 0), (1, .int y)]) rfl rfl rfl ?_
  refine xs_iload_n C0 d_Rb_circle_0 rfl 1 rfl ?_
  refine xs_iconst (v := 1) C0 d_Rb_circle_1 (by decide) ?_
  refine xs_sipush (v := 500) C0 d_Rb_circle_2 (by decide) ?_
  exact xs_cST (av := [.int y, .int 1, .int 500]) (st := []) C0 d_Rb_circle_5 l_Rb_70 (c_nwT _ y 1 500 h) rfl rfl rfl (Nat.le_of_ble_eq_true rfl) (Nat.le_of_ble_eq_true rfl) (Nat.le_of_ble_eq_true rfl) (Nat.le_of_ble_eq_true rfl) (xt_leave C0 ⟨rfl, rfl⟩ (Nat.le_of_ble_eq_true rfl) (Nat.le_of_ble_eq_true rfl))
