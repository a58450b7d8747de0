set_option maxHeartbeats 4000000 in
set_option maxRecDepth 100000 in
theorem lp_reacho {P0 P1 P2 P3 P4 : wt_P} {pl dr ki ow : Nat → Int32} {S T : wt_S} {on bk : Nat → Int64} {ho co : Int64} {cg m1 m2 m3 m4 : Int32} {H : wt_H} {tt : Int32} {rest : xm_O} {R : Int64} {E : xm_X} {Q : State → Prop} (C0 : xm_C E y_Fl_reach.cls b_Fl_reach 10 (some .long) [] y_Fl_reach.name (xm_rm 2 0 0)) (hnx : okR on) (kx : xm_W E 10 Q 0 0 (wd P0 P1 P2 P3 P4 pl dr ki ow S T (on, bk, ho, co, cg, m1, m2, m3, m4) H tt ++ rest) 66 [(2, .long R)] []) : ∀ j : Nat, ∀ (i : Nat) (re op : Int64), i + j = 48 → b48 op → f_rl on j re op = R → xm_W E 10 Q 0 0 (wd P0 P1 P2 P3 P4 pl dr ki ow S T (on, bk, ho, co, cg, m1, m2, m3, m4) H tt ++ rest) 10 [(0, .ref 31), (2, .long re), (4, .long op), (6, .int (nI i))] [] := by
  intro j
  induction j with
  | zero =>
    intro i re op hi hop hR
    have e : 48 = i := by omega
    subst e
    rw [f_rl] at hR
    subst hR
    refine xs_iload C0 d_Fl_reach_10 3 rfl ?_
    refine xs_bipush (v := 48) C0 d_Fl_reach_12 (by decide) ?_
    refine xs_icmp_ge (tgt := 66) C0 d_Fl_reach_14 (by decide) (fun _ => ?_) (fun c9 => absurd (nI_le (Nat.le_refl 48) (by decide)) c9)
    refine xs_lv (lv' := [(2, .long re)]) [1] rfl ?_
    exact kx
  | succ j ih =>
    intro i re op hi hop hR
    have hlt : i < 48 := by omega
    refine xs_iload C0 d_Fl_reach_10 3 rfl ?_
    refine xs_bipush (v := 48) C0 d_Fl_reach_12 (by decide) ?_
    refine xs_icmp_ge (tgt := 66) C0 d_Fl_reach_14 (by decide) (fun c9 => absurd c9 (nI_ge hlt (by decide))) (fun _ => ?_)
    refine xs_lload C0 d_Fl_reach_17 2 rfl ?_
    refine xs_lconst (v := 0) C0 d_Fl_reach_19 rfl ?_
    refine xs_lcmp C0 d_Fl_reach_20 ?_
    refine xs_if_eq (tgt := 66) C0 d_Fl_reach_21 (by decide) (fun c1 => ?_) (fun c1 => ?_)
    · have e0 : op = 0 := lg_cmp0.mp c1
      rw [f_rl, if_pos e0] at hR
      subst hR
      refine xs_lv (lv' := [(2, .long re)]) [1] rfl ?_
      exact kx
    · have e0 : ¬ op = 0 := fun h => c1 (lg_cmp0.mpr h)
      rw [f_rl, if_neg e0] at hR
      have hin := b48_in hop e0
      have hrow : b48 (on (f_ltz op).toNatClampNeg) := by
        obtain ⟨t9, ht9, e9⟩ := pl_node hin
        rw [e9, nI_clamp (by omega)]; exact hnx t9 ht9
      refine xs_lload C0 d_Fl_reach_24 2 rfl ?_
      refine xs_cS1 (ω' := (wd P0 P1 P2 P3 P4 pl dr ki ow S T (on, bk, ho, co, cg, m1, m2, m3, m4) H tt ++ rest)) (av := [.long op]) (st := []) (kc' := 0) (ks' := 0) (v := .int (f_ltz op)) C0 d_Fl_reach_26 l_Fl_127 (c_ltz _ op) rfl rfl rfl (Nat.le_of_ble_eq_true rfl) (Nat.le_of_ble_eq_true rfl) (Nat.le_of_ble_eq_true rfl) (Nat.le_of_ble_eq_true rfl) (Nat.le_of_ble_eq_true rfl) (Nat.le_of_ble_eq_true rfl) ?_
      refine xs_istore (lv' := [(7, .int (f_ltz op)), (0, .ref 31), (2, .long re), (4, .long op), (6, .int (nI i))]) C0 d_Fl_reach_29 (by decide) rfl ?_
      refine xs_aload_n C0 d_Fl_reach_31 rfl 1 rfl ?_
      refine xs_iload C0 d_Fl_reach_32 0 rfl ?_
      refine xs_lald C0 d_Fl_reach_34 rfl (by assumption) ?_
      refine xs_lload_n C0 d_Fl_reach_35 rfl 2 rfl ?_
      refine xs_ldc2 (v := (-1)) C0 d_Fl_reach_36 k_281 ?_
      refine xs_lxor C0 d_Fl_reach_39 ?_
      refine xs_land C0 d_Fl_reach_40 ?_
      refine xs_lstore (lv' := [(8, .long ((on (f_ltz op).toNatClampNeg) &&& (re ^^^ (-1)))), (7, .int (f_ltz op)), (0, .ref 31), (2, .long re), (4, .long op), (6, .int (nI i))]) C0 d_Fl_reach_41 (by decide) rfl ?_
      refine xs_lload_n C0 d_Fl_reach_43 rfl 3 rfl ?_
      refine xs_pc (pc' := 44) rfl ?_
      refine xs_lload C0 d_Fl_reach_44 0 rfl ?_
      refine xs_lor C0 d_Fl_reach_46 ?_
      refine xs_lstore_n (lv' := [(2, .long (re ||| ((on (f_ltz op).toNatClampNeg) &&& (re ^^^ (-1))))), (8, .long ((on (f_ltz op).toNatClampNeg) &&& (re ^^^ (-1)))), (7, .int (f_ltz op)), (0, .ref 31), (4, .long op), (6, .int (nI i))]) C0 d_Fl_reach_47 rfl (by decide) rfl ?_
      refine xs_lload C0 d_Fl_reach_48 4 rfl ?_
      refine xs_lload C0 d_Fl_reach_50 4 rfl ?_
      refine xs_lconst (v := 1) C0 d_Fl_reach_52 rfl ?_
      refine xs_lsub C0 d_Fl_reach_53 ?_
      refine xs_land C0 d_Fl_reach_54 ?_
      refine xs_lload C0 d_Fl_reach_55 1 rfl ?_
      refine xs_lor C0 d_Fl_reach_57 ?_
      refine xs_lstore (lv' := [(4, .long ((op &&& (op - 1)) ||| ((on (f_ltz op).toNatClampNeg) &&& (re ^^^ (-1))))), (2, .long (re ||| ((on (f_ltz op).toNatClampNeg) &&& (re ^^^ (-1))))), (8, .long ((on (f_ltz op).toNatClampNeg) &&& (re ^^^ (-1)))), (7, .int (f_ltz op)), (0, .ref 31), (6, .int (nI i))]) C0 d_Fl_reach_58 (by decide) rfl ?_
      refine xs_iinc (v := nI (i + 1)) (lv' := [(6, .int (nI (i + 1))), (4, .long ((op &&& (op - 1)) ||| ((on (f_ltz op).toNatClampNeg) &&& (re ^^^ (-1))))), (2, .long (re ||| ((on (f_ltz op).toNatClampNeg) &&& (re ^^^ (-1))))), (8, .long ((on (f_ltz op).toNatClampNeg) &&& (re ^^^ (-1)))), (7, .int (f_ltz op)), (0, .ref 31)]) C0 d_Fl_reach_60 5 rfl (by rw [← nI_1]; rfl) (by decide) rfl ?_
      refine xs_pc (pc' := 63) rfl ?_
      refine xs_goto (tgt := 10) C0 d_Fl_reach_63 (by decide) ?_
      refine xs_lv (lv' := [(0, .ref 31), (2, .long (re ||| ((on (f_ltz op).toNatClampNeg) &&& (re ^^^ (-1))))), (4, .long ((op &&& (op - 1)) ||| ((on (f_ltz op).toNatClampNeg) &&& (re ^^^ (-1))))), (6, .int (nI (i + 1)))]) [5, 2, 1, 0] rfl ?_
      exact ih (i + 1) _ _ (by omega) (b48_or (b48_and hop) (b48_and hrow)) hR
set_option maxHeartbeats 4000000 in
set_option maxRecDepth 100000 in
theorem c_reacho {P0 P1 P2 P3 P4 : wt_P} {pl dr ki ow : Nat → Int32} {S T : wt_S} {on bk : Nat → Int64} {ho co : Int64} {cg m1 m2 m3 m4 : Int32} {H : wt_H} {tt : Int32} {rest : xm_O} {fr : Int32} (hnx : okR on) (hfr : vp_in fr 48) : xm_M y_Fl_reach (Cond.code y_Fl_reach b_Fl_reach 10 (some .long)) (xm_rm 2 0 0) [.ref 31, .int fr] (wd P0 P1 P2 P3 P4 pl dr ki ow S T (on, bk, ho, co, cg, m1, m2, m3, m4) H tt ++ rest) (xm_eq (.inl (some (.long (f_reach on fr)))) (wd P0 P1 P2 P3 P4 pl dr ki ow S T (on, bk, ho, co, cg, m1, m2, m3, m4) H tt ++ rest)) := by
  refine xm_of (by decide) (Nat.le_of_ble_eq_true rfl) (fun E C0 => ?_)
  refine xs_eq (lv' := [(0, .ref 31), (1, .int fr)]) rfl rfl rfl ?_
  refine xs_lconst (v := 1) C0 d_Fl_reach_0 rfl ?_
  refine xs_iload_n C0 d_Fl_reach_1 rfl 1 rfl ?_
  refine xs_lshl C0 d_Fl_reach_2 ?_
  refine xs_lstore_n (lv' := [(2, .long ((1 : Int64) <<< (fr.toInt64 &&& 63))), (0, .ref 31), (1, .int fr)]) C0 d_Fl_reach_3 rfl (by decide) rfl ?_
  refine xs_lload_n C0 d_Fl_reach_4 rfl 0 rfl ?_
  refine xs_lstore (lv' := [(4, .long ((1 : Int64) <<< (fr.toInt64 &&& 63))), (2, .long ((1 : Int64) <<< (fr.toInt64 &&& 63))), (0, .ref 31), (1, .int fr)]) C0 d_Fl_reach_5 (by decide) rfl ?_
  refine xs_iconst (v := 0) C0 d_Fl_reach_7 (by decide) ?_
  refine xs_istore (lv' := [(6, .int 0), (4, .long ((1 : Int64) <<< (fr.toInt64 &&& 63))), (2, .long ((1 : Int64) <<< (fr.toInt64 &&& 63))), (0, .ref 31), (1, .int fr)]) C0 d_Fl_reach_8 (by decide) rfl ?_
  refine xs_lv (lv' := [(0, .ref 31), (2, .long ((1 : Int64) <<< (fr.toInt64 &&& 63))), (4, .long ((1 : Int64) <<< (fr.toInt64 &&& 63))), (6, .int 0)]) [3, 2, 1, 0] rfl ?_
  refine lp_reacho (R := f_reach on fr) C0 hnx ?_ 48 0 _ _ (by omega) (b48_one hfr) rfl
  refine xs_lload_n C0 d_Fl_reach_66 rfl 0 rfl ?_
  exact xs_lret C0 d_Fl_reach_67 ⟨rfl, rfl⟩ (Nat.le_of_ble_eq_true rfl) (Nat.le_of_ble_eq_true rfl)
set_option maxHeartbeats 4000000 in
set_option maxRecDepth 100000 in
theorem lp_reachb {P0 P1 P2 P3 P4 : wt_P} {pl dr ki ow : Nat → Int32} {S T : wt_S} {on bk : Nat → Int64} {ho co : Int64} {cg m1 m2 m3 m4 : Int32} {H : wt_H} {tt : Int32} {rest : xm_O} {R : Int64} {E : xm_X} {Q : State → Prop} (C0 : xm_C E y_Fl_reach.cls b_Fl_reach 10 (some .long) [] y_Fl_reach.name (xm_rm 2 0 0)) (hnx : okR bk) (kx : xm_W E 10 Q 0 0 (wd P0 P1 P2 P3 P4 pl dr ki ow S T (on, bk, ho, co, cg, m1, m2, m3, m4) H tt ++ rest) 66 [(2, .long R)] []) : ∀ j : Nat, ∀ (i : Nat) (re op : Int64), i + j = 48 → b48 op → f_rl bk j re op = R → xm_W E 10 Q 0 0 (wd P0 P1 P2 P3 P4 pl dr ki ow S T (on, bk, ho, co, cg, m1, m2, m3, m4) H tt ++ rest) 10 [(0, .ref 32), (2, .long re), (4, .long op), (6, .int (nI i))] [] := by
  intro j
  induction j with
  | zero =>
    intro i re op hi hop hR
    have e : 48 = i := by omega
    subst e
    rw [f_rl] at hR
    subst hR
    refine xs_iload C0 d_Fl_reach_10 3 rfl ?_
    refine xs_bipush (v := 48) C0 d_Fl_reach_12 (by decide) ?_
    refine xs_icmp_ge (tgt := 66) C0 d_Fl_reach_14 (by decide) (fun _ => ?_) (fun c9 => absurd (nI_le (Nat.le_refl 48) (by decide)) c9)
    refine xs_lv (lv' := [(2, .long re)]) [1] rfl ?_
    exact kx
  | succ j ih =>
    intro i re op hi hop hR
    have hlt : i < 48 := by omega
    refine xs_iload C0 d_Fl_reach_10 3 rfl ?_
    refine xs_bipush (v := 48) C0 d_Fl_reach_12 (by decide) ?_
    refine xs_icmp_ge (tgt := 66) C0 d_Fl_reach_14 (by decide) (fun c9 => absurd c9 (nI_ge hlt (by decide))) (fun _ => ?_)
    refine xs_lload C0 d_Fl_reach_17 2 rfl ?_
    refine xs_lconst (v := 0) C0 d_Fl_reach_19 rfl ?_
    refine xs_lcmp C0 d_Fl_reach_20 ?_
    refine xs_if_eq (tgt := 66) C0 d_Fl_reach_21 (by decide) (fun c1 => ?_) (fun c1 => ?_)
    · have e0 : op = 0 := lg_cmp0.mp c1
      rw [f_rl, if_pos e0] at hR
      subst hR
      refine xs_lv (lv' := [(2, .long re)]) [1] rfl ?_
      exact kx
    · have e0 : ¬ op = 0 := fun h => c1 (lg_cmp0.mpr h)
      rw [f_rl, if_neg e0] at hR
      have hin := b48_in hop e0
      have hrow : b48 (bk (f_ltz op).toNatClampNeg) := by
        obtain ⟨t9, ht9, e9⟩ := pl_node hin
        rw [e9, nI_clamp (by omega)]; exact hnx t9 ht9
      refine xs_lload C0 d_Fl_reach_24 2 rfl ?_
      refine xs_cS1 (ω' := (wd P0 P1 P2 P3 P4 pl dr ki ow S T (on, bk, ho, co, cg, m1, m2, m3, m4) H tt ++ rest)) (av := [.long op]) (st := []) (kc' := 0) (ks' := 0) (v := .int (f_ltz op)) C0 d_Fl_reach_26 l_Fl_127 (c_ltz _ op) rfl rfl rfl (Nat.le_of_ble_eq_true rfl) (Nat.le_of_ble_eq_true rfl) (Nat.le_of_ble_eq_true rfl) (Nat.le_of_ble_eq_true rfl) (Nat.le_of_ble_eq_true rfl) (Nat.le_of_ble_eq_true rfl) ?_
      refine xs_istore (lv' := [(7, .int (f_ltz op)), (0, .ref 32), (2, .long re), (4, .long op), (6, .int (nI i))]) C0 d_Fl_reach_29 (by decide) rfl ?_
      refine xs_aload_n C0 d_Fl_reach_31 rfl 1 rfl ?_
      refine xs_iload C0 d_Fl_reach_32 0 rfl ?_
      refine xs_lald C0 d_Fl_reach_34 rfl (by assumption) ?_
      refine xs_lload_n C0 d_Fl_reach_35 rfl 2 rfl ?_
      refine xs_ldc2 (v := (-1)) C0 d_Fl_reach_36 k_281 ?_
      refine xs_lxor C0 d_Fl_reach_39 ?_
      refine xs_land C0 d_Fl_reach_40 ?_
      refine xs_lstore (lv' := [(8, .long ((bk (f_ltz op).toNatClampNeg) &&& (re ^^^ (-1)))), (7, .int (f_ltz op)), (0, .ref 32), (2, .long re), (4, .long op), (6, .int (nI i))]) C0 d_Fl_reach_41 (by decide) rfl ?_
      refine xs_lload_n C0 d_Fl_reach_43 rfl 3 rfl ?_
      refine xs_pc (pc' := 44) rfl ?_
      refine xs_lload C0 d_Fl_reach_44 0 rfl ?_
      refine xs_lor C0 d_Fl_reach_46 ?_
      refine xs_lstore_n (lv' := [(2, .long (re ||| ((bk (f_ltz op).toNatClampNeg) &&& (re ^^^ (-1))))), (8, .long ((bk (f_ltz op).toNatClampNeg) &&& (re ^^^ (-1)))), (7, .int (f_ltz op)), (0, .ref 32), (4, .long op), (6, .int (nI i))]) C0 d_Fl_reach_47 rfl (by decide) rfl ?_
      refine xs_lload C0 d_Fl_reach_48 4 rfl ?_
      refine xs_lload C0 d_Fl_reach_50 4 rfl ?_
      refine xs_lconst (v := 1) C0 d_Fl_reach_52 rfl ?_
      refine xs_lsub C0 d_Fl_reach_53 ?_
      refine xs_land C0 d_Fl_reach_54 ?_
      refine xs_lload C0 d_Fl_reach_55 1 rfl ?_
      refine xs_lor C0 d_Fl_reach_57 ?_
      refine xs_lstore (lv' := [(4, .long ((op &&& (op - 1)) ||| ((bk (f_ltz op).toNatClampNeg) &&& (re ^^^ (-1))))), (2, .long (re ||| ((bk (f_ltz op).toNatClampNeg) &&& (re ^^^ (-1))))), (8, .long ((bk (f_ltz op).toNatClampNeg) &&& (re ^^^ (-1)))), (7, .int (f_ltz op)), (0, .ref 32), (6, .int (nI i))]) C0 d_Fl_reach_58 (by decide) rfl ?_
      refine xs_iinc (v := nI (i + 1)) (lv' := [(6, .int (nI (i + 1))), (4, .long ((op &&& (op - 1)) ||| ((bk (f_ltz op).toNatClampNeg) &&& (re ^^^ (-1))))), (2, .long (re ||| ((bk (f_ltz op).toNatClampNeg) &&& (re ^^^ (-1))))), (8, .long ((bk (f_ltz op).toNatClampNeg) &&& (re ^^^ (-1)))), (7, .int (f_ltz op)), (0, .ref 32)]) C0 d_Fl_reach_60 5 rfl (by rw [← nI_1]; rfl) (by decide) rfl ?_
      refine xs_pc (pc' := 63) rfl ?_
      refine xs_goto (tgt := 10) C0 d_Fl_reach_63 (by decide) ?_
      refine xs_lv (lv' := [(0, .ref 32), (2, .long (re ||| ((bk (f_ltz op).toNatClampNeg) &&& (re ^^^ (-1))))), (4, .long ((op &&& (op - 1)) ||| ((bk (f_ltz op).toNatClampNeg) &&& (re ^^^ (-1))))), (6, .int (nI (i + 1)))]) [5, 2, 1, 0] rfl ?_
      exact ih (i + 1) _ _ (by omega) (b48_or (b48_and hop) (b48_and hrow)) hR
set_option maxHeartbeats 4000000 in
set_option maxRecDepth 100000 in
theorem c_reachb {P0 P1 P2 P3 P4 : wt_P} {pl dr ki ow : Nat → Int32} {S T : wt_S} {on bk : Nat → Int64} {ho co : Int64} {cg m1 m2 m3 m4 : Int32} {H : wt_H} {tt : Int32} {rest : xm_O} {fr : Int32} (hnx : okR bk) (hfr : vp_in fr 48) : xm_M y_Fl_reach (Cond.code y_Fl_reach b_Fl_reach 10 (some .long)) (xm_rm 2 0 0) [.ref 32, .int fr] (wd P0 P1 P2 P3 P4 pl dr ki ow S T (on, bk, ho, co, cg, m1, m2, m3, m4) H tt ++ rest) (xm_eq (.inl (some (.long (f_reach bk fr)))) (wd P0 P1 P2 P3 P4 pl dr ki ow S T (on, bk, ho, co, cg, m1, m2, m3, m4) H tt ++ rest)) := by
  refine xm_of (by decide) (Nat.le_of_ble_eq_true rfl) (fun E C0 => ?_)
  refine xs_eq (lv' := [(0, .ref 32), (1, .int fr)]) rfl rfl rfl ?_
  refine xs_lconst (v := 1) C0 d_Fl_reach_0 rfl ?_
  refine xs_iload_n C0 d_Fl_reach_1 rfl 1 rfl ?_
  refine xs_lshl C0 d_Fl_reach_2 ?_
  refine xs_lstore_n (lv' := [(2, .long ((1 : Int64) <<< (fr.toInt64 &&& 63))), (0, .ref 32), (1, .int fr)]) C0 d_Fl_reach_3 rfl (by decide) rfl ?_
  refine xs_lload_n C0 d_Fl_reach_4 rfl 0 rfl ?_
  refine xs_lstore (lv' := [(4, .long ((1 : Int64) <<< (fr.toInt64 &&& 63))), (2, .long ((1 : Int64) <<< (fr.toInt64 &&& 63))), (0, .ref 32), (1, .int fr)]) C0 d_Fl_reach_5 (by decide) rfl ?_
  refine xs_iconst (v := 0) C0 d_Fl_reach_7 (by decide) ?_
  refine xs_istore (lv' := [(6, .int 0), (4, .long ((1 : Int64) <<< (fr.toInt64 &&& 63))), (2, .long ((1 : Int64) <<< (fr.toInt64 &&& 63))), (0, .ref 32), (1, .int fr)]) C0 d_Fl_reach_8 (by decide) rfl ?_
  refine xs_lv (lv' := [(0, .ref 32), (2, .long ((1 : Int64) <<< (fr.toInt64 &&& 63))), (4, .long ((1 : Int64) <<< (fr.toInt64 &&& 63))), (6, .int 0)]) [3, 2, 1, 0] rfl ?_
  refine lp_reachb (R := f_reach bk fr) C0 hnx ?_ 48 0 _ _ (by omega) (b48_one hfr) rfl
  refine xs_lload_n C0 d_Fl_reach_66 rfl 0 rfl ?_
  exact xs_lret C0 d_Fl_reach_67 ⟨rfl, rfl⟩ (Nat.le_of_ble_eq_true rfl) (Nat.le_of_ble_eq_true rfl)
set_option maxHeartbeats 4000000 in
set_option maxRecDepth 100000 in
theorem lp_jcn {P0 P2 P3 P4 : wt_P} {pl dr ki ow : Nat → Int32} {S T : wt_S} {H : wt_H} {tt : Int32} {rest : xm_O} {f g : Nat → Int32} {n : Nat} {F0 : wt_F} {E : xm_X} {Q : State → Prop} (C0 : xm_C E y_Fl_joinContacts.cls b_Fl_joinContacts 4 none [] y_Fl_joinContacts.name (xm_rm 1 0 0)) (hn : n ≤ 64) (hp : ∀ c, c < n → vp_in (f c) 48 ∧ vp_in (g c) 48) (hk : okK ki n) (kx : ∀ F, f_jc f g ki ow S F0 n = F → xm_W E 4 Q 0 0 (wd P0 (f, g, nI n) P2 P3 P4 pl dr ki ow S T F H tt ++ rest) 99 [] []) : ∀ j : Nat, ∀ (i : Nat) (F : wt_F), i + j = n → f_jc f g ki ow S F0 i = F → xm_W E 4 Q 0 0 (wd P0 (f, g, nI n) P2 P3 P4 pl dr ki ow S T F H tt ++ rest) 15 [(0, .ref 30), (1, .ref 21), (2, .ref 5), (3, .int (nI i))] [] := by
  intro j
  induction j with
  | zero =>
    intro i F hi hF
    have e : n = i := by omega
    subst e
    refine xs_iload_n C0 d_Fl_joinContacts_15 rfl 3 rfl ?_
    refine xs_aload_n C0 d_Fl_joinContacts_16 rfl 2 rfl ?_
    refine xs_get (q := 5) (v := .int (nI n)) C0 f_Fl_80 d_Fl_joinContacts_17 rfl rfl ?_
    refine xs_icmp_ge (tgt := 99) C0 d_Fl_joinContacts_20 (by decide) (fun _ => ?_) (fun c9 => absurd (nI_le (Nat.le_refl _) (by omega)) c9)
    refine xs_lv (lv' := []) [] rfl ?_
    exact kx F hF
  | succ j ih =>
    intro i F hi hF
    have hlt : i < n := by omega
    obtain ⟨ha1, ha2⟩ := hp i hlt
    have hk1 := hk i hlt
    refine xs_iload_n C0 d_Fl_joinContacts_15 rfl 3 rfl ?_
    refine xs_aload_n C0 d_Fl_joinContacts_16 rfl 2 rfl ?_
    refine xs_get (q := 5) (v := .int (nI n)) C0 f_Fl_80 d_Fl_joinContacts_17 rfl rfl ?_
    refine xs_icmp_ge (tgt := 99) C0 d_Fl_joinContacts_20 (by decide) (fun c9 => absurd c9 (nI_ge hlt (by omega))) (fun _ => ?_)
    refine xs_aload_n C0 d_Fl_joinContacts_23 rfl 1 rfl ?_
    refine xs_aload_n C0 d_Fl_joinContacts_24 rfl 0 rfl ?_
    refine xs_get (q := 30) (v := .ref 1) C0 f_Fl_41 d_Fl_joinContacts_25 rfl rfl ?_
    refine xs_get (q := 1) (v := .ref 19) C0 f_Fl_103 d_Fl_joinContacts_28 rfl rfl ?_
    refine xs_iload_n C0 d_Fl_joinContacts_31 rfl 3 rfl ?_
    refine xs_iald C0 d_Fl_joinContacts_32 rfl (vp_in_nI (n := i) (by omega) (by decide)) ?_
    refine xs_top (v' := .int (ki i)) (by rw [nI_clamp (by omega)]) ?_
    refine xs_cV1 (ω' := (wd P0 (f, g, nI n) P2 P3 P4 pl dr ki ow S T F H tt ++ rest)) (As := [.int (ki i)]) (st := []) (kc' := 0) (ks' := 0) (v := .int (f_rc S (ki i))) C0 d_Fl_joinContacts_33 l_Fl_106 rfl rfl (c_rcn (ki i) (by assumption)) rfl rfl rfl (Nat.le_of_ble_eq_true rfl) (Nat.le_of_ble_eq_true rfl) (Nat.le_of_ble_eq_true rfl) (Nat.le_of_ble_eq_true rfl) (Nat.le_of_ble_eq_true rfl) (Nat.le_of_ble_eq_true rfl) ?_
    refine xs_aload_n C0 d_Fl_joinContacts_36 rfl 0 rfl ?_
    refine xs_pc (pc' := 37) rfl ?_
    refine xs_get (q := 30) (v := .ref 1) C0 f_Fl_41 d_Fl_joinContacts_37 rfl rfl ?_
    refine xs_get (q := 1) (v := .ref 20) C0 f_Fl_110 d_Fl_joinContacts_40 rfl rfl ?_
    refine xs_iload_n C0 d_Fl_joinContacts_43 rfl 3 rfl ?_
    refine xs_iald C0 d_Fl_joinContacts_44 rfl (vp_in_nI (n := i) (by omega) (by decide)) ?_
    refine xs_top (v' := .int (ow i)) (by rw [nI_clamp (by omega)]) ?_
    refine xs_cS1 (ω' := (wd P0 (f, g, nI n) P2 P3 P4 pl dr ki ow S T F H tt ++ rest)) (av := [.int (f_rc S (ki i)), .int (ow i)]) (st := []) (kc' := 0) (ks' := 0) (v := .int (f_hb (f_rc S (ki i)) (ow i))) C0 d_Fl_joinContacts_45 l_Fl_113 (c_hb _ (f_rc S (ki i)) (ow i)) rfl rfl rfl (Nat.le_of_ble_eq_true rfl) (Nat.le_of_ble_eq_true rfl) (Nat.le_of_ble_eq_true rfl) (Nat.le_of_ble_eq_true rfl) (Nat.le_of_ble_eq_true rfl) (Nat.le_of_ble_eq_true rfl) ?_
    refine xs_if_eq (tgt := 93) C0 d_Fl_joinContacts_48 (by decide) (fun c1 => ?_) (fun c1 => ?_)
    · refine xs_iinc (v := nI (i + 1)) (lv' := [(3, .int (nI (i + 1))), (0, .ref 30), (1, .ref 21), (2, .ref 5)]) C0 d_Fl_joinContacts_93 3 rfl (by rw [← nI_1]; rfl) (by decide) rfl ?_
      refine xs_goto (tgt := 15) C0 d_Fl_joinContacts_96 (by decide) ?_
      refine xs_lv (lv' := [(0, .ref 30), (1, .ref 21), (2, .ref 5), (3, .int (nI (i + 1)))]) [1, 2, 3, 0] rfl ?_
      exact ih (i + 1) F (by omega) (by rw [f_jc, if_pos c1]; exact hF)
    · refine xs_aload_n C0 d_Fl_joinContacts_51 rfl 0 rfl ?_
      refine xs_aload_n C0 d_Fl_joinContacts_52 rfl 2 rfl ?_
      refine xs_get (q := 5) (v := .ref 6) C0 f_Fl_85 d_Fl_joinContacts_53 rfl rfl ?_
      refine xs_iload_n C0 d_Fl_joinContacts_56 rfl 3 rfl ?_
      refine xs_iald C0 d_Fl_joinContacts_57 rfl (vp_in_nI (n := i) (by omega) (by decide)) ?_
      refine xs_top (v' := .int (f i)) (by rw [nI_clamp (by omega)]) ?_
      refine xs_aload_n C0 d_Fl_joinContacts_58 rfl 2 rfl ?_
      refine xs_get (q := 5) (v := .ref 7) C0 f_Fl_89 d_Fl_joinContacts_59 rfl rfl ?_
      refine xs_iload_n C0 d_Fl_joinContacts_62 rfl 3 rfl ?_
      refine xs_iald C0 d_Fl_joinContacts_63 rfl (vp_in_nI (n := i) (by omega) (by decide)) ?_
      refine xs_top (v' := .int (g i)) (by rw [nI_clamp (by omega)]) ?_
      obtain ⟨F_1, hF_1⟩ : ∃ X, f_join F (f i) (g i) = X := ⟨_, rfl⟩
      refine xs_cV0 (ω' := (wd P0 (f, g, nI n) P2 P3 P4 pl dr ki ow S T F_1 H tt ++ rest)) (As := [.int (f i), .int (g i)]) (st := []) (kc' := 0) (ks' := 0) C0 d_Fl_joinContacts_64 l_Fl_117 rfl rfl (c_join (by assumption) (by assumption) hF_1) rfl rfl rfl (Nat.le_of_ble_eq_true rfl) (Nat.le_of_ble_eq_true rfl) (Nat.le_of_ble_eq_true rfl) (Nat.le_of_ble_eq_true rfl) (Nat.le_of_ble_eq_true rfl) (Nat.le_of_ble_eq_true rfl) ?_
      refine xs_aload_n C0 d_Fl_joinContacts_67 rfl 0 rfl ?_
      refine xs_aload_n C0 d_Fl_joinContacts_68 rfl 2 rfl ?_
      refine xs_pc (pc' := 69) rfl ?_
      refine xs_get (q := 5) (v := .ref 7) C0 f_Fl_89 d_Fl_joinContacts_69 rfl rfl ?_
      refine xs_iload_n C0 d_Fl_joinContacts_72 rfl 3 rfl ?_
      refine xs_iald C0 d_Fl_joinContacts_73 rfl (vp_in_nI (n := i) (by omega) (by decide)) ?_
      refine xs_top (v' := .int (g i)) (by rw [nI_clamp (by omega)]) ?_
      refine xs_aload_n C0 d_Fl_joinContacts_74 rfl 2 rfl ?_
      refine xs_get (q := 5) (v := .ref 6) C0 f_Fl_85 d_Fl_joinContacts_75 rfl rfl ?_
      refine xs_iload_n C0 d_Fl_joinContacts_78 rfl 3 rfl ?_
      refine xs_iald C0 d_Fl_joinContacts_79 rfl (vp_in_nI (n := i) (by omega) (by decide)) ?_
      refine xs_top (v' := .int (f i)) (by rw [nI_clamp (by omega)]) ?_
      obtain ⟨F_2, hF_2⟩ : ∃ X, f_join F_1 (g i) (f i) = X := ⟨_, rfl⟩
      refine xs_cV0 (ω' := (wd P0 (f, g, nI n) P2 P3 P4 pl dr ki ow S T F_2 H tt ++ rest)) (As := [.int (g i), .int (f i)]) (st := []) (kc' := 0) (ks' := 0) C0 d_Fl_joinContacts_80 l_Fl_117 rfl rfl (c_join (by assumption) (by assumption) hF_2) rfl rfl rfl (Nat.le_of_ble_eq_true rfl) (Nat.le_of_ble_eq_true rfl) (Nat.le_of_ble_eq_true rfl) (Nat.le_of_ble_eq_true rfl) (Nat.le_of_ble_eq_true rfl) (Nat.le_of_ble_eq_true rfl) ?_
      refine xs_aload_n C0 d_Fl_joinContacts_83 rfl 0 rfl ?_
      refine xs_dup C0 d_Fl_joinContacts_84 rfl ?_
      obtain ⟨on_3, bk_3, ho_3, co_3, cg_3, m1_3, m2_3, m3_3, m4_3⟩ := F_2
      refine xs_get (q := 30) (v := .int cg_3) C0 f_Fl_25 d_Fl_joinContacts_85 rfl rfl ?_
      refine xs_iconst (v := 1) C0 d_Fl_joinContacts_88 (by decide) ?_
      refine xs_pc (pc' := 89) rfl ?_
      refine xs_iadd C0 d_Fl_joinContacts_89 ?_
      refine xs_put (ω' := (wd P0 (f, g, nI n) P2 P3 P4 pl dr ki ow S T (on_3, bk_3, ho_3, co_3, (cg_3 + 1), m1_3, m2_3, m3_3, m4_3) H tt ++ rest)) C0 f_Fl_25 ty_Fl_5 d_Fl_joinContacts_90 rfl (Nat.le_of_ble_eq_true rfl) (fun _ => ⟨rfl, rfl⟩) rfl ?_
      refine xs_iinc (v := nI (i + 1)) (lv' := [(3, .int (nI (i + 1))), (0, .ref 30), (1, .ref 21), (2, .ref 5)]) C0 d_Fl_joinContacts_93 3 rfl (by rw [← nI_1]; rfl) (by decide) rfl ?_
      refine xs_goto (tgt := 15) C0 d_Fl_joinContacts_96 (by decide) ?_
      refine xs_lv (lv' := [(0, .ref 30), (1, .ref 21), (2, .ref 5), (3, .int (nI (i + 1)))]) [1, 2, 3, 0] rfl ?_
      exact ih (i + 1) (on_3, bk_3, ho_3, co_3, (cg_3 + 1), m1_3, m2_3, m3_3, m4_3) (by omega) (by rw [f_jc, if_neg c1, f_j2, hF, hF_1, hF_2]; rfl)
set_option maxHeartbeats 4000000 in
set_option maxRecDepth 100000 in
theorem c_jcn {P0 P2 P3 P4 : wt_P} {pl dr ki ow : Nat → Int32} {S T : wt_S} {H : wt_H} {tt : Int32} {rest : xm_O} {f g : Nat → Int32} {n : Nat} {on bk : Nat → Int64} {ho co : Int64} {cg m1 m2 m3 m4 : Int32} {F1 : wt_F} (hn : n ≤ 64) (hp : ∀ c, c < n → vp_in (f c) 48 ∧ vp_in (g c) 48) (hk : okK ki n) (hf : f_jc f g ki ow S (on, bk, ho, co, 0, m1, m2, m3, m4) n = F1) : xm_M y_Fl_joinContacts (Cond.code y_Fl_joinContacts b_Fl_joinContacts 4 none) (xm_rm 1 0 0) [.ref 30, .ref 21] (wd P0 (f, g, nI n) P2 P3 P4 pl dr ki ow S T (on, bk, ho, co, cg, m1, m2, m3, m4) H tt ++ rest) (xm_eq (.inl none) (wd P0 (f, g, nI n) P2 P3 P4 pl dr ki ow S T F1 H tt ++ rest)) := by
  refine xm_of (by decide) (Nat.le_of_ble_eq_true rfl) (fun E C0 => ?_)
  refine xs_eq (lv' := [(0, .ref 30), (1, .ref 21)]) rfl rfl rfl ?_
  refine xs_aload_n C0 d_Fl_joinContacts_0 rfl 0 rfl ?_
  refine xs_get (q := 30) (v := .ref 1) C0 f_Fl_41 d_Fl_joinContacts_1 rfl rfl ?_
  refine xs_get (q := 1) (v := .ref 5) C0 f_Fl_99 d_Fl_joinContacts_4 rfl rfl ?_
  refine xs_astore_n (lv' := [(2, .ref 5), (0, .ref 30), (1, .ref 21)]) C0 d_Fl_joinContacts_7 rfl (by decide) rfl ?_
  refine xs_aload_n C0 d_Fl_joinContacts_8 rfl 1 rfl ?_
  refine xs_iconst (v := 0) C0 d_Fl_joinContacts_9 (by decide) ?_
  refine xs_put (ω' := (wd P0 (f, g, nI n) P2 P3 P4 pl dr ki ow S T (on, bk, ho, co, 0, m1, m2, m3, m4) H tt ++ rest)) C0 f_Fl_25 ty_Fl_5 d_Fl_joinContacts_10 rfl (Nat.le_of_ble_eq_true rfl) (fun _ => ⟨rfl, rfl⟩) rfl ?_
  refine xs_iconst (v := 0) C0 d_Fl_joinContacts_13 (by decide) ?_
  refine xs_istore_n (lv' := [(3, .int 0), (2, .ref 5), (0, .ref 30), (1, .ref 21)]) C0 d_Fl_joinContacts_14 rfl (by decide) rfl ?_
  refine xs_lv (lv' := [(0, .ref 30), (1, .ref 21), (2, .ref 5), (3, .int 0)]) [2, 3, 1, 0] rfl ?_
  refine lp_jcn (F0 := (on, bk, ho, co, 0, m1, m2, m3, m4)) C0 hn hp hk (fun F hF => ?_) n 0 _ (by omega) rfl
  rw [hf] at hF
  subst hF
  exact xs_vret C0 d_Fl_joinContacts_99 ⟨rfl, rfl⟩ (Nat.le_of_ble_eq_true rfl) (Nat.le_of_ble_eq_true rfl)
set_option maxHeartbeats 4000000 in
set_option maxRecDepth 100000 in
theorem lp_jkn {P0 P1 P3 P4 : wt_P} {pl dr ki ow : Nat → Int32} {S T : wt_S} {H : wt_H} {tt : Int32} {rest : xm_O} {f g : Nat → Int32} {n : Nat} {F0 : wt_F} {E : xm_X} {Q : State → Prop} (C0 : xm_C E y_Fl_joinKnobs.cls b_Fl_joinKnobs 4 none [] y_Fl_joinKnobs.name (xm_rm 1 0 0)) (hn : n ≤ 12) (hp : ∀ c, c < n → vp_in (f c) 48 ∧ vp_in (g c) 48) (kx : ∀ F, f_jk f g S.2.2.2.2.2.1 F0 n = F → xm_W E 4 Q 0 0 (wd P0 P1 (f, g, nI n) P3 P4 pl dr ki ow S T F H tt ++ rest) 67 [] []) : ∀ j : Nat, ∀ (i : Nat) (F : wt_F), i + j = n → f_jk f g S.2.2.2.2.2.1 F0 i = F → xm_W E 4 Q 0 0 (wd P0 P1 (f, g, nI n) P3 P4 pl dr ki ow S T F H tt ++ rest) 10 [(0, .ref 30), (1, .ref 21), (2, .ref 8), (3, .int (nI i))] [] := by
  intro j
  induction j with
  | zero =>
    intro i F hi hF
    have e : n = i := by omega
    subst e
    refine xs_iload_n C0 d_Fl_joinKnobs_10 rfl 3 rfl ?_
    refine xs_aload_n C0 d_Fl_joinKnobs_11 rfl 2 rfl ?_
    refine xs_get (q := 8) (v := .int (nI n)) C0 f_Fl_80 d_Fl_joinKnobs_12 rfl rfl ?_
    refine xs_icmp_ge (tgt := 67) C0 d_Fl_joinKnobs_15 (by decide) (fun _ => ?_) (fun c9 => absurd (nI_le (Nat.le_refl _) (by omega)) c9)
    refine xs_lv (lv' := []) [] rfl ?_
    exact kx F hF
  | succ j ih =>
    intro i F hi hF
    have hlt : i < n := by omega
    obtain ⟨ha1, ha2⟩ := hp i hlt
    refine xs_iload_n C0 d_Fl_joinKnobs_10 rfl 3 rfl ?_
    refine xs_aload_n C0 d_Fl_joinKnobs_11 rfl 2 rfl ?_
    refine xs_get (q := 8) (v := .int (nI n)) C0 f_Fl_80 d_Fl_joinKnobs_12 rfl rfl ?_
    refine xs_icmp_ge (tgt := 67) C0 d_Fl_joinKnobs_15 (by decide) (fun c9 => absurd c9 (nI_ge hlt (by omega))) (fun _ => ?_)
    refine xs_aload_n C0 d_Fl_joinKnobs_18 rfl 1 rfl ?_
    obtain ⟨ss_1, sc_1, sw_1, su_1, sd_1, sk_1, sb_1⟩ := S
    refine xs_get (q := 21) (v := .int sk_1) C0 f_Fl_63 d_Fl_joinKnobs_19 rfl rfl ?_
    refine xs_iload_n C0 d_Fl_joinKnobs_22 rfl 3 rfl ?_
    refine xs_cS1 (ω' := (wd P0 P1 (f, g, nI n) P3 P4 pl dr ki ow (ss_1, sc_1, sw_1, su_1, sd_1, sk_1, sb_1) T F H tt ++ rest)) (av := [.int sk_1, .int (nI i)]) (st := []) (kc' := 0) (ks' := 0) (v := .int (f_hb sk_1 (nI i))) C0 d_Fl_joinKnobs_23 l_Fl_113 (c_hb _ sk_1 (nI i)) rfl rfl rfl (Nat.le_of_ble_eq_true rfl) (Nat.le_of_ble_eq_true rfl) (Nat.le_of_ble_eq_true rfl) (Nat.le_of_ble_eq_true rfl) (Nat.le_of_ble_eq_true rfl) (Nat.le_of_ble_eq_true rfl) ?_
    refine xs_if_eq (tgt := 61) C0 d_Fl_joinKnobs_26 (by decide) (fun c1 => ?_) (fun c1 => ?_)
    · refine xs_iinc (v := nI (i + 1)) (lv' := [(3, .int (nI (i + 1))), (0, .ref 30), (1, .ref 21), (2, .ref 8)]) C0 d_Fl_joinKnobs_61 3 rfl (by rw [← nI_1]; rfl) (by decide) rfl ?_
      refine xs_goto (tgt := 10) C0 d_Fl_joinKnobs_64 (by decide) ?_
      refine xs_lv (lv' := [(0, .ref 30), (1, .ref 21), (2, .ref 8), (3, .int (nI (i + 1)))]) [1, 2, 3, 0] rfl ?_
      exact ih (i + 1) F (by omega) (by rw [f_jk, if_pos c1]; exact hF)
    · refine xs_aload_n C0 d_Fl_joinKnobs_29 rfl 0 rfl ?_
      refine xs_aload_n C0 d_Fl_joinKnobs_30 rfl 2 rfl ?_
      refine xs_get (q := 8) (v := .ref 9) C0 f_Fl_85 d_Fl_joinKnobs_31 rfl rfl ?_
      refine xs_iload_n C0 d_Fl_joinKnobs_34 rfl 3 rfl ?_
      refine xs_iald C0 d_Fl_joinKnobs_35 rfl (vp_in_nI (n := i) (by omega) (by decide)) ?_
      refine xs_top (v' := .int (f i)) (by rw [nI_clamp (by omega)]) ?_
      refine xs_aload_n C0 d_Fl_joinKnobs_36 rfl 2 rfl ?_
      refine xs_get (q := 8) (v := .ref 10) C0 f_Fl_89 d_Fl_joinKnobs_37 rfl rfl ?_
      refine xs_iload_n C0 d_Fl_joinKnobs_40 rfl 3 rfl ?_
      refine xs_iald C0 d_Fl_joinKnobs_41 rfl (vp_in_nI (n := i) (by omega) (by decide)) ?_
      refine xs_top (v' := .int (g i)) (by rw [nI_clamp (by omega)]) ?_
      obtain ⟨F_2, hF_2⟩ : ∃ X, f_join F (f i) (g i) = X := ⟨_, rfl⟩
      refine xs_cV0 (ω' := (wd P0 P1 (f, g, nI n) P3 P4 pl dr ki ow (ss_1, sc_1, sw_1, su_1, sd_1, sk_1, sb_1) T F_2 H tt ++ rest)) (As := [.int (f i), .int (g i)]) (st := []) (kc' := 0) (ks' := 0) C0 d_Fl_joinKnobs_42 l_Fl_117 rfl rfl (c_join (by assumption) (by assumption) hF_2) rfl rfl rfl (Nat.le_of_ble_eq_true rfl) (Nat.le_of_ble_eq_true rfl) (Nat.le_of_ble_eq_true rfl) (Nat.le_of_ble_eq_true rfl) (Nat.le_of_ble_eq_true rfl) (Nat.le_of_ble_eq_true rfl) ?_
      refine xs_aload_n C0 d_Fl_joinKnobs_45 rfl 0 rfl ?_
      refine xs_aload_n C0 d_Fl_joinKnobs_46 rfl 2 rfl ?_
      refine xs_pc (pc' := 47) rfl ?_
      refine xs_get (q := 8) (v := .ref 10) C0 f_Fl_89 d_Fl_joinKnobs_47 rfl rfl ?_
      refine xs_iload_n C0 d_Fl_joinKnobs_50 rfl 3 rfl ?_
      refine xs_iald C0 d_Fl_joinKnobs_51 rfl (vp_in_nI (n := i) (by omega) (by decide)) ?_
      refine xs_top (v' := .int (g i)) (by rw [nI_clamp (by omega)]) ?_
      refine xs_aload_n C0 d_Fl_joinKnobs_52 rfl 2 rfl ?_
      refine xs_get (q := 8) (v := .ref 9) C0 f_Fl_85 d_Fl_joinKnobs_53 rfl rfl ?_
      refine xs_iload_n C0 d_Fl_joinKnobs_56 rfl 3 rfl ?_
      refine xs_iald C0 d_Fl_joinKnobs_57 rfl (vp_in_nI (n := i) (by omega) (by decide)) ?_
      refine xs_top (v' := .int (f i)) (by rw [nI_clamp (by omega)]) ?_
      obtain ⟨F_3, hF_3⟩ : ∃ X, f_join F_2 (g i) (f i) = X := ⟨_, rfl⟩
      refine xs_cV0 (ω' := (wd P0 P1 (f, g, nI n) P3 P4 pl dr ki ow (ss_1, sc_1, sw_1, su_1, sd_1, sk_1, sb_1) T F_3 H tt ++ rest)) (As := [.int (g i), .int (f i)]) (st := []) (kc' := 0) (ks' := 0) C0 d_Fl_joinKnobs_58 l_Fl_117 rfl rfl (c_join (by assumption) (by assumption) hF_3) rfl rfl rfl (Nat.le_of_ble_eq_true rfl) (Nat.le_of_ble_eq_true rfl) (Nat.le_of_ble_eq_true rfl) (Nat.le_of_ble_eq_true rfl) (Nat.le_of_ble_eq_true rfl) (Nat.le_of_ble_eq_true rfl) ?_
      refine xs_iinc (v := nI (i + 1)) (lv' := [(3, .int (nI (i + 1))), (0, .ref 30), (1, .ref 21), (2, .ref 8)]) C0 d_Fl_joinKnobs_61 3 rfl (by rw [← nI_1]; rfl) (by decide) rfl ?_
      refine xs_goto (tgt := 10) C0 d_Fl_joinKnobs_64 (by decide) ?_
      refine xs_lv (lv' := [(0, .ref 30), (1, .ref 21), (2, .ref 8), (3, .int (nI (i + 1)))]) [1, 2, 3, 0] rfl ?_
      exact ih (i + 1) F_3 (by omega) (by rw [f_jk, if_neg c1, f_j2, hF, hF_2, hF_3])
set_option maxHeartbeats 4000000 in
set_option maxRecDepth 100000 in
theorem c_jkn {P0 P1 P3 P4 : wt_P} {pl dr ki ow : Nat → Int32} {S T : wt_S} {H : wt_H} {tt : Int32} {rest : xm_O} {f g : Nat → Int32} {n : Nat} {F0 : wt_F} {F1 : wt_F} (hn : n ≤ 12) (hp : ∀ c, c < n → vp_in (f c) 48 ∧ vp_in (g c) 48) (hf : f_jk f g S.2.2.2.2.2.1 F0 n = F1) : xm_M y_Fl_joinKnobs (Cond.code y_Fl_joinKnobs b_Fl_joinKnobs 4 none) (xm_rm 1 0 0) [.ref 30, .ref 21] (wd P0 P1 (f, g, nI n) P3 P4 pl dr ki ow S T F0 H tt ++ rest) (xm_eq (.inl none) (wd P0 P1 (f, g, nI n) P3 P4 pl dr ki ow S T F1 H tt ++ rest)) := by
  refine xm_of (by decide) (Nat.le_of_ble_eq_true rfl) (fun E C0 => ?_)
  refine xs_eq (lv' := [(0, .ref 30), (1, .ref 21)]) rfl rfl rfl ?_
  refine xs_aload_n C0 d_Fl_joinKnobs_0 rfl 0 rfl ?_
  refine xs_get (q := 30) (v := .ref 1) C0 f_Fl_41 d_Fl_joinKnobs_1 rfl rfl ?_
  refine xs_get (q := 1) (v := .ref 8) C0 f_Fl_121 d_Fl_joinKnobs_4 rfl rfl ?_
  refine xs_astore_n (lv' := [(2, .ref 8), (0, .ref 30), (1, .ref 21)]) C0 d_Fl_joinKnobs_7 rfl (by decide) rfl ?_
  refine xs_iconst (v := 0) C0 d_Fl_joinKnobs_8 (by decide) ?_
  refine xs_istore_n (lv' := [(3, .int 0), (2, .ref 8), (0, .ref 30), (1, .ref 21)]) C0 d_Fl_joinKnobs_9 rfl (by decide) rfl ?_
  refine xs_lv (lv' := [(0, .ref 30), (1, .ref 21), (2, .ref 8), (3, .int 0)]) [2, 3, 1, 0] rfl ?_
  refine lp_jkn (F0 := F0) C0 hn hp (fun F hF => ?_) n 0 _ (by omega) rfl
  rw [hf] at hF
  subst hF
  exact xs_vret C0 d_Fl_joinKnobs_67 ⟨rfl, rfl⟩ (Nat.le_of_ble_eq_true rfl) (Nat.le_of_ble_eq_true rfl)
set_option maxHeartbeats 4000000 in
set_option maxRecDepth 100000 in
theorem lp_jct {P0 P2 P3 P4 : wt_P} {pl dr ki ow : Nat → Int32} {S T : wt_S} {H : wt_H} {tt : Int32} {rest : xm_O} {f g : Nat → Int32} {n : Nat} {F0 : wt_F} {E : xm_X} {Q : State → Prop} (C0 : xm_C E y_Fl_joinContacts.cls b_Fl_joinContacts 4 none [] y_Fl_joinContacts.name (xm_rm 1 0 0)) (hn : n ≤ 64) (hp : ∀ c, c < n → vp_in (f c) 48 ∧ vp_in (g c) 48) (hk : okK ki n) (kx : ∀ F, f_jc f g ki ow T F0 n = F → xm_W E 4 Q 0 0 (wd P0 (f, g, nI n) P2 P3 P4 pl dr ki ow S T F H tt ++ rest) 99 [] []) : ∀ j : Nat, ∀ (i : Nat) (F : wt_F), i + j = n → f_jc f g ki ow T F0 i = F → xm_W E 4 Q 0 0 (wd P0 (f, g, nI n) P2 P3 P4 pl dr ki ow S T F H tt ++ rest) 15 [(0, .ref 30), (1, .ref 25), (2, .ref 5), (3, .int (nI i))] [] := by
  intro j
  induction j with
  | zero =>
    intro i F hi hF
    have e : n = i := by omega
    subst e
    refine xs_iload_n C0 d_Fl_joinContacts_15 rfl 3 rfl ?_
    refine xs_aload_n C0 d_Fl_joinContacts_16 rfl 2 rfl ?_
    refine xs_get (q := 5) (v := .int (nI n)) C0 f_Fl_80 d_Fl_joinContacts_17 rfl rfl ?_
    refine xs_icmp_ge (tgt := 99) C0 d_Fl_joinContacts_20 (by decide) (fun _ => ?_) (fun c9 => absurd (nI_le (Nat.le_refl _) (by omega)) c9)
    refine xs_lv (lv' := []) [] rfl ?_
    exact kx F hF
  | succ j ih =>
    intro i F hi hF
    have hlt : i < n := by omega
    obtain ⟨ha1, ha2⟩ := hp i hlt
    have hk1 := hk i hlt
    refine xs_iload_n C0 d_Fl_joinContacts_15 rfl 3 rfl ?_
    refine xs_aload_n C0 d_Fl_joinContacts_16 rfl 2 rfl ?_
    refine xs_get (q := 5) (v := .int (nI n)) C0 f_Fl_80 d_Fl_joinContacts_17 rfl rfl ?_
    refine xs_icmp_ge (tgt := 99) C0 d_Fl_joinContacts_20 (by decide) (fun c9 => absurd c9 (nI_ge hlt (by omega))) (fun _ => ?_)
    refine xs_aload_n C0 d_Fl_joinContacts_23 rfl 1 rfl ?_
    refine xs_aload_n C0 d_Fl_joinContacts_24 rfl 0 rfl ?_
    refine xs_get (q := 30) (v := .ref 1) C0 f_Fl_41 d_Fl_joinContacts_25 rfl rfl ?_
    refine xs_get (q := 1) (v := .ref 19) C0 f_Fl_103 d_Fl_joinContacts_28 rfl rfl ?_
    refine xs_iload_n C0 d_Fl_joinContacts_31 rfl 3 rfl ?_
    refine xs_iald C0 d_Fl_joinContacts_32 rfl (vp_in_nI (n := i) (by omega) (by decide)) ?_
    refine xs_top (v' := .int (ki i)) (by rw [nI_clamp (by omega)]) ?_
    refine xs_cV1 (ω' := (wd P0 (f, g, nI n) P2 P3 P4 pl dr ki ow S T F H tt ++ rest)) (As := [.int (ki i)]) (st := []) (kc' := 0) (ks' := 0) (v := .int (f_rc T (ki i))) C0 d_Fl_joinContacts_33 l_Fl_106 rfl rfl (c_rct (ki i) (by assumption)) rfl rfl rfl (Nat.le_of_ble_eq_true rfl) (Nat.le_of_ble_eq_true rfl) (Nat.le_of_ble_eq_true rfl) (Nat.le_of_ble_eq_true rfl) (Nat.le_of_ble_eq_true rfl) (Nat.le_of_ble_eq_true rfl) ?_
    refine xs_aload_n C0 d_Fl_joinContacts_36 rfl 0 rfl ?_
    refine xs_pc (pc' := 37) rfl ?_
    refine xs_get (q := 30) (v := .ref 1) C0 f_Fl_41 d_Fl_joinContacts_37 rfl rfl ?_
    refine xs_get (q := 1) (v := .ref 20) C0 f_Fl_110 d_Fl_joinContacts_40 rfl rfl ?_
    refine xs_iload_n C0 d_Fl_joinContacts_43 rfl 3 rfl ?_
    refine xs_iald C0 d_Fl_joinContacts_44 rfl (vp_in_nI (n := i) (by omega) (by decide)) ?_
    refine xs_top (v' := .int (ow i)) (by rw [nI_clamp (by omega)]) ?_
    refine xs_cS1 (ω' := (wd P0 (f, g, nI n) P2 P3 P4 pl dr ki ow S T F H tt ++ rest)) (av := [.int (f_rc T (ki i)), .int (ow i)]) (st := []) (kc' := 0) (ks' := 0) (v := .int (f_hb (f_rc T (ki i)) (ow i))) C0 d_Fl_joinContacts_45 l_Fl_113 (c_hb _ (f_rc T (ki i)) (ow i)) rfl rfl rfl (Nat.le_of_ble_eq_true rfl) (Nat.le_of_ble_eq_true rfl) (Nat.le_of_ble_eq_true rfl) (Nat.le_of_ble_eq_true rfl) (Nat.le_of_ble_eq_true rfl) (Nat.le_of_ble_eq_true rfl) ?_
    refine xs_if_eq (tgt := 93) C0 d_Fl_joinContacts_48 (by decide) (fun c1 => ?_) (fun c1 => ?_)
    · refine xs_iinc (v := nI (i + 1)) (lv' := [(3, .int (nI (i + 1))), (0, .ref 30), (1, .ref 25), (2, .ref 5)]) C0 d_Fl_joinContacts_93 3 rfl (by rw [← nI_1]; rfl) (by decide) rfl ?_
      refine xs_goto (tgt := 15) C0 d_Fl_joinContacts_96 (by decide) ?_
      refine xs_lv (lv' := [(0, .ref 30), (1, .ref 25), (2, .ref 5), (3, .int (nI (i + 1)))]) [1, 2, 3, 0] rfl ?_
      exact ih (i + 1) F (by omega) (by rw [f_jc, if_pos c1]; exact hF)
    · refine xs_aload_n C0 d_Fl_joinContacts_51 rfl 0 rfl ?_
      refine xs_aload_n C0 d_Fl_joinContacts_52 rfl 2 rfl ?_
      refine xs_get (q := 5) (v := .ref 6) C0 f_Fl_85 d_Fl_joinContacts_53 rfl rfl ?_
      refine xs_iload_n C0 d_Fl_joinContacts_56 rfl 3 rfl ?_
      refine xs_iald C0 d_Fl_joinContacts_57 rfl (vp_in_nI (n := i) (by omega) (by decide)) ?_
      refine xs_top (v' := .int (f i)) (by rw [nI_clamp (by omega)]) ?_
      refine xs_aload_n C0 d_Fl_joinContacts_58 rfl 2 rfl ?_
      refine xs_get (q := 5) (v := .ref 7) C0 f_Fl_89 d_Fl_joinContacts_59 rfl rfl ?_
      refine xs_iload_n C0 d_Fl_joinContacts_62 rfl 3 rfl ?_
      refine xs_iald C0 d_Fl_joinContacts_63 rfl (vp_in_nI (n := i) (by omega) (by decide)) ?_
      refine xs_top (v' := .int (g i)) (by rw [nI_clamp (by omega)]) ?_
      obtain ⟨F_1, hF_1⟩ : ∃ X, f_join F (f i) (g i) = X := ⟨_, rfl⟩
      refine xs_cV0 (ω' := (wd P0 (f, g, nI n) P2 P3 P4 pl dr ki ow S T F_1 H tt ++ rest)) (As := [.int (f i), .int (g i)]) (st := []) (kc' := 0) (ks' := 0) C0 d_Fl_joinContacts_64 l_Fl_117 rfl rfl (c_join (by assumption) (by assumption) hF_1) rfl rfl rfl (Nat.le_of_ble_eq_true rfl) (Nat.le_of_ble_eq_true rfl) (Nat.le_of_ble_eq_true rfl) (Nat.le_of_ble_eq_true rfl) (Nat.le_of_ble_eq_true rfl) (Nat.le_of_ble_eq_true rfl) ?_
      refine xs_aload_n C0 d_Fl_joinContacts_67 rfl 0 rfl ?_
      refine xs_aload_n C0 d_Fl_joinContacts_68 rfl 2 rfl ?_
      refine xs_pc (pc' := 69) rfl ?_
      refine xs_get (q := 5) (v := .ref 7) C0 f_Fl_89 d_Fl_joinContacts_69 rfl rfl ?_
      refine xs_iload_n C0 d_Fl_joinContacts_72 rfl 3 rfl ?_
      refine xs_iald C0 d_Fl_joinContacts_73 rfl (vp_in_nI (n := i) (by omega) (by decide)) ?_
      refine xs_top (v' := .int (g i)) (by rw [nI_clamp (by omega)]) ?_
      refine xs_aload_n C0 d_Fl_joinContacts_74 rfl 2 rfl ?_
      refine xs_get (q := 5) (v := .ref 6) C0 f_Fl_85 d_Fl_joinContacts_75 rfl rfl ?_
      refine xs_iload_n C0 d_Fl_joinContacts_78 rfl 3 rfl ?_
      refine xs_iald C0 d_Fl_joinContacts_79 rfl (vp_in_nI (n := i) (by omega) (by decide)) ?_
      refine xs_top (v' := .int (f i)) (by rw [nI_clamp (by omega)]) ?_
      obtain ⟨F_2, hF_2⟩ : ∃ X, f_join F_1 (g i) (f i) = X := ⟨_, rfl⟩
      refine xs_cV0 (ω' := (wd P0 (f, g, nI n) P2 P3 P4 pl dr ki ow S T F_2 H tt ++ rest)) (As := [.int (g i), .int (f i)]) (st := []) (kc' := 0) (ks' := 0) C0 d_Fl_joinContacts_80 l_Fl_117 rfl rfl (c_join (by assumption) (by assumption) hF_2) rfl rfl rfl (Nat.le_of_ble_eq_true rfl) (Nat.le_of_ble_eq_true rfl) (Nat.le_of_ble_eq_true rfl) (Nat.le_of_ble_eq_true rfl) (Nat.le_of_ble_eq_true rfl) (Nat.le_of_ble_eq_true rfl) ?_
      refine xs_aload_n C0 d_Fl_joinContacts_83 rfl 0 rfl ?_
      refine xs_dup C0 d_Fl_joinContacts_84 rfl ?_
      obtain ⟨on_3, bk_3, ho_3, co_3, cg_3, m1_3, m2_3, m3_3, m4_3⟩ := F_2
      refine xs_get (q := 30) (v := .int cg_3) C0 f_Fl_25 d_Fl_joinContacts_85 rfl rfl ?_
      refine xs_iconst (v := 1) C0 d_Fl_joinContacts_88 (by decide) ?_
      refine xs_pc (pc' := 89) rfl ?_
      refine xs_iadd C0 d_Fl_joinContacts_89 ?_
      refine xs_put (ω' := (wd P0 (f, g, nI n) P2 P3 P4 pl dr ki ow S T (on_3, bk_3, ho_3, co_3, (cg_3 + 1), m1_3, m2_3, m3_3, m4_3) H tt ++ rest)) C0 f_Fl_25 ty_Fl_5 d_Fl_joinContacts_90 rfl (Nat.le_of_ble_eq_true rfl) (fun _ => ⟨rfl, rfl⟩) rfl ?_
      refine xs_iinc (v := nI (i + 1)) (lv' := [(3, .int (nI (i + 1))), (0, .ref 30), (1, .ref 25), (2, .ref 5)]) C0 d_Fl_joinContacts_93 3 rfl (by rw [← nI_1]; rfl) (by decide) rfl ?_
      refine xs_goto (tgt := 15) C0 d_Fl_joinContacts_96 (by decide) ?_
      refine xs_lv (lv' := [(0, .ref 30), (1, .ref 25), (2, .ref 5), (3, .int (nI (i + 1)))]) [1, 2, 3, 0] rfl ?_
      exact ih (i + 1) (on_3, bk_3, ho_3, co_3, (cg_3 + 1), m1_3, m2_3, m3_3, m4_3) (by omega) (by rw [f_jc, if_neg c1, f_j2, hF, hF_1, hF_2]; rfl)
set_option maxHeartbeats 4000000 in
set_option maxRecDepth 100000 in
theorem c_jct {P0 P2 P3 P4 : wt_P} {pl dr ki ow : Nat → Int32} {S T : wt_S} {H : wt_H} {tt : Int32} {rest : xm_O} {f g : Nat → Int32} {n : Nat} {on bk : Nat → Int64} {ho co : Int64} {cg m1 m2 m3 m4 : Int32} {F1 : wt_F} (hn : n ≤ 64) (hp : ∀ c, c < n → vp_in (f c) 48 ∧ vp_in (g c) 48) (hk : okK ki n) (hf : f_jc f g ki ow T (on, bk, ho, co, 0, m1, m2, m3, m4) n = F1) : xm_M y_Fl_joinContacts (Cond.code y_Fl_joinContacts b_Fl_joinContacts 4 none) (xm_rm 1 0 0) [.ref 30, .ref 25] (wd P0 (f, g, nI n) P2 P3 P4 pl dr ki ow S T (on, bk, ho, co, cg, m1, m2, m3, m4) H tt ++ rest) (xm_eq (.inl none) (wd P0 (f, g, nI n) P2 P3 P4 pl dr ki ow S T F1 H tt ++ rest)) := by
  refine xm_of (by decide) (Nat.le_of_ble_eq_true rfl) (fun E C0 => ?_)
  refine xs_eq (lv' := [(0, .ref 30), (1, .ref 25)]) rfl rfl rfl ?_
  refine xs_aload_n C0 d_Fl_joinContacts_0 rfl 0 rfl ?_
  refine xs_get (q := 30) (v := .ref 1) C0 f_Fl_41 d_Fl_joinContacts_1 rfl rfl ?_
  refine xs_get (q := 1) (v := .ref 5) C0 f_Fl_99 d_Fl_joinContacts_4 rfl rfl ?_
  refine xs_astore_n (lv' := [(2, .ref 5), (0, .ref 30), (1, .ref 25)]) C0 d_Fl_joinContacts_7 rfl (by decide) rfl ?_
  refine xs_aload_n C0 d_Fl_joinContacts_8 rfl 1 rfl ?_
  refine xs_iconst (v := 0) C0 d_Fl_joinContacts_9 (by decide) ?_
  refine xs_put (ω' := (wd P0 (f, g, nI n) P2 P3 P4 pl dr ki ow S T (on, bk, ho, co, 0, m1, m2, m3, m4) H tt ++ rest)) C0 f_Fl_25 ty_Fl_5 d_Fl_joinContacts_10 rfl (Nat.le_of_ble_eq_true rfl) (fun _ => ⟨rfl, rfl⟩) rfl ?_
  refine xs_iconst (v := 0) C0 d_Fl_joinContacts_13 (by decide) ?_
  refine xs_istore_n (lv' := [(3, .int 0), (2, .ref 5), (0, .ref 30), (1, .ref 25)]) C0 d_Fl_joinContacts_14 rfl (by decide) rfl ?_
  refine xs_lv (lv' := [(0, .ref 30), (1, .ref 25), (2, .ref 5), (3, .int 0)]) [2, 3, 1, 0] rfl ?_
  refine lp_jct (F0 := (on, bk, ho, co, 0, m1, m2, m3, m4)) C0 hn hp hk (fun F hF => ?_) n 0 _ (by omega) rfl
  rw [hf] at hF
  subst hF
  exact xs_vret C0 d_Fl_joinContacts_99 ⟨rfl, rfl⟩ (Nat.le_of_ble_eq_true rfl) (Nat.le_of_ble_eq_true rfl)
set_option maxHeartbeats 4000000 in
set_option maxRecDepth 100000 in
theorem lp_jkt {P0 P1 P3 P4 : wt_P} {pl dr ki ow : Nat → Int32} {S T : wt_S} {H : wt_H} {tt : Int32} {rest : xm_O} {f g : Nat → Int32} {n : Nat} {F0 : wt_F} {E : xm_X} {Q : State → Prop} (C0 : xm_C E y_Fl_joinKnobs.cls b_Fl_joinKnobs 4 none [] y_Fl_joinKnobs.name (xm_rm 1 0 0)) (hn : n ≤ 12) (hp : ∀ c, c < n → vp_in (f c) 48 ∧ vp_in (g c) 48) (kx : ∀ F, f_jk f g T.2.2.2.2.2.1 F0 n = F → xm_W E 4 Q 0 0 (wd P0 P1 (f, g, nI n) P3 P4 pl dr ki ow S T F H tt ++ rest) 67 [] []) : ∀ j : Nat, ∀ (i : Nat) (F : wt_F), i + j = n → f_jk f g T.2.2.2.2.2.1 F0 i = F → xm_W E 4 Q 0 0 (wd P0 P1 (f, g, nI n) P3 P4 pl dr ki ow S T F H tt ++ rest) 10 [(0, .ref 30), (1, .ref 25), (2, .ref 8), (3, .int (nI i))] [] := by
  intro j
  induction j with
  | zero =>
    intro i F hi hF
    have e : n = i := by omega
    subst e
    refine xs_iload_n C0 d_Fl_joinKnobs_10 rfl 3 rfl ?_
    refine xs_aload_n C0 d_Fl_joinKnobs_11 rfl 2 rfl ?_
    refine xs_get (q := 8) (v := .int (nI n)) C0 f_Fl_80 d_Fl_joinKnobs_12 rfl rfl ?_
    refine xs_icmp_ge (tgt := 67) C0 d_Fl_joinKnobs_15 (by decide) (fun _ => ?_) (fun c9 => absurd (nI_le (Nat.le_refl _) (by omega)) c9)
    refine xs_lv (lv' := []) [] rfl ?_
    exact kx F hF
  | succ j ih =>
    intro i F hi hF
    have hlt : i < n := by omega
    obtain ⟨ha1, ha2⟩ := hp i hlt
    refine xs_iload_n C0 d_Fl_joinKnobs_10 rfl 3 rfl ?_
    refine xs_aload_n C0 d_Fl_joinKnobs_11 rfl 2 rfl ?_
    refine xs_get (q := 8) (v := .int (nI n)) C0 f_Fl_80 d_Fl_joinKnobs_12 rfl rfl ?_
    refine xs_icmp_ge (tgt := 67) C0 d_Fl_joinKnobs_15 (by decide) (fun c9 => absurd c9 (nI_ge hlt (by omega))) (fun _ => ?_)
    refine xs_aload_n C0 d_Fl_joinKnobs_18 rfl 1 rfl ?_
    obtain ⟨ts_1, tc_1, tw_1, tu_1, td_1, tk_1, tb_1⟩ := T
    refine xs_get (q := 25) (v := .int tk_1) C0 f_Fl_63 d_Fl_joinKnobs_19 rfl rfl ?_
    refine xs_iload_n C0 d_Fl_joinKnobs_22 rfl 3 rfl ?_
    refine xs_cS1 (ω' := (wd P0 P1 (f, g, nI n) P3 P4 pl dr ki ow S (ts_1, tc_1, tw_1, tu_1, td_1, tk_1, tb_1) F H tt ++ rest)) (av := [.int tk_1, .int (nI i)]) (st := []) (kc' := 0) (ks' := 0) (v := .int (f_hb tk_1 (nI i))) C0 d_Fl_joinKnobs_23 l_Fl_113 (c_hb _ tk_1 (nI i)) rfl rfl rfl (Nat.le_of_ble_eq_true rfl) (Nat.le_of_ble_eq_true rfl) (Nat.le_of_ble_eq_true rfl) (Nat.le_of_ble_eq_true rfl) (Nat.le_of_ble_eq_true rfl) (Nat.le_of_ble_eq_true rfl) ?_
    refine xs_if_eq (tgt := 61) C0 d_Fl_joinKnobs_26 (by decide) (fun c1 => ?_) (fun c1 => ?_)
    · refine xs_iinc (v := nI (i + 1)) (lv' := [(3, .int (nI (i + 1))), (0, .ref 30), (1, .ref 25), (2, .ref 8)]) C0 d_Fl_joinKnobs_61 3 rfl (by rw [← nI_1]; rfl) (by decide) rfl ?_
      refine xs_goto (tgt := 10) C0 d_Fl_joinKnobs_64 (by decide) ?_
      refine xs_lv (lv' := [(0, .ref 30), (1, .ref 25), (2, .ref 8), (3, .int (nI (i + 1)))]) [1, 2, 3, 0] rfl ?_
      exact ih (i + 1) F (by omega) (by rw [f_jk, if_pos c1]; exact hF)
    · refine xs_aload_n C0 d_Fl_joinKnobs_29 rfl 0 rfl ?_
      refine xs_aload_n C0 d_Fl_joinKnobs_30 rfl 2 rfl ?_
      refine xs_get (q := 8) (v := .ref 9) C0 f_Fl_85 d_Fl_joinKnobs_31 rfl rfl ?_
      refine xs_iload_n C0 d_Fl_joinKnobs_34 rfl 3 rfl ?_
      refine xs_iald C0 d_Fl_joinKnobs_35 rfl (vp_in_nI (n := i) (by omega) (by decide)) ?_
      refine xs_top (v' := .int (f i)) (by rw [nI_clamp (by omega)]) ?_
      refine xs_aload_n C0 d_Fl_joinKnobs_36 rfl 2 rfl ?_
      refine xs_get (q := 8) (v := .ref 10) C0 f_Fl_89 d_Fl_joinKnobs_37 rfl rfl ?_
      refine xs_iload_n C0 d_Fl_joinKnobs_40 rfl 3 rfl ?_
      refine xs_iald C0 d_Fl_joinKnobs_41 rfl (vp_in_nI (n := i) (by omega) (by decide)) ?_
      refine xs_top (v' := .int (g i)) (by rw [nI_clamp (by omega)]) ?_
      obtain ⟨F_2, hF_2⟩ : ∃ X, f_join F (f i) (g i) = X := ⟨_, rfl⟩
      refine xs_cV0 (ω' := (wd P0 P1 (f, g, nI n) P3 P4 pl dr ki ow S (ts_1, tc_1, tw_1, tu_1, td_1, tk_1, tb_1) F_2 H tt ++ rest)) (As := [.int (f i), .int (g i)]) (st := []) (kc' := 0) (ks' := 0) C0 d_Fl_joinKnobs_42 l_Fl_117 rfl rfl (c_join (by assumption) (by assumption) hF_2) rfl rfl rfl (Nat.le_of_ble_eq_true rfl) (Nat.le_of_ble_eq_true rfl) (Nat.le_of_ble_eq_true rfl) (Nat.le_of_ble_eq_true rfl) (Nat.le_of_ble_eq_true rfl) (Nat.le_of_ble_eq_true rfl) ?_
      refine xs_aload_n C0 d_Fl_joinKnobs_45 rfl 0 rfl ?_
      refine xs_aload_n C0 d_Fl_joinKnobs_46 rfl 2 rfl ?_
      refine xs_pc (pc' := 47) rfl ?_
      refine xs_get (q := 8) (v := .ref 10) C0 f_Fl_89 d_Fl_joinKnobs_47 rfl rfl ?_
      refine xs_iload_n C0 d_Fl_joinKnobs_50 rfl 3 rfl ?_
      refine xs_iald C0 d_Fl_joinKnobs_51 rfl (vp_in_nI (n := i) (by omega) (by decide)) ?_
      refine xs_top (v' := .int (g i)) (by rw [nI_clamp (by omega)]) ?_
      refine xs_aload_n C0 d_Fl_joinKnobs_52 rfl 2 rfl ?_
      refine xs_get (q := 8) (v := .ref 9) C0 f_Fl_85 d_Fl_joinKnobs_53 rfl rfl ?_
      refine xs_iload_n C0 d_Fl_joinKnobs_56 rfl 3 rfl ?_
      refine xs_iald C0 d_Fl_joinKnobs_57 rfl (vp_in_nI (n := i) (by omega) (by decide)) ?_
      refine xs_top (v' := .int (f i)) (by rw [nI_clamp (by omega)]) ?_
      obtain ⟨F_3, hF_3⟩ : ∃ X, f_join F_2 (g i) (f i) = X := ⟨_, rfl⟩
      refine xs_cV0 (ω' := (wd P0 P1 (f, g, nI n) P3 P4 pl dr ki ow S (ts_1, tc_1, tw_1, tu_1, td_1, tk_1, tb_1) F_3 H tt ++ rest)) (As := [.int (g i), .int (f i)]) (st := []) (kc' := 0) (ks' := 0) C0 d_Fl_joinKnobs_58 l_Fl_117 rfl rfl (c_join (by assumption) (by assumption) hF_3) rfl rfl rfl (Nat.le_of_ble_eq_true rfl) (Nat.le_of_ble_eq_true rfl) (Nat.le_of_ble_eq_true rfl) (Nat.le_of_ble_eq_true rfl) (Nat.le_of_ble_eq_true rfl) (Nat.le_of_ble_eq_true rfl) ?_
      refine xs_iinc (v := nI (i + 1)) (lv' := [(3, .int (nI (i + 1))), (0, .ref 30), (1, .ref 25), (2, .ref 8)]) C0 d_Fl_joinKnobs_61 3 rfl (by rw [← nI_1]; rfl) (by decide) rfl ?_
      refine xs_goto (tgt := 10) C0 d_Fl_joinKnobs_64 (by decide) ?_
      refine xs_lv (lv' := [(0, .ref 30), (1, .ref 25), (2, .ref 8), (3, .int (nI (i + 1)))]) [1, 2, 3, 0] rfl ?_
      exact ih (i + 1) F_3 (by omega) (by rw [f_jk, if_neg c1, f_j2, hF, hF_2, hF_3])
set_option maxHeartbeats 4000000 in
set_option maxRecDepth 100000 in
theorem c_jkt {P0 P1 P3 P4 : wt_P} {pl dr ki ow : Nat → Int32} {S T : wt_S} {H : wt_H} {tt : Int32} {rest : xm_O} {f g : Nat → Int32} {n : Nat} {F0 : wt_F} {F1 : wt_F} (hn : n ≤ 12) (hp : ∀ c, c < n → vp_in (f c) 48 ∧ vp_in (g c) 48) (hf : f_jk f g T.2.2.2.2.2.1 F0 n = F1) : xm_M y_Fl_joinKnobs (Cond.code y_Fl_joinKnobs b_Fl_joinKnobs 4 none) (xm_rm 1 0 0) [.ref 30, .ref 25] (wd P0 P1 (f, g, nI n) P3 P4 pl dr ki ow S T F0 H tt ++ rest) (xm_eq (.inl none) (wd P0 P1 (f, g, nI n) P3 P4 pl dr ki ow S T F1 H tt ++ rest)) := by
  refine xm_of (by decide) (Nat.le_of_ble_eq_true rfl) (fun E C0 => ?_)
  refine xs_eq (lv' := [(0, .ref 30), (1, .ref 25)]) rfl rfl rfl ?_
  refine xs_aload_n C0 d_Fl_joinKnobs_0 rfl 0 rfl ?_
  refine xs_get (q := 30) (v := .ref 1) C0 f_Fl_41 d_Fl_joinKnobs_1 rfl rfl ?_
  refine xs_get (q := 1) (v := .ref 8) C0 f_Fl_121 d_Fl_joinKnobs_4 rfl rfl ?_
  refine xs_astore_n (lv' := [(2, .ref 8), (0, .ref 30), (1, .ref 25)]) C0 d_Fl_joinKnobs_7 rfl (by decide) rfl ?_
  refine xs_iconst (v := 0) C0 d_Fl_joinKnobs_8 (by decide) ?_
  refine xs_istore_n (lv' := [(3, .int 0), (2, .ref 8), (0, .ref 30), (1, .ref 25)]) C0 d_Fl_joinKnobs_9 rfl (by decide) rfl ?_
  refine xs_lv (lv' := [(0, .ref 30), (1, .ref 25), (2, .ref 8), (3, .int 0)]) [2, 3, 1, 0] rfl ?_
  refine lp_jkt (F0 := F0) C0 hn hp (fun F hF => ?_) n 0 _ (by omega) rfl
  rw [hf] at hF
  subst hF
  exact xs_vret C0 d_Fl_joinKnobs_67 ⟨rfl, rfl⟩ (Nat.le_of_ble_eq_true rfl) (Nat.le_of_ble_eq_true rfl)
set_option maxHeartbeats 4000000 in
set_option maxRecDepth 100000 in
theorem lp_jd {P0 P1 P2 P4 : wt_P} {pl dr ki ow : Nat → Int32} {S T : wt_S} {H : wt_H} {tt : Int32} {rest : xm_O} {f g : Nat → Int32} {n : Nat} {F0 : wt_F} {E : xm_X} {Q : State → Prop} (C0 : xm_C E y_Fl_joinDiodes.cls b_Fl_joinDiodes 3 none [] y_Fl_joinDiodes.name (xm_rm 1 0 0)) (hn : n ≤ 24) (hp : ∀ c, c < n → vp_in (f c) 48 ∧ vp_in (g c) 48) (kx : ∀ F, f_jd f g F0 n = F → xm_W E 3 Q 0 0 (wd P0 P1 P2 (f, g, nI n) P4 pl dr ki ow S T F H tt ++ rest) 40 [] []) : ∀ j : Nat, ∀ (i : Nat) (F : wt_F), i + j = n → f_jd f g F0 i = F → xm_W E 3 Q 0 0 (wd P0 P1 P2 (f, g, nI n) P4 pl dr ki ow S T F H tt ++ rest) 10 [(0, .ref 30), (1, .ref 11), (2, .int (nI i))] [] := by
  intro j
  induction j with
  | zero =>
    intro i F hi hF
    have e : n = i := by omega
    subst e
    refine xs_iload_n C0 d_Fl_joinDiodes_10 rfl 2 rfl ?_
    refine xs_aload_n C0 d_Fl_joinDiodes_11 rfl 1 rfl ?_
    refine xs_get (q := 11) (v := .int (nI n)) C0 f_Fl_80 d_Fl_joinDiodes_12 rfl rfl ?_
    refine xs_icmp_ge (tgt := 40) C0 d_Fl_joinDiodes_15 (by decide) (fun _ => ?_) (fun c9 => absurd (nI_le (Nat.le_refl _) (by omega)) c9)
    refine xs_lv (lv' := []) [] rfl ?_
    exact kx F hF
  | succ j ih =>
    intro i F hi hF
    have hlt : i < n := by omega
    obtain ⟨ha1, ha2⟩ := hp i hlt
    refine xs_iload_n C0 d_Fl_joinDiodes_10 rfl 2 rfl ?_
    refine xs_aload_n C0 d_Fl_joinDiodes_11 rfl 1 rfl ?_
    refine xs_get (q := 11) (v := .int (nI n)) C0 f_Fl_80 d_Fl_joinDiodes_12 rfl rfl ?_
    refine xs_icmp_ge (tgt := 40) C0 d_Fl_joinDiodes_15 (by decide) (fun c9 => absurd c9 (nI_ge hlt (by omega))) (fun _ => ?_)
    refine xs_aload_n C0 d_Fl_joinDiodes_18 rfl 0 rfl ?_
    refine xs_aload_n C0 d_Fl_joinDiodes_19 rfl 1 rfl ?_
    refine xs_get (q := 11) (v := .ref 12) C0 f_Fl_85 d_Fl_joinDiodes_20 rfl rfl ?_
    refine xs_iload_n C0 d_Fl_joinDiodes_23 rfl 2 rfl ?_
    refine xs_iald C0 d_Fl_joinDiodes_24 rfl (vp_in_nI (n := i) (by omega) (by decide)) ?_
    refine xs_top (v' := .int (f i)) (by rw [nI_clamp (by omega)]) ?_
    refine xs_aload_n C0 d_Fl_joinDiodes_25 rfl 1 rfl ?_
    refine xs_get (q := 11) (v := .ref 13) C0 f_Fl_89 d_Fl_joinDiodes_26 rfl rfl ?_
    refine xs_iload_n C0 d_Fl_joinDiodes_29 rfl 2 rfl ?_
    refine xs_pc (pc' := 30) rfl ?_
    refine xs_iald C0 d_Fl_joinDiodes_30 rfl (vp_in_nI (n := i) (by omega) (by decide)) ?_
    refine xs_top (v' := .int (g i)) (by rw [nI_clamp (by omega)]) ?_
    obtain ⟨F_1, hF_1⟩ : ∃ X, f_join F (f i) (g i) = X := ⟨_, rfl⟩
    refine xs_cV0 (ω' := (wd P0 P1 P2 (f, g, nI n) P4 pl dr ki ow S T F_1 H tt ++ rest)) (As := [.int (f i), .int (g i)]) (st := []) (kc' := 0) (ks' := 0) C0 d_Fl_joinDiodes_31 l_Fl_117 rfl rfl (c_join (by assumption) (by assumption) hF_1) rfl rfl rfl (Nat.le_of_ble_eq_true rfl) (Nat.le_of_ble_eq_true rfl) (Nat.le_of_ble_eq_true rfl) (Nat.le_of_ble_eq_true rfl) (Nat.le_of_ble_eq_true rfl) (Nat.le_of_ble_eq_true rfl) ?_
    refine xs_iinc (v := nI (i + 1)) (lv' := [(2, .int (nI (i + 1))), (0, .ref 30), (1, .ref 11)]) C0 d_Fl_joinDiodes_34 2 rfl (by rw [← nI_1]; rfl) (by decide) rfl ?_
    refine xs_goto (tgt := 10) C0 d_Fl_joinDiodes_37 (by decide) ?_
    refine xs_lv (lv' := [(0, .ref 30), (1, .ref 11), (2, .int (nI (i + 1)))]) [1, 2, 0] rfl ?_
    exact ih (i + 1) F_1 (by omega) (by rw [f_jd, hF, hF_1])
set_option maxHeartbeats 4000000 in
set_option maxRecDepth 100000 in
theorem c_jd {P0 P1 P2 P4 : wt_P} {pl dr ki ow : Nat → Int32} {S T : wt_S} {H : wt_H} {tt : Int32} {rest : xm_O} {f g : Nat → Int32} {n : Nat} {F0 : wt_F} {F1 : wt_F} (hn : n ≤ 24) (hp : ∀ c, c < n → vp_in (f c) 48 ∧ vp_in (g c) 48) (hf : f_jd f g F0 n = F1) : xm_M y_Fl_joinDiodes (Cond.code y_Fl_joinDiodes b_Fl_joinDiodes 3 none) (xm_rm 1 0 0) [.ref 30] (wd P0 P1 P2 (f, g, nI n) P4 pl dr ki ow S T F0 H tt ++ rest) (xm_eq (.inl none) (wd P0 P1 P2 (f, g, nI n) P4 pl dr ki ow S T F1 H tt ++ rest)) := by
  refine xm_of (by decide) (Nat.le_of_ble_eq_true rfl) (fun E C0 => ?_)
  refine xs_eq (lv' := [(0, .ref 30)]) rfl rfl rfl ?_
  refine xs_aload_n C0 d_Fl_joinDiodes_0 rfl 0 rfl ?_
  refine xs_get (q := 30) (v := .ref 1) C0 f_Fl_41 d_Fl_joinDiodes_1 rfl rfl ?_
  refine xs_get (q := 1) (v := .ref 11) C0 f_Fl_124 d_Fl_joinDiodes_4 rfl rfl ?_
  refine xs_astore_n (lv' := [(1, .ref 11), (0, .ref 30)]) C0 d_Fl_joinDiodes_7 rfl (by decide) rfl ?_
  refine xs_iconst (v := 0) C0 d_Fl_joinDiodes_8 (by decide) ?_
  refine xs_istore_n (lv' := [(2, .int 0), (1, .ref 11), (0, .ref 30)]) C0 d_Fl_joinDiodes_9 rfl (by decide) rfl ?_
  refine xs_lv (lv' := [(0, .ref 30), (1, .ref 11), (2, .int 0)]) [2, 1, 0] rfl ?_
  refine lp_jd (F0 := F0) C0 hn hp (fun F hF => ?_) n 0 _ (by omega) rfl
  rw [hf] at hF
  subst hF
  exact xs_vret C0 d_Fl_joinDiodes_40 ⟨rfl, rfl⟩ (Nat.le_of_ble_eq_true rfl) (Nat.le_of_ble_eq_true rfl)
