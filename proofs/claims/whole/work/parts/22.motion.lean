set_option maxHeartbeats 4000000 in
set_option maxRecDepth 100000 in
theorem lp_btw0 {P1 P2 P3 P4 : wt_P} {pl dr ki ow : Nat → Int32} {S T : wt_S} {on bk : Nat → Int64} {ho co : Int64} {cg m1 m2 m3 m4 : Int32} {H : wt_H} {tt : Int32} {rest : xm_O} {f g : Nat → Int32} {n : Nat} {E : xm_X} {Q : State → Prop} (C0 : xm_C E y_Fl_between.cls b_Fl_between 6 (some .int) [] y_Fl_between.name (xm_rm 1 0 0)) (hn : n ≤ 16) (kx : xm_W E 6 Q 0 0 (wd (f, g, nI n) P1 P2 P3 P4 pl dr ki ow S T (on, bk, ho, co, cg, m1, m2, m3, m4) H tt ++ rest) 76 [(2, .int (f_btw ho co f g n))] []) : ∀ j : Nat, ∀ (i : Nat) (bits : Int32), i + j = n → f_btw ho co f g i = bits → xm_W E 6 Q 0 0 (wd (f, g, nI n) P1 P2 P3 P4 pl dr ki ow S T (on, bk, ho, co, cg, m1, m2, m3, m4) H tt ++ rest) 4 [(0, .ref 30), (1, .ref 2), (2, .int bits), (3, .int (nI i))] [] := by
  intro j
  induction j with
  | zero =>
    intro i bits hi hB
    have e : n = i := by omega
    subst e
    refine xs_iload_n C0 d_Fl_between_4 rfl 3 rfl ?_
    refine xs_aload_n C0 d_Fl_between_5 rfl 1 rfl ?_
    refine xs_get (q := 2) (v := .int (nI n)) C0 f_Fl_80 d_Fl_between_6 rfl rfl ?_
    refine xs_icmp_ge (tgt := 76) C0 d_Fl_between_9 (by decide) (fun _ => ?_) (fun c9 => absurd (nI_le (Nat.le_refl _) (by omega)) c9)
    refine xs_lv (lv' := [(2, .int bits)]) [2] rfl ?_
    subst hB
    exact kx
  | succ j ih =>
    intro i bits hi hB
    have hlt : i < n := by omega
    refine xs_iload_n C0 d_Fl_between_4 rfl 3 rfl ?_
    refine xs_aload_n C0 d_Fl_between_5 rfl 1 rfl ?_
    refine xs_get (q := 2) (v := .int (nI n)) C0 f_Fl_80 d_Fl_between_6 rfl rfl ?_
    refine xs_icmp_ge (tgt := 76) C0 d_Fl_between_9 (by decide) (fun c9 => absurd c9 (nI_ge hlt (by omega))) (fun _ => ?_)
    refine xs_aload_n C0 d_Fl_between_12 rfl 1 rfl ?_
    refine xs_get (q := 2) (v := .ref 3) C0 f_Fl_85 d_Fl_between_13 rfl rfl ?_
    refine xs_iload_n C0 d_Fl_between_16 rfl 3 rfl ?_
    refine xs_iald C0 d_Fl_between_17 rfl (vp_in_nI (n := i) (by omega) (by decide)) ?_
    refine xs_top (v' := .int (f i)) (by rw [nI_clamp (by omega)]) ?_
    refine xs_istore (lv' := [(4, .int (f i)), (0, .ref 30), (1, .ref 2), (2, .int bits), (3, .int (nI i))]) C0 d_Fl_between_18 (by decide) rfl ?_
    refine xs_aload_n C0 d_Fl_between_20 rfl 2 rfl ?_
    refine xs_get (q := 2) (v := .ref 4) C0 f_Fl_89 d_Fl_between_21 rfl rfl ?_
    refine xs_iload_n C0 d_Fl_between_24 rfl 4 rfl ?_
    refine xs_pc (pc' := 25) rfl ?_
    refine xs_iald C0 d_Fl_between_25 rfl (vp_in_nI (n := i) (by omega) (by decide)) ?_
    refine xs_top (v' := .int (g i)) (by rw [nI_clamp (by omega)]) ?_
    refine xs_istore (lv' := [(5, .int (g i)), (4, .int (f i)), (0, .ref 30), (1, .ref 2), (2, .int bits), (3, .int (nI i))]) C0 d_Fl_between_26 (by decide) rfl ?_
    refine xs_aload_n C0 d_Fl_between_28 rfl 2 rfl ?_
    refine xs_iload C0 d_Fl_between_29 1 rfl ?_
    refine xs_cV1 (ω' := (wd (f, g, nI n) P1 P2 P3 P4 pl dr ki ow S T (on, bk, ho, co, cg, m1, m2, m3, m4) H tt ++ rest)) (As := [.int (f i)]) (st := []) (kc' := 0) (ks' := 0) (v := .int (f_b64 ho (f i))) C0 d_Fl_between_31 l_Fl_92 rfl rfl c_hot rfl rfl rfl (Nat.le_of_ble_eq_true rfl) (Nat.le_of_ble_eq_true rfl) (Nat.le_of_ble_eq_true rfl) (Nat.le_of_ble_eq_true rfl) (Nat.le_of_ble_eq_true rfl) (Nat.le_of_ble_eq_true rfl) ?_
    refine xs_if_eq (tgt := 46) C0 d_Fl_between_34 (by decide) (fun ca => ?_) (fun ca => ?_)
    · refine xs_aload_n C0 d_Fl_between_46 rfl 2 rfl ?_
      refine xs_iload C0 d_Fl_between_47 0 rfl ?_
      refine xs_cV1 (ω' := (wd (f, g, nI n) P1 P2 P3 P4 pl dr ki ow S T (on, bk, ho, co, cg, m1, m2, m3, m4) H tt ++ rest)) (As := [.int (g i)]) (st := []) (kc' := 0) (ks' := 0) (v := .int (f_b64 ho (g i))) C0 d_Fl_between_49 l_Fl_92 rfl rfl c_hot rfl rfl rfl (Nat.le_of_ble_eq_true rfl) (Nat.le_of_ble_eq_true rfl) (Nat.le_of_ble_eq_true rfl) (Nat.le_of_ble_eq_true rfl) (Nat.le_of_ble_eq_true rfl) (Nat.le_of_ble_eq_true rfl) ?_
      refine xs_if_eq (tgt := 70) C0 d_Fl_between_52 (by decide) (fun cc => ?_) (fun cc => ?_)
      · refine xs_iinc (v := nI (i + 1)) (lv' := [(3, .int (nI (i + 1))), (5, .int (g i)), (4, .int (f i)), (0, .ref 30), (1, .ref 2), (2, .int bits)]) C0 d_Fl_between_70 5 rfl (by rw [← nI_1]; rfl) (by decide) rfl ?_
        refine xs_goto (tgt := 4) C0 d_Fl_between_73 (by decide) ?_
        refine xs_lv (lv' := [(0, .ref 30), (1, .ref 2), (2, .int bits), (3, .int (nI (i + 1)))]) [3, 4, 5, 0] rfl ?_
        exact ih (i + 1) _ (by omega) (by rw [f_btw, if_neg (fun h9 => h9.elim (fun q9 => q9.1 ca) (fun q9 => q9.1 cc)), hB])
      · refine xs_aload_n C0 d_Fl_between_55 rfl 2 rfl ?_
        refine xs_iload C0 d_Fl_between_56 1 rfl ?_
        refine xs_cV1 (ω' := (wd (f, g, nI n) P1 P2 P3 P4 pl dr ki ow S T (on, bk, ho, co, cg, m1, m2, m3, m4) H tt ++ rest)) (As := [.int (f i)]) (st := []) (kc' := 0) (ks' := 0) (v := .int (f_b64 co (f i))) C0 d_Fl_between_58 l_Fl_96 rfl rfl c_cold rfl rfl rfl (Nat.le_of_ble_eq_true rfl) (Nat.le_of_ble_eq_true rfl) (Nat.le_of_ble_eq_true rfl) (Nat.le_of_ble_eq_true rfl) (Nat.le_of_ble_eq_true rfl) (Nat.le_of_ble_eq_true rfl) ?_
        refine xs_if_eq (tgt := 70) C0 d_Fl_between_61 (by decide) (fun cd => ?_) (fun cd => ?_)
        · refine xs_iinc (v := nI (i + 1)) (lv' := [(3, .int (nI (i + 1))), (5, .int (g i)), (4, .int (f i)), (0, .ref 30), (1, .ref 2), (2, .int bits)]) C0 d_Fl_between_70 5 rfl (by rw [← nI_1]; rfl) (by decide) rfl ?_
          refine xs_goto (tgt := 4) C0 d_Fl_between_73 (by decide) ?_
          refine xs_lv (lv' := [(0, .ref 30), (1, .ref 2), (2, .int bits), (3, .int (nI (i + 1)))]) [3, 4, 5, 0] rfl ?_
          exact ih (i + 1) _ (by omega) (by rw [f_btw, if_neg (fun h9 => h9.elim (fun q9 => q9.1 ca) (fun q9 => q9.2 cd)), hB])
        · refine xs_iload_n C0 d_Fl_between_64 rfl 4 rfl ?_
          refine xs_iconst (v := 1) C0 d_Fl_between_65 (by decide) ?_
          refine xs_iload_n C0 d_Fl_between_66 rfl 5 rfl ?_
          refine xs_ishl C0 d_Fl_between_67 ?_
          refine xs_ior C0 d_Fl_between_68 ?_
          refine xs_istore_n (lv' := [(2, .int (bits ||| (1 <<< ((nI i) &&& 31)))), (5, .int (g i)), (4, .int (f i)), (0, .ref 30), (1, .ref 2), (3, .int (nI i))]) C0 d_Fl_between_69 rfl (by decide) rfl ?_
          refine xs_iinc (v := nI (i + 1)) (lv' := [(3, .int (nI (i + 1))), (2, .int (bits ||| (1 <<< ((nI i) &&& 31)))), (5, .int (g i)), (4, .int (f i)), (0, .ref 30), (1, .ref 2)]) C0 d_Fl_between_70 5 rfl (by rw [← nI_1]; rfl) (by decide) rfl ?_
          refine xs_goto (tgt := 4) C0 d_Fl_between_73 (by decide) ?_
          refine xs_lv (lv' := [(0, .ref 30), (1, .ref 2), (2, .int (bits ||| (1 <<< ((nI i) &&& 31)))), (3, .int (nI (i + 1)))]) [4, 5, 1, 0] rfl ?_
          exact ih (i + 1) _ (by omega) (by rw [f_btw, if_pos (show f_bt ho co (f i) (g i) from Or.inr ⟨cc, cd⟩), hB])
    · refine xs_aload_n C0 d_Fl_between_37 rfl 2 rfl ?_
      refine xs_iload C0 d_Fl_between_38 0 rfl ?_
      refine xs_cV1 (ω' := (wd (f, g, nI n) P1 P2 P3 P4 pl dr ki ow S T (on, bk, ho, co, cg, m1, m2, m3, m4) H tt ++ rest)) (As := [.int (g i)]) (st := []) (kc' := 0) (ks' := 0) (v := .int (f_b64 co (g i))) C0 d_Fl_between_40 l_Fl_96 rfl rfl c_cold rfl rfl rfl (Nat.le_of_ble_eq_true rfl) (Nat.le_of_ble_eq_true rfl) (Nat.le_of_ble_eq_true rfl) (Nat.le_of_ble_eq_true rfl) (Nat.le_of_ble_eq_true rfl) (Nat.le_of_ble_eq_true rfl) ?_
      refine xs_if_ne (tgt := 64) C0 d_Fl_between_43 (by decide) (fun cb => ?_) (fun cb => ?_)
      · refine xs_iload_n C0 d_Fl_between_64 rfl 4 rfl ?_
        refine xs_iconst (v := 1) C0 d_Fl_between_65 (by decide) ?_
        refine xs_iload_n C0 d_Fl_between_66 rfl 5 rfl ?_
        refine xs_ishl C0 d_Fl_between_67 ?_
        refine xs_ior C0 d_Fl_between_68 ?_
        refine xs_istore_n (lv' := [(2, .int (bits ||| (1 <<< ((nI i) &&& 31)))), (5, .int (g i)), (4, .int (f i)), (0, .ref 30), (1, .ref 2), (3, .int (nI i))]) C0 d_Fl_between_69 rfl (by decide) rfl ?_
        refine xs_iinc (v := nI (i + 1)) (lv' := [(3, .int (nI (i + 1))), (2, .int (bits ||| (1 <<< ((nI i) &&& 31)))), (5, .int (g i)), (4, .int (f i)), (0, .ref 30), (1, .ref 2)]) C0 d_Fl_between_70 5 rfl (by rw [← nI_1]; rfl) (by decide) rfl ?_
        refine xs_goto (tgt := 4) C0 d_Fl_between_73 (by decide) ?_
        refine xs_lv (lv' := [(0, .ref 30), (1, .ref 2), (2, .int (bits ||| (1 <<< ((nI i) &&& 31)))), (3, .int (nI (i + 1)))]) [4, 5, 1, 0] rfl ?_
        exact ih (i + 1) _ (by omega) (by rw [f_btw, if_pos (show f_bt ho co (f i) (g i) from Or.inl ⟨ca, cb⟩), hB])
      · refine xs_aload_n C0 d_Fl_between_46 rfl 2 rfl ?_
        refine xs_iload C0 d_Fl_between_47 0 rfl ?_
        refine xs_cV1 (ω' := (wd (f, g, nI n) P1 P2 P3 P4 pl dr ki ow S T (on, bk, ho, co, cg, m1, m2, m3, m4) H tt ++ rest)) (As := [.int (g i)]) (st := []) (kc' := 0) (ks' := 0) (v := .int (f_b64 ho (g i))) C0 d_Fl_between_49 l_Fl_92 rfl rfl c_hot rfl rfl rfl (Nat.le_of_ble_eq_true rfl) (Nat.le_of_ble_eq_true rfl) (Nat.le_of_ble_eq_true rfl) (Nat.le_of_ble_eq_true rfl) (Nat.le_of_ble_eq_true rfl) (Nat.le_of_ble_eq_true rfl) ?_
        refine xs_if_eq (tgt := 70) C0 d_Fl_between_52 (by decide) (fun cc => ?_) (fun cc => ?_)
        · refine xs_iinc (v := nI (i + 1)) (lv' := [(3, .int (nI (i + 1))), (5, .int (g i)), (4, .int (f i)), (0, .ref 30), (1, .ref 2), (2, .int bits)]) C0 d_Fl_between_70 5 rfl (by rw [← nI_1]; rfl) (by decide) rfl ?_
          refine xs_goto (tgt := 4) C0 d_Fl_between_73 (by decide) ?_
          refine xs_lv (lv' := [(0, .ref 30), (1, .ref 2), (2, .int bits), (3, .int (nI (i + 1)))]) [3, 4, 5, 0] rfl ?_
          exact ih (i + 1) _ (by omega) (by rw [f_btw, if_neg (fun h9 => h9.elim (fun q9 => q9.2 cb) (fun q9 => q9.1 cc)), hB])
        · refine xs_aload_n C0 d_Fl_between_55 rfl 2 rfl ?_
          refine xs_iload C0 d_Fl_between_56 1 rfl ?_
          refine xs_cV1 (ω' := (wd (f, g, nI n) P1 P2 P3 P4 pl dr ki ow S T (on, bk, ho, co, cg, m1, m2, m3, m4) H tt ++ rest)) (As := [.int (f i)]) (st := []) (kc' := 0) (ks' := 0) (v := .int (f_b64 co (f i))) C0 d_Fl_between_58 l_Fl_96 rfl rfl c_cold rfl rfl rfl (Nat.le_of_ble_eq_true rfl) (Nat.le_of_ble_eq_true rfl) (Nat.le_of_ble_eq_true rfl) (Nat.le_of_ble_eq_true rfl) (Nat.le_of_ble_eq_true rfl) (Nat.le_of_ble_eq_true rfl) ?_
          refine xs_if_eq (tgt := 70) C0 d_Fl_between_61 (by decide) (fun cd => ?_) (fun cd => ?_)
          · refine xs_iinc (v := nI (i + 1)) (lv' := [(3, .int (nI (i + 1))), (5, .int (g i)), (4, .int (f i)), (0, .ref 30), (1, .ref 2), (2, .int bits)]) C0 d_Fl_between_70 5 rfl (by rw [← nI_1]; rfl) (by decide) rfl ?_
            refine xs_goto (tgt := 4) C0 d_Fl_between_73 (by decide) ?_
            refine xs_lv (lv' := [(0, .ref 30), (1, .ref 2), (2, .int bits), (3, .int (nI (i + 1)))]) [3, 4, 5, 0] rfl ?_
            exact ih (i + 1) _ (by omega) (by rw [f_btw, if_neg (fun h9 => h9.elim (fun q9 => q9.2 cb) (fun q9 => q9.2 cd)), hB])
          · refine xs_iload_n C0 d_Fl_between_64 rfl 4 rfl ?_
            refine xs_iconst (v := 1) C0 d_Fl_between_65 (by decide) ?_
            refine xs_iload_n C0 d_Fl_between_66 rfl 5 rfl ?_
            refine xs_ishl C0 d_Fl_between_67 ?_
            refine xs_ior C0 d_Fl_between_68 ?_
            refine xs_istore_n (lv' := [(2, .int (bits ||| (1 <<< ((nI i) &&& 31)))), (5, .int (g i)), (4, .int (f i)), (0, .ref 30), (1, .ref 2), (3, .int (nI i))]) C0 d_Fl_between_69 rfl (by decide) rfl ?_
            refine xs_iinc (v := nI (i + 1)) (lv' := [(3, .int (nI (i + 1))), (2, .int (bits ||| (1 <<< ((nI i) &&& 31)))), (5, .int (g i)), (4, .int (f i)), (0, .ref 30), (1, .ref 2)]) C0 d_Fl_between_70 5 rfl (by rw [← nI_1]; rfl) (by decide) rfl ?_
            refine xs_goto (tgt := 4) C0 d_Fl_between_73 (by decide) ?_
            refine xs_lv (lv' := [(0, .ref 30), (1, .ref 2), (2, .int (bits ||| (1 <<< ((nI i) &&& 31)))), (3, .int (nI (i + 1)))]) [4, 5, 1, 0] rfl ?_
            exact ih (i + 1) _ (by omega) (by rw [f_btw, if_pos (show f_bt ho co (f i) (g i) from Or.inr ⟨cc, cd⟩), hB])
set_option maxHeartbeats 4000000 in
set_option maxRecDepth 100000 in
theorem c_btw0 {P1 P2 P3 P4 : wt_P} {pl dr ki ow : Nat → Int32} {S T : wt_S} {on bk : Nat → Int64} {ho co : Int64} {cg m1 m2 m3 m4 : Int32} {H : wt_H} {tt : Int32} {rest : xm_O} {f g : Nat → Int32} {n : Nat} (hn : n ≤ 16) : xm_M y_Fl_between (Cond.code y_Fl_between b_Fl_between 6 (some .int)) (xm_rm 1 0 0) [.ref 30, .ref 2] (wd (f, g, nI n) P1 P2 P3 P4 pl dr ki ow S T (on, bk, ho, co, cg, m1, m2, m3, m4) H tt ++ rest) (xm_eq (.inl (some (.int (f_btw ho co f g n)))) (wd (f, g, nI n) P1 P2 P3 P4 pl dr ki ow S T (on, bk, ho, co, cg, m1, m2, m3, m4) H tt ++ rest)) := by
  refine xm_of (by decide) (Nat.le_of_ble_eq_true rfl) (fun E C0 => ?_)
  refine xs_eq (lv' := [(0, .ref 30), (1, .ref 2)]) rfl rfl rfl ?_
  refine xs_iconst (v := 0) C0 d_Fl_between_0 (by decide) ?_
  refine xs_istore_n (lv' := [(2, .int 0), (0, .ref 30), (1, .ref 2)]) C0 d_Fl_between_1 rfl (by decide) rfl ?_
  refine xs_iconst (v := 0) C0 d_Fl_between_2 (by decide) ?_
  refine xs_istore_n (lv' := [(3, .int 0), (2, .int 0), (0, .ref 30), (1, .ref 2)]) C0 d_Fl_between_3 rfl (by decide) rfl ?_
  refine xs_lv (lv' := [(0, .ref 30), (1, .ref 2), (2, .int 0), (3, .int 0)]) [2, 3, 1, 0] rfl ?_
  refine lp_btw0 C0 hn ?_ n 0 _ (by omega) rfl
  refine xs_iload_n C0 d_Fl_between_76 rfl 0 rfl ?_
  exact xs_iret C0 d_Fl_between_77 ⟨rfl, rfl⟩ (Nat.le_of_ble_eq_true rfl) (Nat.le_of_ble_eq_true rfl)
set_option maxHeartbeats 4000000 in
set_option maxRecDepth 100000 in
theorem lp_btw4 {P0 P1 P2 P3 : wt_P} {pl dr ki ow : Nat → Int32} {S T : wt_S} {on bk : Nat → Int64} {ho co : Int64} {cg m1 m2 m3 m4 : Int32} {H : wt_H} {tt : Int32} {rest : xm_O} {f g : Nat → Int32} {n : Nat} {E : xm_X} {Q : State → Prop} (C0 : xm_C E y_Fl_between.cls b_Fl_between 6 (some .int) [] y_Fl_between.name (xm_rm 1 0 0)) (hn : n ≤ 12) (kx : xm_W E 6 Q 0 0 (wd P0 P1 P2 P3 (f, g, nI n) pl dr ki ow S T (on, bk, ho, co, cg, m1, m2, m3, m4) H tt ++ rest) 76 [(2, .int (f_btw ho co f g n))] []) : ∀ j : Nat, ∀ (i : Nat) (bits : Int32), i + j = n → f_btw ho co f g i = bits → xm_W E 6 Q 0 0 (wd P0 P1 P2 P3 (f, g, nI n) pl dr ki ow S T (on, bk, ho, co, cg, m1, m2, m3, m4) H tt ++ rest) 4 [(0, .ref 30), (1, .ref 14), (2, .int bits), (3, .int (nI i))] [] := by
  intro j
  induction j with
  | zero =>
    intro i bits hi hB
    have e : n = i := by omega
    subst e
    refine xs_iload_n C0 d_Fl_between_4 rfl 3 rfl ?_
    refine xs_aload_n C0 d_Fl_between_5 rfl 1 rfl ?_
    refine xs_get (q := 14) (v := .int (nI n)) C0 f_Fl_80 d_Fl_between_6 rfl rfl ?_
    refine xs_icmp_ge (tgt := 76) C0 d_Fl_between_9 (by decide) (fun _ => ?_) (fun c9 => absurd (nI_le (Nat.le_refl _) (by omega)) c9)
    refine xs_lv (lv' := [(2, .int bits)]) [2] rfl ?_
    subst hB
    exact kx
  | succ j ih =>
    intro i bits hi hB
    have hlt : i < n := by omega
    refine xs_iload_n C0 d_Fl_between_4 rfl 3 rfl ?_
    refine xs_aload_n C0 d_Fl_between_5 rfl 1 rfl ?_
    refine xs_get (q := 14) (v := .int (nI n)) C0 f_Fl_80 d_Fl_between_6 rfl rfl ?_
    refine xs_icmp_ge (tgt := 76) C0 d_Fl_between_9 (by decide) (fun c9 => absurd c9 (nI_ge hlt (by omega))) (fun _ => ?_)
    refine xs_aload_n C0 d_Fl_between_12 rfl 1 rfl ?_
    refine xs_get (q := 14) (v := .ref 15) C0 f_Fl_85 d_Fl_between_13 rfl rfl ?_
    refine xs_iload_n C0 d_Fl_between_16 rfl 3 rfl ?_
    refine xs_iald C0 d_Fl_between_17 rfl (vp_in_nI (n := i) (by omega) (by decide)) ?_
    refine xs_top (v' := .int (f i)) (by rw [nI_clamp (by omega)]) ?_
    refine xs_istore (lv' := [(4, .int (f i)), (0, .ref 30), (1, .ref 14), (2, .int bits), (3, .int (nI i))]) C0 d_Fl_between_18 (by decide) rfl ?_
    refine xs_aload_n C0 d_Fl_between_20 rfl 2 rfl ?_
    refine xs_get (q := 14) (v := .ref 16) C0 f_Fl_89 d_Fl_between_21 rfl rfl ?_
    refine xs_iload_n C0 d_Fl_between_24 rfl 4 rfl ?_
    refine xs_pc (pc' := 25) rfl ?_
    refine xs_iald C0 d_Fl_between_25 rfl (vp_in_nI (n := i) (by omega) (by decide)) ?_
    refine xs_top (v' := .int (g i)) (by rw [nI_clamp (by omega)]) ?_
    refine xs_istore (lv' := [(5, .int (g i)), (4, .int (f i)), (0, .ref 30), (1, .ref 14), (2, .int bits), (3, .int (nI i))]) C0 d_Fl_between_26 (by decide) rfl ?_
    refine xs_aload_n C0 d_Fl_between_28 rfl 2 rfl ?_
    refine xs_iload C0 d_Fl_between_29 1 rfl ?_
    refine xs_cV1 (ω' := (wd P0 P1 P2 P3 (f, g, nI n) pl dr ki ow S T (on, bk, ho, co, cg, m1, m2, m3, m4) H tt ++ rest)) (As := [.int (f i)]) (st := []) (kc' := 0) (ks' := 0) (v := .int (f_b64 ho (f i))) C0 d_Fl_between_31 l_Fl_92 rfl rfl c_hot rfl rfl rfl (Nat.le_of_ble_eq_true rfl) (Nat.le_of_ble_eq_true rfl) (Nat.le_of_ble_eq_true rfl) (Nat.le_of_ble_eq_true rfl) (Nat.le_of_ble_eq_true rfl) (Nat.le_of_ble_eq_true rfl) ?_
    refine xs_if_eq (tgt := 46) C0 d_Fl_between_34 (by decide) (fun ca => ?_) (fun ca => ?_)
    · refine xs_aload_n C0 d_Fl_between_46 rfl 2 rfl ?_
      refine xs_iload C0 d_Fl_between_47 0 rfl ?_
      refine xs_cV1 (ω' := (wd P0 P1 P2 P3 (f, g, nI n) pl dr ki ow S T (on, bk, ho, co, cg, m1, m2, m3, m4) H tt ++ rest)) (As := [.int (g i)]) (st := []) (kc' := 0) (ks' := 0) (v := .int (f_b64 ho (g i))) C0 d_Fl_between_49 l_Fl_92 rfl rfl c_hot rfl rfl rfl (Nat.le_of_ble_eq_true rfl) (Nat.le_of_ble_eq_true rfl) (Nat.le_of_ble_eq_true rfl) (Nat.le_of_ble_eq_true rfl) (Nat.le_of_ble_eq_true rfl) (Nat.le_of_ble_eq_true rfl) ?_
      refine xs_if_eq (tgt := 70) C0 d_Fl_between_52 (by decide) (fun cc => ?_) (fun cc => ?_)
      · refine xs_iinc (v := nI (i + 1)) (lv' := [(3, .int (nI (i + 1))), (5, .int (g i)), (4, .int (f i)), (0, .ref 30), (1, .ref 14), (2, .int bits)]) C0 d_Fl_between_70 5 rfl (by rw [← nI_1]; rfl) (by decide) rfl ?_
        refine xs_goto (tgt := 4) C0 d_Fl_between_73 (by decide) ?_
        refine xs_lv (lv' := [(0, .ref 30), (1, .ref 14), (2, .int bits), (3, .int (nI (i + 1)))]) [3, 4, 5, 0] rfl ?_
        exact ih (i + 1) _ (by omega) (by rw [f_btw, if_neg (fun h9 => h9.elim (fun q9 => q9.1 ca) (fun q9 => q9.1 cc)), hB])
      · refine xs_aload_n C0 d_Fl_between_55 rfl 2 rfl ?_
        refine xs_iload C0 d_Fl_between_56 1 rfl ?_
        refine xs_cV1 (ω' := (wd P0 P1 P2 P3 (f, g, nI n) pl dr ki ow S T (on, bk, ho, co, cg, m1, m2, m3, m4) H tt ++ rest)) (As := [.int (f i)]) (st := []) (kc' := 0) (ks' := 0) (v := .int (f_b64 co (f i))) C0 d_Fl_between_58 l_Fl_96 rfl rfl c_cold rfl rfl rfl (Nat.le_of_ble_eq_true rfl) (Nat.le_of_ble_eq_true rfl) (Nat.le_of_ble_eq_true rfl) (Nat.le_of_ble_eq_true rfl) (Nat.le_of_ble_eq_true rfl) (Nat.le_of_ble_eq_true rfl) ?_
        refine xs_if_eq (tgt := 70) C0 d_Fl_between_61 (by decide) (fun cd => ?_) (fun cd => ?_)
        · refine xs_iinc (v := nI (i + 1)) (lv' := [(3, .int (nI (i + 1))), (5, .int (g i)), (4, .int (f i)), (0, .ref 30), (1, .ref 14), (2, .int bits)]) C0 d_Fl_between_70 5 rfl (by rw [← nI_1]; rfl) (by decide) rfl ?_
          refine xs_goto (tgt := 4) C0 d_Fl_between_73 (by decide) ?_
          refine xs_lv (lv' := [(0, .ref 30), (1, .ref 14), (2, .int bits), (3, .int (nI (i + 1)))]) [3, 4, 5, 0] rfl ?_
          exact ih (i + 1) _ (by omega) (by rw [f_btw, if_neg (fun h9 => h9.elim (fun q9 => q9.1 ca) (fun q9 => q9.2 cd)), hB])
        · refine xs_iload_n C0 d_Fl_between_64 rfl 4 rfl ?_
          refine xs_iconst (v := 1) C0 d_Fl_between_65 (by decide) ?_
          refine xs_iload_n C0 d_Fl_between_66 rfl 5 rfl ?_
          refine xs_ishl C0 d_Fl_between_67 ?_
          refine xs_ior C0 d_Fl_between_68 ?_
          refine xs_istore_n (lv' := [(2, .int (bits ||| (1 <<< ((nI i) &&& 31)))), (5, .int (g i)), (4, .int (f i)), (0, .ref 30), (1, .ref 14), (3, .int (nI i))]) C0 d_Fl_between_69 rfl (by decide) rfl ?_
          refine xs_iinc (v := nI (i + 1)) (lv' := [(3, .int (nI (i + 1))), (2, .int (bits ||| (1 <<< ((nI i) &&& 31)))), (5, .int (g i)), (4, .int (f i)), (0, .ref 30), (1, .ref 14)]) C0 d_Fl_between_70 5 rfl (by rw [← nI_1]; rfl) (by decide) rfl ?_
          refine xs_goto (tgt := 4) C0 d_Fl_between_73 (by decide) ?_
          refine xs_lv (lv' := [(0, .ref 30), (1, .ref 14), (2, .int (bits ||| (1 <<< ((nI i) &&& 31)))), (3, .int (nI (i + 1)))]) [4, 5, 1, 0] rfl ?_
          exact ih (i + 1) _ (by omega) (by rw [f_btw, if_pos (show f_bt ho co (f i) (g i) from Or.inr ⟨cc, cd⟩), hB])
    · refine xs_aload_n C0 d_Fl_between_37 rfl 2 rfl ?_
      refine xs_iload C0 d_Fl_between_38 0 rfl ?_
      refine xs_cV1 (ω' := (wd P0 P1 P2 P3 (f, g, nI n) pl dr ki ow S T (on, bk, ho, co, cg, m1, m2, m3, m4) H tt ++ rest)) (As := [.int (g i)]) (st := []) (kc' := 0) (ks' := 0) (v := .int (f_b64 co (g i))) C0 d_Fl_between_40 l_Fl_96 rfl rfl c_cold rfl rfl rfl (Nat.le_of_ble_eq_true rfl) (Nat.le_of_ble_eq_true rfl) (Nat.le_of_ble_eq_true rfl) (Nat.le_of_ble_eq_true rfl) (Nat.le_of_ble_eq_true rfl) (Nat.le_of_ble_eq_true rfl) ?_
      refine xs_if_ne (tgt := 64) C0 d_Fl_between_43 (by decide) (fun cb => ?_) (fun cb => ?_)
      · refine xs_iload_n C0 d_Fl_between_64 rfl 4 rfl ?_
        refine xs_iconst (v := 1) C0 d_Fl_between_65 (by decide) ?_
        refine xs_iload_n C0 d_Fl_between_66 rfl 5 rfl ?_
        refine xs_ishl C0 d_Fl_between_67 ?_
        refine xs_ior C0 d_Fl_between_68 ?_
        refine xs_istore_n (lv' := [(2, .int (bits ||| (1 <<< ((nI i) &&& 31)))), (5, .int (g i)), (4, .int (f i)), (0, .ref 30), (1, .ref 14), (3, .int (nI i))]) C0 d_Fl_between_69 rfl (by decide) rfl ?_
        refine xs_iinc (v := nI (i + 1)) (lv' := [(3, .int (nI (i + 1))), (2, .int (bits ||| (1 <<< ((nI i) &&& 31)))), (5, .int (g i)), (4, .int (f i)), (0, .ref 30), (1, .ref 14)]) C0 d_Fl_between_70 5 rfl (by rw [← nI_1]; rfl) (by decide) rfl ?_
        refine xs_goto (tgt := 4) C0 d_Fl_between_73 (by decide) ?_
        refine xs_lv (lv' := [(0, .ref 30), (1, .ref 14), (2, .int (bits ||| (1 <<< ((nI i) &&& 31)))), (3, .int (nI (i + 1)))]) [4, 5, 1, 0] rfl ?_
        exact ih (i + 1) _ (by omega) (by rw [f_btw, if_pos (show f_bt ho co (f i) (g i) from Or.inl ⟨ca, cb⟩), hB])
      · refine xs_aload_n C0 d_Fl_between_46 rfl 2 rfl ?_
        refine xs_iload C0 d_Fl_between_47 0 rfl ?_
        refine xs_cV1 (ω' := (wd P0 P1 P2 P3 (f, g, nI n) pl dr ki ow S T (on, bk, ho, co, cg, m1, m2, m3, m4) H tt ++ rest)) (As := [.int (g i)]) (st := []) (kc' := 0) (ks' := 0) (v := .int (f_b64 ho (g i))) C0 d_Fl_between_49 l_Fl_92 rfl rfl c_hot rfl rfl rfl (Nat.le_of_ble_eq_true rfl) (Nat.le_of_ble_eq_true rfl) (Nat.le_of_ble_eq_true rfl) (Nat.le_of_ble_eq_true rfl) (Nat.le_of_ble_eq_true rfl) (Nat.le_of_ble_eq_true rfl) ?_
        refine xs_if_eq (tgt := 70) C0 d_Fl_between_52 (by decide) (fun cc => ?_) (fun cc => ?_)
        · refine xs_iinc (v := nI (i + 1)) (lv' := [(3, .int (nI (i + 1))), (5, .int (g i)), (4, .int (f i)), (0, .ref 30), (1, .ref 14), (2, .int bits)]) C0 d_Fl_between_70 5 rfl (by rw [← nI_1]; rfl) (by decide) rfl ?_
          refine xs_goto (tgt := 4) C0 d_Fl_between_73 (by decide) ?_
          refine xs_lv (lv' := [(0, .ref 30), (1, .ref 14), (2, .int bits), (3, .int (nI (i + 1)))]) [3, 4, 5, 0] rfl ?_
          exact ih (i + 1) _ (by omega) (by rw [f_btw, if_neg (fun h9 => h9.elim (fun q9 => q9.2 cb) (fun q9 => q9.1 cc)), hB])
        · refine xs_aload_n C0 d_Fl_between_55 rfl 2 rfl ?_
          refine xs_iload C0 d_Fl_between_56 1 rfl ?_
          refine xs_cV1 (ω' := (wd P0 P1 P2 P3 (f, g, nI n) pl dr ki ow S T (on, bk, ho, co, cg, m1, m2, m3, m4) H tt ++ rest)) (As := [.int (f i)]) (st := []) (kc' := 0) (ks' := 0) (v := .int (f_b64 co (f i))) C0 d_Fl_between_58 l_Fl_96 rfl rfl c_cold rfl rfl rfl (Nat.le_of_ble_eq_true rfl) (Nat.le_of_ble_eq_true rfl) (Nat.le_of_ble_eq_true rfl) (Nat.le_of_ble_eq_true rfl) (Nat.le_of_ble_eq_true rfl) (Nat.le_of_ble_eq_true rfl) ?_
          refine xs_if_eq (tgt := 70) C0 d_Fl_between_61 (by decide) (fun cd => ?_) (fun cd => ?_)
          · refine xs_iinc (v := nI (i + 1)) (lv' := [(3, .int (nI (i + 1))), (5, .int (g i)), (4, .int (f i)), (0, .ref 30), (1, .ref 14), (2, .int bits)]) C0 d_Fl_between_70 5 rfl (by rw [← nI_1]; rfl) (by decide) rfl ?_
            refine xs_goto (tgt := 4) C0 d_Fl_between_73 (by decide) ?_
            refine xs_lv (lv' := [(0, .ref 30), (1, .ref 14), (2, .int bits), (3, .int (nI (i + 1)))]) [3, 4, 5, 0] rfl ?_
            exact ih (i + 1) _ (by omega) (by rw [f_btw, if_neg (fun h9 => h9.elim (fun q9 => q9.2 cb) (fun q9 => q9.2 cd)), hB])
          · refine xs_iload_n C0 d_Fl_between_64 rfl 4 rfl ?_
            refine xs_iconst (v := 1) C0 d_Fl_between_65 (by decide) ?_
            refine xs_iload_n C0 d_Fl_between_66 rfl 5 rfl ?_
            refine xs_ishl C0 d_Fl_between_67 ?_
            refine xs_ior C0 d_Fl_between_68 ?_
            refine xs_istore_n (lv' := [(2, .int (bits ||| (1 <<< ((nI i) &&& 31)))), (5, .int (g i)), (4, .int (f i)), (0, .ref 30), (1, .ref 14), (3, .int (nI i))]) C0 d_Fl_between_69 rfl (by decide) rfl ?_
            refine xs_iinc (v := nI (i + 1)) (lv' := [(3, .int (nI (i + 1))), (2, .int (bits ||| (1 <<< ((nI i) &&& 31)))), (5, .int (g i)), (4, .int (f i)), (0, .ref 30), (1, .ref 14)]) C0 d_Fl_between_70 5 rfl (by rw [← nI_1]; rfl) (by decide) rfl ?_
            refine xs_goto (tgt := 4) C0 d_Fl_between_73 (by decide) ?_
            refine xs_lv (lv' := [(0, .ref 30), (1, .ref 14), (2, .int (bits ||| (1 <<< ((nI i) &&& 31)))), (3, .int (nI (i + 1)))]) [4, 5, 1, 0] rfl ?_
            exact ih (i + 1) _ (by omega) (by rw [f_btw, if_pos (show f_bt ho co (f i) (g i) from Or.inr ⟨cc, cd⟩), hB])
set_option maxHeartbeats 4000000 in
set_option maxRecDepth 100000 in
theorem c_btw4 {P0 P1 P2 P3 : wt_P} {pl dr ki ow : Nat → Int32} {S T : wt_S} {on bk : Nat → Int64} {ho co : Int64} {cg m1 m2 m3 m4 : Int32} {H : wt_H} {tt : Int32} {rest : xm_O} {f g : Nat → Int32} {n : Nat} (hn : n ≤ 12) : xm_M y_Fl_between (Cond.code y_Fl_between b_Fl_between 6 (some .int)) (xm_rm 1 0 0) [.ref 30, .ref 14] (wd P0 P1 P2 P3 (f, g, nI n) pl dr ki ow S T (on, bk, ho, co, cg, m1, m2, m3, m4) H tt ++ rest) (xm_eq (.inl (some (.int (f_btw ho co f g n)))) (wd P0 P1 P2 P3 (f, g, nI n) pl dr ki ow S T (on, bk, ho, co, cg, m1, m2, m3, m4) H tt ++ rest)) := by
  refine xm_of (by decide) (Nat.le_of_ble_eq_true rfl) (fun E C0 => ?_)
  refine xs_eq (lv' := [(0, .ref 30), (1, .ref 14)]) rfl rfl rfl ?_
  refine xs_iconst (v := 0) C0 d_Fl_between_0 (by decide) ?_
  refine xs_istore_n (lv' := [(2, .int 0), (0, .ref 30), (1, .ref 14)]) C0 d_Fl_between_1 rfl (by decide) rfl ?_
  refine xs_iconst (v := 0) C0 d_Fl_between_2 (by decide) ?_
  refine xs_istore_n (lv' := [(3, .int 0), (2, .int 0), (0, .ref 30), (1, .ref 14)]) C0 d_Fl_between_3 rfl (by decide) rfl ?_
  refine xs_lv (lv' := [(0, .ref 30), (1, .ref 14), (2, .int 0), (3, .int 0)]) [2, 3, 1, 0] rfl ?_
  refine lp_btw4 C0 hn ?_ n 0 _ (by omega) rfl
  refine xs_iload_n C0 d_Fl_between_76 rfl 0 rfl ?_
  exact xs_iret C0 d_Fl_between_77 ⟨rfl, rfl⟩ (Nat.le_of_ble_eq_true rfl) (Nat.le_of_ble_eq_true rfl)
set_option maxHeartbeats 4000000 in
set_option maxRecDepth 100000 in
theorem c_rchs {P0 P1 P2 P3 P4 : wt_P} {pl dr ki ow : Nat → Int32} {S T : wt_S} {on bk : Nat → Int64} {ho co : Int64} {cg m1 m2 m3 m4 : Int32} {H : wt_H} {tt : Int32} {rest : xm_O} {a b : Int32} (hnx : okR on) (ha : vp_in a 48) : xm_M y_Fl_reaches (Cond.code y_Fl_reaches b_Fl_reaches 3 (some .boolean)) (xm_rm 3 0 0) [.ref 30, .int a, .int b] (wd P0 P1 P2 P3 P4 pl dr ki ow S T (on, bk, ho, co, cg, m1, m2, m3, m4) H tt ++ rest) (xm_eq (.inl (some (.int (f_b64 (f_reach on a) b)))) (wd P0 P1 P2 P3 P4 pl dr ki ow S T (on, bk, ho, co, cg, m1, m2, m3, m4) H tt ++ rest)) := by
  refine xm_of (by decide) (Nat.le_of_ble_eq_true rfl) (fun E C0 => ?_)
  refine xs_eq (lv' := [(0, .ref 30), (1, .int a), (2, .int b)]) rfl rfl rfl ?_
  refine xs_aload_n C0 d_Fl_reaches_0 rfl 0 rfl ?_
  refine xs_get (q := 30) (v := .ref 31) C0 f_Fl_9 d_Fl_reaches_1 rfl rfl ?_
  refine xs_iload_n C0 d_Fl_reaches_4 rfl 1 rfl ?_
  refine xs_cS1 (ω' := (wd P0 P1 P2 P3 P4 pl dr ki ow S T (on, bk, ho, co, cg, m1, m2, m3, m4) H tt ++ rest)) (av := [.ref 31, .int a]) (st := []) (kc' := 0) (ks' := 0) (v := .long (f_reach on a)) C0 d_Fl_reaches_5 l_Fl_76 (c_reacho hnx ha) rfl rfl rfl (Nat.le_of_ble_eq_true rfl) (Nat.le_of_ble_eq_true rfl) (Nat.le_of_ble_eq_true rfl) (Nat.le_of_ble_eq_true rfl) (Nat.le_of_ble_eq_true rfl) (Nat.le_of_ble_eq_true rfl) ?_
  refine xs_iload_n C0 d_Fl_reaches_8 rfl 2 rfl ?_
  refine xs_lshr C0 d_Fl_reaches_9 ?_
  refine xs_lconst (v := 1) C0 d_Fl_reaches_10 rfl ?_
  refine xs_land C0 d_Fl_reaches_11 ?_
  refine xs_lconst (v := 0) C0 d_Fl_reaches_12 rfl ?_
  refine xs_lcmp C0 d_Fl_reaches_13 ?_
  refine xs_bz_eq (u := 1) (v := 0) (tgt := 21) (J := 22) C0 d_Fl_reaches_14 (by decide) d_Fl_reaches_17 (by decide) d_Fl_reaches_18 (by decide) d_Fl_reaches_21 (by decide) rfl ?_
  exact xs_zret C0 d_Fl_reaches_22 xm_b01 (⟨rfl, rfl⟩) (Nat.le_of_ble_eq_true rfl) (Nat.le_of_ble_eq_true rfl)
set_option maxHeartbeats 4000000 in
set_option maxRecDepth 100000 in
theorem c_lafn {B : wb} {S T : wt_S} {F : wt_F} {H : wt_H} {tt : Int32} {rest : xm_O} {b : Int32} {S1 : wt_S} {F1 : wt_F} (hB : okB B) (hf : g_laf B S F = (b, S1, F1)) : xm_M y_Mo_lookAtFuse (Cond.code y_Mo_lookAtFuse b_Mo_lookAtFuse 2 (some .boolean)) (xm_rm 4 0 0) [.ref 29, .ref 21] (wB B S T F H tt ++ rest) (xm_eq (.inl (some (.int b))) (wB B S1 T F1 H tt ++ rest)) := by
  obtain ⟨⟨f0, g0, n0⟩, ⟨f1, g1, n1⟩, ⟨f2, g2, n2⟩, ⟨f3, g3, n3⟩, ⟨f4, g4, n4⟩, pl, dr, ki, ow⟩ := B
  obtain ⟨⟨h0, hp0⟩, ⟨h1, hp1⟩, ⟨h2, hp2⟩, ⟨h3, hp3⟩, ⟨h4, hp4⟩, hk⟩ := id hB
  dsimp only at h0 h1 h2 h3 h4 hp0 hp1 hp2 hp3 hp4 hk
  refine xm_of (by decide) (Nat.le_of_ble_eq_true rfl) (fun E C0 => ?_)
  refine xs_eq (ω' := (wd (f0, g0, nI n0) (f1, g1, nI n1) (f2, g2, nI n2) (f3, g3, nI n3) (f4, g4, nI n4) pl dr ki ow S T F H tt ++ rest)) (lv' := [(0, .ref 29), (1, .ref 21)]) rfl rfl rfl ?_
  refine xs_aload_n C0 d_Mo_lookAtFuse_0 rfl 1 rfl ?_
  obtain ⟨ss_1, sc_1, sw_1, su_1, sd_1, sk_1, sb_1⟩ := S
  refine xs_get (q := 21) (v := .int sb_1) C0 f_Mo_28 d_Mo_lookAtFuse_1 rfl rfl ?_
  refine xs_if_eq (tgt := 9) C0 d_Mo_lookAtFuse_4 (by decide) (fun c1 => ?_) (fun c1 => ?_)
  · refine xs_aload_n C0 d_Mo_lookAtFuse_9 rfl 0 rfl ?_
    refine xs_get (q := 29) (v := .ref 30) C0 f_Mo_20 d_Mo_lookAtFuse_10 rfl rfl ?_
    refine xs_aload_n C0 d_Mo_lookAtFuse_13 rfl 1 rfl ?_
    obtain ⟨F_2, hF_2⟩ : ∃ X, f_fol (f1, g1, nI n1) (f2, g2, nI n2) (f3, g3, nI n3) ki ow n1 n2 n3 (ss_1, sc_1, sw_1, su_1, sd_1, sk_1, sb_1) F = X := ⟨_, rfl⟩
    refine xs_cV0 (ω' := (wd (f0, g0, nI n0) (f1, g1, nI n1) (f2, g2, nI n2) (f3, g3, nI n3) (f4, g4, nI n4) pl dr ki ow (ss_1, sc_1, sw_1, su_1, sd_1, sk_1, sb_1) T F_2 H tt ++ rest)) (As := [.ref 21]) (st := []) (kc' := 0) (ks' := 0) C0 d_Mo_lookAtFuse_14 l_Mo_24 rfl rfl (c_foln h1 h2 h3 hp1 hp2 hp3 hk hF_2) rfl rfl rfl (Nat.le_of_ble_eq_true rfl) (Nat.le_of_ble_eq_true rfl) (Nat.le_of_ble_eq_true rfl) (Nat.le_of_ble_eq_true rfl) (Nat.le_of_ble_eq_true rfl) (Nat.le_of_ble_eq_true rfl) ?_
    refine xs_aload_n C0 d_Mo_lookAtFuse_17 rfl 1 rfl ?_
    refine xs_aload_n C0 d_Mo_lookAtFuse_18 rfl 0 rfl ?_
    refine xs_get (q := 29) (v := .ref 30) C0 f_Mo_20 d_Mo_lookAtFuse_19 rfl rfl ?_
    refine xs_iconst (v := 1) C0 d_Mo_lookAtFuse_22 (by decide) ?_
    obtain ⟨on_3, bk_3, ho_3, co_3, cg_3, m1_3, m2_3, m3_3, m4_3⟩ := F_2
    refine xs_cV1 (ω' := (wd (f0, g0, nI n0) (f1, g1, nI n1) (f2, g2, nI n2) (f3, g3, nI n3) (f4, g4, nI n4) pl dr ki ow (ss_1, sc_1, sw_1, su_1, sd_1, sk_1, sb_1) T (on_3, bk_3, ho_3, co_3, cg_3, m1_3, m2_3, m3_3, m4_3) H tt ++ rest)) (As := [.int 1]) (st := [.ref 21]) (kc' := 0) (ks' := 0) (v := .int (f_b64 ho_3 1)) C0 d_Mo_lookAtFuse_23 l_Mo_34 rfl rfl c_hot rfl rfl rfl (Nat.le_of_ble_eq_true rfl) (Nat.le_of_ble_eq_true rfl) (Nat.le_of_ble_eq_true rfl) (Nat.le_of_ble_eq_true rfl) (Nat.le_of_ble_eq_true rfl) (Nat.le_of_ble_eq_true rfl) ?_
    refine xs_put (ω' := (wd (f0, g0, nI n0) (f1, g1, nI n1) (f2, g2, nI n2) (f3, g3, nI n3) (f4, g4, nI n4) pl dr ki ow (ss_1, sc_1, sw_1, su_1, sd_1, sk_1, (f_b64 ho_3 1)) T (on_3, bk_3, ho_3, co_3, cg_3, m1_3, m2_3, m3_3, m4_3) H tt ++ rest)) C0 f_Mo_28 ty_Sd_6 d_Mo_lookAtFuse_26 rfl (Nat.le_of_ble_eq_true rfl) (xm_zfit (f_b64_01 _ _)) rfl ?_
    refine xs_aload_n C0 d_Mo_lookAtFuse_29 rfl 1 rfl ?_
    refine xs_get (q := 21) (v := .int (f_b64 ho_3 1)) C0 f_Mo_28 d_Mo_lookAtFuse_30 rfl rfl ?_
    refine xs_pc (pc' := 33) rfl ?_
    rw [g_laf, if_pos c1, g_fol] at hf
    dsimp only [pw] at hf
    rw [hF_2] at hf
    cases hf
    exact xs_zret C0 d_Mo_lookAtFuse_33 (f_b64_01 _ _) (⟨rfl, rfl⟩) (Nat.le_of_ble_eq_true rfl) (Nat.le_of_ble_eq_true rfl)
  · refine xs_iconst (v := 0) C0 d_Mo_lookAtFuse_7 (by decide) ?_
    rw [g_laf, if_neg c1] at hf
    cases hf
    exact xs_zret C0 d_Mo_lookAtFuse_8 (Or.inl rfl) (⟨rfl, rfl⟩) (Nat.le_of_ble_eq_true rfl) (Nat.le_of_ble_eq_true rfl)
set_option maxHeartbeats 4000000 in
set_option maxRecDepth 100000 in
theorem c_curn0 {B : wb} {S T : wt_S} {F : wt_F} {H : wt_H} {tt : Int32} {rest : xm_O} {b : Int32} {F1 : wt_F} (hB : okB B) (hf : g_cur B B.1 S F = (b, F1)) : xm_M y_Mo_currents (Cond.code y_Mo_currents b_Mo_currents 3 (some .int)) (xm_rm 4 0 0) [.ref 29, .ref 21, .ref 2] (wB B S T F H tt ++ rest) (xm_eq (.inl (some (.int b))) (wB B S T F1 H tt ++ rest)) := by
  obtain ⟨⟨f0, g0, n0⟩, ⟨f1, g1, n1⟩, ⟨f2, g2, n2⟩, ⟨f3, g3, n3⟩, ⟨f4, g4, n4⟩, pl, dr, ki, ow⟩ := B
  obtain ⟨⟨h0, hp0⟩, ⟨h1, hp1⟩, ⟨h2, hp2⟩, ⟨h3, hp3⟩, ⟨h4, hp4⟩, hk⟩ := id hB
  dsimp only at h0 h1 h2 h3 h4 hp0 hp1 hp2 hp3 hp4 hk
  refine xm_of (by decide) (Nat.le_of_ble_eq_true rfl) (fun E C0 => ?_)
  refine xs_eq (ω' := (wd (f0, g0, nI n0) (f1, g1, nI n1) (f2, g2, nI n2) (f3, g3, nI n3) (f4, g4, nI n4) pl dr ki ow S T F H tt ++ rest)) (lv' := [(0, .ref 29), (1, .ref 21), (2, .ref 2)]) rfl rfl rfl ?_
  refine xs_aload_n C0 d_Mo_currents_0 rfl 1 rfl ?_
  obtain ⟨ss_1, sc_1, sw_1, su_1, sd_1, sk_1, sb_1⟩ := S
  refine xs_get (q := 21) (v := .int sb_1) C0 f_Mo_28 d_Mo_currents_1 rfl rfl ?_
  refine xs_if_eq (tgt := 9) C0 d_Mo_currents_4 (by decide) (fun c1 => ?_) (fun c1 => ?_)
  · refine xs_aload_n C0 d_Mo_currents_9 rfl 0 rfl ?_
    refine xs_get (q := 29) (v := .ref 30) C0 f_Mo_20 d_Mo_currents_10 rfl rfl ?_
    refine xs_aload_n C0 d_Mo_currents_13 rfl 1 rfl ?_
    obtain ⟨F_2, hF_2⟩ : ∃ X, f_fol (f1, g1, nI n1) (f2, g2, nI n2) (f3, g3, nI n3) ki ow n1 n2 n3 (ss_1, sc_1, sw_1, su_1, sd_1, sk_1, sb_1) F = X := ⟨_, rfl⟩
    refine xs_cV0 (ω' := (wd (f0, g0, nI n0) (f1, g1, nI n1) (f2, g2, nI n2) (f3, g3, nI n3) (f4, g4, nI n4) pl dr ki ow (ss_1, sc_1, sw_1, su_1, sd_1, sk_1, sb_1) T F_2 H tt ++ rest)) (As := [.ref 21]) (st := []) (kc' := 0) (ks' := 0) C0 d_Mo_currents_14 l_Mo_24 rfl rfl (c_foln h1 h2 h3 hp1 hp2 hp3 hk hF_2) rfl rfl rfl (Nat.le_of_ble_eq_true rfl) (Nat.le_of_ble_eq_true rfl) (Nat.le_of_ble_eq_true rfl) (Nat.le_of_ble_eq_true rfl) (Nat.le_of_ble_eq_true rfl) (Nat.le_of_ble_eq_true rfl) ?_
    refine xs_aload_n C0 d_Mo_currents_17 rfl 0 rfl ?_
    refine xs_get (q := 29) (v := .ref 30) C0 f_Mo_20 d_Mo_currents_18 rfl rfl ?_
    refine xs_aload_n C0 d_Mo_currents_21 rfl 2 rfl ?_
    obtain ⟨on_3, bk_3, ho_3, co_3, cg_3, m1_3, m2_3, m3_3, m4_3⟩ := F_2
    refine xs_cV1 (ω' := (wd (f0, g0, nI n0) (f1, g1, nI n1) (f2, g2, nI n2) (f3, g3, nI n3) (f4, g4, nI n4) pl dr ki ow (ss_1, sc_1, sw_1, su_1, sd_1, sk_1, sb_1) T (on_3, bk_3, ho_3, co_3, cg_3, m1_3, m2_3, m3_3, m4_3) H tt ++ rest)) (As := [.ref 2]) (st := []) (kc' := 0) (ks' := 0) (v := .int (f_btw ho_3 co_3 f0 g0 n0)) C0 d_Mo_currents_22 l_Mo_38 rfl rfl (c_btw0 (by assumption)) rfl rfl rfl (Nat.le_of_ble_eq_true rfl) (Nat.le_of_ble_eq_true rfl) (Nat.le_of_ble_eq_true rfl) (Nat.le_of_ble_eq_true rfl) (Nat.le_of_ble_eq_true rfl) (Nat.le_of_ble_eq_true rfl) ?_
    rw [g_cur, if_pos c1, g_fol] at hf
    dsimp only [pw] at hf
    rw [hF_2] at hf
    cases hf
    exact xs_iret C0 d_Mo_currents_25 (⟨rfl, rfl⟩) (Nat.le_of_ble_eq_true rfl) (Nat.le_of_ble_eq_true rfl)
  · refine xs_iconst (v := 0) C0 d_Mo_currents_7 (by decide) ?_
    rw [g_cur, if_neg c1] at hf
    cases hf
    exact xs_iret C0 d_Mo_currents_8 (⟨rfl, rfl⟩) (Nat.le_of_ble_eq_true rfl) (Nat.le_of_ble_eq_true rfl)
set_option maxHeartbeats 4000000 in
set_option maxRecDepth 100000 in
theorem c_curn4 {B : wb} {S T : wt_S} {F : wt_F} {H : wt_H} {tt : Int32} {rest : xm_O} {b : Int32} {F1 : wt_F} (hB : okB B) (hf : g_cur B B.2.2.2.2.1 S F = (b, F1)) : xm_M y_Mo_currents (Cond.code y_Mo_currents b_Mo_currents 3 (some .int)) (xm_rm 4 0 0) [.ref 29, .ref 21, .ref 14] (wB B S T F H tt ++ rest) (xm_eq (.inl (some (.int b))) (wB B S T F1 H tt ++ rest)) := by
  obtain ⟨⟨f0, g0, n0⟩, ⟨f1, g1, n1⟩, ⟨f2, g2, n2⟩, ⟨f3, g3, n3⟩, ⟨f4, g4, n4⟩, pl, dr, ki, ow⟩ := B
  obtain ⟨⟨h0, hp0⟩, ⟨h1, hp1⟩, ⟨h2, hp2⟩, ⟨h3, hp3⟩, ⟨h4, hp4⟩, hk⟩ := id hB
  dsimp only at h0 h1 h2 h3 h4 hp0 hp1 hp2 hp3 hp4 hk
  refine xm_of (by decide) (Nat.le_of_ble_eq_true rfl) (fun E C0 => ?_)
  refine xs_eq (ω' := (wd (f0, g0, nI n0) (f1, g1, nI n1) (f2, g2, nI n2) (f3, g3, nI n3) (f4, g4, nI n4) pl dr ki ow S T F H tt ++ rest)) (lv' := [(0, .ref 29), (1, .ref 21), (2, .ref 14)]) rfl rfl rfl ?_
  refine xs_aload_n C0 d_Mo_currents_0 rfl 1 rfl ?_
  obtain ⟨ss_1, sc_1, sw_1, su_1, sd_1, sk_1, sb_1⟩ := S
  refine xs_get (q := 21) (v := .int sb_1) C0 f_Mo_28 d_Mo_currents_1 rfl rfl ?_
  refine xs_if_eq (tgt := 9) C0 d_Mo_currents_4 (by decide) (fun c1 => ?_) (fun c1 => ?_)
  · refine xs_aload_n C0 d_Mo_currents_9 rfl 0 rfl ?_
    refine xs_get (q := 29) (v := .ref 30) C0 f_Mo_20 d_Mo_currents_10 rfl rfl ?_
    refine xs_aload_n C0 d_Mo_currents_13 rfl 1 rfl ?_
    obtain ⟨F_2, hF_2⟩ : ∃ X, f_fol (f1, g1, nI n1) (f2, g2, nI n2) (f3, g3, nI n3) ki ow n1 n2 n3 (ss_1, sc_1, sw_1, su_1, sd_1, sk_1, sb_1) F = X := ⟨_, rfl⟩
    refine xs_cV0 (ω' := (wd (f0, g0, nI n0) (f1, g1, nI n1) (f2, g2, nI n2) (f3, g3, nI n3) (f4, g4, nI n4) pl dr ki ow (ss_1, sc_1, sw_1, su_1, sd_1, sk_1, sb_1) T F_2 H tt ++ rest)) (As := [.ref 21]) (st := []) (kc' := 0) (ks' := 0) C0 d_Mo_currents_14 l_Mo_24 rfl rfl (c_foln h1 h2 h3 hp1 hp2 hp3 hk hF_2) rfl rfl rfl (Nat.le_of_ble_eq_true rfl) (Nat.le_of_ble_eq_true rfl) (Nat.le_of_ble_eq_true rfl) (Nat.le_of_ble_eq_true rfl) (Nat.le_of_ble_eq_true rfl) (Nat.le_of_ble_eq_true rfl) ?_
    refine xs_aload_n C0 d_Mo_currents_17 rfl 0 rfl ?_
    refine xs_get (q := 29) (v := .ref 30) C0 f_Mo_20 d_Mo_currents_18 rfl rfl ?_
    refine xs_aload_n C0 d_Mo_currents_21 rfl 2 rfl ?_
    obtain ⟨on_3, bk_3, ho_3, co_3, cg_3, m1_3, m2_3, m3_3, m4_3⟩ := F_2
    refine xs_cV1 (ω' := (wd (f0, g0, nI n0) (f1, g1, nI n1) (f2, g2, nI n2) (f3, g3, nI n3) (f4, g4, nI n4) pl dr ki ow (ss_1, sc_1, sw_1, su_1, sd_1, sk_1, sb_1) T (on_3, bk_3, ho_3, co_3, cg_3, m1_3, m2_3, m3_3, m4_3) H tt ++ rest)) (As := [.ref 14]) (st := []) (kc' := 0) (ks' := 0) (v := .int (f_btw ho_3 co_3 f4 g4 n4)) C0 d_Mo_currents_22 l_Mo_38 rfl rfl (c_btw4 (by assumption)) rfl rfl rfl (Nat.le_of_ble_eq_true rfl) (Nat.le_of_ble_eq_true rfl) (Nat.le_of_ble_eq_true rfl) (Nat.le_of_ble_eq_true rfl) (Nat.le_of_ble_eq_true rfl) (Nat.le_of_ble_eq_true rfl) ?_
    rw [g_cur, if_pos c1, g_fol] at hf
    dsimp only [pw] at hf
    rw [hF_2] at hf
    cases hf
    exact xs_iret C0 d_Mo_currents_25 (⟨rfl, rfl⟩) (Nat.le_of_ble_eq_true rfl) (Nat.le_of_ble_eq_true rfl)
  · refine xs_iconst (v := 0) C0 d_Mo_currents_7 (by decide) ?_
    rw [g_cur, if_neg c1] at hf
    cases hf
    exact xs_iret C0 d_Mo_currents_8 (⟨rfl, rfl⟩) (Nat.le_of_ble_eq_true rfl) (Nat.le_of_ble_eq_true rfl)
set_option maxHeartbeats 4000000 in
set_option maxRecDepth 100000 in
theorem c_laft {B : wb} {S T : wt_S} {F : wt_F} {H : wt_H} {tt : Int32} {rest : xm_O} {b : Int32} {T1 : wt_S} {F1 : wt_F} (hB : okB B) (hf : g_laf B T F = (b, T1, F1)) : xm_M y_Mo_lookAtFuse (Cond.code y_Mo_lookAtFuse b_Mo_lookAtFuse 2 (some .boolean)) (xm_rm 4 0 0) [.ref 29, .ref 25] (wB B S T F H tt ++ rest) (xm_eq (.inl (some (.int b))) (wB B S T1 F1 H tt ++ rest)) := by
  obtain ⟨⟨f0, g0, n0⟩, ⟨f1, g1, n1⟩, ⟨f2, g2, n2⟩, ⟨f3, g3, n3⟩, ⟨f4, g4, n4⟩, pl, dr, ki, ow⟩ := B
  obtain ⟨⟨h0, hp0⟩, ⟨h1, hp1⟩, ⟨h2, hp2⟩, ⟨h3, hp3⟩, ⟨h4, hp4⟩, hk⟩ := id hB
  dsimp only at h0 h1 h2 h3 h4 hp0 hp1 hp2 hp3 hp4 hk
  refine xm_of (by decide) (Nat.le_of_ble_eq_true rfl) (fun E C0 => ?_)
  refine xs_eq (ω' := (wd (f0, g0, nI n0) (f1, g1, nI n1) (f2, g2, nI n2) (f3, g3, nI n3) (f4, g4, nI n4) pl dr ki ow S T F H tt ++ rest)) (lv' := [(0, .ref 29), (1, .ref 25)]) rfl rfl rfl ?_
  refine xs_aload_n C0 d_Mo_lookAtFuse_0 rfl 1 rfl ?_
  obtain ⟨ts_1, tc_1, tw_1, tu_1, td_1, tk_1, tb_1⟩ := T
  refine xs_get (q := 25) (v := .int tb_1) C0 f_Mo_28 d_Mo_lookAtFuse_1 rfl rfl ?_
  refine xs_if_eq (tgt := 9) C0 d_Mo_lookAtFuse_4 (by decide) (fun c1 => ?_) (fun c1 => ?_)
  · refine xs_aload_n C0 d_Mo_lookAtFuse_9 rfl 0 rfl ?_
    refine xs_get (q := 29) (v := .ref 30) C0 f_Mo_20 d_Mo_lookAtFuse_10 rfl rfl ?_
    refine xs_aload_n C0 d_Mo_lookAtFuse_13 rfl 1 rfl ?_
    obtain ⟨F_2, hF_2⟩ : ∃ X, f_fol (f1, g1, nI n1) (f2, g2, nI n2) (f3, g3, nI n3) ki ow n1 n2 n3 (ts_1, tc_1, tw_1, tu_1, td_1, tk_1, tb_1) F = X := ⟨_, rfl⟩
    refine xs_cV0 (ω' := (wd (f0, g0, nI n0) (f1, g1, nI n1) (f2, g2, nI n2) (f3, g3, nI n3) (f4, g4, nI n4) pl dr ki ow S (ts_1, tc_1, tw_1, tu_1, td_1, tk_1, tb_1) F_2 H tt ++ rest)) (As := [.ref 25]) (st := []) (kc' := 0) (ks' := 0) C0 d_Mo_lookAtFuse_14 l_Mo_24 rfl rfl (c_folt h1 h2 h3 hp1 hp2 hp3 hk hF_2) rfl rfl rfl (Nat.le_of_ble_eq_true rfl) (Nat.le_of_ble_eq_true rfl) (Nat.le_of_ble_eq_true rfl) (Nat.le_of_ble_eq_true rfl) (Nat.le_of_ble_eq_true rfl) (Nat.le_of_ble_eq_true rfl) ?_
    refine xs_aload_n C0 d_Mo_lookAtFuse_17 rfl 1 rfl ?_
    refine xs_aload_n C0 d_Mo_lookAtFuse_18 rfl 0 rfl ?_
    refine xs_get (q := 29) (v := .ref 30) C0 f_Mo_20 d_Mo_lookAtFuse_19 rfl rfl ?_
    refine xs_iconst (v := 1) C0 d_Mo_lookAtFuse_22 (by decide) ?_
    obtain ⟨on_3, bk_3, ho_3, co_3, cg_3, m1_3, m2_3, m3_3, m4_3⟩ := F_2
    refine xs_cV1 (ω' := (wd (f0, g0, nI n0) (f1, g1, nI n1) (f2, g2, nI n2) (f3, g3, nI n3) (f4, g4, nI n4) pl dr ki ow S (ts_1, tc_1, tw_1, tu_1, td_1, tk_1, tb_1) (on_3, bk_3, ho_3, co_3, cg_3, m1_3, m2_3, m3_3, m4_3) H tt ++ rest)) (As := [.int 1]) (st := [.ref 25]) (kc' := 0) (ks' := 0) (v := .int (f_b64 ho_3 1)) C0 d_Mo_lookAtFuse_23 l_Mo_34 rfl rfl c_hot rfl rfl rfl (Nat.le_of_ble_eq_true rfl) (Nat.le_of_ble_eq_true rfl) (Nat.le_of_ble_eq_true rfl) (Nat.le_of_ble_eq_true rfl) (Nat.le_of_ble_eq_true rfl) (Nat.le_of_ble_eq_true rfl) ?_
    refine xs_put (ω' := (wd (f0, g0, nI n0) (f1, g1, nI n1) (f2, g2, nI n2) (f3, g3, nI n3) (f4, g4, nI n4) pl dr ki ow S (ts_1, tc_1, tw_1, tu_1, td_1, tk_1, (f_b64 ho_3 1)) (on_3, bk_3, ho_3, co_3, cg_3, m1_3, m2_3, m3_3, m4_3) H tt ++ rest)) C0 f_Mo_28 ty_Sd_6 d_Mo_lookAtFuse_26 rfl (Nat.le_of_ble_eq_true rfl) (xm_zfit (f_b64_01 _ _)) rfl ?_
    refine xs_aload_n C0 d_Mo_lookAtFuse_29 rfl 1 rfl ?_
    refine xs_get (q := 25) (v := .int (f_b64 ho_3 1)) C0 f_Mo_28 d_Mo_lookAtFuse_30 rfl rfl ?_
    refine xs_pc (pc' := 33) rfl ?_
    rw [g_laf, if_pos c1, g_fol] at hf
    dsimp only [pw] at hf
    rw [hF_2] at hf
    cases hf
    exact xs_zret C0 d_Mo_lookAtFuse_33 (f_b64_01 _ _) (⟨rfl, rfl⟩) (Nat.le_of_ble_eq_true rfl) (Nat.le_of_ble_eq_true rfl)
  · refine xs_iconst (v := 0) C0 d_Mo_lookAtFuse_7 (by decide) ?_
    rw [g_laf, if_neg c1] at hf
    cases hf
    exact xs_zret C0 d_Mo_lookAtFuse_8 (Or.inl rfl) (⟨rfl, rfl⟩) (Nat.le_of_ble_eq_true rfl) (Nat.le_of_ble_eq_true rfl)
set_option maxHeartbeats 4000000 in
set_option maxRecDepth 100000 in
theorem c_curt0 {B : wb} {S T : wt_S} {F : wt_F} {H : wt_H} {tt : Int32} {rest : xm_O} {b : Int32} {F1 : wt_F} (hB : okB B) (hf : g_cur B B.1 T F = (b, F1)) : xm_M y_Mo_currents (Cond.code y_Mo_currents b_Mo_currents 3 (some .int)) (xm_rm 4 0 0) [.ref 29, .ref 25, .ref 2] (wB B S T F H tt ++ rest) (xm_eq (.inl (some (.int b))) (wB B S T F1 H tt ++ rest)) := by
  obtain ⟨⟨f0, g0, n0⟩, ⟨f1, g1, n1⟩, ⟨f2, g2, n2⟩, ⟨f3, g3, n3⟩, ⟨f4, g4, n4⟩, pl, dr, ki, ow⟩ := B
  obtain ⟨⟨h0, hp0⟩, ⟨h1, hp1⟩, ⟨h2, hp2⟩, ⟨h3, hp3⟩, ⟨h4, hp4⟩, hk⟩ := id hB
  dsimp only at h0 h1 h2 h3 h4 hp0 hp1 hp2 hp3 hp4 hk
  refine xm_of (by decide) (Nat.le_of_ble_eq_true rfl) (fun E C0 => ?_)
  refine xs_eq (ω' := (wd (f0, g0, nI n0) (f1, g1, nI n1) (f2, g2, nI n2) (f3, g3, nI n3) (f4, g4, nI n4) pl dr ki ow S T F H tt ++ rest)) (lv' := [(0, .ref 29), (1, .ref 25), (2, .ref 2)]) rfl rfl rfl ?_
  refine xs_aload_n C0 d_Mo_currents_0 rfl 1 rfl ?_
  obtain ⟨ts_1, tc_1, tw_1, tu_1, td_1, tk_1, tb_1⟩ := T
  refine xs_get (q := 25) (v := .int tb_1) C0 f_Mo_28 d_Mo_currents_1 rfl rfl ?_
  refine xs_if_eq (tgt := 9) C0 d_Mo_currents_4 (by decide) (fun c1 => ?_) (fun c1 => ?_)
  · refine xs_aload_n C0 d_Mo_currents_9 rfl 0 rfl ?_
    refine xs_get (q := 29) (v := .ref 30) C0 f_Mo_20 d_Mo_currents_10 rfl rfl ?_
    refine xs_aload_n C0 d_Mo_currents_13 rfl 1 rfl ?_
    obtain ⟨F_2, hF_2⟩ : ∃ X, f_fol (f1, g1, nI n1) (f2, g2, nI n2) (f3, g3, nI n3) ki ow n1 n2 n3 (ts_1, tc_1, tw_1, tu_1, td_1, tk_1, tb_1) F = X := ⟨_, rfl⟩
    refine xs_cV0 (ω' := (wd (f0, g0, nI n0) (f1, g1, nI n1) (f2, g2, nI n2) (f3, g3, nI n3) (f4, g4, nI n4) pl dr ki ow S (ts_1, tc_1, tw_1, tu_1, td_1, tk_1, tb_1) F_2 H tt ++ rest)) (As := [.ref 25]) (st := []) (kc' := 0) (ks' := 0) C0 d_Mo_currents_14 l_Mo_24 rfl rfl (c_folt h1 h2 h3 hp1 hp2 hp3 hk hF_2) rfl rfl rfl (Nat.le_of_ble_eq_true rfl) (Nat.le_of_ble_eq_true rfl) (Nat.le_of_ble_eq_true rfl) (Nat.le_of_ble_eq_true rfl) (Nat.le_of_ble_eq_true rfl) (Nat.le_of_ble_eq_true rfl) ?_
    refine xs_aload_n C0 d_Mo_currents_17 rfl 0 rfl ?_
    refine xs_get (q := 29) (v := .ref 30) C0 f_Mo_20 d_Mo_currents_18 rfl rfl ?_
    refine xs_aload_n C0 d_Mo_currents_21 rfl 2 rfl ?_
    obtain ⟨on_3, bk_3, ho_3, co_3, cg_3, m1_3, m2_3, m3_3, m4_3⟩ := F_2
    refine xs_cV1 (ω' := (wd (f0, g0, nI n0) (f1, g1, nI n1) (f2, g2, nI n2) (f3, g3, nI n3) (f4, g4, nI n4) pl dr ki ow S (ts_1, tc_1, tw_1, tu_1, td_1, tk_1, tb_1) (on_3, bk_3, ho_3, co_3, cg_3, m1_3, m2_3, m3_3, m4_3) H tt ++ rest)) (As := [.ref 2]) (st := []) (kc' := 0) (ks' := 0) (v := .int (f_btw ho_3 co_3 f0 g0 n0)) C0 d_Mo_currents_22 l_Mo_38 rfl rfl (c_btw0 (by assumption)) rfl rfl rfl (Nat.le_of_ble_eq_true rfl) (Nat.le_of_ble_eq_true rfl) (Nat.le_of_ble_eq_true rfl) (Nat.le_of_ble_eq_true rfl) (Nat.le_of_ble_eq_true rfl) (Nat.le_of_ble_eq_true rfl) ?_
    rw [g_cur, if_pos c1, g_fol] at hf
    dsimp only [pw] at hf
    rw [hF_2] at hf
    cases hf
    exact xs_iret C0 d_Mo_currents_25 (⟨rfl, rfl⟩) (Nat.le_of_ble_eq_true rfl) (Nat.le_of_ble_eq_true rfl)
  · refine xs_iconst (v := 0) C0 d_Mo_currents_7 (by decide) ?_
    rw [g_cur, if_neg c1] at hf
    cases hf
    exact xs_iret C0 d_Mo_currents_8 (⟨rfl, rfl⟩) (Nat.le_of_ble_eq_true rfl) (Nat.le_of_ble_eq_true rfl)
set_option maxHeartbeats 4000000 in
set_option maxRecDepth 100000 in
theorem c_flow {B : wb} {S T : wt_S} {F : wt_F} {H : wt_H} {tt : Int32} {rest : xm_O} {F1 : wt_F} (hB : okB B) (hf : g_fol B S F = F1) : xm_M y_Mo_flowOf (Cond.code y_Mo_flowOf b_Mo_flowOf 2 (some (.object "RelayBench$Flow"))) (xm_rm 4 0 0) [.ref 29, .ref 21] (wB B S T F H tt ++ rest) (xm_eq (.inl (some (.ref 30))) (wB B S T F1 H tt ++ rest)) := by
  obtain ⟨⟨f0, g0, n0⟩, ⟨f1, g1, n1⟩, ⟨f2, g2, n2⟩, ⟨f3, g3, n3⟩, ⟨f4, g4, n4⟩, pl, dr, ki, ow⟩ := B
  obtain ⟨⟨h0, hp0⟩, ⟨h1, hp1⟩, ⟨h2, hp2⟩, ⟨h3, hp3⟩, ⟨h4, hp4⟩, hk⟩ := id hB
  dsimp only at h0 h1 h2 h3 h4 hp0 hp1 hp2 hp3 hp4 hk
  refine xm_of (by decide) (Nat.le_of_ble_eq_true rfl) (fun E C0 => ?_)
  refine xs_eq (ω' := (wd (f0, g0, nI n0) (f1, g1, nI n1) (f2, g2, nI n2) (f3, g3, nI n3) (f4, g4, nI n4) pl dr ki ow S T F H tt ++ rest)) (lv' := [(0, .ref 29), (1, .ref 21)]) rfl rfl rfl ?_
  refine xs_aload_n C0 d_Mo_flowOf_0 rfl 0 rfl ?_
  refine xs_get (q := 29) (v := .ref 30) C0 f_Mo_20 d_Mo_flowOf_1 rfl rfl ?_
  refine xs_aload_n C0 d_Mo_flowOf_4 rfl 1 rfl ?_
  obtain ⟨F_1, hF_1⟩ : ∃ X, f_fol (f1, g1, nI n1) (f2, g2, nI n2) (f3, g3, nI n3) ki ow n1 n2 n3 S F = X := ⟨_, rfl⟩
  refine xs_cV0 (ω' := (wd (f0, g0, nI n0) (f1, g1, nI n1) (f2, g2, nI n2) (f3, g3, nI n3) (f4, g4, nI n4) pl dr ki ow S T F_1 H tt ++ rest)) (As := [.ref 21]) (st := []) (kc' := 0) (ks' := 0) C0 d_Mo_flowOf_5 l_Mo_24 rfl rfl (c_foln h1 h2 h3 hp1 hp2 hp3 hk hF_1) rfl rfl rfl (Nat.le_of_ble_eq_true rfl) (Nat.le_of_ble_eq_true rfl) (Nat.le_of_ble_eq_true rfl) (Nat.le_of_ble_eq_true rfl) (Nat.le_of_ble_eq_true rfl) (Nat.le_of_ble_eq_true rfl) ?_
  refine xs_aload_n C0 d_Mo_flowOf_8 rfl 0 rfl ?_
  refine xs_get (q := 29) (v := .ref 30) C0 f_Mo_20 d_Mo_flowOf_9 rfl rfl ?_
  rw [g_fol] at hf
  dsimp only [pw] at hf
  rw [hF_1] at hf
  subst hf
  exact xs_aret C0 (Or.inl ⟨_, rfl⟩) d_Mo_flowOf_12 (⟨rfl, rfl⟩) (Nat.le_of_ble_eq_true rfl) (Nat.le_of_ble_eq_true rfl)
