set_option maxHeartbeats 4000000 in
set_option maxRecDepth 100000 in
theorem lp_zrn {P0 P1 P2 P3 P4 : wt_P} {pl dr ki ow : Nat → Int32} {S T : wt_S} {on bk : Nat → Int64} {ho co : Int64} {cg m1 m2 m3 m4 : Int32} {H : wt_H} {tt : Int32} {rest : xm_O} {E : xm_X} {Q : State → Prop} (C0 : xm_C E y_Fl_follow.cls b_Fl_follow 3 none [] y_Fl_follow.name (xm_rm 3 0 0)) (kx : xm_W E 3 Q 0 0 (wd P0 P1 P2 P3 P4 pl dr ki ow S T (f_zr on 48, f_zr bk 48, ho, co, cg, m1, m2, m3, m4) H tt ++ rest) 72 [(0, .ref 30), (1, .ref 21)] []) : ∀ j : Nat, ∀ (i : Nat), i + j = 48 → xm_W E 3 Q 0 0 (wd P0 P1 P2 P3 P4 pl dr ki ow S T (f_zr on i, f_zr bk i, ho, co, cg, m1, m2, m3, m4) H tt ++ rest) 46 [(0, .ref 30), (1, .ref 21), (2, .int (nI i))] [] := by
  intro j
  induction j with
  | zero =>
    intro i hi
    have e : 48 = i := by omega
    subst e
    refine xs_iload_n C0 d_Fl_follow_46 rfl 2 rfl ?_
    refine xs_bipush (v := 48) C0 d_Fl_follow_47 (by decide) ?_
    refine xs_icmp_ge (tgt := 72) C0 d_Fl_follow_49 (by decide) (fun _ => ?_) (fun c9 => absurd (nI_le (Nat.le_refl 48) (by decide)) c9)
    refine xs_lv (lv' := [(0, .ref 30), (1, .ref 21)]) [0, 1] rfl ?_
    exact kx
  | succ j ih =>
    intro i hi
    have hlt : i < 48 := by omega
    refine xs_iload_n C0 d_Fl_follow_46 rfl 2 rfl ?_
    refine xs_bipush (v := 48) C0 d_Fl_follow_47 (by decide) ?_
    refine xs_icmp_ge (tgt := 72) C0 d_Fl_follow_49 (by decide) (fun c9 => absurd c9 (nI_ge (b := 48) hlt (by decide))) (fun _ => ?_)
    refine xs_aload_n C0 d_Fl_follow_52 rfl 0 rfl ?_
    refine xs_get (q := 30) (v := .ref 31) C0 f_Fl_9 d_Fl_follow_53 rfl rfl ?_
    refine xs_iload_n C0 d_Fl_follow_56 rfl 2 rfl ?_
    refine xs_lconst (v := 0) C0 d_Fl_follow_57 rfl ?_
    refine xs_last (ω' := (wd P0 P1 P2 P3 P4 pl dr ki ow S T (vp_updL (f_zr on i) (nI i).toNatClampNeg 0, f_zr bk i, ho, co, cg, m1, m2, m3, m4) H tt ++ rest)) C0 d_Fl_follow_58 rfl (vp_in_nI (n := i) (by omega) (by decide)) rfl ?_
    refine xs_world (ω' := (wd P0 P1 P2 P3 P4 pl dr ki ow S T (vp_updL (f_zr on i) i 0, f_zr bk i, ho, co, cg, m1, m2, m3, m4) H tt ++ rest)) (by rw [nI_clamp (by omega)]) ?_
    refine xs_aload_n C0 d_Fl_follow_59 rfl 0 rfl ?_
    refine xs_get (q := 30) (v := .ref 32) C0 f_Fl_15 d_Fl_follow_60 rfl rfl ?_
    refine xs_iload_n C0 d_Fl_follow_63 rfl 2 rfl ?_
    refine xs_lconst (v := 0) C0 d_Fl_follow_64 rfl ?_
    refine xs_pc (pc' := 65) rfl ?_
    refine xs_last (ω' := (wd P0 P1 P2 P3 P4 pl dr ki ow S T (vp_updL (f_zr on i) i 0, vp_updL (f_zr bk i) (nI i).toNatClampNeg 0, ho, co, cg, m1, m2, m3, m4) H tt ++ rest)) C0 d_Fl_follow_65 rfl (vp_in_nI (n := i) (by omega) (by decide)) rfl ?_
    refine xs_world (ω' := (wd P0 P1 P2 P3 P4 pl dr ki ow S T (vp_updL (f_zr on i) i 0, vp_updL (f_zr bk i) i 0, ho, co, cg, m1, m2, m3, m4) H tt ++ rest)) (by rw [nI_clamp (by omega)]) ?_
    refine xs_iinc (v := nI (i + 1)) (lv' := [(2, .int (nI (i + 1))), (0, .ref 30), (1, .ref 21)]) C0 d_Fl_follow_66 2 rfl (by rw [← nI_1]; rfl) (by decide) rfl ?_
    refine xs_goto (tgt := 46) C0 d_Fl_follow_69 (by decide) ?_
    refine xs_lv (lv' := [(0, .ref 30), (1, .ref 21), (2, .int (nI (i + 1)))]) [1, 2, 0] rfl ?_
    refine xs_world (ω' := (wd P0 P1 P2 P3 P4 pl dr ki ow S T (f_zr on (i + 1), f_zr bk (i + 1), ho, co, cg, m1, m2, m3, m4) H tt ++ rest)) (by rw [f_zr_s, f_zr_s]) ?_
    exact ih (i + 1) (by omega)
set_option maxHeartbeats 4000000 in
set_option maxRecDepth 100000 in
theorem c_foln {P0 P4 : wt_P} {f1 g1 f2 g2 f3 g3 : Nat → Int32} {n1 n2 n3 : Nat} {pl dr ki ow : Nat → Int32} {S T : wt_S} {F F1 : wt_F} {H : wt_H} {tt : Int32} {rest : xm_O} (h1 : n1 ≤ 64) (h2 : n2 ≤ 12) (h3 : n3 ≤ 24) (hp1 : okP (f1, g1, nI n1) n1) (hp2 : okP (f2, g2, nI n2) n2) (hp3 : okP (f3, g3, nI n3) n3) (hk : okK ki n1) (hf : f_fol (f1, g1, nI n1) (f2, g2, nI n2) (f3, g3, nI n3) ki ow n1 n2 n3 S F = F1) : xm_M y_Fl_follow (Cond.code y_Fl_follow b_Fl_follow 3 none) (xm_rm 3 0 0) [.ref 30, .ref 21] (wd P0 (f1, g1, nI n1) (f2, g2, nI n2) (f3, g3, nI n3) P4 pl dr ki ow S T F H tt ++ rest) (xm_eq (.inl none) (wd P0 (f1, g1, nI n1) (f2, g2, nI n2) (f3, g3, nI n3) P4 pl dr ki ow S T F1 H tt ++ rest)) := by
  refine xm_of (by decide) (Nat.le_of_ble_eq_true rfl) (fun E C0 => ?_)
  refine xs_eq (lv' := [(0, .ref 30), (1, .ref 21)]) rfl rfl rfl ?_
  refine xs_aload_n C0 d_Fl_follow_0 rfl 0 rfl ?_
  refine xs_aload_n C0 d_Fl_follow_1 rfl 1 rfl ?_
  refine xs_cV1 (ω' := (wd P0 (f1, g1, nI n1) (f2, g2, nI n2) (f3, g3, nI n3) P4 pl dr ki ow S T F H tt ++ rest)) (As := [.ref 21]) (st := []) (kc' := 0) (ks' := 0) (v := .int (f_made F (f_cc (f1, g1, nI n1) (f2, g2, nI n2) (f3, g3, nI n3)) S)) C0 d_Fl_follow_2 l_Fl_45 rfl rfl c_maden rfl rfl rfl (Nat.le_of_ble_eq_true rfl) (Nat.le_of_ble_eq_true rfl) (Nat.le_of_ble_eq_true rfl) (Nat.le_of_ble_eq_true rfl) (Nat.le_of_ble_eq_true rfl) (Nat.le_of_ble_eq_true rfl) ?_
  refine xs_if_eq (tgt := 9) C0 d_Fl_follow_5 (by decide) (fun c1 => ?_) (fun c1 => ?_)
  · refine xs_aload_n C0 d_Fl_follow_9 rfl 0 rfl ?_
    refine xs_aload_n C0 d_Fl_follow_10 rfl 0 rfl ?_
    refine xs_get (q := 30) (v := .ref 1) C0 f_Fl_41 d_Fl_follow_11 rfl rfl ?_
    refine xs_cV1 (ω' := (wd P0 (f1, g1, nI n1) (f2, g2, nI n2) (f3, g3, nI n3) P4 pl dr ki ow S T F H tt ++ rest)) (As := []) (st := [.ref 30]) (kc' := 0) (ks' := 0) (v := .int (f_cc (f1, g1, nI n1) (f2, g2, nI n2) (f3, g3, nI n3))) C0 d_Fl_follow_14 l_Fl_49 rfl rfl c_cc rfl rfl rfl (Nat.le_of_ble_eq_true rfl) (Nat.le_of_ble_eq_true rfl) (Nat.le_of_ble_eq_true rfl) (Nat.le_of_ble_eq_true rfl) (Nat.le_of_ble_eq_true rfl) (Nat.le_of_ble_eq_true rfl) ?_
    obtain ⟨on_1, bk_1, ho_1, co_1, cg_1, m1_1, m2_1, m3_1, m4_1⟩ := F
    refine xs_put (ω' := (wd P0 (f1, g1, nI n1) (f2, g2, nI n2) (f3, g3, nI n3) P4 pl dr ki ow S T (on_1, bk_1, ho_1, co_1, cg_1, (f_cc (f1, g1, nI n1) (f2, g2, nI n2) (f3, g3, nI n3)), m2_1, m3_1, m4_1) H tt ++ rest)) C0 f_Fl_29 ty_Fl_6 d_Fl_follow_17 rfl (Nat.le_of_ble_eq_true rfl) (fun _ => ⟨rfl, rfl⟩) rfl ?_
    refine xs_aload_n C0 d_Fl_follow_20 rfl 0 rfl ?_
    refine xs_aload_n C0 d_Fl_follow_21 rfl 1 rfl ?_
    obtain ⟨ss_2, sc_2, sw_2, su_2, sd_2, sk_2, sb_2⟩ := S
    refine xs_get (q := 21) (v := .int su_2) C0 f_Fl_55 d_Fl_follow_22 rfl rfl ?_
    refine xs_put (ω' := (wd P0 (f1, g1, nI n1) (f2, g2, nI n2) (f3, g3, nI n3) P4 pl dr ki ow (ss_2, sc_2, sw_2, su_2, sd_2, sk_2, sb_2) T (on_1, bk_1, ho_1, co_1, cg_1, (f_cc (f1, g1, nI n1) (f2, g2, nI n2) (f3, g3, nI n3)), su_2, m3_1, m4_1) H tt ++ rest)) C0 f_Fl_32 ty_Fl_7 d_Fl_follow_25 rfl (Nat.le_of_ble_eq_true rfl) (fun _ => ⟨rfl, rfl⟩) rfl ?_
    refine xs_aload_n C0 d_Fl_follow_28 rfl 0 rfl ?_
    refine xs_aload_n C0 d_Fl_follow_29 rfl 1 rfl ?_
    refine xs_get (q := 21) (v := .int sd_2) C0 f_Fl_60 d_Fl_follow_30 rfl rfl ?_
    refine xs_pc (pc' := 33) rfl ?_
    refine xs_put (ω' := (wd P0 (f1, g1, nI n1) (f2, g2, nI n2) (f3, g3, nI n3) P4 pl dr ki ow (ss_2, sc_2, sw_2, su_2, sd_2, sk_2, sb_2) T (on_1, bk_1, ho_1, co_1, cg_1, (f_cc (f1, g1, nI n1) (f2, g2, nI n2) (f3, g3, nI n3)), su_2, sd_2, m4_1) H tt ++ rest)) C0 f_Fl_35 ty_Fl_8 d_Fl_follow_33 rfl (Nat.le_of_ble_eq_true rfl) (fun _ => ⟨rfl, rfl⟩) rfl ?_
    refine xs_aload_n C0 d_Fl_follow_36 rfl 0 rfl ?_
    refine xs_aload_n C0 d_Fl_follow_37 rfl 1 rfl ?_
    refine xs_get (q := 21) (v := .int sk_2) C0 f_Fl_63 d_Fl_follow_38 rfl rfl ?_
    refine xs_put (ω' := (wd P0 (f1, g1, nI n1) (f2, g2, nI n2) (f3, g3, nI n3) P4 pl dr ki ow (ss_2, sc_2, sw_2, su_2, sd_2, sk_2, sb_2) T (on_1, bk_1, ho_1, co_1, cg_1, (f_cc (f1, g1, nI n1) (f2, g2, nI n2) (f3, g3, nI n3)), su_2, sd_2, sk_2) H tt ++ rest)) C0 f_Fl_38 ty_Fl_9 d_Fl_follow_41 rfl (Nat.le_of_ble_eq_true rfl) (fun _ => ⟨rfl, rfl⟩) rfl ?_
    refine xs_iconst (v := 0) C0 d_Fl_follow_44 (by decide) ?_
    refine xs_istore_n (lv' := [(2, .int 0), (0, .ref 30), (1, .ref 21)]) C0 d_Fl_follow_45 rfl (by decide) rfl ?_
    refine xs_lv (lv' := [(0, .ref 30), (1, .ref 21), (2, .int 0)]) [1, 2, 0] rfl ?_
    refine xs_world (ω' := (wd P0 (f1, g1, nI n1) (f2, g2, nI n2) (f3, g3, nI n3) P4 pl dr ki ow (ss_2, sc_2, sw_2, su_2, sd_2, sk_2, sb_2) T (f_zr on_1 0, f_zr bk_1 0, ho_1, co_1, cg_1, (f_cc (f1, g1, nI n1) (f2, g2, nI n2) (f3, g3, nI n3)), su_2, sd_2, sk_2) H tt ++ rest)) (by rw [f_zr_0, f_zr_0]) ?_
    refine lp_zrn C0 ?_ 48 0 (by omega)
    refine xs_aload_n C0 d_Fl_follow_72 rfl 0 rfl ?_
    refine xs_aload_n C0 d_Fl_follow_73 rfl 1 rfl ?_
    obtain ⟨F_3, hF_3⟩ : ∃ X, f_jc f1 g1 ki ow (ss_2, sc_2, sw_2, su_2, sd_2, sk_2, sb_2) (f_zr on_1 48, f_zr bk_1 48, ho_1, co_1, 0, (f_cc (f1, g1, nI n1) (f2, g2, nI n2) (f3, g3, nI n3)), su_2, sd_2, sk_2) n1 = X := ⟨_, rfl⟩
    refine xs_cV0 (ω' := (wd P0 (f1, g1, nI n1) (f2, g2, nI n2) (f3, g3, nI n3) P4 pl dr ki ow (ss_2, sc_2, sw_2, su_2, sd_2, sk_2, sb_2) T F_3 H tt ++ rest)) (As := [.ref 21]) (st := []) (kc' := 0) (ks' := 0) C0 d_Fl_follow_74 l_Fl_66 rfl rfl (c_jcn h1 hp1 hk hF_3) rfl rfl rfl (Nat.le_of_ble_eq_true rfl) (Nat.le_of_ble_eq_true rfl) (Nat.le_of_ble_eq_true rfl) (Nat.le_of_ble_eq_true rfl) (Nat.le_of_ble_eq_true rfl) (Nat.le_of_ble_eq_true rfl) ?_
    refine xs_aload_n C0 d_Fl_follow_77 rfl 0 rfl ?_
    refine xs_aload_n C0 d_Fl_follow_78 rfl 1 rfl ?_
    obtain ⟨F_4, hF_4⟩ : ∃ X, f_jk f2 g2 sk_2 F_3 n2 = X := ⟨_, rfl⟩
    refine xs_cV0 (ω' := (wd P0 (f1, g1, nI n1) (f2, g2, nI n2) (f3, g3, nI n3) P4 pl dr ki ow (ss_2, sc_2, sw_2, su_2, sd_2, sk_2, sb_2) T F_4 H tt ++ rest)) (As := [.ref 21]) (st := []) (kc' := 0) (ks' := 0) C0 d_Fl_follow_79 l_Fl_70 rfl rfl (c_jkn h2 hp2 hF_4) rfl rfl rfl (Nat.le_of_ble_eq_true rfl) (Nat.le_of_ble_eq_true rfl) (Nat.le_of_ble_eq_true rfl) (Nat.le_of_ble_eq_true rfl) (Nat.le_of_ble_eq_true rfl) (Nat.le_of_ble_eq_true rfl) ?_
    refine xs_aload_n C0 d_Fl_follow_82 rfl 0 rfl ?_
    obtain ⟨F_5, hF_5⟩ : ∃ X, f_jd f3 g3 F_4 n3 = X := ⟨_, rfl⟩
    refine xs_cV0 (ω' := (wd P0 (f1, g1, nI n1) (f2, g2, nI n2) (f3, g3, nI n3) P4 pl dr ki ow (ss_2, sc_2, sw_2, su_2, sd_2, sk_2, sb_2) T F_5 H tt ++ rest)) (As := []) (st := []) (kc' := 0) (ks' := 0) C0 d_Fl_follow_83 l_Fl_73 rfl rfl (c_jd h3 hp3 hF_5) rfl rfl rfl (Nat.le_of_ble_eq_true rfl) (Nat.le_of_ble_eq_true rfl) (Nat.le_of_ble_eq_true rfl) (Nat.le_of_ble_eq_true rfl) (Nat.le_of_ble_eq_true rfl) (Nat.le_of_ble_eq_true rfl) ?_
    have hok : okF F_5 := by rw [← hF_5, ← hF_4, ← hF_3]; exact okF_jd (okF_jk (okF_jc ⟨okR_zr _, okR_zr _⟩ n1 hp1) n2 hp2) n3 hp3
    refine xs_aload_n C0 d_Fl_follow_86 rfl 0 rfl ?_
    refine xs_aload_n C0 d_Fl_follow_87 rfl 0 rfl ?_
    refine xs_get (q := 30) (v := .ref 31) C0 f_Fl_9 d_Fl_follow_88 rfl rfl ?_
    refine xs_iconst (v := 0) C0 d_Fl_follow_91 (by decide) ?_
    refine xs_pc (pc' := 92) rfl ?_
    obtain ⟨on_6, bk_6, ho_6, co_6, cg_6, m1_6, m2_6, m3_6, m4_6⟩ := F_5
    refine xs_cS1 (ω' := (wd P0 (f1, g1, nI n1) (f2, g2, nI n2) (f3, g3, nI n3) P4 pl dr ki ow (ss_2, sc_2, sw_2, su_2, sd_2, sk_2, sb_2) T (on_6, bk_6, ho_6, co_6, cg_6, m1_6, m2_6, m3_6, m4_6) H tt ++ rest)) (av := [.ref 31, .int 0]) (st := [.ref 30]) (kc' := 0) (ks' := 0) (v := .long (f_reach on_6 0)) C0 d_Fl_follow_92 l_Fl_76 (c_reacho hok.1 (vp_in_nI (n := 0) (by decide) (by decide))) rfl rfl rfl (Nat.le_of_ble_eq_true rfl) (Nat.le_of_ble_eq_true rfl) (Nat.le_of_ble_eq_true rfl) (Nat.le_of_ble_eq_true rfl) (Nat.le_of_ble_eq_true rfl) (Nat.le_of_ble_eq_true rfl) ?_
    refine xs_put (ω' := (wd P0 (f1, g1, nI n1) (f2, g2, nI n2) (f3, g3, nI n3) P4 pl dr ki ow (ss_2, sc_2, sw_2, su_2, sd_2, sk_2, sb_2) T (on_6, bk_6, (f_reach on_6 0), co_6, cg_6, m1_6, m2_6, m3_6, m4_6) H tt ++ rest)) C0 f_Fl_18 ty_Fl_3 d_Fl_follow_95 rfl (Nat.le_of_ble_eq_true rfl) (fun _ => ⟨rfl, rfl⟩) rfl ?_
    refine xs_aload_n C0 d_Fl_follow_98 rfl 0 rfl ?_
    refine xs_aload_n C0 d_Fl_follow_99 rfl 0 rfl ?_
    refine xs_get (q := 30) (v := .ref 32) C0 f_Fl_15 d_Fl_follow_100 rfl rfl ?_
    refine xs_iconst (v := 1) C0 d_Fl_follow_103 (by decide) ?_
    refine xs_cS1 (ω' := (wd P0 (f1, g1, nI n1) (f2, g2, nI n2) (f3, g3, nI n3) P4 pl dr ki ow (ss_2, sc_2, sw_2, su_2, sd_2, sk_2, sb_2) T (on_6, bk_6, (f_reach on_6 0), co_6, cg_6, m1_6, m2_6, m3_6, m4_6) H tt ++ rest)) (av := [.ref 32, .int 1]) (st := [.ref 30]) (kc' := 0) (ks' := 0) (v := .long (f_reach bk_6 1)) C0 d_Fl_follow_104 l_Fl_76 (c_reachb hok.2 (vp_in_nI (n := 1) (by decide) (by decide))) rfl rfl rfl (Nat.le_of_ble_eq_true rfl) (Nat.le_of_ble_eq_true rfl) (Nat.le_of_ble_eq_true rfl) (Nat.le_of_ble_eq_true rfl) (Nat.le_of_ble_eq_true rfl) (Nat.le_of_ble_eq_true rfl) ?_
    refine xs_put (ω' := (wd P0 (f1, g1, nI n1) (f2, g2, nI n2) (f3, g3, nI n3) P4 pl dr ki ow (ss_2, sc_2, sw_2, su_2, sd_2, sk_2, sb_2) T (on_6, bk_6, (f_reach on_6 0), (f_reach bk_6 1), cg_6, m1_6, m2_6, m3_6, m4_6) H tt ++ rest)) C0 f_Fl_22 ty_Fl_4 d_Fl_follow_107 rfl (Nat.le_of_ble_eq_true rfl) (fun _ => ⟨rfl, rfl⟩) rfl ?_
    rw [f_fol, if_pos c1, f_new] at hf
    dsimp only at hf
    rw [hF_3, hF_4, hF_5] at hf
    subst hf
    exact xs_vret C0 d_Fl_follow_110 (⟨rfl, rfl⟩) (Nat.le_of_ble_eq_true rfl) (Nat.le_of_ble_eq_true rfl)
  · rw [f_fol, if_neg c1] at hf
    subst hf
    exact xs_vret C0 d_Fl_follow_8 (⟨rfl, rfl⟩) (Nat.le_of_ble_eq_true rfl) (Nat.le_of_ble_eq_true rfl)
set_option maxHeartbeats 4000000 in
set_option maxRecDepth 100000 in
theorem lp_zrt {P0 P1 P2 P3 P4 : wt_P} {pl dr ki ow : Nat → Int32} {S T : wt_S} {on bk : Nat → Int64} {ho co : Int64} {cg m1 m2 m3 m4 : Int32} {H : wt_H} {tt : Int32} {rest : xm_O} {E : xm_X} {Q : State → Prop} (C0 : xm_C E y_Fl_follow.cls b_Fl_follow 3 none [] y_Fl_follow.name (xm_rm 3 0 0)) (kx : xm_W E 3 Q 0 0 (wd P0 P1 P2 P3 P4 pl dr ki ow S T (f_zr on 48, f_zr bk 48, ho, co, cg, m1, m2, m3, m4) H tt ++ rest) 72 [(0, .ref 30), (1, .ref 25)] []) : ∀ j : Nat, ∀ (i : Nat), i + j = 48 → xm_W E 3 Q 0 0 (wd P0 P1 P2 P3 P4 pl dr ki ow S T (f_zr on i, f_zr bk i, ho, co, cg, m1, m2, m3, m4) H tt ++ rest) 46 [(0, .ref 30), (1, .ref 25), (2, .int (nI i))] [] := by
  intro j
  induction j with
  | zero =>
    intro i hi
    have e : 48 = i := by omega
    subst e
    refine xs_iload_n C0 d_Fl_follow_46 rfl 2 rfl ?_
    refine xs_bipush (v := 48) C0 d_Fl_follow_47 (by decide) ?_
    refine xs_icmp_ge (tgt := 72) C0 d_Fl_follow_49 (by decide) (fun _ => ?_) (fun c9 => absurd (nI_le (Nat.le_refl 48) (by decide)) c9)
    refine xs_lv (lv' := [(0, .ref 30), (1, .ref 25)]) [0, 1] rfl ?_
    exact kx
  | succ j ih =>
    intro i hi
    have hlt : i < 48 := by omega
    refine xs_iload_n C0 d_Fl_follow_46 rfl 2 rfl ?_
    refine xs_bipush (v := 48) C0 d_Fl_follow_47 (by decide) ?_
    refine xs_icmp_ge (tgt := 72) C0 d_Fl_follow_49 (by decide) (fun c9 => absurd c9 (nI_ge (b := 48) hlt (by decide))) (fun _ => ?_)
    refine xs_aload_n C0 d_Fl_follow_52 rfl 0 rfl ?_
    refine xs_get (q := 30) (v := .ref 31) C0 f_Fl_9 d_Fl_follow_53 rfl rfl ?_
    refine xs_iload_n C0 d_Fl_follow_56 rfl 2 rfl ?_
    refine xs_lconst (v := 0) C0 d_Fl_follow_57 rfl ?_
    refine xs_last (ω' := (wd P0 P1 P2 P3 P4 pl dr ki ow S T (vp_updL (f_zr on i) (nI i).toNatClampNeg 0, f_zr bk i, ho, co, cg, m1, m2, m3, m4) H tt ++ rest)) C0 d_Fl_follow_58 rfl (vp_in_nI (n := i) (by omega) (by decide)) rfl ?_
    refine xs_world (ω' := (wd P0 P1 P2 P3 P4 pl dr ki ow S T (vp_updL (f_zr on i) i 0, f_zr bk i, ho, co, cg, m1, m2, m3, m4) H tt ++ rest)) (by rw [nI_clamp (by omega)]) ?_
    refine xs_aload_n C0 d_Fl_follow_59 rfl 0 rfl ?_
    refine xs_get (q := 30) (v := .ref 32) C0 f_Fl_15 d_Fl_follow_60 rfl rfl ?_
    refine xs_iload_n C0 d_Fl_follow_63 rfl 2 rfl ?_
    refine xs_lconst (v := 0) C0 d_Fl_follow_64 rfl ?_
    refine xs_pc (pc' := 65) rfl ?_
    refine xs_last (ω' := (wd P0 P1 P2 P3 P4 pl dr ki ow S T (vp_updL (f_zr on i) i 0, vp_updL (f_zr bk i) (nI i).toNatClampNeg 0, ho, co, cg, m1, m2, m3, m4) H tt ++ rest)) C0 d_Fl_follow_65 rfl (vp_in_nI (n := i) (by omega) (by decide)) rfl ?_
    refine xs_world (ω' := (wd P0 P1 P2 P3 P4 pl dr ki ow S T (vp_updL (f_zr on i) i 0, vp_updL (f_zr bk i) i 0, ho, co, cg, m1, m2, m3, m4) H tt ++ rest)) (by rw [nI_clamp (by omega)]) ?_
    refine xs_iinc (v := nI (i + 1)) (lv' := [(2, .int (nI (i + 1))), (0, .ref 30), (1, .ref 25)]) C0 d_Fl_follow_66 2 rfl (by rw [← nI_1]; rfl) (by decide) rfl ?_
    refine xs_goto (tgt := 46) C0 d_Fl_follow_69 (by decide) ?_
    refine xs_lv (lv' := [(0, .ref 30), (1, .ref 25), (2, .int (nI (i + 1)))]) [1, 2, 0] rfl ?_
    refine xs_world (ω' := (wd P0 P1 P2 P3 P4 pl dr ki ow S T (f_zr on (i + 1), f_zr bk (i + 1), ho, co, cg, m1, m2, m3, m4) H tt ++ rest)) (by rw [f_zr_s, f_zr_s]) ?_
    exact ih (i + 1) (by omega)
set_option maxHeartbeats 4000000 in
set_option maxRecDepth 100000 in
theorem c_folt {P0 P4 : wt_P} {f1 g1 f2 g2 f3 g3 : Nat → Int32} {n1 n2 n3 : Nat} {pl dr ki ow : Nat → Int32} {S T : wt_S} {F F1 : wt_F} {H : wt_H} {tt : Int32} {rest : xm_O} (h1 : n1 ≤ 64) (h2 : n2 ≤ 12) (h3 : n3 ≤ 24) (hp1 : okP (f1, g1, nI n1) n1) (hp2 : okP (f2, g2, nI n2) n2) (hp3 : okP (f3, g3, nI n3) n3) (hk : okK ki n1) (hf : f_fol (f1, g1, nI n1) (f2, g2, nI n2) (f3, g3, nI n3) ki ow n1 n2 n3 T F = F1) : xm_M y_Fl_follow (Cond.code y_Fl_follow b_Fl_follow 3 none) (xm_rm 3 0 0) [.ref 30, .ref 25] (wd P0 (f1, g1, nI n1) (f2, g2, nI n2) (f3, g3, nI n3) P4 pl dr ki ow S T F H tt ++ rest) (xm_eq (.inl none) (wd P0 (f1, g1, nI n1) (f2, g2, nI n2) (f3, g3, nI n3) P4 pl dr ki ow S T F1 H tt ++ rest)) := by
  refine xm_of (by decide) (Nat.le_of_ble_eq_true rfl) (fun E C0 => ?_)
  refine xs_eq (lv' := [(0, .ref 30), (1, .ref 25)]) rfl rfl rfl ?_
  refine xs_aload_n C0 d_Fl_follow_0 rfl 0 rfl ?_
  refine xs_aload_n C0 d_Fl_follow_1 rfl 1 rfl ?_
  refine xs_cV1 (ω' := (wd P0 (f1, g1, nI n1) (f2, g2, nI n2) (f3, g3, nI n3) P4 pl dr ki ow S T F H tt ++ rest)) (As := [.ref 25]) (st := []) (kc' := 0) (ks' := 0) (v := .int (f_made F (f_cc (f1, g1, nI n1) (f2, g2, nI n2) (f3, g3, nI n3)) T)) C0 d_Fl_follow_2 l_Fl_45 rfl rfl c_madet rfl rfl rfl (Nat.le_of_ble_eq_true rfl) (Nat.le_of_ble_eq_true rfl) (Nat.le_of_ble_eq_true rfl) (Nat.le_of_ble_eq_true rfl) (Nat.le_of_ble_eq_true rfl) (Nat.le_of_ble_eq_true rfl) ?_
  refine xs_if_eq (tgt := 9) C0 d_Fl_follow_5 (by decide) (fun c1 => ?_) (fun c1 => ?_)
  · refine xs_aload_n C0 d_Fl_follow_9 rfl 0 rfl ?_
    refine xs_aload_n C0 d_Fl_follow_10 rfl 0 rfl ?_
    refine xs_get (q := 30) (v := .ref 1) C0 f_Fl_41 d_Fl_follow_11 rfl rfl ?_
    refine xs_cV1 (ω' := (wd P0 (f1, g1, nI n1) (f2, g2, nI n2) (f3, g3, nI n3) P4 pl dr ki ow S T F H tt ++ rest)) (As := []) (st := [.ref 30]) (kc' := 0) (ks' := 0) (v := .int (f_cc (f1, g1, nI n1) (f2, g2, nI n2) (f3, g3, nI n3))) C0 d_Fl_follow_14 l_Fl_49 rfl rfl c_cc rfl rfl rfl (Nat.le_of_ble_eq_true rfl) (Nat.le_of_ble_eq_true rfl) (Nat.le_of_ble_eq_true rfl) (Nat.le_of_ble_eq_true rfl) (Nat.le_of_ble_eq_true rfl) (Nat.le_of_ble_eq_true rfl) ?_
    obtain ⟨on_1, bk_1, ho_1, co_1, cg_1, m1_1, m2_1, m3_1, m4_1⟩ := F
    refine xs_put (ω' := (wd P0 (f1, g1, nI n1) (f2, g2, nI n2) (f3, g3, nI n3) P4 pl dr ki ow S T (on_1, bk_1, ho_1, co_1, cg_1, (f_cc (f1, g1, nI n1) (f2, g2, nI n2) (f3, g3, nI n3)), m2_1, m3_1, m4_1) H tt ++ rest)) C0 f_Fl_29 ty_Fl_6 d_Fl_follow_17 rfl (Nat.le_of_ble_eq_true rfl) (fun _ => ⟨rfl, rfl⟩) rfl ?_
    refine xs_aload_n C0 d_Fl_follow_20 rfl 0 rfl ?_
    refine xs_aload_n C0 d_Fl_follow_21 rfl 1 rfl ?_
    obtain ⟨ts_2, tc_2, tw_2, tu_2, td_2, tk_2, tb_2⟩ := T
    refine xs_get (q := 25) (v := .int tu_2) C0 f_Fl_55 d_Fl_follow_22 rfl rfl ?_
    refine xs_put (ω' := (wd P0 (f1, g1, nI n1) (f2, g2, nI n2) (f3, g3, nI n3) P4 pl dr ki ow S (ts_2, tc_2, tw_2, tu_2, td_2, tk_2, tb_2) (on_1, bk_1, ho_1, co_1, cg_1, (f_cc (f1, g1, nI n1) (f2, g2, nI n2) (f3, g3, nI n3)), tu_2, m3_1, m4_1) H tt ++ rest)) C0 f_Fl_32 ty_Fl_7 d_Fl_follow_25 rfl (Nat.le_of_ble_eq_true rfl) (fun _ => ⟨rfl, rfl⟩) rfl ?_
    refine xs_aload_n C0 d_Fl_follow_28 rfl 0 rfl ?_
    refine xs_aload_n C0 d_Fl_follow_29 rfl 1 rfl ?_
    refine xs_get (q := 25) (v := .int td_2) C0 f_Fl_60 d_Fl_follow_30 rfl rfl ?_
    refine xs_pc (pc' := 33) rfl ?_
    refine xs_put (ω' := (wd P0 (f1, g1, nI n1) (f2, g2, nI n2) (f3, g3, nI n3) P4 pl dr ki ow S (ts_2, tc_2, tw_2, tu_2, td_2, tk_2, tb_2) (on_1, bk_1, ho_1, co_1, cg_1, (f_cc (f1, g1, nI n1) (f2, g2, nI n2) (f3, g3, nI n3)), tu_2, td_2, m4_1) H tt ++ rest)) C0 f_Fl_35 ty_Fl_8 d_Fl_follow_33 rfl (Nat.le_of_ble_eq_true rfl) (fun _ => ⟨rfl, rfl⟩) rfl ?_
    refine xs_aload_n C0 d_Fl_follow_36 rfl 0 rfl ?_
    refine xs_aload_n C0 d_Fl_follow_37 rfl 1 rfl ?_
    refine xs_get (q := 25) (v := .int tk_2) C0 f_Fl_63 d_Fl_follow_38 rfl rfl ?_
    refine xs_put (ω' := (wd P0 (f1, g1, nI n1) (f2, g2, nI n2) (f3, g3, nI n3) P4 pl dr ki ow S (ts_2, tc_2, tw_2, tu_2, td_2, tk_2, tb_2) (on_1, bk_1, ho_1, co_1, cg_1, (f_cc (f1, g1, nI n1) (f2, g2, nI n2) (f3, g3, nI n3)), tu_2, td_2, tk_2) H tt ++ rest)) C0 f_Fl_38 ty_Fl_9 d_Fl_follow_41 rfl (Nat.le_of_ble_eq_true rfl) (fun _ => ⟨rfl, rfl⟩) rfl ?_
    refine xs_iconst (v := 0) C0 d_Fl_follow_44 (by decide) ?_
    refine xs_istore_n (lv' := [(2, .int 0), (0, .ref 30), (1, .ref 25)]) C0 d_Fl_follow_45 rfl (by decide) rfl ?_
    refine xs_lv (lv' := [(0, .ref 30), (1, .ref 25), (2, .int 0)]) [1, 2, 0] rfl ?_
    refine xs_world (ω' := (wd P0 (f1, g1, nI n1) (f2, g2, nI n2) (f3, g3, nI n3) P4 pl dr ki ow S (ts_2, tc_2, tw_2, tu_2, td_2, tk_2, tb_2) (f_zr on_1 0, f_zr bk_1 0, ho_1, co_1, cg_1, (f_cc (f1, g1, nI n1) (f2, g2, nI n2) (f3, g3, nI n3)), tu_2, td_2, tk_2) H tt ++ rest)) (by rw [f_zr_0, f_zr_0]) ?_
    refine lp_zrt C0 ?_ 48 0 (by omega)
    refine xs_aload_n C0 d_Fl_follow_72 rfl 0 rfl ?_
    refine xs_aload_n C0 d_Fl_follow_73 rfl 1 rfl ?_
    obtain ⟨F_3, hF_3⟩ : ∃ X, f_jc f1 g1 ki ow (ts_2, tc_2, tw_2, tu_2, td_2, tk_2, tb_2) (f_zr on_1 48, f_zr bk_1 48, ho_1, co_1, 0, (f_cc (f1, g1, nI n1) (f2, g2, nI n2) (f3, g3, nI n3)), tu_2, td_2, tk_2) n1 = X := ⟨_, rfl⟩
    refine xs_cV0 (ω' := (wd P0 (f1, g1, nI n1) (f2, g2, nI n2) (f3, g3, nI n3) P4 pl dr ki ow S (ts_2, tc_2, tw_2, tu_2, td_2, tk_2, tb_2) F_3 H tt ++ rest)) (As := [.ref 25]) (st := []) (kc' := 0) (ks' := 0) C0 d_Fl_follow_74 l_Fl_66 rfl rfl (c_jct h1 hp1 hk hF_3) rfl rfl rfl (Nat.le_of_ble_eq_true rfl) (Nat.le_of_ble_eq_true rfl) (Nat.le_of_ble_eq_true rfl) (Nat.le_of_ble_eq_true rfl) (Nat.le_of_ble_eq_true rfl) (Nat.le_of_ble_eq_true rfl) ?_
    refine xs_aload_n C0 d_Fl_follow_77 rfl 0 rfl ?_
    refine xs_aload_n C0 d_Fl_follow_78 rfl 1 rfl ?_
    obtain ⟨F_4, hF_4⟩ : ∃ X, f_jk f2 g2 tk_2 F_3 n2 = X := ⟨_, rfl⟩
    refine xs_cV0 (ω' := (wd P0 (f1, g1, nI n1) (f2, g2, nI n2) (f3, g3, nI n3) P4 pl dr ki ow S (ts_2, tc_2, tw_2, tu_2, td_2, tk_2, tb_2) F_4 H tt ++ rest)) (As := [.ref 25]) (st := []) (kc' := 0) (ks' := 0) C0 d_Fl_follow_79 l_Fl_70 rfl rfl (c_jkt h2 hp2 hF_4) rfl rfl rfl (Nat.le_of_ble_eq_true rfl) (Nat.le_of_ble_eq_true rfl) (Nat.le_of_ble_eq_true rfl) (Nat.le_of_ble_eq_true rfl) (Nat.le_of_ble_eq_true rfl) (Nat.le_of_ble_eq_true rfl) ?_
    refine xs_aload_n C0 d_Fl_follow_82 rfl 0 rfl ?_
    obtain ⟨F_5, hF_5⟩ : ∃ X, f_jd f3 g3 F_4 n3 = X := ⟨_, rfl⟩
    refine xs_cV0 (ω' := (wd P0 (f1, g1, nI n1) (f2, g2, nI n2) (f3, g3, nI n3) P4 pl dr ki ow S (ts_2, tc_2, tw_2, tu_2, td_2, tk_2, tb_2) F_5 H tt ++ rest)) (As := []) (st := []) (kc' := 0) (ks' := 0) C0 d_Fl_follow_83 l_Fl_73 rfl rfl (c_jd h3 hp3 hF_5) rfl rfl rfl (Nat.le_of_ble_eq_true rfl) (Nat.le_of_ble_eq_true rfl) (Nat.le_of_ble_eq_true rfl) (Nat.le_of_ble_eq_true rfl) (Nat.le_of_ble_eq_true rfl) (Nat.le_of_ble_eq_true rfl) ?_
    have hok : okF F_5 := by rw [← hF_5, ← hF_4, ← hF_3]; exact okF_jd (okF_jk (okF_jc ⟨okR_zr _, okR_zr _⟩ n1 hp1) n2 hp2) n3 hp3
    refine xs_aload_n C0 d_Fl_follow_86 rfl 0 rfl ?_
    refine xs_aload_n C0 d_Fl_follow_87 rfl 0 rfl ?_
    refine xs_get (q := 30) (v := .ref 31) C0 f_Fl_9 d_Fl_follow_88 rfl rfl ?_
    refine xs_iconst (v := 0) C0 d_Fl_follow_91 (by decide) ?_
    refine xs_pc (pc' := 92) rfl ?_
    obtain ⟨on_6, bk_6, ho_6, co_6, cg_6, m1_6, m2_6, m3_6, m4_6⟩ := F_5
    refine xs_cS1 (ω' := (wd P0 (f1, g1, nI n1) (f2, g2, nI n2) (f3, g3, nI n3) P4 pl dr ki ow S (ts_2, tc_2, tw_2, tu_2, td_2, tk_2, tb_2) (on_6, bk_6, ho_6, co_6, cg_6, m1_6, m2_6, m3_6, m4_6) H tt ++ rest)) (av := [.ref 31, .int 0]) (st := [.ref 30]) (kc' := 0) (ks' := 0) (v := .long (f_reach on_6 0)) C0 d_Fl_follow_92 l_Fl_76 (c_reacho hok.1 (vp_in_nI (n := 0) (by decide) (by decide))) rfl rfl rfl (Nat.le_of_ble_eq_true rfl) (Nat.le_of_ble_eq_true rfl) (Nat.le_of_ble_eq_true rfl) (Nat.le_of_ble_eq_true rfl) (Nat.le_of_ble_eq_true rfl) (Nat.le_of_ble_eq_true rfl) ?_
    refine xs_put (ω' := (wd P0 (f1, g1, nI n1) (f2, g2, nI n2) (f3, g3, nI n3) P4 pl dr ki ow S (ts_2, tc_2, tw_2, tu_2, td_2, tk_2, tb_2) (on_6, bk_6, (f_reach on_6 0), co_6, cg_6, m1_6, m2_6, m3_6, m4_6) H tt ++ rest)) C0 f_Fl_18 ty_Fl_3 d_Fl_follow_95 rfl (Nat.le_of_ble_eq_true rfl) (fun _ => ⟨rfl, rfl⟩) rfl ?_
    refine xs_aload_n C0 d_Fl_follow_98 rfl 0 rfl ?_
    refine xs_aload_n C0 d_Fl_follow_99 rfl 0 rfl ?_
    refine xs_get (q := 30) (v := .ref 32) C0 f_Fl_15 d_Fl_follow_100 rfl rfl ?_
    refine xs_iconst (v := 1) C0 d_Fl_follow_103 (by decide) ?_
    refine xs_cS1 (ω' := (wd P0 (f1, g1, nI n1) (f2, g2, nI n2) (f3, g3, nI n3) P4 pl dr ki ow S (ts_2, tc_2, tw_2, tu_2, td_2, tk_2, tb_2) (on_6, bk_6, (f_reach on_6 0), co_6, cg_6, m1_6, m2_6, m3_6, m4_6) H tt ++ rest)) (av := [.ref 32, .int 1]) (st := [.ref 30]) (kc' := 0) (ks' := 0) (v := .long (f_reach bk_6 1)) C0 d_Fl_follow_104 l_Fl_76 (c_reachb hok.2 (vp_in_nI (n := 1) (by decide) (by decide))) rfl rfl rfl (Nat.le_of_ble_eq_true rfl) (Nat.le_of_ble_eq_true rfl) (Nat.le_of_ble_eq_true rfl) (Nat.le_of_ble_eq_true rfl) (Nat.le_of_ble_eq_true rfl) (Nat.le_of_ble_eq_true rfl) ?_
    refine xs_put (ω' := (wd P0 (f1, g1, nI n1) (f2, g2, nI n2) (f3, g3, nI n3) P4 pl dr ki ow S (ts_2, tc_2, tw_2, tu_2, td_2, tk_2, tb_2) (on_6, bk_6, (f_reach on_6 0), (f_reach bk_6 1), cg_6, m1_6, m2_6, m3_6, m4_6) H tt ++ rest)) C0 f_Fl_22 ty_Fl_4 d_Fl_follow_107 rfl (Nat.le_of_ble_eq_true rfl) (fun _ => ⟨rfl, rfl⟩) rfl ?_
    rw [f_fol, if_pos c1, f_new] at hf
    dsimp only at hf
    rw [hF_3, hF_4, hF_5] at hf
    subst hf
    exact xs_vret C0 d_Fl_follow_110 (⟨rfl, rfl⟩) (Nat.le_of_ble_eq_true rfl) (Nat.le_of_ble_eq_true rfl)
  · rw [f_fol, if_neg c1] at hf
    subst hf
    exact xs_vret C0 d_Fl_follow_8 (⟨rfl, rfl⟩) (Nat.le_of_ble_eq_true rfl) (Nat.le_of_ble_eq_true rfl)
