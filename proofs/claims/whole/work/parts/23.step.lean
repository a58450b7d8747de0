set_option maxHeartbeats 4000000 in
set_option maxRecDepth 100000 in
theorem lp_mvn {f0 g0 f1 g1 f2 g2 f3 g3 f4 g4 : Nat → Int32} {n0 n1 n2 n3 n4 : Nat} {pl dr ki ow : Nat → Int32} {T : wt_S} {F : wt_F} {H : wt_H} {tt : Int32} {rest : xm_O} {fed slow c0 : Int32} {S0 : wt_S} {E : xm_X} {Q : State → Prop} (C0 : xm_C E y_Mo_step.cls b_Mo_step 8 (some .boolean) [] y_Mo_step.name (xm_rm 5 0 0)) (hn : n0 ≤ 16) (kx : ∀ (c : Int32) (S : wt_S), g_mv ((f0, g0, n0), (f1, g1, n1), (f2, g2, n2), (f3, g3, n3), (f4, g4, n4), pl, dr, ki, ow) fed slow c0 S0 n0 = (c, S) → xm_W E 8 Q 0 0 (wd (f0, g0, nI n0) (f1, g1, nI n1) (f2, g2, nI n2) (f3, g3, nI n3) (f4, g4, nI n4) pl dr ki ow S T F H tt ++ rest) 128 [(3, .int c)] []) : ∀ j : Nat, ∀ (i : Nat) (c : Int32) (S : wt_S), i + j = n0 → g_mv ((f0, g0, n0), (f1, g1, n1), (f2, g2, n2), (f3, g3, n3), (f4, g4, n4), pl, dr, ki, ow) fed slow c0 S0 i = (c, S) → xm_W E 8 Q 0 0 (wd (f0, g0, nI n0) (f1, g1, nI n1) (f2, g2, nI n2) (f3, g3, nI n3) (f4, g4, nI n4) pl dr ki ow S T F H tt ++ rest) 23 [(0, .ref 29), (1, .ref 21), (2, .int slow), (3, .int c), (4, .int fed), (5, .int (nI i))] [] := by
  intro j
  induction j with
  | zero =>
    intro i c S hi hM
    have e : n0 = i := by omega
    subst e
    refine xs_iload C0 d_Mo_step_23 5 rfl ?_
    refine xs_aload_n C0 d_Mo_step_25 rfl 0 rfl ?_
    refine xs_get (q := 29) (v := .ref 1) C0 f_Mo_9 d_Mo_step_26 rfl rfl ?_
    refine xs_get (q := 1) (v := .ref 2) C0 f_Mo_46 d_Mo_step_29 rfl rfl ?_
    refine xs_get (q := 2) (v := .int (nI n0)) C0 f_Mo_56 d_Mo_step_32 rfl rfl ?_
    refine xs_icmp_ge (tgt := 128) C0 d_Mo_step_35 (by decide) (fun _ => ?_) (fun c9 => absurd (nI_le (Nat.le_refl _) (by omega)) c9)
    refine xs_lv (lv' := [(3, .int c)]) [3] rfl ?_
    exact kx c S hM
  | succ j ih =>
    intro i c S hi hM
    have hlt : i < n0 := by omega
    have hin : vp_in (nI i) 16 := vp_in_nI (by omega) (by decide)
    refine xs_iload C0 d_Mo_step_23 5 rfl ?_
    refine xs_aload_n C0 d_Mo_step_25 rfl 0 rfl ?_
    refine xs_get (q := 29) (v := .ref 1) C0 f_Mo_9 d_Mo_step_26 rfl rfl ?_
    refine xs_get (q := 1) (v := .ref 2) C0 f_Mo_46 d_Mo_step_29 rfl rfl ?_
    refine xs_get (q := 2) (v := .int (nI n0)) C0 f_Mo_56 d_Mo_step_32 rfl rfl ?_
    refine xs_icmp_ge (tgt := 128) C0 d_Mo_step_35 (by decide) (fun c9 => absurd c9 (nI_ge hlt (by omega))) (fun _ => ?_)
    refine xs_iload_n C0 d_Mo_step_38 rfl 2 rfl ?_
    refine xs_iload C0 d_Mo_step_39 5 rfl ?_
    refine xs_cS1 (ω' := (wd (f0, g0, nI n0) (f1, g1, nI n1) (f2, g2, nI n2) (f3, g3, nI n3) (f4, g4, nI n4) pl dr ki ow S T F H tt ++ rest)) (av := [.int slow, .int (nI i)]) (st := []) (kc' := 0) (ks' := 0) (v := .int (f_hb slow (nI i))) C0 d_Mo_step_41 l_Mo_62 (c_hb _ slow (nI i)) rfl rfl rfl (Nat.le_of_ble_eq_true rfl) (Nat.le_of_ble_eq_true rfl) (Nat.le_of_ble_eq_true rfl) (Nat.le_of_ble_eq_true rfl) (Nat.le_of_ble_eq_true rfl) (Nat.le_of_ble_eq_true rfl) ?_
    refine xs_bz_eq (u := 1) (v := 0) (tgt := 51) (J := 52) C0 d_Mo_step_44 (by decide) d_Mo_step_47 (by decide) d_Mo_step_48 (by decide) d_Mo_step_51 (by decide) rfl ?_
    refine xs_istore (lv' := [(6, .int (if ¬ (f_hb slow (nI i)) = 0 then 1 else 0)), (0, .ref 29), (1, .ref 21), (2, .int slow), (3, .int c), (4, .int fed), (5, .int (nI i))]) C0 d_Mo_step_52 (by decide) rfl ?_
    refine xs_iload C0 d_Mo_step_54 5 rfl ?_
    refine xs_iload C0 d_Mo_step_56 6 rfl ?_
    refine xs_cS1 (ω' := (wd (f0, g0, nI n0) (f1, g1, nI n1) (f2, g2, nI n2) (f3, g3, nI n3) (f4, g4, nI n4) pl dr ki ow S T F H tt ++ rest)) (av := [.int fed, .int (nI i)]) (st := []) (kc' := 0) (ks' := 0) (v := .int (f_hb fed (nI i))) C0 d_Mo_step_58 l_Mo_62 (c_hb _ fed (nI i)) rfl rfl rfl (Nat.le_of_ble_eq_true rfl) (Nat.le_of_ble_eq_true rfl) (Nat.le_of_ble_eq_true rfl) (Nat.le_of_ble_eq_true rfl) (Nat.le_of_ble_eq_true rfl) (Nat.le_of_ble_eq_true rfl) ?_
    refine xs_if_eq (tgt := 86) C0 d_Mo_step_61 (by decide) (fun c2 => ?_) (fun c2 => ?_)
    · refine xs_aload_n C0 d_Mo_step_86 rfl 2 rfl ?_
      refine xs_iload C0 d_Mo_step_87 6 rfl ?_
      refine xs_aload_n C0 d_Mo_step_89 rfl 1 rfl ?_
      refine xs_get (q := 29) (v := .ref 1) C0 f_Mo_9 d_Mo_step_90 rfl rfl ?_
      refine xs_get (q := 1) (v := .ref 18) C0 f_Mo_73 d_Mo_step_93 rfl rfl ?_
      refine xs_iload C0 d_Mo_step_96 6 rfl ?_
      refine xs_iald C0 d_Mo_step_98 rfl (by assumption) ?_
      refine xs_top (v' := .int (dr i)) (by rw [nI_clamp (by omega)]) ?_
      refine xs_iload C0 d_Mo_step_99 0 rfl ?_
      refine xs_iadd C0 d_Mo_step_101 ?_
      obtain ⟨b_1, S_2, hb_1⟩ : ∃ X Y, f_fall S (nI i) ((dr i) + (if ¬ (f_hb slow (nI i)) = 0 then 1 else 0)) = (X, Y) := ⟨_, _, rfl⟩
      refine xs_cV1 (ω' := (wd (f0, g0, nI n0) (f1, g1, nI n1) (f2, g2, nI n2) (f3, g3, nI n3) (f4, g4, nI n4) pl dr ki ow S_2 T F H tt ++ rest)) (As := [.int (nI i), .int ((dr i) + (if ¬ (f_hb slow (nI i)) = 0 then 1 else 0))]) (st := []) (kc' := 0) (ks' := 0) (v := .int b_1) C0 d_Mo_step_102 l_Mo_76 rfl rfl (c_falln (by assumption) hb_1) rfl rfl rfl (Nat.le_of_ble_eq_true rfl) (Nat.le_of_ble_eq_true rfl) (Nat.le_of_ble_eq_true rfl) (Nat.le_of_ble_eq_true rfl) (Nat.le_of_ble_eq_true rfl) (Nat.le_of_ble_eq_true rfl) ?_
      refine xs_istore (lv' := [(7, .int b_1), (6, .int (if ¬ (f_hb slow (nI i)) = 0 then 1 else 0)), (0, .ref 29), (1, .ref 21), (2, .int slow), (3, .int c), (4, .int fed), (5, .int (nI i))]) C0 d_Mo_step_105 (by decide) rfl ?_
      refine xs_iload_n C0 d_Mo_step_107 rfl 5 rfl ?_
      refine xs_pc (pc' := 108) rfl ?_
      refine xs_if_ne (tgt := 116) C0 d_Mo_step_108 (by decide) (fun c3 => ?_) (fun c3 => ?_)
      · refine xs_iconst (v := 1) C0 d_Mo_step_116 (by decide) ?_
        refine xs_goto (tgt := 121) C0 d_Mo_step_117 (by decide) ?_
        refine xs_istore_n (lv' := [(3, .int 1), (7, .int b_1), (6, .int (if ¬ (f_hb slow (nI i)) = 0 then 1 else 0)), (0, .ref 29), (1, .ref 21), (2, .int slow), (4, .int fed), (5, .int (nI i))]) C0 d_Mo_step_121 rfl (by decide) rfl ?_
        refine xs_iinc (v := nI (i + 1)) (lv' := [(5, .int (nI (i + 1))), (3, .int 1), (7, .int b_1), (6, .int (if ¬ (f_hb slow (nI i)) = 0 then 1 else 0)), (0, .ref 29), (1, .ref 21), (2, .int slow), (4, .int fed)]) C0 d_Mo_step_122 7 rfl (by rw [← nI_1]; rfl) (by decide) rfl ?_
        refine xs_goto (tgt := 23) C0 d_Mo_step_125 (by decide) ?_
        refine xs_lv (lv' := [(0, .ref 29), (1, .ref 21), (2, .int slow), (3, .int 1), (4, .int fed), (5, .int (nI (i + 1)))]) [4, 5, 6, 1, 7, 0] rfl ?_
        exact ih (i + 1) _ S_2 (by omega) (by rw [g_mv, hM]; dsimp only [g_mv1]; rw [if_pos c2, hb_1]; dsimp only; rw [g_or, if_pos c3])
      · refine xs_iload C0 d_Mo_step_111 0 rfl ?_
        refine xs_bz_eq (u := 1) (v := 0) (tgt := 120) (J := 121) C0 d_Mo_step_113 (by decide) d_Mo_step_116 (by decide) d_Mo_step_117 (by decide) d_Mo_step_120 (by decide) rfl ?_
        refine xs_istore_n (lv' := [(3, .int (if ¬ b_1 = 0 then 1 else 0)), (7, .int b_1), (6, .int (if ¬ (f_hb slow (nI i)) = 0 then 1 else 0)), (0, .ref 29), (1, .ref 21), (2, .int slow), (4, .int fed), (5, .int (nI i))]) C0 d_Mo_step_121 rfl (by decide) rfl ?_
        refine xs_iinc (v := nI (i + 1)) (lv' := [(5, .int (nI (i + 1))), (3, .int (if ¬ b_1 = 0 then 1 else 0)), (7, .int b_1), (6, .int (if ¬ (f_hb slow (nI i)) = 0 then 1 else 0)), (0, .ref 29), (1, .ref 21), (2, .int slow), (4, .int fed)]) C0 d_Mo_step_122 7 rfl (by rw [← nI_1]; rfl) (by decide) rfl ?_
        refine xs_goto (tgt := 23) C0 d_Mo_step_125 (by decide) ?_
        refine xs_lv (lv' := [(0, .ref 29), (1, .ref 21), (2, .int slow), (3, .int (if ¬ b_1 = 0 then 1 else 0)), (4, .int fed), (5, .int (nI (i + 1)))]) [4, 5, 6, 1, 7, 0] rfl ?_
        exact ih (i + 1) _ S_2 (by omega) (by rw [g_mv, hM]; dsimp only [g_mv1]; rw [if_pos c2, hb_1]; dsimp only; rw [g_or, if_neg (fun h9 => h9 c3)])
    · refine xs_aload_n C0 d_Mo_step_64 rfl 2 rfl ?_
      refine xs_iload C0 d_Mo_step_65 6 rfl ?_
      refine xs_aload_n C0 d_Mo_step_67 rfl 1 rfl ?_
      refine xs_get (q := 29) (v := .ref 1) C0 f_Mo_9 d_Mo_step_68 rfl rfl ?_
      refine xs_get (q := 1) (v := .ref 17) C0 f_Mo_66 d_Mo_step_71 rfl rfl ?_
      refine xs_iload C0 d_Mo_step_74 6 rfl ?_
      refine xs_iald C0 d_Mo_step_76 rfl (by assumption) ?_
      refine xs_top (v' := .int (pl i)) (by rw [nI_clamp (by omega)]) ?_
      refine xs_iload C0 d_Mo_step_77 0 rfl ?_
      refine xs_iadd C0 d_Mo_step_79 ?_
      obtain ⟨b_3, S_4, hb_3⟩ : ∃ X Y, f_rise S (nI i) ((pl i) + (if ¬ (f_hb slow (nI i)) = 0 then 1 else 0)) = (X, Y) := ⟨_, _, rfl⟩
      refine xs_cV1 (ω' := (wd (f0, g0, nI n0) (f1, g1, nI n1) (f2, g2, nI n2) (f3, g3, nI n3) (f4, g4, nI n4) pl dr ki ow S_4 T F H tt ++ rest)) (As := [.int (nI i), .int ((pl i) + (if ¬ (f_hb slow (nI i)) = 0 then 1 else 0))]) (st := []) (kc' := 0) (ks' := 0) (v := .int b_3) C0 d_Mo_step_80 l_Mo_70 rfl rfl (c_risen (by assumption) hb_3) rfl rfl rfl (Nat.le_of_ble_eq_true rfl) (Nat.le_of_ble_eq_true rfl) (Nat.le_of_ble_eq_true rfl) (Nat.le_of_ble_eq_true rfl) (Nat.le_of_ble_eq_true rfl) (Nat.le_of_ble_eq_true rfl) ?_
      refine xs_goto (tgt := 105) C0 d_Mo_step_83 (by decide) ?_
      refine xs_istore (lv' := [(7, .int b_3), (6, .int (if ¬ (f_hb slow (nI i)) = 0 then 1 else 0)), (0, .ref 29), (1, .ref 21), (2, .int slow), (3, .int c), (4, .int fed), (5, .int (nI i))]) C0 d_Mo_step_105 (by decide) rfl ?_
      refine xs_iload_n C0 d_Mo_step_107 rfl 5 rfl ?_
      refine xs_if_ne (tgt := 116) C0 d_Mo_step_108 (by decide) (fun c3 => ?_) (fun c3 => ?_)
      · refine xs_iconst (v := 1) C0 d_Mo_step_116 (by decide) ?_
        refine xs_goto (tgt := 121) C0 d_Mo_step_117 (by decide) ?_
        refine xs_istore_n (lv' := [(3, .int 1), (7, .int b_3), (6, .int (if ¬ (f_hb slow (nI i)) = 0 then 1 else 0)), (0, .ref 29), (1, .ref 21), (2, .int slow), (4, .int fed), (5, .int (nI i))]) C0 d_Mo_step_121 rfl (by decide) rfl ?_
        refine xs_iinc (v := nI (i + 1)) (lv' := [(5, .int (nI (i + 1))), (3, .int 1), (7, .int b_3), (6, .int (if ¬ (f_hb slow (nI i)) = 0 then 1 else 0)), (0, .ref 29), (1, .ref 21), (2, .int slow), (4, .int fed)]) C0 d_Mo_step_122 7 rfl (by rw [← nI_1]; rfl) (by decide) rfl ?_
        refine xs_goto (tgt := 23) C0 d_Mo_step_125 (by decide) ?_
        refine xs_lv (lv' := [(0, .ref 29), (1, .ref 21), (2, .int slow), (3, .int 1), (4, .int fed), (5, .int (nI (i + 1)))]) [4, 5, 6, 1, 7, 0] rfl ?_
        exact ih (i + 1) _ S_4 (by omega) (by rw [g_mv, hM]; dsimp only [g_mv1]; rw [if_neg c2, hb_3]; dsimp only; rw [g_or, if_pos c3])
      · refine xs_iload C0 d_Mo_step_111 0 rfl ?_
        refine xs_bz_eq (u := 1) (v := 0) (tgt := 120) (J := 121) C0 d_Mo_step_113 (by decide) d_Mo_step_116 (by decide) d_Mo_step_117 (by decide) d_Mo_step_120 (by decide) rfl ?_
        refine xs_istore_n (lv' := [(3, .int (if ¬ b_3 = 0 then 1 else 0)), (7, .int b_3), (6, .int (if ¬ (f_hb slow (nI i)) = 0 then 1 else 0)), (0, .ref 29), (1, .ref 21), (2, .int slow), (4, .int fed), (5, .int (nI i))]) C0 d_Mo_step_121 rfl (by decide) rfl ?_
        refine xs_iinc (v := nI (i + 1)) (lv' := [(5, .int (nI (i + 1))), (3, .int (if ¬ b_3 = 0 then 1 else 0)), (7, .int b_3), (6, .int (if ¬ (f_hb slow (nI i)) = 0 then 1 else 0)), (0, .ref 29), (1, .ref 21), (2, .int slow), (4, .int fed)]) C0 d_Mo_step_122 7 rfl (by rw [← nI_1]; rfl) (by decide) rfl ?_
        refine xs_goto (tgt := 23) C0 d_Mo_step_125 (by decide) ?_
        refine xs_lv (lv' := [(0, .ref 29), (1, .ref 21), (2, .int slow), (3, .int (if ¬ b_3 = 0 then 1 else 0)), (4, .int fed), (5, .int (nI (i + 1)))]) [4, 5, 6, 1, 7, 0] rfl ?_
        exact ih (i + 1) _ S_4 (by omega) (by rw [g_mv, hM]; dsimp only [g_mv1]; rw [if_neg c2, hb_3]; dsimp only; rw [g_or, if_neg (fun h9 => h9 c3)])
set_option maxHeartbeats 4000000 in
set_option maxRecDepth 100000 in
theorem c_stepn {B : wb} {S T : wt_S} {F : wt_F} {H : wt_H} {tt : Int32} {rest : xm_O} {b slow : Int32} {S1 : wt_S} {F1 : wt_F} (hB : okB B) (hf : g_step B slow S F = (b, S1, F1)) : xm_M y_Mo_step (Cond.code y_Mo_step b_Mo_step 8 (some .boolean)) (xm_rm 5 0 0) [.ref 29, .ref 21, .int slow] (wB B S T F H tt ++ rest) (xm_eq (.inl (some (.int b))) (wB B S1 T F1 H tt ++ rest)) := by
  obtain ⟨⟨f0, g0, n0⟩, ⟨f1, g1, n1⟩, ⟨f2, g2, n2⟩, ⟨f3, g3, n3⟩, ⟨f4, g4, n4⟩, pl, dr, ki, ow⟩ := B
  obtain ⟨⟨h0, hp0⟩, ⟨h1, hp1⟩, ⟨h2, hp2⟩, ⟨h3, hp3⟩, ⟨h4, hp4⟩, hk⟩ := id hB
  dsimp only at h0 h1 h2 h3 h4 hp0 hp1 hp2 hp3 hp4 hk
  refine xm_of (by decide) (Nat.le_of_ble_eq_true rfl) (fun E C0 => ?_)
  refine xs_eq (ω' := (wd (f0, g0, nI n0) (f1, g1, nI n1) (f2, g2, nI n2) (f3, g3, nI n3) (f4, g4, nI n4) pl dr ki ow S T F H tt ++ rest)) (lv' := [(0, .ref 29), (1, .ref 21), (2, .int slow)]) rfl rfl rfl ?_
  refine xs_aload_n C0 d_Mo_step_0 rfl 0 rfl ?_
  refine xs_aload_n C0 d_Mo_step_1 rfl 1 rfl ?_
  obtain ⟨b_1, S_2, F_3, hb_1⟩ : ∃ X Y Z, g_laf ((f0, g0, n0), (f1, g1, n1), (f2, g2, n2), (f3, g3, n3), (f4, g4, n4), pl, dr, ki, ow) S F = (X, Y, Z) := ⟨_, _, _, rfl⟩
  refine xs_cV1 (ω' := (wd (f0, g0, nI n0) (f1, g1, nI n1) (f2, g2, nI n2) (f3, g3, nI n3) (f4, g4, nI n4) pl dr ki ow S_2 T F_3 H tt ++ rest)) (As := [.ref 21]) (st := []) (kc' := 0) (ks' := 0) (v := .int b_1) C0 d_Mo_step_2 l_Mo_42 rfl rfl (c_lafn (B := ((f0, g0, n0), (f1, g1, n1), (f2, g2, n2), (f3, g3, n3), (f4, g4, n4), pl, dr, ki, ow)) hB hb_1) rfl rfl rfl (Nat.le_of_ble_eq_true rfl) (Nat.le_of_ble_eq_true rfl) (Nat.le_of_ble_eq_true rfl) (Nat.le_of_ble_eq_true rfl) (Nat.le_of_ble_eq_true rfl) (Nat.le_of_ble_eq_true rfl) ?_
  refine xs_istore_n (lv' := [(3, .int b_1), (0, .ref 29), (1, .ref 21), (2, .int slow)]) C0 d_Mo_step_5 rfl (by decide) rfl ?_
  refine xs_aload_n C0 d_Mo_step_6 rfl 1 rfl ?_
  refine xs_aload_n C0 d_Mo_step_7 rfl 2 rfl ?_
  refine xs_aload_n C0 d_Mo_step_8 rfl 1 rfl ?_
  refine xs_get (q := 29) (v := .ref 1) C0 f_Mo_9 d_Mo_step_9 rfl rfl ?_
  refine xs_get (q := 1) (v := .ref 2) C0 f_Mo_46 d_Mo_step_12 rfl rfl ?_
  obtain ⟨b_4, F_5, hb_4⟩ : ∃ X Y, g_cur ((f0, g0, n0), (f1, g1, n1), (f2, g2, n2), (f3, g3, n3), (f4, g4, n4), pl, dr, ki, ow) (f0, g0, n0) S_2 F_3 = (X, Y) := ⟨_, _, rfl⟩
  refine xs_cV1 (ω' := (wd (f0, g0, nI n0) (f1, g1, nI n1) (f2, g2, nI n2) (f3, g3, nI n3) (f4, g4, nI n4) pl dr ki ow S_2 T F_5 H tt ++ rest)) (As := [.ref 21, .ref 2]) (st := []) (kc' := 0) (ks' := 0) (v := .int b_4) C0 d_Mo_step_15 l_Mo_52 rfl rfl (c_curn0 (B := ((f0, g0, n0), (f1, g1, n1), (f2, g2, n2), (f3, g3, n3), (f4, g4, n4), pl, dr, ki, ow)) hB hb_4) rfl rfl rfl (Nat.le_of_ble_eq_true rfl) (Nat.le_of_ble_eq_true rfl) (Nat.le_of_ble_eq_true rfl) (Nat.le_of_ble_eq_true rfl) (Nat.le_of_ble_eq_true rfl) (Nat.le_of_ble_eq_true rfl) ?_
  refine xs_istore (lv' := [(4, .int b_4), (3, .int b_1), (0, .ref 29), (1, .ref 21), (2, .int slow)]) C0 d_Mo_step_18 (by decide) rfl ?_
  refine xs_iconst (v := 0) C0 d_Mo_step_20 (by decide) ?_
  refine xs_pc (pc' := 21) rfl ?_
  refine xs_istore (lv' := [(5, .int 0), (4, .int b_4), (3, .int b_1), (0, .ref 29), (1, .ref 21), (2, .int slow)]) C0 d_Mo_step_21 (by decide) rfl ?_
  refine xs_lv (lv' := [(0, .ref 29), (1, .ref 21), (2, .int slow), (3, .int b_1), (4, .int b_4), (5, .int 0)]) [3, 4, 5, 2, 1, 0] rfl ?_
  refine lp_mvn (c0 := b_1) (fed := b_4) (S0 := S_2) C0 h0 (fun c9 S9 hM => ?_) n0 0 _ _ (by omega) rfl
  rw [g_step] at hf
  dsimp only at hf
  rw [hb_1] at hf
  dsimp only at hf
  rw [hb_4] at hf
  dsimp only at hf
  rw [hM] at hf
  cases hf
  refine xs_iload_n C0 d_Mo_step_128 rfl 0 rfl ?_
  have h01 := g_mv01 (B := ((f0, g0, n0), (f1, g1, n1), (f2, g2, n2), (f3, g3, n3), (f4, g4, n4), pl, dr, ki, ow)) (fed := b_4) (slow := slow) (c0 := b_1) (S0 := S_2) (by have h9 := g_laf01 ((f0, g0, n0), (f1, g1, n1), (f2, g2, n2), (f3, g3, n3), (f4, g4, n4), pl, dr, ki, ow) S F; rw [hb_1] at h9; exact h9) n0
  rw [hM] at h01
  exact xs_zret C0 d_Mo_step_129 h01 ⟨rfl, rfl⟩ (Nat.le_of_ble_eq_true rfl) (Nat.le_of_ble_eq_true rfl)
set_option maxHeartbeats 4000000 in
set_option maxRecDepth 100000 in
theorem lp_mvt {f0 g0 f1 g1 f2 g2 f3 g3 f4 g4 : Nat → Int32} {n0 n1 n2 n3 n4 : Nat} {pl dr ki ow : Nat → Int32} {S : wt_S} {F : wt_F} {H : wt_H} {tt : Int32} {rest : xm_O} {fed slow c0 : Int32} {S0 : wt_S} {E : xm_X} {Q : State → Prop} (C0 : xm_C E y_Mo_step.cls b_Mo_step 8 (some .boolean) [] y_Mo_step.name (xm_rm 5 0 0)) (hn : n0 ≤ 16) (kx : ∀ (c : Int32) (T : wt_S), g_mv ((f0, g0, n0), (f1, g1, n1), (f2, g2, n2), (f3, g3, n3), (f4, g4, n4), pl, dr, ki, ow) fed slow c0 S0 n0 = (c, T) → xm_W E 8 Q 0 0 (wd (f0, g0, nI n0) (f1, g1, nI n1) (f2, g2, nI n2) (f3, g3, nI n3) (f4, g4, nI n4) pl dr ki ow S T F H tt ++ rest) 128 [(3, .int c)] []) : ∀ j : Nat, ∀ (i : Nat) (c : Int32) (T : wt_S), i + j = n0 → g_mv ((f0, g0, n0), (f1, g1, n1), (f2, g2, n2), (f3, g3, n3), (f4, g4, n4), pl, dr, ki, ow) fed slow c0 S0 i = (c, T) → xm_W E 8 Q 0 0 (wd (f0, g0, nI n0) (f1, g1, nI n1) (f2, g2, nI n2) (f3, g3, nI n3) (f4, g4, nI n4) pl dr ki ow S T F H tt ++ rest) 23 [(0, .ref 29), (1, .ref 25), (2, .int slow), (3, .int c), (4, .int fed), (5, .int (nI i))] [] := by
  intro j
  induction j with
  | zero =>
    intro i c T hi hM
    have e : n0 = i := by omega
    subst e
    refine xs_iload C0 d_Mo_step_23 5 rfl ?_
    refine xs_aload_n C0 d_Mo_step_25 rfl 0 rfl ?_
    refine xs_get (q := 29) (v := .ref 1) C0 f_Mo_9 d_Mo_step_26 rfl rfl ?_
    refine xs_get (q := 1) (v := .ref 2) C0 f_Mo_46 d_Mo_step_29 rfl rfl ?_
    refine xs_get (q := 2) (v := .int (nI n0)) C0 f_Mo_56 d_Mo_step_32 rfl rfl ?_
    refine xs_icmp_ge (tgt := 128) C0 d_Mo_step_35 (by decide) (fun _ => ?_) (fun c9 => absurd (nI_le (Nat.le_refl _) (by omega)) c9)
    refine xs_lv (lv' := [(3, .int c)]) [3] rfl ?_
    exact kx c T hM
  | succ j ih =>
    intro i c T hi hM
    have hlt : i < n0 := by omega
    have hin : vp_in (nI i) 16 := vp_in_nI (by omega) (by decide)
    refine xs_iload C0 d_Mo_step_23 5 rfl ?_
    refine xs_aload_n C0 d_Mo_step_25 rfl 0 rfl ?_
    refine xs_get (q := 29) (v := .ref 1) C0 f_Mo_9 d_Mo_step_26 rfl rfl ?_
    refine xs_get (q := 1) (v := .ref 2) C0 f_Mo_46 d_Mo_step_29 rfl rfl ?_
    refine xs_get (q := 2) (v := .int (nI n0)) C0 f_Mo_56 d_Mo_step_32 rfl rfl ?_
    refine xs_icmp_ge (tgt := 128) C0 d_Mo_step_35 (by decide) (fun c9 => absurd c9 (nI_ge hlt (by omega))) (fun _ => ?_)
    refine xs_iload_n C0 d_Mo_step_38 rfl 2 rfl ?_
    refine xs_iload C0 d_Mo_step_39 5 rfl ?_
    refine xs_cS1 (ω' := (wd (f0, g0, nI n0) (f1, g1, nI n1) (f2, g2, nI n2) (f3, g3, nI n3) (f4, g4, nI n4) pl dr ki ow S T F H tt ++ rest)) (av := [.int slow, .int (nI i)]) (st := []) (kc' := 0) (ks' := 0) (v := .int (f_hb slow (nI i))) C0 d_Mo_step_41 l_Mo_62 (c_hb _ slow (nI i)) rfl rfl rfl (Nat.le_of_ble_eq_true rfl) (Nat.le_of_ble_eq_true rfl) (Nat.le_of_ble_eq_true rfl) (Nat.le_of_ble_eq_true rfl) (Nat.le_of_ble_eq_true rfl) (Nat.le_of_ble_eq_true rfl) ?_
    refine xs_bz_eq (u := 1) (v := 0) (tgt := 51) (J := 52) C0 d_Mo_step_44 (by decide) d_Mo_step_47 (by decide) d_Mo_step_48 (by decide) d_Mo_step_51 (by decide) rfl ?_
    refine xs_istore (lv' := [(6, .int (if ¬ (f_hb slow (nI i)) = 0 then 1 else 0)), (0, .ref 29), (1, .ref 25), (2, .int slow), (3, .int c), (4, .int fed), (5, .int (nI i))]) C0 d_Mo_step_52 (by decide) rfl ?_
    refine xs_iload C0 d_Mo_step_54 5 rfl ?_
    refine xs_iload C0 d_Mo_step_56 6 rfl ?_
    refine xs_cS1 (ω' := (wd (f0, g0, nI n0) (f1, g1, nI n1) (f2, g2, nI n2) (f3, g3, nI n3) (f4, g4, nI n4) pl dr ki ow S T F H tt ++ rest)) (av := [.int fed, .int (nI i)]) (st := []) (kc' := 0) (ks' := 0) (v := .int (f_hb fed (nI i))) C0 d_Mo_step_58 l_Mo_62 (c_hb _ fed (nI i)) rfl rfl rfl (Nat.le_of_ble_eq_true rfl) (Nat.le_of_ble_eq_true rfl) (Nat.le_of_ble_eq_true rfl) (Nat.le_of_ble_eq_true rfl) (Nat.le_of_ble_eq_true rfl) (Nat.le_of_ble_eq_true rfl) ?_
    refine xs_if_eq (tgt := 86) C0 d_Mo_step_61 (by decide) (fun c2 => ?_) (fun c2 => ?_)
    · refine xs_aload_n C0 d_Mo_step_86 rfl 2 rfl ?_
      refine xs_iload C0 d_Mo_step_87 6 rfl ?_
      refine xs_aload_n C0 d_Mo_step_89 rfl 1 rfl ?_
      refine xs_get (q := 29) (v := .ref 1) C0 f_Mo_9 d_Mo_step_90 rfl rfl ?_
      refine xs_get (q := 1) (v := .ref 18) C0 f_Mo_73 d_Mo_step_93 rfl rfl ?_
      refine xs_iload C0 d_Mo_step_96 6 rfl ?_
      refine xs_iald C0 d_Mo_step_98 rfl (by assumption) ?_
      refine xs_top (v' := .int (dr i)) (by rw [nI_clamp (by omega)]) ?_
      refine xs_iload C0 d_Mo_step_99 0 rfl ?_
      refine xs_iadd C0 d_Mo_step_101 ?_
      obtain ⟨b_1, T_2, hb_1⟩ : ∃ X Y, f_fall T (nI i) ((dr i) + (if ¬ (f_hb slow (nI i)) = 0 then 1 else 0)) = (X, Y) := ⟨_, _, rfl⟩
      refine xs_cV1 (ω' := (wd (f0, g0, nI n0) (f1, g1, nI n1) (f2, g2, nI n2) (f3, g3, nI n3) (f4, g4, nI n4) pl dr ki ow S T_2 F H tt ++ rest)) (As := [.int (nI i), .int ((dr i) + (if ¬ (f_hb slow (nI i)) = 0 then 1 else 0))]) (st := []) (kc' := 0) (ks' := 0) (v := .int b_1) C0 d_Mo_step_102 l_Mo_76 rfl rfl (c_fallt (by assumption) hb_1) rfl rfl rfl (Nat.le_of_ble_eq_true rfl) (Nat.le_of_ble_eq_true rfl) (Nat.le_of_ble_eq_true rfl) (Nat.le_of_ble_eq_true rfl) (Nat.le_of_ble_eq_true rfl) (Nat.le_of_ble_eq_true rfl) ?_
      refine xs_istore (lv' := [(7, .int b_1), (6, .int (if ¬ (f_hb slow (nI i)) = 0 then 1 else 0)), (0, .ref 29), (1, .ref 25), (2, .int slow), (3, .int c), (4, .int fed), (5, .int (nI i))]) C0 d_Mo_step_105 (by decide) rfl ?_
      refine xs_iload_n C0 d_Mo_step_107 rfl 5 rfl ?_
      refine xs_pc (pc' := 108) rfl ?_
      refine xs_if_ne (tgt := 116) C0 d_Mo_step_108 (by decide) (fun c3 => ?_) (fun c3 => ?_)
      · refine xs_iconst (v := 1) C0 d_Mo_step_116 (by decide) ?_
        refine xs_goto (tgt := 121) C0 d_Mo_step_117 (by decide) ?_
        refine xs_istore_n (lv' := [(3, .int 1), (7, .int b_1), (6, .int (if ¬ (f_hb slow (nI i)) = 0 then 1 else 0)), (0, .ref 29), (1, .ref 25), (2, .int slow), (4, .int fed), (5, .int (nI i))]) C0 d_Mo_step_121 rfl (by decide) rfl ?_
        refine xs_iinc (v := nI (i + 1)) (lv' := [(5, .int (nI (i + 1))), (3, .int 1), (7, .int b_1), (6, .int (if ¬ (f_hb slow (nI i)) = 0 then 1 else 0)), (0, .ref 29), (1, .ref 25), (2, .int slow), (4, .int fed)]) C0 d_Mo_step_122 7 rfl (by rw [← nI_1]; rfl) (by decide) rfl ?_
        refine xs_goto (tgt := 23) C0 d_Mo_step_125 (by decide) ?_
        refine xs_lv (lv' := [(0, .ref 29), (1, .ref 25), (2, .int slow), (3, .int 1), (4, .int fed), (5, .int (nI (i + 1)))]) [4, 5, 6, 1, 7, 0] rfl ?_
        exact ih (i + 1) _ T_2 (by omega) (by rw [g_mv, hM]; dsimp only [g_mv1]; rw [if_pos c2, hb_1]; dsimp only; rw [g_or, if_pos c3])
      · refine xs_iload C0 d_Mo_step_111 0 rfl ?_
        refine xs_bz_eq (u := 1) (v := 0) (tgt := 120) (J := 121) C0 d_Mo_step_113 (by decide) d_Mo_step_116 (by decide) d_Mo_step_117 (by decide) d_Mo_step_120 (by decide) rfl ?_
        refine xs_istore_n (lv' := [(3, .int (if ¬ b_1 = 0 then 1 else 0)), (7, .int b_1), (6, .int (if ¬ (f_hb slow (nI i)) = 0 then 1 else 0)), (0, .ref 29), (1, .ref 25), (2, .int slow), (4, .int fed), (5, .int (nI i))]) C0 d_Mo_step_121 rfl (by decide) rfl ?_
        refine xs_iinc (v := nI (i + 1)) (lv' := [(5, .int (nI (i + 1))), (3, .int (if ¬ b_1 = 0 then 1 else 0)), (7, .int b_1), (6, .int (if ¬ (f_hb slow (nI i)) = 0 then 1 else 0)), (0, .ref 29), (1, .ref 25), (2, .int slow), (4, .int fed)]) C0 d_Mo_step_122 7 rfl (by rw [← nI_1]; rfl) (by decide) rfl ?_
        refine xs_goto (tgt := 23) C0 d_Mo_step_125 (by decide) ?_
        refine xs_lv (lv' := [(0, .ref 29), (1, .ref 25), (2, .int slow), (3, .int (if ¬ b_1 = 0 then 1 else 0)), (4, .int fed), (5, .int (nI (i + 1)))]) [4, 5, 6, 1, 7, 0] rfl ?_
        exact ih (i + 1) _ T_2 (by omega) (by rw [g_mv, hM]; dsimp only [g_mv1]; rw [if_pos c2, hb_1]; dsimp only; rw [g_or, if_neg (fun h9 => h9 c3)])
    · refine xs_aload_n C0 d_Mo_step_64 rfl 2 rfl ?_
      refine xs_iload C0 d_Mo_step_65 6 rfl ?_
      refine xs_aload_n C0 d_Mo_step_67 rfl 1 rfl ?_
      refine xs_get (q := 29) (v := .ref 1) C0 f_Mo_9 d_Mo_step_68 rfl rfl ?_
      refine xs_get (q := 1) (v := .ref 17) C0 f_Mo_66 d_Mo_step_71 rfl rfl ?_
      refine xs_iload C0 d_Mo_step_74 6 rfl ?_
      refine xs_iald C0 d_Mo_step_76 rfl (by assumption) ?_
      refine xs_top (v' := .int (pl i)) (by rw [nI_clamp (by omega)]) ?_
      refine xs_iload C0 d_Mo_step_77 0 rfl ?_
      refine xs_iadd C0 d_Mo_step_79 ?_
      obtain ⟨b_3, T_4, hb_3⟩ : ∃ X Y, f_rise T (nI i) ((pl i) + (if ¬ (f_hb slow (nI i)) = 0 then 1 else 0)) = (X, Y) := ⟨_, _, rfl⟩
      refine xs_cV1 (ω' := (wd (f0, g0, nI n0) (f1, g1, nI n1) (f2, g2, nI n2) (f3, g3, nI n3) (f4, g4, nI n4) pl dr ki ow S T_4 F H tt ++ rest)) (As := [.int (nI i), .int ((pl i) + (if ¬ (f_hb slow (nI i)) = 0 then 1 else 0))]) (st := []) (kc' := 0) (ks' := 0) (v := .int b_3) C0 d_Mo_step_80 l_Mo_70 rfl rfl (c_riset (by assumption) hb_3) rfl rfl rfl (Nat.le_of_ble_eq_true rfl) (Nat.le_of_ble_eq_true rfl) (Nat.le_of_ble_eq_true rfl) (Nat.le_of_ble_eq_true rfl) (Nat.le_of_ble_eq_true rfl) (Nat.le_of_ble_eq_true rfl) ?_
      refine xs_goto (tgt := 105) C0 d_Mo_step_83 (by decide) ?_
      refine xs_istore (lv' := [(7, .int b_3), (6, .int (if ¬ (f_hb slow (nI i)) = 0 then 1 else 0)), (0, .ref 29), (1, .ref 25), (2, .int slow), (3, .int c), (4, .int fed), (5, .int (nI i))]) C0 d_Mo_step_105 (by decide) rfl ?_
      refine xs_iload_n C0 d_Mo_step_107 rfl 5 rfl ?_
      refine xs_if_ne (tgt := 116) C0 d_Mo_step_108 (by decide) (fun c3 => ?_) (fun c3 => ?_)
      · refine xs_iconst (v := 1) C0 d_Mo_step_116 (by decide) ?_
        refine xs_goto (tgt := 121) C0 d_Mo_step_117 (by decide) ?_
        refine xs_istore_n (lv' := [(3, .int 1), (7, .int b_3), (6, .int (if ¬ (f_hb slow (nI i)) = 0 then 1 else 0)), (0, .ref 29), (1, .ref 25), (2, .int slow), (4, .int fed), (5, .int (nI i))]) C0 d_Mo_step_121 rfl (by decide) rfl ?_
        refine xs_iinc (v := nI (i + 1)) (lv' := [(5, .int (nI (i + 1))), (3, .int 1), (7, .int b_3), (6, .int (if ¬ (f_hb slow (nI i)) = 0 then 1 else 0)), (0, .ref 29), (1, .ref 25), (2, .int slow), (4, .int fed)]) C0 d_Mo_step_122 7 rfl (by rw [← nI_1]; rfl) (by decide) rfl ?_
        refine xs_goto (tgt := 23) C0 d_Mo_step_125 (by decide) ?_
        refine xs_lv (lv' := [(0, .ref 29), (1, .ref 25), (2, .int slow), (3, .int 1), (4, .int fed), (5, .int (nI (i + 1)))]) [4, 5, 6, 1, 7, 0] rfl ?_
        exact ih (i + 1) _ T_4 (by omega) (by rw [g_mv, hM]; dsimp only [g_mv1]; rw [if_neg c2, hb_3]; dsimp only; rw [g_or, if_pos c3])
      · refine xs_iload C0 d_Mo_step_111 0 rfl ?_
        refine xs_bz_eq (u := 1) (v := 0) (tgt := 120) (J := 121) C0 d_Mo_step_113 (by decide) d_Mo_step_116 (by decide) d_Mo_step_117 (by decide) d_Mo_step_120 (by decide) rfl ?_
        refine xs_istore_n (lv' := [(3, .int (if ¬ b_3 = 0 then 1 else 0)), (7, .int b_3), (6, .int (if ¬ (f_hb slow (nI i)) = 0 then 1 else 0)), (0, .ref 29), (1, .ref 25), (2, .int slow), (4, .int fed), (5, .int (nI i))]) C0 d_Mo_step_121 rfl (by decide) rfl ?_
        refine xs_iinc (v := nI (i + 1)) (lv' := [(5, .int (nI (i + 1))), (3, .int (if ¬ b_3 = 0 then 1 else 0)), (7, .int b_3), (6, .int (if ¬ (f_hb slow (nI i)) = 0 then 1 else 0)), (0, .ref 29), (1, .ref 25), (2, .int slow), (4, .int fed)]) C0 d_Mo_step_122 7 rfl (by rw [← nI_1]; rfl) (by decide) rfl ?_
        refine xs_goto (tgt := 23) C0 d_Mo_step_125 (by decide) ?_
        refine xs_lv (lv' := [(0, .ref 29), (1, .ref 25), (2, .int slow), (3, .int (if ¬ b_3 = 0 then 1 else 0)), (4, .int fed), (5, .int (nI (i + 1)))]) [4, 5, 6, 1, 7, 0] rfl ?_
        exact ih (i + 1) _ T_4 (by omega) (by rw [g_mv, hM]; dsimp only [g_mv1]; rw [if_neg c2, hb_3]; dsimp only; rw [g_or, if_neg (fun h9 => h9 c3)])
set_option maxHeartbeats 4000000 in
set_option maxRecDepth 100000 in
theorem c_stept {B : wb} {S T : wt_S} {F : wt_F} {H : wt_H} {tt : Int32} {rest : xm_O} {b slow : Int32} {T1 : wt_S} {F1 : wt_F} (hB : okB B) (hf : g_step B slow T F = (b, T1, F1)) : xm_M y_Mo_step (Cond.code y_Mo_step b_Mo_step 8 (some .boolean)) (xm_rm 5 0 0) [.ref 29, .ref 25, .int slow] (wB B S T F H tt ++ rest) (xm_eq (.inl (some (.int b))) (wB B S T1 F1 H tt ++ rest)) := by
  obtain ⟨⟨f0, g0, n0⟩, ⟨f1, g1, n1⟩, ⟨f2, g2, n2⟩, ⟨f3, g3, n3⟩, ⟨f4, g4, n4⟩, pl, dr, ki, ow⟩ := B
  obtain ⟨⟨h0, hp0⟩, ⟨h1, hp1⟩, ⟨h2, hp2⟩, ⟨h3, hp3⟩, ⟨h4, hp4⟩, hk⟩ := id hB
  dsimp only at h0 h1 h2 h3 h4 hp0 hp1 hp2 hp3 hp4 hk
  refine xm_of (by decide) (Nat.le_of_ble_eq_true rfl) (fun E C0 => ?_)
  refine xs_eq (ω' := (wd (f0, g0, nI n0) (f1, g1, nI n1) (f2, g2, nI n2) (f3, g3, nI n3) (f4, g4, nI n4) pl dr ki ow S T F H tt ++ rest)) (lv' := [(0, .ref 29), (1, .ref 25), (2, .int slow)]) rfl rfl rfl ?_
  refine xs_aload_n C0 d_Mo_step_0 rfl 0 rfl ?_
  refine xs_aload_n C0 d_Mo_step_1 rfl 1 rfl ?_
  obtain ⟨b_1, T_2, F_3, hb_1⟩ : ∃ X Y Z, g_laf ((f0, g0, n0), (f1, g1, n1), (f2, g2, n2), (f3, g3, n3), (f4, g4, n4), pl, dr, ki, ow) T F = (X, Y, Z) := ⟨_, _, _, rfl⟩
  refine xs_cV1 (ω' := (wd (f0, g0, nI n0) (f1, g1, nI n1) (f2, g2, nI n2) (f3, g3, nI n3) (f4, g4, nI n4) pl dr ki ow S T_2 F_3 H tt ++ rest)) (As := [.ref 25]) (st := []) (kc' := 0) (ks' := 0) (v := .int b_1) C0 d_Mo_step_2 l_Mo_42 rfl rfl (c_laft (B := ((f0, g0, n0), (f1, g1, n1), (f2, g2, n2), (f3, g3, n3), (f4, g4, n4), pl, dr, ki, ow)) hB hb_1) rfl rfl rfl (Nat.le_of_ble_eq_true rfl) (Nat.le_of_ble_eq_true rfl) (Nat.le_of_ble_eq_true rfl) (Nat.le_of_ble_eq_true rfl) (Nat.le_of_ble_eq_true rfl) (Nat.le_of_ble_eq_true rfl) ?_
  refine xs_istore_n (lv' := [(3, .int b_1), (0, .ref 29), (1, .ref 25), (2, .int slow)]) C0 d_Mo_step_5 rfl (by decide) rfl ?_
  refine xs_aload_n C0 d_Mo_step_6 rfl 1 rfl ?_
  refine xs_aload_n C0 d_Mo_step_7 rfl 2 rfl ?_
  refine xs_aload_n C0 d_Mo_step_8 rfl 1 rfl ?_
  refine xs_get (q := 29) (v := .ref 1) C0 f_Mo_9 d_Mo_step_9 rfl rfl ?_
  refine xs_get (q := 1) (v := .ref 2) C0 f_Mo_46 d_Mo_step_12 rfl rfl ?_
  obtain ⟨b_4, F_5, hb_4⟩ : ∃ X Y, g_cur ((f0, g0, n0), (f1, g1, n1), (f2, g2, n2), (f3, g3, n3), (f4, g4, n4), pl, dr, ki, ow) (f0, g0, n0) T_2 F_3 = (X, Y) := ⟨_, _, rfl⟩
  refine xs_cV1 (ω' := (wd (f0, g0, nI n0) (f1, g1, nI n1) (f2, g2, nI n2) (f3, g3, nI n3) (f4, g4, nI n4) pl dr ki ow S T_2 F_5 H tt ++ rest)) (As := [.ref 25, .ref 2]) (st := []) (kc' := 0) (ks' := 0) (v := .int b_4) C0 d_Mo_step_15 l_Mo_52 rfl rfl (c_curt0 (B := ((f0, g0, n0), (f1, g1, n1), (f2, g2, n2), (f3, g3, n3), (f4, g4, n4), pl, dr, ki, ow)) hB hb_4) rfl rfl rfl (Nat.le_of_ble_eq_true rfl) (Nat.le_of_ble_eq_true rfl) (Nat.le_of_ble_eq_true rfl) (Nat.le_of_ble_eq_true rfl) (Nat.le_of_ble_eq_true rfl) (Nat.le_of_ble_eq_true rfl) ?_
  refine xs_istore (lv' := [(4, .int b_4), (3, .int b_1), (0, .ref 29), (1, .ref 25), (2, .int slow)]) C0 d_Mo_step_18 (by decide) rfl ?_
  refine xs_iconst (v := 0) C0 d_Mo_step_20 (by decide) ?_
  refine xs_pc (pc' := 21) rfl ?_
  refine xs_istore (lv' := [(5, .int 0), (4, .int b_4), (3, .int b_1), (0, .ref 29), (1, .ref 25), (2, .int slow)]) C0 d_Mo_step_21 (by decide) rfl ?_
  refine xs_lv (lv' := [(0, .ref 29), (1, .ref 25), (2, .int slow), (3, .int b_1), (4, .int b_4), (5, .int 0)]) [3, 4, 5, 2, 1, 0] rfl ?_
  refine lp_mvt (c0 := b_1) (fed := b_4) (S0 := T_2) C0 h0 (fun c9 T9 hM => ?_) n0 0 _ _ (by omega) rfl
  rw [g_step] at hf
  dsimp only at hf
  rw [hb_1] at hf
  dsimp only at hf
  rw [hb_4] at hf
  dsimp only at hf
  rw [hM] at hf
  cases hf
  refine xs_iload_n C0 d_Mo_step_128 rfl 0 rfl ?_
  have h01 := g_mv01 (B := ((f0, g0, n0), (f1, g1, n1), (f2, g2, n2), (f3, g3, n3), (f4, g4, n4), pl, dr, ki, ow)) (fed := b_4) (slow := slow) (c0 := b_1) (S0 := T_2) (by have h9 := g_laf01 ((f0, g0, n0), (f1, g1, n1), (f2, g2, n2), (f3, g3, n3), (f4, g4, n4), pl, dr, ki, ow) T F; rw [hb_1] at h9; exact h9) n0
  rw [hM] at h01
  exact xs_zret C0 d_Mo_step_129 h01 ⟨rfl, rfl⟩ (Nat.le_of_ble_eq_true rfl) (Nat.le_of_ble_eq_true rfl)
set_option maxHeartbeats 4000000 in
set_option maxRecDepth 100000 in
theorem lp_run {f0 g0 f1 g1 f2 g2 f3 g3 f4 g4 : Nat → Int32} {n0 n1 n2 n3 n4 : Nat} {pl dr ki ow : Nat → Int32} {S : wt_S} {H : wt_H} {tt : Int32} {rest : xm_O} {slow r : Int32} {T1 : wt_S} {F1 : wt_F} {m : Nat} {E : xm_X} (C0 : xm_C E y_Mo_runTillStill.cls b_Mo_runTillStill 5 (some .int) [] y_Mo_runTillStill.name (xm_rm 6 0 0)) (hB : okB ((f0, g0, n0), (f1, g1, n1), (f2, g2, n2), (f3, g3, n3), (f4, g4, n4), pl, dr, ki, ow)) (hm : m ≤ 1000) : ∀ j : Nat, ∀ (i : Nat) (T : wt_S) (F : wt_F), i + j = m + 1 → g_run ((f0, g0, n0), (f1, g1, n1), (f2, g2, n2), (f3, g3, n3), (f4, g4, n4), pl, dr, ki, ow) slow j i T F = (r, T1, F1) → xm_W E 5 (xm_F E (xm_rm 6 0 0).cells (xm_rm 6 0 0).slots (xm_eq (.inl (some (.int r))) (wB ((f0, g0, n0), (f1, g1, n1), (f2, g2, n2), (f3, g3, n3), (f4, g4, n4), pl, dr, ki, ow) S T1 F1 H tt ++ rest))) 0 0 (wd (f0, g0, nI n0) (f1, g1, nI n1) (f2, g2, nI n2) (f3, g3, nI n3) (f4, g4, nI n4) pl dr ki ow S T F H tt ++ rest) 3 [(0, .ref 29), (1, .ref 25), (2, .int slow), (3, .int (nI m)), (4, .int (nI i))] [] := by
  intro j
  induction j with
  | zero =>
    intro i T F hi hf
    refine xs_iload C0 d_Mo_runTillStill_3 4 rfl ?_
    refine xs_iload_n C0 d_Mo_runTillStill_5 rfl 3 rfl ?_
    refine xs_icmp_gt (tgt := 27) C0 d_Mo_runTillStill_6 (by decide) (fun _ => ?_) (fun c9 => absurd (nI_lt (by omega) (by omega)) c9)
    refine xs_iconst (v := (-1)) C0 d_Mo_runTillStill_27 (by decide) ?_
    rw [g_run] at hf
    cases hf
    exact xs_iret C0 d_Mo_runTillStill_28 (⟨rfl, rfl⟩) (Nat.le_of_ble_eq_true rfl) (Nat.le_of_ble_eq_true rfl)
  | succ j ih =>
    intro i T F hi hf
    refine xs_iload C0 d_Mo_runTillStill_3 4 rfl ?_
    refine xs_iload_n C0 d_Mo_runTillStill_5 rfl 3 rfl ?_
    refine xs_icmp_gt (tgt := 27) C0 d_Mo_runTillStill_6 (by decide) (fun c9 => absurd c9 (nI_nlt (by omega) (by omega))) (fun _ => ?_)
    refine xs_aload_n C0 d_Mo_runTillStill_9 rfl 0 rfl ?_
    refine xs_aload_n C0 d_Mo_runTillStill_10 rfl 1 rfl ?_
    refine xs_iload_n C0 d_Mo_runTillStill_11 rfl 2 rfl ?_
    obtain ⟨b_1, T_2, F_3, hb_1⟩ : ∃ X Y Z, g_step ((f0, g0, n0), (f1, g1, n1), (f2, g2, n2), (f3, g3, n3), (f4, g4, n4), pl, dr, ki, ow) slow T F = (X, Y, Z) := ⟨_, _, _, rfl⟩
    refine xs_cV1 (ω' := (wd (f0, g0, nI n0) (f1, g1, nI n1) (f2, g2, nI n2) (f3, g3, nI n3) (f4, g4, nI n4) pl dr ki ow S T_2 F_3 H tt ++ rest)) (As := [.ref 25, .int slow]) (st := []) (kc' := 0) (ks' := 0) (v := .int b_1) C0 d_Mo_runTillStill_12 l_Mo_79 rfl rfl (c_stept (B := ((f0, g0, n0), (f1, g1, n1), (f2, g2, n2), (f3, g3, n3), (f4, g4, n4), pl, dr, ki, ow)) hB hb_1) rfl rfl rfl (Nat.le_of_ble_eq_true rfl) (Nat.le_of_ble_eq_true rfl) (Nat.le_of_ble_eq_true rfl) (Nat.le_of_ble_eq_true rfl) (Nat.le_of_ble_eq_true rfl) (Nat.le_of_ble_eq_true rfl) ?_
    refine xs_if_ne (tgt := 21) C0 d_Mo_runTillStill_15 (by decide) (fun c1 => ?_) (fun c1 => ?_)
    · refine xs_iinc (v := nI (i + 1)) (lv' := [(4, .int (nI (i + 1))), (0, .ref 29), (1, .ref 25), (2, .int slow), (3, .int (nI m))]) C0 d_Mo_runTillStill_21 4 rfl (by rw [← nI_1]; rfl) (by decide) rfl ?_
      rw [g_run, hb_1] at hf
      dsimp only at hf
      rw [if_neg c1] at hf
      refine xs_goto (tgt := 3) C0 d_Mo_runTillStill_24 (by decide) ?_
      refine xs_lv (lv' := [(0, .ref 29), (1, .ref 25), (2, .int slow), (3, .int (nI m)), (4, .int (nI (i + 1)))]) [1, 2, 3, 4, 0] rfl ?_
      exact ih (i + 1) _ _ (by omega) hf
    · refine xs_iload C0 d_Mo_runTillStill_18 4 rfl ?_
      rw [g_run, hb_1] at hf
      dsimp only at hf
      rw [if_pos c1] at hf
      cases hf
      exact xs_iret C0 d_Mo_runTillStill_20 (⟨rfl, rfl⟩) (Nat.le_of_ble_eq_true rfl) (Nat.le_of_ble_eq_true rfl)
set_option maxHeartbeats 4000000 in
set_option maxRecDepth 100000 in
theorem c_run {B : wb} {S T : wt_S} {F : wt_F} {H : wt_H} {tt : Int32} {rest : xm_O} {slow r : Int32} {T1 : wt_S} {F1 : wt_F} {m : Nat} (hB : okB B) (hm : m ≤ 1000) (hf : g_run B slow (m + 1) 0 T F = (r, T1, F1)) : xm_M y_Mo_runTillStill (Cond.code y_Mo_runTillStill b_Mo_runTillStill 5 (some .int)) (xm_rm 6 0 0) [.ref 29, .ref 25, .int slow, .int (nI m)] (wB B S T F H tt ++ rest) (xm_eq (.inl (some (.int r))) (wB B S T1 F1 H tt ++ rest)) := by
  obtain ⟨⟨f0, g0, n0⟩, ⟨f1, g1, n1⟩, ⟨f2, g2, n2⟩, ⟨f3, g3, n3⟩, ⟨f4, g4, n4⟩, pl, dr, ki, ow⟩ := B
  obtain ⟨⟨h0, hp0⟩, ⟨h1, hp1⟩, ⟨h2, hp2⟩, ⟨h3, hp3⟩, ⟨h4, hp4⟩, hk⟩ := id hB
  dsimp only at h0 h1 h2 h3 h4 hp0 hp1 hp2 hp3 hp4 hk
  refine xm_of (by decide) (Nat.le_of_ble_eq_true rfl) (fun E C0 => ?_)
  refine xs_eq (ω' := (wd (f0, g0, nI n0) (f1, g1, nI n1) (f2, g2, nI n2) (f3, g3, nI n3) (f4, g4, nI n4) pl dr ki ow S T F H tt ++ rest)) (lv' := [(0, .ref 29), (1, .ref 25), (2, .int slow), (3, .int (nI m))]) rfl rfl rfl ?_
  refine xs_iconst (v := 0) C0 d_Mo_runTillStill_0 (by decide) ?_
  refine xs_istore (lv' := [(4, .int 0), (0, .ref 29), (1, .ref 25), (2, .int slow), (3, .int (nI m))]) C0 d_Mo_runTillStill_1 (by decide) rfl ?_
  refine xs_lv (lv' := [(0, .ref 29), (1, .ref 25), (2, .int slow), (3, .int (nI m)), (4, .int 0)]) [1, 2, 3, 4, 0] rfl ?_
  exact lp_run C0 hB hm (m + 1) 0 _ _ (by omega) hf
