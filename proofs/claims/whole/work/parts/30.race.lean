set_option maxHeartbeats 4000000 in
set_option maxRecDepth 100000 in
theorem m_out {B : wb} {S T : wt_S} {F : wt_F} {H : wt_H} {tt : Int32} {rest : xm_O} {m : Nat} {x z slow r : Int32} {T1 : wt_S} {F1 : wt_F} (hB : okB B) (hm : m ≤ 100) (hz : s01 S) (hf : g_out B S T F x z slow m = (r, T1, F1)) : xm_M y_Rb_outcome (Cond.code y_Rb_outcome b_Rb_outcome 5 (some .int)) (xm_rm 7 0 0) [.ref 0, .int x, .int z, .int slow, .int (nI m)] (wB B S T F H tt ++ rest) (xm_eq (.inl (some (.int r))) (wB B S T1 F1 H tt ++ rest)) := by
  obtain ⟨⟨f0, g0, n0⟩, ⟨f1, g1, n1⟩, ⟨f2, g2, n2⟩, ⟨f3, g3, n3⟩, ⟨f4, g4, n4⟩, pl, dr, ki, ow⟩ := B
  obtain ⟨⟨h0, hp0⟩, ⟨h1, hp1⟩, ⟨h2, hp2⟩, ⟨h3, hp3⟩, ⟨h4, hp4⟩, hk⟩ := id hB
  dsimp only at h0 h1 h2 h3 h4 hp0 hp1 hp2 hp3 hp4 hk
  refine xm_of (by decide) (Nat.le_of_ble_eq_true rfl) (fun E C0 => ?_)
  refine xs_eq (ω' := (wd (f0, g0, nI n0) (f1, g1, nI n1) (f2, g2, nI n2) (f3, g3, nI n3) (f4, g4, nI n4) pl dr ki ow S T F H tt ++ rest)) (lv' := [(0, .ref 0), (1, .int x), (2, .int z), (3, .int slow), (4, .int (nI m))]) rfl rfl rfl ?_
  refine xs_aload_n C0 d_Rb_outcome_0 rfl 0 rfl ?_
  refine xs_get (q := 0) (v := .ref 25) C0 f_Rb_23 d_Rb_outcome_1 rfl rfl ?_
  refine xs_aload_n C0 d_Rb_outcome_4 rfl 0 rfl ?_
  refine xs_get (q := 0) (v := .ref 21) C0 f_Rb_19 d_Rb_outcome_5 rfl rfl ?_
  obtain ⟨T_1, hT_1⟩ : ∃ X, f_bec S T = X := ⟨_, rfl⟩
  refine xs_cV0 (ω' := (wd (f0, g0, nI n0) (f1, g1, nI n1) (f2, g2, nI n2) (f3, g3, nI n3) (f4, g4, nI n4) pl dr ki ow S T_1 F H tt ++ rest)) (As := [.ref 21]) (st := []) (kc' := 0) (ks' := 0) C0 d_Rb_outcome_8 l_Rb_114 rfl rfl (c_bect hz hT_1) rfl rfl rfl (Nat.le_of_ble_eq_true rfl) (Nat.le_of_ble_eq_true rfl) (Nat.le_of_ble_eq_true rfl) (Nat.le_of_ble_eq_true rfl) (Nat.le_of_ble_eq_true rfl) (Nat.le_of_ble_eq_true rfl) ?_
  refine xs_aload_n C0 d_Rb_outcome_11 rfl 0 rfl ?_
  refine xs_get (q := 0) (v := .ref 25) C0 f_Rb_23 d_Rb_outcome_12 rfl rfl ?_
  refine xs_iload_n C0 d_Rb_outcome_15 rfl 1 rfl ?_
  refine xs_iload_n C0 d_Rb_outcome_16 rfl 2 rfl ?_
  obtain ⟨b_2, T_3, hb_2⟩ : ∃ X Y, f_sk T_1 x z = (X, Y) := ⟨_, _, rfl⟩
  refine xs_cV1 (ω' := (wd (f0, g0, nI n0) (f1, g1, nI n1) (f2, g2, nI n2) (f3, g3, nI n3) (f4, g4, nI n4) pl dr ki ow S T_3 F H tt ++ rest)) (As := [.int x, .int z]) (st := []) (kc' := 0) (ks' := 0) (v := .int b_2) C0 d_Rb_outcome_17 l_Rb_97 rfl rfl (c_skt hb_2) rfl rfl rfl (Nat.le_of_ble_eq_true rfl) (Nat.le_of_ble_eq_true rfl) (Nat.le_of_ble_eq_true rfl) (Nat.le_of_ble_eq_true rfl) (Nat.le_of_ble_eq_true rfl) (Nat.le_of_ble_eq_true rfl) ?_
  refine xs_pop C0 d_Rb_outcome_20 rfl ?_
  refine xs_aload_n C0 d_Rb_outcome_21 rfl 0 rfl ?_
  refine xs_pc (pc' := 22) rfl ?_
  refine xs_get (q := 0) (v := .ref 29) C0 f_Rb_31 d_Rb_outcome_22 rfl rfl ?_
  refine xs_aload_n C0 d_Rb_outcome_25 rfl 0 rfl ?_
  refine xs_get (q := 0) (v := .ref 25) C0 f_Rb_23 d_Rb_outcome_26 rfl rfl ?_
  obtain ⟨b_4, T_5, F_6, hb_4⟩ : ∃ X Y Z, g_laf ((f0, g0, n0), (f1, g1, n1), (f2, g2, n2), (f3, g3, n3), (f4, g4, n4), pl, dr, ki, ow) T_3 F = (X, Y, Z) := ⟨_, _, _, rfl⟩
  refine xs_cV1 (ω' := (wd (f0, g0, nI n0) (f1, g1, nI n1) (f2, g2, nI n2) (f3, g3, nI n3) (f4, g4, nI n4) pl dr ki ow S T_5 F_6 H tt ++ rest)) (As := [.ref 25]) (st := []) (kc' := 0) (ks' := 0) (v := .int b_4) C0 d_Rb_outcome_29 l_Rb_66 rfl rfl (c_laft (B := ((f0, g0, n0), (f1, g1, n1), (f2, g2, n2), (f3, g3, n3), (f4, g4, n4), pl, dr, ki, ow)) hB hb_4) rfl rfl rfl (Nat.le_of_ble_eq_true rfl) (Nat.le_of_ble_eq_true rfl) (Nat.le_of_ble_eq_true rfl) (Nat.le_of_ble_eq_true rfl) (Nat.le_of_ble_eq_true rfl) (Nat.le_of_ble_eq_true rfl) ?_
  refine xs_pop C0 d_Rb_outcome_32 rfl ?_
  refine xs_aload_n C0 d_Rb_outcome_33 rfl 0 rfl ?_
  refine xs_get (q := 0) (v := .ref 29) C0 f_Rb_31 d_Rb_outcome_34 rfl rfl ?_
  refine xs_aload_n C0 d_Rb_outcome_37 rfl 0 rfl ?_
  refine xs_get (q := 0) (v := .ref 25) C0 f_Rb_23 d_Rb_outcome_38 rfl rfl ?_
  refine xs_iload_n C0 d_Rb_outcome_41 rfl 3 rfl ?_
  refine xs_iload C0 d_Rb_outcome_42 4 rfl ?_
  obtain ⟨r_7, T_8, F_9, hr_7⟩ : ∃ X Y Z, g_run ((f0, g0, n0), (f1, g1, n1), (f2, g2, n2), (f3, g3, n3), (f4, g4, n4), pl, dr, ki, ow) slow (m + 1) 0 T_5 F_6 = (X, Y, Z) := ⟨_, _, _, rfl⟩
  refine xs_cV1 (ω' := (wd (f0, g0, nI n0) (f1, g1, nI n1) (f2, g2, nI n2) (f3, g3, nI n3) (f4, g4, nI n4) pl dr ki ow S T_8 F_9 H tt ++ rest)) (As := [.ref 25, .int slow, .int (nI m)]) (st := []) (kc' := 0) (ks' := 0) (v := .int r_7) C0 d_Rb_outcome_44 l_Rb_118 rfl rfl (c_run (B := ((f0, g0, n0), (f1, g1, n1), (f2, g2, n2), (f3, g3, n3), (f4, g4, n4), pl, dr, ki, ow)) hB (by omega) hr_7) rfl rfl rfl (Nat.le_of_ble_eq_true rfl) (Nat.le_of_ble_eq_true rfl) (Nat.le_of_ble_eq_true rfl) (Nat.le_of_ble_eq_true rfl) (Nat.le_of_ble_eq_true rfl) (Nat.le_of_ble_eq_true rfl) ?_
  refine xs_pc (pc' := 47) rfl ?_
  refine xs_iconst (v := (-1)) C0 d_Rb_outcome_47 (by decide) ?_
  refine xs_icmp_ne (tgt := 53) C0 d_Rb_outcome_48 (by decide) (fun c1 => ?_) (fun c1 => ?_)
  · refine xs_aload_n C0 d_Rb_outcome_53 rfl 0 rfl ?_
    refine xs_get (q := 0) (v := .ref 25) C0 f_Rb_23 d_Rb_outcome_54 rfl rfl ?_
    obtain ⟨ts_10, tc_10, tw_10, tu_10, td_10, tk_10, tb_10⟩ := T_8
    refine xs_get (q := 25) (v := .int tu_10) C0 f_Rb_167 d_Rb_outcome_57 rfl rfl ?_
    refine xs_aload_n C0 d_Rb_outcome_60 rfl 0 rfl ?_
    refine xs_get (q := 0) (v := .ref 25) C0 f_Rb_23 d_Rb_outcome_61 rfl rfl ?_
    refine xs_get (q := 25) (v := .int tb_10) C0 f_Rb_189 d_Rb_outcome_64 rfl rfl ?_
    refine xs_if_eq (tgt := 75) C0 d_Rb_outcome_67 (by decide) (fun c2 => ?_) (fun c2 => ?_)
    · refine xs_iconst (v := 0) C0 d_Rb_outcome_75 (by decide) ?_
      refine xs_ior C0 d_Rb_outcome_76 ?_
      rw [g_out] at hf
      try dsimp only at hf
      rw [hT_1, hb_2] at hf
      try dsimp only at hf
      rw [hb_4] at hf
      try dsimp only at hf
      rw [hr_7] at hf
      try dsimp only at hf
      rw [if_neg c1, if_pos c2] at hf
      cases hf
      exact xs_iret C0 d_Rb_outcome_77 (⟨rfl, rfl⟩) (Nat.le_of_ble_eq_true rfl) (Nat.le_of_ble_eq_true rfl)
    · refine xs_ldc (v := 65536) C0 d_Rb_outcome_70 k_595 ?_
      refine xs_goto (tgt := 76) C0 d_Rb_outcome_72 (by decide) ?_
      refine xs_ior C0 d_Rb_outcome_76 ?_
      rw [g_out] at hf
      try dsimp only at hf
      rw [hT_1, hb_2] at hf
      try dsimp only at hf
      rw [hb_4] at hf
      try dsimp only at hf
      rw [hr_7] at hf
      try dsimp only at hf
      rw [if_neg c1, if_neg c2] at hf
      cases hf
      exact xs_iret C0 d_Rb_outcome_77 (⟨rfl, rfl⟩) (Nat.le_of_ble_eq_true rfl) (Nat.le_of_ble_eq_true rfl)
  · refine xs_iconst (v := (-1)) C0 d_Rb_outcome_51 (by decide) ?_
    rw [g_out] at hf
    try dsimp only at hf
    rw [hT_1, hb_2] at hf
    try dsimp only at hf
    rw [hb_4] at hf
    try dsimp only at hf
    rw [hr_7] at hf
    try dsimp only at hf
    rw [if_pos c1] at hf
    cases hf
    exact xs_iret C0 d_Rb_outcome_52 (⟨rfl, rfl⟩) (Nat.le_of_ble_eq_true rfl) (Nat.le_of_ble_eq_true rfl)
set_option maxHeartbeats 4000000 in
set_option maxRecDepth 100000 in
theorem lp_race {f0 g0 f1 g1 f2 g2 f3 g3 f4 g4 : Nat → Int32} {n0 n1 n2 n3 n4 : Nat} {pl dr ki ow : Nat → Int32} {S : wt_S} {H : wt_H} {tt : Int32} {rest : xm_O} {x z us r : Int32} {T1 : wt_S} {F1 : wt_F} {m n : Nat} {E : xm_X} (C0 : xm_C E y_Rb_race.cls b_Rb_race 7 (some .int) [] y_Rb_race.name (xm_rm 8 0 0)) (hB : okB ((f0, g0, n0), (f1, g1, n1), (f2, g2, n2), (f3, g3, n3), (f4, g4, n4), pl, dr, ki, ow)) (hz : s01 S) (hm : m ≤ 100) (hn : n ≤ 6) (h2n : 2 ^ n ≤ 64) : ∀ j : Nat, ∀ (i : Nat) (T : wt_S) (F : wt_F), i + j = 2 ^ n → g_race ((f0, g0, n0), (f1, g1, n1), (f2, g2, n2), (f3, g3, n3), (f4, g4, n4), pl, dr, ki, ow) S x z m us j i T F = (r, T1, F1) → xm_W E 7 (xm_F E (xm_rm 8 0 0).cells (xm_rm 8 0 0).slots (xm_eq (.inl (some (.int r))) (wB ((f0, g0, n0), (f1, g1, n1), (f2, g2, n2), (f3, g3, n3), (f4, g4, n4), pl, dr, ki, ow) S T1 F1 H tt ++ rest))) 0 0 (wd (f0, g0, nI n0) (f1, g1, nI n1) (f2, g2, nI n2) (f3, g3, nI n3) (f4, g4, nI n4) pl dr ki ow S T F H tt ++ rest) 53 [(0, .ref 0), (1, .int x), (2, .int z), (3, .int (nI n)), (4, .int (nI m)), (5, .int us), (6, .int (nI i))] [] := by
  intro j
  induction j with
  | zero =>
    intro i T F hi hf
    refine xs_iload C0 d_Rb_race_53 6 rfl ?_
    refine xs_iconst (v := 1) C0 d_Rb_race_55 (by decide) ?_
    refine xs_iload_n C0 d_Rb_race_56 rfl 3 rfl ?_
    refine xs_ishl C0 d_Rb_race_57 ?_
    refine xs_top (v' := .int (nI (2 ^ n))) (by rw [pl_2tab n hn]) ?_
    refine xs_icmp_ge (tgt := 85) C0 d_Rb_race_58 (by decide) (fun _ => ?_) (fun c9 => absurd (nI_le (by omega) (by omega)) c9)
    refine xs_iconst (v := (-1)) C0 d_Rb_race_85 (by decide) ?_
    rw [g_race] at hf
    cases hf
    exact xs_iret C0 d_Rb_race_86 (⟨rfl, rfl⟩) (Nat.le_of_ble_eq_true rfl) (Nat.le_of_ble_eq_true rfl)
  | succ j ih =>
    intro i T F hi hf
    refine xs_iload C0 d_Rb_race_53 6 rfl ?_
    refine xs_iconst (v := 1) C0 d_Rb_race_55 (by decide) ?_
    refine xs_iload_n C0 d_Rb_race_56 rfl 3 rfl ?_
    refine xs_ishl C0 d_Rb_race_57 ?_
    refine xs_top (v' := .int (nI (2 ^ n))) (by rw [pl_2tab n hn]) ?_
    refine xs_icmp_ge (tgt := 85) C0 d_Rb_race_58 (by decide) (fun c9 => absurd c9 (nI_ge (by omega) (by omega))) (fun _ => ?_)
    refine xs_aload_n C0 d_Rb_race_61 rfl 0 rfl ?_
    refine xs_iload_n C0 d_Rb_race_62 rfl 1 rfl ?_
    refine xs_iload_n C0 d_Rb_race_63 rfl 2 rfl ?_
    refine xs_iload C0 d_Rb_race_64 6 rfl ?_
    refine xs_iload C0 d_Rb_race_66 4 rfl ?_
    obtain ⟨r_1, T_2, F_3, hr_1⟩ : ∃ X Y Z, g_out ((f0, g0, n0), (f1, g1, n1), (f2, g2, n2), (f3, g3, n3), (f4, g4, n4), pl, dr, ki, ow) S T F x z (nI i) m = (X, Y, Z) := ⟨_, _, _, rfl⟩
    refine xs_cV1 (ω' := (wd (f0, g0, nI n0) (f1, g1, nI n1) (f2, g2, nI n2) (f3, g3, nI n3) (f4, g4, nI n4) pl dr ki ow S T_2 F_3 H tt ++ rest)) (As := [.int x, .int z, .int (nI i), .int (nI m)]) (st := []) (kc' := 0) (ks' := 0) (v := .int r_1) C0 d_Rb_race_68 l_Rb_144 rfl rfl (m_out (B := ((f0, g0, n0), (f1, g1, n1), (f2, g2, n2), (f3, g3, n3), (f4, g4, n4), pl, dr, ki, ow)) hB hm hz hr_1) rfl rfl rfl (Nat.le_of_ble_eq_true rfl) (Nat.le_of_ble_eq_true rfl) (Nat.le_of_ble_eq_true rfl) (Nat.le_of_ble_eq_true rfl) (Nat.le_of_ble_eq_true rfl) (Nat.le_of_ble_eq_true rfl) ?_
    refine xs_iload C0 d_Rb_race_71 5 rfl ?_
    refine xs_pc (pc' := 73) rfl ?_
    refine xs_icmp_eq (tgt := 79) C0 d_Rb_race_73 (by decide) (fun c1 => ?_) (fun c1 => ?_)
    · refine xs_iinc (v := nI (i + 1)) (lv' := [(6, .int (nI (i + 1))), (0, .ref 0), (1, .int x), (2, .int z), (3, .int (nI n)), (4, .int (nI m)), (5, .int us)]) C0 d_Rb_race_79 6 rfl (by rw [← nI_1]; rfl) (by decide) rfl ?_
      rw [g_race, hr_1] at hf
      dsimp only at hf
      rw [if_pos c1] at hf
      refine xs_goto (tgt := 53) C0 d_Rb_race_82 (by decide) ?_
      refine xs_lv (lv' := [(0, .ref 0), (1, .int x), (2, .int z), (3, .int (nI n)), (4, .int (nI m)), (5, .int us), (6, .int (nI (i + 1)))]) [1, 2, 3, 4, 5, 6, 0] rfl ?_
      exact ih (i + 1) _ _ (by omega) hf
    · refine xs_iload C0 d_Rb_race_76 6 rfl ?_
      rw [g_race, hr_1] at hf
      dsimp only at hf
      rw [if_neg c1] at hf
      cases hf
      exact xs_iret C0 d_Rb_race_78 (⟨rfl, rfl⟩) (Nat.le_of_ble_eq_true rfl) (Nat.le_of_ble_eq_true rfl)
set_option maxHeartbeats 4000000 in
set_option maxRecDepth 100000 in
theorem m_race {B : wb} {S T : wt_S} {F : wt_F} {H : wt_H} {tt : Int32} {rest : xm_O} {m n : Nat} {x z r : Int32} {T1 : wt_S} {F1 : wt_F} (hB : okB B) (hm : m ≤ 100) (hn : n ≤ 6) (hz : s01 S) (hx1 : gw x 0 (nI B.2.2.1.2.2 - 1)) (hx2 : gw (nI n) 0 (if nI B.1.2.2 < 6 then nI B.1.2.2 else 6)) (hx3 : gw (nI m) 1 100) (hf : g_race B S x z m (g_out B S T F x z 0 m).1 (2 ^ n - 1) 1 (g_out B S T F x z 0 m).2.1 (g_out B S T F x z 0 m).2.2 = (r, T1, F1)) : xm_M y_Rb_race (Cond.code y_Rb_race b_Rb_race 7 (some .int)) (xm_rm 8 0 0) [.ref 0, .int x, .int z, .int (nI n), .int (nI m)] (wB B S T F H tt ++ rest) (xm_eq (.inl (some (.int r))) (wB B S T1 F1 H tt ++ rest)) := by
  have h2n : 2 ^ n ≤ 64 := by rcases (show n = 0 ∨ n = 1 ∨ n = 2 ∨ n = 3 ∨ n = 4 ∨ n = 5 ∨ n = 6 by omega) with rfl | rfl | rfl | rfl | rfl | rfl | rfl <;> decide
  obtain ⟨⟨f0, g0, n0⟩, ⟨f1, g1, n1⟩, ⟨f2, g2, n2⟩, ⟨f3, g3, n3⟩, ⟨f4, g4, n4⟩, pl, dr, ki, ow⟩ := B
  obtain ⟨⟨h0, hp0⟩, ⟨h1, hp1⟩, ⟨h2, hp2⟩, ⟨h3, hp3⟩, ⟨h4, hp4⟩, hk⟩ := id hB
  dsimp only at h0 h1 h2 h3 h4 hp0 hp1 hp2 hp3 hp4 hk
  refine xm_of (by decide) (Nat.le_of_ble_eq_true rfl) (fun E C0 => ?_)
  refine xs_eq (ω' := (wd (f0, g0, nI n0) (f1, g1, nI n1) (f2, g2, nI n2) (f3, g3, nI n3) (f4, g4, nI n4) pl dr ki ow S T F H tt ++ rest)) (lv' := [(0, .ref 0), (1, .int x), (2, .int z), (3, .int (nI n)), (4, .int (nI m))]) rfl rfl rfl ?_
  refine xs_aload_n C0 d_Rb_race_0 rfl 0 rfl ?_
  refine xs_get (q := 0) (v := .ref 1) C0 f_Rb_10 d_Rb_race_1 rfl rfl ?_
  refine xs_get (q := 1) (v := .ref 8) C0 f_Rb_84 d_Rb_race_4 rfl rfl ?_
  refine xs_iload_n C0 d_Rb_race_7 rfl 1 rfl ?_
  refine xs_cS0 (ω' := (wd (f0, g0, nI n0) (f1, g1, nI n1) (f2, g2, nI n2) (f3, g3, nI n3) (f4, g4, nI n4) pl dr ki ow S T F H tt ++ rest)) (av := [.ref 8, .int x]) (st := []) (kc' := 0) (ks' := 0) C0 d_Rb_race_8 l_Rb_74 (c_np2 hx1) rfl rfl rfl (Nat.le_of_ble_eq_true rfl) (Nat.le_of_ble_eq_true rfl) (Nat.le_of_ble_eq_true rfl) (Nat.le_of_ble_eq_true rfl) (Nat.le_of_ble_eq_true rfl) (Nat.le_of_ble_eq_true rfl) ?_
  refine xs_iload_n C0 d_Rb_race_11 rfl 3 rfl ?_
  refine xs_iconst (v := 0) C0 d_Rb_race_12 (by decide) ?_
  refine xs_bipush (v := 6) C0 d_Rb_race_13 (by decide) ?_
  refine xs_aload_n C0 d_Rb_race_15 rfl 0 rfl ?_
  refine xs_get (q := 0) (v := .ref 1) C0 f_Rb_10 d_Rb_race_16 rfl rfl ?_
  refine xs_get (q := 1) (v := .ref 2) C0 f_Rb_54 d_Rb_race_19 rfl rfl ?_
  refine xs_get (q := 2) (v := .int (nI n0)) C0 f_Rb_101 d_Rb_race_22 rfl rfl ?_
  refine xs_pc (pc' := 25) rfl ?_
  refine xs_mmin C0 d_Rb_race_25 k_588 k_589 k_18 kc_Ma_min (Nat.le_of_ble_eq_true rfl) (Nat.le_of_ble_eq_true rfl) (Nat.le_of_ble_eq_true rfl) (Nat.le_of_ble_eq_true rfl) ?_
  refine xs_cS0 (ω' := (wd (f0, g0, nI n0) (f1, g1, nI n1) (f2, g2, nI n2) (f3, g3, nI n3) (f4, g4, nI n4) pl dr ki ow S T F H tt ++ rest)) (av := [.int (nI n), .int 0, .int (if (nI n0) < 6 then (nI n0) else 6)]) (st := []) (kc' := 0) (ks' := 0) C0 d_Rb_race_28 l_Rb_70 (c_nw _ (nI n) 0 (if (nI n0) < 6 then (nI n0) else 6) hx2) rfl rfl rfl (Nat.le_of_ble_eq_true rfl) (Nat.le_of_ble_eq_true rfl) (Nat.le_of_ble_eq_true rfl) (Nat.le_of_ble_eq_true rfl) (Nat.le_of_ble_eq_true rfl) (Nat.le_of_ble_eq_true rfl) ?_
  refine xs_iload C0 d_Rb_race_31 4 rfl ?_
  refine xs_iconst (v := 1) C0 d_Rb_race_33 (by decide) ?_
  refine xs_bipush (v := 100) C0 d_Rb_race_34 (by decide) ?_
  refine xs_cS0 (ω' := (wd (f0, g0, nI n0) (f1, g1, nI n1) (f2, g2, nI n2) (f3, g3, nI n3) (f4, g4, nI n4) pl dr ki ow S T F H tt ++ rest)) (av := [.int (nI m), .int 1, .int 100]) (st := []) (kc' := 0) (ks' := 0) C0 d_Rb_race_36 l_Rb_70 (c_nw _ (nI m) 1 100 hx3) rfl rfl rfl (Nat.le_of_ble_eq_true rfl) (Nat.le_of_ble_eq_true rfl) (Nat.le_of_ble_eq_true rfl) (Nat.le_of_ble_eq_true rfl) (Nat.le_of_ble_eq_true rfl) (Nat.le_of_ble_eq_true rfl) ?_
  refine xs_aload_n C0 d_Rb_race_39 rfl 0 rfl ?_
  refine xs_iload_n C0 d_Rb_race_40 rfl 1 rfl ?_
  refine xs_iload_n C0 d_Rb_race_41 rfl 2 rfl ?_
  refine xs_iconst (v := 0) C0 d_Rb_race_42 (by decide) ?_
  refine xs_iload C0 d_Rb_race_43 4 rfl ?_
  obtain ⟨r_1, T_2, F_3, hr_1⟩ : ∃ X Y Z, g_out ((f0, g0, n0), (f1, g1, n1), (f2, g2, n2), (f3, g3, n3), (f4, g4, n4), pl, dr, ki, ow) S T F x z 0 m = (X, Y, Z) := ⟨_, _, _, rfl⟩
  refine xs_cV1 (ω' := (wd (f0, g0, nI n0) (f1, g1, nI n1) (f2, g2, nI n2) (f3, g3, nI n3) (f4, g4, nI n4) pl dr ki ow S T_2 F_3 H tt ++ rest)) (As := [.int x, .int z, .int 0, .int (nI m)]) (st := []) (kc' := 0) (ks' := 0) (v := .int r_1) C0 d_Rb_race_45 l_Rb_144 rfl rfl (m_out (B := ((f0, g0, n0), (f1, g1, n1), (f2, g2, n2), (f3, g3, n3), (f4, g4, n4), pl, dr, ki, ow)) hB hm hz hr_1) rfl rfl rfl (Nat.le_of_ble_eq_true rfl) (Nat.le_of_ble_eq_true rfl) (Nat.le_of_ble_eq_true rfl) (Nat.le_of_ble_eq_true rfl) (Nat.le_of_ble_eq_true rfl) (Nat.le_of_ble_eq_true rfl) ?_
  refine xs_pc (pc' := 48) rfl ?_
  refine xs_istore (lv' := [(5, .int r_1), (0, .ref 0), (1, .int x), (2, .int z), (3, .int (nI n)), (4, .int (nI m))]) C0 d_Rb_race_48 (by decide) rfl ?_
  refine xs_iconst (v := 1) C0 d_Rb_race_50 (by decide) ?_
  refine xs_istore (lv' := [(6, .int 1), (5, .int r_1), (0, .ref 0), (1, .int x), (2, .int z), (3, .int (nI n)), (4, .int (nI m))]) C0 d_Rb_race_51 (by decide) rfl ?_
  refine xs_lv (lv' := [(0, .ref 0), (1, .int x), (2, .int z), (3, .int (nI n)), (4, .int (nI m)), (5, .int r_1), (6, .int 1)]) [2, 3, 4, 5, 6, 1, 0] rfl ?_
  rw [hr_1] at hf
  dsimp only at hf
  exact lp_race C0 hB hz hm hn h2n (2 ^ n - 1) 1 _ _ (by have h9 : 0 < 2 ^ n := Nat.pow_pos (by decide); omega) hf
set_option maxHeartbeats 4000000 in
set_option maxRecDepth 100000 in
theorem m_raceT {B : wb} {S T : wt_S} {F : wt_F} {H : wt_H} {tt : Int32} {rest : xm_O} {x z y q : Int32} (hB : okB B) (h : ¬ (gw x 0 (nI B.2.2.1.2.2 - 1) ∧ gw y 0 (if nI B.1.2.2 < 6 then nI B.1.2.2 else 6) ∧ gw q 1 100)) : xm_M y_Rb_race (Cond.code y_Rb_race b_Rb_race 7 (some .int)) (xm_rm 8 1 6) [.ref 0, .int x, .int z, .int y, .int q] (wB B S T F H tt ++ rest) (xm_eq (.inr "java/lang/IllegalArgumentException") (wB B S T F H tt ++ rest)) := by
  obtain ⟨⟨f0, g0, n0⟩, ⟨f1, g1, n1⟩, ⟨f2, g2, n2⟩, ⟨f3, g3, n3⟩, ⟨f4, g4, n4⟩, pl, dr, ki, ow⟩ := B
  obtain ⟨⟨h0, hp0⟩, ⟨h1, hp1⟩, ⟨h2, hp2⟩, ⟨h3, hp3⟩, ⟨h4, hp4⟩, hk⟩ := id hB
  dsimp only at h0 h1 h2 h3 h4 hp0 hp1 hp2 hp3 hp4 hk
  refine xm_of (by decide) (Nat.le_of_ble_eq_true rfl) (fun E C0 => ?_)
  refine xs_eq (ω' := (wd (f0, g0, nI n0) (f1, g1, nI n1) (f2, g2, nI n2) (f3, g3, nI n3) (f4, g4, nI n4) pl dr ki ow S T F H tt ++ rest)) (lv' := [(0, .ref 0), (1, .int x), (2, .int z), (3, .int y), (4, .int q)]) rfl rfl rfl ?_
  by_cases ha : gw x 0 (nI n2 - 1)
  · by_cases hb : gw y 0 (if nI n0 < 6 then nI n0 else 6)
    · refine xs_aload_n C0 d_Rb_race_0 rfl 0 rfl ?_
      refine xs_get (q := 0) (v := .ref 1) C0 f_Rb_10 d_Rb_race_1 rfl rfl ?_
      refine xs_get (q := 1) (v := .ref 8) C0 f_Rb_84 d_Rb_race_4 rfl rfl ?_
      refine xs_iload_n C0 d_Rb_race_7 rfl 1 rfl ?_
      refine xs_cS0 (ω' := (wd (f0, g0, nI n0) (f1, g1, nI n1) (f2, g2, nI n2) (f3, g3, nI n3) (f4, g4, nI n4) pl dr ki ow S T F H tt ++ rest)) (av := [.ref 8, .int x]) (st := []) (kc' := 0) (ks' := 0) C0 d_Rb_race_8 l_Rb_74 (c_np2 ha) rfl rfl rfl (Nat.le_of_ble_eq_true rfl) (Nat.le_of_ble_eq_true rfl) (Nat.le_of_ble_eq_true rfl) (Nat.le_of_ble_eq_true rfl) (Nat.le_of_ble_eq_true rfl) (Nat.le_of_ble_eq_true rfl) ?_
      refine xs_iload_n C0 d_Rb_race_11 rfl 3 rfl ?_
      refine xs_iconst (v := 0) C0 d_Rb_race_12 (by decide) ?_
      refine xs_bipush (v := 6) C0 d_Rb_race_13 (by decide) ?_
      refine xs_aload_n C0 d_Rb_race_15 rfl 0 rfl ?_
      refine xs_get (q := 0) (v := .ref 1) C0 f_Rb_10 d_Rb_race_16 rfl rfl ?_
      refine xs_get (q := 1) (v := .ref 2) C0 f_Rb_54 d_Rb_race_19 rfl rfl ?_
      refine xs_get (q := 2) (v := .int (nI n0)) C0 f_Rb_101 d_Rb_race_22 rfl rfl ?_
      refine xs_pc (pc' := 25) rfl ?_
      refine xs_mmin C0 d_Rb_race_25 k_588 k_589 k_18 kc_Ma_min (Nat.le_of_ble_eq_true rfl) (Nat.le_of_ble_eq_true rfl) (Nat.le_of_ble_eq_true rfl) (Nat.le_of_ble_eq_true rfl) ?_
      refine xs_cS0 (ω' := (wd (f0, g0, nI n0) (f1, g1, nI n1) (f2, g2, nI n2) (f3, g3, nI n3) (f4, g4, nI n4) pl dr ki ow S T F H tt ++ rest)) (av := [.int y, .int 0, .int (if (nI n0) < 6 then (nI n0) else 6)]) (st := []) (kc' := 0) (ks' := 0) C0 d_Rb_race_28 l_Rb_70 (c_nw _ y 0 (if (nI n0) < 6 then (nI n0) else 6) hb) rfl rfl rfl (Nat.le_of_ble_eq_true rfl) (Nat.le_of_ble_eq_true rfl) (Nat.le_of_ble_eq_true rfl) (Nat.le_of_ble_eq_true rfl) (Nat.le_of_ble_eq_true rfl) (Nat.le_of_ble_eq_true rfl) ?_
      refine xs_iload C0 d_Rb_race_31 4 rfl ?_
      refine xs_iconst (v := 1) C0 d_Rb_race_33 (by decide) ?_
      refine xs_bipush (v := 100) C0 d_Rb_race_34 (by decide) ?_
      exact xs_cST (av := [.int q, .int 1, .int 100]) (st := []) C0 d_Rb_race_36 l_Rb_70 (c_nwT _ q 1 100 (fun h9 => h ⟨ha, hb, h9⟩)) rfl rfl rfl (Nat.le_of_ble_eq_true rfl) (Nat.le_of_ble_eq_true rfl) (Nat.le_of_ble_eq_true rfl) (Nat.le_of_ble_eq_true rfl) (xt_leave C0 ⟨rfl, rfl⟩ (Nat.le_of_ble_eq_true rfl) (Nat.le_of_ble_eq_true rfl))
    · refine xs_aload_n C0 d_Rb_race_0 rfl 0 rfl ?_
      refine xs_get (q := 0) (v := .ref 1) C0 f_Rb_10 d_Rb_race_1 rfl rfl ?_
      refine xs_get (q := 1) (v := .ref 8) C0 f_Rb_84 d_Rb_race_4 rfl rfl ?_
      refine xs_iload_n C0 d_Rb_race_7 rfl 1 rfl ?_
      refine xs_cS0 (ω' := (wd (f0, g0, nI n0) (f1, g1, nI n1) (f2, g2, nI n2) (f3, g3, nI n3) (f4, g4, nI n4) pl dr ki ow S T F H tt ++ rest)) (av := [.ref 8, .int x]) (st := []) (kc' := 0) (ks' := 0) C0 d_Rb_race_8 l_Rb_74 (c_np2 ha) rfl rfl rfl (Nat.le_of_ble_eq_true rfl) (Nat.le_of_ble_eq_true rfl) (Nat.le_of_ble_eq_true rfl) (Nat.le_of_ble_eq_true rfl) (Nat.le_of_ble_eq_true rfl) (Nat.le_of_ble_eq_true rfl) ?_
      refine xs_iload_n C0 d_Rb_race_11 rfl 3 rfl ?_
      refine xs_iconst (v := 0) C0 d_Rb_race_12 (by decide) ?_
      refine xs_bipush (v := 6) C0 d_Rb_race_13 (by decide) ?_
      refine xs_aload_n C0 d_Rb_race_15 rfl 0 rfl ?_
      refine xs_get (q := 0) (v := .ref 1) C0 f_Rb_10 d_Rb_race_16 rfl rfl ?_
      refine xs_get (q := 1) (v := .ref 2) C0 f_Rb_54 d_Rb_race_19 rfl rfl ?_
      refine xs_get (q := 2) (v := .int (nI n0)) C0 f_Rb_101 d_Rb_race_22 rfl rfl ?_
      refine xs_pc (pc' := 25) rfl ?_
      refine xs_mmin C0 d_Rb_race_25 k_588 k_589 k_18 kc_Ma_min (Nat.le_of_ble_eq_true rfl) (Nat.le_of_ble_eq_true rfl) (Nat.le_of_ble_eq_true rfl) (Nat.le_of_ble_eq_true rfl) ?_
      exact xs_cST (av := [.int y, .int 0, .int (if (nI n0) < 6 then (nI n0) else 6)]) (st := []) C0 d_Rb_race_28 l_Rb_70 (c_nwT _ y 0 (if (nI n0) < 6 then (nI n0) else 6) hb) rfl rfl rfl (Nat.le_of_ble_eq_true rfl) (Nat.le_of_ble_eq_true rfl) (Nat.le_of_ble_eq_true rfl) (Nat.le_of_ble_eq_true rfl) (xt_leave C0 ⟨rfl, rfl⟩ (Nat.le_of_ble_eq_true rfl) (Nat.le_of_ble_eq_true rfl))
  · refine xs_aload_n C0 d_Rb_race_0 rfl 0 rfl ?_
    refine xs_get (q := 0) (v := .ref 1) C0 f_Rb_10 d_Rb_race_1 rfl rfl ?_
    refine xs_get (q := 1) (v := .ref 8) C0 f_Rb_84 d_Rb_race_4 rfl rfl ?_
    refine xs_iload_n C0 d_Rb_race_7 rfl 1 rfl ?_
    exact xs_cST (av := [.ref 8, .int x]) (st := []) C0 d_Rb_race_8 l_Rb_74 (c_npT2 ha) rfl rfl rfl (Nat.le_of_ble_eq_true rfl) (Nat.le_of_ble_eq_true rfl) (Nat.le_of_ble_eq_true rfl) (Nat.le_of_ble_eq_true rfl) (xt_leave C0 ⟨rfl, rfl⟩ (Nat.le_of_ble_eq_true rfl) (Nat.le_of_ble_eq_true rfl))
