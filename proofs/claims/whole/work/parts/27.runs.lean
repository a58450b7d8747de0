set_option maxHeartbeats 4000000 in
set_option maxRecDepth 100000 in
theorem lp_tick {f0 g0 f1 g1 f2 g2 f3 g3 f4 g4 : Nat → Int32} {n0 n1 n2 n3 n4 : Nat} {pl dr ki ow : Nat → Int32} {T : wt_S} {H : wt_H} {tt : Int32} {rest : xm_O} {S0 : wt_S} {F0 : wt_F} {n : Nat} {E : xm_X} {Q : State → Prop} (C0 : xm_C E y_Rb_tick.cls b_Rb_tick 4 (some .int) [] y_Rb_tick.name (xm_rm 6 0 0)) (hB : okB ((f0, g0, n0), (f1, g1, n1), (f2, g2, n2), (f3, g3, n3), (f4, g4, n4), pl, dr, ki, ow)) (hn : n ≤ 500) (kx : ∀ (x : Int32) (S : wt_S) (F : wt_F), g_tick ((f0, g0, n0), (f1, g1, n1), (f2, g2, n2), (f3, g3, n3), (f4, g4, n4), pl, dr, ki, ow) S0 F0 n = (x, S, F) → xm_W E 4 Q 0 0 (wd (f0, g0, nI n0) (f1, g1, nI n1) (f2, g2, nI n2) (f3, g3, nI n3) (f4, g4, nI n4) pl dr ki ow S T F H tt ++ rest) 41 [(0, .ref 0), (1, .int (nI n)), (2, .int x)] []) : ∀ j : Nat, ∀ (i : Nat) (x : Int32) (S : wt_S) (F : wt_F), i + j = n → g_tick ((f0, g0, n0), (f1, g1, n1), (f2, g2, n2), (f3, g3, n3), (f4, g4, n4), pl, dr, ki, ow) S0 F0 i = (x, S, F) → xm_W E 4 Q 0 0 (wd (f0, g0, nI n0) (f1, g1, nI n1) (f2, g2, nI n2) (f3, g3, nI n3) (f4, g4, nI n4) pl dr ki ow S T F H tt ++ rest) 12 [(0, .ref 0), (1, .int (nI n)), (2, .int x), (3, .int (nI i))] [] := by
  intro j
  induction j with
  | zero =>
    intro i x S F hi hM
    have e : n = i := by omega
    subst e
    refine xs_iload_n C0 d_Rb_tick_12 rfl 3 rfl ?_
    refine xs_iload_n C0 d_Rb_tick_13 rfl 1 rfl ?_
    refine xs_icmp_ge (tgt := 41) C0 d_Rb_tick_14 (by decide) (fun _ => ?_) (fun c9 => absurd (nI_le (Nat.le_refl _) (by omega)) c9)
    refine xs_lv (lv' := [(0, .ref 0), (1, .int (nI n)), (2, .int x)]) [0, 1, 2] rfl ?_
    exact kx x S F hM
  | succ j ih =>
    intro i x S F hi hM
    have hlt : i < n := by omega
    refine xs_iload_n C0 d_Rb_tick_12 rfl 3 rfl ?_
    refine xs_iload_n C0 d_Rb_tick_13 rfl 1 rfl ?_
    refine xs_icmp_ge (tgt := 41) C0 d_Rb_tick_14 (by decide) (fun c9 => absurd c9 (nI_ge hlt (by omega))) (fun _ => ?_)
    refine xs_aload_n C0 d_Rb_tick_17 rfl 0 rfl ?_
    refine xs_get (q := 0) (v := .ref 29) C0 f_Rb_31 d_Rb_tick_18 rfl rfl ?_
    refine xs_aload_n C0 d_Rb_tick_21 rfl 0 rfl ?_
    refine xs_get (q := 0) (v := .ref 21) C0 f_Rb_19 d_Rb_tick_22 rfl rfl ?_
    refine xs_iconst (v := 0) C0 d_Rb_tick_25 (by decide) ?_
    obtain ⟨b_1, S_2, F_3, hb_1⟩ : ∃ X Y Z, g_step ((f0, g0, n0), (f1, g1, n1), (f2, g2, n2), (f3, g3, n3), (f4, g4, n4), pl, dr, ki, ow) 0 S F = (X, Y, Z) := ⟨_, _, _, rfl⟩
    refine xs_cV1 (ω' := (wd (f0, g0, nI n0) (f1, g1, nI n1) (f2, g2, nI n2) (f3, g3, nI n3) (f4, g4, nI n4) pl dr ki ow S_2 T F_3 H tt ++ rest)) (As := [.ref 21, .int 0]) (st := []) (kc' := 0) (ks' := 0) (v := .int b_1) C0 d_Rb_tick_26 l_Rb_110 rfl rfl (c_stepn (B := ((f0, g0, n0), (f1, g1, n1), (f2, g2, n2), (f3, g3, n3), (f4, g4, n4), pl, dr, ki, ow)) hB hb_1) rfl rfl rfl (Nat.le_of_ble_eq_true rfl) (Nat.le_of_ble_eq_true rfl) (Nat.le_of_ble_eq_true rfl) (Nat.le_of_ble_eq_true rfl) (Nat.le_of_ble_eq_true rfl) (Nat.le_of_ble_eq_true rfl) ?_
    refine xs_if_eq (tgt := 35) C0 d_Rb_tick_29 (by decide) (fun c1 => ?_) (fun c1 => ?_)
    · refine xs_iinc (v := nI (i + 1)) (lv' := [(3, .int (nI (i + 1))), (0, .ref 0), (1, .int (nI n)), (2, .int x)]) C0 d_Rb_tick_35 3 rfl (by rw [← nI_1]; rfl) (by decide) rfl ?_
      refine xs_goto (tgt := 12) C0 d_Rb_tick_38 (by decide) ?_
      refine xs_lv (lv' := [(0, .ref 0), (1, .int (nI n)), (2, .int x), (3, .int (nI (i + 1)))]) [1, 2, 3, 0] rfl ?_
      exact ih (i + 1) _ _ _ (by omega) (by rw [g_tick, hM]; dsimp only; rw [hb_1]; dsimp only; rw [if_pos c1])
    · refine xs_iinc (v := x + 1) (lv' := [(2, .int (x + 1)), (0, .ref 0), (1, .int (nI n)), (3, .int (nI i))]) C0 d_Rb_tick_32 2 rfl rfl (by decide) rfl ?_
      refine xs_iinc (v := nI (i + 1)) (lv' := [(3, .int (nI (i + 1))), (2, .int (x + 1)), (0, .ref 0), (1, .int (nI n))]) C0 d_Rb_tick_35 3 rfl (by rw [← nI_1]; rfl) (by decide) rfl ?_
      refine xs_goto (tgt := 12) C0 d_Rb_tick_38 (by decide) ?_
      refine xs_lv (lv' := [(0, .ref 0), (1, .int (nI n)), (2, .int (x + 1)), (3, .int (nI (i + 1)))]) [2, 3, 1, 0] rfl ?_
      exact ih (i + 1) _ _ _ (by omega) (by rw [g_tick, hM]; dsimp only; rw [hb_1]; dsimp only; rw [if_neg c1])
set_option maxHeartbeats 4000000 in
set_option maxRecDepth 100000 in
theorem m_tick {B : wb} {S T : wt_S} {F : wt_F} {H : wt_H} {tt : Int32} {rest : xm_O} {n : Nat} {x : Int32} {S1 : wt_S} {F1 : wt_F} (hB : okB B) (hn : n ≤ 500) (h : gw (nI n) 1 500) (hf : g_tick B S F n = (x, S1, F1)) : xm_M y_Rb_tick (Cond.code y_Rb_tick b_Rb_tick 4 (some .int)) (xm_rm 6 0 0) [.ref 0, .int (nI n)] (wB B S T F H tt ++ rest) (xm_eq (.inl (some (.int x))) (wB B S1 T F1 H (tt + nI n) ++ rest)) := by
  obtain ⟨⟨f0, g0, n0⟩, ⟨f1, g1, n1⟩, ⟨f2, g2, n2⟩, ⟨f3, g3, n3⟩, ⟨f4, g4, n4⟩, pl, dr, ki, ow⟩ := B
  obtain ⟨⟨h0, hp0⟩, ⟨h1, hp1⟩, ⟨h2, hp2⟩, ⟨h3, hp3⟩, ⟨h4, hp4⟩, hk⟩ := id hB
  dsimp only at h0 h1 h2 h3 h4 hp0 hp1 hp2 hp3 hp4 hk
  refine xm_of (by decide) (Nat.le_of_ble_eq_true rfl) (fun E C0 => ?_)
  refine xs_eq (ω' := (wd (f0, g0, nI n0) (f1, g1, nI n1) (f2, g2, nI n2) (f3, g3, nI n3) (f4, g4, nI n4) pl dr ki ow S T F H tt ++ rest)) (lv' := [(0, .ref 0), (1, .int (nI n))]) rfl rfl rfl ?_
  refine xs_iload_n C0 d_Rb_tick_0 rfl 1 rfl ?_
  refine xs_iconst (v := 1) C0 d_Rb_tick_1 (by decide) ?_
  refine xs_sipush (v := 500) C0 d_Rb_tick_2 (by decide) ?_
  refine xs_cS0 (ω' := (wd (f0, g0, nI n0) (f1, g1, nI n1) (f2, g2, nI n2) (f3, g3, nI n3) (f4, g4, nI n4) pl dr ki ow S T F H tt ++ rest)) (av := [.int (nI n), .int 1, .int 500]) (st := []) (kc' := 0) (ks' := 0) C0 d_Rb_tick_5 l_Rb_70 (c_nw _ (nI n) 1 500 h) rfl rfl rfl (Nat.le_of_ble_eq_true rfl) (Nat.le_of_ble_eq_true rfl) (Nat.le_of_ble_eq_true rfl) (Nat.le_of_ble_eq_true rfl) (Nat.le_of_ble_eq_true rfl) (Nat.le_of_ble_eq_true rfl) ?_
  refine xs_iconst (v := 0) C0 d_Rb_tick_8 (by decide) ?_
  refine xs_istore_n (lv' := [(2, .int 0), (0, .ref 0), (1, .int (nI n))]) C0 d_Rb_tick_9 rfl (by decide) rfl ?_
  refine xs_iconst (v := 0) C0 d_Rb_tick_10 (by decide) ?_
  refine xs_istore_n (lv' := [(3, .int 0), (2, .int 0), (0, .ref 0), (1, .int (nI n))]) C0 d_Rb_tick_11 rfl (by decide) rfl ?_
  refine xs_lv (lv' := [(0, .ref 0), (1, .int (nI n)), (2, .int 0), (3, .int 0)]) [2, 3, 1, 0] rfl ?_
  refine lp_tick (S0 := S) (F0 := F) C0 hB hn (fun x9 S9 F9 hM => ?_) n 0 _ _ _ (by omega) rfl
  rw [hf] at hM
  cases hM
  refine xs_aload_n C0 d_Rb_tick_41 rfl 0 rfl ?_
  refine xs_dup C0 d_Rb_tick_42 rfl ?_
  refine xs_get (q := 0) (v := .int tt) C0 f_Rb_42 d_Rb_tick_43 rfl rfl ?_
  refine xs_iload_n C0 d_Rb_tick_46 rfl 1 rfl ?_
  refine xs_iadd C0 d_Rb_tick_47 ?_
  refine xs_put (ω' := (wd (f0, g0, nI n0) (f1, g1, nI n1) (f2, g2, nI n2) (f3, g3, nI n3) (f4, g4, nI n4) pl dr ki ow S1 T F1 H (tt + (nI n)) ++ rest)) C0 f_Rb_42 ty_Rb_5 d_Rb_tick_48 rfl (Nat.le_of_ble_eq_true rfl) (fun _ => ⟨rfl, rfl⟩) rfl ?_
  refine xs_iload_n C0 d_Rb_tick_51 rfl 2 rfl ?_
  exact xs_iret C0 d_Rb_tick_52 (⟨rfl, rfl⟩) (Nat.le_of_ble_eq_true rfl) (Nat.le_of_ble_eq_true rfl)
set_option maxHeartbeats 4000000 in
set_option maxRecDepth 100000 in
theorem m_tickT {B : wb} {S T : wt_S} {F : wt_F} {H : wt_H} {tt : Int32} {rest : xm_O} {y : Int32} (hB : okB B) (h : ¬ gw y 1 500) : xm_M y_Rb_tick (Cond.code y_Rb_tick b_Rb_tick 4 (some .int)) (xm_rm 7 1 6) [.ref 0, .int y] (wB B S T F H tt ++ rest) (xm_eq (.inr "java/lang/IllegalArgumentException") (wB B S T F H tt ++ rest)) := by
  obtain ⟨⟨f0, g0, n0⟩, ⟨f1, g1, n1⟩, ⟨f2, g2, n2⟩, ⟨f3, g3, n3⟩, ⟨f4, g4, n4⟩, pl, dr, ki, ow⟩ := B
  obtain ⟨⟨h0, hp0⟩, ⟨h1, hp1⟩, ⟨h2, hp2⟩, ⟨h3, hp3⟩, ⟨h4, hp4⟩, hk⟩ := id hB
  dsimp only at h0 h1 h2 h3 h4 hp0 hp1 hp2 hp3 hp4 hk
  refine xm_of (by decide) (Nat.le_of_ble_eq_true rfl) (fun E C0 => ?_)
  refine xs_eq (ω' := (wd (f0, g0, nI n0) (f1, g1, nI n1) (f2, g2, nI n2) (f3, g3, nI n3) (f4, g4, nI n4) pl dr ki ow S T F H tt ++ rest)) (lv' := [(0, .ref 0), (1, .int y)]) rfl rfl rfl ?_
  refine xs_iload_n C0 d_Rb_tick_0 rfl 1 rfl ?_
  refine xs_iconst (v := 1) C0 d_Rb_tick_1 (by decide) ?_
  refine xs_sipush (v := 500) C0 d_Rb_tick_2 (by decide) ?_
  exact xs_cST (av := [.int y, .int 1, .int 500]) (st := []) C0 d_Rb_tick_5 l_Rb_70 (c_nwT _ y 1 500 h) rfl rfl rfl (Nat.le_of_ble_eq_true rfl) (Nat.le_of_ble_eq_true rfl) (Nat.le_of_ble_eq_true rfl) (Nat.le_of_ble_eq_true rfl) (xt_leave C0 ⟨rfl, rfl⟩ (Nat.le_of_ble_eq_true rfl) (Nat.le_of_ble_eq_true rfl))
set_option maxHeartbeats 4000000 in
set_option maxRecDepth 100000 in
theorem lp_dial {f0 g0 f1 g1 f2 g2 f3 g3 f4 g4 : Nat → Int32} {n0 n1 n2 n3 n4 : Nat} {pl dr ki ow : Nat → Int32} {T : wt_S} {F : wt_F} {H : wt_H} {tt : Int32} {rest : xm_O} {S0 : wt_S} {x y : Int32} {m : Nat} {E : xm_X} {Q : State → Prop} (C0 : xm_C E y_Rb_dial.cls b_Rb_dial 5 none [] y_Rb_dial.name (xm_rm 5 0 0)) (hm : m ≤ 1000) (kx : ∀ (S : wt_S), g_dial S0 x y m = S → xm_W E 5 Q 0 0 (wd (f0, g0, nI n0) (f1, g1, nI n1) (f2, g2, nI n2) (f3, g3, nI n3) (f4, g4, nI n4) pl dr ki ow S T F H tt ++ rest) 65 [(0, .ref 0)] []) : ∀ j : Nat, ∀ (i : Nat) (S : wt_S), i + j = m → g_dial S0 x y i = S → xm_W E 5 Q 0 0 (wd (f0, g0, nI n0) (f1, g1, nI n1) (f2, g2, nI n2) (f3, g3, nI n3) (f4, g4, nI n4) pl dr ki ow S T F H tt ++ rest) 35 [(0, .ref 0), (1, .int x), (2, .int (nI m)), (3, .int y), (4, .int (nI i))] [] := by
  intro j
  induction j with
  | zero =>
    intro i S hi hM
    have e : m = i := by omega
    subst e
    refine xs_iload C0 d_Rb_dial_35 4 rfl ?_
    refine xs_iload_n C0 d_Rb_dial_37 rfl 2 rfl ?_
    refine xs_icmp_ge (tgt := 65) C0 d_Rb_dial_38 (by decide) (fun _ => ?_) (fun c9 => absurd (nI_le (Nat.le_refl _) (by omega)) c9)
    refine xs_lv (lv' := [(0, .ref 0)]) [0] rfl ?_
    exact kx S hM
  | succ j ih =>
    intro i S hi hM
    have hlt : i < m := by omega
    refine xs_iload C0 d_Rb_dial_35 4 rfl ?_
    refine xs_iload_n C0 d_Rb_dial_37 rfl 2 rfl ?_
    refine xs_icmp_ge (tgt := 65) C0 d_Rb_dial_38 (by decide) (fun c9 => absurd c9 (nI_ge hlt (by omega))) (fun _ => ?_)
    refine xs_aload_n C0 d_Rb_dial_41 rfl 0 rfl ?_
    refine xs_get (q := 0) (v := .ref 21) C0 f_Rb_19 d_Rb_dial_42 rfl rfl ?_
    refine xs_iload_n C0 d_Rb_dial_45 rfl 1 rfl ?_
    refine xs_iload C0 d_Rb_dial_46 4 rfl ?_
    refine xs_iadd C0 d_Rb_dial_48 ?_
    refine xs_iload_n C0 d_Rb_dial_49 rfl 3 rfl ?_
    refine xs_iload C0 d_Rb_dial_50 4 rfl ?_
    refine xs_cS1 (ω' := (wd (f0, g0, nI n0) (f1, g1, nI n1) (f2, g2, nI n2) (f3, g3, nI n3) (f4, g4, nI n4) pl dr ki ow S T F H tt ++ rest)) (av := [.int y, .int (nI i)]) (st := [.int (x + (nI i)), .ref 21]) (kc' := 0) (ks' := 0) (v := .int (f_hb y (nI i))) C0 d_Rb_dial_52 l_Rb_106 (c_hb _ y (nI i)) rfl rfl rfl (Nat.le_of_ble_eq_true rfl) (Nat.le_of_ble_eq_true rfl) (Nat.le_of_ble_eq_true rfl) (Nat.le_of_ble_eq_true rfl) (Nat.le_of_ble_eq_true rfl) (Nat.le_of_ble_eq_true rfl) ?_
    obtain ⟨b_1, S_2, hb_1⟩ : ∃ X Y, f_sk S (x + (nI i)) (f_hb y (nI i)) = (X, Y) := ⟨_, _, rfl⟩
    refine xs_cV1 (ω' := (wd (f0, g0, nI n0) (f1, g1, nI n1) (f2, g2, nI n2) (f3, g3, nI n3) (f4, g4, nI n4) pl dr ki ow S_2 T F H tt ++ rest)) (As := [.int (x + (nI i)), .int (f_hb y (nI i))]) (st := []) (kc' := 0) (ks' := 0) (v := .int b_1) C0 d_Rb_dial_55 l_Rb_97 rfl rfl (c_skn hb_1) rfl rfl rfl (Nat.le_of_ble_eq_true rfl) (Nat.le_of_ble_eq_true rfl) (Nat.le_of_ble_eq_true rfl) (Nat.le_of_ble_eq_true rfl) (Nat.le_of_ble_eq_true rfl) (Nat.le_of_ble_eq_true rfl) ?_
    refine xs_pc (pc' := 58) rfl ?_
    refine xs_pop C0 d_Rb_dial_58 rfl ?_
    refine xs_iinc (v := nI (i + 1)) (lv' := [(4, .int (nI (i + 1))), (0, .ref 0), (1, .int x), (2, .int (nI m)), (3, .int y)]) C0 d_Rb_dial_59 4 rfl (by rw [← nI_1]; rfl) (by decide) rfl ?_
    refine xs_goto (tgt := 35) C0 d_Rb_dial_62 (by decide) ?_
    refine xs_lv (lv' := [(0, .ref 0), (1, .int x), (2, .int (nI m)), (3, .int y), (4, .int (nI (i + 1)))]) [1, 2, 3, 4, 0] rfl ?_
    exact ih (i + 1) _ (by omega) (by rw [g_dial, hM, hb_1])
set_option maxHeartbeats 4000000 in
set_option maxRecDepth 100000 in
theorem m_dial {B : wb} {S T : wt_S} {F : wt_F} {H : wt_H} {tt : Int32} {rest : xm_O} {m : Nat} {x y b : Int32} {S1 : wt_S} {F1 : wt_F} (hB : okB B) (hm : m ≤ 1000) (h1 : gw (nI m) 0 (nI B.2.2.1.2.2)) (h2 : gw x 0 (nI B.2.2.1.2.2 - nI m)) (hf : g_laf B (g_dial S x y m) F = (b, S1, F1)) : xm_M y_Rb_dial (Cond.code y_Rb_dial b_Rb_dial 5 none) (xm_rm 5 0 0) [.ref 0, .int x, .int (nI m), .int y] (wB B S T F H tt ++ rest) (xm_eq (.inl none) (wB B S1 T F1 H tt ++ rest)) := by
  have hg1 := h1
  have hg2 := h2
  obtain ⟨⟨f0, g0, n0⟩, ⟨f1, g1, n1⟩, ⟨f2, g2, n2⟩, ⟨f3, g3, n3⟩, ⟨f4, g4, n4⟩, pl, dr, ki, ow⟩ := B
  obtain ⟨⟨h0, hp0⟩, ⟨h1, hp1⟩, ⟨h2, hp2⟩, ⟨h3, hp3⟩, ⟨h4, hp4⟩, hk⟩ := id hB
  dsimp only at h0 h1 h2 h3 h4 hp0 hp1 hp2 hp3 hp4 hk
  refine xm_of (by decide) (Nat.le_of_ble_eq_true rfl) (fun E C0 => ?_)
  refine xs_eq (ω' := (wd (f0, g0, nI n0) (f1, g1, nI n1) (f2, g2, nI n2) (f3, g3, nI n3) (f4, g4, nI n4) pl dr ki ow S T F H tt ++ rest)) (lv' := [(0, .ref 0), (1, .int x), (2, .int (nI m)), (3, .int y)]) rfl rfl rfl ?_
  refine xs_iload_n C0 d_Rb_dial_0 rfl 2 rfl ?_
  refine xs_iconst (v := 0) C0 d_Rb_dial_1 (by decide) ?_
  refine xs_aload_n C0 d_Rb_dial_2 rfl 0 rfl ?_
  refine xs_get (q := 0) (v := .ref 1) C0 f_Rb_10 d_Rb_dial_3 rfl rfl ?_
  refine xs_get (q := 1) (v := .ref 8) C0 f_Rb_84 d_Rb_dial_6 rfl rfl ?_
  refine xs_get (q := 8) (v := .int (nI n2)) C0 f_Rb_101 d_Rb_dial_9 rfl rfl ?_
  refine xs_cS0 (ω' := (wd (f0, g0, nI n0) (f1, g1, nI n1) (f2, g2, nI n2) (f3, g3, nI n3) (f4, g4, nI n4) pl dr ki ow S T F H tt ++ rest)) (av := [.int (nI m), .int 0, .int (nI n2)]) (st := []) (kc' := 0) (ks' := 0) C0 d_Rb_dial_12 l_Rb_70 (c_nw _ (nI m) 0 (nI n2) hg1) rfl rfl rfl (Nat.le_of_ble_eq_true rfl) (Nat.le_of_ble_eq_true rfl) (Nat.le_of_ble_eq_true rfl) (Nat.le_of_ble_eq_true rfl) (Nat.le_of_ble_eq_true rfl) (Nat.le_of_ble_eq_true rfl) ?_
  refine xs_iload_n C0 d_Rb_dial_15 rfl 1 rfl ?_
  refine xs_iconst (v := 0) C0 d_Rb_dial_16 (by decide) ?_
  refine xs_aload_n C0 d_Rb_dial_17 rfl 0 rfl ?_
  refine xs_get (q := 0) (v := .ref 1) C0 f_Rb_10 d_Rb_dial_18 rfl rfl ?_
  refine xs_get (q := 1) (v := .ref 8) C0 f_Rb_84 d_Rb_dial_21 rfl rfl ?_
  refine xs_pc (pc' := 24) rfl ?_
  refine xs_get (q := 8) (v := .int (nI n2)) C0 f_Rb_101 d_Rb_dial_24 rfl rfl ?_
  refine xs_iload_n C0 d_Rb_dial_27 rfl 2 rfl ?_
  refine xs_isub C0 d_Rb_dial_28 ?_
  refine xs_cS0 (ω' := (wd (f0, g0, nI n0) (f1, g1, nI n1) (f2, g2, nI n2) (f3, g3, nI n3) (f4, g4, nI n4) pl dr ki ow S T F H tt ++ rest)) (av := [.int x, .int 0, .int ((nI n2) - (nI m))]) (st := []) (kc' := 0) (ks' := 0) C0 d_Rb_dial_29 l_Rb_70 (c_nw _ x 0 ((nI n2) - (nI m)) hg2) rfl rfl rfl (Nat.le_of_ble_eq_true rfl) (Nat.le_of_ble_eq_true rfl) (Nat.le_of_ble_eq_true rfl) (Nat.le_of_ble_eq_true rfl) (Nat.le_of_ble_eq_true rfl) (Nat.le_of_ble_eq_true rfl) ?_
  refine xs_iconst (v := 0) C0 d_Rb_dial_32 (by decide) ?_
  refine xs_istore (lv' := [(4, .int 0), (0, .ref 0), (1, .int x), (2, .int (nI m)), (3, .int y)]) C0 d_Rb_dial_33 (by decide) rfl ?_
  refine xs_lv (lv' := [(0, .ref 0), (1, .int x), (2, .int (nI m)), (3, .int y), (4, .int 0)]) [1, 2, 3, 4, 0] rfl ?_
  refine lp_dial (S0 := S) C0 hm (fun S9 hM => ?_) m 0 _ (by omega) rfl
  rw [hM] at hf
  refine xs_aload_n C0 d_Rb_dial_65 rfl 0 rfl ?_
  refine xs_get (q := 0) (v := .ref 29) C0 f_Rb_31 d_Rb_dial_66 rfl rfl ?_
  refine xs_aload_n C0 d_Rb_dial_69 rfl 0 rfl ?_
  refine xs_get (q := 0) (v := .ref 21) C0 f_Rb_19 d_Rb_dial_70 rfl rfl ?_
  refine xs_cV1 (ω' := (wd (f0, g0, nI n0) (f1, g1, nI n1) (f2, g2, nI n2) (f3, g3, nI n3) (f4, g4, nI n4) pl dr ki ow S1 T F1 H tt ++ rest)) (As := [.ref 21]) (st := []) (kc' := 0) (ks' := 0) (v := .int b) C0 d_Rb_dial_73 l_Rb_66 rfl rfl (c_lafn (B := ((f0, g0, n0), (f1, g1, n1), (f2, g2, n2), (f3, g3, n3), (f4, g4, n4), pl, dr, ki, ow)) hB hf) rfl rfl rfl (Nat.le_of_ble_eq_true rfl) (Nat.le_of_ble_eq_true rfl) (Nat.le_of_ble_eq_true rfl) (Nat.le_of_ble_eq_true rfl) (Nat.le_of_ble_eq_true rfl) (Nat.le_of_ble_eq_true rfl) ?_
  refine xs_pop C0 d_Rb_dial_76 rfl ?_
  exact xs_vret C0 d_Rb_dial_77 (⟨rfl, rfl⟩) (Nat.le_of_ble_eq_true rfl) (Nat.le_of_ble_eq_true rfl)
set_option maxHeartbeats 4000000 in
set_option maxRecDepth 100000 in
theorem m_dialT {B : wb} {S T : wt_S} {F : wt_F} {H : wt_H} {tt : Int32} {rest : xm_O} {x y q : Int32} (hB : okB B) (h : ¬ (gw q 0 (nI B.2.2.1.2.2) ∧ gw x 0 (nI B.2.2.1.2.2 - q))) : xm_M y_Rb_dial (Cond.code y_Rb_dial b_Rb_dial 5 none) (xm_rm 7 1 6) [.ref 0, .int x, .int q, .int y] (wB B S T F H tt ++ rest) (xm_eq (.inr "java/lang/IllegalArgumentException") (wB B S T F H tt ++ rest)) := by
  obtain ⟨⟨f0, g0, n0⟩, ⟨f1, g1, n1⟩, ⟨f2, g2, n2⟩, ⟨f3, g3, n3⟩, ⟨f4, g4, n4⟩, pl, dr, ki, ow⟩ := B
  obtain ⟨⟨h0, hp0⟩, ⟨h1, hp1⟩, ⟨h2, hp2⟩, ⟨h3, hp3⟩, ⟨h4, hp4⟩, hk⟩ := id hB
  dsimp only at h0 h1 h2 h3 h4 hp0 hp1 hp2 hp3 hp4 hk
  refine xm_of (by decide) (Nat.le_of_ble_eq_true rfl) (fun E C0 => ?_)
  refine xs_eq (ω' := (wd (f0, g0, nI n0) (f1, g1, nI n1) (f2, g2, nI n2) (f3, g3, nI n3) (f4, g4, nI n4) pl dr ki ow S T F H tt ++ rest)) (lv' := [(0, .ref 0), (1, .int x), (2, .int q), (3, .int y)]) rfl rfl rfl ?_
  by_cases ha : gw q 0 (nI n2)
  · refine xs_iload_n C0 d_Rb_dial_0 rfl 2 rfl ?_
    refine xs_iconst (v := 0) C0 d_Rb_dial_1 (by decide) ?_
    refine xs_aload_n C0 d_Rb_dial_2 rfl 0 rfl ?_
    refine xs_get (q := 0) (v := .ref 1) C0 f_Rb_10 d_Rb_dial_3 rfl rfl ?_
    refine xs_get (q := 1) (v := .ref 8) C0 f_Rb_84 d_Rb_dial_6 rfl rfl ?_
    refine xs_get (q := 8) (v := .int (nI n2)) C0 f_Rb_101 d_Rb_dial_9 rfl rfl ?_
    refine xs_cS0 (ω' := (wd (f0, g0, nI n0) (f1, g1, nI n1) (f2, g2, nI n2) (f3, g3, nI n3) (f4, g4, nI n4) pl dr ki ow S T F H tt ++ rest)) (av := [.int q, .int 0, .int (nI n2)]) (st := []) (kc' := 0) (ks' := 0) C0 d_Rb_dial_12 l_Rb_70 (c_nw _ q 0 (nI n2) ha) rfl rfl rfl (Nat.le_of_ble_eq_true rfl) (Nat.le_of_ble_eq_true rfl) (Nat.le_of_ble_eq_true rfl) (Nat.le_of_ble_eq_true rfl) (Nat.le_of_ble_eq_true rfl) (Nat.le_of_ble_eq_true rfl) ?_
    refine xs_iload_n C0 d_Rb_dial_15 rfl 1 rfl ?_
    refine xs_iconst (v := 0) C0 d_Rb_dial_16 (by decide) ?_
    refine xs_aload_n C0 d_Rb_dial_17 rfl 0 rfl ?_
    refine xs_get (q := 0) (v := .ref 1) C0 f_Rb_10 d_Rb_dial_18 rfl rfl ?_
    refine xs_get (q := 1) (v := .ref 8) C0 f_Rb_84 d_Rb_dial_21 rfl rfl ?_
    refine xs_pc (pc' := 24) rfl ?_
    refine xs_get (q := 8) (v := .int (nI n2)) C0 f_Rb_101 d_Rb_dial_24 rfl rfl ?_
    refine xs_iload_n C0 d_Rb_dial_27 rfl 2 rfl ?_
    refine xs_isub C0 d_Rb_dial_28 ?_
    exact xs_cST (av := [.int x, .int 0, .int ((nI n2) - q)]) (st := []) C0 d_Rb_dial_29 l_Rb_70 (c_nwT _ x 0 ((nI n2) - q) (fun h9 => h ⟨ha, h9⟩)) rfl rfl rfl (Nat.le_of_ble_eq_true rfl) (Nat.le_of_ble_eq_true rfl) (Nat.le_of_ble_eq_true rfl) (Nat.le_of_ble_eq_true rfl) (xt_leave C0 ⟨rfl, rfl⟩ (Nat.le_of_ble_eq_true rfl) (Nat.le_of_ble_eq_true rfl))
  · refine xs_iload_n C0 d_Rb_dial_0 rfl 2 rfl ?_
    refine xs_iconst (v := 0) C0 d_Rb_dial_1 (by decide) ?_
    refine xs_aload_n C0 d_Rb_dial_2 rfl 0 rfl ?_
    refine xs_get (q := 0) (v := .ref 1) C0 f_Rb_10 d_Rb_dial_3 rfl rfl ?_
    refine xs_get (q := 1) (v := .ref 8) C0 f_Rb_84 d_Rb_dial_6 rfl rfl ?_
    refine xs_get (q := 8) (v := .int (nI n2)) C0 f_Rb_101 d_Rb_dial_9 rfl rfl ?_
    exact xs_cST (av := [.int q, .int 0, .int (nI n2)]) (st := []) C0 d_Rb_dial_12 l_Rb_70 (c_nwT _ q 0 (nI n2) ha) rfl rfl rfl (Nat.le_of_ble_eq_true rfl) (Nat.le_of_ble_eq_true rfl) (Nat.le_of_ble_eq_true rfl) (Nat.le_of_ble_eq_true rfl) (xt_leave C0 ⟨rfl, rfl⟩ (Nat.le_of_ble_eq_true rfl) (Nat.le_of_ble_eq_true rfl))
set_option maxHeartbeats 4000000 in
set_option maxRecDepth 100000 in
theorem m_settle {B : wb} {S T : wt_S} {F : wt_F} {H : wt_H} {tt : Int32} {rest : xm_O} {m : Nat} {r : Int32} {S1 T1 : wt_S} {F1 : wt_F} (hB : okB B) (hm : m ≤ 500) (hz : s01 S) (h : gw (nI m) 0 500) (hr : g_run B 0 (m + 1) 0 (f_bec S T) F = (r, T1, F1)) (hn1 : ¬ r = -1) (hs : f_bec T1 S = S1) : xm_M y_Rb_settle (Cond.code y_Rb_settle b_Rb_settle 3 (some .int)) (xm_rm 7 0 0) [.ref 0, .int (nI m)] (wB B S T F H tt ++ rest) (xm_eq (.inl (some (.int r))) (wB B S1 T1 F1 H (tt + r) ++ rest)) := by
  have hz1 : s01 T1 := by have h9 := s01_run (B := B) (slow := 0) (m + 1) 0 (f_bec S T) F hz; rw [hr] at h9; exact h9
  obtain ⟨⟨f0, g0, n0⟩, ⟨f1, g1, n1⟩, ⟨f2, g2, n2⟩, ⟨f3, g3, n3⟩, ⟨f4, g4, n4⟩, pl, dr, ki, ow⟩ := B
  obtain ⟨⟨h0, hp0⟩, ⟨h1, hp1⟩, ⟨h2, hp2⟩, ⟨h3, hp3⟩, ⟨h4, hp4⟩, hk⟩ := id hB
  dsimp only at h0 h1 h2 h3 h4 hp0 hp1 hp2 hp3 hp4 hk
  refine xm_of (by decide) (Nat.le_of_ble_eq_true rfl) (fun E C0 => ?_)
  refine xs_eq (ω' := (wd (f0, g0, nI n0) (f1, g1, nI n1) (f2, g2, nI n2) (f3, g3, nI n3) (f4, g4, nI n4) pl dr ki ow S T F H tt ++ rest)) (lv' := [(0, .ref 0), (1, .int (nI m))]) rfl rfl rfl ?_
  refine xs_iload_n C0 d_Rb_settle_0 rfl 1 rfl ?_
  refine xs_iconst (v := 0) C0 d_Rb_settle_1 (by decide) ?_
  refine xs_sipush (v := 500) C0 d_Rb_settle_2 (by decide) ?_
  refine xs_cS0 (ω' := (wd (f0, g0, nI n0) (f1, g1, nI n1) (f2, g2, nI n2) (f3, g3, nI n3) (f4, g4, nI n4) pl dr ki ow S T F H tt ++ rest)) (av := [.int (nI m), .int 0, .int 500]) (st := []) (kc' := 0) (ks' := 0) C0 d_Rb_settle_5 l_Rb_70 (c_nw _ (nI m) 0 500 h) rfl rfl rfl (Nat.le_of_ble_eq_true rfl) (Nat.le_of_ble_eq_true rfl) (Nat.le_of_ble_eq_true rfl) (Nat.le_of_ble_eq_true rfl) (Nat.le_of_ble_eq_true rfl) (Nat.le_of_ble_eq_true rfl) ?_
  refine xs_aload_n C0 d_Rb_settle_8 rfl 0 rfl ?_
  refine xs_get (q := 0) (v := .ref 25) C0 f_Rb_23 d_Rb_settle_9 rfl rfl ?_
  refine xs_aload_n C0 d_Rb_settle_12 rfl 0 rfl ?_
  refine xs_get (q := 0) (v := .ref 21) C0 f_Rb_19 d_Rb_settle_13 rfl rfl ?_
  obtain ⟨T_1, hT_1⟩ : ∃ X, f_bec S T = X := ⟨_, rfl⟩
  refine xs_cV0 (ω' := (wd (f0, g0, nI n0) (f1, g1, nI n1) (f2, g2, nI n2) (f3, g3, nI n3) (f4, g4, nI n4) pl dr ki ow S T_1 F H tt ++ rest)) (As := [.ref 21]) (st := []) (kc' := 0) (ks' := 0) C0 d_Rb_settle_16 l_Rb_114 rfl rfl (c_bect hz hT_1) rfl rfl rfl (Nat.le_of_ble_eq_true rfl) (Nat.le_of_ble_eq_true rfl) (Nat.le_of_ble_eq_true rfl) (Nat.le_of_ble_eq_true rfl) (Nat.le_of_ble_eq_true rfl) (Nat.le_of_ble_eq_true rfl) ?_
  refine xs_aload_n C0 d_Rb_settle_19 rfl 0 rfl ?_
  refine xs_get (q := 0) (v := .ref 29) C0 f_Rb_31 d_Rb_settle_20 rfl rfl ?_
  refine xs_aload_n C0 d_Rb_settle_23 rfl 0 rfl ?_
  refine xs_pc (pc' := 24) rfl ?_
  refine xs_get (q := 0) (v := .ref 25) C0 f_Rb_23 d_Rb_settle_24 rfl rfl ?_
  refine xs_iconst (v := 0) C0 d_Rb_settle_27 (by decide) ?_
  refine xs_iload_n C0 d_Rb_settle_28 rfl 1 rfl ?_
  obtain ⟨r_2, T_3, F_4, hr_2⟩ : ∃ X Y Z, g_run ((f0, g0, n0), (f1, g1, n1), (f2, g2, n2), (f3, g3, n3), (f4, g4, n4), pl, dr, ki, ow) 0 (m + 1) 0 T_1 F = (X, Y, Z) := ⟨_, _, _, rfl⟩
  refine xs_cV1 (ω' := (wd (f0, g0, nI n0) (f1, g1, nI n1) (f2, g2, nI n2) (f3, g3, nI n3) (f4, g4, nI n4) pl dr ki ow S T_3 F_4 H tt ++ rest)) (As := [.ref 25, .int 0, .int (nI m)]) (st := []) (kc' := 0) (ks' := 0) (v := .int r_2) C0 d_Rb_settle_29 l_Rb_118 rfl rfl (c_run (B := ((f0, g0, n0), (f1, g1, n1), (f2, g2, n2), (f3, g3, n3), (f4, g4, n4), pl, dr, ki, ow)) hB (by omega) hr_2) rfl rfl rfl (Nat.le_of_ble_eq_true rfl) (Nat.le_of_ble_eq_true rfl) (Nat.le_of_ble_eq_true rfl) (Nat.le_of_ble_eq_true rfl) (Nat.le_of_ble_eq_true rfl) (Nat.le_of_ble_eq_true rfl) ?_
  refine xs_istore_n (lv' := [(2, .int r_2), (0, .ref 0), (1, .int (nI m))]) C0 d_Rb_settle_32 rfl (by decide) rfl ?_
  refine xs_iload_n C0 d_Rb_settle_33 rfl 0 rfl ?_
  refine xs_iconst (v := (-1)) C0 d_Rb_settle_34 (by decide) ?_
  refine xs_icmp_ne (tgt := 48) C0 d_Rb_settle_35 (by decide) (fun _ => ?_) (fun c9 => absurd (by rw [hT_1] at hr; rw [hr_2] at hr; cases hr; exact c9) hn1)
  refine xs_aload_n C0 d_Rb_settle_48 rfl 1 rfl ?_
  refine xs_get (q := 0) (v := .ref 21) C0 f_Rb_19 d_Rb_settle_49 rfl rfl ?_
  refine xs_aload_n C0 d_Rb_settle_52 rfl 1 rfl ?_
  refine xs_get (q := 0) (v := .ref 25) C0 f_Rb_23 d_Rb_settle_53 rfl rfl ?_
  rw [hT_1] at hr
  rw [hr_2] at hr
  cases hr
  obtain ⟨S_5, hS_5⟩ : ∃ X, f_bec T1 S = X := ⟨_, rfl⟩
  refine xs_cV0 (ω' := (wd (f0, g0, nI n0) (f1, g1, nI n1) (f2, g2, nI n2) (f3, g3, nI n3) (f4, g4, nI n4) pl dr ki ow S_5 T1 F1 H tt ++ rest)) (As := [.ref 25]) (st := []) (kc' := 0) (ks' := 0) C0 d_Rb_settle_56 l_Rb_114 rfl rfl (c_becn hz1 hS_5) rfl rfl rfl (Nat.le_of_ble_eq_true rfl) (Nat.le_of_ble_eq_true rfl) (Nat.le_of_ble_eq_true rfl) (Nat.le_of_ble_eq_true rfl) (Nat.le_of_ble_eq_true rfl) (Nat.le_of_ble_eq_true rfl) ?_
  rw [hS_5] at hs
  subst hs
  refine xs_aload_n C0 d_Rb_settle_59 rfl 1 rfl ?_
  refine xs_dup C0 d_Rb_settle_60 rfl ?_
  refine xs_get (q := 0) (v := .int tt) C0 f_Rb_42 d_Rb_settle_61 rfl rfl ?_
  refine xs_iload_n C0 d_Rb_settle_64 rfl 0 rfl ?_
  refine xs_iadd C0 d_Rb_settle_65 ?_
  refine xs_put (ω' := (wd (f0, g0, nI n0) (f1, g1, nI n1) (f2, g2, nI n2) (f3, g3, nI n3) (f4, g4, nI n4) pl dr ki ow S_5 T1 F1 H (tt + r) ++ rest)) C0 f_Rb_42 ty_Rb_5 d_Rb_settle_66 rfl (Nat.le_of_ble_eq_true rfl) (fun _ => ⟨rfl, rfl⟩) rfl ?_
  refine xs_pc (pc' := 69) rfl ?_
  refine xs_iload_n C0 d_Rb_settle_69 rfl 0 rfl ?_
  exact xs_iret C0 d_Rb_settle_70 (⟨rfl, rfl⟩) (Nat.le_of_ble_eq_true rfl) (Nat.le_of_ble_eq_true rfl)
set_option maxHeartbeats 4000000 in
set_option maxRecDepth 100000 in
theorem m_settleU {B : wb} {S T : wt_S} {F : wt_F} {H : wt_H} {tt : Int32} {rest : xm_O} {m : Nat} {r : Int32} {T1 : wt_S} {F1 : wt_F} (hB : okB B) (hm : m ≤ 500) (hz : s01 S) (h : gw (nI m) 0 500) (hr : g_run B 0 (m + 1) 0 (f_bec S T) F = (r, T1, F1)) (hn1 : r = -1) : xm_M y_Rb_settle (Cond.code y_Rb_settle b_Rb_settle 3 (some .int)) (xm_rm 7 1 6) [.ref 0, .int (nI m)] (wB B S T F H tt ++ rest) (xm_eq (.inr "java/lang/UnsupportedOperationException") (wB B S T1 F1 H tt ++ rest)) := by
  obtain ⟨⟨f0, g0, n0⟩, ⟨f1, g1, n1⟩, ⟨f2, g2, n2⟩, ⟨f3, g3, n3⟩, ⟨f4, g4, n4⟩, pl, dr, ki, ow⟩ := B
  obtain ⟨⟨h0, hp0⟩, ⟨h1, hp1⟩, ⟨h2, hp2⟩, ⟨h3, hp3⟩, ⟨h4, hp4⟩, hk⟩ := id hB
  dsimp only at h0 h1 h2 h3 h4 hp0 hp1 hp2 hp3 hp4 hk
  refine xm_of (by decide) (Nat.le_of_ble_eq_true rfl) (fun E C0 => ?_)
  refine xs_eq (ω' := (wd (f0, g0, nI n0) (f1, g1, nI n1) (f2, g2, nI n2) (f3, g3, nI n3) (f4, g4, nI n4) pl dr ki ow S T F H tt ++ rest)) (lv' := [(0, .ref 0), (1, .int (nI m))]) rfl rfl rfl ?_
  refine xs_iload_n C0 d_Rb_settle_0 rfl 1 rfl ?_
  refine xs_iconst (v := 0) C0 d_Rb_settle_1 (by decide) ?_
  refine xs_sipush (v := 500) C0 d_Rb_settle_2 (by decide) ?_
  refine xs_cS0 (ω' := (wd (f0, g0, nI n0) (f1, g1, nI n1) (f2, g2, nI n2) (f3, g3, nI n3) (f4, g4, nI n4) pl dr ki ow S T F H tt ++ rest)) (av := [.int (nI m), .int 0, .int 500]) (st := []) (kc' := 0) (ks' := 0) C0 d_Rb_settle_5 l_Rb_70 (c_nw _ (nI m) 0 500 h) rfl rfl rfl (Nat.le_of_ble_eq_true rfl) (Nat.le_of_ble_eq_true rfl) (Nat.le_of_ble_eq_true rfl) (Nat.le_of_ble_eq_true rfl) (Nat.le_of_ble_eq_true rfl) (Nat.le_of_ble_eq_true rfl) ?_
  refine xs_aload_n C0 d_Rb_settle_8 rfl 0 rfl ?_
  refine xs_get (q := 0) (v := .ref 25) C0 f_Rb_23 d_Rb_settle_9 rfl rfl ?_
  refine xs_aload_n C0 d_Rb_settle_12 rfl 0 rfl ?_
  refine xs_get (q := 0) (v := .ref 21) C0 f_Rb_19 d_Rb_settle_13 rfl rfl ?_
  obtain ⟨T_1, hT_1⟩ : ∃ X, f_bec S T = X := ⟨_, rfl⟩
  refine xs_cV0 (ω' := (wd (f0, g0, nI n0) (f1, g1, nI n1) (f2, g2, nI n2) (f3, g3, nI n3) (f4, g4, nI n4) pl dr ki ow S T_1 F H tt ++ rest)) (As := [.ref 21]) (st := []) (kc' := 0) (ks' := 0) C0 d_Rb_settle_16 l_Rb_114 rfl rfl (c_bect hz hT_1) rfl rfl rfl (Nat.le_of_ble_eq_true rfl) (Nat.le_of_ble_eq_true rfl) (Nat.le_of_ble_eq_true rfl) (Nat.le_of_ble_eq_true rfl) (Nat.le_of_ble_eq_true rfl) (Nat.le_of_ble_eq_true rfl) ?_
  refine xs_aload_n C0 d_Rb_settle_19 rfl 0 rfl ?_
  refine xs_get (q := 0) (v := .ref 29) C0 f_Rb_31 d_Rb_settle_20 rfl rfl ?_
  refine xs_aload_n C0 d_Rb_settle_23 rfl 0 rfl ?_
  refine xs_pc (pc' := 24) rfl ?_
  refine xs_get (q := 0) (v := .ref 25) C0 f_Rb_23 d_Rb_settle_24 rfl rfl ?_
  refine xs_iconst (v := 0) C0 d_Rb_settle_27 (by decide) ?_
  refine xs_iload_n C0 d_Rb_settle_28 rfl 1 rfl ?_
  obtain ⟨r_2, T_3, F_4, hr_2⟩ : ∃ X Y Z, g_run ((f0, g0, n0), (f1, g1, n1), (f2, g2, n2), (f3, g3, n3), (f4, g4, n4), pl, dr, ki, ow) 0 (m + 1) 0 T_1 F = (X, Y, Z) := ⟨_, _, _, rfl⟩
  refine xs_cV1 (ω' := (wd (f0, g0, nI n0) (f1, g1, nI n1) (f2, g2, nI n2) (f3, g3, nI n3) (f4, g4, nI n4) pl dr ki ow S T_3 F_4 H tt ++ rest)) (As := [.ref 25, .int 0, .int (nI m)]) (st := []) (kc' := 0) (ks' := 0) (v := .int r_2) C0 d_Rb_settle_29 l_Rb_118 rfl rfl (c_run (B := ((f0, g0, n0), (f1, g1, n1), (f2, g2, n2), (f3, g3, n3), (f4, g4, n4), pl, dr, ki, ow)) hB (by omega) hr_2) rfl rfl rfl (Nat.le_of_ble_eq_true rfl) (Nat.le_of_ble_eq_true rfl) (Nat.le_of_ble_eq_true rfl) (Nat.le_of_ble_eq_true rfl) (Nat.le_of_ble_eq_true rfl) (Nat.le_of_ble_eq_true rfl) ?_
  refine xs_istore_n (lv' := [(2, .int r_2), (0, .ref 0), (1, .int (nI m))]) C0 d_Rb_settle_32 rfl (by decide) rfl ?_
  refine xs_iload_n C0 d_Rb_settle_33 rfl 0 rfl ?_
  refine xs_iconst (v := (-1)) C0 d_Rb_settle_34 (by decide) ?_
  refine xs_icmp_ne (tgt := 48) C0 d_Rb_settle_35 (by decide) (fun c9 => absurd (by rw [hT_1] at hr; rw [hr_2] at hr; cases hr; exact hn1) c9) (fun _ => ?_)
  rw [hT_1] at hr
  rw [hr_2] at hr
  cases hr
  exact xs_throw (cls := "java/lang/UnsupportedOperationException") (names := xm_up) C0 k_545 k_546 k_17 k_554 ta_UOE (by decide +kernel) (by decide +kernel) d_Rb_settle_38 d_Rb_settle_41 d_Rb_settle_42 d_Rb_settle_44 d_Rb_settle_47 (Nat.le_of_ble_eq_true rfl) (Nat.le_of_ble_eq_true rfl) (Nat.le_of_ble_eq_true rfl) (Nat.le_of_ble_eq_true rfl) ⟨rfl, rfl⟩
set_option maxHeartbeats 4000000 in
set_option maxRecDepth 100000 in
theorem m_settleT {B : wb} {S T : wt_S} {F : wt_F} {H : wt_H} {tt : Int32} {rest : xm_O} {y : Int32} (hB : okB B) (h : ¬ gw y 0 500) : xm_M y_Rb_settle (Cond.code y_Rb_settle b_Rb_settle 3 (some .int)) (xm_rm 7 1 6) [.ref 0, .int y] (wB B S T F H tt ++ rest) (xm_eq (.inr "java/lang/IllegalArgumentException") (wB B S T F H tt ++ rest)) := by
  obtain ⟨⟨f0, g0, n0⟩, ⟨f1, g1, n1⟩, ⟨f2, g2, n2⟩, ⟨f3, g3, n3⟩, ⟨f4, g4, n4⟩, pl, dr, ki, ow⟩ := B
  obtain ⟨⟨h0, hp0⟩, ⟨h1, hp1⟩, ⟨h2, hp2⟩, ⟨h3, hp3⟩, ⟨h4, hp4⟩, hk⟩ := id hB
  dsimp only at h0 h1 h2 h3 h4 hp0 hp1 hp2 hp3 hp4 hk
  refine xm_of (by decide) (Nat.le_of_ble_eq_true rfl) (fun E C0 => ?_)
  refine xs_eq (ω' := (wd (f0, g0, nI n0) (f1, g1, nI n1) (f2, g2, nI n2) (f3, g3, nI n3) (f4, g4, nI n4) pl dr ki ow S T F H tt ++ rest)) (lv' := [(0, .ref 0), (1, .int y)]) rfl rfl rfl ?_
  refine xs_iload_n C0 d_Rb_settle_0 rfl 1 rfl ?_
  refine xs_iconst (v := 0) C0 d_Rb_settle_1 (by decide) ?_
  refine xs_sipush (v := 500) C0 d_Rb_settle_2 (by decide) ?_
  exact xs_cST (av := [.int y, .int 0, .int 500]) (st := []) C0 d_Rb_settle_5 l_Rb_70 (c_nwT _ y 0 500 h) rfl rfl rfl (Nat.le_of_ble_eq_true rfl) (Nat.le_of_ble_eq_true rfl) (Nat.le_of_ble_eq_true rfl) (Nat.le_of_ble_eq_true rfl) (xt_leave C0 ⟨rfl, rfl⟩ (Nat.le_of_ble_eq_true rfl) (Nat.le_of_ble_eq_true rfl))
