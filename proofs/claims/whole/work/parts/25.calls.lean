set_option maxHeartbeats 4000000 in
set_option maxRecDepth 100000 in
theorem m_ups {B : wb} {S T : wt_S} {F : wt_F} {H : wt_H} {tt : Int32} {rest : xm_O} (hB : okB B) : xm_M y_Rb_ups (Cond.code y_Rb_ups b_Rb_ups 1 (some .int)) (xm_rm 0 0 0) [.ref 0] (wB B S T F H tt ++ rest) (xm_eq (.inl (some (.int S.2.2.2.1))) (wB B S T F H tt ++ rest)) := by
  obtain ⟨⟨f0, g0, n0⟩, ⟨f1, g1, n1⟩, ⟨f2, g2, n2⟩, ⟨f3, g3, n3⟩, ⟨f4, g4, n4⟩, pl, dr, ki, ow⟩ := B
  obtain ⟨⟨h0, hp0⟩, ⟨h1, hp1⟩, ⟨h2, hp2⟩, ⟨h3, hp3⟩, ⟨h4, hp4⟩, hk⟩ := id hB
  dsimp only at h0 h1 h2 h3 h4 hp0 hp1 hp2 hp3 hp4 hk
  refine xm_of (by decide) (Nat.le_of_ble_eq_true rfl) (fun E C0 => ?_)
  refine xs_eq (ω' := (wd (f0, g0, nI n0) (f1, g1, nI n1) (f2, g2, nI n2) (f3, g3, nI n3) (f4, g4, nI n4) pl dr ki ow S T F H tt ++ rest)) (lv' := [(0, .ref 0)]) rfl rfl rfl ?_
  refine xs_aload_n C0 d_Rb_ups_0 rfl 0 rfl ?_
  refine xs_get (q := 0) (v := .ref 21) C0 f_Rb_19 d_Rb_ups_1 rfl rfl ?_
  obtain ⟨ss_1, sc_1, sw_1, su_1, sd_1, sk_1, sb_1⟩ := S
  refine xs_get (q := 21) (v := .int su_1) C0 f_Rb_167 d_Rb_ups_4 rfl rfl ?_
  exact xs_iret C0 d_Rb_ups_7 (⟨rfl, rfl⟩) (Nat.le_of_ble_eq_true rfl) (Nat.le_of_ble_eq_true rfl)
set_option maxHeartbeats 4000000 in
set_option maxRecDepth 100000 in
theorem m_blown {B : wb} {S T : wt_S} {F : wt_F} {H : wt_H} {tt : Int32} {rest : xm_O} (hB : okB B) (hz : s01 S) : xm_M y_Rb_blown (Cond.code y_Rb_blown b_Rb_blown 1 (some .boolean)) (xm_rm 0 0 0) [.ref 0] (wB B S T F H tt ++ rest) (xm_eq (.inl (some (.int S.2.2.2.2.2.2))) (wB B S T F H tt ++ rest)) := by
  obtain ⟨⟨f0, g0, n0⟩, ⟨f1, g1, n1⟩, ⟨f2, g2, n2⟩, ⟨f3, g3, n3⟩, ⟨f4, g4, n4⟩, pl, dr, ki, ow⟩ := B
  obtain ⟨⟨h0, hp0⟩, ⟨h1, hp1⟩, ⟨h2, hp2⟩, ⟨h3, hp3⟩, ⟨h4, hp4⟩, hk⟩ := id hB
  dsimp only at h0 h1 h2 h3 h4 hp0 hp1 hp2 hp3 hp4 hk
  refine xm_of (by decide) (Nat.le_of_ble_eq_true rfl) (fun E C0 => ?_)
  refine xs_eq (ω' := (wd (f0, g0, nI n0) (f1, g1, nI n1) (f2, g2, nI n2) (f3, g3, nI n3) (f4, g4, nI n4) pl dr ki ow S T F H tt ++ rest)) (lv' := [(0, .ref 0)]) rfl rfl rfl ?_
  refine xs_aload_n C0 d_Rb_blown_0 rfl 0 rfl ?_
  refine xs_get (q := 0) (v := .ref 21) C0 f_Rb_19 d_Rb_blown_1 rfl rfl ?_
  obtain ⟨ss_1, sc_1, sw_1, su_1, sd_1, sk_1, sb_1⟩ := S
  refine xs_get (q := 21) (v := .int sb_1) C0 f_Rb_189 d_Rb_blown_4 rfl rfl ?_
  exact xs_zret C0 d_Rb_blown_7 hz (⟨rfl, rfl⟩) (Nat.le_of_ble_eq_true rfl) (Nat.le_of_ble_eq_true rfl)
set_option maxHeartbeats 4000000 in
set_option maxRecDepth 100000 in
theorem m_lit {B : wb} {S T : wt_S} {F : wt_F} {H : wt_H} {tt : Int32} {rest : xm_O} {b : Int32} {F1 : wt_F} (hB : okB B) (hf : g_cur B B.2.2.2.2.1 S F = (b, F1)) : xm_M y_Rb_lit (Cond.code y_Rb_lit b_Rb_lit 1 (some .int)) (xm_rm 5 0 0) [.ref 0] (wB B S T F H tt ++ rest) (xm_eq (.inl (some (.int b))) (wB B S T F1 H tt ++ rest)) := by
  obtain ⟨⟨f0, g0, n0⟩, ⟨f1, g1, n1⟩, ⟨f2, g2, n2⟩, ⟨f3, g3, n3⟩, ⟨f4, g4, n4⟩, pl, dr, ki, ow⟩ := B
  obtain ⟨⟨h0, hp0⟩, ⟨h1, hp1⟩, ⟨h2, hp2⟩, ⟨h3, hp3⟩, ⟨h4, hp4⟩, hk⟩ := id hB
  dsimp only at h0 h1 h2 h3 h4 hp0 hp1 hp2 hp3 hp4 hk
  refine xm_of (by decide) (Nat.le_of_ble_eq_true rfl) (fun E C0 => ?_)
  refine xs_eq (ω' := (wd (f0, g0, nI n0) (f1, g1, nI n1) (f2, g2, nI n2) (f3, g3, nI n3) (f4, g4, nI n4) pl dr ki ow S T F H tt ++ rest)) (lv' := [(0, .ref 0)]) rfl rfl rfl ?_
  refine xs_aload_n C0 d_Rb_lit_0 rfl 0 rfl ?_
  refine xs_get (q := 0) (v := .ref 29) C0 f_Rb_31 d_Rb_lit_1 rfl rfl ?_
  refine xs_aload_n C0 d_Rb_lit_4 rfl 0 rfl ?_
  refine xs_get (q := 0) (v := .ref 21) C0 f_Rb_19 d_Rb_lit_5 rfl rfl ?_
  refine xs_aload_n C0 d_Rb_lit_8 rfl 0 rfl ?_
  refine xs_get (q := 0) (v := .ref 1) C0 f_Rb_10 d_Rb_lit_9 rfl rfl ?_
  refine xs_get (q := 1) (v := .ref 14) C0 f_Rb_94 d_Rb_lit_12 rfl rfl ?_
  obtain ⟨b_1, F_2, hb_1⟩ : ∃ X Y, g_cur ((f0, g0, n0), (f1, g1, n1), (f2, g2, n2), (f3, g3, n3), (f4, g4, n4), pl, dr, ki, ow) (f4, g4, n4) S F = (X, Y) := ⟨_, _, rfl⟩
  refine xs_cV1 (ω' := (wd (f0, g0, nI n0) (f1, g1, nI n1) (f2, g2, nI n2) (f3, g3, nI n3) (f4, g4, nI n4) pl dr ki ow S T F_2 H tt ++ rest)) (As := [.ref 21, .ref 14]) (st := []) (kc' := 0) (ks' := 0) (v := .int b_1) C0 d_Rb_lit_15 l_Rb_155 rfl rfl (c_curn4 (B := ((f0, g0, n0), (f1, g1, n1), (f2, g2, n2), (f3, g3, n3), (f4, g4, n4), pl, dr, ki, ow)) hB hb_1) rfl rfl rfl (Nat.le_of_ble_eq_true rfl) (Nat.le_of_ble_eq_true rfl) (Nat.le_of_ble_eq_true rfl) (Nat.le_of_ble_eq_true rfl) (Nat.le_of_ble_eq_true rfl) (Nat.le_of_ble_eq_true rfl) ?_
  rw [hb_1] at hf
  cases hf
  exact xs_iret C0 d_Rb_lit_18 (⟨rfl, rfl⟩) (Nat.le_of_ble_eq_true rfl) (Nat.le_of_ble_eq_true rfl)
def g_fuse (B : wb) (S : wt_S) (F : wt_F) : wt_S × wt_F := if S.2.2.2.2.2.2 = 0 then (S, F) else (g_laf B (s_bl S 0) F).2
set_option maxHeartbeats 4000000 in
set_option maxRecDepth 100000 in
theorem m_fuse {B : wb} {S T : wt_S} {F : wt_F} {H : wt_H} {tt : Int32} {rest : xm_O} {S1 : wt_S} {F1 : wt_F} (hB : okB B) (hf : g_fuse B S F = (S1, F1)) : xm_M y_Rb_fuse (Cond.code y_Rb_fuse b_Rb_fuse 1 (some .boolean)) (xm_rm 5 0 0) [.ref 0] (wB B S T F H tt ++ rest) (xm_eq (.inl (some (.int (if S1.2.2.2.2.2.2 = 0 then 1 else 0)))) (wB B S1 T F1 H tt ++ rest)) := by
  obtain ⟨⟨f0, g0, n0⟩, ⟨f1, g1, n1⟩, ⟨f2, g2, n2⟩, ⟨f3, g3, n3⟩, ⟨f4, g4, n4⟩, pl, dr, ki, ow⟩ := B
  obtain ⟨⟨h0, hp0⟩, ⟨h1, hp1⟩, ⟨h2, hp2⟩, ⟨h3, hp3⟩, ⟨h4, hp4⟩, hk⟩ := id hB
  dsimp only at h0 h1 h2 h3 h4 hp0 hp1 hp2 hp3 hp4 hk
  refine xm_of (by decide) (Nat.le_of_ble_eq_true rfl) (fun E C0 => ?_)
  refine xs_eq (ω' := (wd (f0, g0, nI n0) (f1, g1, nI n1) (f2, g2, nI n2) (f3, g3, nI n3) (f4, g4, nI n4) pl dr ki ow S T F H tt ++ rest)) (lv' := [(0, .ref 0)]) rfl rfl rfl ?_
  refine xs_aload_n C0 d_Rb_fuse_0 rfl 0 rfl ?_
  refine xs_get (q := 0) (v := .ref 21) C0 f_Rb_19 d_Rb_fuse_1 rfl rfl ?_
  obtain ⟨ss_1, sc_1, sw_1, su_1, sd_1, sk_1, sb_1⟩ := S
  refine xs_get (q := 21) (v := .int sb_1) C0 f_Rb_189 d_Rb_fuse_4 rfl rfl ?_
  refine xs_if_eq (tgt := 30) C0 d_Rb_fuse_7 (by decide) (fun c1 => ?_) (fun c1 => ?_)
  · refine xs_aload_n C0 d_Rb_fuse_30 rfl 0 rfl ?_
    refine xs_get (q := 0) (v := .ref 21) C0 f_Rb_19 d_Rb_fuse_31 rfl rfl ?_
    refine xs_get (q := 21) (v := .int sb_1) C0 f_Rb_189 d_Rb_fuse_34 rfl rfl ?_
    refine xs_bz_ne (u := 1) (v := 0) (tgt := 44) (J := 45) C0 d_Rb_fuse_37 (by decide) d_Rb_fuse_40 (by decide) d_Rb_fuse_41 (by decide) d_Rb_fuse_44 (by decide) rfl ?_
    rw [g_fuse, if_pos c1] at hf
    cases hf
    exact xs_zret C0 d_Rb_fuse_45 xm_b01 (⟨rfl, rfl⟩) (Nat.le_of_ble_eq_true rfl) (Nat.le_of_ble_eq_true rfl)
  · refine xs_aload_n C0 d_Rb_fuse_10 rfl 0 rfl ?_
    refine xs_get (q := 0) (v := .ref 21) C0 f_Rb_19 d_Rb_fuse_11 rfl rfl ?_
    refine xs_iconst (v := 0) C0 d_Rb_fuse_14 (by decide) ?_
    refine xs_put (ω' := (wd (f0, g0, nI n0) (f1, g1, nI n1) (f2, g2, nI n2) (f3, g3, nI n3) (f4, g4, nI n4) pl dr ki ow (ss_1, sc_1, sw_1, su_1, sd_1, sk_1, 0) T F H tt ++ rest)) C0 f_Rb_189 ty_Sd_6 d_Rb_fuse_15 rfl (Nat.le_of_ble_eq_true rfl) (xm_zfit (Or.inl rfl)) rfl ?_
    refine xs_aload_n C0 d_Rb_fuse_18 rfl 0 rfl ?_
    refine xs_get (q := 0) (v := .ref 29) C0 f_Rb_31 d_Rb_fuse_19 rfl rfl ?_
    refine xs_aload_n C0 d_Rb_fuse_22 rfl 0 rfl ?_
    refine xs_get (q := 0) (v := .ref 21) C0 f_Rb_19 d_Rb_fuse_23 rfl rfl ?_
    obtain ⟨b_2, S_3, F_4, hb_2⟩ : ∃ X Y Z, g_laf ((f0, g0, n0), (f1, g1, n1), (f2, g2, n2), (f3, g3, n3), (f4, g4, n4), pl, dr, ki, ow) (ss_1, sc_1, sw_1, su_1, sd_1, sk_1, 0) F = (X, Y, Z) := ⟨_, _, _, rfl⟩
    refine xs_cV1 (ω' := (wd (f0, g0, nI n0) (f1, g1, nI n1) (f2, g2, nI n2) (f3, g3, nI n3) (f4, g4, nI n4) pl dr ki ow S_3 T F_4 H tt ++ rest)) (As := [.ref 21]) (st := []) (kc' := 0) (ks' := 0) (v := .int b_2) C0 d_Rb_fuse_26 l_Rb_66 rfl rfl (c_lafn (B := ((f0, g0, n0), (f1, g1, n1), (f2, g2, n2), (f3, g3, n3), (f4, g4, n4), pl, dr, ki, ow)) hB hb_2) rfl rfl rfl (Nat.le_of_ble_eq_true rfl) (Nat.le_of_ble_eq_true rfl) (Nat.le_of_ble_eq_true rfl) (Nat.le_of_ble_eq_true rfl) (Nat.le_of_ble_eq_true rfl) (Nat.le_of_ble_eq_true rfl) ?_
    refine xs_pop C0 d_Rb_fuse_29 rfl ?_
    refine xs_aload_n C0 d_Rb_fuse_30 rfl 0 rfl ?_
    refine xs_get (q := 0) (v := .ref 21) C0 f_Rb_19 d_Rb_fuse_31 rfl rfl ?_
    refine xs_pc (pc' := 34) rfl ?_
    obtain ⟨ss_5, sc_5, sw_5, su_5, sd_5, sk_5, sb_5⟩ := S_3
    refine xs_get (q := 21) (v := .int sb_5) C0 f_Rb_189 d_Rb_fuse_34 rfl rfl ?_
    refine xs_bz_ne (u := 1) (v := 0) (tgt := 44) (J := 45) C0 d_Rb_fuse_37 (by decide) d_Rb_fuse_40 (by decide) d_Rb_fuse_41 (by decide) d_Rb_fuse_44 (by decide) rfl ?_
    rw [g_fuse, if_neg c1] at hf
    have hl : g_laf ((f0, g0, n0), (f1, g1, n1), (f2, g2, n2), (f3, g3, n3), (f4, g4, n4), pl, dr, ki, ow) (ss_1, sc_1, sw_1, su_1, sd_1, sk_1, 0) F = _ := hb_2
    rw [s_bl] at hf
    dsimp only at hf
    rw [hl] at hf
    cases hf
    exact xs_zret C0 d_Rb_fuse_45 xm_b01 (⟨rfl, rfl⟩) (Nat.le_of_ble_eq_true rfl) (Nat.le_of_ble_eq_true rfl)
set_option maxHeartbeats 4000000 in
set_option maxRecDepth 100000 in
theorem m_cnt0 {B : wb} {S T : wt_S} {F : wt_F} {H : wt_H} {tt : Int32} {rest : xm_O} (hB : okB B) : xm_M y_Rb_count (Cond.code y_Rb_count b_Rb_count 2 (some .int)) (xm_rm 0 0 0) [.ref 0, .int 0] (wB B S T F H tt ++ rest) (xm_eq (.inl (some (.int (nI B.1.2.2)))) (wB B S T F H tt ++ rest)) := by
  obtain ⟨⟨f0, g0, n0⟩, ⟨f1, g1, n1⟩, ⟨f2, g2, n2⟩, ⟨f3, g3, n3⟩, ⟨f4, g4, n4⟩, pl, dr, ki, ow⟩ := B
  obtain ⟨⟨h0, hp0⟩, ⟨h1, hp1⟩, ⟨h2, hp2⟩, ⟨h3, hp3⟩, ⟨h4, hp4⟩, hk⟩ := id hB
  dsimp only at h0 h1 h2 h3 h4 hp0 hp1 hp2 hp3 hp4 hk
  refine xm_of (by decide) (Nat.le_of_ble_eq_true rfl) (fun E C0 => ?_)
  refine xs_eq (ω' := (wd (f0, g0, nI n0) (f1, g1, nI n1) (f2, g2, nI n2) (f3, g3, nI n3) (f4, g4, nI n4) pl dr ki ow S T F H tt ++ rest)) (lv' := [(0, .ref 0), (1, .int 0)]) rfl rfl rfl ?_
  refine xs_eq (lv' := [(0, .ref 0), (1, .int 0)]) rfl rfl rfl ?_
  refine xs_iload_n C0 d_Rb_count_0 rfl 1 rfl ?_
  refine xs_tableIn (off := 43) (tgt := 44) C0 d_Rb_count_1 (by decide) (by decide) (by decide) (by decide) ?_
  refine xs_aload_n C0 d_Rb_count_44 rfl 0 rfl ?_
  refine xs_get (q := 0) (v := .ref 1) C0 f_Rb_10 d_Rb_count_45 rfl rfl ?_
  refine xs_get (q := 1) (v := .ref 2) C0 f_Rb_54 d_Rb_count_48 rfl rfl ?_
  refine xs_get (q := 2) (v := .int (nI n0)) C0 f_Rb_101 d_Rb_count_51 rfl rfl ?_
  exact xs_iret C0 d_Rb_count_54 (⟨rfl, rfl⟩) (Nat.le_of_ble_eq_true rfl) (Nat.le_of_ble_eq_true rfl)
set_option maxHeartbeats 4000000 in
set_option maxRecDepth 100000 in
theorem m_cnt1 {B : wb} {S T : wt_S} {F : wt_F} {H : wt_H} {tt : Int32} {rest : xm_O} (hB : okB B) : xm_M y_Rb_count (Cond.code y_Rb_count b_Rb_count 2 (some .int)) (xm_rm 0 0 0) [.ref 0, .int 1] (wB B S T F H tt ++ rest) (xm_eq (.inl (some (.int (nI B.2.1.2.2)))) (wB B S T F H tt ++ rest)) := by
  obtain ⟨⟨f0, g0, n0⟩, ⟨f1, g1, n1⟩, ⟨f2, g2, n2⟩, ⟨f3, g3, n3⟩, ⟨f4, g4, n4⟩, pl, dr, ki, ow⟩ := B
  obtain ⟨⟨h0, hp0⟩, ⟨h1, hp1⟩, ⟨h2, hp2⟩, ⟨h3, hp3⟩, ⟨h4, hp4⟩, hk⟩ := id hB
  dsimp only at h0 h1 h2 h3 h4 hp0 hp1 hp2 hp3 hp4 hk
  refine xm_of (by decide) (Nat.le_of_ble_eq_true rfl) (fun E C0 => ?_)
  refine xs_eq (ω' := (wd (f0, g0, nI n0) (f1, g1, nI n1) (f2, g2, nI n2) (f3, g3, nI n3) (f4, g4, nI n4) pl dr ki ow S T F H tt ++ rest)) (lv' := [(0, .ref 0), (1, .int 1)]) rfl rfl rfl ?_
  refine xs_eq (lv' := [(0, .ref 0), (1, .int 1)]) rfl rfl rfl ?_
  refine xs_iload_n C0 d_Rb_count_0 rfl 1 rfl ?_
  refine xs_tableIn (off := 54) (tgt := 55) C0 d_Rb_count_1 (by decide) (by decide) (by decide) (by decide) ?_
  refine xs_aload_n C0 d_Rb_count_55 rfl 0 rfl ?_
  refine xs_get (q := 0) (v := .ref 1) C0 f_Rb_10 d_Rb_count_56 rfl rfl ?_
  refine xs_get (q := 1) (v := .ref 5) C0 f_Rb_78 d_Rb_count_59 rfl rfl ?_
  refine xs_get (q := 5) (v := .int (nI n1)) C0 f_Rb_101 d_Rb_count_62 rfl rfl ?_
  exact xs_iret C0 d_Rb_count_65 (⟨rfl, rfl⟩) (Nat.le_of_ble_eq_true rfl) (Nat.le_of_ble_eq_true rfl)
set_option maxHeartbeats 4000000 in
set_option maxRecDepth 100000 in
theorem m_cnt2 {B : wb} {S T : wt_S} {F : wt_F} {H : wt_H} {tt : Int32} {rest : xm_O} (hB : okB B) : xm_M y_Rb_count (Cond.code y_Rb_count b_Rb_count 2 (some .int)) (xm_rm 0 0 0) [.ref 0, .int 2] (wB B S T F H tt ++ rest) (xm_eq (.inl (some (.int (nI B.2.2.1.2.2)))) (wB B S T F H tt ++ rest)) := by
  obtain ⟨⟨f0, g0, n0⟩, ⟨f1, g1, n1⟩, ⟨f2, g2, n2⟩, ⟨f3, g3, n3⟩, ⟨f4, g4, n4⟩, pl, dr, ki, ow⟩ := B
  obtain ⟨⟨h0, hp0⟩, ⟨h1, hp1⟩, ⟨h2, hp2⟩, ⟨h3, hp3⟩, ⟨h4, hp4⟩, hk⟩ := id hB
  dsimp only at h0 h1 h2 h3 h4 hp0 hp1 hp2 hp3 hp4 hk
  refine xm_of (by decide) (Nat.le_of_ble_eq_true rfl) (fun E C0 => ?_)
  refine xs_eq (ω' := (wd (f0, g0, nI n0) (f1, g1, nI n1) (f2, g2, nI n2) (f3, g3, nI n3) (f4, g4, nI n4) pl dr ki ow S T F H tt ++ rest)) (lv' := [(0, .ref 0), (1, .int 2)]) rfl rfl rfl ?_
  refine xs_eq (lv' := [(0, .ref 0), (1, .int 2)]) rfl rfl rfl ?_
  refine xs_iload_n C0 d_Rb_count_0 rfl 1 rfl ?_
  refine xs_tableIn (off := 65) (tgt := 66) C0 d_Rb_count_1 (by decide) (by decide) (by decide) (by decide) ?_
  refine xs_aload_n C0 d_Rb_count_66 rfl 0 rfl ?_
  refine xs_get (q := 0) (v := .ref 1) C0 f_Rb_10 d_Rb_count_67 rfl rfl ?_
  refine xs_get (q := 1) (v := .ref 8) C0 f_Rb_84 d_Rb_count_70 rfl rfl ?_
  refine xs_get (q := 8) (v := .int (nI n2)) C0 f_Rb_101 d_Rb_count_73 rfl rfl ?_
  exact xs_iret C0 d_Rb_count_76 (⟨rfl, rfl⟩) (Nat.le_of_ble_eq_true rfl) (Nat.le_of_ble_eq_true rfl)
set_option maxHeartbeats 4000000 in
set_option maxRecDepth 100000 in
theorem m_cnt3 {B : wb} {S T : wt_S} {F : wt_F} {H : wt_H} {tt : Int32} {rest : xm_O} (hB : okB B) : xm_M y_Rb_count (Cond.code y_Rb_count b_Rb_count 2 (some .int)) (xm_rm 0 0 0) [.ref 0, .int 3] (wB B S T F H tt ++ rest) (xm_eq (.inl (some (.int (nI B.2.2.2.1.2.2)))) (wB B S T F H tt ++ rest)) := by
  obtain ⟨⟨f0, g0, n0⟩, ⟨f1, g1, n1⟩, ⟨f2, g2, n2⟩, ⟨f3, g3, n3⟩, ⟨f4, g4, n4⟩, pl, dr, ki, ow⟩ := B
  obtain ⟨⟨h0, hp0⟩, ⟨h1, hp1⟩, ⟨h2, hp2⟩, ⟨h3, hp3⟩, ⟨h4, hp4⟩, hk⟩ := id hB
  dsimp only at h0 h1 h2 h3 h4 hp0 hp1 hp2 hp3 hp4 hk
  refine xm_of (by decide) (Nat.le_of_ble_eq_true rfl) (fun E C0 => ?_)
  refine xs_eq (ω' := (wd (f0, g0, nI n0) (f1, g1, nI n1) (f2, g2, nI n2) (f3, g3, nI n3) (f4, g4, nI n4) pl dr ki ow S T F H tt ++ rest)) (lv' := [(0, .ref 0), (1, .int 3)]) rfl rfl rfl ?_
  refine xs_eq (lv' := [(0, .ref 0), (1, .int 3)]) rfl rfl rfl ?_
  refine xs_iload_n C0 d_Rb_count_0 rfl 1 rfl ?_
  refine xs_tableIn (off := 76) (tgt := 77) C0 d_Rb_count_1 (by decide) (by decide) (by decide) (by decide) ?_
  refine xs_aload_n C0 d_Rb_count_77 rfl 0 rfl ?_
  refine xs_get (q := 0) (v := .ref 1) C0 f_Rb_10 d_Rb_count_78 rfl rfl ?_
  refine xs_get (q := 1) (v := .ref 11) C0 f_Rb_91 d_Rb_count_81 rfl rfl ?_
  refine xs_get (q := 11) (v := .int (nI n3)) C0 f_Rb_101 d_Rb_count_84 rfl rfl ?_
  exact xs_iret C0 d_Rb_count_87 (⟨rfl, rfl⟩) (Nat.le_of_ble_eq_true rfl) (Nat.le_of_ble_eq_true rfl)
set_option maxHeartbeats 4000000 in
set_option maxRecDepth 100000 in
theorem m_cnt4 {B : wb} {S T : wt_S} {F : wt_F} {H : wt_H} {tt : Int32} {rest : xm_O} (hB : okB B) : xm_M y_Rb_count (Cond.code y_Rb_count b_Rb_count 2 (some .int)) (xm_rm 0 0 0) [.ref 0, .int 4] (wB B S T F H tt ++ rest) (xm_eq (.inl (some (.int (nI B.2.2.2.2.1.2.2)))) (wB B S T F H tt ++ rest)) := by
  obtain ⟨⟨f0, g0, n0⟩, ⟨f1, g1, n1⟩, ⟨f2, g2, n2⟩, ⟨f3, g3, n3⟩, ⟨f4, g4, n4⟩, pl, dr, ki, ow⟩ := B
  obtain ⟨⟨h0, hp0⟩, ⟨h1, hp1⟩, ⟨h2, hp2⟩, ⟨h3, hp3⟩, ⟨h4, hp4⟩, hk⟩ := id hB
  dsimp only at h0 h1 h2 h3 h4 hp0 hp1 hp2 hp3 hp4 hk
  refine xm_of (by decide) (Nat.le_of_ble_eq_true rfl) (fun E C0 => ?_)
  refine xs_eq (ω' := (wd (f0, g0, nI n0) (f1, g1, nI n1) (f2, g2, nI n2) (f3, g3, nI n3) (f4, g4, nI n4) pl dr ki ow S T F H tt ++ rest)) (lv' := [(0, .ref 0), (1, .int 4)]) rfl rfl rfl ?_
  refine xs_eq (lv' := [(0, .ref 0), (1, .int 4)]) rfl rfl rfl ?_
  refine xs_iload_n C0 d_Rb_count_0 rfl 1 rfl ?_
  refine xs_tableIn (off := 87) (tgt := 88) C0 d_Rb_count_1 (by decide) (by decide) (by decide) (by decide) ?_
  refine xs_aload_n C0 d_Rb_count_88 rfl 0 rfl ?_
  refine xs_get (q := 0) (v := .ref 1) C0 f_Rb_10 d_Rb_count_89 rfl rfl ?_
  refine xs_get (q := 1) (v := .ref 14) C0 f_Rb_94 d_Rb_count_92 rfl rfl ?_
  refine xs_get (q := 14) (v := .int (nI n4)) C0 f_Rb_101 d_Rb_count_95 rfl rfl ?_
  exact xs_iret C0 d_Rb_count_98 (⟨rfl, rfl⟩) (Nat.le_of_ble_eq_true rfl) (Nat.le_of_ble_eq_true rfl)
set_option maxHeartbeats 4000000 in
set_option maxRecDepth 100000 in
theorem m_cnt6 {B : wb} {S T : wt_S} {F : wt_F} {H : wt_H} {tt : Int32} {rest : xm_O} (hB : okB B) : xm_M y_Rb_count (Cond.code y_Rb_count b_Rb_count 2 (some .int)) (xm_rm 0 0 0) [.ref 0, .int 6] (wB B S T F H tt ++ rest) (xm_eq (.inl (some (.int (tt)))) (wB B S T F H tt ++ rest)) := by
  obtain ⟨⟨f0, g0, n0⟩, ⟨f1, g1, n1⟩, ⟨f2, g2, n2⟩, ⟨f3, g3, n3⟩, ⟨f4, g4, n4⟩, pl, dr, ki, ow⟩ := B
  obtain ⟨⟨h0, hp0⟩, ⟨h1, hp1⟩, ⟨h2, hp2⟩, ⟨h3, hp3⟩, ⟨h4, hp4⟩, hk⟩ := id hB
  dsimp only at h0 h1 h2 h3 h4 hp0 hp1 hp2 hp3 hp4 hk
  refine xm_of (by decide) (Nat.le_of_ble_eq_true rfl) (fun E C0 => ?_)
  refine xs_eq (ω' := (wd (f0, g0, nI n0) (f1, g1, nI n1) (f2, g2, nI n2) (f3, g3, nI n3) (f4, g4, nI n4) pl dr ki ow S T F H tt ++ rest)) (lv' := [(0, .ref 0), (1, .int 6)]) rfl rfl rfl ?_
  refine xs_eq (lv' := [(0, .ref 0), (1, .int 6)]) rfl rfl rfl ?_
  refine xs_iload_n C0 d_Rb_count_0 rfl 1 rfl ?_
  refine xs_tableIn (off := 113) (tgt := 114) C0 d_Rb_count_1 (by decide) (by decide) (by decide) (by decide) ?_
  refine xs_aload_n C0 d_Rb_count_114 rfl 0 rfl ?_
  refine xs_get (q := 0) (v := .int tt) C0 f_Rb_42 d_Rb_count_115 rfl rfl ?_
  exact xs_iret C0 d_Rb_count_118 (⟨rfl, rfl⟩) (Nat.le_of_ble_eq_true rfl) (Nat.le_of_ble_eq_true rfl)
set_option maxHeartbeats 4000000 in
set_option maxRecDepth 100000 in
theorem m_cnt5 {B : wb} {S T : wt_S} {F : wt_F} {H : wt_H} {tt : Int32} {rest : xm_O} {F1 : wt_F} (hB : okB B) (hf : g_fol B S F = F1) : xm_M y_Rb_count (Cond.code y_Rb_count b_Rb_count 2 (some .int)) (xm_rm 5 0 0) [.ref 0, .int 5] (wB B S T F H tt ++ rest) (xm_eq (.inl (some (.int F1.2.2.2.2.1))) (wB B S T F1 H tt ++ rest)) := by
  obtain ⟨⟨f0, g0, n0⟩, ⟨f1, g1, n1⟩, ⟨f2, g2, n2⟩, ⟨f3, g3, n3⟩, ⟨f4, g4, n4⟩, pl, dr, ki, ow⟩ := B
  obtain ⟨⟨h0, hp0⟩, ⟨h1, hp1⟩, ⟨h2, hp2⟩, ⟨h3, hp3⟩, ⟨h4, hp4⟩, hk⟩ := id hB
  dsimp only at h0 h1 h2 h3 h4 hp0 hp1 hp2 hp3 hp4 hk
  refine xm_of (by decide) (Nat.le_of_ble_eq_true rfl) (fun E C0 => ?_)
  refine xs_eq (ω' := (wd (f0, g0, nI n0) (f1, g1, nI n1) (f2, g2, nI n2) (f3, g3, nI n3) (f4, g4, nI n4) pl dr ki ow S T F H tt ++ rest)) (lv' := [(0, .ref 0), (1, .int 5)]) rfl rfl rfl ?_
  refine xs_eq (lv' := [(0, .ref 0), (1, .int 5)]) rfl rfl rfl ?_
  refine xs_iload_n C0 d_Rb_count_0 rfl 1 rfl ?_
  refine xs_tableIn (off := 98) (tgt := 99) C0 d_Rb_count_1 (by decide) (by decide) (by decide) (by decide) ?_
  refine xs_aload_n C0 d_Rb_count_99 rfl 0 rfl ?_
  refine xs_get (q := 0) (v := .ref 29) C0 f_Rb_31 d_Rb_count_100 rfl rfl ?_
  refine xs_aload_n C0 d_Rb_count_103 rfl 0 rfl ?_
  refine xs_get (q := 0) (v := .ref 21) C0 f_Rb_19 d_Rb_count_104 rfl rfl ?_
  obtain ⟨F_1, hF_1⟩ : ∃ X, g_fol ((f0, g0, n0), (f1, g1, n1), (f2, g2, n2), (f3, g3, n3), (f4, g4, n4), pl, dr, ki, ow) S F = X := ⟨_, rfl⟩
  refine xs_cV1 (ω' := (wd (f0, g0, nI n0) (f1, g1, nI n1) (f2, g2, nI n2) (f3, g3, nI n3) (f4, g4, nI n4) pl dr ki ow S T F_1 H tt ++ rest)) (As := [.ref 21]) (st := []) (kc' := 0) (ks' := 0) (v := .ref 30) C0 d_Rb_count_107 l_Rb_173 rfl rfl (c_flow (B := ((f0, g0, n0), (f1, g1, n1), (f2, g2, n2), (f3, g3, n3), (f4, g4, n4), pl, dr, ki, ow)) hB hF_1) rfl rfl rfl (Nat.le_of_ble_eq_true rfl) (Nat.le_of_ble_eq_true rfl) (Nat.le_of_ble_eq_true rfl) (Nat.le_of_ble_eq_true rfl) (Nat.le_of_ble_eq_true rfl) (Nat.le_of_ble_eq_true rfl) ?_
  obtain ⟨on_2, bk_2, ho_2, co_2, cg_2, m1_2, m2_2, m3_2, m4_2⟩ := F_1
  refine xs_get (q := 30) (v := .int cg_2) C0 f_Rb_193 d_Rb_count_110 rfl rfl ?_
  rw [hF_1] at hf
  cases hf
  exact xs_iret C0 d_Rb_count_113 (⟨rfl, rfl⟩) (Nat.le_of_ble_eq_true rfl) (Nat.le_of_ble_eq_true rfl)
set_option maxHeartbeats 4000000 in
set_option maxRecDepth 100000 in
theorem m_cntX {B : wb} {S T : wt_S} {F : wt_F} {H : wt_H} {tt : Int32} {rest : xm_O} {x : Int32} (hB : okB B) (hx : x.toInt < 0 ∨ 6 < x.toInt) : xm_M y_Rb_count (Cond.code y_Rb_count b_Rb_count 2 (some .int)) (xm_rm 0 0 0) [.ref 0, .int x] (wB B S T F H tt ++ rest) (xm_eq (.inl (some (.int (-1)))) (wB B S T F H tt ++ rest)) := by
  obtain ⟨⟨f0, g0, n0⟩, ⟨f1, g1, n1⟩, ⟨f2, g2, n2⟩, ⟨f3, g3, n3⟩, ⟨f4, g4, n4⟩, pl, dr, ki, ow⟩ := B
  obtain ⟨⟨h0, hp0⟩, ⟨h1, hp1⟩, ⟨h2, hp2⟩, ⟨h3, hp3⟩, ⟨h4, hp4⟩, hk⟩ := id hB
  dsimp only at h0 h1 h2 h3 h4 hp0 hp1 hp2 hp3 hp4 hk
  refine xm_of (by decide) (Nat.le_of_ble_eq_true rfl) (fun E C0 => ?_)
  refine xs_eq (ω' := (wd (f0, g0, nI n0) (f1, g1, nI n1) (f2, g2, nI n2) (f3, g3, nI n3) (f4, g4, nI n4) pl dr ki ow S T F H tt ++ rest)) (lv' := [(0, .ref 0), (1, .int x)]) rfl rfl rfl ?_
  refine xs_iload_n C0 d_Rb_count_0 rfl 1 rfl ?_
  refine xs_tableOut (tgt := 119) C0 d_Rb_count_1 hx (by decide) ?_
  refine xs_iconst (v := (-1)) C0 d_Rb_count_119 (by decide) ?_
  exact xs_iret C0 d_Rb_count_120 (⟨rfl, rfl⟩) (Nat.le_of_ble_eq_true rfl) (Nat.le_of_ble_eq_true rfl)
set_option maxHeartbeats 4000000 in
set_option maxRecDepth 100000 in
theorem m_node {B : wb} {S T : wt_S} {F : wt_F} {H : wt_H} {tt : Int32} {rest : xm_O} {x : Int32} {F1 : wt_F} (hB : okB B) (h : gw x 0 47) (hf : g_fol B S F = F1) : xm_M y_Rb_node (Cond.code y_Rb_node b_Rb_node 3 (some .int)) (xm_rm 5 0 0) [.ref 0, .int x] (wB B S T F H tt ++ rest) (xm_eq (.inl (some (.int ((if ¬ f_b64 F1.2.2.1 x = 0 then 1 else 0) ||| (if ¬ f_b64 F1.2.2.2.1 x = 0 then 2 else 0))))) (wB B S T F1 H tt ++ rest)) := by
  obtain ⟨⟨f0, g0, n0⟩, ⟨f1, g1, n1⟩, ⟨f2, g2, n2⟩, ⟨f3, g3, n3⟩, ⟨f4, g4, n4⟩, pl, dr, ki, ow⟩ := B
  obtain ⟨⟨h0, hp0⟩, ⟨h1, hp1⟩, ⟨h2, hp2⟩, ⟨h3, hp3⟩, ⟨h4, hp4⟩, hk⟩ := id hB
  dsimp only at h0 h1 h2 h3 h4 hp0 hp1 hp2 hp3 hp4 hk
  refine xm_of (by decide) (Nat.le_of_ble_eq_true rfl) (fun E C0 => ?_)
  refine xs_eq (ω' := (wd (f0, g0, nI n0) (f1, g1, nI n1) (f2, g2, nI n2) (f3, g3, nI n3) (f4, g4, nI n4) pl dr ki ow S T F H tt ++ rest)) (lv' := [(0, .ref 0), (1, .int x)]) rfl rfl rfl ?_
  refine xs_iload_n C0 d_Rb_node_0 rfl 1 rfl ?_
  refine xs_cS0 (ω' := (wd (f0, g0, nI n0) (f1, g1, nI n1) (f2, g2, nI n2) (f3, g3, nI n3) (f4, g4, nI n4) pl dr ki ow S T F H tt ++ rest)) (av := [.int x]) (st := []) (kc' := 0) (ks' := 0) C0 d_Rb_node_1 l_Rb_170 (c_nn _ x h) rfl rfl rfl (Nat.le_of_ble_eq_true rfl) (Nat.le_of_ble_eq_true rfl) (Nat.le_of_ble_eq_true rfl) (Nat.le_of_ble_eq_true rfl) (Nat.le_of_ble_eq_true rfl) (Nat.le_of_ble_eq_true rfl) ?_
  refine xs_aload_n C0 d_Rb_node_4 rfl 0 rfl ?_
  refine xs_get (q := 0) (v := .ref 29) C0 f_Rb_31 d_Rb_node_5 rfl rfl ?_
  refine xs_aload_n C0 d_Rb_node_8 rfl 0 rfl ?_
  refine xs_get (q := 0) (v := .ref 21) C0 f_Rb_19 d_Rb_node_9 rfl rfl ?_
  obtain ⟨F_1, hF_1⟩ : ∃ X, g_fol ((f0, g0, n0), (f1, g1, n1), (f2, g2, n2), (f3, g3, n3), (f4, g4, n4), pl, dr, ki, ow) S F = X := ⟨_, rfl⟩
  refine xs_cV1 (ω' := (wd (f0, g0, nI n0) (f1, g1, nI n1) (f2, g2, nI n2) (f3, g3, nI n3) (f4, g4, nI n4) pl dr ki ow S T F_1 H tt ++ rest)) (As := [.ref 21]) (st := []) (kc' := 0) (ks' := 0) (v := .ref 30) C0 d_Rb_node_12 l_Rb_173 rfl rfl (c_flow (B := ((f0, g0, n0), (f1, g1, n1), (f2, g2, n2), (f3, g3, n3), (f4, g4, n4), pl, dr, ki, ow)) hB hF_1) rfl rfl rfl (Nat.le_of_ble_eq_true rfl) (Nat.le_of_ble_eq_true rfl) (Nat.le_of_ble_eq_true rfl) (Nat.le_of_ble_eq_true rfl) (Nat.le_of_ble_eq_true rfl) (Nat.le_of_ble_eq_true rfl) ?_
  refine xs_astore_n (lv' := [(2, .ref 30), (0, .ref 0), (1, .int x)]) C0 d_Rb_node_15 rfl (by decide) rfl ?_
  refine xs_aload_n C0 d_Rb_node_16 rfl 0 rfl ?_
  refine xs_iload_n C0 d_Rb_node_17 rfl 2 rfl ?_
  obtain ⟨on_2, bk_2, ho_2, co_2, cg_2, m1_2, m2_2, m3_2, m4_2⟩ := F_1
  refine xs_cV1 (ω' := (wd (f0, g0, nI n0) (f1, g1, nI n1) (f2, g2, nI n2) (f3, g3, nI n3) (f4, g4, nI n4) pl dr ki ow S T (on_2, bk_2, ho_2, co_2, cg_2, m1_2, m2_2, m3_2, m4_2) H tt ++ rest)) (As := [.int x]) (st := []) (kc' := 0) (ks' := 0) (v := .int (f_b64 ho_2 x)) C0 d_Rb_node_18 l_Rb_177 rfl rfl c_hot rfl rfl rfl (Nat.le_of_ble_eq_true rfl) (Nat.le_of_ble_eq_true rfl) (Nat.le_of_ble_eq_true rfl) (Nat.le_of_ble_eq_true rfl) (Nat.le_of_ble_eq_true rfl) (Nat.le_of_ble_eq_true rfl) ?_
  refine xs_bz_eq (u := 1) (v := 0) (tgt := 28) (J := 29) C0 d_Rb_node_21 (by decide) d_Rb_node_24 (by decide) d_Rb_node_25 (by decide) d_Rb_node_28 (by decide) rfl ?_
  refine xs_aload_n C0 d_Rb_node_29 rfl 0 rfl ?_
  refine xs_iload_n C0 d_Rb_node_30 rfl 2 rfl ?_
  refine xs_cV1 (ω' := (wd (f0, g0, nI n0) (f1, g1, nI n1) (f2, g2, nI n2) (f3, g3, nI n3) (f4, g4, nI n4) pl dr ki ow S T (on_2, bk_2, ho_2, co_2, cg_2, m1_2, m2_2, m3_2, m4_2) H tt ++ rest)) (As := [.int x]) (st := [.int (if ¬ (f_b64 ho_2 x) = 0 then 1 else 0)]) (kc' := 0) (ks' := 0) (v := .int (f_b64 co_2 x)) C0 d_Rb_node_31 l_Rb_183 rfl rfl c_cold rfl rfl rfl (Nat.le_of_ble_eq_true rfl) (Nat.le_of_ble_eq_true rfl) (Nat.le_of_ble_eq_true rfl) (Nat.le_of_ble_eq_true rfl) (Nat.le_of_ble_eq_true rfl) (Nat.le_of_ble_eq_true rfl) ?_
  refine xs_bz_eq (u := 2) (v := 0) (tgt := 41) (J := 42) C0 d_Rb_node_34 (by decide) d_Rb_node_37 (by decide) d_Rb_node_38 (by decide) d_Rb_node_41 (by decide) rfl ?_
  refine xs_ior C0 d_Rb_node_42 ?_
  rw [hF_1] at hf
  subst hf
  exact xs_iret C0 d_Rb_node_43 (⟨rfl, rfl⟩) (Nat.le_of_ble_eq_true rfl) (Nat.le_of_ble_eq_true rfl)
set_option maxHeartbeats 4000000 in
set_option maxRecDepth 100000 in
theorem m_nodeT {B : wb} {S T : wt_S} {F : wt_F} {H : wt_H} {tt : Int32} {rest : xm_O} {x : Int32} (hB : okB B) (h : ¬ gw x 0 47) : xm_M y_Rb_node (Cond.code y_Rb_node b_Rb_node 3 (some .int)) (xm_rm 8 1 6) [.ref 0, .int x] (wB B S T F H tt ++ rest) (xm_eq (.inr "java/lang/IllegalArgumentException") (wB B S T F H tt ++ rest)) := by
  obtain ⟨⟨f0, g0, n0⟩, ⟨f1, g1, n1⟩, ⟨f2, g2, n2⟩, ⟨f3, g3, n3⟩, ⟨f4, g4, n4⟩, pl, dr, ki, ow⟩ := B
  obtain ⟨⟨h0, hp0⟩, ⟨h1, hp1⟩, ⟨h2, hp2⟩, ⟨h3, hp3⟩, ⟨h4, hp4⟩, hk⟩ := id hB
  dsimp only at h0 h1 h2 h3 h4 hp0 hp1 hp2 hp3 hp4 hk
  refine xm_of (by decide) (Nat.le_of_ble_eq_true rfl) (fun E C0 => ?_)
  refine xs_eq (ω' := (wd (f0, g0, nI n0) (f1, g1, nI n1) (f2, g2, nI n2) (f3, g3, nI n3) (f4, g4, nI n4) pl dr ki ow S T F H tt ++ rest)) (lv' := [(0, .ref 0), (1, .int x)]) rfl rfl rfl ?_
  refine xs_iload_n C0 d_Rb_node_0 rfl 1 rfl ?_
  exact xs_cST (av := [.int x]) (st := []) C0 d_Rb_node_1 l_Rb_170 (c_nnT _ x h) rfl rfl rfl (Nat.le_of_ble_eq_true rfl) (Nat.le_of_ble_eq_true rfl) (Nat.le_of_ble_eq_true rfl) (Nat.le_of_ble_eq_true rfl) (xt_leave C0 ⟨rfl, rfl⟩ (Nat.le_of_ble_eq_true rfl) (Nat.le_of_ble_eq_true rfl))
set_option maxHeartbeats 4000000 in
set_option maxRecDepth 100000 in
theorem m_leads {B : wb} {S T : wt_S} {F : wt_F} {H : wt_H} {tt : Int32} {rest : xm_O} {x y : Int32} {F1 : wt_F} (hB : okB B) (h : gw x 0 47) (h9 : gw y 0 47) (hok : okF F1) (hf : g_fol B S F = F1) : xm_M y_Rb_leads (Cond.code y_Rb_leads b_Rb_leads 3 (some .boolean)) (xm_rm 5 0 0) [.ref 0, .int x, .int y] (wB B S T F H tt ++ rest) (xm_eq (.inl (some (.int (f_b64 (f_reach F1.1 x) y)))) (wB B S T F1 H tt ++ rest)) := by
  obtain ⟨⟨f0, g0, n0⟩, ⟨f1, g1, n1⟩, ⟨f2, g2, n2⟩, ⟨f3, g3, n3⟩, ⟨f4, g4, n4⟩, pl, dr, ki, ow⟩ := B
  obtain ⟨⟨h0, hp0⟩, ⟨h1, hp1⟩, ⟨h2, hp2⟩, ⟨h3, hp3⟩, ⟨h4, hp4⟩, hk⟩ := id hB
  dsimp only at h0 h1 h2 h3 h4 hp0 hp1 hp2 hp3 hp4 hk
  refine xm_of (by decide) (Nat.le_of_ble_eq_true rfl) (fun E C0 => ?_)
  refine xs_eq (ω' := (wd (f0, g0, nI n0) (f1, g1, nI n1) (f2, g2, nI n2) (f3, g3, nI n3) (f4, g4, nI n4) pl dr ki ow S T F H tt ++ rest)) (lv' := [(0, .ref 0), (1, .int x), (2, .int y)]) rfl rfl rfl ?_
  refine xs_iload_n C0 d_Rb_leads_0 rfl 1 rfl ?_
  refine xs_cS0 (ω' := (wd (f0, g0, nI n0) (f1, g1, nI n1) (f2, g2, nI n2) (f3, g3, nI n3) (f4, g4, nI n4) pl dr ki ow S T F H tt ++ rest)) (av := [.int x]) (st := []) (kc' := 0) (ks' := 0) C0 d_Rb_leads_1 l_Rb_170 (c_nn _ x h) rfl rfl rfl (Nat.le_of_ble_eq_true rfl) (Nat.le_of_ble_eq_true rfl) (Nat.le_of_ble_eq_true rfl) (Nat.le_of_ble_eq_true rfl) (Nat.le_of_ble_eq_true rfl) (Nat.le_of_ble_eq_true rfl) ?_
  refine xs_iload_n C0 d_Rb_leads_4 rfl 2 rfl ?_
  refine xs_cS0 (ω' := (wd (f0, g0, nI n0) (f1, g1, nI n1) (f2, g2, nI n2) (f3, g3, nI n3) (f4, g4, nI n4) pl dr ki ow S T F H tt ++ rest)) (av := [.int y]) (st := []) (kc' := 0) (ks' := 0) C0 d_Rb_leads_5 l_Rb_170 (c_nn _ y h9) rfl rfl rfl (Nat.le_of_ble_eq_true rfl) (Nat.le_of_ble_eq_true rfl) (Nat.le_of_ble_eq_true rfl) (Nat.le_of_ble_eq_true rfl) (Nat.le_of_ble_eq_true rfl) (Nat.le_of_ble_eq_true rfl) ?_
  refine xs_aload_n C0 d_Rb_leads_8 rfl 0 rfl ?_
  refine xs_get (q := 0) (v := .ref 29) C0 f_Rb_31 d_Rb_leads_9 rfl rfl ?_
  refine xs_aload_n C0 d_Rb_leads_12 rfl 0 rfl ?_
  refine xs_get (q := 0) (v := .ref 21) C0 f_Rb_19 d_Rb_leads_13 rfl rfl ?_
  obtain ⟨F_1, hF_1⟩ : ∃ X, g_fol ((f0, g0, n0), (f1, g1, n1), (f2, g2, n2), (f3, g3, n3), (f4, g4, n4), pl, dr, ki, ow) S F = X := ⟨_, rfl⟩
  refine xs_cV1 (ω' := (wd (f0, g0, nI n0) (f1, g1, nI n1) (f2, g2, nI n2) (f3, g3, nI n3) (f4, g4, nI n4) pl dr ki ow S T F_1 H tt ++ rest)) (As := [.ref 21]) (st := []) (kc' := 0) (ks' := 0) (v := .ref 30) C0 d_Rb_leads_16 l_Rb_173 rfl rfl (c_flow (B := ((f0, g0, n0), (f1, g1, n1), (f2, g2, n2), (f3, g3, n3), (f4, g4, n4), pl, dr, ki, ow)) hB hF_1) rfl rfl rfl (Nat.le_of_ble_eq_true rfl) (Nat.le_of_ble_eq_true rfl) (Nat.le_of_ble_eq_true rfl) (Nat.le_of_ble_eq_true rfl) (Nat.le_of_ble_eq_true rfl) (Nat.le_of_ble_eq_true rfl) ?_
  rw [hF_1] at hf
  subst hf
  refine xs_iload_n C0 d_Rb_leads_19 rfl 1 rfl ?_
  refine xs_iload_n C0 d_Rb_leads_20 rfl 2 rfl ?_
  obtain ⟨on_2, bk_2, ho_2, co_2, cg_2, m1_2, m2_2, m3_2, m4_2⟩ := F_1
  refine xs_cV1 (ω' := (wd (f0, g0, nI n0) (f1, g1, nI n1) (f2, g2, nI n2) (f3, g3, nI n3) (f4, g4, nI n4) pl dr ki ow S T (on_2, bk_2, ho_2, co_2, cg_2, m1_2, m2_2, m3_2, m4_2) H tt ++ rest)) (As := [.int x, .int y]) (st := []) (kc' := 0) (ks' := 0) (v := .int (f_b64 (f_reach on_2 x) y)) C0 d_Rb_leads_21 l_Rb_186 rfl rfl (c_rchs hok.1 (gw_in h)) rfl rfl rfl (Nat.le_of_ble_eq_true rfl) (Nat.le_of_ble_eq_true rfl) (Nat.le_of_ble_eq_true rfl) (Nat.le_of_ble_eq_true rfl) (Nat.le_of_ble_eq_true rfl) (Nat.le_of_ble_eq_true rfl) ?_
  refine xs_pc (pc' := 24) rfl ?_
  exact xs_zret C0 d_Rb_leads_24 (f_b64_01 _ _) (⟨rfl, rfl⟩) (Nat.le_of_ble_eq_true rfl) (Nat.le_of_ble_eq_true rfl)
set_option maxHeartbeats 4000000 in
set_option maxRecDepth 100000 in
theorem m_leadsT {B : wb} {S T : wt_S} {F : wt_F} {H : wt_H} {tt : Int32} {rest : xm_O} {x y : Int32} (hB : okB B) (h : ¬ (gw x 0 47 ∧ gw y 0 47)) : xm_M y_Rb_leads (Cond.code y_Rb_leads b_Rb_leads 3 (some .boolean)) (xm_rm 8 1 6) [.ref 0, .int x, .int y] (wB B S T F H tt ++ rest) (xm_eq (.inr "java/lang/IllegalArgumentException") (wB B S T F H tt ++ rest)) := by
  obtain ⟨⟨f0, g0, n0⟩, ⟨f1, g1, n1⟩, ⟨f2, g2, n2⟩, ⟨f3, g3, n3⟩, ⟨f4, g4, n4⟩, pl, dr, ki, ow⟩ := B
  obtain ⟨⟨h0, hp0⟩, ⟨h1, hp1⟩, ⟨h2, hp2⟩, ⟨h3, hp3⟩, ⟨h4, hp4⟩, hk⟩ := id hB
  dsimp only at h0 h1 h2 h3 h4 hp0 hp1 hp2 hp3 hp4 hk
  refine xm_of (by decide) (Nat.le_of_ble_eq_true rfl) (fun E C0 => ?_)
  refine xs_eq (ω' := (wd (f0, g0, nI n0) (f1, g1, nI n1) (f2, g2, nI n2) (f3, g3, nI n3) (f4, g4, nI n4) pl dr ki ow S T F H tt ++ rest)) (lv' := [(0, .ref 0), (1, .int x), (2, .int y)]) rfl rfl rfl ?_
  by_cases ha : gw x 0 47
  · refine xs_iload_n C0 d_Rb_leads_0 rfl 1 rfl ?_
    refine xs_cS0 (ω' := (wd (f0, g0, nI n0) (f1, g1, nI n1) (f2, g2, nI n2) (f3, g3, nI n3) (f4, g4, nI n4) pl dr ki ow S T F H tt ++ rest)) (av := [.int x]) (st := []) (kc' := 0) (ks' := 0) C0 d_Rb_leads_1 l_Rb_170 (c_nn _ x ha) rfl rfl rfl (Nat.le_of_ble_eq_true rfl) (Nat.le_of_ble_eq_true rfl) (Nat.le_of_ble_eq_true rfl) (Nat.le_of_ble_eq_true rfl) (Nat.le_of_ble_eq_true rfl) (Nat.le_of_ble_eq_true rfl) ?_
    refine xs_iload_n C0 d_Rb_leads_4 rfl 2 rfl ?_
    exact xs_cST (av := [.int y]) (st := []) C0 d_Rb_leads_5 l_Rb_170 (c_nnT _ y (fun h9 => h ⟨ha, h9⟩)) rfl rfl rfl (Nat.le_of_ble_eq_true rfl) (Nat.le_of_ble_eq_true rfl) (Nat.le_of_ble_eq_true rfl) (Nat.le_of_ble_eq_true rfl) (xt_leave C0 ⟨rfl, rfl⟩ (Nat.le_of_ble_eq_true rfl) (Nat.le_of_ble_eq_true rfl))
  · refine xs_iload_n C0 d_Rb_leads_0 rfl 1 rfl ?_
    exact xs_cST (av := [.int x]) (st := []) C0 d_Rb_leads_1 l_Rb_170 (c_nnT _ x ha) rfl rfl rfl (Nat.le_of_ble_eq_true rfl) (Nat.le_of_ble_eq_true rfl) (Nat.le_of_ble_eq_true rfl) (Nat.le_of_ble_eq_true rfl) (xt_leave C0 ⟨rfl, rfl⟩ (Nat.le_of_ble_eq_true rfl) (Nat.le_of_ble_eq_true rfl))
set_option maxHeartbeats 4000000 in
set_option maxRecDepth 100000 in
theorem m_relay {B : wb} {S T : wt_S} {F : wt_F} {H : wt_H} {tt : Int32} {rest : xm_O} {a b u v c : Int32} {S1 : wt_S} {F1 : wt_F} (hB : okB B) (hi : B.1.2.2 < 16) (hg : g2 a b) (hu : gw u 1 9) (hv : gw v 1 9) (hf : g_laf (b_addR B a b u v) S F = (c, S1, F1)) : xm_M y_Rb_relay (Cond.code y_Rb_relay b_Rb_relay 6 (some .int)) (xm_rm 5 0 0) [.ref 0, .int a, .int b, .int u, .int v] (wB B S T F H tt ++ rest) (xm_eq (.inl (some (.int (nI B.1.2.2)))) (wB (b_addR B a b u v) S1 T F1 H tt ++ rest)) := by
  obtain ⟨⟨f0, g0, n0⟩, ⟨f1, g1, n1⟩, ⟨f2, g2, n2⟩, ⟨f3, g3, n3⟩, ⟨f4, g4, n4⟩, pl, dr, ki, ow⟩ := B
  obtain ⟨⟨h0, hp0⟩, ⟨h1, hp1⟩, ⟨h2, hp2⟩, ⟨h3, hp3⟩, ⟨h4, hp4⟩, hk⟩ := id hB
  dsimp only at h0 h1 h2 h3 h4 hp0 hp1 hp2 hp3 hp4 hk
  refine xm_of (by decide) (Nat.le_of_ble_eq_true rfl) (fun E C0 => ?_)
  refine xs_eq (ω' := (wd (f0, g0, nI n0) (f1, g1, nI n1) (f2, g2, nI n2) (f3, g3, nI n3) (f4, g4, nI n4) pl dr ki ow S T F H tt ++ rest)) (lv' := [(0, .ref 0), (1, .int a), (2, .int b), (3, .int u), (4, .int v)]) rfl rfl rfl ?_
  refine xs_iload_n C0 d_Rb_relay_0 rfl 1 rfl ?_
  refine xs_iload_n C0 d_Rb_relay_1 rfl 2 rfl ?_
  refine xs_cS0 (ω' := (wd (f0, g0, nI n0) (f1, g1, nI n1) (f2, g2, nI n2) (f3, g3, nI n3) (f4, g4, nI n4) pl dr ki ow S T F H tt ++ rest)) (av := [.int a, .int b]) (st := []) (kc' := 0) (ks' := 0) C0 d_Rb_relay_2 l_Rb_46 (c_n2 _ a b hg) rfl rfl rfl (Nat.le_of_ble_eq_true rfl) (Nat.le_of_ble_eq_true rfl) (Nat.le_of_ble_eq_true rfl) (Nat.le_of_ble_eq_true rfl) (Nat.le_of_ble_eq_true rfl) (Nat.le_of_ble_eq_true rfl) ?_
  refine xs_iload_n C0 d_Rb_relay_5 rfl 3 rfl ?_
  refine xs_cS0 (ω' := (wd (f0, g0, nI n0) (f1, g1, nI n1) (f2, g2, nI n2) (f3, g3, nI n3) (f4, g4, nI n4) pl dr ki ow S T F H tt ++ rest)) (av := [.int u]) (st := []) (kc' := 0) (ks' := 0) C0 d_Rb_relay_6 l_Rb_50 (c_nt _ u hu) rfl rfl rfl (Nat.le_of_ble_eq_true rfl) (Nat.le_of_ble_eq_true rfl) (Nat.le_of_ble_eq_true rfl) (Nat.le_of_ble_eq_true rfl) (Nat.le_of_ble_eq_true rfl) (Nat.le_of_ble_eq_true rfl) ?_
  refine xs_iload C0 d_Rb_relay_9 4 rfl ?_
  refine xs_cS0 (ω' := (wd (f0, g0, nI n0) (f1, g1, nI n1) (f2, g2, nI n2) (f3, g3, nI n3) (f4, g4, nI n4) pl dr ki ow S T F H tt ++ rest)) (av := [.int v]) (st := []) (kc' := 0) (ks' := 0) C0 d_Rb_relay_11 l_Rb_50 (c_nt _ v hv) rfl rfl rfl (Nat.le_of_ble_eq_true rfl) (Nat.le_of_ble_eq_true rfl) (Nat.le_of_ble_eq_true rfl) (Nat.le_of_ble_eq_true rfl) (Nat.le_of_ble_eq_true rfl) (Nat.le_of_ble_eq_true rfl) ?_
  refine xs_aload_n C0 d_Rb_relay_14 rfl 0 rfl ?_
  refine xs_get (q := 0) (v := .ref 1) C0 f_Rb_10 d_Rb_relay_15 rfl rfl ?_
  refine xs_get (q := 1) (v := .ref 2) C0 f_Rb_54 d_Rb_relay_18 rfl rfl ?_
  refine xs_cS0 (ω' := (wd (f0, g0, nI n0) (f1, g1, nI n1) (f2, g2, nI n2) (f3, g3, nI n3) (f4, g4, nI n4) pl dr ki ow S T F H tt ++ rest)) (av := [.ref 2]) (st := []) (kc' := 0) (ks' := 0) C0 d_Rb_relay_21 l_Rb_58 (c_nr0 hi) rfl rfl rfl (Nat.le_of_ble_eq_true rfl) (Nat.le_of_ble_eq_true rfl) (Nat.le_of_ble_eq_true rfl) (Nat.le_of_ble_eq_true rfl) (Nat.le_of_ble_eq_true rfl) (Nat.le_of_ble_eq_true rfl) ?_
  refine xs_aload_n C0 d_Rb_relay_24 rfl 0 rfl ?_
  refine xs_pc (pc' := 25) rfl ?_
  refine xs_get (q := 0) (v := .ref 1) C0 f_Rb_10 d_Rb_relay_25 rfl rfl ?_
  refine xs_iload_n C0 d_Rb_relay_28 rfl 1 rfl ?_
  refine xs_iload_n C0 d_Rb_relay_29 rfl 2 rfl ?_
  refine xs_iload_n C0 d_Rb_relay_30 rfl 3 rfl ?_
  refine xs_iload C0 d_Rb_relay_31 4 rfl ?_
  refine xs_cV1 (ω' := (wd (upd f0 n0 a, upd g0 n0 b, nI (n0 + 1)) (f1, g1, nI n1) (f2, g2, nI n2) (f3, g3, nI n3) (f4, g4, nI n4) (upd pl n0 u) (upd dr n0 v) ki ow S T F H tt ++ rest)) (As := [.int a, .int b, .int u, .int v]) (st := []) (kc' := 0) (ks' := 0) (v := .int (nI n0)) C0 d_Rb_relay_33 l_Rb_62 rfl rfl (c_addR hi) rfl rfl rfl (Nat.le_of_ble_eq_true rfl) (Nat.le_of_ble_eq_true rfl) (Nat.le_of_ble_eq_true rfl) (Nat.le_of_ble_eq_true rfl) (Nat.le_of_ble_eq_true rfl) (Nat.le_of_ble_eq_true rfl) ?_
  refine xs_istore (lv' := [(5, .int (nI n0)), (0, .ref 0), (1, .int a), (2, .int b), (3, .int u), (4, .int v)]) C0 d_Rb_relay_36 (by decide) rfl ?_
  refine xs_aload_n C0 d_Rb_relay_38 rfl 1 rfl ?_
  refine xs_get (q := 0) (v := .ref 29) C0 f_Rb_31 d_Rb_relay_39 rfl rfl ?_
  refine xs_aload_n C0 d_Rb_relay_42 rfl 1 rfl ?_
  refine xs_get (q := 0) (v := .ref 21) C0 f_Rb_19 d_Rb_relay_43 rfl rfl ?_
  refine xs_cV1 (ω' := (wd (upd f0 n0 a, upd g0 n0 b, nI (n0 + 1)) (f1, g1, nI n1) (f2, g2, nI n2) (f3, g3, nI n3) (f4, g4, nI n4) (upd pl n0 u) (upd dr n0 v) ki ow S1 T F1 H tt ++ rest)) (As := [.ref 21]) (st := []) (kc' := 0) (ks' := 0) (v := .int c) C0 d_Rb_relay_46 l_Rb_66 rfl rfl (c_lafn (B := b_addR ((f0, g0, n0), (f1, g1, n1), (f2, g2, n2), (f3, g3, n3), (f4, g4, n4), pl, dr, ki, ow) a b u v) (okB_addR hB hi hg) hf) rfl rfl rfl (Nat.le_of_ble_eq_true rfl) (Nat.le_of_ble_eq_true rfl) (Nat.le_of_ble_eq_true rfl) (Nat.le_of_ble_eq_true rfl) (Nat.le_of_ble_eq_true rfl) (Nat.le_of_ble_eq_true rfl) ?_
  refine xs_pc (pc' := 49) rfl ?_
  refine xs_pop C0 d_Rb_relay_49 rfl ?_
  refine xs_iload C0 d_Rb_relay_50 0 rfl ?_
  exact xs_iret C0 d_Rb_relay_52 (⟨rfl, rfl⟩) (Nat.le_of_ble_eq_true rfl) (Nat.le_of_ble_eq_true rfl)
set_option maxHeartbeats 4000000 in
set_option maxRecDepth 100000 in
theorem m_relayT {B : wb} {S T : wt_S} {F : wt_F} {H : wt_H} {tt : Int32} {rest : xm_O} {a b u v : Int32} (hB : okB B) (h : ¬ (g2 a b ∧ gw u 1 9 ∧ gw v 1 9)) : xm_M y_Rb_relay (Cond.code y_Rb_relay b_Rb_relay 6 (some .int)) (xm_rm 9 1 6) [.ref 0, .int a, .int b, .int u, .int v] (wB B S T F H tt ++ rest) (xm_eq (.inr "java/lang/IllegalArgumentException") (wB B S T F H tt ++ rest)) := by
  obtain ⟨⟨f0, g0, n0⟩, ⟨f1, g1, n1⟩, ⟨f2, g2, n2⟩, ⟨f3, g3, n3⟩, ⟨f4, g4, n4⟩, pl, dr, ki, ow⟩ := B
  obtain ⟨⟨h0, hp0⟩, ⟨h1, hp1⟩, ⟨h2, hp2⟩, ⟨h3, hp3⟩, ⟨h4, hp4⟩, hk⟩ := id hB
  dsimp only at h0 h1 h2 h3 h4 hp0 hp1 hp2 hp3 hp4 hk
  refine xm_of (by decide) (Nat.le_of_ble_eq_true rfl) (fun E C0 => ?_)
  refine xs_eq (ω' := (wd (f0, g0, nI n0) (f1, g1, nI n1) (f2, g2, nI n2) (f3, g3, nI n3) (f4, g4, nI n4) pl dr ki ow S T F H tt ++ rest)) (lv' := [(0, .ref 0), (1, .int a), (2, .int b), (3, .int u), (4, .int v)]) rfl rfl rfl ?_
  by_cases ha : gN2 a b
  · by_cases hb : gw u 1 9
    · refine xs_iload_n C0 d_Rb_relay_0 rfl 1 rfl ?_
      refine xs_iload_n C0 d_Rb_relay_1 rfl 2 rfl ?_
      refine xs_cS0 (ω' := (wd (f0, g0, nI n0) (f1, g1, nI n1) (f2, g2, nI n2) (f3, g3, nI n3) (f4, g4, nI n4) pl dr ki ow S T F H tt ++ rest)) (av := [.int a, .int b]) (st := []) (kc' := 0) (ks' := 0) C0 d_Rb_relay_2 l_Rb_46 (c_n2 _ a b ha) rfl rfl rfl (Nat.le_of_ble_eq_true rfl) (Nat.le_of_ble_eq_true rfl) (Nat.le_of_ble_eq_true rfl) (Nat.le_of_ble_eq_true rfl) (Nat.le_of_ble_eq_true rfl) (Nat.le_of_ble_eq_true rfl) ?_
      refine xs_iload_n C0 d_Rb_relay_5 rfl 3 rfl ?_
      refine xs_cS0 (ω' := (wd (f0, g0, nI n0) (f1, g1, nI n1) (f2, g2, nI n2) (f3, g3, nI n3) (f4, g4, nI n4) pl dr ki ow S T F H tt ++ rest)) (av := [.int u]) (st := []) (kc' := 0) (ks' := 0) C0 d_Rb_relay_6 l_Rb_50 (c_nt _ u hb) rfl rfl rfl (Nat.le_of_ble_eq_true rfl) (Nat.le_of_ble_eq_true rfl) (Nat.le_of_ble_eq_true rfl) (Nat.le_of_ble_eq_true rfl) (Nat.le_of_ble_eq_true rfl) (Nat.le_of_ble_eq_true rfl) ?_
      refine xs_iload C0 d_Rb_relay_9 4 rfl ?_
      exact xs_cST (av := [.int v]) (st := []) C0 d_Rb_relay_11 l_Rb_50 (c_ntT _ v (fun h9 => h ⟨ha, hb, h9⟩)) rfl rfl rfl (Nat.le_of_ble_eq_true rfl) (Nat.le_of_ble_eq_true rfl) (Nat.le_of_ble_eq_true rfl) (Nat.le_of_ble_eq_true rfl) (xt_leave C0 ⟨rfl, rfl⟩ (Nat.le_of_ble_eq_true rfl) (Nat.le_of_ble_eq_true rfl))
    · refine xs_iload_n C0 d_Rb_relay_0 rfl 1 rfl ?_
      refine xs_iload_n C0 d_Rb_relay_1 rfl 2 rfl ?_
      refine xs_cS0 (ω' := (wd (f0, g0, nI n0) (f1, g1, nI n1) (f2, g2, nI n2) (f3, g3, nI n3) (f4, g4, nI n4) pl dr ki ow S T F H tt ++ rest)) (av := [.int a, .int b]) (st := []) (kc' := 0) (ks' := 0) C0 d_Rb_relay_2 l_Rb_46 (c_n2 _ a b ha) rfl rfl rfl (Nat.le_of_ble_eq_true rfl) (Nat.le_of_ble_eq_true rfl) (Nat.le_of_ble_eq_true rfl) (Nat.le_of_ble_eq_true rfl) (Nat.le_of_ble_eq_true rfl) (Nat.le_of_ble_eq_true rfl) ?_
      refine xs_iload_n C0 d_Rb_relay_5 rfl 3 rfl ?_
      exact xs_cST (av := [.int u]) (st := []) C0 d_Rb_relay_6 l_Rb_50 (c_ntT _ u hb) rfl rfl rfl (Nat.le_of_ble_eq_true rfl) (Nat.le_of_ble_eq_true rfl) (Nat.le_of_ble_eq_true rfl) (Nat.le_of_ble_eq_true rfl) (xt_leave C0 ⟨rfl, rfl⟩ (Nat.le_of_ble_eq_true rfl) (Nat.le_of_ble_eq_true rfl))
  · refine xs_iload_n C0 d_Rb_relay_0 rfl 1 rfl ?_
    refine xs_iload_n C0 d_Rb_relay_1 rfl 2 rfl ?_
    exact xs_cST (av := [.int a, .int b]) (st := []) C0 d_Rb_relay_2 l_Rb_46 (c_n2T _ a b ha) rfl rfl rfl (Nat.le_of_ble_eq_true rfl) (Nat.le_of_ble_eq_true rfl) (Nat.le_of_ble_eq_true rfl) (Nat.le_of_ble_eq_true rfl) (xt_leave C0 ⟨rfl, rfl⟩ (Nat.le_of_ble_eq_true rfl) (Nat.le_of_ble_eq_true rfl))
set_option maxHeartbeats 4000000 in
set_option maxRecDepth 100000 in
theorem m_relayX {B : wb} {S T : wt_S} {F : wt_F} {H : wt_H} {tt : Int32} {rest : xm_O} {a b u v : Int32} (hB : okB B) (hi : 16 ≤ B.1.2.2) (hg : g2 a b) (hu : gw u 1 9) (hv : gw v 1 9) : xm_M y_Rb_relay (Cond.code y_Rb_relay b_Rb_relay 6 (some .int)) (xm_rm 9 1 6) [.ref 0, .int a, .int b, .int u, .int v] (wB B S T F H tt ++ rest) (xm_eq (.inr "java/lang/IllegalStateException") (wB B S T F H tt ++ rest)) := by
  obtain ⟨⟨f0, g0, n0⟩, ⟨f1, g1, n1⟩, ⟨f2, g2, n2⟩, ⟨f3, g3, n3⟩, ⟨f4, g4, n4⟩, pl, dr, ki, ow⟩ := B
  obtain ⟨⟨h0, hp0⟩, ⟨h1, hp1⟩, ⟨h2, hp2⟩, ⟨h3, hp3⟩, ⟨h4, hp4⟩, hk⟩ := id hB
  dsimp only at h0 h1 h2 h3 h4 hp0 hp1 hp2 hp3 hp4 hk
  refine xm_of (by decide) (Nat.le_of_ble_eq_true rfl) (fun E C0 => ?_)
  refine xs_eq (ω' := (wd (f0, g0, nI n0) (f1, g1, nI n1) (f2, g2, nI n2) (f3, g3, nI n3) (f4, g4, nI n4) pl dr ki ow S T F H tt ++ rest)) (lv' := [(0, .ref 0), (1, .int a), (2, .int b), (3, .int u), (4, .int v)]) rfl rfl rfl ?_
  refine xs_iload_n C0 d_Rb_relay_0 rfl 1 rfl ?_
  refine xs_iload_n C0 d_Rb_relay_1 rfl 2 rfl ?_
  refine xs_cS0 (ω' := (wd (f0, g0, nI n0) (f1, g1, nI n1) (f2, g2, nI n2) (f3, g3, nI n3) (f4, g4, nI n4) pl dr ki ow S T F H tt ++ rest)) (av := [.int a, .int b]) (st := []) (kc' := 0) (ks' := 0) C0 d_Rb_relay_2 l_Rb_46 (c_n2 _ a b hg) rfl rfl rfl (Nat.le_of_ble_eq_true rfl) (Nat.le_of_ble_eq_true rfl) (Nat.le_of_ble_eq_true rfl) (Nat.le_of_ble_eq_true rfl) (Nat.le_of_ble_eq_true rfl) (Nat.le_of_ble_eq_true rfl) ?_
  refine xs_iload_n C0 d_Rb_relay_5 rfl 3 rfl ?_
  refine xs_cS0 (ω' := (wd (f0, g0, nI n0) (f1, g1, nI n1) (f2, g2, nI n2) (f3, g3, nI n3) (f4, g4, nI n4) pl dr ki ow S T F H tt ++ rest)) (av := [.int u]) (st := []) (kc' := 0) (ks' := 0) C0 d_Rb_relay_6 l_Rb_50 (c_nt _ u hu) rfl rfl rfl (Nat.le_of_ble_eq_true rfl) (Nat.le_of_ble_eq_true rfl) (Nat.le_of_ble_eq_true rfl) (Nat.le_of_ble_eq_true rfl) (Nat.le_of_ble_eq_true rfl) (Nat.le_of_ble_eq_true rfl) ?_
  refine xs_iload C0 d_Rb_relay_9 4 rfl ?_
  refine xs_cS0 (ω' := (wd (f0, g0, nI n0) (f1, g1, nI n1) (f2, g2, nI n2) (f3, g3, nI n3) (f4, g4, nI n4) pl dr ki ow S T F H tt ++ rest)) (av := [.int v]) (st := []) (kc' := 0) (ks' := 0) C0 d_Rb_relay_11 l_Rb_50 (c_nt _ v hv) rfl rfl rfl (Nat.le_of_ble_eq_true rfl) (Nat.le_of_ble_eq_true rfl) (Nat.le_of_ble_eq_true rfl) (Nat.le_of_ble_eq_true rfl) (Nat.le_of_ble_eq_true rfl) (Nat.le_of_ble_eq_true rfl) ?_
  refine xs_aload_n C0 d_Rb_relay_14 rfl 0 rfl ?_
  refine xs_get (q := 0) (v := .ref 1) C0 f_Rb_10 d_Rb_relay_15 rfl rfl ?_
  refine xs_get (q := 1) (v := .ref 2) C0 f_Rb_54 d_Rb_relay_18 rfl rfl ?_
  exact xs_cST (av := [.ref 2]) (st := []) C0 d_Rb_relay_21 l_Rb_58 (c_nrT0 hi (by omega)) rfl rfl rfl (Nat.le_of_ble_eq_true rfl) (Nat.le_of_ble_eq_true rfl) (Nat.le_of_ble_eq_true rfl) (Nat.le_of_ble_eq_true rfl) (xt_leave C0 ⟨rfl, rfl⟩ (Nat.le_of_ble_eq_true rfl) (Nat.le_of_ble_eq_true rfl))
set_option maxHeartbeats 4000000 in
set_option maxRecDepth 100000 in
theorem m_cont {B : wb} {S T : wt_S} {F : wt_F} {H : wt_H} {tt : Int32} {rest : xm_O} {a b u v c : Int32} {S1 : wt_S} {F1 : wt_F} (hB : okB B) (hi : B.2.1.2.2 < 64) (hu : gw u 0 4) (hv : u = 4 ∨ gw v 0 (nI B.1.2.2 - 1)) (hg : g2 a b) (hf : g_laf (b_addC B u v a b) S F = (c, S1, F1)) : xm_M y_Rb_contact (Cond.code y_Rb_contact b_Rb_contact 6 (some .int)) (xm_rm 5 0 0) [.ref 0, .int u, .int v, .int a, .int b] (wB B S T F H tt ++ rest) (xm_eq (.inl (some (.int (nI B.2.1.2.2)))) (wB (b_addC B u v a b) S1 T F1 H tt ++ rest)) := by
  obtain ⟨⟨f0, g0, n0⟩, ⟨f1, g1, n1⟩, ⟨f2, g2, n2⟩, ⟨f3, g3, n3⟩, ⟨f4, g4, n4⟩, pl, dr, ki, ow⟩ := B
  obtain ⟨⟨h0, hp0⟩, ⟨h1, hp1⟩, ⟨h2, hp2⟩, ⟨h3, hp3⟩, ⟨h4, hp4⟩, hk⟩ := id hB
  dsimp only at h0 h1 h2 h3 h4 hp0 hp1 hp2 hp3 hp4 hk
  refine xm_of (by decide) (Nat.le_of_ble_eq_true rfl) (fun E C0 => ?_)
  refine xs_eq (ω' := (wd (f0, g0, nI n0) (f1, g1, nI n1) (f2, g2, nI n2) (f3, g3, nI n3) (f4, g4, nI n4) pl dr ki ow S T F H tt ++ rest)) (lv' := [(0, .ref 0), (1, .int u), (2, .int v), (3, .int a), (4, .int b)]) rfl rfl rfl ?_
  refine xs_iload_n C0 d_Rb_contact_0 rfl 1 rfl ?_
  refine xs_iconst (v := 0) C0 d_Rb_contact_1 (by decide) ?_
  refine xs_iconst (v := 4) C0 d_Rb_contact_2 (by decide) ?_
  refine xs_cS0 (ω' := (wd (f0, g0, nI n0) (f1, g1, nI n1) (f2, g2, nI n2) (f3, g3, nI n3) (f4, g4, nI n4) pl dr ki ow S T F H tt ++ rest)) (av := [.int u, .int 0, .int 4]) (st := []) (kc' := 0) (ks' := 0) C0 d_Rb_contact_3 l_Rb_70 (c_nw _ u 0 4 hu) rfl rfl rfl (Nat.le_of_ble_eq_true rfl) (Nat.le_of_ble_eq_true rfl) (Nat.le_of_ble_eq_true rfl) (Nat.le_of_ble_eq_true rfl) (Nat.le_of_ble_eq_true rfl) (Nat.le_of_ble_eq_true rfl) ?_
  refine xs_iload_n C0 d_Rb_contact_6 rfl 1 rfl ?_
  refine xs_iconst (v := 4) C0 d_Rb_contact_7 (by decide) ?_
  refine xs_icmp_eq (tgt := 22) C0 d_Rb_contact_8 (by decide) (fun c1 => ?_) (fun c1 => ?_)
  · refine xs_iload_n C0 d_Rb_contact_22 rfl 3 rfl ?_
    refine xs_iload C0 d_Rb_contact_23 4 rfl ?_
    refine xs_cS0 (ω' := (wd (f0, g0, nI n0) (f1, g1, nI n1) (f2, g2, nI n2) (f3, g3, nI n3) (f4, g4, nI n4) pl dr ki ow S T F H tt ++ rest)) (av := [.int a, .int b]) (st := []) (kc' := 0) (ks' := 0) C0 d_Rb_contact_25 l_Rb_46 (c_n2 _ a b hg) rfl rfl rfl (Nat.le_of_ble_eq_true rfl) (Nat.le_of_ble_eq_true rfl) (Nat.le_of_ble_eq_true rfl) (Nat.le_of_ble_eq_true rfl) (Nat.le_of_ble_eq_true rfl) (Nat.le_of_ble_eq_true rfl) ?_
    refine xs_aload_n C0 d_Rb_contact_28 rfl 0 rfl ?_
    refine xs_get (q := 0) (v := .ref 1) C0 f_Rb_10 d_Rb_contact_29 rfl rfl ?_
    refine xs_get (q := 1) (v := .ref 5) C0 f_Rb_78 d_Rb_contact_32 rfl rfl ?_
    refine xs_cS0 (ω' := (wd (f0, g0, nI n0) (f1, g1, nI n1) (f2, g2, nI n2) (f3, g3, nI n3) (f4, g4, nI n4) pl dr ki ow S T F H tt ++ rest)) (av := [.ref 5]) (st := []) (kc' := 0) (ks' := 0) C0 d_Rb_contact_35 l_Rb_58 (c_nr1 hi) rfl rfl rfl (Nat.le_of_ble_eq_true rfl) (Nat.le_of_ble_eq_true rfl) (Nat.le_of_ble_eq_true rfl) (Nat.le_of_ble_eq_true rfl) (Nat.le_of_ble_eq_true rfl) (Nat.le_of_ble_eq_true rfl) ?_
    refine xs_aload_n C0 d_Rb_contact_38 rfl 0 rfl ?_
    refine xs_get (q := 0) (v := .ref 1) C0 f_Rb_10 d_Rb_contact_39 rfl rfl ?_
    refine xs_iload_n C0 d_Rb_contact_42 rfl 1 rfl ?_
    refine xs_iload_n C0 d_Rb_contact_43 rfl 2 rfl ?_
    refine xs_iload_n C0 d_Rb_contact_44 rfl 3 rfl ?_
    refine xs_pc (pc' := 45) rfl ?_
    refine xs_iload C0 d_Rb_contact_45 4 rfl ?_
    refine xs_cV1 (ω' := (wd (f0, g0, nI n0) (upd f1 n1 a, upd g1 n1 b, nI (n1 + 1)) (f2, g2, nI n2) (f3, g3, nI n3) (f4, g4, nI n4) pl dr (upd ki n1 u) (upd ow n1 (if u = 4 then 0 else v)) S T F H tt ++ rest)) (As := [.int u, .int v, .int a, .int b]) (st := []) (kc' := 0) (ks' := 0) (v := .int (nI n1)) C0 d_Rb_contact_47 l_Rb_81 rfl rfl (c_addC hi) rfl rfl rfl (Nat.le_of_ble_eq_true rfl) (Nat.le_of_ble_eq_true rfl) (Nat.le_of_ble_eq_true rfl) (Nat.le_of_ble_eq_true rfl) (Nat.le_of_ble_eq_true rfl) (Nat.le_of_ble_eq_true rfl) ?_
    refine xs_istore (lv' := [(5, .int (nI n1)), (0, .ref 0), (1, .int u), (2, .int v), (3, .int a), (4, .int b)]) C0 d_Rb_contact_50 (by decide) rfl ?_
    refine xs_aload_n C0 d_Rb_contact_52 rfl 1 rfl ?_
    refine xs_get (q := 0) (v := .ref 29) C0 f_Rb_31 d_Rb_contact_53 rfl rfl ?_
    refine xs_aload_n C0 d_Rb_contact_56 rfl 1 rfl ?_
    refine xs_get (q := 0) (v := .ref 21) C0 f_Rb_19 d_Rb_contact_57 rfl rfl ?_
    refine xs_cV1 (ω' := (wd (f0, g0, nI n0) (upd f1 n1 a, upd g1 n1 b, nI (n1 + 1)) (f2, g2, nI n2) (f3, g3, nI n3) (f4, g4, nI n4) pl dr (upd ki n1 u) (upd ow n1 (if u = 4 then 0 else v)) S1 T F1 H tt ++ rest)) (As := [.ref 21]) (st := []) (kc' := 0) (ks' := 0) (v := .int c) C0 d_Rb_contact_60 l_Rb_66 rfl rfl (c_lafn (B := b_addC ((f0, g0, n0), (f1, g1, n1), (f2, g2, n2), (f3, g3, n3), (f4, g4, n4), pl, dr, ki, ow) u v a b) (okB_addC hB hi hu hg) hf) rfl rfl rfl (Nat.le_of_ble_eq_true rfl) (Nat.le_of_ble_eq_true rfl) (Nat.le_of_ble_eq_true rfl) (Nat.le_of_ble_eq_true rfl) (Nat.le_of_ble_eq_true rfl) (Nat.le_of_ble_eq_true rfl) ?_
    refine xs_pop C0 d_Rb_contact_63 rfl ?_
    refine xs_iload C0 d_Rb_contact_64 0 rfl ?_
    exact xs_iret C0 d_Rb_contact_66 (⟨rfl, rfl⟩) (Nat.le_of_ble_eq_true rfl) (Nat.le_of_ble_eq_true rfl)
  · refine xs_aload_n C0 d_Rb_contact_11 rfl 0 rfl ?_
    refine xs_get (q := 0) (v := .ref 1) C0 f_Rb_10 d_Rb_contact_12 rfl rfl ?_
    refine xs_get (q := 1) (v := .ref 2) C0 f_Rb_54 d_Rb_contact_15 rfl rfl ?_
    refine xs_iload_n C0 d_Rb_contact_18 rfl 2 rfl ?_
    refine xs_cS0 (ω' := (wd (f0, g0, nI n0) (f1, g1, nI n1) (f2, g2, nI n2) (f3, g3, nI n3) (f4, g4, nI n4) pl dr ki ow S T F H tt ++ rest)) (av := [.ref 2, .int v]) (st := []) (kc' := 0) (ks' := 0) C0 d_Rb_contact_19 l_Rb_74 (c_np0 (hv.resolve_left c1)) rfl rfl rfl (Nat.le_of_ble_eq_true rfl) (Nat.le_of_ble_eq_true rfl) (Nat.le_of_ble_eq_true rfl) (Nat.le_of_ble_eq_true rfl) (Nat.le_of_ble_eq_true rfl) (Nat.le_of_ble_eq_true rfl) ?_
    refine xs_iload_n C0 d_Rb_contact_22 rfl 3 rfl ?_
    refine xs_iload C0 d_Rb_contact_23 4 rfl ?_
    refine xs_cS0 (ω' := (wd (f0, g0, nI n0) (f1, g1, nI n1) (f2, g2, nI n2) (f3, g3, nI n3) (f4, g4, nI n4) pl dr ki ow S T F H tt ++ rest)) (av := [.int a, .int b]) (st := []) (kc' := 0) (ks' := 0) C0 d_Rb_contact_25 l_Rb_46 (c_n2 _ a b hg) rfl rfl rfl (Nat.le_of_ble_eq_true rfl) (Nat.le_of_ble_eq_true rfl) (Nat.le_of_ble_eq_true rfl) (Nat.le_of_ble_eq_true rfl) (Nat.le_of_ble_eq_true rfl) (Nat.le_of_ble_eq_true rfl) ?_
    refine xs_aload_n C0 d_Rb_contact_28 rfl 0 rfl ?_
    refine xs_get (q := 0) (v := .ref 1) C0 f_Rb_10 d_Rb_contact_29 rfl rfl ?_
    refine xs_get (q := 1) (v := .ref 5) C0 f_Rb_78 d_Rb_contact_32 rfl rfl ?_
    refine xs_cS0 (ω' := (wd (f0, g0, nI n0) (f1, g1, nI n1) (f2, g2, nI n2) (f3, g3, nI n3) (f4, g4, nI n4) pl dr ki ow S T F H tt ++ rest)) (av := [.ref 5]) (st := []) (kc' := 0) (ks' := 0) C0 d_Rb_contact_35 l_Rb_58 (c_nr1 hi) rfl rfl rfl (Nat.le_of_ble_eq_true rfl) (Nat.le_of_ble_eq_true rfl) (Nat.le_of_ble_eq_true rfl) (Nat.le_of_ble_eq_true rfl) (Nat.le_of_ble_eq_true rfl) (Nat.le_of_ble_eq_true rfl) ?_
    refine xs_pc (pc' := 38) rfl ?_
    refine xs_aload_n C0 d_Rb_contact_38 rfl 0 rfl ?_
    refine xs_get (q := 0) (v := .ref 1) C0 f_Rb_10 d_Rb_contact_39 rfl rfl ?_
    refine xs_iload_n C0 d_Rb_contact_42 rfl 1 rfl ?_
    refine xs_iload_n C0 d_Rb_contact_43 rfl 2 rfl ?_
    refine xs_iload_n C0 d_Rb_contact_44 rfl 3 rfl ?_
    refine xs_iload C0 d_Rb_contact_45 4 rfl ?_
    refine xs_cV1 (ω' := (wd (f0, g0, nI n0) (upd f1 n1 a, upd g1 n1 b, nI (n1 + 1)) (f2, g2, nI n2) (f3, g3, nI n3) (f4, g4, nI n4) pl dr (upd ki n1 u) (upd ow n1 (if u = 4 then 0 else v)) S T F H tt ++ rest)) (As := [.int u, .int v, .int a, .int b]) (st := []) (kc' := 0) (ks' := 0) (v := .int (nI n1)) C0 d_Rb_contact_47 l_Rb_81 rfl rfl (c_addC hi) rfl rfl rfl (Nat.le_of_ble_eq_true rfl) (Nat.le_of_ble_eq_true rfl) (Nat.le_of_ble_eq_true rfl) (Nat.le_of_ble_eq_true rfl) (Nat.le_of_ble_eq_true rfl) (Nat.le_of_ble_eq_true rfl) ?_
    refine xs_istore (lv' := [(5, .int (nI n1)), (0, .ref 0), (1, .int u), (2, .int v), (3, .int a), (4, .int b)]) C0 d_Rb_contact_50 (by decide) rfl ?_
    refine xs_aload_n C0 d_Rb_contact_52 rfl 1 rfl ?_
    refine xs_get (q := 0) (v := .ref 29) C0 f_Rb_31 d_Rb_contact_53 rfl rfl ?_
    refine xs_aload_n C0 d_Rb_contact_56 rfl 1 rfl ?_
    refine xs_get (q := 0) (v := .ref 21) C0 f_Rb_19 d_Rb_contact_57 rfl rfl ?_
    refine xs_pc (pc' := 60) rfl ?_
    refine xs_cV1 (ω' := (wd (f0, g0, nI n0) (upd f1 n1 a, upd g1 n1 b, nI (n1 + 1)) (f2, g2, nI n2) (f3, g3, nI n3) (f4, g4, nI n4) pl dr (upd ki n1 u) (upd ow n1 (if u = 4 then 0 else v)) S1 T F1 H tt ++ rest)) (As := [.ref 21]) (st := []) (kc' := 0) (ks' := 0) (v := .int c) C0 d_Rb_contact_60 l_Rb_66 rfl rfl (c_lafn (B := b_addC ((f0, g0, n0), (f1, g1, n1), (f2, g2, n2), (f3, g3, n3), (f4, g4, n4), pl, dr, ki, ow) u v a b) (okB_addC hB hi hu hg) hf) rfl rfl rfl (Nat.le_of_ble_eq_true rfl) (Nat.le_of_ble_eq_true rfl) (Nat.le_of_ble_eq_true rfl) (Nat.le_of_ble_eq_true rfl) (Nat.le_of_ble_eq_true rfl) (Nat.le_of_ble_eq_true rfl) ?_
    refine xs_pop C0 d_Rb_contact_63 rfl ?_
    refine xs_iload C0 d_Rb_contact_64 0 rfl ?_
    exact xs_iret C0 d_Rb_contact_66 (⟨rfl, rfl⟩) (Nat.le_of_ble_eq_true rfl) (Nat.le_of_ble_eq_true rfl)
set_option maxHeartbeats 4000000 in
set_option maxRecDepth 100000 in
theorem m_contT {B : wb} {S T : wt_S} {F : wt_F} {H : wt_H} {tt : Int32} {rest : xm_O} {a b u v : Int32} (hB : okB B) (h : ¬ (gw u 0 4 ∧ (u = 4 ∨ gw v 0 (nI B.1.2.2 - 1)) ∧ g2 a b)) : xm_M y_Rb_contact (Cond.code y_Rb_contact b_Rb_contact 6 (some .int)) (xm_rm 9 1 6) [.ref 0, .int u, .int v, .int a, .int b] (wB B S T F H tt ++ rest) (xm_eq (.inr "java/lang/IllegalArgumentException") (wB B S T F H tt ++ rest)) := by
  obtain ⟨⟨f0, g0, n0⟩, ⟨f1, g1, n1⟩, ⟨f2, g2, n2⟩, ⟨f3, g3, n3⟩, ⟨f4, g4, n4⟩, pl, dr, ki, ow⟩ := B
  obtain ⟨⟨h0, hp0⟩, ⟨h1, hp1⟩, ⟨h2, hp2⟩, ⟨h3, hp3⟩, ⟨h4, hp4⟩, hk⟩ := id hB
  dsimp only at h0 h1 h2 h3 h4 hp0 hp1 hp2 hp3 hp4 hk
  refine xm_of (by decide) (Nat.le_of_ble_eq_true rfl) (fun E C0 => ?_)
  refine xs_eq (ω' := (wd (f0, g0, nI n0) (f1, g1, nI n1) (f2, g2, nI n2) (f3, g3, nI n3) (f4, g4, nI n4) pl dr ki ow S T F H tt ++ rest)) (lv' := [(0, .ref 0), (1, .int u), (2, .int v), (3, .int a), (4, .int b)]) rfl rfl rfl ?_
  by_cases hu : gw u 0 4
  · by_cases hv : (u = 4 ∨ gw v 0 (nI n0 - 1))
    · refine xs_iload_n C0 d_Rb_contact_0 rfl 1 rfl ?_
      refine xs_iconst (v := 0) C0 d_Rb_contact_1 (by decide) ?_
      refine xs_iconst (v := 4) C0 d_Rb_contact_2 (by decide) ?_
      refine xs_cS0 (ω' := (wd (f0, g0, nI n0) (f1, g1, nI n1) (f2, g2, nI n2) (f3, g3, nI n3) (f4, g4, nI n4) pl dr ki ow S T F H tt ++ rest)) (av := [.int u, .int 0, .int 4]) (st := []) (kc' := 0) (ks' := 0) C0 d_Rb_contact_3 l_Rb_70 (c_nw _ u 0 4 hu) rfl rfl rfl (Nat.le_of_ble_eq_true rfl) (Nat.le_of_ble_eq_true rfl) (Nat.le_of_ble_eq_true rfl) (Nat.le_of_ble_eq_true rfl) (Nat.le_of_ble_eq_true rfl) (Nat.le_of_ble_eq_true rfl) ?_
      refine xs_iload_n C0 d_Rb_contact_6 rfl 1 rfl ?_
      refine xs_iconst (v := 4) C0 d_Rb_contact_7 (by decide) ?_
      refine xs_icmp_eq (tgt := 22) C0 d_Rb_contact_8 (by decide) (fun c1 => ?_) (fun c1 => ?_)
      · refine xs_iload_n C0 d_Rb_contact_22 rfl 3 rfl ?_
        refine xs_iload C0 d_Rb_contact_23 4 rfl ?_
        exact xs_cST (av := [.int a, .int b]) (st := []) C0 d_Rb_contact_25 l_Rb_46 (c_n2T _ a b (fun h9 => h ⟨hu, hv, h9⟩)) rfl rfl rfl (Nat.le_of_ble_eq_true rfl) (Nat.le_of_ble_eq_true rfl) (Nat.le_of_ble_eq_true rfl) (Nat.le_of_ble_eq_true rfl) (xt_leave C0 ⟨rfl, rfl⟩ (Nat.le_of_ble_eq_true rfl) (Nat.le_of_ble_eq_true rfl))
      · refine xs_aload_n C0 d_Rb_contact_11 rfl 0 rfl ?_
        refine xs_get (q := 0) (v := .ref 1) C0 f_Rb_10 d_Rb_contact_12 rfl rfl ?_
        refine xs_get (q := 1) (v := .ref 2) C0 f_Rb_54 d_Rb_contact_15 rfl rfl ?_
        refine xs_iload_n C0 d_Rb_contact_18 rfl 2 rfl ?_
        refine xs_cS0 (ω' := (wd (f0, g0, nI n0) (f1, g1, nI n1) (f2, g2, nI n2) (f3, g3, nI n3) (f4, g4, nI n4) pl dr ki ow S T F H tt ++ rest)) (av := [.ref 2, .int v]) (st := []) (kc' := 0) (ks' := 0) C0 d_Rb_contact_19 l_Rb_74 (c_np0 (hv.resolve_left c1)) rfl rfl rfl (Nat.le_of_ble_eq_true rfl) (Nat.le_of_ble_eq_true rfl) (Nat.le_of_ble_eq_true rfl) (Nat.le_of_ble_eq_true rfl) (Nat.le_of_ble_eq_true rfl) (Nat.le_of_ble_eq_true rfl) ?_
        refine xs_iload_n C0 d_Rb_contact_22 rfl 3 rfl ?_
        refine xs_iload C0 d_Rb_contact_23 4 rfl ?_
        exact xs_cST (av := [.int a, .int b]) (st := []) C0 d_Rb_contact_25 l_Rb_46 (c_n2T _ a b (fun h9 => h ⟨hu, hv, h9⟩)) rfl rfl rfl (Nat.le_of_ble_eq_true rfl) (Nat.le_of_ble_eq_true rfl) (Nat.le_of_ble_eq_true rfl) (Nat.le_of_ble_eq_true rfl) (xt_leave C0 ⟨rfl, rfl⟩ (Nat.le_of_ble_eq_true rfl) (Nat.le_of_ble_eq_true rfl))
    · refine xs_iload_n C0 d_Rb_contact_0 rfl 1 rfl ?_
      refine xs_iconst (v := 0) C0 d_Rb_contact_1 (by decide) ?_
      refine xs_iconst (v := 4) C0 d_Rb_contact_2 (by decide) ?_
      refine xs_cS0 (ω' := (wd (f0, g0, nI n0) (f1, g1, nI n1) (f2, g2, nI n2) (f3, g3, nI n3) (f4, g4, nI n4) pl dr ki ow S T F H tt ++ rest)) (av := [.int u, .int 0, .int 4]) (st := []) (kc' := 0) (ks' := 0) C0 d_Rb_contact_3 l_Rb_70 (c_nw _ u 0 4 hu) rfl rfl rfl (Nat.le_of_ble_eq_true rfl) (Nat.le_of_ble_eq_true rfl) (Nat.le_of_ble_eq_true rfl) (Nat.le_of_ble_eq_true rfl) (Nat.le_of_ble_eq_true rfl) (Nat.le_of_ble_eq_true rfl) ?_
      refine xs_iload_n C0 d_Rb_contact_6 rfl 1 rfl ?_
      refine xs_iconst (v := 4) C0 d_Rb_contact_7 (by decide) ?_
      refine xs_icmp_eq (tgt := 22) C0 d_Rb_contact_8 (by decide) (fun c9 => absurd (Or.inl c9) hv) (fun _ => ?_)
      refine xs_aload_n C0 d_Rb_contact_11 rfl 0 rfl ?_
      refine xs_get (q := 0) (v := .ref 1) C0 f_Rb_10 d_Rb_contact_12 rfl rfl ?_
      refine xs_get (q := 1) (v := .ref 2) C0 f_Rb_54 d_Rb_contact_15 rfl rfl ?_
      refine xs_iload_n C0 d_Rb_contact_18 rfl 2 rfl ?_
      exact xs_cST (av := [.ref 2, .int v]) (st := []) C0 d_Rb_contact_19 l_Rb_74 (c_npT0 (fun h9 => hv (Or.inr h9))) rfl rfl rfl (Nat.le_of_ble_eq_true rfl) (Nat.le_of_ble_eq_true rfl) (Nat.le_of_ble_eq_true rfl) (Nat.le_of_ble_eq_true rfl) (xt_leave C0 ⟨rfl, rfl⟩ (Nat.le_of_ble_eq_true rfl) (Nat.le_of_ble_eq_true rfl))
  · refine xs_iload_n C0 d_Rb_contact_0 rfl 1 rfl ?_
    refine xs_iconst (v := 0) C0 d_Rb_contact_1 (by decide) ?_
    refine xs_iconst (v := 4) C0 d_Rb_contact_2 (by decide) ?_
    exact xs_cST (av := [.int u, .int 0, .int 4]) (st := []) C0 d_Rb_contact_3 l_Rb_70 (c_nwT _ u 0 4 hu) rfl rfl rfl (Nat.le_of_ble_eq_true rfl) (Nat.le_of_ble_eq_true rfl) (Nat.le_of_ble_eq_true rfl) (Nat.le_of_ble_eq_true rfl) (xt_leave C0 ⟨rfl, rfl⟩ (Nat.le_of_ble_eq_true rfl) (Nat.le_of_ble_eq_true rfl))
set_option maxHeartbeats 4000000 in
set_option maxRecDepth 100000 in
theorem m_contX {B : wb} {S T : wt_S} {F : wt_F} {H : wt_H} {tt : Int32} {rest : xm_O} {a b u v : Int32} (hB : okB B) (hi : 64 ≤ B.2.1.2.2) (hu : gw u 0 4) (hv : u = 4 ∨ gw v 0 (nI B.1.2.2 - 1)) (hg : g2 a b) : xm_M y_Rb_contact (Cond.code y_Rb_contact b_Rb_contact 6 (some .int)) (xm_rm 9 1 6) [.ref 0, .int u, .int v, .int a, .int b] (wB B S T F H tt ++ rest) (xm_eq (.inr "java/lang/IllegalStateException") (wB B S T F H tt ++ rest)) := by
  obtain ⟨⟨f0, g0, n0⟩, ⟨f1, g1, n1⟩, ⟨f2, g2, n2⟩, ⟨f3, g3, n3⟩, ⟨f4, g4, n4⟩, pl, dr, ki, ow⟩ := B
  obtain ⟨⟨h0, hp0⟩, ⟨h1, hp1⟩, ⟨h2, hp2⟩, ⟨h3, hp3⟩, ⟨h4, hp4⟩, hk⟩ := id hB
  dsimp only at h0 h1 h2 h3 h4 hp0 hp1 hp2 hp3 hp4 hk
  refine xm_of (by decide) (Nat.le_of_ble_eq_true rfl) (fun E C0 => ?_)
  refine xs_eq (ω' := (wd (f0, g0, nI n0) (f1, g1, nI n1) (f2, g2, nI n2) (f3, g3, nI n3) (f4, g4, nI n4) pl dr ki ow S T F H tt ++ rest)) (lv' := [(0, .ref 0), (1, .int u), (2, .int v), (3, .int a), (4, .int b)]) rfl rfl rfl ?_
  refine xs_iload_n C0 d_Rb_contact_0 rfl 1 rfl ?_
  refine xs_iconst (v := 0) C0 d_Rb_contact_1 (by decide) ?_
  refine xs_iconst (v := 4) C0 d_Rb_contact_2 (by decide) ?_
  refine xs_cS0 (ω' := (wd (f0, g0, nI n0) (f1, g1, nI n1) (f2, g2, nI n2) (f3, g3, nI n3) (f4, g4, nI n4) pl dr ki ow S T F H tt ++ rest)) (av := [.int u, .int 0, .int 4]) (st := []) (kc' := 0) (ks' := 0) C0 d_Rb_contact_3 l_Rb_70 (c_nw _ u 0 4 hu) rfl rfl rfl (Nat.le_of_ble_eq_true rfl) (Nat.le_of_ble_eq_true rfl) (Nat.le_of_ble_eq_true rfl) (Nat.le_of_ble_eq_true rfl) (Nat.le_of_ble_eq_true rfl) (Nat.le_of_ble_eq_true rfl) ?_
  refine xs_iload_n C0 d_Rb_contact_6 rfl 1 rfl ?_
  refine xs_iconst (v := 4) C0 d_Rb_contact_7 (by decide) ?_
  refine xs_icmp_eq (tgt := 22) C0 d_Rb_contact_8 (by decide) (fun c1 => ?_) (fun c1 => ?_)
  · refine xs_iload_n C0 d_Rb_contact_22 rfl 3 rfl ?_
    refine xs_iload C0 d_Rb_contact_23 4 rfl ?_
    refine xs_cS0 (ω' := (wd (f0, g0, nI n0) (f1, g1, nI n1) (f2, g2, nI n2) (f3, g3, nI n3) (f4, g4, nI n4) pl dr ki ow S T F H tt ++ rest)) (av := [.int a, .int b]) (st := []) (kc' := 0) (ks' := 0) C0 d_Rb_contact_25 l_Rb_46 (c_n2 _ a b hg) rfl rfl rfl (Nat.le_of_ble_eq_true rfl) (Nat.le_of_ble_eq_true rfl) (Nat.le_of_ble_eq_true rfl) (Nat.le_of_ble_eq_true rfl) (Nat.le_of_ble_eq_true rfl) (Nat.le_of_ble_eq_true rfl) ?_
    refine xs_aload_n C0 d_Rb_contact_28 rfl 0 rfl ?_
    refine xs_get (q := 0) (v := .ref 1) C0 f_Rb_10 d_Rb_contact_29 rfl rfl ?_
    refine xs_get (q := 1) (v := .ref 5) C0 f_Rb_78 d_Rb_contact_32 rfl rfl ?_
    exact xs_cST (av := [.ref 5]) (st := []) C0 d_Rb_contact_35 l_Rb_58 (c_nrT1 hi (by omega)) rfl rfl rfl (Nat.le_of_ble_eq_true rfl) (Nat.le_of_ble_eq_true rfl) (Nat.le_of_ble_eq_true rfl) (Nat.le_of_ble_eq_true rfl) (xt_leave C0 ⟨rfl, rfl⟩ (Nat.le_of_ble_eq_true rfl) (Nat.le_of_ble_eq_true rfl))
  · refine xs_aload_n C0 d_Rb_contact_11 rfl 0 rfl ?_
    refine xs_get (q := 0) (v := .ref 1) C0 f_Rb_10 d_Rb_contact_12 rfl rfl ?_
    refine xs_get (q := 1) (v := .ref 2) C0 f_Rb_54 d_Rb_contact_15 rfl rfl ?_
    refine xs_iload_n C0 d_Rb_contact_18 rfl 2 rfl ?_
    refine xs_cS0 (ω' := (wd (f0, g0, nI n0) (f1, g1, nI n1) (f2, g2, nI n2) (f3, g3, nI n3) (f4, g4, nI n4) pl dr ki ow S T F H tt ++ rest)) (av := [.ref 2, .int v]) (st := []) (kc' := 0) (ks' := 0) C0 d_Rb_contact_19 l_Rb_74 (c_np0 (hv.resolve_left c1)) rfl rfl rfl (Nat.le_of_ble_eq_true rfl) (Nat.le_of_ble_eq_true rfl) (Nat.le_of_ble_eq_true rfl) (Nat.le_of_ble_eq_true rfl) (Nat.le_of_ble_eq_true rfl) (Nat.le_of_ble_eq_true rfl) ?_
    refine xs_iload_n C0 d_Rb_contact_22 rfl 3 rfl ?_
    refine xs_iload C0 d_Rb_contact_23 4 rfl ?_
    refine xs_cS0 (ω' := (wd (f0, g0, nI n0) (f1, g1, nI n1) (f2, g2, nI n2) (f3, g3, nI n3) (f4, g4, nI n4) pl dr ki ow S T F H tt ++ rest)) (av := [.int a, .int b]) (st := []) (kc' := 0) (ks' := 0) C0 d_Rb_contact_25 l_Rb_46 (c_n2 _ a b hg) rfl rfl rfl (Nat.le_of_ble_eq_true rfl) (Nat.le_of_ble_eq_true rfl) (Nat.le_of_ble_eq_true rfl) (Nat.le_of_ble_eq_true rfl) (Nat.le_of_ble_eq_true rfl) (Nat.le_of_ble_eq_true rfl) ?_
    refine xs_aload_n C0 d_Rb_contact_28 rfl 0 rfl ?_
    refine xs_get (q := 0) (v := .ref 1) C0 f_Rb_10 d_Rb_contact_29 rfl rfl ?_
    refine xs_get (q := 1) (v := .ref 5) C0 f_Rb_78 d_Rb_contact_32 rfl rfl ?_
    exact xs_cST (av := [.ref 5]) (st := []) C0 d_Rb_contact_35 l_Rb_58 (c_nrT1 hi (by omega)) rfl rfl rfl (Nat.le_of_ble_eq_true rfl) (Nat.le_of_ble_eq_true rfl) (Nat.le_of_ble_eq_true rfl) (Nat.le_of_ble_eq_true rfl) (xt_leave C0 ⟨rfl, rfl⟩ (Nat.le_of_ble_eq_true rfl) (Nat.le_of_ble_eq_true rfl))
set_option maxHeartbeats 4000000 in
set_option maxRecDepth 100000 in
theorem m_place2 {B : wb} {S T : wt_S} {F : wt_F} {H : wt_H} {tt : Int32} {rest : xm_O} {a b c : Int32} {S1 : wt_S} {F1 : wt_F} (hB : okB B) (hi : B.2.2.1.2.2 < 12) (hg : g2 a b) (hf : g_laf (b_add2 B a b) S F = (c, S1, F1)) : xm_M y_Rb_place (Cond.code y_Rb_place b_Rb_place 5 (some .int)) (xm_rm 5 0 0) [.ref 0, .ref 8, .int a, .int b] (wB B S T F H tt ++ rest) (xm_eq (.inl (some (.int (nI B.2.2.1.2.2)))) (wB (b_add2 B a b) S1 T F1 H tt ++ rest)) := by
  obtain ⟨⟨f0, g0, n0⟩, ⟨f1, g1, n1⟩, ⟨f2, g2, n2⟩, ⟨f3, g3, n3⟩, ⟨f4, g4, n4⟩, pl, dr, ki, ow⟩ := B
  obtain ⟨⟨h0, hp0⟩, ⟨h1, hp1⟩, ⟨h2, hp2⟩, ⟨h3, hp3⟩, ⟨h4, hp4⟩, hk⟩ := id hB
  dsimp only at h0 h1 h2 h3 h4 hp0 hp1 hp2 hp3 hp4 hk
  refine xm_of (by decide) (Nat.le_of_ble_eq_true rfl) (fun E C0 => ?_)
  refine xs_eq (ω' := (wd (f0, g0, nI n0) (f1, g1, nI n1) (f2, g2, nI n2) (f3, g3, nI n3) (f4, g4, nI n4) pl dr ki ow S T F H tt ++ rest)) (lv' := [(0, .ref 0), (1, .ref 8), (2, .int a), (3, .int b)]) rfl rfl rfl ?_
  refine xs_iload_n C0 d_Rb_place_0 rfl 2 rfl ?_
  refine xs_iload_n C0 d_Rb_place_1 rfl 3 rfl ?_
  refine xs_cS0 (ω' := (wd (f0, g0, nI n0) (f1, g1, nI n1) (f2, g2, nI n2) (f3, g3, nI n3) (f4, g4, nI n4) pl dr ki ow S T F H tt ++ rest)) (av := [.int a, .int b]) (st := []) (kc' := 0) (ks' := 0) C0 d_Rb_place_2 l_Rb_46 (c_n2 _ a b hg) rfl rfl rfl (Nat.le_of_ble_eq_true rfl) (Nat.le_of_ble_eq_true rfl) (Nat.le_of_ble_eq_true rfl) (Nat.le_of_ble_eq_true rfl) (Nat.le_of_ble_eq_true rfl) (Nat.le_of_ble_eq_true rfl) ?_
  refine xs_aload_n C0 d_Rb_place_5 rfl 1 rfl ?_
  refine xs_cS0 (ω' := (wd (f0, g0, nI n0) (f1, g1, nI n1) (f2, g2, nI n2) (f3, g3, nI n3) (f4, g4, nI n4) pl dr ki ow S T F H tt ++ rest)) (av := [.ref 8]) (st := []) (kc' := 0) (ks' := 0) C0 d_Rb_place_6 l_Rb_58 (c_nr2 hi) rfl rfl rfl (Nat.le_of_ble_eq_true rfl) (Nat.le_of_ble_eq_true rfl) (Nat.le_of_ble_eq_true rfl) (Nat.le_of_ble_eq_true rfl) (Nat.le_of_ble_eq_true rfl) (Nat.le_of_ble_eq_true rfl) ?_
  refine xs_aload_n C0 d_Rb_place_9 rfl 1 rfl ?_
  refine xs_iload_n C0 d_Rb_place_10 rfl 2 rfl ?_
  refine xs_iload_n C0 d_Rb_place_11 rfl 3 rfl ?_
  refine xs_cV1 (ω' := (wd (f0, g0, nI n0) (f1, g1, nI n1) (upd f2 n2 a, upd g2 n2 b, nI (n2 + 1)) (f3, g3, nI n3) (f4, g4, nI n4) pl dr ki ow S T F H tt ++ rest)) (As := [.int a, .int b]) (st := []) (kc' := 0) (ks' := 0) (v := .int (nI n2)) C0 d_Rb_place_12 l_Rb_196 rfl rfl (c_add2 hi) rfl rfl rfl (Nat.le_of_ble_eq_true rfl) (Nat.le_of_ble_eq_true rfl) (Nat.le_of_ble_eq_true rfl) (Nat.le_of_ble_eq_true rfl) (Nat.le_of_ble_eq_true rfl) (Nat.le_of_ble_eq_true rfl) ?_
  refine xs_istore (lv' := [(4, .int (nI n2)), (0, .ref 0), (1, .ref 8), (2, .int a), (3, .int b)]) C0 d_Rb_place_15 (by decide) rfl ?_
  refine xs_aload_n C0 d_Rb_place_17 rfl 1 rfl ?_
  refine xs_get (q := 0) (v := .ref 29) C0 f_Rb_31 d_Rb_place_18 rfl rfl ?_
  refine xs_pc (pc' := 21) rfl ?_
  refine xs_aload_n C0 d_Rb_place_21 rfl 1 rfl ?_
  refine xs_get (q := 0) (v := .ref 21) C0 f_Rb_19 d_Rb_place_22 rfl rfl ?_
  refine xs_cV1 (ω' := (wd (f0, g0, nI n0) (f1, g1, nI n1) (upd f2 n2 a, upd g2 n2 b, nI (n2 + 1)) (f3, g3, nI n3) (f4, g4, nI n4) pl dr ki ow S1 T F1 H tt ++ rest)) (As := [.ref 21]) (st := []) (kc' := 0) (ks' := 0) (v := .int c) C0 d_Rb_place_25 l_Rb_66 rfl rfl (c_lafn (B := b_add2 ((f0, g0, n0), (f1, g1, n1), (f2, g2, n2), (f3, g3, n3), (f4, g4, n4), pl, dr, ki, ow) a b) (okB_add2 hB hi hg) hf) rfl rfl rfl (Nat.le_of_ble_eq_true rfl) (Nat.le_of_ble_eq_true rfl) (Nat.le_of_ble_eq_true rfl) (Nat.le_of_ble_eq_true rfl) (Nat.le_of_ble_eq_true rfl) (Nat.le_of_ble_eq_true rfl) ?_
  refine xs_pop C0 d_Rb_place_28 rfl ?_
  refine xs_iload C0 d_Rb_place_29 0 rfl ?_
  exact xs_iret C0 d_Rb_place_31 (⟨rfl, rfl⟩) (Nat.le_of_ble_eq_true rfl) (Nat.le_of_ble_eq_true rfl)
set_option maxHeartbeats 4000000 in
set_option maxRecDepth 100000 in
theorem m_place2T {B : wb} {S T : wt_S} {F : wt_F} {H : wt_H} {tt : Int32} {rest : xm_O} {a b : Int32} (hB : okB B) (h : ¬ g2 a b) : xm_M y_Rb_place (Cond.code y_Rb_place b_Rb_place 5 (some .int)) (xm_rm 9 1 6) [.ref 0, .ref 8, .int a, .int b] (wB B S T F H tt ++ rest) (xm_eq (.inr "java/lang/IllegalArgumentException") (wB B S T F H tt ++ rest)) := by
  obtain ⟨⟨f0, g0, n0⟩, ⟨f1, g1, n1⟩, ⟨f2, g2, n2⟩, ⟨f3, g3, n3⟩, ⟨f4, g4, n4⟩, pl, dr, ki, ow⟩ := B
  obtain ⟨⟨h0, hp0⟩, ⟨h1, hp1⟩, ⟨h2, hp2⟩, ⟨h3, hp3⟩, ⟨h4, hp4⟩, hk⟩ := id hB
  dsimp only at h0 h1 h2 h3 h4 hp0 hp1 hp2 hp3 hp4 hk
  refine xm_of (by decide) (Nat.le_of_ble_eq_true rfl) (fun E C0 => ?_)
  refine xs_eq (ω' := (wd (f0, g0, nI n0) (f1, g1, nI n1) (f2, g2, nI n2) (f3, g3, nI n3) (f4, g4, nI n4) pl dr ki ow S T F H tt ++ rest)) (lv' := [(0, .ref 0), (1, .ref 8), (2, .int a), (3, .int b)]) rfl rfl rfl ?_
  refine xs_iload_n C0 d_Rb_place_0 rfl 2 rfl ?_
  refine xs_iload_n C0 d_Rb_place_1 rfl 3 rfl ?_
  exact xs_cST (av := [.int a, .int b]) (st := []) C0 d_Rb_place_2 l_Rb_46 (c_n2T _ a b h) rfl rfl rfl (Nat.le_of_ble_eq_true rfl) (Nat.le_of_ble_eq_true rfl) (Nat.le_of_ble_eq_true rfl) (Nat.le_of_ble_eq_true rfl) (xt_leave C0 ⟨rfl, rfl⟩ (Nat.le_of_ble_eq_true rfl) (Nat.le_of_ble_eq_true rfl))
set_option maxHeartbeats 4000000 in
set_option maxRecDepth 100000 in
theorem m_place2X {B : wb} {S T : wt_S} {F : wt_F} {H : wt_H} {tt : Int32} {rest : xm_O} {a b : Int32} (hB : okB B) (hi : 12 ≤ B.2.2.1.2.2) (hg : g2 a b) : xm_M y_Rb_place (Cond.code y_Rb_place b_Rb_place 5 (some .int)) (xm_rm 9 1 6) [.ref 0, .ref 8, .int a, .int b] (wB B S T F H tt ++ rest) (xm_eq (.inr "java/lang/IllegalStateException") (wB B S T F H tt ++ rest)) := by
  obtain ⟨⟨f0, g0, n0⟩, ⟨f1, g1, n1⟩, ⟨f2, g2, n2⟩, ⟨f3, g3, n3⟩, ⟨f4, g4, n4⟩, pl, dr, ki, ow⟩ := B
  obtain ⟨⟨h0, hp0⟩, ⟨h1, hp1⟩, ⟨h2, hp2⟩, ⟨h3, hp3⟩, ⟨h4, hp4⟩, hk⟩ := id hB
  dsimp only at h0 h1 h2 h3 h4 hp0 hp1 hp2 hp3 hp4 hk
  refine xm_of (by decide) (Nat.le_of_ble_eq_true rfl) (fun E C0 => ?_)
  refine xs_eq (ω' := (wd (f0, g0, nI n0) (f1, g1, nI n1) (f2, g2, nI n2) (f3, g3, nI n3) (f4, g4, nI n4) pl dr ki ow S T F H tt ++ rest)) (lv' := [(0, .ref 0), (1, .ref 8), (2, .int a), (3, .int b)]) rfl rfl rfl ?_
  refine xs_iload_n C0 d_Rb_place_0 rfl 2 rfl ?_
  refine xs_iload_n C0 d_Rb_place_1 rfl 3 rfl ?_
  refine xs_cS0 (ω' := (wd (f0, g0, nI n0) (f1, g1, nI n1) (f2, g2, nI n2) (f3, g3, nI n3) (f4, g4, nI n4) pl dr ki ow S T F H tt ++ rest)) (av := [.int a, .int b]) (st := []) (kc' := 0) (ks' := 0) C0 d_Rb_place_2 l_Rb_46 (c_n2 _ a b hg) rfl rfl rfl (Nat.le_of_ble_eq_true rfl) (Nat.le_of_ble_eq_true rfl) (Nat.le_of_ble_eq_true rfl) (Nat.le_of_ble_eq_true rfl) (Nat.le_of_ble_eq_true rfl) (Nat.le_of_ble_eq_true rfl) ?_
  refine xs_aload_n C0 d_Rb_place_5 rfl 1 rfl ?_
  exact xs_cST (av := [.ref 8]) (st := []) C0 d_Rb_place_6 l_Rb_58 (c_nrT2 hi (by omega)) rfl rfl rfl (Nat.le_of_ble_eq_true rfl) (Nat.le_of_ble_eq_true rfl) (Nat.le_of_ble_eq_true rfl) (Nat.le_of_ble_eq_true rfl) (xt_leave C0 ⟨rfl, rfl⟩ (Nat.le_of_ble_eq_true rfl) (Nat.le_of_ble_eq_true rfl))
set_option maxHeartbeats 4000000 in
set_option maxRecDepth 100000 in
theorem m_knob {B : wb} {S T : wt_S} {F : wt_F} {H : wt_H} {tt : Int32} {rest : xm_O} {a b c : Int32} {S1 : wt_S} {F1 : wt_F} (hB : okB B) (hi : B.2.2.1.2.2 < 12) (hg : g2 a b) (hf : g_laf (b_add2 B a b) S F = (c, S1, F1)) : xm_M y_Rb_knob (Cond.code y_Rb_knob b_Rb_knob 3 (some .int)) (xm_rm 6 0 0) [.ref 0, .int a, .int b] (wB B S T F H tt ++ rest) (xm_eq (.inl (some (.int (nI B.2.2.1.2.2)))) (wB (b_add2 B a b) S1 T F1 H tt ++ rest)) := by
  obtain ⟨⟨f0, g0, n0⟩, ⟨f1, g1, n1⟩, ⟨f2, g2, n2⟩, ⟨f3, g3, n3⟩, ⟨f4, g4, n4⟩, pl, dr, ki, ow⟩ := B
  obtain ⟨⟨h0, hp0⟩, ⟨h1, hp1⟩, ⟨h2, hp2⟩, ⟨h3, hp3⟩, ⟨h4, hp4⟩, hk⟩ := id hB
  dsimp only at h0 h1 h2 h3 h4 hp0 hp1 hp2 hp3 hp4 hk
  refine xm_of (by decide) (Nat.le_of_ble_eq_true rfl) (fun E C0 => ?_)
  refine xs_eq (ω' := (wd (f0, g0, nI n0) (f1, g1, nI n1) (f2, g2, nI n2) (f3, g3, nI n3) (f4, g4, nI n4) pl dr ki ow S T F H tt ++ rest)) (lv' := [(0, .ref 0), (1, .int a), (2, .int b)]) rfl rfl rfl ?_
  refine xs_aload_n C0 d_Rb_knob_0 rfl 0 rfl ?_
  refine xs_aload_n C0 d_Rb_knob_1 rfl 0 rfl ?_
  refine xs_get (q := 0) (v := .ref 1) C0 f_Rb_10 d_Rb_knob_2 rfl rfl ?_
  refine xs_get (q := 1) (v := .ref 8) C0 f_Rb_84 d_Rb_knob_5 rfl rfl ?_
  refine xs_iload_n C0 d_Rb_knob_8 rfl 1 rfl ?_
  refine xs_iload_n C0 d_Rb_knob_9 rfl 2 rfl ?_
  refine xs_cV1 (ω' := (wd (f0, g0, nI n0) (f1, g1, nI n1) (upd f2 n2 a, upd g2 n2 b, nI (n2 + 1)) (f3, g3, nI n3) (f4, g4, nI n4) pl dr ki ow S1 T F1 H tt ++ rest)) (As := [.ref 8, .int a, .int b]) (st := []) (kc' := 0) (ks' := 0) (v := .int (nI n2)) C0 d_Rb_knob_10 l_Rb_87 rfl rfl (m_place2 (B := ((f0, g0, n0), (f1, g1, n1), (f2, g2, n2), (f3, g3, n3), (f4, g4, n4), pl, dr, ki, ow)) hB hi hg hf) rfl rfl rfl (Nat.le_of_ble_eq_true rfl) (Nat.le_of_ble_eq_true rfl) (Nat.le_of_ble_eq_true rfl) (Nat.le_of_ble_eq_true rfl) (Nat.le_of_ble_eq_true rfl) (Nat.le_of_ble_eq_true rfl) ?_
  exact xs_iret C0 d_Rb_knob_13 (⟨rfl, rfl⟩) (Nat.le_of_ble_eq_true rfl) (Nat.le_of_ble_eq_true rfl)
set_option maxHeartbeats 4000000 in
set_option maxRecDepth 100000 in
theorem m_knobT {B : wb} {S T : wt_S} {F : wt_F} {H : wt_H} {tt : Int32} {rest : xm_O} {a b : Int32} (hB : okB B) (h : ¬ g2 a b) : xm_M y_Rb_knob (Cond.code y_Rb_knob b_Rb_knob 3 (some .int)) (xm_rm 10 1 6) [.ref 0, .int a, .int b] (wB B S T F H tt ++ rest) (xm_eq (.inr "java/lang/IllegalArgumentException") (wB B S T F H tt ++ rest)) := by
  obtain ⟨⟨f0, g0, n0⟩, ⟨f1, g1, n1⟩, ⟨f2, g2, n2⟩, ⟨f3, g3, n3⟩, ⟨f4, g4, n4⟩, pl, dr, ki, ow⟩ := B
  obtain ⟨⟨h0, hp0⟩, ⟨h1, hp1⟩, ⟨h2, hp2⟩, ⟨h3, hp3⟩, ⟨h4, hp4⟩, hk⟩ := id hB
  dsimp only at h0 h1 h2 h3 h4 hp0 hp1 hp2 hp3 hp4 hk
  refine xm_of (by decide) (Nat.le_of_ble_eq_true rfl) (fun E C0 => ?_)
  refine xs_eq (ω' := (wd (f0, g0, nI n0) (f1, g1, nI n1) (f2, g2, nI n2) (f3, g3, nI n3) (f4, g4, nI n4) pl dr ki ow S T F H tt ++ rest)) (lv' := [(0, .ref 0), (1, .int a), (2, .int b)]) rfl rfl rfl ?_
  refine xs_aload_n C0 d_Rb_knob_0 rfl 0 rfl ?_
  refine xs_aload_n C0 d_Rb_knob_1 rfl 0 rfl ?_
  refine xs_get (q := 0) (v := .ref 1) C0 f_Rb_10 d_Rb_knob_2 rfl rfl ?_
  refine xs_get (q := 1) (v := .ref 8) C0 f_Rb_84 d_Rb_knob_5 rfl rfl ?_
  refine xs_iload_n C0 d_Rb_knob_8 rfl 1 rfl ?_
  refine xs_iload_n C0 d_Rb_knob_9 rfl 2 rfl ?_
  exact xs_cVT (As := [.ref 8, .int a, .int b]) (st := []) C0 d_Rb_knob_10 l_Rb_87 rfl rfl (m_place2T (B := ((f0, g0, n0), (f1, g1, n1), (f2, g2, n2), (f3, g3, n3), (f4, g4, n4), pl, dr, ki, ow)) hB h) rfl rfl rfl (Nat.le_of_ble_eq_true rfl) (Nat.le_of_ble_eq_true rfl) (Nat.le_of_ble_eq_true rfl) (Nat.le_of_ble_eq_true rfl) (xt_leave C0 ⟨rfl, rfl⟩ (Nat.le_of_ble_eq_true rfl) (Nat.le_of_ble_eq_true rfl))
set_option maxHeartbeats 4000000 in
set_option maxRecDepth 100000 in
theorem m_knobX {B : wb} {S T : wt_S} {F : wt_F} {H : wt_H} {tt : Int32} {rest : xm_O} {a b : Int32} (hB : okB B) (hi : 12 ≤ B.2.2.1.2.2) (hg : g2 a b) : xm_M y_Rb_knob (Cond.code y_Rb_knob b_Rb_knob 3 (some .int)) (xm_rm 10 1 6) [.ref 0, .int a, .int b] (wB B S T F H tt ++ rest) (xm_eq (.inr "java/lang/IllegalStateException") (wB B S T F H tt ++ rest)) := by
  obtain ⟨⟨f0, g0, n0⟩, ⟨f1, g1, n1⟩, ⟨f2, g2, n2⟩, ⟨f3, g3, n3⟩, ⟨f4, g4, n4⟩, pl, dr, ki, ow⟩ := B
  obtain ⟨⟨h0, hp0⟩, ⟨h1, hp1⟩, ⟨h2, hp2⟩, ⟨h3, hp3⟩, ⟨h4, hp4⟩, hk⟩ := id hB
  dsimp only at h0 h1 h2 h3 h4 hp0 hp1 hp2 hp3 hp4 hk
  refine xm_of (by decide) (Nat.le_of_ble_eq_true rfl) (fun E C0 => ?_)
  refine xs_eq (ω' := (wd (f0, g0, nI n0) (f1, g1, nI n1) (f2, g2, nI n2) (f3, g3, nI n3) (f4, g4, nI n4) pl dr ki ow S T F H tt ++ rest)) (lv' := [(0, .ref 0), (1, .int a), (2, .int b)]) rfl rfl rfl ?_
  refine xs_aload_n C0 d_Rb_knob_0 rfl 0 rfl ?_
  refine xs_aload_n C0 d_Rb_knob_1 rfl 0 rfl ?_
  refine xs_get (q := 0) (v := .ref 1) C0 f_Rb_10 d_Rb_knob_2 rfl rfl ?_
  refine xs_get (q := 1) (v := .ref 8) C0 f_Rb_84 d_Rb_knob_5 rfl rfl ?_
  refine xs_iload_n C0 d_Rb_knob_8 rfl 1 rfl ?_
  refine xs_iload_n C0 d_Rb_knob_9 rfl 2 rfl ?_
  exact xs_cVT (As := [.ref 8, .int a, .int b]) (st := []) C0 d_Rb_knob_10 l_Rb_87 rfl rfl (m_place2X (B := ((f0, g0, n0), (f1, g1, n1), (f2, g2, n2), (f3, g3, n3), (f4, g4, n4), pl, dr, ki, ow)) hB hi hg) rfl rfl rfl (Nat.le_of_ble_eq_true rfl) (Nat.le_of_ble_eq_true rfl) (Nat.le_of_ble_eq_true rfl) (Nat.le_of_ble_eq_true rfl) (xt_leave C0 ⟨rfl, rfl⟩ (Nat.le_of_ble_eq_true rfl) (Nat.le_of_ble_eq_true rfl))
set_option maxHeartbeats 4000000 in
set_option maxRecDepth 100000 in
theorem m_place3 {B : wb} {S T : wt_S} {F : wt_F} {H : wt_H} {tt : Int32} {rest : xm_O} {a b c : Int32} {S1 : wt_S} {F1 : wt_F} (hB : okB B) (hi : B.2.2.2.1.2.2 < 24) (hg : g2 a b) (hf : g_laf (b_add3 B a b) S F = (c, S1, F1)) : xm_M y_Rb_place (Cond.code y_Rb_place b_Rb_place 5 (some .int)) (xm_rm 5 0 0) [.ref 0, .ref 11, .int a, .int b] (wB B S T F H tt ++ rest) (xm_eq (.inl (some (.int (nI B.2.2.2.1.2.2)))) (wB (b_add3 B a b) S1 T F1 H tt ++ rest)) := by
  obtain ⟨⟨f0, g0, n0⟩, ⟨f1, g1, n1⟩, ⟨f2, g2, n2⟩, ⟨f3, g3, n3⟩, ⟨f4, g4, n4⟩, pl, dr, ki, ow⟩ := B
  obtain ⟨⟨h0, hp0⟩, ⟨h1, hp1⟩, ⟨h2, hp2⟩, ⟨h3, hp3⟩, ⟨h4, hp4⟩, hk⟩ := id hB
  dsimp only at h0 h1 h2 h3 h4 hp0 hp1 hp2 hp3 hp4 hk
  refine xm_of (by decide) (Nat.le_of_ble_eq_true rfl) (fun E C0 => ?_)
  refine xs_eq (ω' := (wd (f0, g0, nI n0) (f1, g1, nI n1) (f2, g2, nI n2) (f3, g3, nI n3) (f4, g4, nI n4) pl dr ki ow S T F H tt ++ rest)) (lv' := [(0, .ref 0), (1, .ref 11), (2, .int a), (3, .int b)]) rfl rfl rfl ?_
  refine xs_iload_n C0 d_Rb_place_0 rfl 2 rfl ?_
  refine xs_iload_n C0 d_Rb_place_1 rfl 3 rfl ?_
  refine xs_cS0 (ω' := (wd (f0, g0, nI n0) (f1, g1, nI n1) (f2, g2, nI n2) (f3, g3, nI n3) (f4, g4, nI n4) pl dr ki ow S T F H tt ++ rest)) (av := [.int a, .int b]) (st := []) (kc' := 0) (ks' := 0) C0 d_Rb_place_2 l_Rb_46 (c_n2 _ a b hg) rfl rfl rfl (Nat.le_of_ble_eq_true rfl) (Nat.le_of_ble_eq_true rfl) (Nat.le_of_ble_eq_true rfl) (Nat.le_of_ble_eq_true rfl) (Nat.le_of_ble_eq_true rfl) (Nat.le_of_ble_eq_true rfl) ?_
  refine xs_aload_n C0 d_Rb_place_5 rfl 1 rfl ?_
  refine xs_cS0 (ω' := (wd (f0, g0, nI n0) (f1, g1, nI n1) (f2, g2, nI n2) (f3, g3, nI n3) (f4, g4, nI n4) pl dr ki ow S T F H tt ++ rest)) (av := [.ref 11]) (st := []) (kc' := 0) (ks' := 0) C0 d_Rb_place_6 l_Rb_58 (c_nr3 hi) rfl rfl rfl (Nat.le_of_ble_eq_true rfl) (Nat.le_of_ble_eq_true rfl) (Nat.le_of_ble_eq_true rfl) (Nat.le_of_ble_eq_true rfl) (Nat.le_of_ble_eq_true rfl) (Nat.le_of_ble_eq_true rfl) ?_
  refine xs_aload_n C0 d_Rb_place_9 rfl 1 rfl ?_
  refine xs_iload_n C0 d_Rb_place_10 rfl 2 rfl ?_
  refine xs_iload_n C0 d_Rb_place_11 rfl 3 rfl ?_
  refine xs_cV1 (ω' := (wd (f0, g0, nI n0) (f1, g1, nI n1) (f2, g2, nI n2) (upd f3 n3 a, upd g3 n3 b, nI (n3 + 1)) (f4, g4, nI n4) pl dr ki ow S T F H tt ++ rest)) (As := [.int a, .int b]) (st := []) (kc' := 0) (ks' := 0) (v := .int (nI n3)) C0 d_Rb_place_12 l_Rb_196 rfl rfl (c_add3 hi) rfl rfl rfl (Nat.le_of_ble_eq_true rfl) (Nat.le_of_ble_eq_true rfl) (Nat.le_of_ble_eq_true rfl) (Nat.le_of_ble_eq_true rfl) (Nat.le_of_ble_eq_true rfl) (Nat.le_of_ble_eq_true rfl) ?_
  refine xs_istore (lv' := [(4, .int (nI n3)), (0, .ref 0), (1, .ref 11), (2, .int a), (3, .int b)]) C0 d_Rb_place_15 (by decide) rfl ?_
  refine xs_aload_n C0 d_Rb_place_17 rfl 1 rfl ?_
  refine xs_get (q := 0) (v := .ref 29) C0 f_Rb_31 d_Rb_place_18 rfl rfl ?_
  refine xs_pc (pc' := 21) rfl ?_
  refine xs_aload_n C0 d_Rb_place_21 rfl 1 rfl ?_
  refine xs_get (q := 0) (v := .ref 21) C0 f_Rb_19 d_Rb_place_22 rfl rfl ?_
  refine xs_cV1 (ω' := (wd (f0, g0, nI n0) (f1, g1, nI n1) (f2, g2, nI n2) (upd f3 n3 a, upd g3 n3 b, nI (n3 + 1)) (f4, g4, nI n4) pl dr ki ow S1 T F1 H tt ++ rest)) (As := [.ref 21]) (st := []) (kc' := 0) (ks' := 0) (v := .int c) C0 d_Rb_place_25 l_Rb_66 rfl rfl (c_lafn (B := b_add3 ((f0, g0, n0), (f1, g1, n1), (f2, g2, n2), (f3, g3, n3), (f4, g4, n4), pl, dr, ki, ow) a b) (okB_add3 hB hi hg) hf) rfl rfl rfl (Nat.le_of_ble_eq_true rfl) (Nat.le_of_ble_eq_true rfl) (Nat.le_of_ble_eq_true rfl) (Nat.le_of_ble_eq_true rfl) (Nat.le_of_ble_eq_true rfl) (Nat.le_of_ble_eq_true rfl) ?_
  refine xs_pop C0 d_Rb_place_28 rfl ?_
  refine xs_iload C0 d_Rb_place_29 0 rfl ?_
  exact xs_iret C0 d_Rb_place_31 (⟨rfl, rfl⟩) (Nat.le_of_ble_eq_true rfl) (Nat.le_of_ble_eq_true rfl)
set_option maxHeartbeats 4000000 in
set_option maxRecDepth 100000 in
theorem m_place3T {B : wb} {S T : wt_S} {F : wt_F} {H : wt_H} {tt : Int32} {rest : xm_O} {a b : Int32} (hB : okB B) (h : ¬ g2 a b) : xm_M y_Rb_place (Cond.code y_Rb_place b_Rb_place 5 (some .int)) (xm_rm 9 1 6) [.ref 0, .ref 11, .int a, .int b] (wB B S T F H tt ++ rest) (xm_eq (.inr "java/lang/IllegalArgumentException") (wB B S T F H tt ++ rest)) := by
  obtain ⟨⟨f0, g0, n0⟩, ⟨f1, g1, n1⟩, ⟨f2, g2, n2⟩, ⟨f3, g3, n3⟩, ⟨f4, g4, n4⟩, pl, dr, ki, ow⟩ := B
  obtain ⟨⟨h0, hp0⟩, ⟨h1, hp1⟩, ⟨h2, hp2⟩, ⟨h3, hp3⟩, ⟨h4, hp4⟩, hk⟩ := id hB
  dsimp only at h0 h1 h2 h3 h4 hp0 hp1 hp2 hp3 hp4 hk
  refine xm_of (by decide) (Nat.le_of_ble_eq_true rfl) (fun E C0 => ?_)
  refine xs_eq (ω' := (wd (f0, g0, nI n0) (f1, g1, nI n1) (f2, g2, nI n2) (f3, g3, nI n3) (f4, g4, nI n4) pl dr ki ow S T F H tt ++ rest)) (lv' := [(0, .ref 0), (1, .ref 11), (2, .int a), (3, .int b)]) rfl rfl rfl ?_
  refine xs_iload_n C0 d_Rb_place_0 rfl 2 rfl ?_
  refine xs_iload_n C0 d_Rb_place_1 rfl 3 rfl ?_
  exact xs_cST (av := [.int a, .int b]) (st := []) C0 d_Rb_place_2 l_Rb_46 (c_n2T _ a b h) rfl rfl rfl (Nat.le_of_ble_eq_true rfl) (Nat.le_of_ble_eq_true rfl) (Nat.le_of_ble_eq_true rfl) (Nat.le_of_ble_eq_true rfl) (xt_leave C0 ⟨rfl, rfl⟩ (Nat.le_of_ble_eq_true rfl) (Nat.le_of_ble_eq_true rfl))
set_option maxHeartbeats 4000000 in
set_option maxRecDepth 100000 in
theorem m_place3X {B : wb} {S T : wt_S} {F : wt_F} {H : wt_H} {tt : Int32} {rest : xm_O} {a b : Int32} (hB : okB B) (hi : 24 ≤ B.2.2.2.1.2.2) (hg : g2 a b) : xm_M y_Rb_place (Cond.code y_Rb_place b_Rb_place 5 (some .int)) (xm_rm 9 1 6) [.ref 0, .ref 11, .int a, .int b] (wB B S T F H tt ++ rest) (xm_eq (.inr "java/lang/IllegalStateException") (wB B S T F H tt ++ rest)) := by
  obtain ⟨⟨f0, g0, n0⟩, ⟨f1, g1, n1⟩, ⟨f2, g2, n2⟩, ⟨f3, g3, n3⟩, ⟨f4, g4, n4⟩, pl, dr, ki, ow⟩ := B
  obtain ⟨⟨h0, hp0⟩, ⟨h1, hp1⟩, ⟨h2, hp2⟩, ⟨h3, hp3⟩, ⟨h4, hp4⟩, hk⟩ := id hB
  dsimp only at h0 h1 h2 h3 h4 hp0 hp1 hp2 hp3 hp4 hk
  refine xm_of (by decide) (Nat.le_of_ble_eq_true rfl) (fun E C0 => ?_)
  refine xs_eq (ω' := (wd (f0, g0, nI n0) (f1, g1, nI n1) (f2, g2, nI n2) (f3, g3, nI n3) (f4, g4, nI n4) pl dr ki ow S T F H tt ++ rest)) (lv' := [(0, .ref 0), (1, .ref 11), (2, .int a), (3, .int b)]) rfl rfl rfl ?_
  refine xs_iload_n C0 d_Rb_place_0 rfl 2 rfl ?_
  refine xs_iload_n C0 d_Rb_place_1 rfl 3 rfl ?_
  refine xs_cS0 (ω' := (wd (f0, g0, nI n0) (f1, g1, nI n1) (f2, g2, nI n2) (f3, g3, nI n3) (f4, g4, nI n4) pl dr ki ow S T F H tt ++ rest)) (av := [.int a, .int b]) (st := []) (kc' := 0) (ks' := 0) C0 d_Rb_place_2 l_Rb_46 (c_n2 _ a b hg) rfl rfl rfl (Nat.le_of_ble_eq_true rfl) (Nat.le_of_ble_eq_true rfl) (Nat.le_of_ble_eq_true rfl) (Nat.le_of_ble_eq_true rfl) (Nat.le_of_ble_eq_true rfl) (Nat.le_of_ble_eq_true rfl) ?_
  refine xs_aload_n C0 d_Rb_place_5 rfl 1 rfl ?_
  exact xs_cST (av := [.ref 11]) (st := []) C0 d_Rb_place_6 l_Rb_58 (c_nrT3 hi (by omega)) rfl rfl rfl (Nat.le_of_ble_eq_true rfl) (Nat.le_of_ble_eq_true rfl) (Nat.le_of_ble_eq_true rfl) (Nat.le_of_ble_eq_true rfl) (xt_leave C0 ⟨rfl, rfl⟩ (Nat.le_of_ble_eq_true rfl) (Nat.le_of_ble_eq_true rfl))
set_option maxHeartbeats 4000000 in
set_option maxRecDepth 100000 in
theorem m_diode {B : wb} {S T : wt_S} {F : wt_F} {H : wt_H} {tt : Int32} {rest : xm_O} {a b c : Int32} {S1 : wt_S} {F1 : wt_F} (hB : okB B) (hi : B.2.2.2.1.2.2 < 24) (hg : g2 a b) (hf : g_laf (b_add3 B a b) S F = (c, S1, F1)) : xm_M y_Rb_diode (Cond.code y_Rb_diode b_Rb_diode 3 (some .int)) (xm_rm 6 0 0) [.ref 0, .int a, .int b] (wB B S T F H tt ++ rest) (xm_eq (.inl (some (.int (nI B.2.2.2.1.2.2)))) (wB (b_add3 B a b) S1 T F1 H tt ++ rest)) := by
  obtain ⟨⟨f0, g0, n0⟩, ⟨f1, g1, n1⟩, ⟨f2, g2, n2⟩, ⟨f3, g3, n3⟩, ⟨f4, g4, n4⟩, pl, dr, ki, ow⟩ := B
  obtain ⟨⟨h0, hp0⟩, ⟨h1, hp1⟩, ⟨h2, hp2⟩, ⟨h3, hp3⟩, ⟨h4, hp4⟩, hk⟩ := id hB
  dsimp only at h0 h1 h2 h3 h4 hp0 hp1 hp2 hp3 hp4 hk
  refine xm_of (by decide) (Nat.le_of_ble_eq_true rfl) (fun E C0 => ?_)
  refine xs_eq (ω' := (wd (f0, g0, nI n0) (f1, g1, nI n1) (f2, g2, nI n2) (f3, g3, nI n3) (f4, g4, nI n4) pl dr ki ow S T F H tt ++ rest)) (lv' := [(0, .ref 0), (1, .int a), (2, .int b)]) rfl rfl rfl ?_
  refine xs_aload_n C0 d_Rb_diode_0 rfl 0 rfl ?_
  refine xs_aload_n C0 d_Rb_diode_1 rfl 0 rfl ?_
  refine xs_get (q := 0) (v := .ref 1) C0 f_Rb_10 d_Rb_diode_2 rfl rfl ?_
  refine xs_get (q := 1) (v := .ref 11) C0 f_Rb_91 d_Rb_diode_5 rfl rfl ?_
  refine xs_iload_n C0 d_Rb_diode_8 rfl 1 rfl ?_
  refine xs_iload_n C0 d_Rb_diode_9 rfl 2 rfl ?_
  refine xs_cV1 (ω' := (wd (f0, g0, nI n0) (f1, g1, nI n1) (f2, g2, nI n2) (upd f3 n3 a, upd g3 n3 b, nI (n3 + 1)) (f4, g4, nI n4) pl dr ki ow S1 T F1 H tt ++ rest)) (As := [.ref 11, .int a, .int b]) (st := []) (kc' := 0) (ks' := 0) (v := .int (nI n3)) C0 d_Rb_diode_10 l_Rb_87 rfl rfl (m_place3 (B := ((f0, g0, n0), (f1, g1, n1), (f2, g2, n2), (f3, g3, n3), (f4, g4, n4), pl, dr, ki, ow)) hB hi hg hf) rfl rfl rfl (Nat.le_of_ble_eq_true rfl) (Nat.le_of_ble_eq_true rfl) (Nat.le_of_ble_eq_true rfl) (Nat.le_of_ble_eq_true rfl) (Nat.le_of_ble_eq_true rfl) (Nat.le_of_ble_eq_true rfl) ?_
  exact xs_iret C0 d_Rb_diode_13 (⟨rfl, rfl⟩) (Nat.le_of_ble_eq_true rfl) (Nat.le_of_ble_eq_true rfl)
set_option maxHeartbeats 4000000 in
set_option maxRecDepth 100000 in
theorem m_diodeT {B : wb} {S T : wt_S} {F : wt_F} {H : wt_H} {tt : Int32} {rest : xm_O} {a b : Int32} (hB : okB B) (h : ¬ g2 a b) : xm_M y_Rb_diode (Cond.code y_Rb_diode b_Rb_diode 3 (some .int)) (xm_rm 10 1 6) [.ref 0, .int a, .int b] (wB B S T F H tt ++ rest) (xm_eq (.inr "java/lang/IllegalArgumentException") (wB B S T F H tt ++ rest)) := by
  obtain ⟨⟨f0, g0, n0⟩, ⟨f1, g1, n1⟩, ⟨f2, g2, n2⟩, ⟨f3, g3, n3⟩, ⟨f4, g4, n4⟩, pl, dr, ki, ow⟩ := B
  obtain ⟨⟨h0, hp0⟩, ⟨h1, hp1⟩, ⟨h2, hp2⟩, ⟨h3, hp3⟩, ⟨h4, hp4⟩, hk⟩ := id hB
  dsimp only at h0 h1 h2 h3 h4 hp0 hp1 hp2 hp3 hp4 hk
  refine xm_of (by decide) (Nat.le_of_ble_eq_true rfl) (fun E C0 => ?_)
  refine xs_eq (ω' := (wd (f0, g0, nI n0) (f1, g1, nI n1) (f2, g2, nI n2) (f3, g3, nI n3) (f4, g4, nI n4) pl dr ki ow S T F H tt ++ rest)) (lv' := [(0, .ref 0), (1, .int a), (2, .int b)]) rfl rfl rfl ?_
  refine xs_aload_n C0 d_Rb_diode_0 rfl 0 rfl ?_
  refine xs_aload_n C0 d_Rb_diode_1 rfl 0 rfl ?_
  refine xs_get (q := 0) (v := .ref 1) C0 f_Rb_10 d_Rb_diode_2 rfl rfl ?_
  refine xs_get (q := 1) (v := .ref 11) C0 f_Rb_91 d_Rb_diode_5 rfl rfl ?_
  refine xs_iload_n C0 d_Rb_diode_8 rfl 1 rfl ?_
  refine xs_iload_n C0 d_Rb_diode_9 rfl 2 rfl ?_
  exact xs_cVT (As := [.ref 11, .int a, .int b]) (st := []) C0 d_Rb_diode_10 l_Rb_87 rfl rfl (m_place3T (B := ((f0, g0, n0), (f1, g1, n1), (f2, g2, n2), (f3, g3, n3), (f4, g4, n4), pl, dr, ki, ow)) hB h) rfl rfl rfl (Nat.le_of_ble_eq_true rfl) (Nat.le_of_ble_eq_true rfl) (Nat.le_of_ble_eq_true rfl) (Nat.le_of_ble_eq_true rfl) (xt_leave C0 ⟨rfl, rfl⟩ (Nat.le_of_ble_eq_true rfl) (Nat.le_of_ble_eq_true rfl))
set_option maxHeartbeats 4000000 in
set_option maxRecDepth 100000 in
theorem m_diodeX {B : wb} {S T : wt_S} {F : wt_F} {H : wt_H} {tt : Int32} {rest : xm_O} {a b : Int32} (hB : okB B) (hi : 24 ≤ B.2.2.2.1.2.2) (hg : g2 a b) : xm_M y_Rb_diode (Cond.code y_Rb_diode b_Rb_diode 3 (some .int)) (xm_rm 10 1 6) [.ref 0, .int a, .int b] (wB B S T F H tt ++ rest) (xm_eq (.inr "java/lang/IllegalStateException") (wB B S T F H tt ++ rest)) := by
  obtain ⟨⟨f0, g0, n0⟩, ⟨f1, g1, n1⟩, ⟨f2, g2, n2⟩, ⟨f3, g3, n3⟩, ⟨f4, g4, n4⟩, pl, dr, ki, ow⟩ := B
  obtain ⟨⟨h0, hp0⟩, ⟨h1, hp1⟩, ⟨h2, hp2⟩, ⟨h3, hp3⟩, ⟨h4, hp4⟩, hk⟩ := id hB
  dsimp only at h0 h1 h2 h3 h4 hp0 hp1 hp2 hp3 hp4 hk
  refine xm_of (by decide) (Nat.le_of_ble_eq_true rfl) (fun E C0 => ?_)
  refine xs_eq (ω' := (wd (f0, g0, nI n0) (f1, g1, nI n1) (f2, g2, nI n2) (f3, g3, nI n3) (f4, g4, nI n4) pl dr ki ow S T F H tt ++ rest)) (lv' := [(0, .ref 0), (1, .int a), (2, .int b)]) rfl rfl rfl ?_
  refine xs_aload_n C0 d_Rb_diode_0 rfl 0 rfl ?_
  refine xs_aload_n C0 d_Rb_diode_1 rfl 0 rfl ?_
  refine xs_get (q := 0) (v := .ref 1) C0 f_Rb_10 d_Rb_diode_2 rfl rfl ?_
  refine xs_get (q := 1) (v := .ref 11) C0 f_Rb_91 d_Rb_diode_5 rfl rfl ?_
  refine xs_iload_n C0 d_Rb_diode_8 rfl 1 rfl ?_
  refine xs_iload_n C0 d_Rb_diode_9 rfl 2 rfl ?_
  exact xs_cVT (As := [.ref 11, .int a, .int b]) (st := []) C0 d_Rb_diode_10 l_Rb_87 rfl rfl (m_place3X (B := ((f0, g0, n0), (f1, g1, n1), (f2, g2, n2), (f3, g3, n3), (f4, g4, n4), pl, dr, ki, ow)) hB hi hg) rfl rfl rfl (Nat.le_of_ble_eq_true rfl) (Nat.le_of_ble_eq_true rfl) (Nat.le_of_ble_eq_true rfl) (Nat.le_of_ble_eq_true rfl) (xt_leave C0 ⟨rfl, rfl⟩ (Nat.le_of_ble_eq_true rfl) (Nat.le_of_ble_eq_true rfl))
set_option maxHeartbeats 4000000 in
set_option maxRecDepth 100000 in
theorem m_place4 {B : wb} {S T : wt_S} {F : wt_F} {H : wt_H} {tt : Int32} {rest : xm_O} {a b c : Int32} {S1 : wt_S} {F1 : wt_F} (hB : okB B) (hi : B.2.2.2.2.1.2.2 < 12) (hg : g2 a b) (hf : g_laf (b_add4 B a b) S F = (c, S1, F1)) : xm_M y_Rb_place (Cond.code y_Rb_place b_Rb_place 5 (some .int)) (xm_rm 5 0 0) [.ref 0, .ref 14, .int a, .int b] (wB B S T F H tt ++ rest) (xm_eq (.inl (some (.int (nI B.2.2.2.2.1.2.2)))) (wB (b_add4 B a b) S1 T F1 H tt ++ rest)) := by
  obtain ⟨⟨f0, g0, n0⟩, ⟨f1, g1, n1⟩, ⟨f2, g2, n2⟩, ⟨f3, g3, n3⟩, ⟨f4, g4, n4⟩, pl, dr, ki, ow⟩ := B
  obtain ⟨⟨h0, hp0⟩, ⟨h1, hp1⟩, ⟨h2, hp2⟩, ⟨h3, hp3⟩, ⟨h4, hp4⟩, hk⟩ := id hB
  dsimp only at h0 h1 h2 h3 h4 hp0 hp1 hp2 hp3 hp4 hk
  refine xm_of (by decide) (Nat.le_of_ble_eq_true rfl) (fun E C0 => ?_)
  refine xs_eq (ω' := (wd (f0, g0, nI n0) (f1, g1, nI n1) (f2, g2, nI n2) (f3, g3, nI n3) (f4, g4, nI n4) pl dr ki ow S T F H tt ++ rest)) (lv' := [(0, .ref 0), (1, .ref 14), (2, .int a), (3, .int b)]) rfl rfl rfl ?_
  refine xs_iload_n C0 d_Rb_place_0 rfl 2 rfl ?_
  refine xs_iload_n C0 d_Rb_place_1 rfl 3 rfl ?_
  refine xs_cS0 (ω' := (wd (f0, g0, nI n0) (f1, g1, nI n1) (f2, g2, nI n2) (f3, g3, nI n3) (f4, g4, nI n4) pl dr ki ow S T F H tt ++ rest)) (av := [.int a, .int b]) (st := []) (kc' := 0) (ks' := 0) C0 d_Rb_place_2 l_Rb_46 (c_n2 _ a b hg) rfl rfl rfl (Nat.le_of_ble_eq_true rfl) (Nat.le_of_ble_eq_true rfl) (Nat.le_of_ble_eq_true rfl) (Nat.le_of_ble_eq_true rfl) (Nat.le_of_ble_eq_true rfl) (Nat.le_of_ble_eq_true rfl) ?_
  refine xs_aload_n C0 d_Rb_place_5 rfl 1 rfl ?_
  refine xs_cS0 (ω' := (wd (f0, g0, nI n0) (f1, g1, nI n1) (f2, g2, nI n2) (f3, g3, nI n3) (f4, g4, nI n4) pl dr ki ow S T F H tt ++ rest)) (av := [.ref 14]) (st := []) (kc' := 0) (ks' := 0) C0 d_Rb_place_6 l_Rb_58 (c_nr4 hi) rfl rfl rfl (Nat.le_of_ble_eq_true rfl) (Nat.le_of_ble_eq_true rfl) (Nat.le_of_ble_eq_true rfl) (Nat.le_of_ble_eq_true rfl) (Nat.le_of_ble_eq_true rfl) (Nat.le_of_ble_eq_true rfl) ?_
  refine xs_aload_n C0 d_Rb_place_9 rfl 1 rfl ?_
  refine xs_iload_n C0 d_Rb_place_10 rfl 2 rfl ?_
  refine xs_iload_n C0 d_Rb_place_11 rfl 3 rfl ?_
  refine xs_cV1 (ω' := (wd (f0, g0, nI n0) (f1, g1, nI n1) (f2, g2, nI n2) (f3, g3, nI n3) (upd f4 n4 a, upd g4 n4 b, nI (n4 + 1)) pl dr ki ow S T F H tt ++ rest)) (As := [.int a, .int b]) (st := []) (kc' := 0) (ks' := 0) (v := .int (nI n4)) C0 d_Rb_place_12 l_Rb_196 rfl rfl (c_add4 hi) rfl rfl rfl (Nat.le_of_ble_eq_true rfl) (Nat.le_of_ble_eq_true rfl) (Nat.le_of_ble_eq_true rfl) (Nat.le_of_ble_eq_true rfl) (Nat.le_of_ble_eq_true rfl) (Nat.le_of_ble_eq_true rfl) ?_
  refine xs_istore (lv' := [(4, .int (nI n4)), (0, .ref 0), (1, .ref 14), (2, .int a), (3, .int b)]) C0 d_Rb_place_15 (by decide) rfl ?_
  refine xs_aload_n C0 d_Rb_place_17 rfl 1 rfl ?_
  refine xs_get (q := 0) (v := .ref 29) C0 f_Rb_31 d_Rb_place_18 rfl rfl ?_
  refine xs_pc (pc' := 21) rfl ?_
  refine xs_aload_n C0 d_Rb_place_21 rfl 1 rfl ?_
  refine xs_get (q := 0) (v := .ref 21) C0 f_Rb_19 d_Rb_place_22 rfl rfl ?_
  refine xs_cV1 (ω' := (wd (f0, g0, nI n0) (f1, g1, nI n1) (f2, g2, nI n2) (f3, g3, nI n3) (upd f4 n4 a, upd g4 n4 b, nI (n4 + 1)) pl dr ki ow S1 T F1 H tt ++ rest)) (As := [.ref 21]) (st := []) (kc' := 0) (ks' := 0) (v := .int c) C0 d_Rb_place_25 l_Rb_66 rfl rfl (c_lafn (B := b_add4 ((f0, g0, n0), (f1, g1, n1), (f2, g2, n2), (f3, g3, n3), (f4, g4, n4), pl, dr, ki, ow) a b) (okB_add4 hB hi hg) hf) rfl rfl rfl (Nat.le_of_ble_eq_true rfl) (Nat.le_of_ble_eq_true rfl) (Nat.le_of_ble_eq_true rfl) (Nat.le_of_ble_eq_true rfl) (Nat.le_of_ble_eq_true rfl) (Nat.le_of_ble_eq_true rfl) ?_
  refine xs_pop C0 d_Rb_place_28 rfl ?_
  refine xs_iload C0 d_Rb_place_29 0 rfl ?_
  exact xs_iret C0 d_Rb_place_31 (⟨rfl, rfl⟩) (Nat.le_of_ble_eq_true rfl) (Nat.le_of_ble_eq_true rfl)
set_option maxHeartbeats 4000000 in
set_option maxRecDepth 100000 in
theorem m_place4T {B : wb} {S T : wt_S} {F : wt_F} {H : wt_H} {tt : Int32} {rest : xm_O} {a b : Int32} (hB : okB B) (h : ¬ g2 a b) : xm_M y_Rb_place (Cond.code y_Rb_place b_Rb_place 5 (some .int)) (xm_rm 9 1 6) [.ref 0, .ref 14, .int a, .int b] (wB B S T F H tt ++ rest) (xm_eq (.inr "java/lang/IllegalArgumentException") (wB B S T F H tt ++ rest)) := by
  obtain ⟨⟨f0, g0, n0⟩, ⟨f1, g1, n1⟩, ⟨f2, g2, n2⟩, ⟨f3, g3, n3⟩, ⟨f4, g4, n4⟩, pl, dr, ki, ow⟩ := B
  obtain ⟨⟨h0, hp0⟩, ⟨h1, hp1⟩, ⟨h2, hp2⟩, ⟨h3, hp3⟩, ⟨h4, hp4⟩, hk⟩ := id hB
  dsimp only at h0 h1 h2 h3 h4 hp0 hp1 hp2 hp3 hp4 hk
  refine xm_of (by decide) (Nat.le_of_ble_eq_true rfl) (fun E C0 => ?_)
  refine xs_eq (ω' := (wd (f0, g0, nI n0) (f1, g1, nI n1) (f2, g2, nI n2) (f3, g3, nI n3) (f4, g4, nI n4) pl dr ki ow S T F H tt ++ rest)) (lv' := [(0, .ref 0), (1, .ref 14), (2, .int a), (3, .int b)]) rfl rfl rfl ?_
  refine xs_iload_n C0 d_Rb_place_0 rfl 2 rfl ?_
  refine xs_iload_n C0 d_Rb_place_1 rfl 3 rfl ?_
  exact xs_cST (av := [.int a, .int b]) (st := []) C0 d_Rb_place_2 l_Rb_46 (c_n2T _ a b h) rfl rfl rfl (Nat.le_of_ble_eq_true rfl) (Nat.le_of_ble_eq_true rfl) (Nat.le_of_ble_eq_true rfl) (Nat.le_of_ble_eq_true rfl) (xt_leave C0 ⟨rfl, rfl⟩ (Nat.le_of_ble_eq_true rfl) (Nat.le_of_ble_eq_true rfl))
set_option maxHeartbeats 4000000 in
set_option maxRecDepth 100000 in
theorem m_place4X {B : wb} {S T : wt_S} {F : wt_F} {H : wt_H} {tt : Int32} {rest : xm_O} {a b : Int32} (hB : okB B) (hi : 12 ≤ B.2.2.2.2.1.2.2) (hg : g2 a b) : xm_M y_Rb_place (Cond.code y_Rb_place b_Rb_place 5 (some .int)) (xm_rm 9 1 6) [.ref 0, .ref 14, .int a, .int b] (wB B S T F H tt ++ rest) (xm_eq (.inr "java/lang/IllegalStateException") (wB B S T F H tt ++ rest)) := by
  obtain ⟨⟨f0, g0, n0⟩, ⟨f1, g1, n1⟩, ⟨f2, g2, n2⟩, ⟨f3, g3, n3⟩, ⟨f4, g4, n4⟩, pl, dr, ki, ow⟩ := B
  obtain ⟨⟨h0, hp0⟩, ⟨h1, hp1⟩, ⟨h2, hp2⟩, ⟨h3, hp3⟩, ⟨h4, hp4⟩, hk⟩ := id hB
  dsimp only at h0 h1 h2 h3 h4 hp0 hp1 hp2 hp3 hp4 hk
  refine xm_of (by decide) (Nat.le_of_ble_eq_true rfl) (fun E C0 => ?_)
  refine xs_eq (ω' := (wd (f0, g0, nI n0) (f1, g1, nI n1) (f2, g2, nI n2) (f3, g3, nI n3) (f4, g4, nI n4) pl dr ki ow S T F H tt ++ rest)) (lv' := [(0, .ref 0), (1, .ref 14), (2, .int a), (3, .int b)]) rfl rfl rfl ?_
  refine xs_iload_n C0 d_Rb_place_0 rfl 2 rfl ?_
  refine xs_iload_n C0 d_Rb_place_1 rfl 3 rfl ?_
  refine xs_cS0 (ω' := (wd (f0, g0, nI n0) (f1, g1, nI n1) (f2, g2, nI n2) (f3, g3, nI n3) (f4, g4, nI n4) pl dr ki ow S T F H tt ++ rest)) (av := [.int a, .int b]) (st := []) (kc' := 0) (ks' := 0) C0 d_Rb_place_2 l_Rb_46 (c_n2 _ a b hg) rfl rfl rfl (Nat.le_of_ble_eq_true rfl) (Nat.le_of_ble_eq_true rfl) (Nat.le_of_ble_eq_true rfl) (Nat.le_of_ble_eq_true rfl) (Nat.le_of_ble_eq_true rfl) (Nat.le_of_ble_eq_true rfl) ?_
  refine xs_aload_n C0 d_Rb_place_5 rfl 1 rfl ?_
  exact xs_cST (av := [.ref 14]) (st := []) C0 d_Rb_place_6 l_Rb_58 (c_nrT4 hi (by omega)) rfl rfl rfl (Nat.le_of_ble_eq_true rfl) (Nat.le_of_ble_eq_true rfl) (Nat.le_of_ble_eq_true rfl) (Nat.le_of_ble_eq_true rfl) (xt_leave C0 ⟨rfl, rfl⟩ (Nat.le_of_ble_eq_true rfl) (Nat.le_of_ble_eq_true rfl))
set_option maxHeartbeats 4000000 in
set_option maxRecDepth 100000 in
theorem m_lamp {B : wb} {S T : wt_S} {F : wt_F} {H : wt_H} {tt : Int32} {rest : xm_O} {a b c : Int32} {S1 : wt_S} {F1 : wt_F} (hB : okB B) (hi : B.2.2.2.2.1.2.2 < 12) (hg : g2 a b) (hf : g_laf (b_add4 B a b) S F = (c, S1, F1)) : xm_M y_Rb_lamp (Cond.code y_Rb_lamp b_Rb_lamp 3 (some .int)) (xm_rm 6 0 0) [.ref 0, .int a, .int b] (wB B S T F H tt ++ rest) (xm_eq (.inl (some (.int (nI B.2.2.2.2.1.2.2)))) (wB (b_add4 B a b) S1 T F1 H tt ++ rest)) := by
  obtain ⟨⟨f0, g0, n0⟩, ⟨f1, g1, n1⟩, ⟨f2, g2, n2⟩, ⟨f3, g3, n3⟩, ⟨f4, g4, n4⟩, pl, dr, ki, ow⟩ := B
  obtain ⟨⟨h0, hp0⟩, ⟨h1, hp1⟩, ⟨h2, hp2⟩, ⟨h3, hp3⟩, ⟨h4, hp4⟩, hk⟩ := id hB
  dsimp only at h0 h1 h2 h3 h4 hp0 hp1 hp2 hp3 hp4 hk
  refine xm_of (by decide) (Nat.le_of_ble_eq_true rfl) (fun E C0 => ?_)
  refine xs_eq (ω' := (wd (f0, g0, nI n0) (f1, g1, nI n1) (f2, g2, nI n2) (f3, g3, nI n3) (f4, g4, nI n4) pl dr ki ow S T F H tt ++ rest)) (lv' := [(0, .ref 0), (1, .int a), (2, .int b)]) rfl rfl rfl ?_
  refine xs_aload_n C0 d_Rb_lamp_0 rfl 0 rfl ?_
  refine xs_aload_n C0 d_Rb_lamp_1 rfl 0 rfl ?_
  refine xs_get (q := 0) (v := .ref 1) C0 f_Rb_10 d_Rb_lamp_2 rfl rfl ?_
  refine xs_get (q := 1) (v := .ref 14) C0 f_Rb_94 d_Rb_lamp_5 rfl rfl ?_
  refine xs_iload_n C0 d_Rb_lamp_8 rfl 1 rfl ?_
  refine xs_iload_n C0 d_Rb_lamp_9 rfl 2 rfl ?_
  refine xs_cV1 (ω' := (wd (f0, g0, nI n0) (f1, g1, nI n1) (f2, g2, nI n2) (f3, g3, nI n3) (upd f4 n4 a, upd g4 n4 b, nI (n4 + 1)) pl dr ki ow S1 T F1 H tt ++ rest)) (As := [.ref 14, .int a, .int b]) (st := []) (kc' := 0) (ks' := 0) (v := .int (nI n4)) C0 d_Rb_lamp_10 l_Rb_87 rfl rfl (m_place4 (B := ((f0, g0, n0), (f1, g1, n1), (f2, g2, n2), (f3, g3, n3), (f4, g4, n4), pl, dr, ki, ow)) hB hi hg hf) rfl rfl rfl (Nat.le_of_ble_eq_true rfl) (Nat.le_of_ble_eq_true rfl) (Nat.le_of_ble_eq_true rfl) (Nat.le_of_ble_eq_true rfl) (Nat.le_of_ble_eq_true rfl) (Nat.le_of_ble_eq_true rfl) ?_
  exact xs_iret C0 d_Rb_lamp_13 (⟨rfl, rfl⟩) (Nat.le_of_ble_eq_true rfl) (Nat.le_of_ble_eq_true rfl)
set_option maxHeartbeats 4000000 in
set_option maxRecDepth 100000 in
theorem m_lampT {B : wb} {S T : wt_S} {F : wt_F} {H : wt_H} {tt : Int32} {rest : xm_O} {a b : Int32} (hB : okB B) (h : ¬ g2 a b) : xm_M y_Rb_lamp (Cond.code y_Rb_lamp b_Rb_lamp 3 (some .int)) (xm_rm 10 1 6) [.ref 0, .int a, .int b] (wB B S T F H tt ++ rest) (xm_eq (.inr "java/lang/IllegalArgumentException") (wB B S T F H tt ++ rest)) := by
  obtain ⟨⟨f0, g0, n0⟩, ⟨f1, g1, n1⟩, ⟨f2, g2, n2⟩, ⟨f3, g3, n3⟩, ⟨f4, g4, n4⟩, pl, dr, ki, ow⟩ := B
  obtain ⟨⟨h0, hp0⟩, ⟨h1, hp1⟩, ⟨h2, hp2⟩, ⟨h3, hp3⟩, ⟨h4, hp4⟩, hk⟩ := id hB
  dsimp only at h0 h1 h2 h3 h4 hp0 hp1 hp2 hp3 hp4 hk
  refine xm_of (by decide) (Nat.le_of_ble_eq_true rfl) (fun E C0 => ?_)
  refine xs_eq (ω' := (wd (f0, g0, nI n0) (f1, g1, nI n1) (f2, g2, nI n2) (f3, g3, nI n3) (f4, g4, nI n4) pl dr ki ow S T F H tt ++ rest)) (lv' := [(0, .ref 0), (1, .int a), (2, .int b)]) rfl rfl rfl ?_
  refine xs_aload_n C0 d_Rb_lamp_0 rfl 0 rfl ?_
  refine xs_aload_n C0 d_Rb_lamp_1 rfl 0 rfl ?_
  refine xs_get (q := 0) (v := .ref 1) C0 f_Rb_10 d_Rb_lamp_2 rfl rfl ?_
  refine xs_get (q := 1) (v := .ref 14) C0 f_Rb_94 d_Rb_lamp_5 rfl rfl ?_
  refine xs_iload_n C0 d_Rb_lamp_8 rfl 1 rfl ?_
  refine xs_iload_n C0 d_Rb_lamp_9 rfl 2 rfl ?_
  exact xs_cVT (As := [.ref 14, .int a, .int b]) (st := []) C0 d_Rb_lamp_10 l_Rb_87 rfl rfl (m_place4T (B := ((f0, g0, n0), (f1, g1, n1), (f2, g2, n2), (f3, g3, n3), (f4, g4, n4), pl, dr, ki, ow)) hB h) rfl rfl rfl (Nat.le_of_ble_eq_true rfl) (Nat.le_of_ble_eq_true rfl) (Nat.le_of_ble_eq_true rfl) (Nat.le_of_ble_eq_true rfl) (xt_leave C0 ⟨rfl, rfl⟩ (Nat.le_of_ble_eq_true rfl) (Nat.le_of_ble_eq_true rfl))
set_option maxHeartbeats 4000000 in
set_option maxRecDepth 100000 in
theorem m_lampX {B : wb} {S T : wt_S} {F : wt_F} {H : wt_H} {tt : Int32} {rest : xm_O} {a b : Int32} (hB : okB B) (hi : 12 ≤ B.2.2.2.2.1.2.2) (hg : g2 a b) : xm_M y_Rb_lamp (Cond.code y_Rb_lamp b_Rb_lamp 3 (some .int)) (xm_rm 10 1 6) [.ref 0, .int a, .int b] (wB B S T F H tt ++ rest) (xm_eq (.inr "java/lang/IllegalStateException") (wB B S T F H tt ++ rest)) := by
  obtain ⟨⟨f0, g0, n0⟩, ⟨f1, g1, n1⟩, ⟨f2, g2, n2⟩, ⟨f3, g3, n3⟩, ⟨f4, g4, n4⟩, pl, dr, ki, ow⟩ := B
  obtain ⟨⟨h0, hp0⟩, ⟨h1, hp1⟩, ⟨h2, hp2⟩, ⟨h3, hp3⟩, ⟨h4, hp4⟩, hk⟩ := id hB
  dsimp only at h0 h1 h2 h3 h4 hp0 hp1 hp2 hp3 hp4 hk
  refine xm_of (by decide) (Nat.le_of_ble_eq_true rfl) (fun E C0 => ?_)
  refine xs_eq (ω' := (wd (f0, g0, nI n0) (f1, g1, nI n1) (f2, g2, nI n2) (f3, g3, nI n3) (f4, g4, nI n4) pl dr ki ow S T F H tt ++ rest)) (lv' := [(0, .ref 0), (1, .int a), (2, .int b)]) rfl rfl rfl ?_
  refine xs_aload_n C0 d_Rb_lamp_0 rfl 0 rfl ?_
  refine xs_aload_n C0 d_Rb_lamp_1 rfl 0 rfl ?_
  refine xs_get (q := 0) (v := .ref 1) C0 f_Rb_10 d_Rb_lamp_2 rfl rfl ?_
  refine xs_get (q := 1) (v := .ref 14) C0 f_Rb_94 d_Rb_lamp_5 rfl rfl ?_
  refine xs_iload_n C0 d_Rb_lamp_8 rfl 1 rfl ?_
  refine xs_iload_n C0 d_Rb_lamp_9 rfl 2 rfl ?_
  exact xs_cVT (As := [.ref 14, .int a, .int b]) (st := []) C0 d_Rb_lamp_10 l_Rb_87 rfl rfl (m_place4X (B := ((f0, g0, n0), (f1, g1, n1), (f2, g2, n2), (f3, g3, n3), (f4, g4, n4), pl, dr, ki, ow)) hB hi hg) rfl rfl rfl (Nat.le_of_ble_eq_true rfl) (Nat.le_of_ble_eq_true rfl) (Nat.le_of_ble_eq_true rfl) (Nat.le_of_ble_eq_true rfl) (xt_leave C0 ⟨rfl, rfl⟩ (Nat.le_of_ble_eq_true rfl) (Nat.le_of_ble_eq_true rfl))
def g_turn (B : wb) (S : wt_S) (F : wt_F) (x z : Int32) : wt_S × wt_F := (g_laf B (f_sk S x z).2 F).2
theorem f_sk01 (S : wt_S) (k b : Int32) : (f_sk S k b).1 = 0 ∨ (f_sk S k b).1 = 1 := xm_b01
set_option maxHeartbeats 4000000 in
set_option maxRecDepth 100000 in
theorem m_turn {B : wb} {S T : wt_S} {F : wt_F} {H : wt_H} {tt : Int32} {rest : xm_O} {x z b : Int32} {S1 : wt_S} {F1 : wt_F} (hB : okB B) (h : gw x 0 (nI B.2.2.1.2.2 - 1)) (hs : (f_sk S x z).1 = b) (hf : g_turn B S F x z = (S1, F1)) : xm_M y_Rb_turn (Cond.code y_Rb_turn b_Rb_turn 4 (some .boolean)) (xm_rm 5 0 0) [.ref 0, .int x, .int z] (wB B S T F H tt ++ rest) (xm_eq (.inl (some (.int b))) (wB B S1 T F1 H tt ++ rest)) := by
  obtain ⟨⟨f0, g0, n0⟩, ⟨f1, g1, n1⟩, ⟨f2, g2, n2⟩, ⟨f3, g3, n3⟩, ⟨f4, g4, n4⟩, pl, dr, ki, ow⟩ := B
  obtain ⟨⟨h0, hp0⟩, ⟨h1, hp1⟩, ⟨h2, hp2⟩, ⟨h3, hp3⟩, ⟨h4, hp4⟩, hk⟩ := id hB
  dsimp only at h0 h1 h2 h3 h4 hp0 hp1 hp2 hp3 hp4 hk
  refine xm_of (by decide) (Nat.le_of_ble_eq_true rfl) (fun E C0 => ?_)
  refine xs_eq (ω' := (wd (f0, g0, nI n0) (f1, g1, nI n1) (f2, g2, nI n2) (f3, g3, nI n3) (f4, g4, nI n4) pl dr ki ow S T F H tt ++ rest)) (lv' := [(0, .ref 0), (1, .int x), (2, .int z)]) rfl rfl rfl ?_
  refine xs_aload_n C0 d_Rb_turn_0 rfl 0 rfl ?_
  refine xs_get (q := 0) (v := .ref 1) C0 f_Rb_10 d_Rb_turn_1 rfl rfl ?_
  refine xs_get (q := 1) (v := .ref 8) C0 f_Rb_84 d_Rb_turn_4 rfl rfl ?_
  refine xs_iload_n C0 d_Rb_turn_7 rfl 1 rfl ?_
  refine xs_cS0 (ω' := (wd (f0, g0, nI n0) (f1, g1, nI n1) (f2, g2, nI n2) (f3, g3, nI n3) (f4, g4, nI n4) pl dr ki ow S T F H tt ++ rest)) (av := [.ref 8, .int x]) (st := []) (kc' := 0) (ks' := 0) C0 d_Rb_turn_8 l_Rb_74 (c_np2 h) rfl rfl rfl (Nat.le_of_ble_eq_true rfl) (Nat.le_of_ble_eq_true rfl) (Nat.le_of_ble_eq_true rfl) (Nat.le_of_ble_eq_true rfl) (Nat.le_of_ble_eq_true rfl) (Nat.le_of_ble_eq_true rfl) ?_
  refine xs_aload_n C0 d_Rb_turn_11 rfl 0 rfl ?_
  refine xs_get (q := 0) (v := .ref 21) C0 f_Rb_19 d_Rb_turn_12 rfl rfl ?_
  refine xs_iload_n C0 d_Rb_turn_15 rfl 1 rfl ?_
  refine xs_iload_n C0 d_Rb_turn_16 rfl 2 rfl ?_
  obtain ⟨b_1, S_2, hb_1⟩ : ∃ X Y, f_sk S x z = (X, Y) := ⟨_, _, rfl⟩
  refine xs_cV1 (ω' := (wd (f0, g0, nI n0) (f1, g1, nI n1) (f2, g2, nI n2) (f3, g3, nI n3) (f4, g4, nI n4) pl dr ki ow S_2 T F H tt ++ rest)) (As := [.int x, .int z]) (st := []) (kc' := 0) (ks' := 0) (v := .int b_1) C0 d_Rb_turn_17 l_Rb_97 rfl rfl (c_skn hb_1) rfl rfl rfl (Nat.le_of_ble_eq_true rfl) (Nat.le_of_ble_eq_true rfl) (Nat.le_of_ble_eq_true rfl) (Nat.le_of_ble_eq_true rfl) (Nat.le_of_ble_eq_true rfl) (Nat.le_of_ble_eq_true rfl) ?_
  refine xs_istore_n (lv' := [(3, .int b_1), (0, .ref 0), (1, .int x), (2, .int z)]) C0 d_Rb_turn_20 rfl (by decide) rfl ?_
  refine xs_aload_n C0 d_Rb_turn_21 rfl 1 rfl ?_
  refine xs_pc (pc' := 22) rfl ?_
  refine xs_get (q := 0) (v := .ref 29) C0 f_Rb_31 d_Rb_turn_22 rfl rfl ?_
  refine xs_aload_n C0 d_Rb_turn_25 rfl 1 rfl ?_
  refine xs_get (q := 0) (v := .ref 21) C0 f_Rb_19 d_Rb_turn_26 rfl rfl ?_
  obtain ⟨b_3, S_4, F_5, hb_3⟩ : ∃ X Y Z, g_laf ((f0, g0, n0), (f1, g1, n1), (f2, g2, n2), (f3, g3, n3), (f4, g4, n4), pl, dr, ki, ow) S_2 F = (X, Y, Z) := ⟨_, _, _, rfl⟩
  refine xs_cV1 (ω' := (wd (f0, g0, nI n0) (f1, g1, nI n1) (f2, g2, nI n2) (f3, g3, nI n3) (f4, g4, nI n4) pl dr ki ow S_4 T F_5 H tt ++ rest)) (As := [.ref 21]) (st := []) (kc' := 0) (ks' := 0) (v := .int b_3) C0 d_Rb_turn_29 l_Rb_66 rfl rfl (c_lafn (B := ((f0, g0, n0), (f1, g1, n1), (f2, g2, n2), (f3, g3, n3), (f4, g4, n4), pl, dr, ki, ow)) hB hb_3) rfl rfl rfl (Nat.le_of_ble_eq_true rfl) (Nat.le_of_ble_eq_true rfl) (Nat.le_of_ble_eq_true rfl) (Nat.le_of_ble_eq_true rfl) (Nat.le_of_ble_eq_true rfl) (Nat.le_of_ble_eq_true rfl) ?_
  refine xs_pop C0 d_Rb_turn_32 rfl ?_
  refine xs_iload_n C0 d_Rb_turn_33 rfl 0 rfl ?_
  have h01 := f_sk01 S x z
  rw [hb_1] at h01
  rw [hb_1] at hs
  rw [g_turn, hb_1] at hf
  dsimp only at hf
  rw [hb_3] at hf
  cases hf
  cases hs
  exact xs_zret C0 d_Rb_turn_34 h01 (⟨rfl, rfl⟩) (Nat.le_of_ble_eq_true rfl) (Nat.le_of_ble_eq_true rfl)
set_option maxHeartbeats 4000000 in
set_option maxRecDepth 100000 in
theorem m_turnT {B : wb} {S T : wt_S} {F : wt_F} {H : wt_H} {tt : Int32} {rest : xm_O} {x z : Int32} (hB : okB B) (h : ¬ gw x 0 (nI B.2.2.1.2.2 - 1)) : xm_M y_Rb_turn (Cond.code y_Rb_turn b_Rb_turn 4 (some .boolean)) (xm_rm 8 1 6) [.ref 0, .int x, .int z] (wB B S T F H tt ++ rest) (xm_eq (.inr "java/lang/IllegalArgumentException") (wB B S T F H tt ++ rest)) := by
  obtain ⟨⟨f0, g0, n0⟩, ⟨f1, g1, n1⟩, ⟨f2, g2, n2⟩, ⟨f3, g3, n3⟩, ⟨f4, g4, n4⟩, pl, dr, ki, ow⟩ := B
  obtain ⟨⟨h0, hp0⟩, ⟨h1, hp1⟩, ⟨h2, hp2⟩, ⟨h3, hp3⟩, ⟨h4, hp4⟩, hk⟩ := id hB
  dsimp only at h0 h1 h2 h3 h4 hp0 hp1 hp2 hp3 hp4 hk
  refine xm_of (by decide) (Nat.le_of_ble_eq_true rfl) (fun E C0 => ?_)
  refine xs_eq (ω' := (wd (f0, g0, nI n0) (f1, g1, nI n1) (f2, g2, nI n2) (f3, g3, nI n3) (f4, g4, nI n4) pl dr ki ow S T F H tt ++ rest)) (lv' := [(0, .ref 0), (1, .int x), (2, .int z)]) rfl rfl rfl ?_
  refine xs_aload_n C0 d_Rb_turn_0 rfl 0 rfl ?_
  refine xs_get (q := 0) (v := .ref 1) C0 f_Rb_10 d_Rb_turn_1 rfl rfl ?_
  refine xs_get (q := 1) (v := .ref 8) C0 f_Rb_84 d_Rb_turn_4 rfl rfl ?_
  refine xs_iload_n C0 d_Rb_turn_7 rfl 1 rfl ?_
  exact xs_cST (av := [.ref 8, .int x]) (st := []) C0 d_Rb_turn_8 l_Rb_74 (c_npT2 h) rfl rfl rfl (Nat.le_of_ble_eq_true rfl) (Nat.le_of_ble_eq_true rfl) (Nat.le_of_ble_eq_true rfl) (Nat.le_of_ble_eq_true rfl) (xt_leave C0 ⟨rfl, rfl⟩ (Nat.le_of_ble_eq_true rfl) (Nat.le_of_ble_eq_true rfl))
set_option maxHeartbeats 4000000 in
set_option maxRecDepth 100000 in
theorem m_state0 {B : wb} {S T : wt_S} {F : wt_F} {H : wt_H} {tt : Int32} {rest : xm_O} {x : Int32} (hB : okB B) (h : gw x 0 (nI B.1.2.2 - 1)) : xm_M y_Rb_state (Cond.code y_Rb_state b_Rb_state 3 (some .int)) (xm_rm 2 0 0) [.ref 0, .int x, .int 0] (wB B S T F H tt ++ rest) (xm_eq (.inl (some (.int (S.1 x.toNatClampNeg)))) (wB B S T F H tt ++ rest)) := by
  obtain ⟨⟨f0, g0, n0⟩, ⟨f1, g1, n1⟩, ⟨f2, g2, n2⟩, ⟨f3, g3, n3⟩, ⟨f4, g4, n4⟩, pl, dr, ki, ow⟩ := B
  obtain ⟨⟨h0, hp0⟩, ⟨h1, hp1⟩, ⟨h2, hp2⟩, ⟨h3, hp3⟩, ⟨h4, hp4⟩, hk⟩ := id hB
  dsimp only at h0 h1 h2 h3 h4 hp0 hp1 hp2 hp3 hp4 hk
  refine xm_of (by decide) (Nat.le_of_ble_eq_true rfl) (fun E C0 => ?_)
  refine xs_eq (ω' := (wd (f0, g0, nI n0) (f1, g1, nI n1) (f2, g2, nI n2) (f3, g3, nI n3) (f4, g4, nI n4) pl dr ki ow S T F H tt ++ rest)) (lv' := [(0, .ref 0), (1, .int x), (2, .int 0)]) rfl rfl rfl ?_
  obtain ⟨j9, hj9, e9⟩ := gw_part h0 (by decide) h
  have hin : vp_in x 16 := by rw [e9]; exact vp_in_nI (by omega) (by decide)
  refine xs_aload_n C0 d_Rb_state_0 rfl 0 rfl ?_
  refine xs_get (q := 0) (v := .ref 1) C0 f_Rb_10 d_Rb_state_1 rfl rfl ?_
  refine xs_get (q := 1) (v := .ref 2) C0 f_Rb_54 d_Rb_state_4 rfl rfl ?_
  refine xs_iload_n C0 d_Rb_state_7 rfl 1 rfl ?_
  refine xs_cS0 (ω' := (wd (f0, g0, nI n0) (f1, g1, nI n1) (f2, g2, nI n2) (f3, g3, nI n3) (f4, g4, nI n4) pl dr ki ow S T F H tt ++ rest)) (av := [.ref 2, .int x]) (st := []) (kc' := 0) (ks' := 0) C0 d_Rb_state_8 l_Rb_74 (c_np0 h) rfl rfl rfl (Nat.le_of_ble_eq_true rfl) (Nat.le_of_ble_eq_true rfl) (Nat.le_of_ble_eq_true rfl) (Nat.le_of_ble_eq_true rfl) (Nat.le_of_ble_eq_true rfl) (Nat.le_of_ble_eq_true rfl) ?_
  refine xs_iload_n C0 d_Rb_state_11 rfl 2 rfl ?_
  refine xs_tableIn (off := 32) (tgt := 44) C0 d_Rb_state_12 (by decide) (by decide) (by decide) (by decide) ?_
  refine xs_aload_n C0 d_Rb_state_44 rfl 0 rfl ?_
  refine xs_get (q := 0) (v := .ref 21) C0 f_Rb_19 d_Rb_state_45 rfl rfl ?_
  refine xs_get (q := 21) (v := .ref 22) C0 f_Rb_148 d_Rb_state_48 rfl rfl ?_
  refine xs_iload_n C0 d_Rb_state_51 rfl 1 rfl ?_
  obtain ⟨ss_1, sc_1, sw_1, su_1, sd_1, sk_1, sb_1⟩ := S
  refine xs_iald C0 d_Rb_state_52 rfl (by assumption) ?_
  exact xs_iret C0 d_Rb_state_53 (⟨rfl, rfl⟩) (Nat.le_of_ble_eq_true rfl) (Nat.le_of_ble_eq_true rfl)
set_option maxHeartbeats 4000000 in
set_option maxRecDepth 100000 in
theorem m_state1 {B : wb} {S T : wt_S} {F : wt_F} {H : wt_H} {tt : Int32} {rest : xm_O} {x : Int32} (hB : okB B) (h : gw x 0 (nI B.1.2.2 - 1)) : xm_M y_Rb_state (Cond.code y_Rb_state b_Rb_state 3 (some .int)) (xm_rm 2 0 0) [.ref 0, .int x, .int 1] (wB B S T F H tt ++ rest) (xm_eq (.inl (some (.int (S.2.1 x.toNatClampNeg)))) (wB B S T F H tt ++ rest)) := by
  obtain ⟨⟨f0, g0, n0⟩, ⟨f1, g1, n1⟩, ⟨f2, g2, n2⟩, ⟨f3, g3, n3⟩, ⟨f4, g4, n4⟩, pl, dr, ki, ow⟩ := B
  obtain ⟨⟨h0, hp0⟩, ⟨h1, hp1⟩, ⟨h2, hp2⟩, ⟨h3, hp3⟩, ⟨h4, hp4⟩, hk⟩ := id hB
  dsimp only at h0 h1 h2 h3 h4 hp0 hp1 hp2 hp3 hp4 hk
  refine xm_of (by decide) (Nat.le_of_ble_eq_true rfl) (fun E C0 => ?_)
  refine xs_eq (ω' := (wd (f0, g0, nI n0) (f1, g1, nI n1) (f2, g2, nI n2) (f3, g3, nI n3) (f4, g4, nI n4) pl dr ki ow S T F H tt ++ rest)) (lv' := [(0, .ref 0), (1, .int x), (2, .int 1)]) rfl rfl rfl ?_
  obtain ⟨j9, hj9, e9⟩ := gw_part h0 (by decide) h
  have hin : vp_in x 16 := by rw [e9]; exact vp_in_nI (by omega) (by decide)
  refine xs_aload_n C0 d_Rb_state_0 rfl 0 rfl ?_
  refine xs_get (q := 0) (v := .ref 1) C0 f_Rb_10 d_Rb_state_1 rfl rfl ?_
  refine xs_get (q := 1) (v := .ref 2) C0 f_Rb_54 d_Rb_state_4 rfl rfl ?_
  refine xs_iload_n C0 d_Rb_state_7 rfl 1 rfl ?_
  refine xs_cS0 (ω' := (wd (f0, g0, nI n0) (f1, g1, nI n1) (f2, g2, nI n2) (f3, g3, nI n3) (f4, g4, nI n4) pl dr ki ow S T F H tt ++ rest)) (av := [.ref 2, .int x]) (st := []) (kc' := 0) (ks' := 0) C0 d_Rb_state_8 l_Rb_74 (c_np0 h) rfl rfl rfl (Nat.le_of_ble_eq_true rfl) (Nat.le_of_ble_eq_true rfl) (Nat.le_of_ble_eq_true rfl) (Nat.le_of_ble_eq_true rfl) (Nat.le_of_ble_eq_true rfl) (Nat.le_of_ble_eq_true rfl) ?_
  refine xs_iload_n C0 d_Rb_state_11 rfl 2 rfl ?_
  refine xs_tableIn (off := 42) (tgt := 54) C0 d_Rb_state_12 (by decide) (by decide) (by decide) (by decide) ?_
  refine xs_aload_n C0 d_Rb_state_54 rfl 0 rfl ?_
  refine xs_get (q := 0) (v := .ref 21) C0 f_Rb_19 d_Rb_state_55 rfl rfl ?_
  refine xs_get (q := 21) (v := .ref 23) C0 f_Rb_152 d_Rb_state_58 rfl rfl ?_
  refine xs_iload_n C0 d_Rb_state_61 rfl 1 rfl ?_
  obtain ⟨ss_1, sc_1, sw_1, su_1, sd_1, sk_1, sb_1⟩ := S
  refine xs_iald C0 d_Rb_state_62 rfl (by assumption) ?_
  exact xs_iret C0 d_Rb_state_63 (⟨rfl, rfl⟩) (Nat.le_of_ble_eq_true rfl) (Nat.le_of_ble_eq_true rfl)
set_option maxHeartbeats 4000000 in
set_option maxRecDepth 100000 in
theorem m_state3 {B : wb} {S T : wt_S} {F : wt_F} {H : wt_H} {tt : Int32} {rest : xm_O} {x : Int32} (hB : okB B) (h : gw x 0 (nI B.1.2.2 - 1)) : xm_M y_Rb_state (Cond.code y_Rb_state b_Rb_state 3 (some .int)) (xm_rm 2 0 0) [.ref 0, .int x, .int 3] (wB B S T F H tt ++ rest) (xm_eq (.inl (some (.int (S.2.2.1 x.toNatClampNeg)))) (wB B S T F H tt ++ rest)) := by
  obtain ⟨⟨f0, g0, n0⟩, ⟨f1, g1, n1⟩, ⟨f2, g2, n2⟩, ⟨f3, g3, n3⟩, ⟨f4, g4, n4⟩, pl, dr, ki, ow⟩ := B
  obtain ⟨⟨h0, hp0⟩, ⟨h1, hp1⟩, ⟨h2, hp2⟩, ⟨h3, hp3⟩, ⟨h4, hp4⟩, hk⟩ := id hB
  dsimp only at h0 h1 h2 h3 h4 hp0 hp1 hp2 hp3 hp4 hk
  refine xm_of (by decide) (Nat.le_of_ble_eq_true rfl) (fun E C0 => ?_)
  refine xs_eq (ω' := (wd (f0, g0, nI n0) (f1, g1, nI n1) (f2, g2, nI n2) (f3, g3, nI n3) (f4, g4, nI n4) pl dr ki ow S T F H tt ++ rest)) (lv' := [(0, .ref 0), (1, .int x), (2, .int 3)]) rfl rfl rfl ?_
  obtain ⟨j9, hj9, e9⟩ := gw_part h0 (by decide) h
  have hin : vp_in x 16 := by rw [e9]; exact vp_in_nI (by omega) (by decide)
  refine xs_aload_n C0 d_Rb_state_0 rfl 0 rfl ?_
  refine xs_get (q := 0) (v := .ref 1) C0 f_Rb_10 d_Rb_state_1 rfl rfl ?_
  refine xs_get (q := 1) (v := .ref 2) C0 f_Rb_54 d_Rb_state_4 rfl rfl ?_
  refine xs_iload_n C0 d_Rb_state_7 rfl 1 rfl ?_
  refine xs_cS0 (ω' := (wd (f0, g0, nI n0) (f1, g1, nI n1) (f2, g2, nI n2) (f3, g3, nI n3) (f4, g4, nI n4) pl dr ki ow S T F H tt ++ rest)) (av := [.ref 2, .int x]) (st := []) (kc' := 0) (ks' := 0) C0 d_Rb_state_8 l_Rb_74 (c_np0 h) rfl rfl rfl (Nat.le_of_ble_eq_true rfl) (Nat.le_of_ble_eq_true rfl) (Nat.le_of_ble_eq_true rfl) (Nat.le_of_ble_eq_true rfl) (Nat.le_of_ble_eq_true rfl) (Nat.le_of_ble_eq_true rfl) ?_
  refine xs_iload_n C0 d_Rb_state_11 rfl 2 rfl ?_
  refine xs_tableIn (off := 83) (tgt := 95) C0 d_Rb_state_12 (by decide) (by decide) (by decide) (by decide) ?_
  refine xs_aload_n C0 d_Rb_state_95 rfl 0 rfl ?_
  refine xs_get (q := 0) (v := .ref 21) C0 f_Rb_19 d_Rb_state_96 rfl rfl ?_
  refine xs_get (q := 21) (v := .ref 24) C0 f_Rb_159 d_Rb_state_99 rfl rfl ?_
  refine xs_iload_n C0 d_Rb_state_102 rfl 1 rfl ?_
  obtain ⟨ss_1, sc_1, sw_1, su_1, sd_1, sk_1, sb_1⟩ := S
  refine xs_iald C0 d_Rb_state_103 rfl (by assumption) ?_
  exact xs_iret C0 d_Rb_state_104 (⟨rfl, rfl⟩) (Nat.le_of_ble_eq_true rfl) (Nat.le_of_ble_eq_true rfl)
set_option maxHeartbeats 4000000 in
set_option maxRecDepth 100000 in
theorem m_state2 {B : wb} {S T : wt_S} {F : wt_F} {H : wt_H} {tt : Int32} {rest : xm_O} {x b : Int32} {F1 : wt_F} (hB : okB B) (h : gw x 0 (nI B.1.2.2 - 1)) (hf : g_cur B B.1 S F = (b, F1)) : xm_M y_Rb_state (Cond.code y_Rb_state b_Rb_state 3 (some .int)) (xm_rm 5 0 0) [.ref 0, .int x, .int 2] (wB B S T F H tt ++ rest) (xm_eq (.inl (some (.int (if ¬ f_hb b x = 0 then 1 else 0)))) (wB B S T F1 H tt ++ rest)) := by
  obtain ⟨⟨f0, g0, n0⟩, ⟨f1, g1, n1⟩, ⟨f2, g2, n2⟩, ⟨f3, g3, n3⟩, ⟨f4, g4, n4⟩, pl, dr, ki, ow⟩ := B
  obtain ⟨⟨h0, hp0⟩, ⟨h1, hp1⟩, ⟨h2, hp2⟩, ⟨h3, hp3⟩, ⟨h4, hp4⟩, hk⟩ := id hB
  dsimp only at h0 h1 h2 h3 h4 hp0 hp1 hp2 hp3 hp4 hk
  refine xm_of (by decide) (Nat.le_of_ble_eq_true rfl) (fun E C0 => ?_)
  refine xs_eq (ω' := (wd (f0, g0, nI n0) (f1, g1, nI n1) (f2, g2, nI n2) (f3, g3, nI n3) (f4, g4, nI n4) pl dr ki ow S T F H tt ++ rest)) (lv' := [(0, .ref 0), (1, .int x), (2, .int 2)]) rfl rfl rfl ?_
  refine xs_aload_n C0 d_Rb_state_0 rfl 0 rfl ?_
  refine xs_get (q := 0) (v := .ref 1) C0 f_Rb_10 d_Rb_state_1 rfl rfl ?_
  refine xs_get (q := 1) (v := .ref 2) C0 f_Rb_54 d_Rb_state_4 rfl rfl ?_
  refine xs_iload_n C0 d_Rb_state_7 rfl 1 rfl ?_
  refine xs_cS0 (ω' := (wd (f0, g0, nI n0) (f1, g1, nI n1) (f2, g2, nI n2) (f3, g3, nI n3) (f4, g4, nI n4) pl dr ki ow S T F H tt ++ rest)) (av := [.ref 2, .int x]) (st := []) (kc' := 0) (ks' := 0) C0 d_Rb_state_8 l_Rb_74 (c_np0 h) rfl rfl rfl (Nat.le_of_ble_eq_true rfl) (Nat.le_of_ble_eq_true rfl) (Nat.le_of_ble_eq_true rfl) (Nat.le_of_ble_eq_true rfl) (Nat.le_of_ble_eq_true rfl) (Nat.le_of_ble_eq_true rfl) ?_
  refine xs_iload_n C0 d_Rb_state_11 rfl 2 rfl ?_
  refine xs_tableIn (off := 52) (tgt := 64) C0 d_Rb_state_12 (by decide) (by decide) (by decide) (by decide) ?_
  refine xs_aload_n C0 d_Rb_state_64 rfl 0 rfl ?_
  refine xs_get (q := 0) (v := .ref 29) C0 f_Rb_31 d_Rb_state_65 rfl rfl ?_
  refine xs_aload_n C0 d_Rb_state_68 rfl 0 rfl ?_
  refine xs_get (q := 0) (v := .ref 21) C0 f_Rb_19 d_Rb_state_69 rfl rfl ?_
  refine xs_aload_n C0 d_Rb_state_72 rfl 0 rfl ?_
  refine xs_get (q := 0) (v := .ref 1) C0 f_Rb_10 d_Rb_state_73 rfl rfl ?_
  refine xs_get (q := 1) (v := .ref 2) C0 f_Rb_54 d_Rb_state_76 rfl rfl ?_
  obtain ⟨b_1, F_2, hb_1⟩ : ∃ X Y, g_cur ((f0, g0, n0), (f1, g1, n1), (f2, g2, n2), (f3, g3, n3), (f4, g4, n4), pl, dr, ki, ow) (f0, g0, n0) S F = (X, Y) := ⟨_, _, rfl⟩
  refine xs_cV1 (ω' := (wd (f0, g0, nI n0) (f1, g1, nI n1) (f2, g2, nI n2) (f3, g3, nI n3) (f4, g4, nI n4) pl dr ki ow S T F_2 H tt ++ rest)) (As := [.ref 21, .ref 2]) (st := []) (kc' := 0) (ks' := 0) (v := .int b_1) C0 d_Rb_state_79 l_Rb_155 rfl rfl (c_curn0 (B := ((f0, g0, n0), (f1, g1, n1), (f2, g2, n2), (f3, g3, n3), (f4, g4, n4), pl, dr, ki, ow)) hB hb_1) rfl rfl rfl (Nat.le_of_ble_eq_true rfl) (Nat.le_of_ble_eq_true rfl) (Nat.le_of_ble_eq_true rfl) (Nat.le_of_ble_eq_true rfl) (Nat.le_of_ble_eq_true rfl) (Nat.le_of_ble_eq_true rfl) ?_
  refine xs_iload_n C0 d_Rb_state_82 rfl 1 rfl ?_
  refine xs_cS1 (ω' := (wd (f0, g0, nI n0) (f1, g1, nI n1) (f2, g2, nI n2) (f3, g3, nI n3) (f4, g4, nI n4) pl dr ki ow S T F_2 H tt ++ rest)) (av := [.int b_1, .int x]) (st := []) (kc' := 0) (ks' := 0) (v := .int (f_hb b_1 x)) C0 d_Rb_state_83 l_Rb_106 (c_hb _ b_1 x) rfl rfl rfl (Nat.le_of_ble_eq_true rfl) (Nat.le_of_ble_eq_true rfl) (Nat.le_of_ble_eq_true rfl) (Nat.le_of_ble_eq_true rfl) (Nat.le_of_ble_eq_true rfl) (Nat.le_of_ble_eq_true rfl) ?_
  refine xs_bz_eq (u := 1) (v := 0) (tgt := 93) (J := 94) C0 d_Rb_state_86 (by decide) d_Rb_state_89 (by decide) d_Rb_state_90 (by decide) d_Rb_state_93 (by decide) rfl ?_
  rw [hb_1] at hf
  cases hf
  exact xs_iret C0 d_Rb_state_94 (⟨rfl, rfl⟩) (Nat.le_of_ble_eq_true rfl) (Nat.le_of_ble_eq_true rfl)
set_option maxHeartbeats 4000000 in
set_option maxRecDepth 100000 in
theorem m_stateT {B : wb} {S T : wt_S} {F : wt_F} {H : wt_H} {tt : Int32} {rest : xm_O} {x y : Int32} (hB : okB B) (h : ¬ gw x 0 (nI B.1.2.2 - 1)) : xm_M y_Rb_state (Cond.code y_Rb_state b_Rb_state 3 (some .int)) (xm_rm 8 1 6) [.ref 0, .int x, .int y] (wB B S T F H tt ++ rest) (xm_eq (.inr "java/lang/IllegalArgumentException") (wB B S T F H tt ++ rest)) := by
  obtain ⟨⟨f0, g0, n0⟩, ⟨f1, g1, n1⟩, ⟨f2, g2, n2⟩, ⟨f3, g3, n3⟩, ⟨f4, g4, n4⟩, pl, dr, ki, ow⟩ := B
  obtain ⟨⟨h0, hp0⟩, ⟨h1, hp1⟩, ⟨h2, hp2⟩, ⟨h3, hp3⟩, ⟨h4, hp4⟩, hk⟩ := id hB
  dsimp only at h0 h1 h2 h3 h4 hp0 hp1 hp2 hp3 hp4 hk
  refine xm_of (by decide) (Nat.le_of_ble_eq_true rfl) (fun E C0 => ?_)
  refine xs_eq (ω' := (wd (f0, g0, nI n0) (f1, g1, nI n1) (f2, g2, nI n2) (f3, g3, nI n3) (f4, g4, nI n4) pl dr ki ow S T F H tt ++ rest)) (lv' := [(0, .ref 0), (1, .int x), (2, .int y)]) rfl rfl rfl ?_
  refine xs_aload_n C0 d_Rb_state_0 rfl 0 rfl ?_
  refine xs_get (q := 0) (v := .ref 1) C0 f_Rb_10 d_Rb_state_1 rfl rfl ?_
  refine xs_get (q := 1) (v := .ref 2) C0 f_Rb_54 d_Rb_state_4 rfl rfl ?_
  refine xs_iload_n C0 d_Rb_state_7 rfl 1 rfl ?_
  exact xs_cST (av := [.ref 2, .int x]) (st := []) C0 d_Rb_state_8 l_Rb_74 (c_npT0 h) rfl rfl rfl (Nat.le_of_ble_eq_true rfl) (Nat.le_of_ble_eq_true rfl) (Nat.le_of_ble_eq_true rfl) (Nat.le_of_ble_eq_true rfl) (xt_leave C0 ⟨rfl, rfl⟩ (Nat.le_of_ble_eq_true rfl) (Nat.le_of_ble_eq_true rfl))
set_option maxHeartbeats 4000000 in
set_option maxRecDepth 100000 in
theorem m_stateX {B : wb} {S T : wt_S} {F : wt_F} {H : wt_H} {tt : Int32} {rest : xm_O} {x y : Int32} (hB : okB B) (h : gw x 0 (nI B.1.2.2 - 1)) (hx : y.toInt < 0 ∨ 3 < y.toInt) : xm_M y_Rb_state (Cond.code y_Rb_state b_Rb_state 3 (some .int)) (xm_rm 8 1 6) [.ref 0, .int x, .int y] (wB B S T F H tt ++ rest) (xm_eq (.inr "java/lang/IllegalArgumentException") (wB B S T F H tt ++ rest)) := by
  obtain ⟨⟨f0, g0, n0⟩, ⟨f1, g1, n1⟩, ⟨f2, g2, n2⟩, ⟨f3, g3, n3⟩, ⟨f4, g4, n4⟩, pl, dr, ki, ow⟩ := B
  obtain ⟨⟨h0, hp0⟩, ⟨h1, hp1⟩, ⟨h2, hp2⟩, ⟨h3, hp3⟩, ⟨h4, hp4⟩, hk⟩ := id hB
  dsimp only at h0 h1 h2 h3 h4 hp0 hp1 hp2 hp3 hp4 hk
  refine xm_of (by decide) (Nat.le_of_ble_eq_true rfl) (fun E C0 => ?_)
  refine xs_eq (ω' := (wd (f0, g0, nI n0) (f1, g1, nI n1) (f2, g2, nI n2) (f3, g3, nI n3) (f4, g4, nI n4) pl dr ki ow S T F H tt ++ rest)) (lv' := [(0, .ref 0), (1, .int x), (2, .int y)]) rfl rfl rfl ?_
  refine xs_aload_n C0 d_Rb_state_0 rfl 0 rfl ?_
  refine xs_get (q := 0) (v := .ref 1) C0 f_Rb_10 d_Rb_state_1 rfl rfl ?_
  refine xs_get (q := 1) (v := .ref 2) C0 f_Rb_54 d_Rb_state_4 rfl rfl ?_
  refine xs_iload_n C0 d_Rb_state_7 rfl 1 rfl ?_
  refine xs_cS0 (ω' := (wd (f0, g0, nI n0) (f1, g1, nI n1) (f2, g2, nI n2) (f3, g3, nI n3) (f4, g4, nI n4) pl dr ki ow S T F H tt ++ rest)) (av := [.ref 2, .int x]) (st := []) (kc' := 0) (ks' := 0) C0 d_Rb_state_8 l_Rb_74 (c_np0 h) rfl rfl rfl (Nat.le_of_ble_eq_true rfl) (Nat.le_of_ble_eq_true rfl) (Nat.le_of_ble_eq_true rfl) (Nat.le_of_ble_eq_true rfl) (Nat.le_of_ble_eq_true rfl) (Nat.le_of_ble_eq_true rfl) ?_
  refine xs_iload_n C0 d_Rb_state_11 rfl 2 rfl ?_
  refine xs_tableOut (tgt := 105) C0 d_Rb_state_12 hx (by decide) ?_
  exact xs_throw (cls := "java/lang/IllegalArgumentException") (names := xm_up) C0 k_333 k_334 k_12 k_603 ta_IAE (by decide +kernel) (by decide +kernel) d_Rb_state_105 d_Rb_state_108 d_Rb_state_109 d_Rb_state_111 d_Rb_state_114 (Nat.le_of_ble_eq_true rfl) (Nat.le_of_ble_eq_true rfl) (Nat.le_of_ble_eq_true rfl) (Nat.le_of_ble_eq_true rfl) ⟨rfl, rfl⟩
