def f_put (S : wt_S) (r s c : Int32) : wt_S := (upd S.1 r.toNatClampNeg s, upd S.2.1 r.toNatClampNeg c, S.2.2.1, f_wb S.2.2.2.1 r (if s = 2 then 1 else 0), f_wb S.2.2.2.2.1 r (if s = 0 then 1 else 0), S.2.2.2.2.2.1, S.2.2.2.2.2.2)
def f_wear (S : wt_S) (r : Int32) : wt_S := (S.1, S.2.1, upd S.2.2.1 r.toNatClampNeg (S.2.2.1 r.toNatClampNeg + 1), S.2.2.2)
def f_rise (S : wt_S) (r p : Int32) : Int32 × wt_S := if S.1 r.toNatClampNeg = 2 then (0, S) else if S.1 r.toNatClampNeg = 3 then (1, f_put S r 2 0) else if S.2.1 r.toNatClampNeg + 1 < p then (1, f_put S r 1 (S.2.1 r.toNatClampNeg + 1)) else (1, f_wear (f_put S r 2 0) r)
def f_fall (S : wt_S) (r p : Int32) : Int32 × wt_S := if S.1 r.toNatClampNeg = 0 then (0, S) else if S.1 r.toNatClampNeg = 1 then (1, f_put S r 0 0) else if S.2.1 r.toNatClampNeg + 1 < p then (1, f_put S r 3 (S.2.1 r.toNatClampNeg + 1)) else (1, f_put S r 0 0)
def f_sk (S : wt_S) (k b : Int32) : Int32 × wt_S := (if ¬ f_hb S.2.2.2.2.2.1 k = b then 1 else 0, (S.1, S.2.1, S.2.2.1, S.2.2.2.1, S.2.2.2.2.1, f_wb S.2.2.2.2.2.1 k b, S.2.2.2.2.2.2))
def f_rc (S : wt_S) (k : Int32) : Int32 := if k = 0 then S.2.2.2.1 else if k = 1 then S.2.2.2.2.1 else if k = 2 then S.2.2.2.2.1 ^^^ (-1) else if k = 3 then S.2.2.2.1 ^^^ (-1) else -1
def f_bec (S T : wt_S) : wt_S := (va_cpy S.1 T.1 0 0 16, va_cpy S.2.1 T.2.1 0 0 16, va_cpy S.2.2.1 T.2.2.1 0 0 16, S.2.2.2.1, S.2.2.2.2.1, S.2.2.2.2.2.1, S.2.2.2.2.2.2)
set_option maxHeartbeats 4000000 in
set_option maxRecDepth 100000 in
theorem c_putn {P0 P1 P2 P3 P4 : wt_P} {pl dr ki ow : Nat → Int32} {S T : wt_S} {F : wt_F} {H : wt_H} {tt : Int32} {rest : xm_O} {S1 : wt_S} {r s c : Int32} (hr : vp_in r 16) (hf : f_put S r s c = S1) : xm_M y_Sd_put (Cond.code y_Sd_put b_Sd_put 4 none) (xm_rm 1 0 0) [.ref 21, .int r, .int s, .int c] (wd P0 P1 P2 P3 P4 pl dr ki ow S T F H tt ++ rest) (xm_eq (.inl none) (wd P0 P1 P2 P3 P4 pl dr ki ow S1 T F H tt ++ rest)) := by
  refine xm_of (by decide) (Nat.le_of_ble_eq_true rfl) (fun E C0 => ?_)
  refine xs_eq (lv' := [(0, .ref 21), (1, .int r), (2, .int s), (3, .int c)]) rfl rfl rfl ?_
  refine xs_aload_n C0 d_Sd_put_0 rfl 0 rfl ?_
  refine xs_get (q := 21) (v := .ref 22) C0 f_Sd_9 d_Sd_put_1 rfl rfl ?_
  refine xs_iload_n C0 d_Sd_put_4 rfl 1 rfl ?_
  refine xs_iload_n C0 d_Sd_put_5 rfl 2 rfl ?_
  obtain ⟨ss_1, sc_1, sw_1, su_1, sd_1, sk_1, sb_1⟩ := S
  refine xs_iast (ω' := (wd P0 P1 P2 P3 P4 pl dr ki ow (upd ss_1 r.toNatClampNeg s, sc_1, sw_1, su_1, sd_1, sk_1, sb_1) T F H tt ++ rest)) C0 d_Sd_put_6 rfl (by assumption) rfl ?_
  refine xs_aload_n C0 d_Sd_put_7 rfl 0 rfl ?_
  refine xs_get (q := 21) (v := .ref 23) C0 f_Sd_15 d_Sd_put_8 rfl rfl ?_
  refine xs_iload_n C0 d_Sd_put_11 rfl 1 rfl ?_
  refine xs_iload_n C0 d_Sd_put_12 rfl 3 rfl ?_
  refine xs_iast (ω' := (wd P0 P1 P2 P3 P4 pl dr ki ow (upd ss_1 r.toNatClampNeg s, upd sc_1 r.toNatClampNeg c, sw_1, su_1, sd_1, sk_1, sb_1) T F H tt ++ rest)) C0 d_Sd_put_13 rfl (by assumption) rfl ?_
  refine xs_aload_n C0 d_Sd_put_14 rfl 0 rfl ?_
  refine xs_aload_n C0 d_Sd_put_15 rfl 0 rfl ?_
  refine xs_pc (pc' := 16) rfl ?_
  refine xs_get (q := 21) (v := .int su_1) C0 f_Sd_21 d_Sd_put_16 rfl rfl ?_
  refine xs_iload_n C0 d_Sd_put_19 rfl 1 rfl ?_
  refine xs_iload_n C0 d_Sd_put_20 rfl 2 rfl ?_
  refine xs_iconst (v := 2) C0 d_Sd_put_21 (by decide) ?_
  refine xs_bi_ne (u := 1) (v := 0) (tgt := 29) (J := 30) C0 d_Sd_put_22 (by decide) d_Sd_put_25 (by decide) d_Sd_put_26 (by decide) d_Sd_put_29 (by decide) rfl ?_
  refine xs_cS1 (ω' := (wd P0 P1 P2 P3 P4 pl dr ki ow (upd ss_1 r.toNatClampNeg s, upd sc_1 r.toNatClampNeg c, sw_1, su_1, sd_1, sk_1, sb_1) T F H tt ++ rest)) (av := [.int su_1, .int r, .int (if s = 2 then 1 else 0)]) (st := [.ref 21]) (kc' := 0) (ks' := 0) (v := .int (f_wb su_1 r (if s = 2 then 1 else 0))) C0 d_Sd_put_30 l_Sd_45 (c_wb _ su_1 r (if s = 2 then 1 else 0)) rfl rfl rfl (Nat.le_of_ble_eq_true rfl) (Nat.le_of_ble_eq_true rfl) (Nat.le_of_ble_eq_true rfl) (Nat.le_of_ble_eq_true rfl) (Nat.le_of_ble_eq_true rfl) (Nat.le_of_ble_eq_true rfl) ?_
  refine xs_put (ω' := (wd P0 P1 P2 P3 P4 pl dr ki ow (upd ss_1 r.toNatClampNeg s, upd sc_1 r.toNatClampNeg c, sw_1, (f_wb su_1 r (if s = 2 then 1 else 0)), sd_1, sk_1, sb_1) T F H tt ++ rest)) C0 f_Sd_21 ty_Sd_3 d_Sd_put_33 rfl (Nat.le_of_ble_eq_true rfl) (fun _ => ⟨rfl, rfl⟩) rfl ?_
  refine xs_aload_n C0 d_Sd_put_36 rfl 0 rfl ?_
  refine xs_aload_n C0 d_Sd_put_37 rfl 0 rfl ?_
  refine xs_get (q := 21) (v := .int sd_1) C0 f_Sd_25 d_Sd_put_38 rfl rfl ?_
  refine xs_iload_n C0 d_Sd_put_41 rfl 1 rfl ?_
  refine xs_iload_n C0 d_Sd_put_42 rfl 2 rfl ?_
  refine xs_bz_ne (u := 1) (v := 0) (tgt := 50) (J := 51) C0 d_Sd_put_43 (by decide) d_Sd_put_46 (by decide) d_Sd_put_47 (by decide) d_Sd_put_50 (by decide) rfl ?_
  refine xs_cS1 (ω' := (wd P0 P1 P2 P3 P4 pl dr ki ow (upd ss_1 r.toNatClampNeg s, upd sc_1 r.toNatClampNeg c, sw_1, (f_wb su_1 r (if s = 2 then 1 else 0)), sd_1, sk_1, sb_1) T F H tt ++ rest)) (av := [.int sd_1, .int r, .int (if s = 0 then 1 else 0)]) (st := [.ref 21]) (kc' := 0) (ks' := 0) (v := .int (f_wb sd_1 r (if s = 0 then 1 else 0))) C0 d_Sd_put_51 l_Sd_45 (c_wb _ sd_1 r (if s = 0 then 1 else 0)) rfl rfl rfl (Nat.le_of_ble_eq_true rfl) (Nat.le_of_ble_eq_true rfl) (Nat.le_of_ble_eq_true rfl) (Nat.le_of_ble_eq_true rfl) (Nat.le_of_ble_eq_true rfl) (Nat.le_of_ble_eq_true rfl) ?_
  refine xs_put (ω' := (wd P0 P1 P2 P3 P4 pl dr ki ow (upd ss_1 r.toNatClampNeg s, upd sc_1 r.toNatClampNeg c, sw_1, (f_wb su_1 r (if s = 2 then 1 else 0)), (f_wb sd_1 r (if s = 0 then 1 else 0)), sk_1, sb_1) T F H tt ++ rest)) C0 f_Sd_25 ty_Sd_4 d_Sd_put_54 rfl (Nat.le_of_ble_eq_true rfl) (fun _ => ⟨rfl, rfl⟩) rfl ?_
  subst hf
  exact xs_vret C0 d_Sd_put_57 (⟨rfl, rfl⟩) (Nat.le_of_ble_eq_true rfl) (Nat.le_of_ble_eq_true rfl)
set_option maxHeartbeats 4000000 in
set_option maxRecDepth 100000 in
theorem c_risen {P0 P1 P2 P3 P4 : wt_P} {pl dr ki ow : Nat → Int32} {S T : wt_S} {F : wt_F} {H : wt_H} {tt : Int32} {rest : xm_O} {S1 : wt_S} {r p b : Int32} (hr : vp_in r 16) (hf : f_rise S r p = (b, S1)) : xm_M y_Sd_rise (Cond.code y_Sd_rise b_Sd_rise 4 (some .boolean)) (xm_rm 2 0 0) [.ref 21, .int r, .int p] (wd P0 P1 P2 P3 P4 pl dr ki ow S T F H tt ++ rest) (xm_eq (.inl (some (.int b))) (wd P0 P1 P2 P3 P4 pl dr ki ow S1 T F H tt ++ rest)) := by
  refine xm_of (by decide) (Nat.le_of_ble_eq_true rfl) (fun E C0 => ?_)
  refine xs_eq (lv' := [(0, .ref 21), (1, .int r), (2, .int p)]) rfl rfl rfl ?_
  refine xs_aload_n C0 d_Sd_rise_0 rfl 0 rfl ?_
  refine xs_get (q := 21) (v := .ref 22) C0 f_Sd_9 d_Sd_rise_1 rfl rfl ?_
  refine xs_iload_n C0 d_Sd_rise_4 rfl 1 rfl ?_
  obtain ⟨ss_1, sc_1, sw_1, su_1, sd_1, sk_1, sb_1⟩ := S
  refine xs_iald C0 d_Sd_rise_5 rfl (by assumption) ?_
  refine xs_iconst (v := 2) C0 d_Sd_rise_6 (by decide) ?_
  refine xs_icmp_ne (tgt := 12) C0 d_Sd_rise_7 (by decide) (fun c_2 => ?_) (fun c_2 => ?_)
  · refine xs_aload_n C0 d_Sd_rise_12 rfl 0 rfl ?_
    refine xs_get (q := 21) (v := .ref 22) C0 f_Sd_9 d_Sd_rise_13 rfl rfl ?_
    refine xs_iload_n C0 d_Sd_rise_16 rfl 1 rfl ?_
    refine xs_iald C0 d_Sd_rise_17 rfl (by assumption) ?_
    refine xs_iconst (v := 3) C0 d_Sd_rise_18 (by decide) ?_
    refine xs_icmp_ne (tgt := 31) C0 d_Sd_rise_19 (by decide) (fun c_3 => ?_) (fun c_3 => ?_)
    · refine xs_aload_n C0 d_Sd_rise_31 rfl 0 rfl ?_
      refine xs_get (q := 21) (v := .ref 23) C0 f_Sd_15 d_Sd_rise_32 rfl rfl ?_
      refine xs_iload_n C0 d_Sd_rise_35 rfl 1 rfl ?_
      refine xs_iald C0 d_Sd_rise_36 rfl (by assumption) ?_
      refine xs_iconst (v := 1) C0 d_Sd_rise_37 (by decide) ?_
      refine xs_iadd C0 d_Sd_rise_38 ?_
      refine xs_istore_n (lv' := [(3, .int ((sc_1 r.toNatClampNeg) + 1)), (0, .ref 21), (1, .int r), (2, .int p)]) C0 d_Sd_rise_39 rfl (by decide) rfl ?_
      refine xs_iload_n C0 d_Sd_rise_40 rfl 0 rfl ?_
      refine xs_iload_n C0 d_Sd_rise_41 rfl 3 rfl ?_
      refine xs_icmp_lt (tgt := 65) C0 d_Sd_rise_42 (by decide) (fun c_4 => ?_) (fun c_4 => ?_)
      · refine xs_aload_n C0 d_Sd_rise_65 rfl 1 rfl ?_
        refine xs_iload_n C0 d_Sd_rise_66 rfl 2 rfl ?_
        refine xs_iconst (v := 1) C0 d_Sd_rise_67 (by decide) ?_
        refine xs_iload_n C0 d_Sd_rise_68 rfl 0 rfl ?_
        obtain ⟨S_5, hS_5⟩ : ∃ X, f_put (ss_1, sc_1, sw_1, su_1, sd_1, sk_1, sb_1) r 1 ((sc_1 r.toNatClampNeg) + 1) = X := ⟨_, rfl⟩
        refine xs_cV0 (ω' := (wd P0 P1 P2 P3 P4 pl dr ki ow S_5 T F H tt ++ rest)) (As := [.int r, .int 1, .int ((sc_1 r.toNatClampNeg) + 1)]) (st := []) (kc' := 0) (ks' := 0) C0 d_Sd_rise_69 l_Sd_49 rfl rfl (c_putn (by assumption) hS_5) rfl rfl rfl (Nat.le_of_ble_eq_true rfl) (Nat.le_of_ble_eq_true rfl) (Nat.le_of_ble_eq_true rfl) (Nat.le_of_ble_eq_true rfl) (Nat.le_of_ble_eq_true rfl) (Nat.le_of_ble_eq_true rfl) ?_
        refine xs_iconst (v := 1) C0 d_Sd_rise_72 (by decide) ?_
        unfold f_rise at hf
        dsimp only at hf
        rw [if_neg c_2, if_neg c_3, if_pos c_4, hS_5] at hf
        cases hf
        exact xs_zret C0 d_Sd_rise_73 (by decide) (⟨rfl, rfl⟩) (Nat.le_of_ble_eq_true rfl) (Nat.le_of_ble_eq_true rfl)
      · refine xs_aload_n C0 d_Sd_rise_45 rfl 1 rfl ?_
        refine xs_iload_n C0 d_Sd_rise_46 rfl 2 rfl ?_
        refine xs_iconst (v := 2) C0 d_Sd_rise_47 (by decide) ?_
        refine xs_iconst (v := 0) C0 d_Sd_rise_48 (by decide) ?_
        obtain ⟨S_6, hS_6⟩ : ∃ X, f_put (ss_1, sc_1, sw_1, su_1, sd_1, sk_1, sb_1) r 2 0 = X := ⟨_, rfl⟩
        refine xs_cV0 (ω' := (wd P0 P1 P2 P3 P4 pl dr ki ow S_6 T F H tt ++ rest)) (As := [.int r, .int 2, .int 0]) (st := []) (kc' := 0) (ks' := 0) C0 d_Sd_rise_49 l_Sd_49 rfl rfl (c_putn (by assumption) hS_6) rfl rfl rfl (Nat.le_of_ble_eq_true rfl) (Nat.le_of_ble_eq_true rfl) (Nat.le_of_ble_eq_true rfl) (Nat.le_of_ble_eq_true rfl) (Nat.le_of_ble_eq_true rfl) (Nat.le_of_ble_eq_true rfl) ?_
        refine xs_aload_n C0 d_Sd_rise_52 rfl 1 rfl ?_
        refine xs_get (q := 21) (v := .ref 24) C0 f_Sd_18 d_Sd_rise_53 rfl rfl ?_
        refine xs_iload_n C0 d_Sd_rise_56 rfl 2 rfl ?_
        refine xs_dup2_11 C0 d_Sd_rise_57 rfl rfl ?_
        obtain ⟨ss_7, sc_7, sw_7, su_7, sd_7, sk_7, sb_7⟩ := S_6
        refine xs_iald C0 d_Sd_rise_58 rfl (by assumption) ?_
        refine xs_iconst (v := 1) C0 d_Sd_rise_59 (by decide) ?_
        refine xs_iadd C0 d_Sd_rise_60 ?_
        refine xs_pc (pc' := 61) rfl ?_
        refine xs_iast (ω' := (wd P0 P1 P2 P3 P4 pl dr ki ow (ss_7, sc_7, upd sw_7 r.toNatClampNeg ((sw_7 r.toNatClampNeg) + 1), su_7, sd_7, sk_7, sb_7) T F H tt ++ rest)) C0 d_Sd_rise_61 rfl (by assumption) rfl ?_
        refine xs_goto (tgt := 72) C0 d_Sd_rise_62 (by decide) ?_
        refine xs_iconst (v := 1) C0 d_Sd_rise_72 (by decide) ?_
        unfold f_rise at hf
        dsimp only at hf
        rw [if_neg c_2, if_neg c_3, if_neg c_4, hS_6] at hf
        cases hf
        exact xs_zret C0 d_Sd_rise_73 (by decide) (⟨rfl, rfl⟩) (Nat.le_of_ble_eq_true rfl) (Nat.le_of_ble_eq_true rfl)
    · refine xs_aload_n C0 d_Sd_rise_22 rfl 0 rfl ?_
      refine xs_iload_n C0 d_Sd_rise_23 rfl 1 rfl ?_
      refine xs_iconst (v := 2) C0 d_Sd_rise_24 (by decide) ?_
      refine xs_iconst (v := 0) C0 d_Sd_rise_25 (by decide) ?_
      obtain ⟨S_8, hS_8⟩ : ∃ X, f_put (ss_1, sc_1, sw_1, su_1, sd_1, sk_1, sb_1) r 2 0 = X := ⟨_, rfl⟩
      refine xs_cV0 (ω' := (wd P0 P1 P2 P3 P4 pl dr ki ow S_8 T F H tt ++ rest)) (As := [.int r, .int 2, .int 0]) (st := []) (kc' := 0) (ks' := 0) C0 d_Sd_rise_26 l_Sd_49 rfl rfl (c_putn (by assumption) hS_8) rfl rfl rfl (Nat.le_of_ble_eq_true rfl) (Nat.le_of_ble_eq_true rfl) (Nat.le_of_ble_eq_true rfl) (Nat.le_of_ble_eq_true rfl) (Nat.le_of_ble_eq_true rfl) (Nat.le_of_ble_eq_true rfl) ?_
      refine xs_iconst (v := 1) C0 d_Sd_rise_29 (by decide) ?_
      unfold f_rise at hf
      dsimp only at hf
      rw [if_neg c_2, if_pos c_3, hS_8] at hf
      cases hf
      exact xs_zret C0 d_Sd_rise_30 (by decide) (⟨rfl, rfl⟩) (Nat.le_of_ble_eq_true rfl) (Nat.le_of_ble_eq_true rfl)
  · refine xs_iconst (v := 0) C0 d_Sd_rise_10 (by decide) ?_
    unfold f_rise at hf
    dsimp only at hf
    rw [if_pos c_2] at hf
    cases hf
    exact xs_zret C0 d_Sd_rise_11 (by decide) (⟨rfl, rfl⟩) (Nat.le_of_ble_eq_true rfl) (Nat.le_of_ble_eq_true rfl)
set_option maxHeartbeats 4000000 in
set_option maxRecDepth 100000 in
theorem c_falln {P0 P1 P2 P3 P4 : wt_P} {pl dr ki ow : Nat → Int32} {S T : wt_S} {F : wt_F} {H : wt_H} {tt : Int32} {rest : xm_O} {S1 : wt_S} {r p b : Int32} (hr : vp_in r 16) (hf : f_fall S r p = (b, S1)) : xm_M y_Sd_fall (Cond.code y_Sd_fall b_Sd_fall 4 (some .boolean)) (xm_rm 2 0 0) [.ref 21, .int r, .int p] (wd P0 P1 P2 P3 P4 pl dr ki ow S T F H tt ++ rest) (xm_eq (.inl (some (.int b))) (wd P0 P1 P2 P3 P4 pl dr ki ow S1 T F H tt ++ rest)) := by
  refine xm_of (by decide) (Nat.le_of_ble_eq_true rfl) (fun E C0 => ?_)
  refine xs_eq (lv' := [(0, .ref 21), (1, .int r), (2, .int p)]) rfl rfl rfl ?_
  refine xs_aload_n C0 d_Sd_fall_0 rfl 0 rfl ?_
  refine xs_get (q := 21) (v := .ref 22) C0 f_Sd_9 d_Sd_fall_1 rfl rfl ?_
  refine xs_iload_n C0 d_Sd_fall_4 rfl 1 rfl ?_
  obtain ⟨ss_1, sc_1, sw_1, su_1, sd_1, sk_1, sb_1⟩ := S
  refine xs_iald C0 d_Sd_fall_5 rfl (by assumption) ?_
  refine xs_if_ne (tgt := 11) C0 d_Sd_fall_6 (by decide) (fun c_2 => ?_) (fun c_2 => ?_)
  · refine xs_aload_n C0 d_Sd_fall_11 rfl 0 rfl ?_
    refine xs_get (q := 21) (v := .ref 22) C0 f_Sd_9 d_Sd_fall_12 rfl rfl ?_
    refine xs_iload_n C0 d_Sd_fall_15 rfl 1 rfl ?_
    refine xs_iald C0 d_Sd_fall_16 rfl (by assumption) ?_
    refine xs_iconst (v := 1) C0 d_Sd_fall_17 (by decide) ?_
    refine xs_icmp_ne (tgt := 30) C0 d_Sd_fall_18 (by decide) (fun c_3 => ?_) (fun c_3 => ?_)
    · refine xs_aload_n C0 d_Sd_fall_30 rfl 0 rfl ?_
      refine xs_get (q := 21) (v := .ref 23) C0 f_Sd_15 d_Sd_fall_31 rfl rfl ?_
      refine xs_iload_n C0 d_Sd_fall_34 rfl 1 rfl ?_
      refine xs_iald C0 d_Sd_fall_35 rfl (by assumption) ?_
      refine xs_iconst (v := 1) C0 d_Sd_fall_36 (by decide) ?_
      refine xs_iadd C0 d_Sd_fall_37 ?_
      refine xs_istore_n (lv' := [(3, .int ((sc_1 r.toNatClampNeg) + 1)), (0, .ref 21), (1, .int r), (2, .int p)]) C0 d_Sd_fall_38 rfl (by decide) rfl ?_
      refine xs_iload_n C0 d_Sd_fall_39 rfl 0 rfl ?_
      refine xs_iload_n C0 d_Sd_fall_40 rfl 3 rfl ?_
      refine xs_icmp_lt (tgt := 54) C0 d_Sd_fall_41 (by decide) (fun c_4 => ?_) (fun c_4 => ?_)
      · refine xs_aload_n C0 d_Sd_fall_54 rfl 1 rfl ?_
        refine xs_iload_n C0 d_Sd_fall_55 rfl 2 rfl ?_
        refine xs_iconst (v := 3) C0 d_Sd_fall_56 (by decide) ?_
        refine xs_iload_n C0 d_Sd_fall_57 rfl 0 rfl ?_
        obtain ⟨S_5, hS_5⟩ : ∃ X, f_put (ss_1, sc_1, sw_1, su_1, sd_1, sk_1, sb_1) r 3 ((sc_1 r.toNatClampNeg) + 1) = X := ⟨_, rfl⟩
        refine xs_cV0 (ω' := (wd P0 P1 P2 P3 P4 pl dr ki ow S_5 T F H tt ++ rest)) (As := [.int r, .int 3, .int ((sc_1 r.toNatClampNeg) + 1)]) (st := []) (kc' := 0) (ks' := 0) C0 d_Sd_fall_58 l_Sd_49 rfl rfl (c_putn (by assumption) hS_5) rfl rfl rfl (Nat.le_of_ble_eq_true rfl) (Nat.le_of_ble_eq_true rfl) (Nat.le_of_ble_eq_true rfl) (Nat.le_of_ble_eq_true rfl) (Nat.le_of_ble_eq_true rfl) (Nat.le_of_ble_eq_true rfl) ?_
        refine xs_iconst (v := 1) C0 d_Sd_fall_61 (by decide) ?_
        unfold f_fall at hf
        dsimp only at hf
        rw [if_neg c_2, if_neg c_3, if_pos c_4, hS_5] at hf
        cases hf
        exact xs_zret C0 d_Sd_fall_62 (by decide) (⟨rfl, rfl⟩) (Nat.le_of_ble_eq_true rfl) (Nat.le_of_ble_eq_true rfl)
      · refine xs_aload_n C0 d_Sd_fall_44 rfl 1 rfl ?_
        refine xs_iload_n C0 d_Sd_fall_45 rfl 2 rfl ?_
        refine xs_iconst (v := 0) C0 d_Sd_fall_46 (by decide) ?_
        refine xs_iconst (v := 0) C0 d_Sd_fall_47 (by decide) ?_
        obtain ⟨S_6, hS_6⟩ : ∃ X, f_put (ss_1, sc_1, sw_1, su_1, sd_1, sk_1, sb_1) r 0 0 = X := ⟨_, rfl⟩
        refine xs_cV0 (ω' := (wd P0 P1 P2 P3 P4 pl dr ki ow S_6 T F H tt ++ rest)) (As := [.int r, .int 0, .int 0]) (st := []) (kc' := 0) (ks' := 0) C0 d_Sd_fall_48 l_Sd_49 rfl rfl (c_putn (by assumption) hS_6) rfl rfl rfl (Nat.le_of_ble_eq_true rfl) (Nat.le_of_ble_eq_true rfl) (Nat.le_of_ble_eq_true rfl) (Nat.le_of_ble_eq_true rfl) (Nat.le_of_ble_eq_true rfl) (Nat.le_of_ble_eq_true rfl) ?_
        refine xs_goto (tgt := 61) C0 d_Sd_fall_51 (by decide) ?_
        refine xs_iconst (v := 1) C0 d_Sd_fall_61 (by decide) ?_
        unfold f_fall at hf
        dsimp only at hf
        rw [if_neg c_2, if_neg c_3, if_neg c_4, hS_6] at hf
        cases hf
        exact xs_zret C0 d_Sd_fall_62 (by decide) (⟨rfl, rfl⟩) (Nat.le_of_ble_eq_true rfl) (Nat.le_of_ble_eq_true rfl)
    · refine xs_aload_n C0 d_Sd_fall_21 rfl 0 rfl ?_
      refine xs_iload_n C0 d_Sd_fall_22 rfl 1 rfl ?_
      refine xs_iconst (v := 0) C0 d_Sd_fall_23 (by decide) ?_
      refine xs_iconst (v := 0) C0 d_Sd_fall_24 (by decide) ?_
      obtain ⟨S_7, hS_7⟩ : ∃ X, f_put (ss_1, sc_1, sw_1, su_1, sd_1, sk_1, sb_1) r 0 0 = X := ⟨_, rfl⟩
      refine xs_cV0 (ω' := (wd P0 P1 P2 P3 P4 pl dr ki ow S_7 T F H tt ++ rest)) (As := [.int r, .int 0, .int 0]) (st := []) (kc' := 0) (ks' := 0) C0 d_Sd_fall_25 l_Sd_49 rfl rfl (c_putn (by assumption) hS_7) rfl rfl rfl (Nat.le_of_ble_eq_true rfl) (Nat.le_of_ble_eq_true rfl) (Nat.le_of_ble_eq_true rfl) (Nat.le_of_ble_eq_true rfl) (Nat.le_of_ble_eq_true rfl) (Nat.le_of_ble_eq_true rfl) ?_
      refine xs_iconst (v := 1) C0 d_Sd_fall_28 (by decide) ?_
      unfold f_fall at hf
      dsimp only at hf
      rw [if_neg c_2, if_pos c_3, hS_7] at hf
      cases hf
      exact xs_zret C0 d_Sd_fall_29 (by decide) (⟨rfl, rfl⟩) (Nat.le_of_ble_eq_true rfl) (Nat.le_of_ble_eq_true rfl)
  · refine xs_iconst (v := 0) C0 d_Sd_fall_9 (by decide) ?_
    unfold f_fall at hf
    dsimp only at hf
    rw [if_pos c_2] at hf
    cases hf
    exact xs_zret C0 d_Sd_fall_10 (by decide) (⟨rfl, rfl⟩) (Nat.le_of_ble_eq_true rfl) (Nat.le_of_ble_eq_true rfl)
set_option maxHeartbeats 4000000 in
set_option maxRecDepth 100000 in
theorem c_skn {P0 P1 P2 P3 P4 : wt_P} {pl dr ki ow : Nat → Int32} {S T : wt_S} {F : wt_F} {H : wt_H} {tt : Int32} {rest : xm_O} {S1 : wt_S} {k z b : Int32} (hf : f_sk S k z = (b, S1)) : xm_M y_Sd_setKnob (Cond.code y_Sd_setKnob b_Sd_setKnob 4 (some .boolean)) (xm_rm 1 0 0) [.ref 21, .int k, .int z] (wd P0 P1 P2 P3 P4 pl dr ki ow S T F H tt ++ rest) (xm_eq (.inl (some (.int b))) (wd P0 P1 P2 P3 P4 pl dr ki ow S1 T F H tt ++ rest)) := by
  refine xm_of (by decide) (Nat.le_of_ble_eq_true rfl) (fun E C0 => ?_)
  refine xs_eq (lv' := [(0, .ref 21), (1, .int k), (2, .int z)]) rfl rfl rfl ?_
  refine xs_aload_n C0 d_Sd_setKnob_0 rfl 0 rfl ?_
  obtain ⟨ss_1, sc_1, sw_1, su_1, sd_1, sk_1, sb_1⟩ := S
  refine xs_get (q := 21) (v := .int sk_1) C0 f_Sd_28 d_Sd_setKnob_1 rfl rfl ?_
  refine xs_iload_n C0 d_Sd_setKnob_4 rfl 1 rfl ?_
  refine xs_cS1 (ω' := (wd P0 P1 P2 P3 P4 pl dr ki ow (ss_1, sc_1, sw_1, su_1, sd_1, sk_1, sb_1) T F H tt ++ rest)) (av := [.int sk_1, .int k]) (st := []) (kc' := 0) (ks' := 0) (v := .int (f_hb sk_1 k)) C0 d_Sd_setKnob_5 l_Sd_41 (c_hb _ sk_1 k) rfl rfl rfl (Nat.le_of_ble_eq_true rfl) (Nat.le_of_ble_eq_true rfl) (Nat.le_of_ble_eq_true rfl) (Nat.le_of_ble_eq_true rfl) (Nat.le_of_ble_eq_true rfl) (Nat.le_of_ble_eq_true rfl) ?_
  refine xs_istore_n (lv' := [(3, .int (f_hb sk_1 k)), (0, .ref 21), (1, .int k), (2, .int z)]) C0 d_Sd_setKnob_8 rfl (by decide) rfl ?_
  refine xs_aload_n C0 d_Sd_setKnob_9 rfl 1 rfl ?_
  refine xs_aload_n C0 d_Sd_setKnob_10 rfl 1 rfl ?_
  refine xs_get (q := 21) (v := .int sk_1) C0 f_Sd_28 d_Sd_setKnob_11 rfl rfl ?_
  refine xs_iload_n C0 d_Sd_setKnob_14 rfl 2 rfl ?_
  refine xs_iload_n C0 d_Sd_setKnob_15 rfl 3 rfl ?_
  refine xs_cS1 (ω' := (wd P0 P1 P2 P3 P4 pl dr ki ow (ss_1, sc_1, sw_1, su_1, sd_1, sk_1, sb_1) T F H tt ++ rest)) (av := [.int sk_1, .int k, .int z]) (st := [.ref 21]) (kc' := 0) (ks' := 0) (v := .int (f_wb sk_1 k z)) C0 d_Sd_setKnob_16 l_Sd_45 (c_wb _ sk_1 k z) rfl rfl rfl (Nat.le_of_ble_eq_true rfl) (Nat.le_of_ble_eq_true rfl) (Nat.le_of_ble_eq_true rfl) (Nat.le_of_ble_eq_true rfl) (Nat.le_of_ble_eq_true rfl) (Nat.le_of_ble_eq_true rfl) ?_
  refine xs_put (ω' := (wd P0 P1 P2 P3 P4 pl dr ki ow (ss_1, sc_1, sw_1, su_1, sd_1, (f_wb sk_1 k z), sb_1) T F H tt ++ rest)) C0 f_Sd_28 ty_Sd_5 d_Sd_setKnob_19 rfl (Nat.le_of_ble_eq_true rfl) (fun _ => ⟨rfl, rfl⟩) rfl ?_
  refine xs_pc (pc' := 22) rfl ?_
  refine xs_iload_n C0 d_Sd_setKnob_22 rfl 0 rfl ?_
  refine xs_iload_n C0 d_Sd_setKnob_23 rfl 3 rfl ?_
  refine xs_bi_eq (u := 1) (v := 0) (tgt := 31) (J := 32) C0 d_Sd_setKnob_24 (by decide) d_Sd_setKnob_27 (by decide) d_Sd_setKnob_28 (by decide) d_Sd_setKnob_31 (by decide) rfl ?_
  simp only [f_sk, Prod.mk.injEq] at hf
  obtain ⟨rfl, rfl⟩ := hf
  exact xs_zret C0 d_Sd_setKnob_32 xm_b01 (⟨rfl, rfl⟩) (Nat.le_of_ble_eq_true rfl) (Nat.le_of_ble_eq_true rfl)
set_option maxHeartbeats 4000000 in
set_option maxRecDepth 100000 in
theorem c_rcn {P0 P1 P2 P3 P4 : wt_P} {pl dr ki ow : Nat → Int32} {S T : wt_S} {F : wt_F} {H : wt_H} {tt : Int32} {rest : xm_O} (k : Int32) (hk : k = 0 ∨ k = 1 ∨ k = 2 ∨ k = 3 ∨ k = 4) : xm_M y_Sd_relaysClosing (Cond.code y_Sd_relaysClosing b_Sd_relaysClosing 2 (some .int)) (xm_rm 0 0 0) [.ref 21, .int k] (wd P0 P1 P2 P3 P4 pl dr ki ow S T F H tt ++ rest) (xm_eq (.inl (some (.int (f_rc S k)))) (wd P0 P1 P2 P3 P4 pl dr ki ow S T F H tt ++ rest)) := by
  refine xm_of (by decide) (Nat.le_of_ble_eq_true rfl) (fun E C0 => ?_)
  refine xs_eq (lv' := [(0, .ref 21), (1, .int k)]) rfl rfl rfl ?_
  rcases hk with rfl | rfl | rfl | rfl | rfl
  · refine xs_eq (lv' := [(0, .ref 21), (1, .int 0)]) rfl rfl rfl ?_
    refine xs_iload_n C0 d_Sd_relaysClosing_0 rfl 1 rfl ?_
    refine xs_tableIn (off := 31) (tgt := 32) C0 d_Sd_relaysClosing_1 (by decide) (by decide) (by decide) (by decide) ?_
    refine xs_aload_n C0 d_Sd_relaysClosing_32 rfl 0 rfl ?_
    obtain ⟨ss_1, sc_1, sw_1, su_1, sd_1, sk_1, sb_1⟩ := S
    refine xs_get (q := 21) (v := .int su_1) C0 f_Sd_21 d_Sd_relaysClosing_33 rfl rfl ?_
    exact xs_iret C0 d_Sd_relaysClosing_36 (⟨rfl, rfl⟩) (Nat.le_of_ble_eq_true rfl) (Nat.le_of_ble_eq_true rfl)
  · refine xs_eq (lv' := [(0, .ref 21), (1, .int 1)]) rfl rfl rfl ?_
    refine xs_iload_n C0 d_Sd_relaysClosing_0 rfl 1 rfl ?_
    refine xs_tableIn (off := 36) (tgt := 37) C0 d_Sd_relaysClosing_1 (by decide) (by decide) (by decide) (by decide) ?_
    refine xs_aload_n C0 d_Sd_relaysClosing_37 rfl 0 rfl ?_
    obtain ⟨ss_1, sc_1, sw_1, su_1, sd_1, sk_1, sb_1⟩ := S
    refine xs_get (q := 21) (v := .int sd_1) C0 f_Sd_25 d_Sd_relaysClosing_38 rfl rfl ?_
    exact xs_iret C0 d_Sd_relaysClosing_41 (⟨rfl, rfl⟩) (Nat.le_of_ble_eq_true rfl) (Nat.le_of_ble_eq_true rfl)
  · refine xs_eq (lv' := [(0, .ref 21), (1, .int 2)]) rfl rfl rfl ?_
    refine xs_iload_n C0 d_Sd_relaysClosing_0 rfl 1 rfl ?_
    refine xs_tableIn (off := 41) (tgt := 42) C0 d_Sd_relaysClosing_1 (by decide) (by decide) (by decide) (by decide) ?_
    refine xs_aload_n C0 d_Sd_relaysClosing_42 rfl 0 rfl ?_
    obtain ⟨ss_1, sc_1, sw_1, su_1, sd_1, sk_1, sb_1⟩ := S
    refine xs_get (q := 21) (v := .int sd_1) C0 f_Sd_25 d_Sd_relaysClosing_43 rfl rfl ?_
    refine xs_iconst (v := (-1)) C0 d_Sd_relaysClosing_46 (by decide) ?_
    refine xs_ixor C0 d_Sd_relaysClosing_47 ?_
    exact xs_iret C0 d_Sd_relaysClosing_48 (⟨rfl, rfl⟩) (Nat.le_of_ble_eq_true rfl) (Nat.le_of_ble_eq_true rfl)
  · refine xs_eq (lv' := [(0, .ref 21), (1, .int 3)]) rfl rfl rfl ?_
    refine xs_iload_n C0 d_Sd_relaysClosing_0 rfl 1 rfl ?_
    refine xs_tableIn (off := 48) (tgt := 49) C0 d_Sd_relaysClosing_1 (by decide) (by decide) (by decide) (by decide) ?_
    refine xs_aload_n C0 d_Sd_relaysClosing_49 rfl 0 rfl ?_
    obtain ⟨ss_1, sc_1, sw_1, su_1, sd_1, sk_1, sb_1⟩ := S
    refine xs_get (q := 21) (v := .int su_1) C0 f_Sd_21 d_Sd_relaysClosing_50 rfl rfl ?_
    refine xs_iconst (v := (-1)) C0 d_Sd_relaysClosing_53 (by decide) ?_
    refine xs_ixor C0 d_Sd_relaysClosing_54 ?_
    exact xs_iret C0 d_Sd_relaysClosing_55 (⟨rfl, rfl⟩) (Nat.le_of_ble_eq_true rfl) (Nat.le_of_ble_eq_true rfl)
  · refine xs_eq (lv' := [(0, .ref 21), (1, .int 4)]) rfl rfl rfl ?_
    refine xs_iload_n C0 d_Sd_relaysClosing_0 rfl 1 rfl ?_
    refine xs_tableOut (tgt := 56) C0 d_Sd_relaysClosing_1 (by decide) (by decide) ?_
    refine xs_iconst (v := (-1)) C0 d_Sd_relaysClosing_56 (by decide) ?_
    exact xs_iret C0 d_Sd_relaysClosing_57 (⟨rfl, rfl⟩) (Nat.le_of_ble_eq_true rfl) (Nat.le_of_ble_eq_true rfl)
set_option maxHeartbeats 4000000 in
set_option maxRecDepth 100000 in
theorem c_becn {P0 P1 P2 P3 P4 : wt_P} {pl dr ki ow : Nat → Int32} {S T : wt_S} {F : wt_F} {H : wt_H} {tt : Int32} {rest : xm_O} {S1 : wt_S} (hz : T.2.2.2.2.2.2 = 0 ∨ T.2.2.2.2.2.2 = 1) (hf : f_bec T S = S1) : xm_M y_Sd_become (Cond.code y_Sd_become b_Sd_become 2 none) (xm_rm 1 0 0) [.ref 21, .ref 25] (wd P0 P1 P2 P3 P4 pl dr ki ow S T F H tt ++ rest) (xm_eq (.inl none) (wd P0 P1 P2 P3 P4 pl dr ki ow S1 T F H tt ++ rest)) := by
  refine xm_of (by decide) (Nat.le_of_ble_eq_true rfl) (fun E C0 => ?_)
  refine xs_eq (lv' := [(0, .ref 21), (1, .ref 25)]) rfl rfl rfl ?_
  refine xs_aload_n C0 d_Sd_become_0 rfl 1 rfl ?_
  refine xs_get (q := 25) (v := .ref 26) C0 f_Sd_9 d_Sd_become_1 rfl rfl ?_
  refine xs_iconst (v := 0) C0 d_Sd_become_4 (by decide) ?_
  refine xs_aload_n C0 d_Sd_become_5 rfl 0 rfl ?_
  refine xs_get (q := 21) (v := .ref 22) C0 f_Sd_9 d_Sd_become_6 rfl rfl ?_
  refine xs_iconst (v := 0) C0 d_Sd_become_9 (by decide) ?_
  refine xs_bipush (v := 16) C0 d_Sd_become_10 (by decide) ?_
  obtain ⟨ts_1, tc_1, tw_1, tu_1, td_1, tk_1, tb_1⟩ := T
  obtain ⟨ss_2, sc_2, sw_2, su_2, sd_2, sk_2, sb_2⟩ := S
  refine xs_copyi (ω' := (wd P0 P1 P2 P3 P4 pl dr ki ow (va_cpy ts_1 ss_2 0 0 16, sc_2, sw_2, su_2, sd_2, sk_2, sb_2) (ts_1, tc_1, tw_1, tu_1, td_1, tk_1, tb_1) F H tt ++ rest)) C0 d_Sd_become_12 k_537 k_539 k_538 k_16 rfl rfl (by decide) (by decide) (by decide) (by decide) (by decide) (Nat.le_of_ble_eq_true rfl) (Nat.le_of_ble_eq_true rfl) rfl ?_
  refine xs_aload_n C0 d_Sd_become_15 rfl 1 rfl ?_
  refine xs_get (q := 25) (v := .ref 27) C0 f_Sd_15 d_Sd_become_16 rfl rfl ?_
  refine xs_iconst (v := 0) C0 d_Sd_become_19 (by decide) ?_
  refine xs_aload_n C0 d_Sd_become_20 rfl 0 rfl ?_
  refine xs_pc (pc' := 21) rfl ?_
  refine xs_get (q := 21) (v := .ref 23) C0 f_Sd_15 d_Sd_become_21 rfl rfl ?_
  refine xs_iconst (v := 0) C0 d_Sd_become_24 (by decide) ?_
  refine xs_bipush (v := 16) C0 d_Sd_become_25 (by decide) ?_
  refine xs_copyi (ω' := (wd P0 P1 P2 P3 P4 pl dr ki ow (va_cpy ts_1 ss_2 0 0 16, va_cpy tc_1 sc_2 0 0 16, sw_2, su_2, sd_2, sk_2, sb_2) (ts_1, tc_1, tw_1, tu_1, td_1, tk_1, tb_1) F H tt ++ rest)) C0 d_Sd_become_27 k_537 k_539 k_538 k_16 rfl rfl (by decide) (by decide) (by decide) (by decide) (by decide) (Nat.le_of_ble_eq_true rfl) (Nat.le_of_ble_eq_true rfl) rfl ?_
  refine xs_aload_n C0 d_Sd_become_30 rfl 1 rfl ?_
  refine xs_get (q := 25) (v := .ref 28) C0 f_Sd_18 d_Sd_become_31 rfl rfl ?_
  refine xs_iconst (v := 0) C0 d_Sd_become_34 (by decide) ?_
  refine xs_aload_n C0 d_Sd_become_35 rfl 0 rfl ?_
  refine xs_get (q := 21) (v := .ref 24) C0 f_Sd_18 d_Sd_become_36 rfl rfl ?_
  refine xs_iconst (v := 0) C0 d_Sd_become_39 (by decide) ?_
  refine xs_bipush (v := 16) C0 d_Sd_become_40 (by decide) ?_
  refine xs_copyi (ω' := (wd P0 P1 P2 P3 P4 pl dr ki ow (va_cpy ts_1 ss_2 0 0 16, va_cpy tc_1 sc_2 0 0 16, va_cpy tw_1 sw_2 0 0 16, su_2, sd_2, sk_2, sb_2) (ts_1, tc_1, tw_1, tu_1, td_1, tk_1, tb_1) F H tt ++ rest)) C0 d_Sd_become_42 k_537 k_539 k_538 k_16 rfl rfl (by decide) (by decide) (by decide) (by decide) (by decide) (Nat.le_of_ble_eq_true rfl) (Nat.le_of_ble_eq_true rfl) rfl ?_
  refine xs_pc (pc' := 45) rfl ?_
  refine xs_aload_n C0 d_Sd_become_45 rfl 0 rfl ?_
  refine xs_aload_n C0 d_Sd_become_46 rfl 1 rfl ?_
  refine xs_get (q := 25) (v := .int tu_1) C0 f_Sd_21 d_Sd_become_47 rfl rfl ?_
  refine xs_put (ω' := (wd P0 P1 P2 P3 P4 pl dr ki ow (va_cpy ts_1 ss_2 0 0 16, va_cpy tc_1 sc_2 0 0 16, va_cpy tw_1 sw_2 0 0 16, tu_1, sd_2, sk_2, sb_2) (ts_1, tc_1, tw_1, tu_1, td_1, tk_1, tb_1) F H tt ++ rest)) C0 f_Sd_21 ty_Sd_3 d_Sd_become_50 rfl (Nat.le_of_ble_eq_true rfl) (fun _ => ⟨rfl, rfl⟩) rfl ?_
  refine xs_aload_n C0 d_Sd_become_53 rfl 0 rfl ?_
  refine xs_aload_n C0 d_Sd_become_54 rfl 1 rfl ?_
  refine xs_get (q := 25) (v := .int td_1) C0 f_Sd_25 d_Sd_become_55 rfl rfl ?_
  refine xs_put (ω' := (wd P0 P1 P2 P3 P4 pl dr ki ow (va_cpy ts_1 ss_2 0 0 16, va_cpy tc_1 sc_2 0 0 16, va_cpy tw_1 sw_2 0 0 16, tu_1, td_1, sk_2, sb_2) (ts_1, tc_1, tw_1, tu_1, td_1, tk_1, tb_1) F H tt ++ rest)) C0 f_Sd_25 ty_Sd_4 d_Sd_become_58 rfl (Nat.le_of_ble_eq_true rfl) (fun _ => ⟨rfl, rfl⟩) rfl ?_
  refine xs_aload_n C0 d_Sd_become_61 rfl 0 rfl ?_
  refine xs_aload_n C0 d_Sd_become_62 rfl 1 rfl ?_
  refine xs_get (q := 25) (v := .int tk_1) C0 f_Sd_28 d_Sd_become_63 rfl rfl ?_
  refine xs_put (ω' := (wd P0 P1 P2 P3 P4 pl dr ki ow (va_cpy ts_1 ss_2 0 0 16, va_cpy tc_1 sc_2 0 0 16, va_cpy tw_1 sw_2 0 0 16, tu_1, td_1, tk_1, sb_2) (ts_1, tc_1, tw_1, tu_1, td_1, tk_1, tb_1) F H tt ++ rest)) C0 f_Sd_28 ty_Sd_5 d_Sd_become_66 rfl (Nat.le_of_ble_eq_true rfl) (fun _ => ⟨rfl, rfl⟩) rfl ?_
  refine xs_pc (pc' := 69) rfl ?_
  refine xs_aload_n C0 d_Sd_become_69 rfl 0 rfl ?_
  refine xs_aload_n C0 d_Sd_become_70 rfl 1 rfl ?_
  refine xs_get (q := 25) (v := .int tb_1) C0 f_Sd_31 d_Sd_become_71 rfl rfl ?_
  refine xs_put (ω' := (wd P0 P1 P2 P3 P4 pl dr ki ow (va_cpy ts_1 ss_2 0 0 16, va_cpy tc_1 sc_2 0 0 16, va_cpy tw_1 sw_2 0 0 16, tu_1, td_1, tk_1, tb_1) (ts_1, tc_1, tw_1, tu_1, td_1, tk_1, tb_1) F H tt ++ rest)) C0 f_Sd_31 ty_Sd_6 d_Sd_become_74 rfl (Nat.le_of_ble_eq_true rfl) (xm_zfit hz) rfl ?_
  subst hf
  exact xs_vret C0 d_Sd_become_77 (⟨rfl, rfl⟩) (Nat.le_of_ble_eq_true rfl) (Nat.le_of_ble_eq_true rfl)
set_option maxHeartbeats 4000000 in
set_option maxRecDepth 100000 in
theorem c_putt {P0 P1 P2 P3 P4 : wt_P} {pl dr ki ow : Nat → Int32} {S T : wt_S} {F : wt_F} {H : wt_H} {tt : Int32} {rest : xm_O} {T1 : wt_S} {r s c : Int32} (hr : vp_in r 16) (hf : f_put T r s c = T1) : xm_M y_Sd_put (Cond.code y_Sd_put b_Sd_put 4 none) (xm_rm 1 0 0) [.ref 25, .int r, .int s, .int c] (wd P0 P1 P2 P3 P4 pl dr ki ow S T F H tt ++ rest) (xm_eq (.inl none) (wd P0 P1 P2 P3 P4 pl dr ki ow S T1 F H tt ++ rest)) := by
  refine xm_of (by decide) (Nat.le_of_ble_eq_true rfl) (fun E C0 => ?_)
  refine xs_eq (lv' := [(0, .ref 25), (1, .int r), (2, .int s), (3, .int c)]) rfl rfl rfl ?_
  refine xs_aload_n C0 d_Sd_put_0 rfl 0 rfl ?_
  refine xs_get (q := 25) (v := .ref 26) C0 f_Sd_9 d_Sd_put_1 rfl rfl ?_
  refine xs_iload_n C0 d_Sd_put_4 rfl 1 rfl ?_
  refine xs_iload_n C0 d_Sd_put_5 rfl 2 rfl ?_
  obtain ⟨ts_1, tc_1, tw_1, tu_1, td_1, tk_1, tb_1⟩ := T
  refine xs_iast (ω' := (wd P0 P1 P2 P3 P4 pl dr ki ow S (upd ts_1 r.toNatClampNeg s, tc_1, tw_1, tu_1, td_1, tk_1, tb_1) F H tt ++ rest)) C0 d_Sd_put_6 rfl (by assumption) rfl ?_
  refine xs_aload_n C0 d_Sd_put_7 rfl 0 rfl ?_
  refine xs_get (q := 25) (v := .ref 27) C0 f_Sd_15 d_Sd_put_8 rfl rfl ?_
  refine xs_iload_n C0 d_Sd_put_11 rfl 1 rfl ?_
  refine xs_iload_n C0 d_Sd_put_12 rfl 3 rfl ?_
  refine xs_iast (ω' := (wd P0 P1 P2 P3 P4 pl dr ki ow S (upd ts_1 r.toNatClampNeg s, upd tc_1 r.toNatClampNeg c, tw_1, tu_1, td_1, tk_1, tb_1) F H tt ++ rest)) C0 d_Sd_put_13 rfl (by assumption) rfl ?_
  refine xs_aload_n C0 d_Sd_put_14 rfl 0 rfl ?_
  refine xs_aload_n C0 d_Sd_put_15 rfl 0 rfl ?_
  refine xs_pc (pc' := 16) rfl ?_
  refine xs_get (q := 25) (v := .int tu_1) C0 f_Sd_21 d_Sd_put_16 rfl rfl ?_
  refine xs_iload_n C0 d_Sd_put_19 rfl 1 rfl ?_
  refine xs_iload_n C0 d_Sd_put_20 rfl 2 rfl ?_
  refine xs_iconst (v := 2) C0 d_Sd_put_21 (by decide) ?_
  refine xs_bi_ne (u := 1) (v := 0) (tgt := 29) (J := 30) C0 d_Sd_put_22 (by decide) d_Sd_put_25 (by decide) d_Sd_put_26 (by decide) d_Sd_put_29 (by decide) rfl ?_
  refine xs_cS1 (ω' := (wd P0 P1 P2 P3 P4 pl dr ki ow S (upd ts_1 r.toNatClampNeg s, upd tc_1 r.toNatClampNeg c, tw_1, tu_1, td_1, tk_1, tb_1) F H tt ++ rest)) (av := [.int tu_1, .int r, .int (if s = 2 then 1 else 0)]) (st := [.ref 25]) (kc' := 0) (ks' := 0) (v := .int (f_wb tu_1 r (if s = 2 then 1 else 0))) C0 d_Sd_put_30 l_Sd_45 (c_wb _ tu_1 r (if s = 2 then 1 else 0)) rfl rfl rfl (Nat.le_of_ble_eq_true rfl) (Nat.le_of_ble_eq_true rfl) (Nat.le_of_ble_eq_true rfl) (Nat.le_of_ble_eq_true rfl) (Nat.le_of_ble_eq_true rfl) (Nat.le_of_ble_eq_true rfl) ?_
  refine xs_put (ω' := (wd P0 P1 P2 P3 P4 pl dr ki ow S (upd ts_1 r.toNatClampNeg s, upd tc_1 r.toNatClampNeg c, tw_1, (f_wb tu_1 r (if s = 2 then 1 else 0)), td_1, tk_1, tb_1) F H tt ++ rest)) C0 f_Sd_21 ty_Sd_3 d_Sd_put_33 rfl (Nat.le_of_ble_eq_true rfl) (fun _ => ⟨rfl, rfl⟩) rfl ?_
  refine xs_aload_n C0 d_Sd_put_36 rfl 0 rfl ?_
  refine xs_aload_n C0 d_Sd_put_37 rfl 0 rfl ?_
  refine xs_get (q := 25) (v := .int td_1) C0 f_Sd_25 d_Sd_put_38 rfl rfl ?_
  refine xs_iload_n C0 d_Sd_put_41 rfl 1 rfl ?_
  refine xs_iload_n C0 d_Sd_put_42 rfl 2 rfl ?_
  refine xs_bz_ne (u := 1) (v := 0) (tgt := 50) (J := 51) C0 d_Sd_put_43 (by decide) d_Sd_put_46 (by decide) d_Sd_put_47 (by decide) d_Sd_put_50 (by decide) rfl ?_
  refine xs_cS1 (ω' := (wd P0 P1 P2 P3 P4 pl dr ki ow S (upd ts_1 r.toNatClampNeg s, upd tc_1 r.toNatClampNeg c, tw_1, (f_wb tu_1 r (if s = 2 then 1 else 0)), td_1, tk_1, tb_1) F H tt ++ rest)) (av := [.int td_1, .int r, .int (if s = 0 then 1 else 0)]) (st := [.ref 25]) (kc' := 0) (ks' := 0) (v := .int (f_wb td_1 r (if s = 0 then 1 else 0))) C0 d_Sd_put_51 l_Sd_45 (c_wb _ td_1 r (if s = 0 then 1 else 0)) rfl rfl rfl (Nat.le_of_ble_eq_true rfl) (Nat.le_of_ble_eq_true rfl) (Nat.le_of_ble_eq_true rfl) (Nat.le_of_ble_eq_true rfl) (Nat.le_of_ble_eq_true rfl) (Nat.le_of_ble_eq_true rfl) ?_
  refine xs_put (ω' := (wd P0 P1 P2 P3 P4 pl dr ki ow S (upd ts_1 r.toNatClampNeg s, upd tc_1 r.toNatClampNeg c, tw_1, (f_wb tu_1 r (if s = 2 then 1 else 0)), (f_wb td_1 r (if s = 0 then 1 else 0)), tk_1, tb_1) F H tt ++ rest)) C0 f_Sd_25 ty_Sd_4 d_Sd_put_54 rfl (Nat.le_of_ble_eq_true rfl) (fun _ => ⟨rfl, rfl⟩) rfl ?_
  subst hf
  exact xs_vret C0 d_Sd_put_57 (⟨rfl, rfl⟩) (Nat.le_of_ble_eq_true rfl) (Nat.le_of_ble_eq_true rfl)
set_option maxHeartbeats 4000000 in
set_option maxRecDepth 100000 in
theorem c_riset {P0 P1 P2 P3 P4 : wt_P} {pl dr ki ow : Nat → Int32} {S T : wt_S} {F : wt_F} {H : wt_H} {tt : Int32} {rest : xm_O} {T1 : wt_S} {r p b : Int32} (hr : vp_in r 16) (hf : f_rise T r p = (b, T1)) : xm_M y_Sd_rise (Cond.code y_Sd_rise b_Sd_rise 4 (some .boolean)) (xm_rm 2 0 0) [.ref 25, .int r, .int p] (wd P0 P1 P2 P3 P4 pl dr ki ow S T F H tt ++ rest) (xm_eq (.inl (some (.int b))) (wd P0 P1 P2 P3 P4 pl dr ki ow S T1 F H tt ++ rest)) := by
  refine xm_of (by decide) (Nat.le_of_ble_eq_true rfl) (fun E C0 => ?_)
  refine xs_eq (lv' := [(0, .ref 25), (1, .int r), (2, .int p)]) rfl rfl rfl ?_
  refine xs_aload_n C0 d_Sd_rise_0 rfl 0 rfl ?_
  refine xs_get (q := 25) (v := .ref 26) C0 f_Sd_9 d_Sd_rise_1 rfl rfl ?_
  refine xs_iload_n C0 d_Sd_rise_4 rfl 1 rfl ?_
  obtain ⟨ts_1, tc_1, tw_1, tu_1, td_1, tk_1, tb_1⟩ := T
  refine xs_iald C0 d_Sd_rise_5 rfl (by assumption) ?_
  refine xs_iconst (v := 2) C0 d_Sd_rise_6 (by decide) ?_
  refine xs_icmp_ne (tgt := 12) C0 d_Sd_rise_7 (by decide) (fun c_2 => ?_) (fun c_2 => ?_)
  · refine xs_aload_n C0 d_Sd_rise_12 rfl 0 rfl ?_
    refine xs_get (q := 25) (v := .ref 26) C0 f_Sd_9 d_Sd_rise_13 rfl rfl ?_
    refine xs_iload_n C0 d_Sd_rise_16 rfl 1 rfl ?_
    refine xs_iald C0 d_Sd_rise_17 rfl (by assumption) ?_
    refine xs_iconst (v := 3) C0 d_Sd_rise_18 (by decide) ?_
    refine xs_icmp_ne (tgt := 31) C0 d_Sd_rise_19 (by decide) (fun c_3 => ?_) (fun c_3 => ?_)
    · refine xs_aload_n C0 d_Sd_rise_31 rfl 0 rfl ?_
      refine xs_get (q := 25) (v := .ref 27) C0 f_Sd_15 d_Sd_rise_32 rfl rfl ?_
      refine xs_iload_n C0 d_Sd_rise_35 rfl 1 rfl ?_
      refine xs_iald C0 d_Sd_rise_36 rfl (by assumption) ?_
      refine xs_iconst (v := 1) C0 d_Sd_rise_37 (by decide) ?_
      refine xs_iadd C0 d_Sd_rise_38 ?_
      refine xs_istore_n (lv' := [(3, .int ((tc_1 r.toNatClampNeg) + 1)), (0, .ref 25), (1, .int r), (2, .int p)]) C0 d_Sd_rise_39 rfl (by decide) rfl ?_
      refine xs_iload_n C0 d_Sd_rise_40 rfl 0 rfl ?_
      refine xs_iload_n C0 d_Sd_rise_41 rfl 3 rfl ?_
      refine xs_icmp_lt (tgt := 65) C0 d_Sd_rise_42 (by decide) (fun c_4 => ?_) (fun c_4 => ?_)
      · refine xs_aload_n C0 d_Sd_rise_65 rfl 1 rfl ?_
        refine xs_iload_n C0 d_Sd_rise_66 rfl 2 rfl ?_
        refine xs_iconst (v := 1) C0 d_Sd_rise_67 (by decide) ?_
        refine xs_iload_n C0 d_Sd_rise_68 rfl 0 rfl ?_
        obtain ⟨T_5, hT_5⟩ : ∃ X, f_put (ts_1, tc_1, tw_1, tu_1, td_1, tk_1, tb_1) r 1 ((tc_1 r.toNatClampNeg) + 1) = X := ⟨_, rfl⟩
        refine xs_cV0 (ω' := (wd P0 P1 P2 P3 P4 pl dr ki ow S T_5 F H tt ++ rest)) (As := [.int r, .int 1, .int ((tc_1 r.toNatClampNeg) + 1)]) (st := []) (kc' := 0) (ks' := 0) C0 d_Sd_rise_69 l_Sd_49 rfl rfl (c_putt (by assumption) hT_5) rfl rfl rfl (Nat.le_of_ble_eq_true rfl) (Nat.le_of_ble_eq_true rfl) (Nat.le_of_ble_eq_true rfl) (Nat.le_of_ble_eq_true rfl) (Nat.le_of_ble_eq_true rfl) (Nat.le_of_ble_eq_true rfl) ?_
        refine xs_iconst (v := 1) C0 d_Sd_rise_72 (by decide) ?_
        unfold f_rise at hf
        dsimp only at hf
        rw [if_neg c_2, if_neg c_3, if_pos c_4, hT_5] at hf
        cases hf
        exact xs_zret C0 d_Sd_rise_73 (by decide) (⟨rfl, rfl⟩) (Nat.le_of_ble_eq_true rfl) (Nat.le_of_ble_eq_true rfl)
      · refine xs_aload_n C0 d_Sd_rise_45 rfl 1 rfl ?_
        refine xs_iload_n C0 d_Sd_rise_46 rfl 2 rfl ?_
        refine xs_iconst (v := 2) C0 d_Sd_rise_47 (by decide) ?_
        refine xs_iconst (v := 0) C0 d_Sd_rise_48 (by decide) ?_
        obtain ⟨T_6, hT_6⟩ : ∃ X, f_put (ts_1, tc_1, tw_1, tu_1, td_1, tk_1, tb_1) r 2 0 = X := ⟨_, rfl⟩
        refine xs_cV0 (ω' := (wd P0 P1 P2 P3 P4 pl dr ki ow S T_6 F H tt ++ rest)) (As := [.int r, .int 2, .int 0]) (st := []) (kc' := 0) (ks' := 0) C0 d_Sd_rise_49 l_Sd_49 rfl rfl (c_putt (by assumption) hT_6) rfl rfl rfl (Nat.le_of_ble_eq_true rfl) (Nat.le_of_ble_eq_true rfl) (Nat.le_of_ble_eq_true rfl) (Nat.le_of_ble_eq_true rfl) (Nat.le_of_ble_eq_true rfl) (Nat.le_of_ble_eq_true rfl) ?_
        refine xs_aload_n C0 d_Sd_rise_52 rfl 1 rfl ?_
        refine xs_get (q := 25) (v := .ref 28) C0 f_Sd_18 d_Sd_rise_53 rfl rfl ?_
        refine xs_iload_n C0 d_Sd_rise_56 rfl 2 rfl ?_
        refine xs_dup2_11 C0 d_Sd_rise_57 rfl rfl ?_
        obtain ⟨ts_7, tc_7, tw_7, tu_7, td_7, tk_7, tb_7⟩ := T_6
        refine xs_iald C0 d_Sd_rise_58 rfl (by assumption) ?_
        refine xs_iconst (v := 1) C0 d_Sd_rise_59 (by decide) ?_
        refine xs_iadd C0 d_Sd_rise_60 ?_
        refine xs_pc (pc' := 61) rfl ?_
        refine xs_iast (ω' := (wd P0 P1 P2 P3 P4 pl dr ki ow S (ts_7, tc_7, upd tw_7 r.toNatClampNeg ((tw_7 r.toNatClampNeg) + 1), tu_7, td_7, tk_7, tb_7) F H tt ++ rest)) C0 d_Sd_rise_61 rfl (by assumption) rfl ?_
        refine xs_goto (tgt := 72) C0 d_Sd_rise_62 (by decide) ?_
        refine xs_iconst (v := 1) C0 d_Sd_rise_72 (by decide) ?_
        unfold f_rise at hf
        dsimp only at hf
        rw [if_neg c_2, if_neg c_3, if_neg c_4, hT_6] at hf
        cases hf
        exact xs_zret C0 d_Sd_rise_73 (by decide) (⟨rfl, rfl⟩) (Nat.le_of_ble_eq_true rfl) (Nat.le_of_ble_eq_true rfl)
    · refine xs_aload_n C0 d_Sd_rise_22 rfl 0 rfl ?_
      refine xs_iload_n C0 d_Sd_rise_23 rfl 1 rfl ?_
      refine xs_iconst (v := 2) C0 d_Sd_rise_24 (by decide) ?_
      refine xs_iconst (v := 0) C0 d_Sd_rise_25 (by decide) ?_
      obtain ⟨T_8, hT_8⟩ : ∃ X, f_put (ts_1, tc_1, tw_1, tu_1, td_1, tk_1, tb_1) r 2 0 = X := ⟨_, rfl⟩
      refine xs_cV0 (ω' := (wd P0 P1 P2 P3 P4 pl dr ki ow S T_8 F H tt ++ rest)) (As := [.int r, .int 2, .int 0]) (st := []) (kc' := 0) (ks' := 0) C0 d_Sd_rise_26 l_Sd_49 rfl rfl (c_putt (by assumption) hT_8) rfl rfl rfl (Nat.le_of_ble_eq_true rfl) (Nat.le_of_ble_eq_true rfl) (Nat.le_of_ble_eq_true rfl) (Nat.le_of_ble_eq_true rfl) (Nat.le_of_ble_eq_true rfl) (Nat.le_of_ble_eq_true rfl) ?_
      refine xs_iconst (v := 1) C0 d_Sd_rise_29 (by decide) ?_
      unfold f_rise at hf
      dsimp only at hf
      rw [if_neg c_2, if_pos c_3, hT_8] at hf
      cases hf
      exact xs_zret C0 d_Sd_rise_30 (by decide) (⟨rfl, rfl⟩) (Nat.le_of_ble_eq_true rfl) (Nat.le_of_ble_eq_true rfl)
  · refine xs_iconst (v := 0) C0 d_Sd_rise_10 (by decide) ?_
    unfold f_rise at hf
    dsimp only at hf
    rw [if_pos c_2] at hf
    cases hf
    exact xs_zret C0 d_Sd_rise_11 (by decide) (⟨rfl, rfl⟩) (Nat.le_of_ble_eq_true rfl) (Nat.le_of_ble_eq_true rfl)
set_option maxHeartbeats 4000000 in
set_option maxRecDepth 100000 in
theorem c_fallt {P0 P1 P2 P3 P4 : wt_P} {pl dr ki ow : Nat → Int32} {S T : wt_S} {F : wt_F} {H : wt_H} {tt : Int32} {rest : xm_O} {T1 : wt_S} {r p b : Int32} (hr : vp_in r 16) (hf : f_fall T r p = (b, T1)) : xm_M y_Sd_fall (Cond.code y_Sd_fall b_Sd_fall 4 (some .boolean)) (xm_rm 2 0 0) [.ref 25, .int r, .int p] (wd P0 P1 P2 P3 P4 pl dr ki ow S T F H tt ++ rest) (xm_eq (.inl (some (.int b))) (wd P0 P1 P2 P3 P4 pl dr ki ow S T1 F H tt ++ rest)) := by
  refine xm_of (by decide) (Nat.le_of_ble_eq_true rfl) (fun E C0 => ?_)
  refine xs_eq (lv' := [(0, .ref 25), (1, .int r), (2, .int p)]) rfl rfl rfl ?_
  refine xs_aload_n C0 d_Sd_fall_0 rfl 0 rfl ?_
  refine xs_get (q := 25) (v := .ref 26) C0 f_Sd_9 d_Sd_fall_1 rfl rfl ?_
  refine xs_iload_n C0 d_Sd_fall_4 rfl 1 rfl ?_
  obtain ⟨ts_1, tc_1, tw_1, tu_1, td_1, tk_1, tb_1⟩ := T
  refine xs_iald C0 d_Sd_fall_5 rfl (by assumption) ?_
  refine xs_if_ne (tgt := 11) C0 d_Sd_fall_6 (by decide) (fun c_2 => ?_) (fun c_2 => ?_)
  · refine xs_aload_n C0 d_Sd_fall_11 rfl 0 rfl ?_
    refine xs_get (q := 25) (v := .ref 26) C0 f_Sd_9 d_Sd_fall_12 rfl rfl ?_
    refine xs_iload_n C0 d_Sd_fall_15 rfl 1 rfl ?_
    refine xs_iald C0 d_Sd_fall_16 rfl (by assumption) ?_
    refine xs_iconst (v := 1) C0 d_Sd_fall_17 (by decide) ?_
    refine xs_icmp_ne (tgt := 30) C0 d_Sd_fall_18 (by decide) (fun c_3 => ?_) (fun c_3 => ?_)
    · refine xs_aload_n C0 d_Sd_fall_30 rfl 0 rfl ?_
      refine xs_get (q := 25) (v := .ref 27) C0 f_Sd_15 d_Sd_fall_31 rfl rfl ?_
      refine xs_iload_n C0 d_Sd_fall_34 rfl 1 rfl ?_
      refine xs_iald C0 d_Sd_fall_35 rfl (by assumption) ?_
      refine xs_iconst (v := 1) C0 d_Sd_fall_36 (by decide) ?_
      refine xs_iadd C0 d_Sd_fall_37 ?_
      refine xs_istore_n (lv' := [(3, .int ((tc_1 r.toNatClampNeg) + 1)), (0, .ref 25), (1, .int r), (2, .int p)]) C0 d_Sd_fall_38 rfl (by decide) rfl ?_
      refine xs_iload_n C0 d_Sd_fall_39 rfl 0 rfl ?_
      refine xs_iload_n C0 d_Sd_fall_40 rfl 3 rfl ?_
      refine xs_icmp_lt (tgt := 54) C0 d_Sd_fall_41 (by decide) (fun c_4 => ?_) (fun c_4 => ?_)
      · refine xs_aload_n C0 d_Sd_fall_54 rfl 1 rfl ?_
        refine xs_iload_n C0 d_Sd_fall_55 rfl 2 rfl ?_
        refine xs_iconst (v := 3) C0 d_Sd_fall_56 (by decide) ?_
        refine xs_iload_n C0 d_Sd_fall_57 rfl 0 rfl ?_
        obtain ⟨T_5, hT_5⟩ : ∃ X, f_put (ts_1, tc_1, tw_1, tu_1, td_1, tk_1, tb_1) r 3 ((tc_1 r.toNatClampNeg) + 1) = X := ⟨_, rfl⟩
        refine xs_cV0 (ω' := (wd P0 P1 P2 P3 P4 pl dr ki ow S T_5 F H tt ++ rest)) (As := [.int r, .int 3, .int ((tc_1 r.toNatClampNeg) + 1)]) (st := []) (kc' := 0) (ks' := 0) C0 d_Sd_fall_58 l_Sd_49 rfl rfl (c_putt (by assumption) hT_5) rfl rfl rfl (Nat.le_of_ble_eq_true rfl) (Nat.le_of_ble_eq_true rfl) (Nat.le_of_ble_eq_true rfl) (Nat.le_of_ble_eq_true rfl) (Nat.le_of_ble_eq_true rfl) (Nat.le_of_ble_eq_true rfl) ?_
        refine xs_iconst (v := 1) C0 d_Sd_fall_61 (by decide) ?_
        unfold f_fall at hf
        dsimp only at hf
        rw [if_neg c_2, if_neg c_3, if_pos c_4, hT_5] at hf
        cases hf
        exact xs_zret C0 d_Sd_fall_62 (by decide) (⟨rfl, rfl⟩) (Nat.le_of_ble_eq_true rfl) (Nat.le_of_ble_eq_true rfl)
      · refine xs_aload_n C0 d_Sd_fall_44 rfl 1 rfl ?_
        refine xs_iload_n C0 d_Sd_fall_45 rfl 2 rfl ?_
        refine xs_iconst (v := 0) C0 d_Sd_fall_46 (by decide) ?_
        refine xs_iconst (v := 0) C0 d_Sd_fall_47 (by decide) ?_
        obtain ⟨T_6, hT_6⟩ : ∃ X, f_put (ts_1, tc_1, tw_1, tu_1, td_1, tk_1, tb_1) r 0 0 = X := ⟨_, rfl⟩
        refine xs_cV0 (ω' := (wd P0 P1 P2 P3 P4 pl dr ki ow S T_6 F H tt ++ rest)) (As := [.int r, .int 0, .int 0]) (st := []) (kc' := 0) (ks' := 0) C0 d_Sd_fall_48 l_Sd_49 rfl rfl (c_putt (by assumption) hT_6) rfl rfl rfl (Nat.le_of_ble_eq_true rfl) (Nat.le_of_ble_eq_true rfl) (Nat.le_of_ble_eq_true rfl) (Nat.le_of_ble_eq_true rfl) (Nat.le_of_ble_eq_true rfl) (Nat.le_of_ble_eq_true rfl) ?_
        refine xs_goto (tgt := 61) C0 d_Sd_fall_51 (by decide) ?_
        refine xs_iconst (v := 1) C0 d_Sd_fall_61 (by decide) ?_
        unfold f_fall at hf
        dsimp only at hf
        rw [if_neg c_2, if_neg c_3, if_neg c_4, hT_6] at hf
        cases hf
        exact xs_zret C0 d_Sd_fall_62 (by decide) (⟨rfl, rfl⟩) (Nat.le_of_ble_eq_true rfl) (Nat.le_of_ble_eq_true rfl)
    · refine xs_aload_n C0 d_Sd_fall_21 rfl 0 rfl ?_
      refine xs_iload_n C0 d_Sd_fall_22 rfl 1 rfl ?_
      refine xs_iconst (v := 0) C0 d_Sd_fall_23 (by decide) ?_
      refine xs_iconst (v := 0) C0 d_Sd_fall_24 (by decide) ?_
      obtain ⟨T_7, hT_7⟩ : ∃ X, f_put (ts_1, tc_1, tw_1, tu_1, td_1, tk_1, tb_1) r 0 0 = X := ⟨_, rfl⟩
      refine xs_cV0 (ω' := (wd P0 P1 P2 P3 P4 pl dr ki ow S T_7 F H tt ++ rest)) (As := [.int r, .int 0, .int 0]) (st := []) (kc' := 0) (ks' := 0) C0 d_Sd_fall_25 l_Sd_49 rfl rfl (c_putt (by assumption) hT_7) rfl rfl rfl (Nat.le_of_ble_eq_true rfl) (Nat.le_of_ble_eq_true rfl) (Nat.le_of_ble_eq_true rfl) (Nat.le_of_ble_eq_true rfl) (Nat.le_of_ble_eq_true rfl) (Nat.le_of_ble_eq_true rfl) ?_
      refine xs_iconst (v := 1) C0 d_Sd_fall_28 (by decide) ?_
      unfold f_fall at hf
      dsimp only at hf
      rw [if_neg c_2, if_pos c_3, hT_7] at hf
      cases hf
      exact xs_zret C0 d_Sd_fall_29 (by decide) (⟨rfl, rfl⟩) (Nat.le_of_ble_eq_true rfl) (Nat.le_of_ble_eq_true rfl)
  · refine xs_iconst (v := 0) C0 d_Sd_fall_9 (by decide) ?_
    unfold f_fall at hf
    dsimp only at hf
    rw [if_pos c_2] at hf
    cases hf
    exact xs_zret C0 d_Sd_fall_10 (by decide) (⟨rfl, rfl⟩) (Nat.le_of_ble_eq_true rfl) (Nat.le_of_ble_eq_true rfl)
set_option maxHeartbeats 4000000 in
set_option maxRecDepth 100000 in
theorem c_skt {P0 P1 P2 P3 P4 : wt_P} {pl dr ki ow : Nat → Int32} {S T : wt_S} {F : wt_F} {H : wt_H} {tt : Int32} {rest : xm_O} {T1 : wt_S} {k z b : Int32} (hf : f_sk T k z = (b, T1)) : xm_M y_Sd_setKnob (Cond.code y_Sd_setKnob b_Sd_setKnob 4 (some .boolean)) (xm_rm 1 0 0) [.ref 25, .int k, .int z] (wd P0 P1 P2 P3 P4 pl dr ki ow S T F H tt ++ rest) (xm_eq (.inl (some (.int b))) (wd P0 P1 P2 P3 P4 pl dr ki ow S T1 F H tt ++ rest)) := by
  refine xm_of (by decide) (Nat.le_of_ble_eq_true rfl) (fun E C0 => ?_)
  refine xs_eq (lv' := [(0, .ref 25), (1, .int k), (2, .int z)]) rfl rfl rfl ?_
  refine xs_aload_n C0 d_Sd_setKnob_0 rfl 0 rfl ?_
  obtain ⟨ts_1, tc_1, tw_1, tu_1, td_1, tk_1, tb_1⟩ := T
  refine xs_get (q := 25) (v := .int tk_1) C0 f_Sd_28 d_Sd_setKnob_1 rfl rfl ?_
  refine xs_iload_n C0 d_Sd_setKnob_4 rfl 1 rfl ?_
  refine xs_cS1 (ω' := (wd P0 P1 P2 P3 P4 pl dr ki ow S (ts_1, tc_1, tw_1, tu_1, td_1, tk_1, tb_1) F H tt ++ rest)) (av := [.int tk_1, .int k]) (st := []) (kc' := 0) (ks' := 0) (v := .int (f_hb tk_1 k)) C0 d_Sd_setKnob_5 l_Sd_41 (c_hb _ tk_1 k) rfl rfl rfl (Nat.le_of_ble_eq_true rfl) (Nat.le_of_ble_eq_true rfl) (Nat.le_of_ble_eq_true rfl) (Nat.le_of_ble_eq_true rfl) (Nat.le_of_ble_eq_true rfl) (Nat.le_of_ble_eq_true rfl) ?_
  refine xs_istore_n (lv' := [(3, .int (f_hb tk_1 k)), (0, .ref 25), (1, .int k), (2, .int z)]) C0 d_Sd_setKnob_8 rfl (by decide) rfl ?_
  refine xs_aload_n C0 d_Sd_setKnob_9 rfl 1 rfl ?_
  refine xs_aload_n C0 d_Sd_setKnob_10 rfl 1 rfl ?_
  refine xs_get (q := 25) (v := .int tk_1) C0 f_Sd_28 d_Sd_setKnob_11 rfl rfl ?_
  refine xs_iload_n C0 d_Sd_setKnob_14 rfl 2 rfl ?_
  refine xs_iload_n C0 d_Sd_setKnob_15 rfl 3 rfl ?_
  refine xs_cS1 (ω' := (wd P0 P1 P2 P3 P4 pl dr ki ow S (ts_1, tc_1, tw_1, tu_1, td_1, tk_1, tb_1) F H tt ++ rest)) (av := [.int tk_1, .int k, .int z]) (st := [.ref 25]) (kc' := 0) (ks' := 0) (v := .int (f_wb tk_1 k z)) C0 d_Sd_setKnob_16 l_Sd_45 (c_wb _ tk_1 k z) rfl rfl rfl (Nat.le_of_ble_eq_true rfl) (Nat.le_of_ble_eq_true rfl) (Nat.le_of_ble_eq_true rfl) (Nat.le_of_ble_eq_true rfl) (Nat.le_of_ble_eq_true rfl) (Nat.le_of_ble_eq_true rfl) ?_
  refine xs_put (ω' := (wd P0 P1 P2 P3 P4 pl dr ki ow S (ts_1, tc_1, tw_1, tu_1, td_1, (f_wb tk_1 k z), tb_1) F H tt ++ rest)) C0 f_Sd_28 ty_Sd_5 d_Sd_setKnob_19 rfl (Nat.le_of_ble_eq_true rfl) (fun _ => ⟨rfl, rfl⟩) rfl ?_
  refine xs_pc (pc' := 22) rfl ?_
  refine xs_iload_n C0 d_Sd_setKnob_22 rfl 0 rfl ?_
  refine xs_iload_n C0 d_Sd_setKnob_23 rfl 3 rfl ?_
  refine xs_bi_eq (u := 1) (v := 0) (tgt := 31) (J := 32) C0 d_Sd_setKnob_24 (by decide) d_Sd_setKnob_27 (by decide) d_Sd_setKnob_28 (by decide) d_Sd_setKnob_31 (by decide) rfl ?_
  simp only [f_sk, Prod.mk.injEq] at hf
  obtain ⟨rfl, rfl⟩ := hf
  exact xs_zret C0 d_Sd_setKnob_32 xm_b01 (⟨rfl, rfl⟩) (Nat.le_of_ble_eq_true rfl) (Nat.le_of_ble_eq_true rfl)
set_option maxHeartbeats 4000000 in
set_option maxRecDepth 100000 in
theorem c_rct {P0 P1 P2 P3 P4 : wt_P} {pl dr ki ow : Nat → Int32} {S T : wt_S} {F : wt_F} {H : wt_H} {tt : Int32} {rest : xm_O} (k : Int32) (hk : k = 0 ∨ k = 1 ∨ k = 2 ∨ k = 3 ∨ k = 4) : xm_M y_Sd_relaysClosing (Cond.code y_Sd_relaysClosing b_Sd_relaysClosing 2 (some .int)) (xm_rm 0 0 0) [.ref 25, .int k] (wd P0 P1 P2 P3 P4 pl dr ki ow S T F H tt ++ rest) (xm_eq (.inl (some (.int (f_rc T k)))) (wd P0 P1 P2 P3 P4 pl dr ki ow S T F H tt ++ rest)) := by
  refine xm_of (by decide) (Nat.le_of_ble_eq_true rfl) (fun E C0 => ?_)
  refine xs_eq (lv' := [(0, .ref 25), (1, .int k)]) rfl rfl rfl ?_
  rcases hk with rfl | rfl | rfl | rfl | rfl
  · refine xs_eq (lv' := [(0, .ref 25), (1, .int 0)]) rfl rfl rfl ?_
    refine xs_iload_n C0 d_Sd_relaysClosing_0 rfl 1 rfl ?_
    refine xs_tableIn (off := 31) (tgt := 32) C0 d_Sd_relaysClosing_1 (by decide) (by decide) (by decide) (by decide) ?_
    refine xs_aload_n C0 d_Sd_relaysClosing_32 rfl 0 rfl ?_
    obtain ⟨ts_1, tc_1, tw_1, tu_1, td_1, tk_1, tb_1⟩ := T
    refine xs_get (q := 25) (v := .int tu_1) C0 f_Sd_21 d_Sd_relaysClosing_33 rfl rfl ?_
    exact xs_iret C0 d_Sd_relaysClosing_36 (⟨rfl, rfl⟩) (Nat.le_of_ble_eq_true rfl) (Nat.le_of_ble_eq_true rfl)
  · refine xs_eq (lv' := [(0, .ref 25), (1, .int 1)]) rfl rfl rfl ?_
    refine xs_iload_n C0 d_Sd_relaysClosing_0 rfl 1 rfl ?_
    refine xs_tableIn (off := 36) (tgt := 37) C0 d_Sd_relaysClosing_1 (by decide) (by decide) (by decide) (by decide) ?_
    refine xs_aload_n C0 d_Sd_relaysClosing_37 rfl 0 rfl ?_
    obtain ⟨ts_1, tc_1, tw_1, tu_1, td_1, tk_1, tb_1⟩ := T
    refine xs_get (q := 25) (v := .int td_1) C0 f_Sd_25 d_Sd_relaysClosing_38 rfl rfl ?_
    exact xs_iret C0 d_Sd_relaysClosing_41 (⟨rfl, rfl⟩) (Nat.le_of_ble_eq_true rfl) (Nat.le_of_ble_eq_true rfl)
  · refine xs_eq (lv' := [(0, .ref 25), (1, .int 2)]) rfl rfl rfl ?_
    refine xs_iload_n C0 d_Sd_relaysClosing_0 rfl 1 rfl ?_
    refine xs_tableIn (off := 41) (tgt := 42) C0 d_Sd_relaysClosing_1 (by decide) (by decide) (by decide) (by decide) ?_
    refine xs_aload_n C0 d_Sd_relaysClosing_42 rfl 0 rfl ?_
    obtain ⟨ts_1, tc_1, tw_1, tu_1, td_1, tk_1, tb_1⟩ := T
    refine xs_get (q := 25) (v := .int td_1) C0 f_Sd_25 d_Sd_relaysClosing_43 rfl rfl ?_
    refine xs_iconst (v := (-1)) C0 d_Sd_relaysClosing_46 (by decide) ?_
    refine xs_ixor C0 d_Sd_relaysClosing_47 ?_
    exact xs_iret C0 d_Sd_relaysClosing_48 (⟨rfl, rfl⟩) (Nat.le_of_ble_eq_true rfl) (Nat.le_of_ble_eq_true rfl)
  · refine xs_eq (lv' := [(0, .ref 25), (1, .int 3)]) rfl rfl rfl ?_
    refine xs_iload_n C0 d_Sd_relaysClosing_0 rfl 1 rfl ?_
    refine xs_tableIn (off := 48) (tgt := 49) C0 d_Sd_relaysClosing_1 (by decide) (by decide) (by decide) (by decide) ?_
    refine xs_aload_n C0 d_Sd_relaysClosing_49 rfl 0 rfl ?_
    obtain ⟨ts_1, tc_1, tw_1, tu_1, td_1, tk_1, tb_1⟩ := T
    refine xs_get (q := 25) (v := .int tu_1) C0 f_Sd_21 d_Sd_relaysClosing_50 rfl rfl ?_
    refine xs_iconst (v := (-1)) C0 d_Sd_relaysClosing_53 (by decide) ?_
    refine xs_ixor C0 d_Sd_relaysClosing_54 ?_
    exact xs_iret C0 d_Sd_relaysClosing_55 (⟨rfl, rfl⟩) (Nat.le_of_ble_eq_true rfl) (Nat.le_of_ble_eq_true rfl)
  · refine xs_eq (lv' := [(0, .ref 25), (1, .int 4)]) rfl rfl rfl ?_
    refine xs_iload_n C0 d_Sd_relaysClosing_0 rfl 1 rfl ?_
    refine xs_tableOut (tgt := 56) C0 d_Sd_relaysClosing_1 (by decide) (by decide) ?_
    refine xs_iconst (v := (-1)) C0 d_Sd_relaysClosing_56 (by decide) ?_
    exact xs_iret C0 d_Sd_relaysClosing_57 (⟨rfl, rfl⟩) (Nat.le_of_ble_eq_true rfl) (Nat.le_of_ble_eq_true rfl)
set_option maxHeartbeats 4000000 in
set_option maxRecDepth 100000 in
theorem c_bect {P0 P1 P2 P3 P4 : wt_P} {pl dr ki ow : Nat → Int32} {S T : wt_S} {F : wt_F} {H : wt_H} {tt : Int32} {rest : xm_O} {T1 : wt_S} (hz : S.2.2.2.2.2.2 = 0 ∨ S.2.2.2.2.2.2 = 1) (hf : f_bec S T = T1) : xm_M y_Sd_become (Cond.code y_Sd_become b_Sd_become 2 none) (xm_rm 1 0 0) [.ref 25, .ref 21] (wd P0 P1 P2 P3 P4 pl dr ki ow S T F H tt ++ rest) (xm_eq (.inl none) (wd P0 P1 P2 P3 P4 pl dr ki ow S T1 F H tt ++ rest)) := by
  refine xm_of (by decide) (Nat.le_of_ble_eq_true rfl) (fun E C0 => ?_)
  refine xs_eq (lv' := [(0, .ref 25), (1, .ref 21)]) rfl rfl rfl ?_
  refine xs_aload_n C0 d_Sd_become_0 rfl 1 rfl ?_
  refine xs_get (q := 21) (v := .ref 22) C0 f_Sd_9 d_Sd_become_1 rfl rfl ?_
  refine xs_iconst (v := 0) C0 d_Sd_become_4 (by decide) ?_
  refine xs_aload_n C0 d_Sd_become_5 rfl 0 rfl ?_
  refine xs_get (q := 25) (v := .ref 26) C0 f_Sd_9 d_Sd_become_6 rfl rfl ?_
  refine xs_iconst (v := 0) C0 d_Sd_become_9 (by decide) ?_
  refine xs_bipush (v := 16) C0 d_Sd_become_10 (by decide) ?_
  obtain ⟨ss_1, sc_1, sw_1, su_1, sd_1, sk_1, sb_1⟩ := S
  obtain ⟨ts_2, tc_2, tw_2, tu_2, td_2, tk_2, tb_2⟩ := T
  refine xs_copyi (ω' := (wd P0 P1 P2 P3 P4 pl dr ki ow (ss_1, sc_1, sw_1, su_1, sd_1, sk_1, sb_1) (va_cpy ss_1 ts_2 0 0 16, tc_2, tw_2, tu_2, td_2, tk_2, tb_2) F H tt ++ rest)) C0 d_Sd_become_12 k_537 k_539 k_538 k_16 rfl rfl (by decide) (by decide) (by decide) (by decide) (by decide) (Nat.le_of_ble_eq_true rfl) (Nat.le_of_ble_eq_true rfl) rfl ?_
  refine xs_aload_n C0 d_Sd_become_15 rfl 1 rfl ?_
  refine xs_get (q := 21) (v := .ref 23) C0 f_Sd_15 d_Sd_become_16 rfl rfl ?_
  refine xs_iconst (v := 0) C0 d_Sd_become_19 (by decide) ?_
  refine xs_aload_n C0 d_Sd_become_20 rfl 0 rfl ?_
  refine xs_pc (pc' := 21) rfl ?_
  refine xs_get (q := 25) (v := .ref 27) C0 f_Sd_15 d_Sd_become_21 rfl rfl ?_
  refine xs_iconst (v := 0) C0 d_Sd_become_24 (by decide) ?_
  refine xs_bipush (v := 16) C0 d_Sd_become_25 (by decide) ?_
  refine xs_copyi (ω' := (wd P0 P1 P2 P3 P4 pl dr ki ow (ss_1, sc_1, sw_1, su_1, sd_1, sk_1, sb_1) (va_cpy ss_1 ts_2 0 0 16, va_cpy sc_1 tc_2 0 0 16, tw_2, tu_2, td_2, tk_2, tb_2) F H tt ++ rest)) C0 d_Sd_become_27 k_537 k_539 k_538 k_16 rfl rfl (by decide) (by decide) (by decide) (by decide) (by decide) (Nat.le_of_ble_eq_true rfl) (Nat.le_of_ble_eq_true rfl) rfl ?_
  refine xs_aload_n C0 d_Sd_become_30 rfl 1 rfl ?_
  refine xs_get (q := 21) (v := .ref 24) C0 f_Sd_18 d_Sd_become_31 rfl rfl ?_
  refine xs_iconst (v := 0) C0 d_Sd_become_34 (by decide) ?_
  refine xs_aload_n C0 d_Sd_become_35 rfl 0 rfl ?_
  refine xs_get (q := 25) (v := .ref 28) C0 f_Sd_18 d_Sd_become_36 rfl rfl ?_
  refine xs_iconst (v := 0) C0 d_Sd_become_39 (by decide) ?_
  refine xs_bipush (v := 16) C0 d_Sd_become_40 (by decide) ?_
  refine xs_copyi (ω' := (wd P0 P1 P2 P3 P4 pl dr ki ow (ss_1, sc_1, sw_1, su_1, sd_1, sk_1, sb_1) (va_cpy ss_1 ts_2 0 0 16, va_cpy sc_1 tc_2 0 0 16, va_cpy sw_1 tw_2 0 0 16, tu_2, td_2, tk_2, tb_2) F H tt ++ rest)) C0 d_Sd_become_42 k_537 k_539 k_538 k_16 rfl rfl (by decide) (by decide) (by decide) (by decide) (by decide) (Nat.le_of_ble_eq_true rfl) (Nat.le_of_ble_eq_true rfl) rfl ?_
  refine xs_pc (pc' := 45) rfl ?_
  refine xs_aload_n C0 d_Sd_become_45 rfl 0 rfl ?_
  refine xs_aload_n C0 d_Sd_become_46 rfl 1 rfl ?_
  refine xs_get (q := 21) (v := .int su_1) C0 f_Sd_21 d_Sd_become_47 rfl rfl ?_
  refine xs_put (ω' := (wd P0 P1 P2 P3 P4 pl dr ki ow (ss_1, sc_1, sw_1, su_1, sd_1, sk_1, sb_1) (va_cpy ss_1 ts_2 0 0 16, va_cpy sc_1 tc_2 0 0 16, va_cpy sw_1 tw_2 0 0 16, su_1, td_2, tk_2, tb_2) F H tt ++ rest)) C0 f_Sd_21 ty_Sd_3 d_Sd_become_50 rfl (Nat.le_of_ble_eq_true rfl) (fun _ => ⟨rfl, rfl⟩) rfl ?_
  refine xs_aload_n C0 d_Sd_become_53 rfl 0 rfl ?_
  refine xs_aload_n C0 d_Sd_become_54 rfl 1 rfl ?_
  refine xs_get (q := 21) (v := .int sd_1) C0 f_Sd_25 d_Sd_become_55 rfl rfl ?_
  refine xs_put (ω' := (wd P0 P1 P2 P3 P4 pl dr ki ow (ss_1, sc_1, sw_1, su_1, sd_1, sk_1, sb_1) (va_cpy ss_1 ts_2 0 0 16, va_cpy sc_1 tc_2 0 0 16, va_cpy sw_1 tw_2 0 0 16, su_1, sd_1, tk_2, tb_2) F H tt ++ rest)) C0 f_Sd_25 ty_Sd_4 d_Sd_become_58 rfl (Nat.le_of_ble_eq_true rfl) (fun _ => ⟨rfl, rfl⟩) rfl ?_
  refine xs_aload_n C0 d_Sd_become_61 rfl 0 rfl ?_
  refine xs_aload_n C0 d_Sd_become_62 rfl 1 rfl ?_
  refine xs_get (q := 21) (v := .int sk_1) C0 f_Sd_28 d_Sd_become_63 rfl rfl ?_
  refine xs_put (ω' := (wd P0 P1 P2 P3 P4 pl dr ki ow (ss_1, sc_1, sw_1, su_1, sd_1, sk_1, sb_1) (va_cpy ss_1 ts_2 0 0 16, va_cpy sc_1 tc_2 0 0 16, va_cpy sw_1 tw_2 0 0 16, su_1, sd_1, sk_1, tb_2) F H tt ++ rest)) C0 f_Sd_28 ty_Sd_5 d_Sd_become_66 rfl (Nat.le_of_ble_eq_true rfl) (fun _ => ⟨rfl, rfl⟩) rfl ?_
  refine xs_pc (pc' := 69) rfl ?_
  refine xs_aload_n C0 d_Sd_become_69 rfl 0 rfl ?_
  refine xs_aload_n C0 d_Sd_become_70 rfl 1 rfl ?_
  refine xs_get (q := 21) (v := .int sb_1) C0 f_Sd_31 d_Sd_become_71 rfl rfl ?_
  refine xs_put (ω' := (wd P0 P1 P2 P3 P4 pl dr ki ow (ss_1, sc_1, sw_1, su_1, sd_1, sk_1, sb_1) (va_cpy ss_1 ts_2 0 0 16, va_cpy sc_1 tc_2 0 0 16, va_cpy sw_1 tw_2 0 0 16, su_1, sd_1, sk_1, sb_1) F H tt ++ rest)) C0 f_Sd_31 ty_Sd_6 d_Sd_become_74 rfl (Nat.le_of_ble_eq_true rfl) (xm_zfit hz) rfl ?_
  subst hf
  exact xs_vret C0 d_Sd_become_77 (⟨rfl, rfl⟩) (Nat.le_of_ble_eq_true rfl) (Nat.le_of_ble_eq_true rfl)
