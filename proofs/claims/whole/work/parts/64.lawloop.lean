theorem lw_sub5 {L : Nat} (hL : L ≤ 2560) : (nI L - 5).toInt = (L : Int) - 5 := by
  rw [Int32.toInt_sub, nI_toInt (by omega), show (5 : Int32).toInt = 5 from by decide]
  exact Int.bmod_eq_of_le (by omega) (by omega)
theorem lw_go {i L : Nat} (hi : i ≤ 3000) (hL : L ≤ 2560) : nI L - 5 < nI i ↔ ¬ i + 4 < L := by
  rw [Int32.lt_iff_toInt_lt, lw_sub5 hL, nI_toInt (by omega)]
  omega
theorem lw_and31 (x : Int32) : ∃ v, v ≤ 31 ∧ x &&& 31 = nI v := by
  refine ⟨(x &&& 31).toBitVec.toNat, ?_, ?_⟩
  · rw [Int32.toBitVec_and, BitVec.toNat_and]
    exact Nat.and_le_right
  · apply Int32.toBitVec_inj.mp
    show _ = (Int32.ofNat _).toBitVec
    rw [Int32.toBitVec_ofNat', BitVec.ofNat_toNat, BitVec.setWidth_eq]
set_option maxHeartbeats 4000000 in
set_option maxRecDepth 100000 in
theorem lw_loop {E : xm_X} {Q : State → Prop} {b L : Nat} {xs : Nat → Int32} (C0 : xm_C E R_Lw b_Lw_law 7 (some .boolean) [] "law" room_1) (hX : xl_X E b L xs) (hL : L ≤ 2560) (hend : ∀ (kc ks : Nat) (ω : xm_O) (lv : List (Nat × Value)), kc ≤ 601024 → ks ≤ 7293034 → xm_W E 7 Q kc ks ω 1226 lv [.int 1]) : ∀ (n i kc ks : Nat), i ≤ 3000 → L ≤ i + 5 * n + 4 → kc + n ≤ 601024 → ks + 6 * n ≤ 7293034 → ∀ (B : wb) (S T : wt_S) (F : wt_F) (H : wt_H) (tt : Int32) (rl : Nat → Int32) (Z : mt_S) (cl : Nat → Int32) (hc : mt_H) (kp : mt_K) (pa : Nat → Int32) (tr : mt_T) (co : Int32) (o : Nat → Int64), pI B rl S F Z cl → xm_W E 7 Q kc ks (wB B S T F H tt ++ (wMB B rl Z cl hc 0 tt kp pa tr co ++ [.inl (1, 1, .inr (.inl o))])) 23 [(0, .retAddr b), (1, .ref 0), (2, .ref 36), (3, .ref 64), (4, .int (nI i))] [] := by
  intro n
  induction n with
  | zero =>
    intro i kc ks hi hn hk1 hk2 B S T F H tt rl Z cl hc kp pa tr co o h
    refine xs_iload C0 d_Lw_law_23 4 rfl ?_
    refine xs_saload C0 d_Lw_law_25 rfl 0 rfl ?_
    refine xs_slen C0 hX d_Lw_law_26 ?_
    refine xs_iconst (v := 5) C0 d_Lw_law_27 (by decide) ?_
    refine xs_isub C0 d_Lw_law_28 ?_
    refine xs_icmp_gt (tgt := 1225) C0 d_Lw_law_29 (by decide) (fun _ => ?_) (fun c9 => absurd ((lw_go hi hL).mpr (by omega)) c9)
    refine xs_iconst (v := 1) C0 d_Lw_law_1225 (by decide) ?_
    exact hend _ _ _ _ (by omega) (by omega)
  | succ n ih =>
    intro i kc ks hi hn hk1 hk2 B S T F H tt rl Z cl hc kp pa tr co o h
    refine xs_iload C0 d_Lw_law_23 4 rfl ?_
    refine xs_saload C0 d_Lw_law_25 rfl 0 rfl ?_
    refine xs_slen C0 hX d_Lw_law_26 ?_
    refine xs_iconst (v := 5) C0 d_Lw_law_27 (by decide) ?_
    refine xs_isub C0 d_Lw_law_28 ?_
    refine xs_icmp_gt (tgt := 1225) C0 d_Lw_law_29 (by decide) (fun c1 => ?_) (fun c1 => ?_)
    · refine xs_iconst (v := 1) C0 d_Lw_law_1225 (by decide) ?_
      exact hend _ _ _ _ (by omega) (by omega)
    · have hi4 : i + 4 < L := Classical.byContradiction (fun q => c1 ((lw_go hi hL).mpr q))
      refine xs_saload C0 d_Lw_law_32 rfl 0 rfl ?_
      refine xs_iload C0 d_Lw_law_33 4 rfl ?_
      refine xs_sld C0 hX d_Lw_law_35 (vp_in_nI (n := i) (by omega) (by omega)) ?_
      refine xs_top (v' := .int (xs i)) (by rw [nI_clamp (by omega)]) ?_
      refine xs_bipush (v := 31) C0 d_Lw_law_36 (by decide) ?_
      refine xs_iand C0 d_Lw_law_38 ?_
      obtain ⟨v, hv, ev⟩ := lw_and31 (xs i)
      refine xs_top (v' := .int (nI v)) (by rw [ev]) ?_
      have kk : ∀ (B : wb) (S T : wt_S) (F : wt_F) (H : wt_H) (tt : Int32) (rl : Nat → Int32) (Z : mt_S) (cl : Nat → Int32) (hc : mt_H) (kp : mt_K) (pa : Nat → Int32) (tr : mt_T) (co : Int32) (o : Nat → Int64), pI B rl S F Z cl → xm_W E 7 Q (kc + 1) (ks + 6) (wB B S T F H tt ++ (wMB B rl Z cl hc 0 tt kp pa tr co ++ [.inl (1, 1, .inr (.inl o))])) 1219 [(0, .retAddr b), (1, .ref 0), (2, .ref 36), (3, .ref 64), (4, .int (nI i))] [] := by
        intro B S T F H tt rl Z cl hc kp pa tr co o h
        refine xs_iinc (v := nI (i + 5)) (lv' := [(4, .int (nI (i + 5))), (0, .retAddr b), (1, .ref 0), (2, .ref 36), (3, .ref 64)]) C0 d_Lw_law_1219 4 rfl (by rw [show Int32.ofInt 5 = nI 5 from by decide, nI_add]) (by decide) rfl ?_
        refine xs_goto (tgt := 23) C0 d_Lw_law_1222 (by decide) ?_
        refine xs_lv (lv' := [(0, .retAddr b), (1, .ref 0), (2, .ref 36), (3, .ref 64), (4, .int (nI (i + 5)))]) [1, 2, 3, 4, 0] rfl ?_
        exact ih (i + 5) (kc + 1) (ks + 6) (by omega) (by omega) (by omega) (by omega) B S T F H tt rl Z cl hc kp pa tr co o h
      rcases (show v = 0 ∨ v = 1 ∨ v = 2 ∨ v = 3 ∨ v = 4 ∨ v = 5 ∨ v = 6 ∨ v = 7 ∨ v = 8 ∨ v = 9 ∨ v = 10 ∨ v = 11 ∨ v = 12 ∨ v = 13 ∨ v = 14 ∨ v = 15 ∨ v = 16 ∨ v = 17 ∨ v = 18 ∨ 19 ≤ v by omega) with rfl | rfl | rfl | rfl | rfl | rfl | rfl | rfl | rfl | rfl | rfl | rfl | rfl | rfl | rfl | rfl | rfl | rfl | rfl | hv19
      · refine xs_tableIn (off := 89) (tgt := 128) C0 d_Lw_law_39 (by decide) (by decide) (by decide) (by decide) ?_
        exact lc_relay C0 hX hL hi4 (by omega) (by omega) h kk
      · refine xs_tableIn (off := 181) (tgt := 220) C0 d_Lw_law_39 (by decide) (by decide) (by decide) (by decide) ?_
        exact lc_cont C0 hX hL hi4 (by omega) (by omega) h kk
      · refine xs_tableIn (off := 273) (tgt := 312) C0 d_Lw_law_39 (by decide) (by decide) (by decide) (by decide) ?_
        exact lc_knob C0 hX hL hi4 (by omega) (by omega) h kk
      · refine xs_tableIn (off := 341) (tgt := 380) C0 d_Lw_law_39 (by decide) (by decide) (by decide) (by decide) ?_
        exact lc_diode C0 hX hL hi4 (by omega) (by omega) h kk
      · refine xs_tableIn (off := 409) (tgt := 448) C0 d_Lw_law_39 (by decide) (by decide) (by decide) (by decide) ?_
        exact lc_lamp C0 hX hL hi4 (by omega) (by omega) h kk
      · refine xs_tableIn (off := 477) (tgt := 516) C0 d_Lw_law_39 (by decide) (by decide) (by decide) (by decide) ?_
        exact lc_turn C0 hX hL hi4 (by omega) (by omega) h kk
      · refine xs_tableIn (off := 568) (tgt := 607) C0 d_Lw_law_39 (by decide) (by decide) (by decide) (by decide) ?_
        exact lc_dial C0 hX hL hi4 (by omega) (by omega) h kk
      · refine xs_tableIn (off := 628) (tgt := 667) C0 d_Lw_law_39 (by decide) (by decide) (by decide) (by decide) ?_
        exact lc_tick C0 hX hL hi4 (by omega) (by omega) h kk
      · refine xs_tableIn (off := 684) (tgt := 723) C0 d_Lw_law_39 (by decide) (by decide) (by decide) (by decide) ?_
        exact lc_settle C0 hX hL hi4 (by omega) (by omega) h kk
      · refine xs_tableIn (off := 740) (tgt := 779) C0 d_Lw_law_39 (by decide) (by decide) (by decide) (by decide) ?_
        exact lc_circle C0 hX hL hi4 (by omega) (by omega) h kk
      · refine xs_tableIn (off := 796) (tgt := 835) C0 d_Lw_law_39 (by decide) (by decide) (by decide) (by decide) ?_
        exact lc_race C0 hX hL hi4 (by omega) (by omega) h kk
      · refine xs_tableIn (off := 904) (tgt := 943) C0 d_Lw_law_39 (by decide) (by decide) (by decide) (by decide) ?_
        exact lc_state C0 hX hL hi4 (by omega) (by omega) h kk
      · refine xs_tableIn (off := 972) (tgt := 1011) C0 d_Lw_law_39 (by decide) (by decide) (by decide) (by decide) ?_
        exact lc_ups C0 hX hL hi4 (by omega) (by omega) h kk
      · refine xs_tableIn (off := 985) (tgt := 1024) C0 d_Lw_law_39 (by decide) (by decide) (by decide) (by decide) ?_
        exact lc_lit C0 hX hL hi4 (by omega) (by omega) h kk
      · refine xs_tableIn (off := 998) (tgt := 1037) C0 d_Lw_law_39 (by decide) (by decide) (by decide) (by decide) ?_
        exact lc_node C0 hX hL hi4 (by omega) (by omega) h kk
      · refine xs_tableIn (off := 1054) (tgt := 1093) C0 d_Lw_law_39 (by decide) (by decide) (by decide) (by decide) ?_
        exact lc_leads C0 hX hL hi4 (by omega) (by omega) h kk
      · refine xs_tableIn (off := 1129) (tgt := 1168) C0 d_Lw_law_39 (by decide) (by decide) (by decide) (by decide) ?_
        exact lc_blown C0 hX hL hi4 (by omega) (by omega) h kk
      · refine xs_tableIn (off := 1142) (tgt := 1181) C0 d_Lw_law_39 (by decide) (by decide) (by decide) (by decide) ?_
        exact lc_fuse C0 hX hL hi4 (by omega) (by omega) h kk
      · refine xs_tableIn (off := 1155) (tgt := 1194) C0 d_Lw_law_39 (by decide) (by decide) (by decide) (by decide) ?_
        exact lc_count C0 hX hL hi4 (by omega) (by omega) h kk
      · refine xs_tableOut (tgt := 1219) C0 d_Lw_law_39 (Or.inr (by rw [nI_toInt (by omega)]; omega)) (by decide) ?_
        refine xs_more (Nat.le_succ kc) (Nat.le_add_right ks 6) ?_
        exact kk _ _ _ _ _ _ _ _ _ _ _ _ _ _ _ h
theorem bI_z (j : Nat) : bI 0 j = false := by
  show (0#32 : BitVec 32).getLsbD j = false
  exact BitVec.getLsbD_zero
theorem z_pR : pR 0 z_S z_Z z_f := by
  refine ⟨fun r _ => ⟨rfl, rfl, rfl⟩, ⟨fun r _ => ?_, fun r hr => ?_, fun k _ => ?_⟩, fun r _ => bI_z r, rfl, Or.inl rfl, fun r _ => ⟨Or.inl rfl, fun _ => rfl, fun _ => rfl, 0, by decide, nI_0.symm⟩⟩
  · show bI 0 r = true ↔ (0 : Int32) = 2
    rw [bI_z]; exact ⟨fun h => (by cases h), fun h => absurd h (by decide)⟩
  · show bI (-1) r = true ↔ (0 : Int32) = 0
    exact ⟨fun _ => rfl, fun _ => (by decide : ∀ r, r < 16 → bI (-1) r = true) r hr⟩
  · show bI 0 k = true ↔ ¬ (0 : Int32) = 0
    rw [bI_z]; exact ⟨fun h => (by cases h), fun h => absurd rfl h⟩
theorem z_pI : pI z_B z_f z_S z_F z_Z z_f := by
  refine ⟨⟨⟨⟨by decide, fun c h => absurd h (Nat.not_lt_zero c)⟩, ⟨by decide, fun c h => absurd h (Nat.not_lt_zero c)⟩, ⟨by decide, fun c h => absurd h (Nat.not_lt_zero c)⟩, ⟨by decide, fun c h => absurd h (Nat.not_lt_zero c)⟩, ⟨by decide, fun c h => absurd h (Nat.not_lt_zero c)⟩, fun c h => absurd h (Nat.not_lt_zero c)⟩, fun c h => absurd h (Nat.not_lt_zero c)⟩, fun c h => absurd h (Nat.not_lt_zero c), fun c h => absurd h (Nat.not_lt_zero c), Or.inl ⟨0, Nat.le_refl _, by decide⟩, ?_, fun k _ => Or.inl rfl⟩
  exact z_pR
