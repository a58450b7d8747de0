set_option maxHeartbeats 4000000 in
set_option maxRecDepth 100000 in
theorem lp_s1h {Q0 Q1 Q2 Q3 Q4 : wt_P} {ql qr qk qo : Nat → Int32} {QS QT : wt_S} {QF : wt_F} {QH : wt_H} {qt : Int32} {P0 : wt_P} {f1 g1 : Nat → Int32} {n1 : Nat} {f2 g2 : Nat → Int32} {n2 : Nat} {f3 g3 : Nat → Int32} {n3 : Nat} {P4 : wt_P} {pl dr ki rl : Nat → Int32} {ms mc mw : Nat → Int32} {mb : Int32} {cl : Nat → Int32} {mo : Nat → Int32} {sl tk : Int32} {kp : mt_K} {pa : Nat → Int32} {tr : mt_T} {co : Int32} {rest : xm_O} {a : Nat} {og row0 : Nat → Int32} {E : xm_X} {Q : State → Prop} (C0 : xm_C E y_Md_spread.cls b_Md_spread 6 none [] y_Md_spread.name (xm_rm 1 0 0)) (h1 : n1 ≤ 64) (h2 : n2 ≤ 12) (h3 : n3 ≤ 24) (hp1 : okP (f1, g1, nI n1) n1) (hp2 : okP (f2, g2, nI n2) n2) (hp3 : okP (f3, g3, nI n3) n3) (hrl : ∀ c, c < n1 → ¬ ki c = 4 → vp_in (rl c) 16) (kx : ∀ (row : Nat → Int32) (more : Int32), m_inv (m_e (f1, g1, nI n1) (f2, g2, nI n2) ki rl ms cl n1 n2 n3 f3 g3) a og row0 (e_c f1 g1 ki rl ms n1) row more → xm_W E 6 Q 0 0 (wd Q0 Q1 Q2 Q3 Q4 ql qr qk qo QS QT QF QH qt ++ (wM P0 (f1, g1, nI n1) (f2, g2, nI n2) (f3, g3, nI n3) P4 pl dr ki rl (ms, mc, mw, mb) cl (row, mo) sl tk kp pa tr co ++ rest)) 138 [(0, .ref 36), (1, .ref 55), (3, .int 0), (4, .int more)] []) : ∀ j : Nat, ∀ (i : Nat) (row : Nat → Int32) (more : Int32), i + j = n1 → m_inv (m_e (f1, g1, nI n1) (f2, g2, nI n2) ki rl ms cl n1 n2 n3 f3 g3) a og row0 (e_c f1 g1 ki rl ms i) row more → xm_W E 6 Q 0 0 (wd Q0 Q1 Q2 Q3 Q4 ql qr qk qo QS QT QF QH qt ++ (wM P0 (f1, g1, nI n1) (f2, g2, nI n2) (f3, g3, nI n3) P4 pl dr ki rl (ms, mc, mw, mb) cl (row, mo) sl tk kp pa tr co ++ rest)) 45 [(0, .ref 36), (1, .ref 55), (3, .int 0), (4, .int more), (5, .int (nI i))] [] := by
  intro j
  induction j with
  | zero =>
    intro i row more hi hI
    have e : n1 = i := by omega
    subst e
    refine xs_iload C0 d_Md_spread_45 4 rfl ?_
    refine xs_aload_n C0 d_Md_spread_47 rfl 0 rfl ?_
    refine xs_get (q := 36) (v := .int (nI n1)) C0 f_Md_114 d_Md_spread_48 rfl rfl ?_
    refine xs_icmp_ge (tgt := 138) C0 d_Md_spread_51 (by decide) (fun _ => ?_) (fun c9 => absurd (nI_le (Nat.le_refl _) (by omega)) c9)
    refine xs_lv (lv' := [(0, .ref 36), (1, .ref 55), (3, .int 0), (4, .int more)]) [0, 1, 2, 3] rfl ?_
    exact kx row more hI
  | succ j ih =>
    intro i row more hi hI
    have hlt : i < n1 := by omega
    obtain ⟨ha1, ha2⟩ : vp_in (f1 i) 48 ∧ vp_in (g1 i) 48 := hp1 i hlt
    obtain ⟨x1, hx1, ex1⟩ := pl_node ha1
    obtain ⟨y1, hy1, ey1⟩ := pl_node ha2
    refine xs_iload C0 d_Md_spread_45 4 rfl ?_
    refine xs_aload_n C0 d_Md_spread_47 rfl 0 rfl ?_
    refine xs_get (q := 36) (v := .int (nI n1)) C0 f_Md_114 d_Md_spread_48 rfl rfl ?_
    refine xs_icmp_ge (tgt := 138) C0 d_Md_spread_51 (by decide) (fun c9 => absurd c9 (nI_ge hlt (by omega))) (fun _ => ?_)
    refine xs_aload_n C0 d_Md_spread_54 rfl 0 rfl ?_
    refine xs_iload C0 d_Md_spread_55 4 rfl ?_
    refine xs_cV1 (ω' := (wd Q0 Q1 Q2 Q3 Q4 ql qr qk qo QS QT QF QH qt ++ (wM P0 (f1, g1, nI n1) (f2, g2, nI n2) (f3, g3, nI n3) P4 pl dr ki rl (ms, mc, mw, mb) cl (row, mo) sl tk kp pa tr co ++ rest))) (As := [.int (nI i)]) (st := []) (kc' := 0) (ks' := 0) (v := .int (m_cd ki rl ms i)) C0 d_Md_spread_57 l_Md_126 rfl rfl (d_cd (show i < 64 by omega) (hrl i hlt)) rfl rfl rfl (Nat.le_of_ble_eq_true rfl) (Nat.le_of_ble_eq_true rfl) (Nat.le_of_ble_eq_true rfl) (Nat.le_of_ble_eq_true rfl) (Nat.le_of_ble_eq_true rfl) (Nat.le_of_ble_eq_true rfl) ?_
    refine xs_if_ne (tgt := 66) C0 d_Md_spread_60 (by decide) (fun c1 => ?_) (fun c1 => ?_)
    · have he : (m_e (f1, g1, nI n1) (f2, g2, nI n2) ki rl ms cl n1 n2 n3 f3 g3) x1 y1 := Or.inl ⟨hx1, hy1, i, hlt, c1, Or.inl ⟨ex1, ey1⟩⟩
      have he2 : (m_e (f1, g1, nI n1) (f2, g2, nI n2) ki rl ms cl n1 n2 n3 f3 g3) y1 x1 := Or.inl ⟨hy1, hx1, i, hlt, c1, Or.inr ⟨ey1, ex1⟩⟩
      have hs2 := (m_step (m_step hI hx1 hy1 he) hy1 hx1 he2).mono (D' := e_c f1 g1 ki rl ms (i + 1)) (fun x y h => by rcases e_c_s hx1 hy1 ex1 ey1 h with h | h | h; exact Or.inl (Or.inl h); exact Or.inl (Or.inr h); exact Or.inr h)
      rw [← ex1, ← ey1] at hs2
      refine xs_aload_n C0 d_Md_spread_66 rfl 1 rfl ?_
      refine xs_aload_n C0 d_Md_spread_67 rfl 0 rfl ?_
      refine xs_get (q := 36) (v := .ref 46) C0 f_Md_37 d_Md_spread_68 rfl rfl ?_
      refine xs_iload C0 d_Md_spread_71 4 rfl ?_
      refine xs_iald C0 d_Md_spread_73 rfl (vp_in_nI (n := i) (by omega) (by decide)) ?_
      refine xs_top (v' := .int (f1 i)) (by rw [nI_clamp (by omega)]) ?_
      refine xs_aload_n C0 d_Md_spread_74 rfl 0 rfl ?_
      refine xs_get (q := 36) (v := .ref 47) C0 f_Md_40 d_Md_spread_75 rfl rfl ?_
      refine xs_iload C0 d_Md_spread_78 4 rfl ?_
      refine xs_iald C0 d_Md_spread_80 rfl (vp_in_nI (n := i) (by omega) (by decide)) ?_
      refine xs_top (v' := .int (g1 i)) (by rw [nI_clamp (by omega)]) ?_
      refine xs_cS1 (ω' := (wd Q0 Q1 Q2 Q3 Q4 ql qr qk qo QS QT QF QH qt ++ (wM P0 (f1, g1, nI n1) (f2, g2, nI n2) (f3, g3, nI n3) P4 pl dr ki rl (ms, mc, mw, mb) cl (m_row row (f1 i) (g1 i), mo) sl tk kp pa tr co ++ rest))) (av := [.ref 55, .int (f1 i), .int (g1 i)]) (st := []) (kc' := 0) (ks' := 0) (v := .int (m_fr row (f1 i) (g1 i))) C0 d_Md_spread_81 l_Md_129 (d_rchh (by assumption) (by assumption)) rfl rfl rfl (Nat.le_of_ble_eq_true rfl) (Nat.le_of_ble_eq_true rfl) (Nat.le_of_ble_eq_true rfl) (Nat.le_of_ble_eq_true rfl) (Nat.le_of_ble_eq_true rfl) (Nat.le_of_ble_eq_true rfl) ?_
      refine xs_if_ne (tgt := 92) C0 d_Md_spread_84 (by decide) (fun c_1 => ?_) (fun c_1 => ?_)
      · refine xs_iconst (v := 1) C0 d_Md_spread_92 (by decide) ?_
        refine xs_goto (tgt := 97) C0 d_Md_spread_93 (by decide) ?_
        refine xs_top (v' := .int (g_or (m_fr row (f1 i) (g1 i)) more)) (by rw [g_or_t c_1]) ?_
        refine xs_istore (lv' := [(4, .int (g_or (m_fr row (f1 i) (g1 i)) more)), (0, .ref 36), (1, .ref 55), (3, .int 0), (5, .int (nI i))]) C0 d_Md_spread_97 (by decide) rfl ?_
        refine xs_aload_n C0 d_Md_spread_99 rfl 2 rfl ?_
        refine xs_aload_n C0 d_Md_spread_100 rfl 1 rfl ?_
        refine xs_get (q := 36) (v := .ref 47) C0 f_Md_40 d_Md_spread_101 rfl rfl ?_
        refine xs_iload C0 d_Md_spread_104 4 rfl ?_
        refine xs_iald C0 d_Md_spread_106 rfl (vp_in_nI (n := i) (by omega) (by decide)) ?_
        refine xs_top (v' := .int (g1 i)) (by rw [nI_clamp (by omega)]) ?_
        refine xs_aload_n C0 d_Md_spread_107 rfl 1 rfl ?_
        refine xs_get (q := 36) (v := .ref 46) C0 f_Md_37 d_Md_spread_108 rfl rfl ?_
        refine xs_iload C0 d_Md_spread_111 4 rfl ?_
        refine xs_iald C0 d_Md_spread_113 rfl (vp_in_nI (n := i) (by omega) (by decide)) ?_
        refine xs_top (v' := .int (f1 i)) (by rw [nI_clamp (by omega)]) ?_
        refine xs_cS1 (ω' := (wd Q0 Q1 Q2 Q3 Q4 ql qr qk qo QS QT QF QH qt ++ (wM P0 (f1, g1, nI n1) (f2, g2, nI n2) (f3, g3, nI n3) P4 pl dr ki rl (ms, mc, mw, mb) cl (m_row (m_row row (f1 i) (g1 i)) (g1 i) (f1 i), mo) sl tk kp pa tr co ++ rest))) (av := [.ref 55, .int (g1 i), .int (f1 i)]) (st := []) (kc' := 0) (ks' := 0) (v := .int (m_fr (m_row row (f1 i) (g1 i)) (g1 i) (f1 i))) C0 d_Md_spread_114 l_Md_129 (d_rchh (by assumption) (by assumption)) rfl rfl rfl (Nat.le_of_ble_eq_true rfl) (Nat.le_of_ble_eq_true rfl) (Nat.le_of_ble_eq_true rfl) (Nat.le_of_ble_eq_true rfl) (Nat.le_of_ble_eq_true rfl) (Nat.le_of_ble_eq_true rfl) ?_
        refine xs_pc (pc' := 117) rfl ?_
        refine xs_if_ne (tgt := 125) C0 d_Md_spread_117 (by decide) (fun c_2 => ?_) (fun c_2 => ?_)
        · refine xs_iconst (v := 1) C0 d_Md_spread_125 (by decide) ?_
          refine xs_goto (tgt := 130) C0 d_Md_spread_126 (by decide) ?_
          refine xs_top (v' := .int (g_or (m_fr (m_row row (f1 i) (g1 i)) (g1 i) (f1 i)) (g_or (m_fr row (f1 i) (g1 i)) more))) (by rw [g_or_t c_2]) ?_
          refine xs_istore (lv' := [(4, .int (g_or (m_fr (m_row row (f1 i) (g1 i)) (g1 i) (f1 i)) (g_or (m_fr row (f1 i) (g1 i)) more))), (0, .ref 36), (1, .ref 55), (3, .int 0), (5, .int (nI i))]) C0 d_Md_spread_130 (by decide) rfl ?_
          refine xs_iinc (v := nI (i + 1)) (lv' := [(5, .int (nI (i + 1))), (4, .int (g_or (m_fr (m_row row (f1 i) (g1 i)) (g1 i) (f1 i)) (g_or (m_fr row (f1 i) (g1 i)) more))), (0, .ref 36), (1, .ref 55), (3, .int 0)]) C0 d_Md_spread_132 4 rfl (by rw [← nI_1]; rfl) (by decide) rfl ?_
          refine xs_goto (tgt := 45) C0 d_Md_spread_135 (by decide) ?_
          refine xs_lv (lv' := [(0, .ref 36), (1, .ref 55), (3, .int 0), (4, .int (g_or (m_fr (m_row row (f1 i) (g1 i)) (g1 i) (f1 i)) (g_or (m_fr row (f1 i) (g1 i)) more))), (5, .int (nI (i + 1)))]) [2, 3, 4, 1, 0] rfl ?_
          exact ih (i + 1) _ _ (by omega) hs2
        · refine xs_iload C0 d_Md_spread_120 0 rfl ?_
          refine xs_bz_eq (u := 1) (v := 0) (tgt := 129) (J := 130) C0 d_Md_spread_122 (by decide) d_Md_spread_125 (by decide) d_Md_spread_126 (by decide) d_Md_spread_129 (by decide) rfl ?_
          refine xs_top (v' := .int (g_or (m_fr (m_row row (f1 i) (g1 i)) (g1 i) (f1 i)) (g_or (m_fr row (f1 i) (g1 i)) more))) (by rw [g_or_f c_2]) ?_
          refine xs_istore (lv' := [(4, .int (g_or (m_fr (m_row row (f1 i) (g1 i)) (g1 i) (f1 i)) (g_or (m_fr row (f1 i) (g1 i)) more))), (0, .ref 36), (1, .ref 55), (3, .int 0), (5, .int (nI i))]) C0 d_Md_spread_130 (by decide) rfl ?_
          refine xs_iinc (v := nI (i + 1)) (lv' := [(5, .int (nI (i + 1))), (4, .int (g_or (m_fr (m_row row (f1 i) (g1 i)) (g1 i) (f1 i)) (g_or (m_fr row (f1 i) (g1 i)) more))), (0, .ref 36), (1, .ref 55), (3, .int 0)]) C0 d_Md_spread_132 4 rfl (by rw [← nI_1]; rfl) (by decide) rfl ?_
          refine xs_goto (tgt := 45) C0 d_Md_spread_135 (by decide) ?_
          refine xs_lv (lv' := [(0, .ref 36), (1, .ref 55), (3, .int 0), (4, .int (g_or (m_fr (m_row row (f1 i) (g1 i)) (g1 i) (f1 i)) (g_or (m_fr row (f1 i) (g1 i)) more))), (5, .int (nI (i + 1)))]) [2, 3, 4, 1, 0] rfl ?_
          exact ih (i + 1) _ _ (by omega) hs2
      · refine xs_iload C0 d_Md_spread_87 3 rfl ?_
        refine xs_bz_eq (u := 1) (v := 0) (tgt := 96) (J := 97) C0 d_Md_spread_89 (by decide) d_Md_spread_92 (by decide) d_Md_spread_93 (by decide) d_Md_spread_96 (by decide) rfl ?_
        refine xs_top (v' := .int (g_or (m_fr row (f1 i) (g1 i)) more)) (by rw [g_or_f c_1]) ?_
        refine xs_istore (lv' := [(4, .int (g_or (m_fr row (f1 i) (g1 i)) more)), (0, .ref 36), (1, .ref 55), (3, .int 0), (5, .int (nI i))]) C0 d_Md_spread_97 (by decide) rfl ?_
        refine xs_aload_n C0 d_Md_spread_99 rfl 2 rfl ?_
        refine xs_aload_n C0 d_Md_spread_100 rfl 1 rfl ?_
        refine xs_get (q := 36) (v := .ref 47) C0 f_Md_40 d_Md_spread_101 rfl rfl ?_
        refine xs_iload C0 d_Md_spread_104 4 rfl ?_
        refine xs_iald C0 d_Md_spread_106 rfl (vp_in_nI (n := i) (by omega) (by decide)) ?_
        refine xs_top (v' := .int (g1 i)) (by rw [nI_clamp (by omega)]) ?_
        refine xs_aload_n C0 d_Md_spread_107 rfl 1 rfl ?_
        refine xs_get (q := 36) (v := .ref 46) C0 f_Md_37 d_Md_spread_108 rfl rfl ?_
        refine xs_iload C0 d_Md_spread_111 4 rfl ?_
        refine xs_iald C0 d_Md_spread_113 rfl (vp_in_nI (n := i) (by omega) (by decide)) ?_
        refine xs_top (v' := .int (f1 i)) (by rw [nI_clamp (by omega)]) ?_
        refine xs_cS1 (ω' := (wd Q0 Q1 Q2 Q3 Q4 ql qr qk qo QS QT QF QH qt ++ (wM P0 (f1, g1, nI n1) (f2, g2, nI n2) (f3, g3, nI n3) P4 pl dr ki rl (ms, mc, mw, mb) cl (m_row (m_row row (f1 i) (g1 i)) (g1 i) (f1 i), mo) sl tk kp pa tr co ++ rest))) (av := [.ref 55, .int (g1 i), .int (f1 i)]) (st := []) (kc' := 0) (ks' := 0) (v := .int (m_fr (m_row row (f1 i) (g1 i)) (g1 i) (f1 i))) C0 d_Md_spread_114 l_Md_129 (d_rchh (by assumption) (by assumption)) rfl rfl rfl (Nat.le_of_ble_eq_true rfl) (Nat.le_of_ble_eq_true rfl) (Nat.le_of_ble_eq_true rfl) (Nat.le_of_ble_eq_true rfl) (Nat.le_of_ble_eq_true rfl) (Nat.le_of_ble_eq_true rfl) ?_
        refine xs_pc (pc' := 117) rfl ?_
        refine xs_if_ne (tgt := 125) C0 d_Md_spread_117 (by decide) (fun c_3 => ?_) (fun c_3 => ?_)
        · refine xs_iconst (v := 1) C0 d_Md_spread_125 (by decide) ?_
          refine xs_goto (tgt := 130) C0 d_Md_spread_126 (by decide) ?_
          refine xs_top (v' := .int (g_or (m_fr (m_row row (f1 i) (g1 i)) (g1 i) (f1 i)) (g_or (m_fr row (f1 i) (g1 i)) more))) (by rw [g_or_t c_3]) ?_
          refine xs_istore (lv' := [(4, .int (g_or (m_fr (m_row row (f1 i) (g1 i)) (g1 i) (f1 i)) (g_or (m_fr row (f1 i) (g1 i)) more))), (0, .ref 36), (1, .ref 55), (3, .int 0), (5, .int (nI i))]) C0 d_Md_spread_130 (by decide) rfl ?_
          refine xs_iinc (v := nI (i + 1)) (lv' := [(5, .int (nI (i + 1))), (4, .int (g_or (m_fr (m_row row (f1 i) (g1 i)) (g1 i) (f1 i)) (g_or (m_fr row (f1 i) (g1 i)) more))), (0, .ref 36), (1, .ref 55), (3, .int 0)]) C0 d_Md_spread_132 4 rfl (by rw [← nI_1]; rfl) (by decide) rfl ?_
          refine xs_goto (tgt := 45) C0 d_Md_spread_135 (by decide) ?_
          refine xs_lv (lv' := [(0, .ref 36), (1, .ref 55), (3, .int 0), (4, .int (g_or (m_fr (m_row row (f1 i) (g1 i)) (g1 i) (f1 i)) (g_or (m_fr row (f1 i) (g1 i)) more))), (5, .int (nI (i + 1)))]) [2, 3, 4, 1, 0] rfl ?_
          exact ih (i + 1) _ _ (by omega) hs2
        · refine xs_iload C0 d_Md_spread_120 0 rfl ?_
          refine xs_bz_eq (u := 1) (v := 0) (tgt := 129) (J := 130) C0 d_Md_spread_122 (by decide) d_Md_spread_125 (by decide) d_Md_spread_126 (by decide) d_Md_spread_129 (by decide) rfl ?_
          refine xs_top (v' := .int (g_or (m_fr (m_row row (f1 i) (g1 i)) (g1 i) (f1 i)) (g_or (m_fr row (f1 i) (g1 i)) more))) (by rw [g_or_f c_3]) ?_
          refine xs_istore (lv' := [(4, .int (g_or (m_fr (m_row row (f1 i) (g1 i)) (g1 i) (f1 i)) (g_or (m_fr row (f1 i) (g1 i)) more))), (0, .ref 36), (1, .ref 55), (3, .int 0), (5, .int (nI i))]) C0 d_Md_spread_130 (by decide) rfl ?_
          refine xs_iinc (v := nI (i + 1)) (lv' := [(5, .int (nI (i + 1))), (4, .int (g_or (m_fr (m_row row (f1 i) (g1 i)) (g1 i) (f1 i)) (g_or (m_fr row (f1 i) (g1 i)) more))), (0, .ref 36), (1, .ref 55), (3, .int 0)]) C0 d_Md_spread_132 4 rfl (by rw [← nI_1]; rfl) (by decide) rfl ?_
          refine xs_goto (tgt := 45) C0 d_Md_spread_135 (by decide) ?_
          refine xs_lv (lv' := [(0, .ref 36), (1, .ref 55), (3, .int 0), (4, .int (g_or (m_fr (m_row row (f1 i) (g1 i)) (g1 i) (f1 i)) (g_or (m_fr row (f1 i) (g1 i)) more))), (5, .int (nI (i + 1)))]) [2, 3, 4, 1, 0] rfl ?_
          exact ih (i + 1) _ _ (by omega) hs2
    · refine xs_goto (tgt := 132) C0 d_Md_spread_63 (by decide) ?_
      refine xs_iinc (v := nI (i + 1)) (lv' := [(5, .int (nI (i + 1))), (0, .ref 36), (1, .ref 55), (3, .int 0), (4, .int more)]) C0 d_Md_spread_132 4 rfl (by rw [← nI_1]; rfl) (by decide) rfl ?_
      refine xs_goto (tgt := 45) C0 d_Md_spread_135 (by decide) ?_
      refine xs_lv (lv' := [(0, .ref 36), (1, .ref 55), (3, .int 0), (4, .int more), (5, .int (nI (i + 1)))]) [1, 2, 3, 4, 0] rfl ?_
      exact ih (i + 1) _ _ (by omega) (hI.mono (fun x y h => e_c_n c1 h))
set_option maxHeartbeats 4000000 in
set_option maxRecDepth 100000 in
theorem lp_s2h {Q0 Q1 Q2 Q3 Q4 : wt_P} {ql qr qk qo : Nat → Int32} {QS QT : wt_S} {QF : wt_F} {QH : wt_H} {qt : Int32} {P0 : wt_P} {f1 g1 : Nat → Int32} {n1 : Nat} {f2 g2 : Nat → Int32} {n2 : Nat} {f3 g3 : Nat → Int32} {n3 : Nat} {P4 : wt_P} {pl dr ki rl : Nat → Int32} {ms mc mw : Nat → Int32} {mb : Int32} {cl : Nat → Int32} {mo : Nat → Int32} {sl tk : Int32} {kp : mt_K} {pa : Nat → Int32} {tr : mt_T} {co : Int32} {rest : xm_O} {a : Nat} {og row0 : Nat → Int32} {E : xm_X} {Q : State → Prop} (C0 : xm_C E y_Md_spread.cls b_Md_spread 6 none [] y_Md_spread.name (xm_rm 1 0 0)) (h1 : n1 ≤ 64) (h2 : n2 ≤ 12) (h3 : n3 ≤ 24) (hp1 : okP (f1, g1, nI n1) n1) (hp2 : okP (f2, g2, nI n2) n2) (hp3 : okP (f3, g3, nI n3) n3) (hrl : ∀ c, c < n1 → ¬ ki c = 4 → vp_in (rl c) 16) (kx : ∀ (row : Nat → Int32) (more : Int32), m_inv (m_e (f1, g1, nI n1) (f2, g2, nI n2) ki rl ms cl n1 n2 n3 f3 g3) a og row0 (fun x y => e_c f1 g1 ki rl ms n1 x y ∨ e_k f2 g2 cl n2 x y) row more → xm_W E 6 Q 0 0 (wd Q0 Q1 Q2 Q3 Q4 ql qr qk qo QS QT QF QH qt ++ (wM P0 (f1, g1, nI n1) (f2, g2, nI n2) (f3, g3, nI n3) P4 pl dr ki rl (ms, mc, mw, mb) cl (row, mo) sl tk kp pa tr co ++ rest)) 235 [(0, .ref 36), (1, .ref 55), (3, .int 0), (4, .int more)] []) : ∀ j : Nat, ∀ (i : Nat) (row : Nat → Int32) (more : Int32), i + j = n2 → m_inv (m_e (f1, g1, nI n1) (f2, g2, nI n2) ki rl ms cl n1 n2 n3 f3 g3) a og row0 (fun x y => e_c f1 g1 ki rl ms n1 x y ∨ e_k f2 g2 cl i x y) row more → xm_W E 6 Q 0 0 (wd Q0 Q1 Q2 Q3 Q4 ql qr qk qo QS QT QF QH qt ++ (wM P0 (f1, g1, nI n1) (f2, g2, nI n2) (f3, g3, nI n3) P4 pl dr ki rl (ms, mc, mw, mb) cl (row, mo) sl tk kp pa tr co ++ rest)) 141 [(0, .ref 36), (1, .ref 55), (3, .int 0), (4, .int more), (5, .int (nI i))] [] := by
  intro j
  induction j with
  | zero =>
    intro i row more hi hI
    have e : n2 = i := by omega
    subst e
    refine xs_iload C0 d_Md_spread_141 4 rfl ?_
    refine xs_aload_n C0 d_Md_spread_143 rfl 0 rfl ?_
    refine xs_get (q := 36) (v := .int (nI n2)) C0 f_Md_117 d_Md_spread_144 rfl rfl ?_
    refine xs_icmp_ge (tgt := 235) C0 d_Md_spread_147 (by decide) (fun _ => ?_) (fun c9 => absurd (nI_le (Nat.le_refl _) (by omega)) c9)
    refine xs_lv (lv' := [(0, .ref 36), (1, .ref 55), (3, .int 0), (4, .int more)]) [0, 1, 2, 3] rfl ?_
    exact kx row more hI
  | succ j ih =>
    intro i row more hi hI
    have hlt : i < n2 := by omega
    obtain ⟨ha1, ha2⟩ : vp_in (f2 i) 48 ∧ vp_in (g2 i) 48 := hp2 i hlt
    obtain ⟨x1, hx1, ex1⟩ := pl_node ha1
    obtain ⟨y1, hy1, ey1⟩ := pl_node ha2
    refine xs_iload C0 d_Md_spread_141 4 rfl ?_
    refine xs_aload_n C0 d_Md_spread_143 rfl 0 rfl ?_
    refine xs_get (q := 36) (v := .int (nI n2)) C0 f_Md_117 d_Md_spread_144 rfl rfl ?_
    refine xs_icmp_ge (tgt := 235) C0 d_Md_spread_147 (by decide) (fun c9 => absurd c9 (nI_ge hlt (by omega))) (fun _ => ?_)
    refine xs_aload_n C0 d_Md_spread_150 rfl 0 rfl ?_
    refine xs_get (q := 36) (v := .ref 50) C0 f_Md_49 d_Md_spread_151 rfl rfl ?_
    refine xs_iload C0 d_Md_spread_154 4 rfl ?_
    refine xs_zald C0 d_Md_spread_156 rfl (vp_in_nI (n := i) (by omega) (by decide)) ?_
    refine xs_top (v' := .int (cl i)) (by rw [nI_clamp (by omega)]) ?_
    refine xs_if_ne (tgt := 163) C0 d_Md_spread_157 (by decide) (fun c1 => ?_) (fun c1 => ?_)
    · have he : (m_e (f1, g1, nI n1) (f2, g2, nI n2) ki rl ms cl n1 n2 n3 f3 g3) x1 y1 := Or.inr (Or.inl ⟨hx1, hy1, i, hlt, c1, Or.inl ⟨ex1, ey1⟩⟩)
      have he2 : (m_e (f1, g1, nI n1) (f2, g2, nI n2) ki rl ms cl n1 n2 n3 f3 g3) y1 x1 := Or.inr (Or.inl ⟨hy1, hx1, i, hlt, c1, Or.inr ⟨ey1, ex1⟩⟩)
      have hs2 := (m_step (m_step hI hx1 hy1 he) hy1 hx1 he2).mono (D' := fun x y => e_c f1 g1 ki rl ms n1 x y ∨ e_k f2 g2 cl (i + 1) x y) (fun x y h => by rcases h with h | h; exact Or.inl (Or.inl (Or.inl h)); rcases e_k_s hx1 hy1 ex1 ey1 h with h | h | h; exact Or.inl (Or.inl (Or.inr h)); exact Or.inl (Or.inr h); exact Or.inr h)
      rw [← ex1, ← ey1] at hs2
      refine xs_aload_n C0 d_Md_spread_163 rfl 1 rfl ?_
      refine xs_aload_n C0 d_Md_spread_164 rfl 0 rfl ?_
      refine xs_get (q := 36) (v := .ref 48) C0 f_Md_43 d_Md_spread_165 rfl rfl ?_
      refine xs_iload C0 d_Md_spread_168 4 rfl ?_
      refine xs_iald C0 d_Md_spread_170 rfl (vp_in_nI (n := i) (by omega) (by decide)) ?_
      refine xs_top (v' := .int (f2 i)) (by rw [nI_clamp (by omega)]) ?_
      refine xs_aload_n C0 d_Md_spread_171 rfl 0 rfl ?_
      refine xs_get (q := 36) (v := .ref 49) C0 f_Md_46 d_Md_spread_172 rfl rfl ?_
      refine xs_iload C0 d_Md_spread_175 4 rfl ?_
      refine xs_iald C0 d_Md_spread_177 rfl (vp_in_nI (n := i) (by omega) (by decide)) ?_
      refine xs_top (v' := .int (g2 i)) (by rw [nI_clamp (by omega)]) ?_
      refine xs_cS1 (ω' := (wd Q0 Q1 Q2 Q3 Q4 ql qr qk qo QS QT QF QH qt ++ (wM P0 (f1, g1, nI n1) (f2, g2, nI n2) (f3, g3, nI n3) P4 pl dr ki rl (ms, mc, mw, mb) cl (m_row row (f2 i) (g2 i), mo) sl tk kp pa tr co ++ rest))) (av := [.ref 55, .int (f2 i), .int (g2 i)]) (st := []) (kc' := 0) (ks' := 0) (v := .int (m_fr row (f2 i) (g2 i))) C0 d_Md_spread_178 l_Md_129 (d_rchh (by assumption) (by assumption)) rfl rfl rfl (Nat.le_of_ble_eq_true rfl) (Nat.le_of_ble_eq_true rfl) (Nat.le_of_ble_eq_true rfl) (Nat.le_of_ble_eq_true rfl) (Nat.le_of_ble_eq_true rfl) (Nat.le_of_ble_eq_true rfl) ?_
      refine xs_if_ne (tgt := 189) C0 d_Md_spread_181 (by decide) (fun c_1 => ?_) (fun c_1 => ?_)
      · refine xs_iconst (v := 1) C0 d_Md_spread_189 (by decide) ?_
        refine xs_goto (tgt := 194) C0 d_Md_spread_190 (by decide) ?_
        refine xs_top (v' := .int (g_or (m_fr row (f2 i) (g2 i)) more)) (by rw [g_or_t c_1]) ?_
        refine xs_istore (lv' := [(4, .int (g_or (m_fr row (f2 i) (g2 i)) more)), (0, .ref 36), (1, .ref 55), (3, .int 0), (5, .int (nI i))]) C0 d_Md_spread_194 (by decide) rfl ?_
        refine xs_aload_n C0 d_Md_spread_196 rfl 2 rfl ?_
        refine xs_aload_n C0 d_Md_spread_197 rfl 1 rfl ?_
        refine xs_get (q := 36) (v := .ref 49) C0 f_Md_46 d_Md_spread_198 rfl rfl ?_
        refine xs_iload C0 d_Md_spread_201 4 rfl ?_
        refine xs_iald C0 d_Md_spread_203 rfl (vp_in_nI (n := i) (by omega) (by decide)) ?_
        refine xs_top (v' := .int (g2 i)) (by rw [nI_clamp (by omega)]) ?_
        refine xs_aload_n C0 d_Md_spread_204 rfl 1 rfl ?_
        refine xs_get (q := 36) (v := .ref 48) C0 f_Md_43 d_Md_spread_205 rfl rfl ?_
        refine xs_iload C0 d_Md_spread_208 4 rfl ?_
        refine xs_iald C0 d_Md_spread_210 rfl (vp_in_nI (n := i) (by omega) (by decide)) ?_
        refine xs_top (v' := .int (f2 i)) (by rw [nI_clamp (by omega)]) ?_
        refine xs_cS1 (ω' := (wd Q0 Q1 Q2 Q3 Q4 ql qr qk qo QS QT QF QH qt ++ (wM P0 (f1, g1, nI n1) (f2, g2, nI n2) (f3, g3, nI n3) P4 pl dr ki rl (ms, mc, mw, mb) cl (m_row (m_row row (f2 i) (g2 i)) (g2 i) (f2 i), mo) sl tk kp pa tr co ++ rest))) (av := [.ref 55, .int (g2 i), .int (f2 i)]) (st := []) (kc' := 0) (ks' := 0) (v := .int (m_fr (m_row row (f2 i) (g2 i)) (g2 i) (f2 i))) C0 d_Md_spread_211 l_Md_129 (d_rchh (by assumption) (by assumption)) rfl rfl rfl (Nat.le_of_ble_eq_true rfl) (Nat.le_of_ble_eq_true rfl) (Nat.le_of_ble_eq_true rfl) (Nat.le_of_ble_eq_true rfl) (Nat.le_of_ble_eq_true rfl) (Nat.le_of_ble_eq_true rfl) ?_
        refine xs_pc (pc' := 214) rfl ?_
        refine xs_if_ne (tgt := 222) C0 d_Md_spread_214 (by decide) (fun c_2 => ?_) (fun c_2 => ?_)
        · refine xs_iconst (v := 1) C0 d_Md_spread_222 (by decide) ?_
          refine xs_goto (tgt := 227) C0 d_Md_spread_223 (by decide) ?_
          refine xs_top (v' := .int (g_or (m_fr (m_row row (f2 i) (g2 i)) (g2 i) (f2 i)) (g_or (m_fr row (f2 i) (g2 i)) more))) (by rw [g_or_t c_2]) ?_
          refine xs_istore (lv' := [(4, .int (g_or (m_fr (m_row row (f2 i) (g2 i)) (g2 i) (f2 i)) (g_or (m_fr row (f2 i) (g2 i)) more))), (0, .ref 36), (1, .ref 55), (3, .int 0), (5, .int (nI i))]) C0 d_Md_spread_227 (by decide) rfl ?_
          refine xs_iinc (v := nI (i + 1)) (lv' := [(5, .int (nI (i + 1))), (4, .int (g_or (m_fr (m_row row (f2 i) (g2 i)) (g2 i) (f2 i)) (g_or (m_fr row (f2 i) (g2 i)) more))), (0, .ref 36), (1, .ref 55), (3, .int 0)]) C0 d_Md_spread_229 4 rfl (by rw [← nI_1]; rfl) (by decide) rfl ?_
          refine xs_goto (tgt := 141) C0 d_Md_spread_232 (by decide) ?_
          refine xs_lv (lv' := [(0, .ref 36), (1, .ref 55), (3, .int 0), (4, .int (g_or (m_fr (m_row row (f2 i) (g2 i)) (g2 i) (f2 i)) (g_or (m_fr row (f2 i) (g2 i)) more))), (5, .int (nI (i + 1)))]) [2, 3, 4, 1, 0] rfl ?_
          exact ih (i + 1) _ _ (by omega) hs2
        · refine xs_iload C0 d_Md_spread_217 0 rfl ?_
          refine xs_bz_eq (u := 1) (v := 0) (tgt := 226) (J := 227) C0 d_Md_spread_219 (by decide) d_Md_spread_222 (by decide) d_Md_spread_223 (by decide) d_Md_spread_226 (by decide) rfl ?_
          refine xs_top (v' := .int (g_or (m_fr (m_row row (f2 i) (g2 i)) (g2 i) (f2 i)) (g_or (m_fr row (f2 i) (g2 i)) more))) (by rw [g_or_f c_2]) ?_
          refine xs_istore (lv' := [(4, .int (g_or (m_fr (m_row row (f2 i) (g2 i)) (g2 i) (f2 i)) (g_or (m_fr row (f2 i) (g2 i)) more))), (0, .ref 36), (1, .ref 55), (3, .int 0), (5, .int (nI i))]) C0 d_Md_spread_227 (by decide) rfl ?_
          refine xs_iinc (v := nI (i + 1)) (lv' := [(5, .int (nI (i + 1))), (4, .int (g_or (m_fr (m_row row (f2 i) (g2 i)) (g2 i) (f2 i)) (g_or (m_fr row (f2 i) (g2 i)) more))), (0, .ref 36), (1, .ref 55), (3, .int 0)]) C0 d_Md_spread_229 4 rfl (by rw [← nI_1]; rfl) (by decide) rfl ?_
          refine xs_goto (tgt := 141) C0 d_Md_spread_232 (by decide) ?_
          refine xs_lv (lv' := [(0, .ref 36), (1, .ref 55), (3, .int 0), (4, .int (g_or (m_fr (m_row row (f2 i) (g2 i)) (g2 i) (f2 i)) (g_or (m_fr row (f2 i) (g2 i)) more))), (5, .int (nI (i + 1)))]) [2, 3, 4, 1, 0] rfl ?_
          exact ih (i + 1) _ _ (by omega) hs2
      · refine xs_iload C0 d_Md_spread_184 3 rfl ?_
        refine xs_bz_eq (u := 1) (v := 0) (tgt := 193) (J := 194) C0 d_Md_spread_186 (by decide) d_Md_spread_189 (by decide) d_Md_spread_190 (by decide) d_Md_spread_193 (by decide) rfl ?_
        refine xs_top (v' := .int (g_or (m_fr row (f2 i) (g2 i)) more)) (by rw [g_or_f c_1]) ?_
        refine xs_istore (lv' := [(4, .int (g_or (m_fr row (f2 i) (g2 i)) more)), (0, .ref 36), (1, .ref 55), (3, .int 0), (5, .int (nI i))]) C0 d_Md_spread_194 (by decide) rfl ?_
        refine xs_aload_n C0 d_Md_spread_196 rfl 2 rfl ?_
        refine xs_aload_n C0 d_Md_spread_197 rfl 1 rfl ?_
        refine xs_get (q := 36) (v := .ref 49) C0 f_Md_46 d_Md_spread_198 rfl rfl ?_
        refine xs_iload C0 d_Md_spread_201 4 rfl ?_
        refine xs_iald C0 d_Md_spread_203 rfl (vp_in_nI (n := i) (by omega) (by decide)) ?_
        refine xs_top (v' := .int (g2 i)) (by rw [nI_clamp (by omega)]) ?_
        refine xs_aload_n C0 d_Md_spread_204 rfl 1 rfl ?_
        refine xs_get (q := 36) (v := .ref 48) C0 f_Md_43 d_Md_spread_205 rfl rfl ?_
        refine xs_iload C0 d_Md_spread_208 4 rfl ?_
        refine xs_iald C0 d_Md_spread_210 rfl (vp_in_nI (n := i) (by omega) (by decide)) ?_
        refine xs_top (v' := .int (f2 i)) (by rw [nI_clamp (by omega)]) ?_
        refine xs_cS1 (ω' := (wd Q0 Q1 Q2 Q3 Q4 ql qr qk qo QS QT QF QH qt ++ (wM P0 (f1, g1, nI n1) (f2, g2, nI n2) (f3, g3, nI n3) P4 pl dr ki rl (ms, mc, mw, mb) cl (m_row (m_row row (f2 i) (g2 i)) (g2 i) (f2 i), mo) sl tk kp pa tr co ++ rest))) (av := [.ref 55, .int (g2 i), .int (f2 i)]) (st := []) (kc' := 0) (ks' := 0) (v := .int (m_fr (m_row row (f2 i) (g2 i)) (g2 i) (f2 i))) C0 d_Md_spread_211 l_Md_129 (d_rchh (by assumption) (by assumption)) rfl rfl rfl (Nat.le_of_ble_eq_true rfl) (Nat.le_of_ble_eq_true rfl) (Nat.le_of_ble_eq_true rfl) (Nat.le_of_ble_eq_true rfl) (Nat.le_of_ble_eq_true rfl) (Nat.le_of_ble_eq_true rfl) ?_
        refine xs_pc (pc' := 214) rfl ?_
        refine xs_if_ne (tgt := 222) C0 d_Md_spread_214 (by decide) (fun c_3 => ?_) (fun c_3 => ?_)
        · refine xs_iconst (v := 1) C0 d_Md_spread_222 (by decide) ?_
          refine xs_goto (tgt := 227) C0 d_Md_spread_223 (by decide) ?_
          refine xs_top (v' := .int (g_or (m_fr (m_row row (f2 i) (g2 i)) (g2 i) (f2 i)) (g_or (m_fr row (f2 i) (g2 i)) more))) (by rw [g_or_t c_3]) ?_
          refine xs_istore (lv' := [(4, .int (g_or (m_fr (m_row row (f2 i) (g2 i)) (g2 i) (f2 i)) (g_or (m_fr row (f2 i) (g2 i)) more))), (0, .ref 36), (1, .ref 55), (3, .int 0), (5, .int (nI i))]) C0 d_Md_spread_227 (by decide) rfl ?_
          refine xs_iinc (v := nI (i + 1)) (lv' := [(5, .int (nI (i + 1))), (4, .int (g_or (m_fr (m_row row (f2 i) (g2 i)) (g2 i) (f2 i)) (g_or (m_fr row (f2 i) (g2 i)) more))), (0, .ref 36), (1, .ref 55), (3, .int 0)]) C0 d_Md_spread_229 4 rfl (by rw [← nI_1]; rfl) (by decide) rfl ?_
          refine xs_goto (tgt := 141) C0 d_Md_spread_232 (by decide) ?_
          refine xs_lv (lv' := [(0, .ref 36), (1, .ref 55), (3, .int 0), (4, .int (g_or (m_fr (m_row row (f2 i) (g2 i)) (g2 i) (f2 i)) (g_or (m_fr row (f2 i) (g2 i)) more))), (5, .int (nI (i + 1)))]) [2, 3, 4, 1, 0] rfl ?_
          exact ih (i + 1) _ _ (by omega) hs2
        · refine xs_iload C0 d_Md_spread_217 0 rfl ?_
          refine xs_bz_eq (u := 1) (v := 0) (tgt := 226) (J := 227) C0 d_Md_spread_219 (by decide) d_Md_spread_222 (by decide) d_Md_spread_223 (by decide) d_Md_spread_226 (by decide) rfl ?_
          refine xs_top (v' := .int (g_or (m_fr (m_row row (f2 i) (g2 i)) (g2 i) (f2 i)) (g_or (m_fr row (f2 i) (g2 i)) more))) (by rw [g_or_f c_3]) ?_
          refine xs_istore (lv' := [(4, .int (g_or (m_fr (m_row row (f2 i) (g2 i)) (g2 i) (f2 i)) (g_or (m_fr row (f2 i) (g2 i)) more))), (0, .ref 36), (1, .ref 55), (3, .int 0), (5, .int (nI i))]) C0 d_Md_spread_227 (by decide) rfl ?_
          refine xs_iinc (v := nI (i + 1)) (lv' := [(5, .int (nI (i + 1))), (4, .int (g_or (m_fr (m_row row (f2 i) (g2 i)) (g2 i) (f2 i)) (g_or (m_fr row (f2 i) (g2 i)) more))), (0, .ref 36), (1, .ref 55), (3, .int 0)]) C0 d_Md_spread_229 4 rfl (by rw [← nI_1]; rfl) (by decide) rfl ?_
          refine xs_goto (tgt := 141) C0 d_Md_spread_232 (by decide) ?_
          refine xs_lv (lv' := [(0, .ref 36), (1, .ref 55), (3, .int 0), (4, .int (g_or (m_fr (m_row row (f2 i) (g2 i)) (g2 i) (f2 i)) (g_or (m_fr row (f2 i) (g2 i)) more))), (5, .int (nI (i + 1)))]) [2, 3, 4, 1, 0] rfl ?_
          exact ih (i + 1) _ _ (by omega) hs2
    · refine xs_goto (tgt := 229) C0 d_Md_spread_160 (by decide) ?_
      refine xs_iinc (v := nI (i + 1)) (lv' := [(5, .int (nI (i + 1))), (0, .ref 36), (1, .ref 55), (3, .int 0), (4, .int more)]) C0 d_Md_spread_229 4 rfl (by rw [← nI_1]; rfl) (by decide) rfl ?_
      refine xs_goto (tgt := 141) C0 d_Md_spread_232 (by decide) ?_
      refine xs_lv (lv' := [(0, .ref 36), (1, .ref 55), (3, .int 0), (4, .int more), (5, .int (nI (i + 1)))]) [1, 2, 3, 4, 0] rfl ?_
      exact ih (i + 1) _ _ (by omega) (hI.mono (fun x y h => h.imp id (e_k_n c1)))
set_option maxHeartbeats 4000000 in
set_option maxRecDepth 100000 in
theorem lp_s3h {Q0 Q1 Q2 Q3 Q4 : wt_P} {ql qr qk qo : Nat → Int32} {QS QT : wt_S} {QF : wt_F} {QH : wt_H} {qt : Int32} {P0 : wt_P} {f1 g1 : Nat → Int32} {n1 : Nat} {f2 g2 : Nat → Int32} {n2 : Nat} {f3 g3 : Nat → Int32} {n3 : Nat} {P4 : wt_P} {pl dr ki rl : Nat → Int32} {ms mc mw : Nat → Int32} {mb : Int32} {cl : Nat → Int32} {mo : Nat → Int32} {sl tk : Int32} {kp : mt_K} {pa : Nat → Int32} {tr : mt_T} {co : Int32} {rest : xm_O} {a : Nat} {og row0 : Nat → Int32} {E : xm_X} {Q : State → Prop} (C0 : xm_C E y_Md_spread.cls b_Md_spread 6 none [] y_Md_spread.name (xm_rm 1 0 0)) (h1 : n1 ≤ 64) (h2 : n2 ≤ 12) (h3 : n3 ≤ 24) (hp1 : okP (f1, g1, nI n1) n1) (hp2 : okP (f2, g2, nI n2) n2) (hp3 : okP (f3, g3, nI n3) n3) (hrl : ∀ c, c < n1 → ¬ ki c = 4 → vp_in (rl c) 16) (kx : ∀ (row : Nat → Int32) (more : Int32), m_inv (m_e (f1, g1, nI n1) (f2, g2, nI n2) ki rl ms cl n1 n2 n3 f3 g3) a og row0 (fun x y => (e_c f1 g1 ki rl ms n1 x y ∨ e_k f2 g2 cl n2 x y) ∨ e_d f3 g3 n3 x y) row more → xm_W E 6 Q 0 0 (wd Q0 Q1 Q2 Q3 Q4 ql qr qk qo QS QT QF QH qt ++ (wM P0 (f1, g1, nI n1) (f2, g2, nI n2) (f3, g3, nI n3) P4 pl dr ki rl (ms, mc, mw, mb) cl (row, mo) sl tk kp pa tr co ++ rest)) 314 [(0, .ref 36), (1, .ref 55), (3, .int 0), (4, .int more)] []) : ∀ j : Nat, ∀ (i : Nat) (row : Nat → Int32) (more : Int32), i + j = n3 → m_inv (m_e (f1, g1, nI n1) (f2, g2, nI n2) ki rl ms cl n1 n2 n3 f3 g3) a og row0 (fun x y => (e_c f1 g1 ki rl ms n1 x y ∨ e_k f2 g2 cl n2 x y) ∨ e_d f3 g3 i x y) row more → xm_W E 6 Q 0 0 (wd Q0 Q1 Q2 Q3 Q4 ql qr qk qo QS QT QF QH qt ++ (wM P0 (f1, g1, nI n1) (f2, g2, nI n2) (f3, g3, nI n3) P4 pl dr ki rl (ms, mc, mw, mb) cl (row, mo) sl tk kp pa tr co ++ rest)) 238 [(0, .ref 36), (1, .ref 55), (3, .int 0), (4, .int more), (5, .int (nI i))] [] := by
  intro j
  induction j with
  | zero =>
    intro i row more hi hI
    have e : n3 = i := by omega
    subst e
    refine xs_iload C0 d_Md_spread_238 4 rfl ?_
    refine xs_aload_n C0 d_Md_spread_240 rfl 0 rfl ?_
    refine xs_get (q := 36) (v := .int (nI n3)) C0 f_Md_120 d_Md_spread_241 rfl rfl ?_
    refine xs_icmp_ge (tgt := 314) C0 d_Md_spread_244 (by decide) (fun _ => ?_) (fun c9 => absurd (nI_le (Nat.le_refl _) (by omega)) c9)
    refine xs_lv (lv' := [(0, .ref 36), (1, .ref 55), (3, .int 0), (4, .int more)]) [0, 1, 2, 3] rfl ?_
    exact kx row more hI
  | succ j ih =>
    intro i row more hi hI
    have hlt : i < n3 := by omega
    obtain ⟨ha1, ha2⟩ : vp_in (f3 i) 48 ∧ vp_in (g3 i) 48 := hp3 i hlt
    obtain ⟨x1, hx1, ex1⟩ := pl_node ha1
    obtain ⟨y1, hy1, ey1⟩ := pl_node ha2
    have he : (m_e (f1, g1, nI n1) (f2, g2, nI n2) ki rl ms cl n1 n2 n3 f3 g3) x1 y1 := Or.inr (Or.inr ⟨hx1, hy1, i, hlt, ex1, ey1⟩)
    have hs2 := (m_step hI hx1 hy1 he).mono (D' := fun x y => (e_c f1 g1 ki rl ms n1 x y ∨ e_k f2 g2 cl n2 x y) ∨ e_d f3 g3 (i + 1) x y) (fun x y h => by rcases h with h | h; exact Or.inl (Or.inl h); rcases e_d_s hx1 hy1 ex1 ey1 h with h | h; exact Or.inl (Or.inr h); exact Or.inr h)
    rw [← ex1, ← ey1] at hs2
    refine xs_iload C0 d_Md_spread_238 4 rfl ?_
    refine xs_aload_n C0 d_Md_spread_240 rfl 0 rfl ?_
    refine xs_get (q := 36) (v := .int (nI n3)) C0 f_Md_120 d_Md_spread_241 rfl rfl ?_
    refine xs_icmp_ge (tgt := 314) C0 d_Md_spread_244 (by decide) (fun c9 => absurd c9 (nI_ge hlt (by omega))) (fun _ => ?_)
    refine xs_iload_n C0 d_Md_spread_247 rfl 2 rfl ?_
    refine xs_if_eq (tgt := 275) C0 d_Md_spread_248 (by decide) (fun _ => ?_) (fun c9 => absurd rfl c9)
    refine xs_aload_n C0 d_Md_spread_275 rfl 1 rfl ?_
    refine xs_aload_n C0 d_Md_spread_276 rfl 0 rfl ?_
    refine xs_get (q := 36) (v := .ref 51) C0 f_Md_53 d_Md_spread_277 rfl rfl ?_
    refine xs_iload C0 d_Md_spread_280 4 rfl ?_
    refine xs_iald C0 d_Md_spread_282 rfl (vp_in_nI (n := i) (by omega) (by decide)) ?_
    refine xs_top (v' := .int (f3 i)) (by rw [nI_clamp (by omega)]) ?_
    refine xs_aload_n C0 d_Md_spread_283 rfl 0 rfl ?_
    refine xs_get (q := 36) (v := .ref 52) C0 f_Md_56 d_Md_spread_284 rfl rfl ?_
    refine xs_iload C0 d_Md_spread_287 4 rfl ?_
    refine xs_iald C0 d_Md_spread_289 rfl (vp_in_nI (n := i) (by omega) (by decide)) ?_
    refine xs_top (v' := .int (g3 i)) (by rw [nI_clamp (by omega)]) ?_
    refine xs_cS1 (ω' := (wd Q0 Q1 Q2 Q3 Q4 ql qr qk qo QS QT QF QH qt ++ (wM P0 (f1, g1, nI n1) (f2, g2, nI n2) (f3, g3, nI n3) P4 pl dr ki rl (ms, mc, mw, mb) cl (m_row row (f3 i) (g3 i), mo) sl tk kp pa tr co ++ rest))) (av := [.ref 55, .int (f3 i), .int (g3 i)]) (st := []) (kc' := 0) (ks' := 0) (v := .int (m_fr row (f3 i) (g3 i))) C0 d_Md_spread_290 l_Md_129 (d_rchh (by assumption) (by assumption)) rfl rfl rfl (Nat.le_of_ble_eq_true rfl) (Nat.le_of_ble_eq_true rfl) (Nat.le_of_ble_eq_true rfl) (Nat.le_of_ble_eq_true rfl) (Nat.le_of_ble_eq_true rfl) (Nat.le_of_ble_eq_true rfl) ?_
    refine xs_if_ne (tgt := 301) C0 d_Md_spread_293 (by decide) (fun c_1 => ?_) (fun c_1 => ?_)
    · refine xs_iconst (v := 1) C0 d_Md_spread_301 (by decide) ?_
      refine xs_goto (tgt := 306) C0 d_Md_spread_302 (by decide) ?_
      refine xs_top (v' := .int (g_or (m_fr row (f3 i) (g3 i)) more)) (by rw [g_or_t c_1]) ?_
      refine xs_istore (lv' := [(4, .int (g_or (m_fr row (f3 i) (g3 i)) more)), (0, .ref 36), (1, .ref 55), (3, .int 0), (5, .int (nI i))]) C0 d_Md_spread_306 (by decide) rfl ?_
      refine xs_iinc (v := nI (i + 1)) (lv' := [(5, .int (nI (i + 1))), (4, .int (g_or (m_fr row (f3 i) (g3 i)) more)), (0, .ref 36), (1, .ref 55), (3, .int 0)]) C0 d_Md_spread_308 4 rfl (by rw [← nI_1]; rfl) (by decide) rfl ?_
      refine xs_goto (tgt := 238) C0 d_Md_spread_311 (by decide) ?_
      refine xs_lv (lv' := [(0, .ref 36), (1, .ref 55), (3, .int 0), (4, .int (g_or (m_fr row (f3 i) (g3 i)) more)), (5, .int (nI (i + 1)))]) [2, 3, 4, 1, 0] rfl ?_
      exact ih (i + 1) _ _ (by omega) hs2
    · refine xs_iload C0 d_Md_spread_296 3 rfl ?_
      refine xs_bz_eq (u := 1) (v := 0) (tgt := 305) (J := 306) C0 d_Md_spread_298 (by decide) d_Md_spread_301 (by decide) d_Md_spread_302 (by decide) d_Md_spread_305 (by decide) rfl ?_
      refine xs_top (v' := .int (g_or (m_fr row (f3 i) (g3 i)) more)) (by rw [g_or_f c_1]) ?_
      refine xs_istore (lv' := [(4, .int (g_or (m_fr row (f3 i) (g3 i)) more)), (0, .ref 36), (1, .ref 55), (3, .int 0), (5, .int (nI i))]) C0 d_Md_spread_306 (by decide) rfl ?_
      refine xs_iinc (v := nI (i + 1)) (lv' := [(5, .int (nI (i + 1))), (4, .int (g_or (m_fr row (f3 i) (g3 i)) more)), (0, .ref 36), (1, .ref 55), (3, .int 0)]) C0 d_Md_spread_308 4 rfl (by rw [← nI_1]; rfl) (by decide) rfl ?_
      refine xs_goto (tgt := 238) C0 d_Md_spread_311 (by decide) ?_
      refine xs_lv (lv' := [(0, .ref 36), (1, .ref 55), (3, .int 0), (4, .int (g_or (m_fr row (f3 i) (g3 i)) more)), (5, .int (nI (i + 1)))]) [2, 3, 4, 1, 0] rfl ?_
      exact ih (i + 1) _ _ (by omega) hs2
set_option maxHeartbeats 4000000 in
set_option maxRecDepth 100000 in
theorem lp_sh {Q0 Q1 Q2 Q3 Q4 : wt_P} {ql qr qk qo : Nat → Int32} {QS QT : wt_S} {QF : wt_F} {QH : wt_H} {qt : Int32} {P0 : wt_P} {f1 g1 : Nat → Int32} {n1 : Nat} {f2 g2 : Nat → Int32} {n2 : Nat} {f3 g3 : Nat → Int32} {n3 : Nat} {P4 : wt_P} {pl dr ki rl : Nat → Int32} {ms mc mw : Nat → Int32} {mb : Int32} {cl : Nat → Int32} {mo : Nat → Int32} {sl tk : Int32} {kp : mt_K} {pa : Nat → Int32} {tr : mt_T} {co : Int32} {rest : xm_O} {a : Nat} {og : Nat → Int32} {E : xm_X} {Q : State → Prop} (C0 : xm_C E y_Md_spread.cls b_Md_spread 6 none [] y_Md_spread.name (xm_rm 1 0 0)) (h1 : n1 ≤ 64) (h2 : n2 ≤ 12) (h3 : n3 ≤ 24) (hp1 : okP (f1, g1, nI n1) n1) (hp2 : okP (f2, g2, nI n2) n2) (hp3 : okP (f3, g3, nI n3) n3) (hrl : ∀ c, c < n1 → ¬ ki c = 4 → vp_in (rl c) 16) (ha : a < 48) (kx : xm_W E 6 Q 0 0 (wd Q0 Q1 Q2 Q3 Q4 ql qr qk qo QS QT QF QH qt ++ (wM P0 (f1, g1, nI n1) (f2, g2, nI n2) (f3, g3, nI n3) P4 pl dr ki rl (ms, mc, mw, mb) cl ((rowR og (Rch (m_e (f1, g1, nI n1) (f2, g2, nI n2) ki rl ms cl n1 n2 n3 f3 g3) a)), mo) sl tk kp pa tr co ++ rest)) 317 [] []) : ∀ j : Nat, ∀ (row : Nat → Int32) (more : Int32), ((more = 0 ∧ row = rowR og (Rch (m_e (f1, g1, nI n1) (f2, g2, nI n2) ki rl ms cl n1 n2 n3 f3 g3) a)) ∨ (more = 1 ∧ rowok (m_e (f1, g1, nI n1) (f2, g2, nI n2) ki rl ms cl n1 n2 n3 f3 g3) a og row ∧ zc row < j)) → xm_W E 6 Q 0 0 (wd Q0 Q1 Q2 Q3 Q4 ql qr qk qo QS QT QF QH qt ++ (wM P0 (f1, g1, nI n1) (f2, g2, nI n2) (f3, g3, nI n3) P4 pl dr ki rl (ms, mc, mw, mb) cl (row, mo) sl tk kp pa tr co ++ rest)) 34 [(0, .ref 36), (1, .ref 55), (3, .int 0), (4, .int more)] [] := by
  intro j
  induction j with
  | zero =>
    intro row more h0
    rcases h0 with h0 | h0
    · refine xs_iload C0 d_Md_spread_34 3 rfl ?_
      refine xs_if_eq (tgt := 317) C0 d_Md_spread_36 (by decide) (fun _ => ?_) (fun c9 => absurd h0.1 c9)
      refine xs_lv (lv' := []) [] rfl ?_
      rw [h0.2]
      exact kx
    · exact absurd h0.2.2 (Nat.not_lt_zero _)
  | succ j ih =>
    intro row more h0
    rcases h0 with h0 | h0
    · refine xs_iload C0 d_Md_spread_34 3 rfl ?_
      refine xs_if_eq (tgt := 317) C0 d_Md_spread_36 (by decide) (fun _ => ?_) (fun c9 => absurd h0.1 c9)
      refine xs_lv (lv' := []) [] rfl ?_
      rw [h0.2]
      exact kx
    · refine xs_iload C0 d_Md_spread_34 3 rfl ?_
      refine xs_if_eq (tgt := 317) C0 d_Md_spread_36 (by decide) (fun c9 => absurd (h0.1.symm.trans c9) (by decide)) (fun _ => ?_)
      refine xs_iconst (v := 0) C0 d_Md_spread_39 (by decide) ?_
      refine xs_istore (lv' := [(4, .int 0), (0, .ref 36), (1, .ref 55), (3, .int 0)]) C0 d_Md_spread_40 (by decide) rfl ?_
      refine xs_iconst (v := 0) C0 d_Md_spread_42 (by decide) ?_
      refine xs_istore (lv' := [(5, .int 0), (4, .int 0), (0, .ref 36), (1, .ref 55), (3, .int 0)]) C0 d_Md_spread_43 (by decide) rfl ?_
      refine xs_lv (lv' := [(0, .ref 36), (1, .ref 55), (3, .int 0), (4, .int 0), (5, .int 0)]) [2, 3, 4, 1, 0] rfl ?_
      refine lp_s1h (a := a) (og := og) (row0 := row) C0 h1 h2 h3 hp1 hp2 hp3 hrl (fun row1 more1 hI1 => ?_) n1 0 _ _ (by omega) (m_inv0 h0.2.1 (fun x y h => by obtain ⟨-, -, c, hc, -⟩ := h; omega))
      refine xs_iconst (v := 0) C0 d_Md_spread_138 (by decide) ?_
      refine xs_istore (lv' := [(5, .int 0), (0, .ref 36), (1, .ref 55), (3, .int 0), (4, .int more1)]) C0 d_Md_spread_139 (by decide) rfl ?_
      refine xs_lv (lv' := [(0, .ref 36), (1, .ref 55), (3, .int 0), (4, .int more1), (5, .int 0)]) [1, 2, 3, 4, 0] rfl ?_
      refine lp_s2h (a := a) (og := og) (row0 := row) C0 h1 h2 h3 hp1 hp2 hp3 hrl (fun row2 more2 hI2 => ?_) n2 0 _ _ (by omega) (hI1.mono (fun x y h => h.elim id (fun h => by obtain ⟨-, -, c, hc, -⟩ := h; omega)))
      refine xs_iconst (v := 0) C0 d_Md_spread_235 (by decide) ?_
      refine xs_istore (lv' := [(5, .int 0), (0, .ref 36), (1, .ref 55), (3, .int 0), (4, .int more2)]) C0 d_Md_spread_236 (by decide) rfl ?_
      refine xs_lv (lv' := [(0, .ref 36), (1, .ref 55), (3, .int 0), (4, .int more2), (5, .int 0)]) [1, 2, 3, 4, 0] rfl ?_
      refine lp_s3h (a := a) (og := og) (row0 := row) C0 h1 h2 h3 hp1 hp2 hp3 hrl (fun row3 more3 hI3 => ?_) n3 0 _ _ (by omega) (hI2.mono (fun x y h => h.elim id (fun h => by obtain ⟨-, -, c, hc, -⟩ := h; omega)))
      refine xs_goto (tgt := 34) C0 d_Md_spread_314 (by decide) ?_
      refine ih row3 more3 ?_
      rcases hI3.more01 with q | q
      · refine Or.inl ⟨q, ?_⟩
        rw [q] at hI3
        exact rowR_of hI3 ha (fun x y h => h.elim (fun h => Or.inl (Or.inl h)) (fun h => h.elim (fun h => Or.inl (Or.inr h)) Or.inr)) (fun x y h => h.elim (fun h => ⟨h.1, h.2.1⟩) (fun h => h.elim (fun h => ⟨h.1, h.2.1⟩) (fun h => ⟨h.1, h.2.1⟩)))
      · refine Or.inr ⟨q, hI3.1, ?_⟩
        rcases hI3.2 with w9 | w9
        · rw [q] at w9; exact absurd w9.1 (by decide)
        · have := w9.2; have := h0.2.2; omega
set_option maxHeartbeats 4000000 in
set_option maxRecDepth 100000 in
theorem lp_s0h {Q0 Q1 Q2 Q3 Q4 : wt_P} {ql qr qk qo : Nat → Int32} {QS QT : wt_S} {QF : wt_F} {QH : wt_H} {qt : Int32} {P0 : wt_P} {f1 g1 : Nat → Int32} {n1 : Nat} {f2 g2 : Nat → Int32} {n2 : Nat} {f3 g3 : Nat → Int32} {n3 : Nat} {P4 : wt_P} {pl dr ki rl : Nat → Int32} {ms mc mw : Nat → Int32} {mb : Int32} {cl : Nat → Int32} {mo : Nat → Int32} {sl tk : Int32} {kp : mt_K} {pa : Nat → Int32} {tr : mt_T} {co : Int32} {rest : xm_O} {a : Nat} {og : Nat → Int32} {E : xm_X} {Q : State → Prop} (C0 : xm_C E y_Md_spread.cls b_Md_spread 6 none [] y_Md_spread.name (xm_rm 1 0 0)) (ha : a < 48) (kx : xm_W E 6 Q 0 0 (wd Q0 Q1 Q2 Q3 Q4 ql qr qk qo QS QT QF QH qt ++ (wM P0 (f1, g1, nI n1) (f2, g2, nI n2) (f3, g3, nI n3) P4 pl dr ki rl (ms, mc, mw, mb) cl ((r_0 og a 48), mo) sl tk kp pa tr co ++ rest)) 31 [(0, .ref 36), (1, .ref 55), (3, .int 0)] []) : ∀ j : Nat, ∀ (i : Nat), i + j = 48 → xm_W E 6 Q 0 0 (wd Q0 Q1 Q2 Q3 Q4 ql qr qk qo QS QT QF QH qt ++ (wM P0 (f1, g1, nI n1) (f2, g2, nI n2) (f3, g3, nI n3) P4 pl dr ki rl (ms, mc, mw, mb) cl ((r_0 og a i), mo) sl tk kp pa tr co ++ rest)) 3 [(0, .ref 36), (1, .ref 55), (2, .int (nI a)), (3, .int 0), (4, .int (nI i))] [] := by
  intro j
  induction j with
  | zero =>
    intro i hi
    have e : 48 = i := by omega
    subst e
    refine xs_iload C0 d_Md_spread_3 4 rfl ?_
    refine xs_bipush (v := 48) C0 d_Md_spread_5 (by decide) ?_
    refine xs_icmp_ge (tgt := 31) C0 d_Md_spread_7 (by decide) (fun _ => ?_) (fun c9 => absurd (nI_le (Nat.le_refl 48) (by decide)) c9)
    refine xs_lv (lv' := [(0, .ref 36), (1, .ref 55), (3, .int 0)]) [0, 1, 3] rfl ?_
    exact kx
  | succ j ih =>
    intro i hi
    have hlt : i < 48 := by omega
    refine xs_iload C0 d_Md_spread_3 4 rfl ?_
    refine xs_bipush (v := 48) C0 d_Md_spread_5 (by decide) ?_
    refine xs_icmp_ge (tgt := 31) C0 d_Md_spread_7 (by decide) (fun c9 => absurd c9 (nI_ge (b := 48) hlt (by decide))) (fun _ => ?_)
    refine xs_aload_n C0 d_Md_spread_10 rfl 1 rfl ?_
    refine xs_iload C0 d_Md_spread_11 4 rfl ?_
    refine xs_iload C0 d_Md_spread_13 4 rfl ?_
    refine xs_iload_n C0 d_Md_spread_15 rfl 2 rfl ?_
    refine xs_bi_ne (u := 1) (v := 0) (tgt := 23) (J := 24) C0 d_Md_spread_16 (by decide) d_Md_spread_19 (by decide) d_Md_spread_20 (by decide) d_Md_spread_23 (by decide) rfl ?_
    refine xs_zast (ω' := (wd Q0 Q1 Q2 Q3 Q4 ql qr qk qo QS QT QF QH qt ++ (wM P0 (f1, g1, nI n1) (f2, g2, nI n2) (f3, g3, nI n3) P4 pl dr ki rl (ms, mc, mw, mb) cl (upd (r_0 og a i) (nI i).toNatClampNeg (vp_nar .boolean (if (nI i) = (nI a) then 1 else 0)), mo) sl tk kp pa tr co ++ rest))) C0 d_Md_spread_24 rfl (vp_in_nI (n := i) (by omega) (by decide)) rfl ?_
    refine xs_world (ω' := (wd Q0 Q1 Q2 Q3 Q4 ql qr qk qo QS QT QF QH qt ++ (wM P0 (f1, g1, nI n1) (f2, g2, nI n2) (f3, g3, nI n3) P4 pl dr ki rl (ms, mc, mw, mb) cl (upd (r_0 og a i) i (vp_nar .boolean (if (nI i) = (nI a) then 1 else 0)), mo) sl tk kp pa tr co ++ rest))) (by rw [nI_clamp (by omega)]) ?_
    refine xs_iinc (v := nI (i + 1)) (lv' := [(4, .int (nI (i + 1))), (0, .ref 36), (1, .ref 55), (2, .int (nI a)), (3, .int 0)]) C0 d_Md_spread_25 4 rfl (by rw [← nI_1]; rfl) (by decide) rfl ?_
    refine xs_goto (tgt := 3) C0 d_Md_spread_28 (by decide) ?_
    refine xs_lv (lv' := [(0, .ref 36), (1, .ref 55), (2, .int (nI a)), (3, .int 0), (4, .int (nI (i + 1)))]) [1, 2, 3, 4, 0] rfl ?_
    refine xs_world (ω' := (wd Q0 Q1 Q2 Q3 Q4 ql qr qk qo QS QT QF QH qt ++ (wM P0 (f1, g1, nI n1) (f2, g2, nI n2) (f3, g3, nI n3) P4 pl dr ki rl (ms, mc, mw, mb) cl ((r_0 og a (i + 1)), mo) sl tk kp pa tr co ++ rest))) (by rw [r_0_s og ha hlt]) ?_
    exact ih (i + 1) (by omega)
set_option maxHeartbeats 4000000 in
set_option maxRecDepth 100000 in
theorem d_sprh {Q0 Q1 Q2 Q3 Q4 : wt_P} {ql qr qk qo : Nat → Int32} {QS QT : wt_S} {QF : wt_F} {QH : wt_H} {qt : Int32} {P0 : wt_P} {f1 g1 : Nat → Int32} {n1 : Nat} {f2 g2 : Nat → Int32} {n2 : Nat} {f3 g3 : Nat → Int32} {n3 : Nat} {P4 : wt_P} {pl dr ki rl : Nat → Int32} {ms mc mw : Nat → Int32} {mb : Int32} {cl : Nat → Int32} {mo : Nat → Int32} {sl tk : Int32} {kp : mt_K} {pa : Nat → Int32} {tr : mt_T} {co : Int32} {rest : xm_O} {a : Nat} {og : Nat → Int32} (h1 : n1 ≤ 64) (h2 : n2 ≤ 12) (h3 : n3 ≤ 24) (hp1 : okP (f1, g1, nI n1) n1) (hp2 : okP (f2, g2, nI n2) n2) (hp3 : okP (f3, g3, nI n3) n3) (hrl : ∀ c, c < n1 → ¬ ki c = 4 → vp_in (rl c) 16) (ha : a < 48) : xm_M y_Md_spread (Cond.code y_Md_spread b_Md_spread 6 none) (xm_rm 1 0 0) [.ref 36, .ref 55, .int (nI a), .int 0] (wd Q0 Q1 Q2 Q3 Q4 ql qr qk qo QS QT QF QH qt ++ (wM P0 (f1, g1, nI n1) (f2, g2, nI n2) (f3, g3, nI n3) P4 pl dr ki rl (ms, mc, mw, mb) cl (og, mo) sl tk kp pa tr co ++ rest)) (xm_eq (.inl none) (wd Q0 Q1 Q2 Q3 Q4 ql qr qk qo QS QT QF QH qt ++ (wM P0 (f1, g1, nI n1) (f2, g2, nI n2) (f3, g3, nI n3) P4 pl dr ki rl (ms, mc, mw, mb) cl ((rowR og (Rch (m_e (f1, g1, nI n1) (f2, g2, nI n2) ki rl ms cl n1 n2 n3 f3 g3) a)), mo) sl tk kp pa tr co ++ rest))) := by
  refine xm_of (by decide) (Nat.le_of_ble_eq_true rfl) (fun E C0 => ?_)
  refine xs_eq (lv' := [(0, .ref 36), (1, .ref 55), (2, .int (nI a)), (3, .int 0)]) rfl rfl rfl ?_
  refine xs_iconst (v := 0) C0 d_Md_spread_0 (by decide) ?_
  refine xs_istore (lv' := [(4, .int 0), (0, .ref 36), (1, .ref 55), (2, .int (nI a)), (3, .int 0)]) C0 d_Md_spread_1 (by decide) rfl ?_
  refine xs_lv (lv' := [(0, .ref 36), (1, .ref 55), (2, .int (nI a)), (3, .int 0), (4, .int 0)]) [1, 2, 3, 4, 0] rfl ?_
  refine xs_world (ω' := (wd Q0 Q1 Q2 Q3 Q4 ql qr qk qo QS QT QF QH qt ++ (wM P0 (f1, g1, nI n1) (f2, g2, nI n2) (f3, g3, nI n3) P4 pl dr ki rl (ms, mc, mw, mb) cl ((r_0 og a 0), mo) sl tk kp pa tr co ++ rest))) (by rw [r_0_0]) ?_
  refine lp_s0h C0 ha ?_ 48 0 (by omega)
  refine xs_iconst (v := 1) C0 d_Md_spread_31 (by decide) ?_
  refine xs_istore (lv' := [(4, .int 1), (0, .ref 36), (1, .ref 55), (3, .int 0)]) C0 d_Md_spread_32 (by decide) rfl ?_
  refine xs_lv (lv' := [(0, .ref 36), (1, .ref 55), (3, .int 0), (4, .int 1)]) [1, 2, 3, 0] rfl ?_
  refine lp_sh (a := a) (og := og) C0 h1 h2 h3 hp1 hp2 hp3 hrl ha ?_ 49 _ _ (Or.inr ⟨rfl, r_0_ok ha, zc_lt⟩)
  exact xs_vret C0 d_Md_spread_317 ⟨rfl, rfl⟩ (Nat.le_of_ble_eq_true rfl) (Nat.le_of_ble_eq_true rfl)
set_option maxHeartbeats 4000000 in
set_option maxRecDepth 100000 in
theorem lp_s1c {Q0 Q1 Q2 Q3 Q4 : wt_P} {ql qr qk qo : Nat → Int32} {QS QT : wt_S} {QF : wt_F} {QH : wt_H} {qt : Int32} {P0 : wt_P} {f1 g1 : Nat → Int32} {n1 : Nat} {f2 g2 : Nat → Int32} {n2 : Nat} {f3 g3 : Nat → Int32} {n3 : Nat} {P4 : wt_P} {pl dr ki rl : Nat → Int32} {ms mc mw : Nat → Int32} {mb : Int32} {cl : Nat → Int32} {mh : Nat → Int32} {sl tk : Int32} {kp : mt_K} {pa : Nat → Int32} {tr : mt_T} {co : Int32} {rest : xm_O} {a : Nat} {og row0 : Nat → Int32} {E : xm_X} {Q : State → Prop} (C0 : xm_C E y_Md_spread.cls b_Md_spread 6 none [] y_Md_spread.name (xm_rm 1 0 0)) (h1 : n1 ≤ 64) (h2 : n2 ≤ 12) (h3 : n3 ≤ 24) (hp1 : okP (f1, g1, nI n1) n1) (hp2 : okP (f2, g2, nI n2) n2) (hp3 : okP (f3, g3, nI n3) n3) (hrl : ∀ c, c < n1 → ¬ ki c = 4 → vp_in (rl c) 16) (kx : ∀ (row : Nat → Int32) (more : Int32), m_inv (m_e (f1, g1, nI n1) (f2, g2, nI n2) ki rl ms cl n1 n2 n3 g3 f3) a og row0 (e_c f1 g1 ki rl ms n1) row more → xm_W E 6 Q 0 0 (wd Q0 Q1 Q2 Q3 Q4 ql qr qk qo QS QT QF QH qt ++ (wM P0 (f1, g1, nI n1) (f2, g2, nI n2) (f3, g3, nI n3) P4 pl dr ki rl (ms, mc, mw, mb) cl (mh, row) sl tk kp pa tr co ++ rest)) 138 [(0, .ref 36), (1, .ref 56), (3, .int 1), (4, .int more)] []) : ∀ j : Nat, ∀ (i : Nat) (row : Nat → Int32) (more : Int32), i + j = n1 → m_inv (m_e (f1, g1, nI n1) (f2, g2, nI n2) ki rl ms cl n1 n2 n3 g3 f3) a og row0 (e_c f1 g1 ki rl ms i) row more → xm_W E 6 Q 0 0 (wd Q0 Q1 Q2 Q3 Q4 ql qr qk qo QS QT QF QH qt ++ (wM P0 (f1, g1, nI n1) (f2, g2, nI n2) (f3, g3, nI n3) P4 pl dr ki rl (ms, mc, mw, mb) cl (mh, row) sl tk kp pa tr co ++ rest)) 45 [(0, .ref 36), (1, .ref 56), (3, .int 1), (4, .int more), (5, .int (nI i))] [] := by
  intro j
  induction j with
  | zero =>
    intro i row more hi hI
    have e : n1 = i := by omega
    subst e
    refine xs_iload C0 d_Md_spread_45 4 rfl ?_
    refine xs_aload_n C0 d_Md_spread_47 rfl 0 rfl ?_
    refine xs_get (q := 36) (v := .int (nI n1)) C0 f_Md_114 d_Md_spread_48 rfl rfl ?_
    refine xs_icmp_ge (tgt := 138) C0 d_Md_spread_51 (by decide) (fun _ => ?_) (fun c9 => absurd (nI_le (Nat.le_refl _) (by omega)) c9)
    refine xs_lv (lv' := [(0, .ref 36), (1, .ref 56), (3, .int 1), (4, .int more)]) [0, 1, 2, 3] rfl ?_
    exact kx row more hI
  | succ j ih =>
    intro i row more hi hI
    have hlt : i < n1 := by omega
    obtain ⟨ha1, ha2⟩ : vp_in (f1 i) 48 ∧ vp_in (g1 i) 48 := hp1 i hlt
    obtain ⟨x1, hx1, ex1⟩ := pl_node ha1
    obtain ⟨y1, hy1, ey1⟩ := pl_node ha2
    refine xs_iload C0 d_Md_spread_45 4 rfl ?_
    refine xs_aload_n C0 d_Md_spread_47 rfl 0 rfl ?_
    refine xs_get (q := 36) (v := .int (nI n1)) C0 f_Md_114 d_Md_spread_48 rfl rfl ?_
    refine xs_icmp_ge (tgt := 138) C0 d_Md_spread_51 (by decide) (fun c9 => absurd c9 (nI_ge hlt (by omega))) (fun _ => ?_)
    refine xs_aload_n C0 d_Md_spread_54 rfl 0 rfl ?_
    refine xs_iload C0 d_Md_spread_55 4 rfl ?_
    refine xs_cV1 (ω' := (wd Q0 Q1 Q2 Q3 Q4 ql qr qk qo QS QT QF QH qt ++ (wM P0 (f1, g1, nI n1) (f2, g2, nI n2) (f3, g3, nI n3) P4 pl dr ki rl (ms, mc, mw, mb) cl (mh, row) sl tk kp pa tr co ++ rest))) (As := [.int (nI i)]) (st := []) (kc' := 0) (ks' := 0) (v := .int (m_cd ki rl ms i)) C0 d_Md_spread_57 l_Md_126 rfl rfl (d_cd (show i < 64 by omega) (hrl i hlt)) rfl rfl rfl (Nat.le_of_ble_eq_true rfl) (Nat.le_of_ble_eq_true rfl) (Nat.le_of_ble_eq_true rfl) (Nat.le_of_ble_eq_true rfl) (Nat.le_of_ble_eq_true rfl) (Nat.le_of_ble_eq_true rfl) ?_
    refine xs_if_ne (tgt := 66) C0 d_Md_spread_60 (by decide) (fun c1 => ?_) (fun c1 => ?_)
    · have he : (m_e (f1, g1, nI n1) (f2, g2, nI n2) ki rl ms cl n1 n2 n3 g3 f3) x1 y1 := Or.inl ⟨hx1, hy1, i, hlt, c1, Or.inl ⟨ex1, ey1⟩⟩
      have he2 : (m_e (f1, g1, nI n1) (f2, g2, nI n2) ki rl ms cl n1 n2 n3 g3 f3) y1 x1 := Or.inl ⟨hy1, hx1, i, hlt, c1, Or.inr ⟨ey1, ex1⟩⟩
      have hs2 := (m_step (m_step hI hx1 hy1 he) hy1 hx1 he2).mono (D' := e_c f1 g1 ki rl ms (i + 1)) (fun x y h => by rcases e_c_s hx1 hy1 ex1 ey1 h with h | h | h; exact Or.inl (Or.inl h); exact Or.inl (Or.inr h); exact Or.inr h)
      rw [← ex1, ← ey1] at hs2
      refine xs_aload_n C0 d_Md_spread_66 rfl 1 rfl ?_
      refine xs_aload_n C0 d_Md_spread_67 rfl 0 rfl ?_
      refine xs_get (q := 36) (v := .ref 46) C0 f_Md_37 d_Md_spread_68 rfl rfl ?_
      refine xs_iload C0 d_Md_spread_71 4 rfl ?_
      refine xs_iald C0 d_Md_spread_73 rfl (vp_in_nI (n := i) (by omega) (by decide)) ?_
      refine xs_top (v' := .int (f1 i)) (by rw [nI_clamp (by omega)]) ?_
      refine xs_aload_n C0 d_Md_spread_74 rfl 0 rfl ?_
      refine xs_get (q := 36) (v := .ref 47) C0 f_Md_40 d_Md_spread_75 rfl rfl ?_
      refine xs_iload C0 d_Md_spread_78 4 rfl ?_
      refine xs_iald C0 d_Md_spread_80 rfl (vp_in_nI (n := i) (by omega) (by decide)) ?_
      refine xs_top (v' := .int (g1 i)) (by rw [nI_clamp (by omega)]) ?_
      refine xs_cS1 (ω' := (wd Q0 Q1 Q2 Q3 Q4 ql qr qk qo QS QT QF QH qt ++ (wM P0 (f1, g1, nI n1) (f2, g2, nI n2) (f3, g3, nI n3) P4 pl dr ki rl (ms, mc, mw, mb) cl (mh, m_row row (f1 i) (g1 i)) sl tk kp pa tr co ++ rest))) (av := [.ref 56, .int (f1 i), .int (g1 i)]) (st := []) (kc' := 0) (ks' := 0) (v := .int (m_fr row (f1 i) (g1 i))) C0 d_Md_spread_81 l_Md_129 (d_rchc (by assumption) (by assumption)) rfl rfl rfl (Nat.le_of_ble_eq_true rfl) (Nat.le_of_ble_eq_true rfl) (Nat.le_of_ble_eq_true rfl) (Nat.le_of_ble_eq_true rfl) (Nat.le_of_ble_eq_true rfl) (Nat.le_of_ble_eq_true rfl) ?_
      refine xs_if_ne (tgt := 92) C0 d_Md_spread_84 (by decide) (fun c_1 => ?_) (fun c_1 => ?_)
      · refine xs_iconst (v := 1) C0 d_Md_spread_92 (by decide) ?_
        refine xs_goto (tgt := 97) C0 d_Md_spread_93 (by decide) ?_
        refine xs_top (v' := .int (g_or (m_fr row (f1 i) (g1 i)) more)) (by rw [g_or_t c_1]) ?_
        refine xs_istore (lv' := [(4, .int (g_or (m_fr row (f1 i) (g1 i)) more)), (0, .ref 36), (1, .ref 56), (3, .int 1), (5, .int (nI i))]) C0 d_Md_spread_97 (by decide) rfl ?_
        refine xs_aload_n C0 d_Md_spread_99 rfl 2 rfl ?_
        refine xs_aload_n C0 d_Md_spread_100 rfl 1 rfl ?_
        refine xs_get (q := 36) (v := .ref 47) C0 f_Md_40 d_Md_spread_101 rfl rfl ?_
        refine xs_iload C0 d_Md_spread_104 4 rfl ?_
        refine xs_iald C0 d_Md_spread_106 rfl (vp_in_nI (n := i) (by omega) (by decide)) ?_
        refine xs_top (v' := .int (g1 i)) (by rw [nI_clamp (by omega)]) ?_
        refine xs_aload_n C0 d_Md_spread_107 rfl 1 rfl ?_
        refine xs_get (q := 36) (v := .ref 46) C0 f_Md_37 d_Md_spread_108 rfl rfl ?_
        refine xs_iload C0 d_Md_spread_111 4 rfl ?_
        refine xs_iald C0 d_Md_spread_113 rfl (vp_in_nI (n := i) (by omega) (by decide)) ?_
        refine xs_top (v' := .int (f1 i)) (by rw [nI_clamp (by omega)]) ?_
        refine xs_cS1 (ω' := (wd Q0 Q1 Q2 Q3 Q4 ql qr qk qo QS QT QF QH qt ++ (wM P0 (f1, g1, nI n1) (f2, g2, nI n2) (f3, g3, nI n3) P4 pl dr ki rl (ms, mc, mw, mb) cl (mh, m_row (m_row row (f1 i) (g1 i)) (g1 i) (f1 i)) sl tk kp pa tr co ++ rest))) (av := [.ref 56, .int (g1 i), .int (f1 i)]) (st := []) (kc' := 0) (ks' := 0) (v := .int (m_fr (m_row row (f1 i) (g1 i)) (g1 i) (f1 i))) C0 d_Md_spread_114 l_Md_129 (d_rchc (by assumption) (by assumption)) rfl rfl rfl (Nat.le_of_ble_eq_true rfl) (Nat.le_of_ble_eq_true rfl) (Nat.le_of_ble_eq_true rfl) (Nat.le_of_ble_eq_true rfl) (Nat.le_of_ble_eq_true rfl) (Nat.le_of_ble_eq_true rfl) ?_
        refine xs_pc (pc' := 117) rfl ?_
        refine xs_if_ne (tgt := 125) C0 d_Md_spread_117 (by decide) (fun c_2 => ?_) (fun c_2 => ?_)
        · refine xs_iconst (v := 1) C0 d_Md_spread_125 (by decide) ?_
          refine xs_goto (tgt := 130) C0 d_Md_spread_126 (by decide) ?_
          refine xs_top (v' := .int (g_or (m_fr (m_row row (f1 i) (g1 i)) (g1 i) (f1 i)) (g_or (m_fr row (f1 i) (g1 i)) more))) (by rw [g_or_t c_2]) ?_
          refine xs_istore (lv' := [(4, .int (g_or (m_fr (m_row row (f1 i) (g1 i)) (g1 i) (f1 i)) (g_or (m_fr row (f1 i) (g1 i)) more))), (0, .ref 36), (1, .ref 56), (3, .int 1), (5, .int (nI i))]) C0 d_Md_spread_130 (by decide) rfl ?_
          refine xs_iinc (v := nI (i + 1)) (lv' := [(5, .int (nI (i + 1))), (4, .int (g_or (m_fr (m_row row (f1 i) (g1 i)) (g1 i) (f1 i)) (g_or (m_fr row (f1 i) (g1 i)) more))), (0, .ref 36), (1, .ref 56), (3, .int 1)]) C0 d_Md_spread_132 4 rfl (by rw [← nI_1]; rfl) (by decide) rfl ?_
          refine xs_goto (tgt := 45) C0 d_Md_spread_135 (by decide) ?_
          refine xs_lv (lv' := [(0, .ref 36), (1, .ref 56), (3, .int 1), (4, .int (g_or (m_fr (m_row row (f1 i) (g1 i)) (g1 i) (f1 i)) (g_or (m_fr row (f1 i) (g1 i)) more))), (5, .int (nI (i + 1)))]) [2, 3, 4, 1, 0] rfl ?_
          exact ih (i + 1) _ _ (by omega) hs2
        · refine xs_iload C0 d_Md_spread_120 0 rfl ?_
          refine xs_bz_eq (u := 1) (v := 0) (tgt := 129) (J := 130) C0 d_Md_spread_122 (by decide) d_Md_spread_125 (by decide) d_Md_spread_126 (by decide) d_Md_spread_129 (by decide) rfl ?_
          refine xs_top (v' := .int (g_or (m_fr (m_row row (f1 i) (g1 i)) (g1 i) (f1 i)) (g_or (m_fr row (f1 i) (g1 i)) more))) (by rw [g_or_f c_2]) ?_
          refine xs_istore (lv' := [(4, .int (g_or (m_fr (m_row row (f1 i) (g1 i)) (g1 i) (f1 i)) (g_or (m_fr row (f1 i) (g1 i)) more))), (0, .ref 36), (1, .ref 56), (3, .int 1), (5, .int (nI i))]) C0 d_Md_spread_130 (by decide) rfl ?_
          refine xs_iinc (v := nI (i + 1)) (lv' := [(5, .int (nI (i + 1))), (4, .int (g_or (m_fr (m_row row (f1 i) (g1 i)) (g1 i) (f1 i)) (g_or (m_fr row (f1 i) (g1 i)) more))), (0, .ref 36), (1, .ref 56), (3, .int 1)]) C0 d_Md_spread_132 4 rfl (by rw [← nI_1]; rfl) (by decide) rfl ?_
          refine xs_goto (tgt := 45) C0 d_Md_spread_135 (by decide) ?_
          refine xs_lv (lv' := [(0, .ref 36), (1, .ref 56), (3, .int 1), (4, .int (g_or (m_fr (m_row row (f1 i) (g1 i)) (g1 i) (f1 i)) (g_or (m_fr row (f1 i) (g1 i)) more))), (5, .int (nI (i + 1)))]) [2, 3, 4, 1, 0] rfl ?_
          exact ih (i + 1) _ _ (by omega) hs2
      · refine xs_iload C0 d_Md_spread_87 3 rfl ?_
        refine xs_bz_eq (u := 1) (v := 0) (tgt := 96) (J := 97) C0 d_Md_spread_89 (by decide) d_Md_spread_92 (by decide) d_Md_spread_93 (by decide) d_Md_spread_96 (by decide) rfl ?_
        refine xs_top (v' := .int (g_or (m_fr row (f1 i) (g1 i)) more)) (by rw [g_or_f c_1]) ?_
        refine xs_istore (lv' := [(4, .int (g_or (m_fr row (f1 i) (g1 i)) more)), (0, .ref 36), (1, .ref 56), (3, .int 1), (5, .int (nI i))]) C0 d_Md_spread_97 (by decide) rfl ?_
        refine xs_aload_n C0 d_Md_spread_99 rfl 2 rfl ?_
        refine xs_aload_n C0 d_Md_spread_100 rfl 1 rfl ?_
        refine xs_get (q := 36) (v := .ref 47) C0 f_Md_40 d_Md_spread_101 rfl rfl ?_
        refine xs_iload C0 d_Md_spread_104 4 rfl ?_
        refine xs_iald C0 d_Md_spread_106 rfl (vp_in_nI (n := i) (by omega) (by decide)) ?_
        refine xs_top (v' := .int (g1 i)) (by rw [nI_clamp (by omega)]) ?_
        refine xs_aload_n C0 d_Md_spread_107 rfl 1 rfl ?_
        refine xs_get (q := 36) (v := .ref 46) C0 f_Md_37 d_Md_spread_108 rfl rfl ?_
        refine xs_iload C0 d_Md_spread_111 4 rfl ?_
        refine xs_iald C0 d_Md_spread_113 rfl (vp_in_nI (n := i) (by omega) (by decide)) ?_
        refine xs_top (v' := .int (f1 i)) (by rw [nI_clamp (by omega)]) ?_
        refine xs_cS1 (ω' := (wd Q0 Q1 Q2 Q3 Q4 ql qr qk qo QS QT QF QH qt ++ (wM P0 (f1, g1, nI n1) (f2, g2, nI n2) (f3, g3, nI n3) P4 pl dr ki rl (ms, mc, mw, mb) cl (mh, m_row (m_row row (f1 i) (g1 i)) (g1 i) (f1 i)) sl tk kp pa tr co ++ rest))) (av := [.ref 56, .int (g1 i), .int (f1 i)]) (st := []) (kc' := 0) (ks' := 0) (v := .int (m_fr (m_row row (f1 i) (g1 i)) (g1 i) (f1 i))) C0 d_Md_spread_114 l_Md_129 (d_rchc (by assumption) (by assumption)) rfl rfl rfl (Nat.le_of_ble_eq_true rfl) (Nat.le_of_ble_eq_true rfl) (Nat.le_of_ble_eq_true rfl) (Nat.le_of_ble_eq_true rfl) (Nat.le_of_ble_eq_true rfl) (Nat.le_of_ble_eq_true rfl) ?_
        refine xs_pc (pc' := 117) rfl ?_
        refine xs_if_ne (tgt := 125) C0 d_Md_spread_117 (by decide) (fun c_3 => ?_) (fun c_3 => ?_)
        · refine xs_iconst (v := 1) C0 d_Md_spread_125 (by decide) ?_
          refine xs_goto (tgt := 130) C0 d_Md_spread_126 (by decide) ?_
          refine xs_top (v' := .int (g_or (m_fr (m_row row (f1 i) (g1 i)) (g1 i) (f1 i)) (g_or (m_fr row (f1 i) (g1 i)) more))) (by rw [g_or_t c_3]) ?_
          refine xs_istore (lv' := [(4, .int (g_or (m_fr (m_row row (f1 i) (g1 i)) (g1 i) (f1 i)) (g_or (m_fr row (f1 i) (g1 i)) more))), (0, .ref 36), (1, .ref 56), (3, .int 1), (5, .int (nI i))]) C0 d_Md_spread_130 (by decide) rfl ?_
          refine xs_iinc (v := nI (i + 1)) (lv' := [(5, .int (nI (i + 1))), (4, .int (g_or (m_fr (m_row row (f1 i) (g1 i)) (g1 i) (f1 i)) (g_or (m_fr row (f1 i) (g1 i)) more))), (0, .ref 36), (1, .ref 56), (3, .int 1)]) C0 d_Md_spread_132 4 rfl (by rw [← nI_1]; rfl) (by decide) rfl ?_
          refine xs_goto (tgt := 45) C0 d_Md_spread_135 (by decide) ?_
          refine xs_lv (lv' := [(0, .ref 36), (1, .ref 56), (3, .int 1), (4, .int (g_or (m_fr (m_row row (f1 i) (g1 i)) (g1 i) (f1 i)) (g_or (m_fr row (f1 i) (g1 i)) more))), (5, .int (nI (i + 1)))]) [2, 3, 4, 1, 0] rfl ?_
          exact ih (i + 1) _ _ (by omega) hs2
        · refine xs_iload C0 d_Md_spread_120 0 rfl ?_
          refine xs_bz_eq (u := 1) (v := 0) (tgt := 129) (J := 130) C0 d_Md_spread_122 (by decide) d_Md_spread_125 (by decide) d_Md_spread_126 (by decide) d_Md_spread_129 (by decide) rfl ?_
          refine xs_top (v' := .int (g_or (m_fr (m_row row (f1 i) (g1 i)) (g1 i) (f1 i)) (g_or (m_fr row (f1 i) (g1 i)) more))) (by rw [g_or_f c_3]) ?_
          refine xs_istore (lv' := [(4, .int (g_or (m_fr (m_row row (f1 i) (g1 i)) (g1 i) (f1 i)) (g_or (m_fr row (f1 i) (g1 i)) more))), (0, .ref 36), (1, .ref 56), (3, .int 1), (5, .int (nI i))]) C0 d_Md_spread_130 (by decide) rfl ?_
          refine xs_iinc (v := nI (i + 1)) (lv' := [(5, .int (nI (i + 1))), (4, .int (g_or (m_fr (m_row row (f1 i) (g1 i)) (g1 i) (f1 i)) (g_or (m_fr row (f1 i) (g1 i)) more))), (0, .ref 36), (1, .ref 56), (3, .int 1)]) C0 d_Md_spread_132 4 rfl (by rw [← nI_1]; rfl) (by decide) rfl ?_
          refine xs_goto (tgt := 45) C0 d_Md_spread_135 (by decide) ?_
          refine xs_lv (lv' := [(0, .ref 36), (1, .ref 56), (3, .int 1), (4, .int (g_or (m_fr (m_row row (f1 i) (g1 i)) (g1 i) (f1 i)) (g_or (m_fr row (f1 i) (g1 i)) more))), (5, .int (nI (i + 1)))]) [2, 3, 4, 1, 0] rfl ?_
          exact ih (i + 1) _ _ (by omega) hs2
    · refine xs_goto (tgt := 132) C0 d_Md_spread_63 (by decide) ?_
      refine xs_iinc (v := nI (i + 1)) (lv' := [(5, .int (nI (i + 1))), (0, .ref 36), (1, .ref 56), (3, .int 1), (4, .int more)]) C0 d_Md_spread_132 4 rfl (by rw [← nI_1]; rfl) (by decide) rfl ?_
      refine xs_goto (tgt := 45) C0 d_Md_spread_135 (by decide) ?_
      refine xs_lv (lv' := [(0, .ref 36), (1, .ref 56), (3, .int 1), (4, .int more), (5, .int (nI (i + 1)))]) [1, 2, 3, 4, 0] rfl ?_
      exact ih (i + 1) _ _ (by omega) (hI.mono (fun x y h => e_c_n c1 h))
set_option maxHeartbeats 4000000 in
set_option maxRecDepth 100000 in
theorem lp_s2c {Q0 Q1 Q2 Q3 Q4 : wt_P} {ql qr qk qo : Nat → Int32} {QS QT : wt_S} {QF : wt_F} {QH : wt_H} {qt : Int32} {P0 : wt_P} {f1 g1 : Nat → Int32} {n1 : Nat} {f2 g2 : Nat → Int32} {n2 : Nat} {f3 g3 : Nat → Int32} {n3 : Nat} {P4 : wt_P} {pl dr ki rl : Nat → Int32} {ms mc mw : Nat → Int32} {mb : Int32} {cl : Nat → Int32} {mh : Nat → Int32} {sl tk : Int32} {kp : mt_K} {pa : Nat → Int32} {tr : mt_T} {co : Int32} {rest : xm_O} {a : Nat} {og row0 : Nat → Int32} {E : xm_X} {Q : State → Prop} (C0 : xm_C E y_Md_spread.cls b_Md_spread 6 none [] y_Md_spread.name (xm_rm 1 0 0)) (h1 : n1 ≤ 64) (h2 : n2 ≤ 12) (h3 : n3 ≤ 24) (hp1 : okP (f1, g1, nI n1) n1) (hp2 : okP (f2, g2, nI n2) n2) (hp3 : okP (f3, g3, nI n3) n3) (hrl : ∀ c, c < n1 → ¬ ki c = 4 → vp_in (rl c) 16) (kx : ∀ (row : Nat → Int32) (more : Int32), m_inv (m_e (f1, g1, nI n1) (f2, g2, nI n2) ki rl ms cl n1 n2 n3 g3 f3) a og row0 (fun x y => e_c f1 g1 ki rl ms n1 x y ∨ e_k f2 g2 cl n2 x y) row more → xm_W E 6 Q 0 0 (wd Q0 Q1 Q2 Q3 Q4 ql qr qk qo QS QT QF QH qt ++ (wM P0 (f1, g1, nI n1) (f2, g2, nI n2) (f3, g3, nI n3) P4 pl dr ki rl (ms, mc, mw, mb) cl (mh, row) sl tk kp pa tr co ++ rest)) 235 [(0, .ref 36), (1, .ref 56), (3, .int 1), (4, .int more)] []) : ∀ j : Nat, ∀ (i : Nat) (row : Nat → Int32) (more : Int32), i + j = n2 → m_inv (m_e (f1, g1, nI n1) (f2, g2, nI n2) ki rl ms cl n1 n2 n3 g3 f3) a og row0 (fun x y => e_c f1 g1 ki rl ms n1 x y ∨ e_k f2 g2 cl i x y) row more → xm_W E 6 Q 0 0 (wd Q0 Q1 Q2 Q3 Q4 ql qr qk qo QS QT QF QH qt ++ (wM P0 (f1, g1, nI n1) (f2, g2, nI n2) (f3, g3, nI n3) P4 pl dr ki rl (ms, mc, mw, mb) cl (mh, row) sl tk kp pa tr co ++ rest)) 141 [(0, .ref 36), (1, .ref 56), (3, .int 1), (4, .int more), (5, .int (nI i))] [] := by
  intro j
  induction j with
  | zero =>
    intro i row more hi hI
    have e : n2 = i := by omega
    subst e
    refine xs_iload C0 d_Md_spread_141 4 rfl ?_
    refine xs_aload_n C0 d_Md_spread_143 rfl 0 rfl ?_
    refine xs_get (q := 36) (v := .int (nI n2)) C0 f_Md_117 d_Md_spread_144 rfl rfl ?_
    refine xs_icmp_ge (tgt := 235) C0 d_Md_spread_147 (by decide) (fun _ => ?_) (fun c9 => absurd (nI_le (Nat.le_refl _) (by omega)) c9)
    refine xs_lv (lv' := [(0, .ref 36), (1, .ref 56), (3, .int 1), (4, .int more)]) [0, 1, 2, 3] rfl ?_
    exact kx row more hI
  | succ j ih =>
    intro i row more hi hI
    have hlt : i < n2 := by omega
    obtain ⟨ha1, ha2⟩ : vp_in (f2 i) 48 ∧ vp_in (g2 i) 48 := hp2 i hlt
    obtain ⟨x1, hx1, ex1⟩ := pl_node ha1
    obtain ⟨y1, hy1, ey1⟩ := pl_node ha2
    refine xs_iload C0 d_Md_spread_141 4 rfl ?_
    refine xs_aload_n C0 d_Md_spread_143 rfl 0 rfl ?_
    refine xs_get (q := 36) (v := .int (nI n2)) C0 f_Md_117 d_Md_spread_144 rfl rfl ?_
    refine xs_icmp_ge (tgt := 235) C0 d_Md_spread_147 (by decide) (fun c9 => absurd c9 (nI_ge hlt (by omega))) (fun _ => ?_)
    refine xs_aload_n C0 d_Md_spread_150 rfl 0 rfl ?_
    refine xs_get (q := 36) (v := .ref 50) C0 f_Md_49 d_Md_spread_151 rfl rfl ?_
    refine xs_iload C0 d_Md_spread_154 4 rfl ?_
    refine xs_zald C0 d_Md_spread_156 rfl (vp_in_nI (n := i) (by omega) (by decide)) ?_
    refine xs_top (v' := .int (cl i)) (by rw [nI_clamp (by omega)]) ?_
    refine xs_if_ne (tgt := 163) C0 d_Md_spread_157 (by decide) (fun c1 => ?_) (fun c1 => ?_)
    · have he : (m_e (f1, g1, nI n1) (f2, g2, nI n2) ki rl ms cl n1 n2 n3 g3 f3) x1 y1 := Or.inr (Or.inl ⟨hx1, hy1, i, hlt, c1, Or.inl ⟨ex1, ey1⟩⟩)
      have he2 : (m_e (f1, g1, nI n1) (f2, g2, nI n2) ki rl ms cl n1 n2 n3 g3 f3) y1 x1 := Or.inr (Or.inl ⟨hy1, hx1, i, hlt, c1, Or.inr ⟨ey1, ex1⟩⟩)
      have hs2 := (m_step (m_step hI hx1 hy1 he) hy1 hx1 he2).mono (D' := fun x y => e_c f1 g1 ki rl ms n1 x y ∨ e_k f2 g2 cl (i + 1) x y) (fun x y h => by rcases h with h | h; exact Or.inl (Or.inl (Or.inl h)); rcases e_k_s hx1 hy1 ex1 ey1 h with h | h | h; exact Or.inl (Or.inl (Or.inr h)); exact Or.inl (Or.inr h); exact Or.inr h)
      rw [← ex1, ← ey1] at hs2
      refine xs_aload_n C0 d_Md_spread_163 rfl 1 rfl ?_
      refine xs_aload_n C0 d_Md_spread_164 rfl 0 rfl ?_
      refine xs_get (q := 36) (v := .ref 48) C0 f_Md_43 d_Md_spread_165 rfl rfl ?_
      refine xs_iload C0 d_Md_spread_168 4 rfl ?_
      refine xs_iald C0 d_Md_spread_170 rfl (vp_in_nI (n := i) (by omega) (by decide)) ?_
      refine xs_top (v' := .int (f2 i)) (by rw [nI_clamp (by omega)]) ?_
      refine xs_aload_n C0 d_Md_spread_171 rfl 0 rfl ?_
      refine xs_get (q := 36) (v := .ref 49) C0 f_Md_46 d_Md_spread_172 rfl rfl ?_
      refine xs_iload C0 d_Md_spread_175 4 rfl ?_
      refine xs_iald C0 d_Md_spread_177 rfl (vp_in_nI (n := i) (by omega) (by decide)) ?_
      refine xs_top (v' := .int (g2 i)) (by rw [nI_clamp (by omega)]) ?_
      refine xs_cS1 (ω' := (wd Q0 Q1 Q2 Q3 Q4 ql qr qk qo QS QT QF QH qt ++ (wM P0 (f1, g1, nI n1) (f2, g2, nI n2) (f3, g3, nI n3) P4 pl dr ki rl (ms, mc, mw, mb) cl (mh, m_row row (f2 i) (g2 i)) sl tk kp pa tr co ++ rest))) (av := [.ref 56, .int (f2 i), .int (g2 i)]) (st := []) (kc' := 0) (ks' := 0) (v := .int (m_fr row (f2 i) (g2 i))) C0 d_Md_spread_178 l_Md_129 (d_rchc (by assumption) (by assumption)) rfl rfl rfl (Nat.le_of_ble_eq_true rfl) (Nat.le_of_ble_eq_true rfl) (Nat.le_of_ble_eq_true rfl) (Nat.le_of_ble_eq_true rfl) (Nat.le_of_ble_eq_true rfl) (Nat.le_of_ble_eq_true rfl) ?_
      refine xs_if_ne (tgt := 189) C0 d_Md_spread_181 (by decide) (fun c_1 => ?_) (fun c_1 => ?_)
      · refine xs_iconst (v := 1) C0 d_Md_spread_189 (by decide) ?_
        refine xs_goto (tgt := 194) C0 d_Md_spread_190 (by decide) ?_
        refine xs_top (v' := .int (g_or (m_fr row (f2 i) (g2 i)) more)) (by rw [g_or_t c_1]) ?_
        refine xs_istore (lv' := [(4, .int (g_or (m_fr row (f2 i) (g2 i)) more)), (0, .ref 36), (1, .ref 56), (3, .int 1), (5, .int (nI i))]) C0 d_Md_spread_194 (by decide) rfl ?_
        refine xs_aload_n C0 d_Md_spread_196 rfl 2 rfl ?_
        refine xs_aload_n C0 d_Md_spread_197 rfl 1 rfl ?_
        refine xs_get (q := 36) (v := .ref 49) C0 f_Md_46 d_Md_spread_198 rfl rfl ?_
        refine xs_iload C0 d_Md_spread_201 4 rfl ?_
        refine xs_iald C0 d_Md_spread_203 rfl (vp_in_nI (n := i) (by omega) (by decide)) ?_
        refine xs_top (v' := .int (g2 i)) (by rw [nI_clamp (by omega)]) ?_
        refine xs_aload_n C0 d_Md_spread_204 rfl 1 rfl ?_
        refine xs_get (q := 36) (v := .ref 48) C0 f_Md_43 d_Md_spread_205 rfl rfl ?_
        refine xs_iload C0 d_Md_spread_208 4 rfl ?_
        refine xs_iald C0 d_Md_spread_210 rfl (vp_in_nI (n := i) (by omega) (by decide)) ?_
        refine xs_top (v' := .int (f2 i)) (by rw [nI_clamp (by omega)]) ?_
        refine xs_cS1 (ω' := (wd Q0 Q1 Q2 Q3 Q4 ql qr qk qo QS QT QF QH qt ++ (wM P0 (f1, g1, nI n1) (f2, g2, nI n2) (f3, g3, nI n3) P4 pl dr ki rl (ms, mc, mw, mb) cl (mh, m_row (m_row row (f2 i) (g2 i)) (g2 i) (f2 i)) sl tk kp pa tr co ++ rest))) (av := [.ref 56, .int (g2 i), .int (f2 i)]) (st := []) (kc' := 0) (ks' := 0) (v := .int (m_fr (m_row row (f2 i) (g2 i)) (g2 i) (f2 i))) C0 d_Md_spread_211 l_Md_129 (d_rchc (by assumption) (by assumption)) rfl rfl rfl (Nat.le_of_ble_eq_true rfl) (Nat.le_of_ble_eq_true rfl) (Nat.le_of_ble_eq_true rfl) (Nat.le_of_ble_eq_true rfl) (Nat.le_of_ble_eq_true rfl) (Nat.le_of_ble_eq_true rfl) ?_
        refine xs_pc (pc' := 214) rfl ?_
        refine xs_if_ne (tgt := 222) C0 d_Md_spread_214 (by decide) (fun c_2 => ?_) (fun c_2 => ?_)
        · refine xs_iconst (v := 1) C0 d_Md_spread_222 (by decide) ?_
          refine xs_goto (tgt := 227) C0 d_Md_spread_223 (by decide) ?_
          refine xs_top (v' := .int (g_or (m_fr (m_row row (f2 i) (g2 i)) (g2 i) (f2 i)) (g_or (m_fr row (f2 i) (g2 i)) more))) (by rw [g_or_t c_2]) ?_
          refine xs_istore (lv' := [(4, .int (g_or (m_fr (m_row row (f2 i) (g2 i)) (g2 i) (f2 i)) (g_or (m_fr row (f2 i) (g2 i)) more))), (0, .ref 36), (1, .ref 56), (3, .int 1), (5, .int (nI i))]) C0 d_Md_spread_227 (by decide) rfl ?_
          refine xs_iinc (v := nI (i + 1)) (lv' := [(5, .int (nI (i + 1))), (4, .int (g_or (m_fr (m_row row (f2 i) (g2 i)) (g2 i) (f2 i)) (g_or (m_fr row (f2 i) (g2 i)) more))), (0, .ref 36), (1, .ref 56), (3, .int 1)]) C0 d_Md_spread_229 4 rfl (by rw [← nI_1]; rfl) (by decide) rfl ?_
          refine xs_goto (tgt := 141) C0 d_Md_spread_232 (by decide) ?_
          refine xs_lv (lv' := [(0, .ref 36), (1, .ref 56), (3, .int 1), (4, .int (g_or (m_fr (m_row row (f2 i) (g2 i)) (g2 i) (f2 i)) (g_or (m_fr row (f2 i) (g2 i)) more))), (5, .int (nI (i + 1)))]) [2, 3, 4, 1, 0] rfl ?_
          exact ih (i + 1) _ _ (by omega) hs2
        · refine xs_iload C0 d_Md_spread_217 0 rfl ?_
          refine xs_bz_eq (u := 1) (v := 0) (tgt := 226) (J := 227) C0 d_Md_spread_219 (by decide) d_Md_spread_222 (by decide) d_Md_spread_223 (by decide) d_Md_spread_226 (by decide) rfl ?_
          refine xs_top (v' := .int (g_or (m_fr (m_row row (f2 i) (g2 i)) (g2 i) (f2 i)) (g_or (m_fr row (f2 i) (g2 i)) more))) (by rw [g_or_f c_2]) ?_
          refine xs_istore (lv' := [(4, .int (g_or (m_fr (m_row row (f2 i) (g2 i)) (g2 i) (f2 i)) (g_or (m_fr row (f2 i) (g2 i)) more))), (0, .ref 36), (1, .ref 56), (3, .int 1), (5, .int (nI i))]) C0 d_Md_spread_227 (by decide) rfl ?_
          refine xs_iinc (v := nI (i + 1)) (lv' := [(5, .int (nI (i + 1))), (4, .int (g_or (m_fr (m_row row (f2 i) (g2 i)) (g2 i) (f2 i)) (g_or (m_fr row (f2 i) (g2 i)) more))), (0, .ref 36), (1, .ref 56), (3, .int 1)]) C0 d_Md_spread_229 4 rfl (by rw [← nI_1]; rfl) (by decide) rfl ?_
          refine xs_goto (tgt := 141) C0 d_Md_spread_232 (by decide) ?_
          refine xs_lv (lv' := [(0, .ref 36), (1, .ref 56), (3, .int 1), (4, .int (g_or (m_fr (m_row row (f2 i) (g2 i)) (g2 i) (f2 i)) (g_or (m_fr row (f2 i) (g2 i)) more))), (5, .int (nI (i + 1)))]) [2, 3, 4, 1, 0] rfl ?_
          exact ih (i + 1) _ _ (by omega) hs2
      · refine xs_iload C0 d_Md_spread_184 3 rfl ?_
        refine xs_bz_eq (u := 1) (v := 0) (tgt := 193) (J := 194) C0 d_Md_spread_186 (by decide) d_Md_spread_189 (by decide) d_Md_spread_190 (by decide) d_Md_spread_193 (by decide) rfl ?_
        refine xs_top (v' := .int (g_or (m_fr row (f2 i) (g2 i)) more)) (by rw [g_or_f c_1]) ?_
        refine xs_istore (lv' := [(4, .int (g_or (m_fr row (f2 i) (g2 i)) more)), (0, .ref 36), (1, .ref 56), (3, .int 1), (5, .int (nI i))]) C0 d_Md_spread_194 (by decide) rfl ?_
        refine xs_aload_n C0 d_Md_spread_196 rfl 2 rfl ?_
        refine xs_aload_n C0 d_Md_spread_197 rfl 1 rfl ?_
        refine xs_get (q := 36) (v := .ref 49) C0 f_Md_46 d_Md_spread_198 rfl rfl ?_
        refine xs_iload C0 d_Md_spread_201 4 rfl ?_
        refine xs_iald C0 d_Md_spread_203 rfl (vp_in_nI (n := i) (by omega) (by decide)) ?_
        refine xs_top (v' := .int (g2 i)) (by rw [nI_clamp (by omega)]) ?_
        refine xs_aload_n C0 d_Md_spread_204 rfl 1 rfl ?_
        refine xs_get (q := 36) (v := .ref 48) C0 f_Md_43 d_Md_spread_205 rfl rfl ?_
        refine xs_iload C0 d_Md_spread_208 4 rfl ?_
        refine xs_iald C0 d_Md_spread_210 rfl (vp_in_nI (n := i) (by omega) (by decide)) ?_
        refine xs_top (v' := .int (f2 i)) (by rw [nI_clamp (by omega)]) ?_
        refine xs_cS1 (ω' := (wd Q0 Q1 Q2 Q3 Q4 ql qr qk qo QS QT QF QH qt ++ (wM P0 (f1, g1, nI n1) (f2, g2, nI n2) (f3, g3, nI n3) P4 pl dr ki rl (ms, mc, mw, mb) cl (mh, m_row (m_row row (f2 i) (g2 i)) (g2 i) (f2 i)) sl tk kp pa tr co ++ rest))) (av := [.ref 56, .int (g2 i), .int (f2 i)]) (st := []) (kc' := 0) (ks' := 0) (v := .int (m_fr (m_row row (f2 i) (g2 i)) (g2 i) (f2 i))) C0 d_Md_spread_211 l_Md_129 (d_rchc (by assumption) (by assumption)) rfl rfl rfl (Nat.le_of_ble_eq_true rfl) (Nat.le_of_ble_eq_true rfl) (Nat.le_of_ble_eq_true rfl) (Nat.le_of_ble_eq_true rfl) (Nat.le_of_ble_eq_true rfl) (Nat.le_of_ble_eq_true rfl) ?_
        refine xs_pc (pc' := 214) rfl ?_
        refine xs_if_ne (tgt := 222) C0 d_Md_spread_214 (by decide) (fun c_3 => ?_) (fun c_3 => ?_)
        · refine xs_iconst (v := 1) C0 d_Md_spread_222 (by decide) ?_
          refine xs_goto (tgt := 227) C0 d_Md_spread_223 (by decide) ?_
          refine xs_top (v' := .int (g_or (m_fr (m_row row (f2 i) (g2 i)) (g2 i) (f2 i)) (g_or (m_fr row (f2 i) (g2 i)) more))) (by rw [g_or_t c_3]) ?_
          refine xs_istore (lv' := [(4, .int (g_or (m_fr (m_row row (f2 i) (g2 i)) (g2 i) (f2 i)) (g_or (m_fr row (f2 i) (g2 i)) more))), (0, .ref 36), (1, .ref 56), (3, .int 1), (5, .int (nI i))]) C0 d_Md_spread_227 (by decide) rfl ?_
          refine xs_iinc (v := nI (i + 1)) (lv' := [(5, .int (nI (i + 1))), (4, .int (g_or (m_fr (m_row row (f2 i) (g2 i)) (g2 i) (f2 i)) (g_or (m_fr row (f2 i) (g2 i)) more))), (0, .ref 36), (1, .ref 56), (3, .int 1)]) C0 d_Md_spread_229 4 rfl (by rw [← nI_1]; rfl) (by decide) rfl ?_
          refine xs_goto (tgt := 141) C0 d_Md_spread_232 (by decide) ?_
          refine xs_lv (lv' := [(0, .ref 36), (1, .ref 56), (3, .int 1), (4, .int (g_or (m_fr (m_row row (f2 i) (g2 i)) (g2 i) (f2 i)) (g_or (m_fr row (f2 i) (g2 i)) more))), (5, .int (nI (i + 1)))]) [2, 3, 4, 1, 0] rfl ?_
          exact ih (i + 1) _ _ (by omega) hs2
        · refine xs_iload C0 d_Md_spread_217 0 rfl ?_
          refine xs_bz_eq (u := 1) (v := 0) (tgt := 226) (J := 227) C0 d_Md_spread_219 (by decide) d_Md_spread_222 (by decide) d_Md_spread_223 (by decide) d_Md_spread_226 (by decide) rfl ?_
          refine xs_top (v' := .int (g_or (m_fr (m_row row (f2 i) (g2 i)) (g2 i) (f2 i)) (g_or (m_fr row (f2 i) (g2 i)) more))) (by rw [g_or_f c_3]) ?_
          refine xs_istore (lv' := [(4, .int (g_or (m_fr (m_row row (f2 i) (g2 i)) (g2 i) (f2 i)) (g_or (m_fr row (f2 i) (g2 i)) more))), (0, .ref 36), (1, .ref 56), (3, .int 1), (5, .int (nI i))]) C0 d_Md_spread_227 (by decide) rfl ?_
          refine xs_iinc (v := nI (i + 1)) (lv' := [(5, .int (nI (i + 1))), (4, .int (g_or (m_fr (m_row row (f2 i) (g2 i)) (g2 i) (f2 i)) (g_or (m_fr row (f2 i) (g2 i)) more))), (0, .ref 36), (1, .ref 56), (3, .int 1)]) C0 d_Md_spread_229 4 rfl (by rw [← nI_1]; rfl) (by decide) rfl ?_
          refine xs_goto (tgt := 141) C0 d_Md_spread_232 (by decide) ?_
          refine xs_lv (lv' := [(0, .ref 36), (1, .ref 56), (3, .int 1), (4, .int (g_or (m_fr (m_row row (f2 i) (g2 i)) (g2 i) (f2 i)) (g_or (m_fr row (f2 i) (g2 i)) more))), (5, .int (nI (i + 1)))]) [2, 3, 4, 1, 0] rfl ?_
          exact ih (i + 1) _ _ (by omega) hs2
    · refine xs_goto (tgt := 229) C0 d_Md_spread_160 (by decide) ?_
      refine xs_iinc (v := nI (i + 1)) (lv' := [(5, .int (nI (i + 1))), (0, .ref 36), (1, .ref 56), (3, .int 1), (4, .int more)]) C0 d_Md_spread_229 4 rfl (by rw [← nI_1]; rfl) (by decide) rfl ?_
      refine xs_goto (tgt := 141) C0 d_Md_spread_232 (by decide) ?_
      refine xs_lv (lv' := [(0, .ref 36), (1, .ref 56), (3, .int 1), (4, .int more), (5, .int (nI (i + 1)))]) [1, 2, 3, 4, 0] rfl ?_
      exact ih (i + 1) _ _ (by omega) (hI.mono (fun x y h => h.imp id (e_k_n c1)))
set_option maxHeartbeats 4000000 in
set_option maxRecDepth 100000 in
theorem lp_s3c {Q0 Q1 Q2 Q3 Q4 : wt_P} {ql qr qk qo : Nat → Int32} {QS QT : wt_S} {QF : wt_F} {QH : wt_H} {qt : Int32} {P0 : wt_P} {f1 g1 : Nat → Int32} {n1 : Nat} {f2 g2 : Nat → Int32} {n2 : Nat} {f3 g3 : Nat → Int32} {n3 : Nat} {P4 : wt_P} {pl dr ki rl : Nat → Int32} {ms mc mw : Nat → Int32} {mb : Int32} {cl : Nat → Int32} {mh : Nat → Int32} {sl tk : Int32} {kp : mt_K} {pa : Nat → Int32} {tr : mt_T} {co : Int32} {rest : xm_O} {a : Nat} {og row0 : Nat → Int32} {E : xm_X} {Q : State → Prop} (C0 : xm_C E y_Md_spread.cls b_Md_spread 6 none [] y_Md_spread.name (xm_rm 1 0 0)) (h1 : n1 ≤ 64) (h2 : n2 ≤ 12) (h3 : n3 ≤ 24) (hp1 : okP (f1, g1, nI n1) n1) (hp2 : okP (f2, g2, nI n2) n2) (hp3 : okP (f3, g3, nI n3) n3) (hrl : ∀ c, c < n1 → ¬ ki c = 4 → vp_in (rl c) 16) (kx : ∀ (row : Nat → Int32) (more : Int32), m_inv (m_e (f1, g1, nI n1) (f2, g2, nI n2) ki rl ms cl n1 n2 n3 g3 f3) a og row0 (fun x y => (e_c f1 g1 ki rl ms n1 x y ∨ e_k f2 g2 cl n2 x y) ∨ e_d g3 f3 n3 x y) row more → xm_W E 6 Q 0 0 (wd Q0 Q1 Q2 Q3 Q4 ql qr qk qo QS QT QF QH qt ++ (wM P0 (f1, g1, nI n1) (f2, g2, nI n2) (f3, g3, nI n3) P4 pl dr ki rl (ms, mc, mw, mb) cl (mh, row) sl tk kp pa tr co ++ rest)) 314 [(0, .ref 36), (1, .ref 56), (3, .int 1), (4, .int more)] []) : ∀ j : Nat, ∀ (i : Nat) (row : Nat → Int32) (more : Int32), i + j = n3 → m_inv (m_e (f1, g1, nI n1) (f2, g2, nI n2) ki rl ms cl n1 n2 n3 g3 f3) a og row0 (fun x y => (e_c f1 g1 ki rl ms n1 x y ∨ e_k f2 g2 cl n2 x y) ∨ e_d g3 f3 i x y) row more → xm_W E 6 Q 0 0 (wd Q0 Q1 Q2 Q3 Q4 ql qr qk qo QS QT QF QH qt ++ (wM P0 (f1, g1, nI n1) (f2, g2, nI n2) (f3, g3, nI n3) P4 pl dr ki rl (ms, mc, mw, mb) cl (mh, row) sl tk kp pa tr co ++ rest)) 238 [(0, .ref 36), (1, .ref 56), (3, .int 1), (4, .int more), (5, .int (nI i))] [] := by
  intro j
  induction j with
  | zero =>
    intro i row more hi hI
    have e : n3 = i := by omega
    subst e
    refine xs_iload C0 d_Md_spread_238 4 rfl ?_
    refine xs_aload_n C0 d_Md_spread_240 rfl 0 rfl ?_
    refine xs_get (q := 36) (v := .int (nI n3)) C0 f_Md_120 d_Md_spread_241 rfl rfl ?_
    refine xs_icmp_ge (tgt := 314) C0 d_Md_spread_244 (by decide) (fun _ => ?_) (fun c9 => absurd (nI_le (Nat.le_refl _) (by omega)) c9)
    refine xs_lv (lv' := [(0, .ref 36), (1, .ref 56), (3, .int 1), (4, .int more)]) [0, 1, 2, 3] rfl ?_
    exact kx row more hI
  | succ j ih =>
    intro i row more hi hI
    have hlt : i < n3 := by omega
    obtain ⟨ha1, ha2⟩ : vp_in (f3 i) 48 ∧ vp_in (g3 i) 48 := hp3 i hlt
    obtain ⟨x1, hx1, ex1⟩ := pl_node ha2
    obtain ⟨y1, hy1, ey1⟩ := pl_node ha1
    have he : (m_e (f1, g1, nI n1) (f2, g2, nI n2) ki rl ms cl n1 n2 n3 g3 f3) x1 y1 := Or.inr (Or.inr ⟨hx1, hy1, i, hlt, ex1, ey1⟩)
    have hs2 := (m_step hI hx1 hy1 he).mono (D' := fun x y => (e_c f1 g1 ki rl ms n1 x y ∨ e_k f2 g2 cl n2 x y) ∨ e_d g3 f3 (i + 1) x y) (fun x y h => by rcases h with h | h; exact Or.inl (Or.inl h); rcases e_d_s hx1 hy1 ex1 ey1 h with h | h; exact Or.inl (Or.inr h); exact Or.inr h)
    rw [← ex1, ← ey1] at hs2
    refine xs_iload C0 d_Md_spread_238 4 rfl ?_
    refine xs_aload_n C0 d_Md_spread_240 rfl 0 rfl ?_
    refine xs_get (q := 36) (v := .int (nI n3)) C0 f_Md_120 d_Md_spread_241 rfl rfl ?_
    refine xs_icmp_ge (tgt := 314) C0 d_Md_spread_244 (by decide) (fun c9 => absurd c9 (nI_ge hlt (by omega))) (fun _ => ?_)
    refine xs_iload_n C0 d_Md_spread_247 rfl 2 rfl ?_
    refine xs_if_eq (tgt := 275) C0 d_Md_spread_248 (by decide) (fun c9 => absurd c9 (by decide)) (fun _ => ?_)
    refine xs_aload_n C0 d_Md_spread_251 rfl 1 rfl ?_
    refine xs_aload_n C0 d_Md_spread_252 rfl 0 rfl ?_
    refine xs_get (q := 36) (v := .ref 52) C0 f_Md_56 d_Md_spread_253 rfl rfl ?_
    refine xs_iload C0 d_Md_spread_256 4 rfl ?_
    refine xs_iald C0 d_Md_spread_258 rfl (vp_in_nI (n := i) (by omega) (by decide)) ?_
    refine xs_top (v' := .int (g3 i)) (by rw [nI_clamp (by omega)]) ?_
    refine xs_aload_n C0 d_Md_spread_259 rfl 0 rfl ?_
    refine xs_pc (pc' := 260) rfl ?_
    refine xs_get (q := 36) (v := .ref 51) C0 f_Md_53 d_Md_spread_260 rfl rfl ?_
    refine xs_iload C0 d_Md_spread_263 4 rfl ?_
    refine xs_iald C0 d_Md_spread_265 rfl (vp_in_nI (n := i) (by omega) (by decide)) ?_
    refine xs_top (v' := .int (f3 i)) (by rw [nI_clamp (by omega)]) ?_
    refine xs_cS1 (ω' := (wd Q0 Q1 Q2 Q3 Q4 ql qr qk qo QS QT QF QH qt ++ (wM P0 (f1, g1, nI n1) (f2, g2, nI n2) (f3, g3, nI n3) P4 pl dr ki rl (ms, mc, mw, mb) cl (mh, m_row row (g3 i) (f3 i)) sl tk kp pa tr co ++ rest))) (av := [.ref 56, .int (g3 i), .int (f3 i)]) (st := []) (kc' := 0) (ks' := 0) (v := .int (m_fr row (g3 i) (f3 i))) C0 d_Md_spread_266 l_Md_129 (d_rchc (by assumption) (by assumption)) rfl rfl rfl (Nat.le_of_ble_eq_true rfl) (Nat.le_of_ble_eq_true rfl) (Nat.le_of_ble_eq_true rfl) (Nat.le_of_ble_eq_true rfl) (Nat.le_of_ble_eq_true rfl) (Nat.le_of_ble_eq_true rfl) ?_
    refine xs_if_eq (tgt := 296) C0 d_Md_spread_269 (by decide) (fun c_1 => ?_) (fun c_1 => ?_)
    · refine xs_iload C0 d_Md_spread_296 3 rfl ?_
      refine xs_bz_eq (u := 1) (v := 0) (tgt := 305) (J := 306) C0 d_Md_spread_298 (by decide) d_Md_spread_301 (by decide) d_Md_spread_302 (by decide) d_Md_spread_305 (by decide) rfl ?_
      refine xs_top (v' := .int (g_or (m_fr row (g3 i) (f3 i)) more)) (by rw [g_or_f c_1]) ?_
      refine xs_istore (lv' := [(4, .int (g_or (m_fr row (g3 i) (f3 i)) more)), (0, .ref 36), (1, .ref 56), (3, .int 1), (5, .int (nI i))]) C0 d_Md_spread_306 (by decide) rfl ?_
      refine xs_iinc (v := nI (i + 1)) (lv' := [(5, .int (nI (i + 1))), (4, .int (g_or (m_fr row (g3 i) (f3 i)) more)), (0, .ref 36), (1, .ref 56), (3, .int 1)]) C0 d_Md_spread_308 4 rfl (by rw [← nI_1]; rfl) (by decide) rfl ?_
      refine xs_goto (tgt := 238) C0 d_Md_spread_311 (by decide) ?_
      refine xs_lv (lv' := [(0, .ref 36), (1, .ref 56), (3, .int 1), (4, .int (g_or (m_fr row (g3 i) (f3 i)) more)), (5, .int (nI (i + 1)))]) [2, 3, 4, 1, 0] rfl ?_
      exact ih (i + 1) _ _ (by omega) hs2
    · refine xs_goto (tgt := 301) C0 d_Md_spread_272 (by decide) ?_
      refine xs_iconst (v := 1) C0 d_Md_spread_301 (by decide) ?_
      refine xs_goto (tgt := 306) C0 d_Md_spread_302 (by decide) ?_
      refine xs_top (v' := .int (g_or (m_fr row (g3 i) (f3 i)) more)) (by rw [g_or_t c_1]) ?_
      refine xs_istore (lv' := [(4, .int (g_or (m_fr row (g3 i) (f3 i)) more)), (0, .ref 36), (1, .ref 56), (3, .int 1), (5, .int (nI i))]) C0 d_Md_spread_306 (by decide) rfl ?_
      refine xs_iinc (v := nI (i + 1)) (lv' := [(5, .int (nI (i + 1))), (4, .int (g_or (m_fr row (g3 i) (f3 i)) more)), (0, .ref 36), (1, .ref 56), (3, .int 1)]) C0 d_Md_spread_308 4 rfl (by rw [← nI_1]; rfl) (by decide) rfl ?_
      refine xs_goto (tgt := 238) C0 d_Md_spread_311 (by decide) ?_
      refine xs_lv (lv' := [(0, .ref 36), (1, .ref 56), (3, .int 1), (4, .int (g_or (m_fr row (g3 i) (f3 i)) more)), (5, .int (nI (i + 1)))]) [2, 3, 4, 1, 0] rfl ?_
      exact ih (i + 1) _ _ (by omega) hs2
set_option maxHeartbeats 4000000 in
set_option maxRecDepth 100000 in
theorem lp_sc {Q0 Q1 Q2 Q3 Q4 : wt_P} {ql qr qk qo : Nat → Int32} {QS QT : wt_S} {QF : wt_F} {QH : wt_H} {qt : Int32} {P0 : wt_P} {f1 g1 : Nat → Int32} {n1 : Nat} {f2 g2 : Nat → Int32} {n2 : Nat} {f3 g3 : Nat → Int32} {n3 : Nat} {P4 : wt_P} {pl dr ki rl : Nat → Int32} {ms mc mw : Nat → Int32} {mb : Int32} {cl : Nat → Int32} {mh : Nat → Int32} {sl tk : Int32} {kp : mt_K} {pa : Nat → Int32} {tr : mt_T} {co : Int32} {rest : xm_O} {a : Nat} {og : Nat → Int32} {E : xm_X} {Q : State → Prop} (C0 : xm_C E y_Md_spread.cls b_Md_spread 6 none [] y_Md_spread.name (xm_rm 1 0 0)) (h1 : n1 ≤ 64) (h2 : n2 ≤ 12) (h3 : n3 ≤ 24) (hp1 : okP (f1, g1, nI n1) n1) (hp2 : okP (f2, g2, nI n2) n2) (hp3 : okP (f3, g3, nI n3) n3) (hrl : ∀ c, c < n1 → ¬ ki c = 4 → vp_in (rl c) 16) (ha : a < 48) (kx : xm_W E 6 Q 0 0 (wd Q0 Q1 Q2 Q3 Q4 ql qr qk qo QS QT QF QH qt ++ (wM P0 (f1, g1, nI n1) (f2, g2, nI n2) (f3, g3, nI n3) P4 pl dr ki rl (ms, mc, mw, mb) cl (mh, (rowR og (Rch (m_e (f1, g1, nI n1) (f2, g2, nI n2) ki rl ms cl n1 n2 n3 g3 f3) a))) sl tk kp pa tr co ++ rest)) 317 [] []) : ∀ j : Nat, ∀ (row : Nat → Int32) (more : Int32), ((more = 0 ∧ row = rowR og (Rch (m_e (f1, g1, nI n1) (f2, g2, nI n2) ki rl ms cl n1 n2 n3 g3 f3) a)) ∨ (more = 1 ∧ rowok (m_e (f1, g1, nI n1) (f2, g2, nI n2) ki rl ms cl n1 n2 n3 g3 f3) a og row ∧ zc row < j)) → xm_W E 6 Q 0 0 (wd Q0 Q1 Q2 Q3 Q4 ql qr qk qo QS QT QF QH qt ++ (wM P0 (f1, g1, nI n1) (f2, g2, nI n2) (f3, g3, nI n3) P4 pl dr ki rl (ms, mc, mw, mb) cl (mh, row) sl tk kp pa tr co ++ rest)) 34 [(0, .ref 36), (1, .ref 56), (3, .int 1), (4, .int more)] [] := by
  intro j
  induction j with
  | zero =>
    intro row more h0
    rcases h0 with h0 | h0
    · refine xs_iload C0 d_Md_spread_34 3 rfl ?_
      refine xs_if_eq (tgt := 317) C0 d_Md_spread_36 (by decide) (fun _ => ?_) (fun c9 => absurd h0.1 c9)
      refine xs_lv (lv' := []) [] rfl ?_
      rw [h0.2]
      exact kx
    · exact absurd h0.2.2 (Nat.not_lt_zero _)
  | succ j ih =>
    intro row more h0
    rcases h0 with h0 | h0
    · refine xs_iload C0 d_Md_spread_34 3 rfl ?_
      refine xs_if_eq (tgt := 317) C0 d_Md_spread_36 (by decide) (fun _ => ?_) (fun c9 => absurd h0.1 c9)
      refine xs_lv (lv' := []) [] rfl ?_
      rw [h0.2]
      exact kx
    · refine xs_iload C0 d_Md_spread_34 3 rfl ?_
      refine xs_if_eq (tgt := 317) C0 d_Md_spread_36 (by decide) (fun c9 => absurd (h0.1.symm.trans c9) (by decide)) (fun _ => ?_)
      refine xs_iconst (v := 0) C0 d_Md_spread_39 (by decide) ?_
      refine xs_istore (lv' := [(4, .int 0), (0, .ref 36), (1, .ref 56), (3, .int 1)]) C0 d_Md_spread_40 (by decide) rfl ?_
      refine xs_iconst (v := 0) C0 d_Md_spread_42 (by decide) ?_
      refine xs_istore (lv' := [(5, .int 0), (4, .int 0), (0, .ref 36), (1, .ref 56), (3, .int 1)]) C0 d_Md_spread_43 (by decide) rfl ?_
      refine xs_lv (lv' := [(0, .ref 36), (1, .ref 56), (3, .int 1), (4, .int 0), (5, .int 0)]) [2, 3, 4, 1, 0] rfl ?_
      refine lp_s1c (a := a) (og := og) (row0 := row) C0 h1 h2 h3 hp1 hp2 hp3 hrl (fun row1 more1 hI1 => ?_) n1 0 _ _ (by omega) (m_inv0 h0.2.1 (fun x y h => by obtain ⟨-, -, c, hc, -⟩ := h; omega))
      refine xs_iconst (v := 0) C0 d_Md_spread_138 (by decide) ?_
      refine xs_istore (lv' := [(5, .int 0), (0, .ref 36), (1, .ref 56), (3, .int 1), (4, .int more1)]) C0 d_Md_spread_139 (by decide) rfl ?_
      refine xs_lv (lv' := [(0, .ref 36), (1, .ref 56), (3, .int 1), (4, .int more1), (5, .int 0)]) [1, 2, 3, 4, 0] rfl ?_
      refine lp_s2c (a := a) (og := og) (row0 := row) C0 h1 h2 h3 hp1 hp2 hp3 hrl (fun row2 more2 hI2 => ?_) n2 0 _ _ (by omega) (hI1.mono (fun x y h => h.elim id (fun h => by obtain ⟨-, -, c, hc, -⟩ := h; omega)))
      refine xs_iconst (v := 0) C0 d_Md_spread_235 (by decide) ?_
      refine xs_istore (lv' := [(5, .int 0), (0, .ref 36), (1, .ref 56), (3, .int 1), (4, .int more2)]) C0 d_Md_spread_236 (by decide) rfl ?_
      refine xs_lv (lv' := [(0, .ref 36), (1, .ref 56), (3, .int 1), (4, .int more2), (5, .int 0)]) [1, 2, 3, 4, 0] rfl ?_
      refine lp_s3c (a := a) (og := og) (row0 := row) C0 h1 h2 h3 hp1 hp2 hp3 hrl (fun row3 more3 hI3 => ?_) n3 0 _ _ (by omega) (hI2.mono (fun x y h => h.elim id (fun h => by obtain ⟨-, -, c, hc, -⟩ := h; omega)))
      refine xs_goto (tgt := 34) C0 d_Md_spread_314 (by decide) ?_
      refine ih row3 more3 ?_
      rcases hI3.more01 with q | q
      · refine Or.inl ⟨q, ?_⟩
        rw [q] at hI3
        exact rowR_of hI3 ha (fun x y h => h.elim (fun h => Or.inl (Or.inl h)) (fun h => h.elim (fun h => Or.inl (Or.inr h)) Or.inr)) (fun x y h => h.elim (fun h => ⟨h.1, h.2.1⟩) (fun h => h.elim (fun h => ⟨h.1, h.2.1⟩) (fun h => ⟨h.1, h.2.1⟩)))
      · refine Or.inr ⟨q, hI3.1, ?_⟩
        rcases hI3.2 with w9 | w9
        · rw [q] at w9; exact absurd w9.1 (by decide)
        · have := w9.2; have := h0.2.2; omega
set_option maxHeartbeats 4000000 in
set_option maxRecDepth 100000 in
theorem lp_s0c {Q0 Q1 Q2 Q3 Q4 : wt_P} {ql qr qk qo : Nat → Int32} {QS QT : wt_S} {QF : wt_F} {QH : wt_H} {qt : Int32} {P0 : wt_P} {f1 g1 : Nat → Int32} {n1 : Nat} {f2 g2 : Nat → Int32} {n2 : Nat} {f3 g3 : Nat → Int32} {n3 : Nat} {P4 : wt_P} {pl dr ki rl : Nat → Int32} {ms mc mw : Nat → Int32} {mb : Int32} {cl : Nat → Int32} {mh : Nat → Int32} {sl tk : Int32} {kp : mt_K} {pa : Nat → Int32} {tr : mt_T} {co : Int32} {rest : xm_O} {a : Nat} {og : Nat → Int32} {E : xm_X} {Q : State → Prop} (C0 : xm_C E y_Md_spread.cls b_Md_spread 6 none [] y_Md_spread.name (xm_rm 1 0 0)) (ha : a < 48) (kx : xm_W E 6 Q 0 0 (wd Q0 Q1 Q2 Q3 Q4 ql qr qk qo QS QT QF QH qt ++ (wM P0 (f1, g1, nI n1) (f2, g2, nI n2) (f3, g3, nI n3) P4 pl dr ki rl (ms, mc, mw, mb) cl (mh, (r_0 og a 48)) sl tk kp pa tr co ++ rest)) 31 [(0, .ref 36), (1, .ref 56), (3, .int 1)] []) : ∀ j : Nat, ∀ (i : Nat), i + j = 48 → xm_W E 6 Q 0 0 (wd Q0 Q1 Q2 Q3 Q4 ql qr qk qo QS QT QF QH qt ++ (wM P0 (f1, g1, nI n1) (f2, g2, nI n2) (f3, g3, nI n3) P4 pl dr ki rl (ms, mc, mw, mb) cl (mh, (r_0 og a i)) sl tk kp pa tr co ++ rest)) 3 [(0, .ref 36), (1, .ref 56), (2, .int (nI a)), (3, .int 1), (4, .int (nI i))] [] := by
  intro j
  induction j with
  | zero =>
    intro i hi
    have e : 48 = i := by omega
    subst e
    refine xs_iload C0 d_Md_spread_3 4 rfl ?_
    refine xs_bipush (v := 48) C0 d_Md_spread_5 (by decide) ?_
    refine xs_icmp_ge (tgt := 31) C0 d_Md_spread_7 (by decide) (fun _ => ?_) (fun c9 => absurd (nI_le (Nat.le_refl 48) (by decide)) c9)
    refine xs_lv (lv' := [(0, .ref 36), (1, .ref 56), (3, .int 1)]) [0, 1, 3] rfl ?_
    exact kx
  | succ j ih =>
    intro i hi
    have hlt : i < 48 := by omega
    refine xs_iload C0 d_Md_spread_3 4 rfl ?_
    refine xs_bipush (v := 48) C0 d_Md_spread_5 (by decide) ?_
    refine xs_icmp_ge (tgt := 31) C0 d_Md_spread_7 (by decide) (fun c9 => absurd c9 (nI_ge (b := 48) hlt (by decide))) (fun _ => ?_)
    refine xs_aload_n C0 d_Md_spread_10 rfl 1 rfl ?_
    refine xs_iload C0 d_Md_spread_11 4 rfl ?_
    refine xs_iload C0 d_Md_spread_13 4 rfl ?_
    refine xs_iload_n C0 d_Md_spread_15 rfl 2 rfl ?_
    refine xs_bi_ne (u := 1) (v := 0) (tgt := 23) (J := 24) C0 d_Md_spread_16 (by decide) d_Md_spread_19 (by decide) d_Md_spread_20 (by decide) d_Md_spread_23 (by decide) rfl ?_
    refine xs_zast (ω' := (wd Q0 Q1 Q2 Q3 Q4 ql qr qk qo QS QT QF QH qt ++ (wM P0 (f1, g1, nI n1) (f2, g2, nI n2) (f3, g3, nI n3) P4 pl dr ki rl (ms, mc, mw, mb) cl (mh, upd (r_0 og a i) (nI i).toNatClampNeg (vp_nar .boolean (if (nI i) = (nI a) then 1 else 0))) sl tk kp pa tr co ++ rest))) C0 d_Md_spread_24 rfl (vp_in_nI (n := i) (by omega) (by decide)) rfl ?_
    refine xs_world (ω' := (wd Q0 Q1 Q2 Q3 Q4 ql qr qk qo QS QT QF QH qt ++ (wM P0 (f1, g1, nI n1) (f2, g2, nI n2) (f3, g3, nI n3) P4 pl dr ki rl (ms, mc, mw, mb) cl (mh, upd (r_0 og a i) i (vp_nar .boolean (if (nI i) = (nI a) then 1 else 0))) sl tk kp pa tr co ++ rest))) (by rw [nI_clamp (by omega)]) ?_
    refine xs_iinc (v := nI (i + 1)) (lv' := [(4, .int (nI (i + 1))), (0, .ref 36), (1, .ref 56), (2, .int (nI a)), (3, .int 1)]) C0 d_Md_spread_25 4 rfl (by rw [← nI_1]; rfl) (by decide) rfl ?_
    refine xs_goto (tgt := 3) C0 d_Md_spread_28 (by decide) ?_
    refine xs_lv (lv' := [(0, .ref 36), (1, .ref 56), (2, .int (nI a)), (3, .int 1), (4, .int (nI (i + 1)))]) [1, 2, 3, 4, 0] rfl ?_
    refine xs_world (ω' := (wd Q0 Q1 Q2 Q3 Q4 ql qr qk qo QS QT QF QH qt ++ (wM P0 (f1, g1, nI n1) (f2, g2, nI n2) (f3, g3, nI n3) P4 pl dr ki rl (ms, mc, mw, mb) cl (mh, (r_0 og a (i + 1))) sl tk kp pa tr co ++ rest))) (by rw [r_0_s og ha hlt]) ?_
    exact ih (i + 1) (by omega)
set_option maxHeartbeats 4000000 in
set_option maxRecDepth 100000 in
theorem d_sprc {Q0 Q1 Q2 Q3 Q4 : wt_P} {ql qr qk qo : Nat → Int32} {QS QT : wt_S} {QF : wt_F} {QH : wt_H} {qt : Int32} {P0 : wt_P} {f1 g1 : Nat → Int32} {n1 : Nat} {f2 g2 : Nat → Int32} {n2 : Nat} {f3 g3 : Nat → Int32} {n3 : Nat} {P4 : wt_P} {pl dr ki rl : Nat → Int32} {ms mc mw : Nat → Int32} {mb : Int32} {cl : Nat → Int32} {mh : Nat → Int32} {sl tk : Int32} {kp : mt_K} {pa : Nat → Int32} {tr : mt_T} {co : Int32} {rest : xm_O} {a : Nat} {og : Nat → Int32} (h1 : n1 ≤ 64) (h2 : n2 ≤ 12) (h3 : n3 ≤ 24) (hp1 : okP (f1, g1, nI n1) n1) (hp2 : okP (f2, g2, nI n2) n2) (hp3 : okP (f3, g3, nI n3) n3) (hrl : ∀ c, c < n1 → ¬ ki c = 4 → vp_in (rl c) 16) (ha : a < 48) : xm_M y_Md_spread (Cond.code y_Md_spread b_Md_spread 6 none) (xm_rm 1 0 0) [.ref 36, .ref 56, .int (nI a), .int 1] (wd Q0 Q1 Q2 Q3 Q4 ql qr qk qo QS QT QF QH qt ++ (wM P0 (f1, g1, nI n1) (f2, g2, nI n2) (f3, g3, nI n3) P4 pl dr ki rl (ms, mc, mw, mb) cl (mh, og) sl tk kp pa tr co ++ rest)) (xm_eq (.inl none) (wd Q0 Q1 Q2 Q3 Q4 ql qr qk qo QS QT QF QH qt ++ (wM P0 (f1, g1, nI n1) (f2, g2, nI n2) (f3, g3, nI n3) P4 pl dr ki rl (ms, mc, mw, mb) cl (mh, (rowR og (Rch (m_e (f1, g1, nI n1) (f2, g2, nI n2) ki rl ms cl n1 n2 n3 g3 f3) a))) sl tk kp pa tr co ++ rest))) := by
  refine xm_of (by decide) (Nat.le_of_ble_eq_true rfl) (fun E C0 => ?_)
  refine xs_eq (lv' := [(0, .ref 36), (1, .ref 56), (2, .int (nI a)), (3, .int 1)]) rfl rfl rfl ?_
  refine xs_iconst (v := 0) C0 d_Md_spread_0 (by decide) ?_
  refine xs_istore (lv' := [(4, .int 0), (0, .ref 36), (1, .ref 56), (2, .int (nI a)), (3, .int 1)]) C0 d_Md_spread_1 (by decide) rfl ?_
  refine xs_lv (lv' := [(0, .ref 36), (1, .ref 56), (2, .int (nI a)), (3, .int 1), (4, .int 0)]) [1, 2, 3, 4, 0] rfl ?_
  refine xs_world (ω' := (wd Q0 Q1 Q2 Q3 Q4 ql qr qk qo QS QT QF QH qt ++ (wM P0 (f1, g1, nI n1) (f2, g2, nI n2) (f3, g3, nI n3) P4 pl dr ki rl (ms, mc, mw, mb) cl (mh, (r_0 og a 0)) sl tk kp pa tr co ++ rest))) (by rw [r_0_0]) ?_
  refine lp_s0c C0 ha ?_ 48 0 (by omega)
  refine xs_iconst (v := 1) C0 d_Md_spread_31 (by decide) ?_
  refine xs_istore (lv' := [(4, .int 1), (0, .ref 36), (1, .ref 56), (3, .int 1)]) C0 d_Md_spread_32 (by decide) rfl ?_
  refine xs_lv (lv' := [(0, .ref 36), (1, .ref 56), (3, .int 1), (4, .int 1)]) [1, 2, 3, 0] rfl ?_
  refine lp_sc (a := a) (og := og) C0 h1 h2 h3 hp1 hp2 hp3 hrl ha ?_ 49 _ _ (Or.inr ⟨rfl, r_0_ok ha, zc_lt⟩)
  exact xs_vret C0 d_Md_spread_317 ⟨rfl, rfl⟩ (Nat.le_of_ble_eq_true rfl) (Nat.le_of_ble_eq_true rfl)
