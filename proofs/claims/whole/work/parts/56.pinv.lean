-- conditions of both, boards that grow, the start
theorem gw_nI {x : Int32} {n : Nat} (hn : n < 2 ^ 31) : gw x 0 (nI n) ↔ ∃ j, j ≤ n ∧ x = nI j := by
  constructor
  · intro h
    exact nI_of2 (nI_toInt hn) h.1 h.2
  · rintro ⟨j, hj, rfl⟩
    exact ⟨nI_pos (by omega), nI_le hj hn⟩
theorem nI_subn {n m : Nat} (h : m ≤ n) : nI n - nI m = nI (n - m) := by
  have e : nI n = nI (n - m) + nI m := by rw [nI_add, Nat.sub_add_cancel h]
  rw [e, Int32.add_sub_cancel]
theorem p_dialc {x q : Int32} {n : Nat} (hn : n ≤ 12) : (gw q 0 (nI n) ∧ gw x 0 (nI n - q)) ↔ ∃ fr m, x = nI fr ∧ q = nI m ∧ fr + m ≤ n := by
  constructor
  · rintro ⟨h1, h2⟩
    obtain ⟨m, hm, rfl⟩ := (gw_nI (by omega)).mp h1
    rw [nI_subn hm] at h2
    obtain ⟨fr, hf, rfl⟩ := (gw_nI (by omega)).mp h2
    exact ⟨fr, m, rfl, rfl, by omega⟩
  · rintro ⟨fr, m, rfl, rfl, h⟩
    refine ⟨(gw_nI (by omega)).mpr ⟨m, by omega, rfl⟩, ?_⟩
    rw [nI_subn (by omega)]
    exact (gw_nI (by omega)).mpr ⟨fr, by omega, rfl⟩
theorem p_dialc2 {x q : Int32} {n : Nat} (hn : n ≤ 12) : (gw x 0 (nI n) ∧ gw q 0 (nI n - x)) ↔ ∃ fr m, x = nI fr ∧ q = nI m ∧ fr + m ≤ n := by
  rw [p_dialc hn]
  constructor
  · rintro ⟨a, b, h1, h2, h⟩
    exact ⟨b, a, h2, h1, by omega⟩
  · rintro ⟨a, b, h1, h2, h⟩
    exact ⟨b, a, h2, h1, by omega⟩
theorem p_racec {y : Int32} {n : Nat} (hn : n ≤ 16) : gw y 0 (if nI n < 6 then nI n else 6) ↔ gw y 0 6 ∧ y ≤ nI n := by
  have h6 : (6 : Int32) = nI 6 := rfl
  rw [h6]
  by_cases h : nI n < nI 6
  · rw [if_pos h]
    have h2 := (nI_ltI (by omega) (by decide)).mp h
    constructor
    · intro q
      obtain ⟨j, hj, rfl⟩ := (gw_nI (by omega)).mp q
      exact ⟨(gw_nI (by decide)).mpr ⟨j, by omega, rfl⟩, nI_le hj (by omega)⟩
    · rintro ⟨q1, q2⟩
      exact ⟨q1.1, q2⟩
  · rw [if_neg h]
    have h2 : 6 ≤ n := Nat.le_of_not_lt (fun q => h ((nI_ltI (by omega) (by decide)).mpr q))
    constructor
    · intro q
      obtain ⟨j, hj, rfl⟩ := (gw_nI (by decide)).mp q
      exact ⟨q, nI_le (by omega) (by omega)⟩
    · exact fun q => q.1
theorem gw_lit {x : Int32} {m : Int32} (k : Nat) (hm : m = nI k) (hk : k < 2 ^ 31) (h : gw x 0 m) : ∃ j, j ≤ k ∧ x = nI j := (gw_nI hk).mp (hm ▸ h)
theorem gw_one {x : Int32} {m : Int32} (k : Nat) (hm : m = nI k) (hk : k < 2 ^ 31) (h : gw x 1 m) : ∃ j, j ≤ k ∧ x = nI j := by
  refine gw_lit k hm hk ⟨fun q => h.1 ?_, h.2⟩
  exact Int32.lt_of_lt_of_le q (by decide)
theorem p_swst {y : Int32} (h : ¬ gw y 0 3) : y.toInt < 0 ∨ 3 < y.toInt := by
  by_cases q : y.toInt < 0
  · exact Or.inl q
  · refine Or.inr (Classical.byContradiction (fun r => h ⟨fun h9 => q ?_, ?_⟩))
    · have := Int32.lt_iff_toInt_lt.mp h9
      simpa using this
    · refine Int32.le_iff_toInt_le.mpr ?_
      have e : (3 : Int32).toInt = 3 := by decide
      rw [e]; omega
theorem p_four {y : Int32} (h : gw y 0 3) : y = 0 ∨ y = 1 ∨ y = 2 ∨ y = 3 := by
  obtain ⟨j, hj, rfl⟩ := gw_lit 3 rfl (by decide) h
  rcases (show j = 0 ∨ j = 1 ∨ j = 2 ∨ j = 3 by omega) with rfl | rfl | rfl | rfl
  · exact Or.inl rfl
  · exact Or.inr (Or.inl rfl)
  · exact Or.inr (Or.inr (Or.inl rfl))
  · exact Or.inr (Or.inr (Or.inr rfl))
theorem p_seven {y : Int32} (h : gw y 0 6) : y = 0 ∨ y = 1 ∨ y = 2 ∨ y = 3 ∨ y = 4 ∨ y = 5 ∨ y = 6 := by
  obtain ⟨j, hj, rfl⟩ := gw_lit 6 rfl (by decide) h
  rcases (show j = 0 ∨ j = 1 ∨ j = 2 ∨ j = 3 ∨ j = 4 ∨ j = 5 ∨ j = 6 by omega) with rfl | rfl | rfl | rfl | rfl | rfl | rfl
  · exact Or.inl rfl
  · exact Or.inr (Or.inl rfl)
  · exact Or.inr (Or.inr (Or.inl rfl))
  · exact Or.inr (Or.inr (Or.inr (Or.inl rfl)))
  · exact Or.inr (Or.inr (Or.inr (Or.inr (Or.inl rfl))))
  · exact Or.inr (Or.inr (Or.inr (Or.inr (Or.inr (Or.inl rfl)))))
  · exact Or.inr (Or.inr (Or.inr (Or.inr (Or.inr (Or.inr rfl)))))
theorem p_swct {y : Int32} (h : ¬ gw y 0 6) : y.toInt < 0 ∨ 6 < y.toInt := by
  by_cases q : y.toInt < 0
  · exact Or.inl q
  · refine Or.inr (Classical.byContradiction (fun r => h ⟨fun h9 => q ?_, ?_⟩))
    · have := Int32.lt_iff_toInt_lt.mp h9
      simpa using this
    · refine Int32.le_iff_toInt_le.mpr ?_
      have e : (6 : Int32).toInt = 6 := by decide
      rw [e]; omega
-- boards that grow
theorem okFl_grow {B B' : wb} {F : wt_F} (h : okFl B F) (e : B'.2.1.2.2 + B'.2.2.1.2.2 + B'.2.2.2.1.2.2 = B.2.1.2.2 + B.2.2.1.2.2 + B.2.2.2.1.2.2 + 1) : okFl B' F := by
  rcases h with ⟨n, hn, q⟩ | ⟨S0, F0, q⟩
  · exact Or.inl ⟨n, by omega, q⟩
  · refine Or.inl ⟨B.2.1.2.2 + B.2.2.1.2.2 + B.2.2.2.1.2.2 + 1, by omega, ?_⟩
    have h1 : F.2.2.2.2.2.1 = (g_new B S0 F0).2.2.2.2.2.1 := by rw [q]; rfl
    rw [h1, p_mw, p_cc, nI_1]
/-- all that holds of both between calls -/
def pI (B : wb) (rl : Nat → Int32) (S : wt_S) (F : wt_F) (Z : mt_S) (cl : Nat → Int32) : Prop := okM B rl ∧ okO B rl ∧ okT B ∧ okFl B F ∧ pR B.1.2.2 S Z cl ∧ c01 cl
theorem pR_grow {n : Nat} {S : wt_S} {Z : mt_S} {cl : Nat → Int32} (h : pR n S Z cl) : pR (n + 1) S Z cl := by
  obtain ⟨r1, r2, r3, r4, r5, r6⟩ := h
  exact ⟨r1, r2, r3, r4, r5, fun r hr => ⟨(r6 r hr).1, (r6 r hr).2.1, fun q => (r6 r hr).2.2.1 (by omega), (r6 r hr).2.2.2⟩⟩
theorem pI_R {B : wb} {rl cl : Nat → Int32} {S : wt_S} {F : wt_F} {Z : mt_S} {a b u v : Int32} (h : pI B rl S F Z cl) (hi : B.1.2.2 < 16) (hg : g2 a b) (hu : gw u 1 9) (hv : gw v 1 9) : pI (b_addR B a b u v) rl S F Z cl := by
  obtain ⟨h1, h2, h3, h4, h5, h6⟩ := h
  refine ⟨⟨okB_addR h1.1 hi hg, h1.2⟩, h2, fun r hr => ?_, h4, pR_grow h5, h6⟩
  have hr' : r < B.1.2.2 + 1 := hr
  show (∃ q, q ≤ 9 ∧ upd B.2.2.2.2.2.1 B.1.2.2 u r = nI q) ∧ ∃ q, q ≤ 9 ∧ upd B.2.2.2.2.2.2.1 B.1.2.2 v r = nI q
  by_cases e : r = B.1.2.2
  · subst e
    rw [upd_at, upd_at]
    exact ⟨gw_one 9 rfl (by decide) hu, gw_one 9 rfl (by decide) hv⟩
  · rw [upd_ne _ _ e, upd_ne _ _ e]
    exact h3 r (by omega)
theorem pI_C {B : wb} {rl cl : Nat → Int32} {S : wt_S} {F : wt_F} {Z : mt_S} {a b u v : Int32} (h : pI B rl S F Z cl) (hi : B.2.1.2.2 < 64) (hu : gw u 0 4) (hv : u = 4 ∨ gw v 0 (nI B.1.2.2 - 1)) (hg : g2 a b) : pI (b_addC B u v a b) (upd rl B.2.1.2.2 v) S F Z cl := by
  obtain ⟨h1, h2, h3, h4, h5, h6⟩ := h
  refine ⟨okM_addC h1 hi hu hv hg, fun c hc => ?_, h3, okFl_grow h4 (by show B.2.1.2.2 + 1 + B.2.2.1.2.2 + B.2.2.2.1.2.2 = _; omega), h5, h6⟩
  have hc' : c < B.2.1.2.2 + 1 := hc
  show (upd B.2.2.2.2.2.2.2.1 B.2.1.2.2 u c = 4 → upd B.2.2.2.2.2.2.2.2 B.2.1.2.2 (if u = 4 then 0 else v) c = 0) ∧ (¬ upd B.2.2.2.2.2.2.2.1 B.2.1.2.2 u c = 4 → upd B.2.2.2.2.2.2.2.2 B.2.1.2.2 (if u = 4 then 0 else v) c = upd rl B.2.1.2.2 v c)
  by_cases e : c = B.2.1.2.2
  · subst e
    rw [upd_at, upd_at, upd_at]
    exact ⟨fun q => by rw [if_pos q], fun q => by rw [if_neg q]⟩
  · rw [upd_ne _ _ e, upd_ne _ _ e, upd_ne _ _ e]
    exact h2 c (by omega)
theorem pI_2 {B : wb} {rl cl : Nat → Int32} {S : wt_S} {F : wt_F} {Z : mt_S} {a b : Int32} (h : pI B rl S F Z cl) (hi : B.2.2.1.2.2 < 12) (hg : g2 a b) : pI (b_add2 B a b) rl S F Z cl := by
  obtain ⟨h1, h2, h3, h4, h5, h6⟩ := h
  exact ⟨⟨okB_add2 h1.1 hi hg, h1.2⟩, h2, h3, okFl_grow h4 (by show B.2.1.2.2 + (B.2.2.1.2.2 + 1) + B.2.2.2.1.2.2 = _; omega), h5, h6⟩
theorem pI_3 {B : wb} {rl cl : Nat → Int32} {S : wt_S} {F : wt_F} {Z : mt_S} {a b : Int32} (h : pI B rl S F Z cl) (hi : B.2.2.2.1.2.2 < 24) (hg : g2 a b) : pI (b_add3 B a b) rl S F Z cl := by
  obtain ⟨h1, h2, h3, h4, h5, h6⟩ := h
  exact ⟨⟨okB_add3 h1.1 hi hg, h1.2⟩, h2, h3, okFl_grow h4 (by show B.2.1.2.2 + B.2.2.1.2.2 + (B.2.2.2.1.2.2 + 1) = _; omega), h5, h6⟩
theorem pI_4 {B : wb} {rl cl : Nat → Int32} {S : wt_S} {F : wt_F} {Z : mt_S} {a b : Int32} (h : pI B rl S F Z cl) (hi : B.2.2.2.2.1.2.2 < 12) (hg : g2 a b) : pI (b_add4 B a b) rl S F Z cl := by
  obtain ⟨h1, h2, h3, h4, h5, h6⟩ := h
  exact ⟨⟨okB_add4 h1.1 hi hg, h1.2⟩, h2, h3, h4, h5, h6⟩
theorem pI_laf {B : wb} {rl cl : Nat → Int32} {S : wt_S} {F : wt_F} {Z : mt_S} (hc : mt_H) (h : pI B rl S F Z cl) : pI B rl (g_laf B S F).2.1 (g_laf B S F).2.2 (m_laf B rl cl Z hc).1 cl := by
  obtain ⟨h1, h2, h3, h4, h5, h6⟩ := h
  obtain ⟨q1, q2, q3⟩ := p_laf (hc := hc) h1 h2 h4 h5
  exact ⟨h1, h2, h3, q3, q2, h6⟩
theorem pI_fuse {B : wb} {rl cl : Nat → Int32} {S : wt_S} {F : wt_F} {Z : mt_S} (hc : mt_H) (h : pI B rl S F Z cl) : pI B rl (g_fuse B S F).1 (g_fuse B S F).2 (q_fuse B rl cl Z hc).1 cl := by
  have e : S.2.2.2.2.2.2 = Z.2.2.2 := h.2.2.2.2.1.2.2.2.1
  unfold g_fuse q_fuse
  by_cases q : S.2.2.2.2.2.2 = 0
  · rw [if_pos q, if_pos (e ▸ q)]; exact h
  · rw [if_neg q, if_neg (e ▸ q)]
    obtain ⟨h1, h2, h3, h4, ⟨r1, r2, r3, r4, r5, r6⟩, h6⟩ := h
    exact pI_laf hc ⟨h1, h2, h3, h4, ⟨r1, r2, r3, rfl, Or.inl rfl, r6⟩, h6⟩
theorem p_node2 (a b : Prop) [Decidable a] [Decidable b] : ((if a then (1 : Int32) else 0) ||| (if b then 2 else 0)) = (if a then 1 else 0) + (if b then 2 else 0) := by
  by_cases h : a <;> by_cases k : b <;> simp [h, k] <;> decide
theorem p_leads {B : wb} {rl cl : Nat → Int32} {S : wt_S} {F : wt_F} {Z : mt_S} (h : pI B rl S F Z cl) (og : Nat → Int32) {x y : Nat} (hx : x < 48) (hy : y < 48) : f_b64 (f_reach (g_fol B S F).1 (nI x)) (nI y) = rowR og (Rch (m_eh B rl Z.1 cl) x) y := by
  obtain ⟨h1, h2, h3, h4, h5, h6⟩ := h
  obtain ⟨f1, f2, f3, f4, f5, f6⟩ := p_fol h1 h2 h4 h5.2.1
  have a := f6 x y hx hy
  rw [rowR_1 hy]
  by_cases q : f_b64 (f_reach (g_fol B S F).1 (nI x)) (nI y) = 0
  · rw [q, if_pos ((rowR_0 hy).mpr (a.mp q))]
  · rw [if_neg (fun r => q (a.mpr ((rowR_0 hy).mp r)))]
    exact (f_b64_01 _ _).resolve_left q
theorem pI_fol {B : wb} {rl cl : Nat → Int32} {S : wt_S} {F : wt_F} {Z : mt_S} (h : pI B rl S F Z cl) : pI B rl S (g_fol B S F) Z cl := by
  obtain ⟨h1, h2, h3, h4, h5, h6⟩ := h
  exact ⟨h1, h2, h3, (p_fol h1 h2 h4 h5.2.1).1, h5, h6⟩
theorem pI_cur {B : wb} {rl cl : Nat → Int32} {S : wt_S} {F : wt_F} {Z : mt_S} (hc : mt_H) (P : wb_P) (hP : ∀ c, c < P.2.2 → vp_in (P.1 c) 48 ∧ vp_in (P.2.1 c) 48) (h : pI B rl S F Z cl) : (g_cur B P S F).1 = q_lit Z.2.2.2 (m_lay B rl Z.1 cl hc) P.1 P.2.1 P.2.2 ∧ pI B rl S (g_cur B P S F).2 Z cl := by
  obtain ⟨h1, h2, h3, h4, h5, h6⟩ := h
  obtain ⟨q1, q2⟩ := p_cur (hc := hc) P hP h1 h2 h4 h5
  exact ⟨q1, h1, h2, h3, q2, h5, h6⟩
