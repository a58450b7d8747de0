-- the moves of both
theorem upd_upd (f : Nat → Int32) (k : Nat) (a b : Int32) : upd (upd f k a) k b = upd f k b := by
  funext j; unfold upd; split <;> rfl
theorem upd_self (f : Nat → Int32) (k : Nat) {a : Int32} (h : f k = a) : upd f k a = f := by
  funext j; unfold upd; split
  · next e => subst e; exact h.symm
  · rfl
theorem upd_at (f : Nat → Int32) (k : Nat) (a : Int32) : upd f k a k = a := by unfold upd; simp
theorem upd_ne (f : Nat → Int32) {k j : Nat} (a : Int32) (h : ¬ j = k) : upd f k a j = f j := by unfold upd; simp [h]
theorem m_hold_set (Z : mt_S) (r a n s : Int32) : m_hold (m_set Z r a n) r s = m_set Z r s 0 := by
  unfold m_hold m_set
  rw [upd_upd, upd_upd]
theorem p_put {n0 r c : Nat} {S : wt_S} {Z : mt_S} {cl : Nat → Int32} {s : Int32} (hR : pR n0 S Z cl) (hr : r < 16) (hn : r < n0) (hs : s = 0 ∨ s = 1 ∨ s = 2 ∨ s = 3) (hc : c < 10) (h0 : s = 0 ∨ s = 2 → c = 0) : pR n0 (f_put S (nI r) s (nI c)) (m_set Z (nI r) s (nI c)) cl := by
  obtain ⟨r1, ⟨k1, k2, k3⟩, r3, r4, r5, r6⟩ := hR
  unfold f_put m_set
  rw [nI_clamp (show r < 2 ^ 31 by omega)]
  refine ⟨fun j hj => ?_, ⟨fun j hj => ?_, fun j hj => ?_, k3⟩, fun j hj => ?_, r4, r5, fun j hj => ?_⟩
  · dsimp only
    by_cases e : j = r
    · subst e; rw [upd_at, upd_at, upd_at, upd_at]; exact ⟨rfl, rfl, (r1 j hj).2.2⟩
    · rw [upd_ne _ _ e, upd_ne _ _ e, upd_ne _ _ e, upd_ne _ _ e]; exact r1 j hj
  · dsimp only
    rw [p_wb _ (show r < 32 by omega)]
    by_cases e : j = r
    · subst e; rw [if_pos rfl, upd_at]
      by_cases q : s = 2
      · simp [q]
      · simp [q]
    · rw [if_neg e, upd_ne _ _ e]; exact k1 j hj
  · dsimp only
    rw [p_wb _ (show r < 32 by omega)]
    by_cases e : j = r
    · subst e; rw [if_pos rfl, upd_at]
      by_cases q : s = 0
      · simp [q]
      · simp [q]
    · rw [if_neg e, upd_ne _ _ e]; exact k2 j hj
  · dsimp only
    rw [p_wb _ (show r < 32 by omega), if_neg (by omega)]
    exact r3 j hj
  · dsimp only
    by_cases e : j = r
    · subst e; rw [upd_at, upd_at]
      refine ⟨hs, fun h => ?_, fun h => ?_, c, hc, rfl⟩
      · rw [h0 h]; rfl
      · omega
    · rw [upd_ne _ _ e, upd_ne _ _ e]; exact r6 j hj
theorem p_wear {n0 r : Nat} {S : wt_S} {Z : mt_S} {cl : Nat → Int32} (hR : pR n0 S Z cl) (hr : r < 16) : pR n0 (f_wear S (nI r)) (m_wear Z (nI r)) cl := by
  obtain ⟨r1, r2, r3, r4, r5, r6⟩ := hR
  unfold f_wear m_wear
  rw [nI_clamp (show r < 2 ^ 31 by omega)]
  refine ⟨fun j hj => ?_, r2, r3, r4, r5, r6⟩
  dsimp only
  by_cases e : j = r
  · subst e; rw [upd_at, upd_at, (r1 j hj).2.2]; exact ⟨(r1 j hj).1, (r1 j hj).2.1, rfl⟩
  · rw [upd_ne _ _ e, upd_ne _ _ e]; exact r1 j hj
theorem m_set_self (Z : mt_S) {r : Nat} (hr : r < 16) {s n : Int32} (h1 : Z.1 r = s) (h2 : Z.2.1 r = n) : m_set Z (nI r) s n = Z := by
  unfold m_set
  rw [nI_clamp (show r < 2 ^ 31 by omega), upd_self _ _ h1, upd_self _ _ h2]
theorem m_chg_s {Z Z' : mt_S} {r : Nat} (hr : r < 16) (h : ¬ Z'.1 r = Z.1 r) : m_chg Z Z' (nI r) = 1 := by
  unfold m_chg
  rw [nI_clamp (show r < 2 ^ 31 by omega), if_neg h]
theorem m_chg_c {Z Z' : mt_S} {r : Nat} (hr : r < 16) (h : ¬ Z'.2.1 r = Z.2.1 r) : m_chg Z Z' (nI r) = 1 := by
  unfold m_chg
  rw [nI_clamp (show r < 2 ^ 31 by omega)]
  split <;> first | rfl | rw [if_pos h]
theorem m_chg_0 (Z : mt_S) (r : Int32) : m_chg Z Z r = 0 := by
  unfold m_chg
  rw [if_pos rfl, if_neg (fun h => h rfl)]
theorem m_set_at (Z : mt_S) {r : Nat} (hr : r < 16) (s n : Int32) : (m_set Z (nI r) s n).1 r = s ∧ (m_set Z (nI r) s n).2.1 r = n := by
  unfold m_set
  rw [nI_clamp (show r < 2 ^ 31 by omega)]
  exact ⟨upd_at _ _ _, upd_at _ _ _⟩
theorem m_wear_at (Z : mt_S) (r : Int32) (j : Nat) : (m_wear Z r).1 j = Z.1 j := rfl
theorem nI_succ_ne (c : Nat) (h : c < 100) : ¬ nI (c + 1) = nI c := fun e => by
  have := (nI_eq (by omega) (by omega)).mp e
  omega
theorem p_rise {n0 r q : Nat} {S : wt_S} {Z : mt_S} {cl : Nat → Int32} (hR : pR n0 S Z cl) (hr : r < 16) (hn : r < n0) (hq : q ≤ 10) (qd cur : Int32) (hcur : ¬ cur = 0) :
    (f_rise S (nI r) (nI q)).1 = (m_move Z (nI r) cur (nI q) qd).1 ∧ pR n0 (f_rise S (nI r) (nI q)).2 (m_move Z (nI r) cur (nI q) qd).2 cl := by
  have hR' := hR
  obtain ⟨r1, r2, r3, r4, r5, r6⟩ := hR
  obtain ⟨s1, s2, s3, c, hc, s4⟩ := r6 r hr
  have e1 := (r1 r hr).1
  have e2 := (r1 r hr).2.1
  unfold f_rise m_move m_next
  rw [if_neg hcur, nI_clamp (show r < 2 ^ 31 by omega), e1, e2, s4]
  dsimp only
  have hw : ∀ n a, m_wear (m_hold (m_set Z (nI r) a n) (nI r) 2) (nI r) = m_wear (m_set Z (nI r) 2 0) (nI r) := fun n a => by rw [m_hold_set]
  have up := p_wear (p_put (c := 0) hR' hr hn (Or.inr (Or.inr (Or.inl rfl))) (by decide) (fun _ => rfl)) hr
  rcases s1 with e | e | e | e
  · rw [e]
    have hc0 : c = 0 := by
      have h := s2 (Or.inl e)
      rw [s4, ← nI_0] at h
      exact (nI_eq (by omega) (by decide)).mp h
    subst hc0
    simp only [show ¬ (0 : Int32) = 2 by decide, show ¬ (0 : Int32) = 3 by decide, ↓reduceIte]
    unfold m_rise
    rw [nI_1]
    by_cases h : nI (0 + 1) < nI q
    · rw [if_pos h, if_neg (show ¬ nI q ≤ 1 from Int32.not_le.mpr h)]
      have hq2 := (nI_ltI (by decide) (by omega)).mp h
      exact ⟨(m_chg_s hr (by rw [(m_set_at Z hr 1 1).1, e]; decide)).symm, p_put (c := 0 + 1) hR' hr hn (Or.inr (Or.inl rfl)) (by omega) (by rintro (h | h) <;> exact absurd h (by decide))⟩
    · rw [if_neg h, if_pos (show nI q ≤ 1 from Int32.not_lt.mp h), hw]
      exact ⟨(m_chg_s hr (by rw [m_wear_at, (m_set_at Z hr 2 0).1, e]; decide)).symm, up⟩
  · rw [e]
    simp only [show ¬ (1 : Int32) = 2 by decide, show ¬ (1 : Int32) = 3 by decide, show ¬ (1 : Int32) = 0 by decide, ↓reduceIte]
    unfold m_rise
    rw [nI_1]
    by_cases h : nI (c + 1) < nI q
    · rw [if_pos h, if_neg (Int32.not_le.mpr h)]
      have hq2 := (nI_ltI (by omega) (by omega)).mp h
      exact ⟨(m_chg_c hr (by rw [(m_set_at Z hr 1 _).2, s4]; exact nI_succ_ne c (by omega))).symm, p_put (c := c + 1) hR' hr hn (Or.inr (Or.inl rfl)) (by omega) (by rintro (h | h) <;> exact absurd h (by decide))⟩
    · rw [if_neg h, if_pos (Int32.not_lt.mp h), hw]
      exact ⟨(m_chg_s hr (by rw [m_wear_at, (m_set_at Z hr 2 0).1, e]; decide)).symm, up⟩
  · rw [e]
    simp only [show ¬ (2 : Int32) = 0 by decide, show ¬ (2 : Int32) = 1 by decide, ↓reduceIte]
    have e9 : m_hold Z (nI r) 2 = Z := m_set_self Z hr e (s2 (Or.inr e))
    rw [e9]
    exact ⟨(m_chg_0 Z _).symm, hR'⟩
  · rw [e]
    simp only [show ¬ (3 : Int32) = 2 by decide, show ¬ (3 : Int32) = 0 by decide, show ¬ (3 : Int32) = 1 by decide, ↓reduceIte]
    exact ⟨(m_chg_s (Z' := m_set Z (nI r) 2 0) hr (by rw [(m_set_at Z hr 2 0).1, e]; decide)).symm, p_put (c := 0) hR' hr hn (Or.inr (Or.inr (Or.inl rfl))) (by decide) (fun _ => rfl)⟩
theorem p_fall {n0 r q : Nat} {S : wt_S} {Z : mt_S} {cl : Nat → Int32} (hR : pR n0 S Z cl) (hr : r < 16) (hn : r < n0) (hq : q ≤ 10) (qp cur : Int32) (hcur : cur = 0) :
    (f_fall S (nI r) (nI q)).1 = (m_move Z (nI r) cur qp (nI q)).1 ∧ pR n0 (f_fall S (nI r) (nI q)).2 (m_move Z (nI r) cur qp (nI q)).2 cl := by
  have hR' := hR
  obtain ⟨r1, r2, r3, r4, r5, r6⟩ := hR
  obtain ⟨s1, s2, s3, c, hc, s4⟩ := r6 r hr
  have e1 := (r1 r hr).1
  have e2 := (r1 r hr).2.1
  unfold f_fall m_move m_next
  rw [if_pos hcur, nI_clamp (show r < 2 ^ 31 by omega), e1, e2, s4]
  dsimp only
  have dn := p_put (c := 0) hR' hr hn (Or.inl rfl) (by decide) (fun _ => rfl)
  rcases s1 with e | e | e | e
  · rw [e]
    simp only [show ¬ (0 : Int32) = 2 by decide, show ¬ (0 : Int32) = 3 by decide, ↓reduceIte]
    have e9 : m_hold Z (nI r) 0 = Z := m_set_self Z hr e (s2 (Or.inl e))
    rw [e9]
    exact ⟨(m_chg_0 Z _).symm, hR'⟩
  · rw [e]
    simp only [show ¬ (1 : Int32) = 2 by decide, show ¬ (1 : Int32) = 3 by decide, show ¬ (1 : Int32) = 0 by decide, ↓reduceIte]
    exact ⟨(m_chg_s (Z' := m_set Z (nI r) 0 0) hr (by rw [(m_set_at Z hr 0 0).1, e]; decide)).symm, dn⟩
  · rw [e]
    have hc0 : c = 0 := by
      have h := s2 (Or.inr e)
      rw [s4, ← nI_0] at h
      exact (nI_eq (by omega) (by decide)).mp h
    subst hc0
    simp only [show ¬ (2 : Int32) = 0 by decide, show ¬ (2 : Int32) = 1 by decide, ↓reduceIte]
    unfold m_fall
    rw [nI_1]
    by_cases h : nI (0 + 1) < nI q
    · rw [if_pos h, if_pos (show (1 : Int32) < nI q from h)]
      have hq2 := (nI_ltI (by decide) (by omega)).mp h
      exact ⟨(m_chg_s hr (by rw [(m_set_at Z hr 3 1).1, e]; decide)).symm, p_put (c := 0 + 1) hR' hr hn (Or.inr (Or.inr (Or.inr rfl))) (by omega) (by rintro (h | h) <;> exact absurd h (by decide))⟩
    · rw [if_neg h, if_neg (show ¬ (1 : Int32) < nI q from h), m_hold_set]
      exact ⟨(m_chg_s hr (by rw [(m_set_at Z hr 0 0).1, e]; decide)).symm, dn⟩
  · rw [e]
    simp only [show ¬ (3 : Int32) = 2 by decide, show ¬ (3 : Int32) = 0 by decide, show ¬ (3 : Int32) = 1 by decide, ↓reduceIte]
    unfold m_fall
    rw [nI_1]
    by_cases h : nI (c + 1) < nI q
    · rw [if_pos h, if_pos h]
      have hq2 := (nI_ltI (by omega) (by omega)).mp h
      exact ⟨(m_chg_c hr (by rw [(m_set_at Z hr 3 _).2, s4]; exact nI_succ_ne c (by omega))).symm, p_put (c := c + 1) hR' hr hn (Or.inr (Or.inr (Or.inr rfl))) (by omega) (by rintro (h | h) <;> exact absurd h (by decide))⟩
    · rw [if_neg h, if_neg h, m_hold_set]
      exact ⟨(m_chg_s hr (by rw [(m_set_at Z hr 0 0).1, e]; decide)).symm, dn⟩
theorem p_more (sl : Int32) {r : Nat} (hr : r < 16) : (if ¬ f_hb sl (nI r) = 0 then (1 : Int32) else 0) = m_more sl (nI r) ∧ (m_more sl (nI r) = nI 0 ∨ m_more sl (nI r) = nI 1) := by
  have h01 : m_more sl (nI r) = 0 ∨ m_more sl (nI r) = 1 := by
    unfold m_more
    by_cases h : bI (sl >>> (nI r &&& 31)) 0 = true
    · refine Or.inr (pI_ext (fun j hj => ?_))
      rw [bI_and]
      by_cases e : j = 0
      · subst e; rw [h]; decide
      · rw [show bI 1 j = false by
          have : (1 : Int32).toBitVec = BitVec.twoPow 32 0 := by decide
          rw [bI, this, BitVec.getLsbD_twoPow]; simp; omega, Bool.and_false]
    · exact Or.inl ((pI_and1 _).mpr (Bool.eq_false_iff.mpr h))
  refine ⟨?_, h01⟩
  unfold f_hb
  show _ = _
  have e : (sl >>> (nI r &&& 31)) &&& 1 = m_more sl (nI r) := rfl
  rw [e]
  rcases h01 with h | h <;> rw [h] <;> decide
theorem g_or_comm (a b : Int32) : g_or a b = g_or b a := by
  unfold g_or
  by_cases h : a = 0 <;> by_cases k : b = 0 <;> simp [h, k]
/-- the times of the coils are from one to nine -/
def okT (B : wb) : Prop := ∀ r, r < B.1.2.2 → (∃ q, q ≤ 9 ∧ B.2.2.2.2.2.1 r = nI q) ∧ ∃ q, q ≤ 9 ∧ B.2.2.2.2.2.2.1 r = nI q
theorem p_mvs {B : wb} {cl : Nat → Int32} {S : wt_S} {Z : mt_S} {hc : mt_H} {fed sl c0 : Int32} (h16 : B.1.2.2 ≤ 16) (hT : okT B) (hR : pR B.1.2.2 S Z cl) (hfed : ∀ i, i < B.1.2.2 → (f_hb fed (nI i) = 0 ↔ m_cur Z.2.2.2 hc (B.1.1 i) (B.1.2.1 i) = 0)) :
    ∀ n, n ≤ B.1.2.2 → (g_mv B fed sl c0 S n).1 = (m_mvs B sl hc c0 Z n).1 ∧ pR B.1.2.2 (g_mv B fed sl c0 S n).2 (m_mvs B sl hc c0 Z n).2 cl
  | 0, _ => ⟨rfl, hR⟩
  | n + 1, hn => by
    obtain ⟨i1, i2⟩ := p_mvs (c0 := c0) (sl := sl) h16 hT hR hfed n (by omega)
    rw [g_mv, m_mvs]
    dsimp only
    rw [m_mvs_bl]
    have hmo := p_more sl (show n < 16 by omega)
    obtain ⟨⟨a, ha, ea⟩, ⟨b, hb, eb⟩⟩ := hT n (by omega)
    have key : (g_mv1 B fed sl (g_mv B fed sl c0 S n).2 n).1 = (m_move (m_mvs B sl hc c0 Z n).2 (nI n) (m_cur Z.2.2.2 hc (B.1.1 n) (B.1.2.1 n)) (B.2.2.2.2.2.1 n + m_more sl (nI n)) (B.2.2.2.2.2.2.1 n + m_more sl (nI n))).1 ∧ pR B.1.2.2 (g_mv1 B fed sl (g_mv B fed sl c0 S n).2 n).2 (m_move (m_mvs B sl hc c0 Z n).2 (nI n) (m_cur Z.2.2.2 hc (B.1.1 n) (B.1.2.1 n)) (B.2.2.2.2.2.1 n + m_more sl (nI n)) (B.2.2.2.2.2.2.1 n + m_more sl (nI n))).2 cl := by
      unfold g_mv1
      rw [hmo.1, ea, eb]
      obtain ⟨d, hd, ed⟩ : ∃ d, d ≤ 1 ∧ m_more sl (nI n) = nI d := hmo.2.elim (fun h => ⟨0, by decide, h⟩) (fun h => ⟨1, by decide, h⟩)
      rw [ed, nI_add, nI_add]
      by_cases h : f_hb fed (nI n) = 0
      · rw [if_pos h]
        exact p_fall i2 (by omega) (by omega) (by omega) _ _ ((hfed n (by omega)).mp h)
      · rw [if_neg h]
        exact p_rise i2 (by omega) (by omega) (by omega) _ _ (fun q => h ((hfed n (by omega)).mpr q))
    exact ⟨by rw [key.1, i1, g_or_comm], key.2⟩
theorem p_step {B : wb} {rl cl : Nat → Int32} {S : wt_S} {Z : mt_S} {F : wt_F} {hc : mt_H} (sl : Int32) (hM : okM B rl) (hO : okO B rl) (hT : okT B) (hF : okFl B F) (hR : pR B.1.2.2 S Z cl) :
    (g_step B sl S F).1 = (m_t1 B rl cl sl Z hc).1 ∧ pR B.1.2.2 (g_step B sl S F).2.1 (m_t1 B rl cl sl Z hc).2.1 cl ∧ okFl B (g_step B sl S F).2.2 := by
  obtain ⟨a1, a2, a3⟩ := p_laf (hc := hc) hM hO hF hR
  have hP := hM.1.1
  obtain ⟨b1, b2⟩ := p_cur (hc := hc) B.1 hP.2 hM hO a3 a2
  have h16 : B.1.2.2 ≤ 16 := hP.1
  unfold g_step m_t1
  dsimp only
  have hfed : ∀ i, i < B.1.2.2 → (f_hb (g_cur B B.1 (g_laf B S F).2.1 (g_laf B S F).2.2).1 (nI i) = 0 ↔ m_cur (m_laf B rl cl Z hc).1.2.2.2 (m_laf B rl cl Z hc).2 (B.1.1 i) (B.1.2.1 i) = 0) := fun i hi => by
    rw [b1, p_hb0 _ (show i < 32 by omega), q_lit_b _ _ _ _ _ (by omega)]
    rw [show (m_laf B rl cl Z hc).2 = m_lay B rl (m_laf B rl cl Z hc).1.1 cl hc from rfl]
    simp [hi]
  obtain ⟨c1, c2⟩ := p_mvs (sl := sl) (c0 := (g_laf B S F).1) h16 hT a2 hfed B.1.2.2 (Nat.le_refl _)
  rw [a1] at c1 c2 ⊢
  exact ⟨c1, c2, b2⟩
