-- following the board, the fuse, the currents
def okFl (B : wb) (F : wt_F) : Prop := (∃ n, n ≤ B.2.1.2.2 + B.2.2.1.2.2 + B.2.2.2.1.2.2 ∧ F.2.2.2.2.2.1 + 1 = nI n) ∨ ∃ S0 F0, F = f_fin (g_new B S0 F0)
theorem p_cc (B : wb) : f_cc (pw B.2.1) (pw B.2.2.1) (pw B.2.2.2.1) = nI (B.2.1.2.2 + B.2.2.1.2.2 + B.2.2.2.1.2.2) := by
  show nI _ + nI _ + nI _ = _
  rw [nI_add, nI_add]
theorem p_md {f g : Nat → Int32} {F : wt_F} : ∀ n, (f_jd f g F n).2.2 = F.2.2
  | 0 => rfl
  | n + 1 => p_md (f := f) (g := g) (F := F) n
theorem p_mk {f g : Nat → Int32} {cb : Int32} {F : wt_F} : ∀ n, (f_jk f g cb F n).2.2 = F.2.2
  | 0 => rfl
  | n + 1 => by
    rw [f_jk]
    split
    · exact p_mk n
    · exact p_mk (f := f) (g := g) (F := F) n
theorem p_mc {f g ki ow : Nat → Int32} {S : wt_S} {F : wt_F} : ∀ n, (f_jc f g ki ow S F n).2.2.2.2.2 = F.2.2.2.2.2
  | 0 => rfl
  | n + 1 => by
    rw [f_jc]
    split
    · exact p_mc n
    · exact p_mc (f := f) (g := g) (ki := ki) (ow := ow) (S := S) (F := F) n
theorem p_mw (B : wb) (S0 : wt_S) (F0 : wt_F) : (g_new B S0 F0).2.2.2.2.2 = (f_cc (pw B.2.1) (pw B.2.2.1) (pw B.2.2.2.1), S0.2.2.2.1, S0.2.2.2.2.1, S0.2.2.2.2.2.1) := by
  unfold g_new f_new
  rw [p_md, p_mk, p_mc]
theorem p_fol1 {B : wb} {rl : Nat → Int32} {S : wt_S} {F : wt_F} (hM : okM B rl) (hO : okO B rl) (hF : okFl B F) : ∃ S0 F0, g_fol B S F = f_fin (g_new B S0 F0) ∧ S0.2.2.2.1 = S.2.2.2.1 ∧ S0.2.2.2.2.1 = S.2.2.2.2.1 ∧ S0.2.2.2.2.2.1 = S.2.2.2.2.2.1 := by
  unfold g_fol f_fol
  by_cases hm : f_made F (f_cc (pw B.2.1) (pw B.2.2.1) (pw B.2.2.2.1)) S = 0
  · rw [if_pos hm]
    exact ⟨S, F, rfl, rfl, rfl, rfl⟩
  · rw [if_neg hm]
    unfold f_made at hm
    have hm' : F.2.2.2.2.2.1 = f_cc (pw B.2.1) (pw B.2.2.1) (pw B.2.2.2.1) ∧ F.2.2.2.2.2.2.1 = S.2.2.2.1 ∧ F.2.2.2.2.2.2.2.1 = S.2.2.2.2.1 ∧ F.2.2.2.2.2.2.2.2 = S.2.2.2.2.2.1 := by
      by_cases q : F.2.2.2.2.2.1 = f_cc (pw B.2.1) (pw B.2.2.1) (pw B.2.2.2.1) ∧ F.2.2.2.2.2.2.1 = S.2.2.2.1 ∧ F.2.2.2.2.2.2.2.1 = S.2.2.2.2.1 ∧ F.2.2.2.2.2.2.2.2 = S.2.2.2.2.2.1
      · exact q
      · rw [if_neg q] at hm; exact absurd rfl hm
    rcases hF with ⟨n, hn, e⟩ | ⟨S0, F0, e⟩
    · exfalso
      rw [hm'.1, p_cc, nI_1] at e
      have hB := hM.1
      have h1 : B.2.1.2.2 ≤ 64 := hB.2.1.1
      have h2 : B.2.2.1.2.2 ≤ 12 := hB.2.2.1.1
      have h3 : B.2.2.2.1.2.2 ≤ 24 := hB.2.2.2.1.1
      have := (nI_eq (by omega) (by omega)).mp e
      omega
    · refine ⟨S0, F0, e, ?_⟩
      have hw := p_mw B S0 F0
      have h1 : F.2.2.2.2.2 = (g_new B S0 F0).2.2.2.2.2 := by rw [e]; rfl
      rw [hw] at h1
      rw [h1] at hm'
      exact hm'.2
theorem p_fol {B : wb} {rl st cl : Nat → Int32} {S : wt_S} {F : wt_F} (hM : okM B rl) (hO : okO B rl) (hF : okFl B F) (hk : pRk S.2.2.2.1 S.2.2.2.2.1 S.2.2.2.2.2.1 st cl) :
    okFl B (g_fol B S F) ∧ (∀ k, k < 48 → (f_b64 (g_fol B S F).2.2.1 (nI k) = 0 ↔ ¬ Rch (m_eh B rl st cl) 0 k)) ∧ (∀ k, k < 48 → (f_b64 (g_fol B S F).2.2.2.1 (nI k) = 0 ↔ ¬ Rch (m_ec B rl st cl) 1 k)) ∧ (g_fol B S F).2.2.2.2.1 = m_cnt B.2.2.2.2.2.2.2.1 rl st B.2.1.2.2 ∧ okF (g_fol B S F) ∧
      ∀ a k, a < 48 → k < 48 → (f_b64 (f_reach (g_fol B S F).1 (nI a)) (nI k) = 0 ↔ ¬ Rch (m_eh B rl st cl) a k) := by
  obtain ⟨S0, F0, e, e1, e2, e3⟩ := p_fol1 (S := S) hM hO hF
  rw [e]
  have hk0 : pRk S0.2.2.2.1 S0.2.2.2.2.1 S0.2.2.2.2.2.1 st cl := by rw [e1, e2, e3]; exact hk
  obtain ⟨q1, q2, q3, q4, q5⟩ := p_new (F := F0) hM hO hk0
  have hb : ∀ x k, k < 48 → (f_b64 x (nI k) = 0 ↔ ¬ bL x k = true) := fun x k hk => by rw [p_b640 x (show k < 64 by omega)]; exact Bool.eq_false_iff
  refine ⟨Or.inr ⟨S0, F0, rfl⟩, fun k hk => ?_, fun k hk => ?_, q3, q5, fun a k ha hk => ?_⟩
  · rw [hb _ k hk]
    refine not_congr ?_
    have h := p_reach q5.1 (show 0 < 48 by decide) k
    rw [Rch_congr q1] at h
    exact h
  · rw [hb _ k hk]
    refine not_congr ?_
    have h := p_reach q5.2 (show 1 < 48 by decide) k
    rw [Rch_congr q2] at h
    exact h
  · rw [hb _ k hk]
    refine not_congr ?_
    have h := p_reach q5.1 ha k
    rw [Rch_congr q1] at h
    exact h
/-- the class's stand beside the reference's -/
def pR (n0 : Nat) (S : wt_S) (Z : mt_S) (cl : Nat → Int32) : Prop :=
  (∀ r, r < 16 → S.1 r = Z.1 r ∧ S.2.1 r = Z.2.1 r ∧ S.2.2.1 r = Z.2.2.1 r) ∧ pRk S.2.2.2.1 S.2.2.2.2.1 S.2.2.2.2.2.1 Z.1 cl ∧ (∀ r, 16 ≤ r → bI S.2.2.2.1 r = false) ∧ S.2.2.2.2.2.2 = Z.2.2.2 ∧ s01 S ∧
  ∀ r, r < 16 → (Z.1 r = 0 ∨ Z.1 r = 1 ∨ Z.1 r = 2 ∨ Z.1 r = 3) ∧ (Z.1 r = 0 ∨ Z.1 r = 2 → Z.2.1 r = 0) ∧ (n0 ≤ r → Z.1 r = 0) ∧ ∃ c, c < 10 ∧ Z.2.1 r = nI c
theorem rowR_0 {og : Nat → Int32} {R : Nat → Prop} {k : Nat} (hk : k < 48) : rowR og R k = 0 ↔ ¬ R k := by
  unfold rowR
  rw [if_pos hk]
  split
  · next h => simp [h]
  · next h => simp [h]
theorem rowR_1 {og : Nat → Int32} {R : Nat → Prop} {k : Nat} (hk : k < 48) : rowR og R k = if rowR og R k = 0 then 0 else 1 := by
  unfold rowR
  rw [if_pos hk]
  split <;> rfl
theorem p_laf {n0 : Nat} {B : wb} {rl cl : Nat → Int32} {S : wt_S} {Z : mt_S} {F : wt_F} {hc : mt_H} (hM : okM B rl) (hO : okO B rl) (hF : okFl B F) (hR : pR n0 S Z cl) :
    (g_laf B S F).1 = (if ¬ (m_laf B rl cl Z hc).1.2.2.2 = Z.2.2.2 then 1 else 0) ∧ pR n0 (g_laf B S F).2.1 (m_laf B rl cl Z hc).1 cl ∧ okFl B (g_laf B S F).2.2 := by
  obtain ⟨r1, r2, r3, r4, r5, r6⟩ := hR
  have hz : (m_laf B rl cl Z hc).1.2.2.2 = g_or Z.2.2.2 ((m_lay B rl Z.1 cl hc).1 1) := rfl
  unfold g_laf
  by_cases hb : S.2.2.2.2.2.2 = 0
  · rw [if_pos hb]
    obtain ⟨f1, f2, f3, f4, f5, f6⟩ := p_fol hM hO hF r2
    have hb2 : Z.2.2.2 = 0 := r4 ▸ hb
    have h1 : f_b64 (g_fol B S F).2.2.1 1 = 0 ↔ (m_lay B rl Z.1 cl hc).1 1 = 0 := (f2 1 (by decide)).trans (rowR_0 (og := hc.1) (R := Rch (m_eh B rl Z.1 cl) 0) (show 1 < 48 by decide)).symm
    have h01 := f_b64_01 (g_fol B S F).2.2.1 1
    have e : g_or Z.2.2.2 ((m_lay B rl Z.1 cl hc).1 1) = f_b64 (g_fol B S F).2.2.1 1 := by
      rw [g_or_f hb2]
      by_cases q : f_b64 (g_fol B S F).2.2.1 1 = 0
      · rw [q, if_neg (fun h => h (h1.mp q))]
      · rw [if_pos (fun h => q (h1.mpr h))]
        exact (h01.resolve_left q).symm
    refine ⟨?_, ⟨r1, r2, r3, ?_, h01, r6⟩, f1⟩
    · rw [hz, e, hb2]
      show f_b64 (g_fol B S F).2.2.1 1 = _
      rcases h01 with q | q <;> rw [q] <;> decide
    · show f_b64 _ _ = _
      rw [hz, e]
  · rw [if_neg hb]
    have hb2 : ¬ Z.2.2.2 = 0 := r4 ▸ hb
    have h1 : Z.2.2.2 = 1 := by rw [← r4]; exact r5.resolve_left hb
    have e : g_or Z.2.2.2 ((m_lay B rl Z.1 cl hc).1 1) = Z.2.2.2 := by rw [g_or_t hb2, h1]
    refine ⟨?_, ⟨r1, r2, r3, ?_, r5, r6⟩, hF⟩
    · rw [hz, e]; simp
    · rw [hz, e]; exact r4
theorem p_cur {n0 : Nat} {B : wb} {rl cl : Nat → Int32} {S : wt_S} {Z : mt_S} {F : wt_F} {hc : mt_H} (P : wb_P) (hP : ∀ c, c < P.2.2 → vp_in (P.1 c) 48 ∧ vp_in (P.2.1 c) 48) (hM : okM B rl) (hO : okO B rl) (hF : okFl B F) (hR : pR n0 S Z cl) :
    (g_cur B P S F).1 = q_lit Z.2.2.2 (m_lay B rl Z.1 cl hc) P.1 P.2.1 P.2.2 ∧ okFl B (g_cur B P S F).2 := by
  obtain ⟨r1, r2, r3, r4, r5, r6⟩ := hR
  unfold g_cur
  by_cases hb : S.2.2.2.2.2.2 = 0
  · rw [if_pos hb]
    obtain ⟨f1, f2, f3, f4, f5, f6⟩ := p_fol hM hO hF r2
    have hb2 : Z.2.2.2 = 0 := r4 ▸ hb
    refine ⟨?_, f1⟩
    show f_btw _ _ _ _ _ = _
    have key : ∀ n, n ≤ P.2.2 → f_btw (g_fol B S F).2.2.1 (g_fol B S F).2.2.2.1 P.1 P.2.1 n = q_lit Z.2.2.2 (m_lay B rl Z.1 cl hc) P.1 P.2.1 n := by
      intro n
      induction n with
      | zero => intro _; rfl
      | succ n ih =>
        intro hn
        rw [f_btw, q_lit, ih (by omega)]
        obtain ⟨x, hx, ex⟩ := pl_node (hP n (by omega)).1
        obtain ⟨y, hy, ey⟩ := pl_node (hP n (by omega)).2
        have hbt : f_bt (g_fol B S F).2.2.1 (g_fol B S F).2.2.2.1 (P.1 n) (P.2.1 n) ↔ ¬ m_cur Z.2.2.2 (m_lay B rl Z.1 cl hc) (P.1 n) (P.2.1 n) = 0 := by
          unfold f_bt m_cur
          have a1 : (m_lay B rl Z.1 cl hc).1 x = 0 ↔ ¬ Rch (m_eh B rl Z.1 cl) 0 x := rowR_0 hx
          have a2 : (m_lay B rl Z.1 cl hc).1 y = 0 ↔ ¬ Rch (m_eh B rl Z.1 cl) 0 y := rowR_0 hy
          have a3 : (m_lay B rl Z.1 cl hc).2 x = 0 ↔ ¬ Rch (m_ec B rl Z.1 cl) 1 x := rowR_0 hx
          have a4 : (m_lay B rl Z.1 cl hc).2 y = 0 ↔ ¬ Rch (m_ec B rl Z.1 cl) 1 y := rowR_0 hy
          rw [ex, ey, (f2 x hx).trans a1.symm, (f2 y hy).trans a2.symm, (f3 x hx).trans a3.symm, (f3 y hy).trans a4.symm, nI_clamp (show x < 2 ^ 31 by omega), nI_clamp (show y < 2 ^ 31 by omega)]
          by_cases q : (¬ (m_lay B rl Z.1 cl hc).1 x = 0 ∧ ¬ (m_lay B rl Z.1 cl hc).2 y = 0) ∨ (¬ (m_lay B rl Z.1 cl hc).1 y = 0 ∧ ¬ (m_lay B rl Z.1 cl hc).2 x = 0)
          · rw [if_pos ⟨hb2, q⟩]; exact ⟨fun _ => by decide, fun _ => q⟩
          · rw [if_neg (fun h => q h.2)]; exact ⟨fun h => absurd h q, fun h => absurd rfl h⟩
        by_cases q : f_bt (g_fol B S F).2.2.1 (g_fol B S F).2.2.2.1 (P.1 n) (P.2.1 n)
        · rw [if_pos q, if_neg (hbt.mp q)]
        · rw [if_neg q, if_pos (Classical.byContradiction (fun h => q (hbt.mpr h)))]
          exact (pI_ext (fun j _ => by rw [bI_or]; rw [show bI 0 j = false by rw [bI]; simp, Bool.or_false])).symm
    exact key _ (Nat.le_refl _)
  · rw [if_neg hb]
    have hb2 : ¬ Z.2.2.2 = 0 := r4 ▸ hb
    refine ⟨?_, hF⟩
    have key : ∀ n, q_lit Z.2.2.2 (m_lay B rl Z.1 cl hc) P.1 P.2.1 n = 0 := by
      intro n
      induction n with
      | zero => rfl
      | succ n ih =>
        rw [q_lit, ih]
        have : m_cur Z.2.2.2 (m_lay B rl Z.1 cl hc) (P.1 n) (P.2.1 n) = 0 := by rw [m_cur, if_neg (fun h => hb2 h.1)]
        rw [if_pos this]; decide
    exact (key _).symm
theorem q_lit_b (mb : Int32) (hc : mt_H) (f g : Nat → Int32) : ∀ n, n ≤ 31 → ∀ i, bI (q_lit mb hc f g n) i = (decide (i < n) && decide (¬ m_cur mb hc (f i) (g i) = 0))
  | 0, _, i => by rw [q_lit, bI]; simp
  | n + 1, hn, i => by
    rw [q_lit, bI_or, q_lit_b mb hc f g n (by omega) i]
    by_cases q : m_cur mb hc (f n) (g n) = 0
    · rw [if_pos q, show bI 0 i = false by rw [bI]; simp, Bool.or_false]
      by_cases e : i = n
      · subst e; simp [q]
      · have : (i < n + 1) ↔ i < n := by omega
        simp [this]
    · rw [if_neg q, p_one (show n < 32 by omega)]
      by_cases e : i = n
      · subst e; simp [q]
      · have : (i < n + 1) ↔ i < n := by omega
        simp [this, e]
