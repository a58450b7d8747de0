-- what the bench's calls make
abbrev gN2 (a b : Int32) : Prop := g2 a b
def b_addR (B : wb) (a b u v : Int32) : wb := ((upd B.1.1 B.1.2.2 a, upd B.1.2.1 B.1.2.2 b, B.1.2.2 + 1), B.2.1, B.2.2.1, B.2.2.2.1, B.2.2.2.2.1, upd B.2.2.2.2.2.1 B.1.2.2 u, upd B.2.2.2.2.2.2.1 B.1.2.2 v, B.2.2.2.2.2.2.2.1, B.2.2.2.2.2.2.2.2)
def b_addC (B : wb) (u v a b : Int32) : wb := (B.1, (upd B.2.1.1 B.2.1.2.2 a, upd B.2.1.2.1 B.2.1.2.2 b, B.2.1.2.2 + 1), B.2.2.1, B.2.2.2.1, B.2.2.2.2.1, B.2.2.2.2.2.1, B.2.2.2.2.2.2.1, upd B.2.2.2.2.2.2.2.1 B.2.1.2.2 u, upd B.2.2.2.2.2.2.2.2 B.2.1.2.2 (if u = 4 then 0 else v))
def p_add (P : wb_P) (a b : Int32) : wb_P := (upd P.1 P.2.2 a, upd P.2.1 P.2.2 b, P.2.2 + 1)
def b_add2 (B : wb) (a b : Int32) : wb := (B.1, B.2.1, p_add B.2.2.1 a b, B.2.2.2)
def b_add3 (B : wb) (a b : Int32) : wb := (B.1, B.2.1, B.2.2.1, p_add B.2.2.2.1 a b, B.2.2.2.2)
def b_add4 (B : wb) (a b : Int32) : wb := (B.1, B.2.1, B.2.2.1, B.2.2.2.1, p_add B.2.2.2.2.1 a b, B.2.2.2.2.2)
theorem gw_in {x : Int32} (h : gw x 0 47) : vp_in x 48 := by
  obtain ⟨j, hj, e⟩ := nI_of2 (x := x) (M := 47) (n := 47) (by decide) h.1 h.2
  rw [e]; exact vp_in_nI (by omega) (by decide)
theorem gw_part {x : Int32} {n m : Nat} (hn : n ≤ m) (hm : m < 2 ^ 31) (h : gw x 0 (nI n - 1)) : ∃ j, j < n ∧ x = nI j := by
  cases n with
  | zero =>
    exfalso
    have h2 : x ≤ nI 0 - 1 := h.2
    rw [nI_0] at h2
    have h3 : x ≤ (-1 : Int32) := h2
    have h4 : (0 : Int32) ≤ x := Int32.not_lt.mp h.1
    have h5 : (0 : Int32) ≤ -1 := Int32.le_trans h4 h3
    exact absurd h5 (by decide)
  | succ n =>
    have h2 : x ≤ nI (n + 1) - 1 := h.2
    rw [nI_pred] at h2
    obtain ⟨j, hj, e⟩ := nI_of2 (x := x) (M := nI n) (n := n) (nI_toInt (by omega)) h.1 h2
    exact ⟨j, by omega, e⟩
theorem gw_four {x : Int32} (h : gw x 0 4) : x = 0 ∨ x = 1 ∨ x = 2 ∨ x = 3 ∨ x = 4 := by
  obtain ⟨j, hj, e⟩ := nI_of2 (x := x) (M := 4) (n := 4) (by decide) h.1 h.2
  rcases (show j = 0 ∨ j = 1 ∨ j = 2 ∨ j = 3 ∨ j = 4 by omega) with rfl | rfl | rfl | rfl | rfl <;> subst e
  · exact Or.inl rfl
  · exact Or.inr (Or.inl rfl)
  · exact Or.inr (Or.inr (Or.inl rfl))
  · exact Or.inr (Or.inr (Or.inr (Or.inl rfl)))
  · exact Or.inr (Or.inr (Or.inr (Or.inr rfl)))
theorem okP_add {f g : Nat → Int32} {n : Nat} {a b : Int32} (h : okP (f, g, nI n) n) (ha : vp_in a 48) (hb : vp_in b 48) : okP (upd f n a, upd g n b, nI (n + 1)) (n + 1) := fun c hc => by
  show vp_in (upd f n a c) 48 ∧ vp_in (upd g n b c) 48
  unfold upd
  by_cases e : c = n
  · subst e; simp only [↓reduceIte]; exact ⟨ha, hb⟩
  · simp only [e, ↓reduceIte]; exact h c (by omega)
theorem okB_addR {B : wb} {a b u v : Int32} (h : okB B) (hi : B.1.2.2 < 16) (hg : g2 a b) : okB (b_addR B a b u v) := by
  obtain ⟨⟨f0, g0, n0⟩, ⟨f1, g1, n1⟩, ⟨f2, g2, n2⟩, ⟨f3, g3, n3⟩, ⟨f4, g4, n4⟩, pl, dr, ki, ow⟩ := B
  obtain ⟨⟨h0, hp0⟩, h'⟩ := h
  exact ⟨⟨hi, okP_add hp0 (gw_in hg.1) (gw_in hg.2.1)⟩, h'⟩
theorem okK_add {ki : Nat → Int32} {n : Nat} {u : Int32} (h : okK ki n) (hu : gw u 0 4) : okK (upd ki n u) (n + 1) := fun c hc => by
  unfold upd
  by_cases e : c = n
  · subst e; simp only [↓reduceIte]; exact gw_four hu
  · simp only [e, ↓reduceIte]; exact h c (by omega)
theorem okB_addC {B : wb} {a b u v : Int32} (h : okB B) (hi : B.2.1.2.2 < 64) (hu : gw u 0 4) (hg : g2 a b) : okB (b_addC B u v a b) := by
  obtain ⟨⟨f0, g0, n0⟩, ⟨f1, g1, n1⟩, ⟨f2, g2, n2⟩, ⟨f3, g3, n3⟩, ⟨f4, g4, n4⟩, pl, dr, ki, ow⟩ := B
  obtain ⟨h0, ⟨h1, hp1⟩, h2, h3, h4, hk⟩ := h
  exact ⟨h0, ⟨hi, okP_add hp1 (gw_in hg.1) (gw_in hg.2.1)⟩, h2, h3, h4, okK_add hk hu⟩
theorem okB_add2 {B : wb} {a b : Int32} (h : okB B) (hi : B.2.2.1.2.2 < 12) (hg : g2 a b) : okB (b_add2 B a b) := by
  obtain ⟨⟨f0, g0, n0⟩, ⟨f1, g1, n1⟩, ⟨f2, g2, n2⟩, ⟨f3, g3, n3⟩, ⟨f4, g4, n4⟩, pl, dr, ki, ow⟩ := B
  obtain ⟨h0, h1, ⟨h2, hp2⟩, h3, h4, hk⟩ := h
  exact ⟨h0, h1, ⟨hi, okP_add hp2 (gw_in hg.1) (gw_in hg.2.1)⟩, h3, h4, hk⟩
theorem okB_add3 {B : wb} {a b : Int32} (h : okB B) (hi : B.2.2.2.1.2.2 < 24) (hg : g2 a b) : okB (b_add3 B a b) := by
  obtain ⟨⟨f0, g0, n0⟩, ⟨f1, g1, n1⟩, ⟨f2, g2, n2⟩, ⟨f3, g3, n3⟩, ⟨f4, g4, n4⟩, pl, dr, ki, ow⟩ := B
  obtain ⟨h0, h1, h2, ⟨h3, hp3⟩, h4, hk⟩ := h
  exact ⟨h0, h1, h2, ⟨hi, okP_add hp3 (gw_in hg.1) (gw_in hg.2.1)⟩, h4, hk⟩
theorem okB_add4 {B : wb} {a b : Int32} (h : okB B) (hi : B.2.2.2.2.1.2.2 < 12) (hg : g2 a b) : okB (b_add4 B a b) := by
  obtain ⟨⟨f0, g0, n0⟩, ⟨f1, g1, n1⟩, ⟨f2, g2, n2⟩, ⟨f3, g3, n3⟩, ⟨f4, g4, n4⟩, pl, dr, ki, ow⟩ := B
  obtain ⟨h0, h1, h2, h3, ⟨h4, hp4⟩, hk⟩ := h
  exact ⟨h0, h1, h2, h3, ⟨hi, okP_add hp4 (gw_in hg.1) (gw_in hg.2.1)⟩, hk⟩
