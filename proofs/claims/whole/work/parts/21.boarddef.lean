-- the board in one value; the motions
abbrev wb_P : Type := (Nat → Int32) × (Nat → Int32) × Nat
abbrev wb : Type := wb_P × wb_P × wb_P × wb_P × wb_P × (Nat → Int32) × (Nat → Int32) × (Nat → Int32) × (Nat → Int32)
def pw (p : wb_P) : wt_P := (p.1, p.2.1, nI p.2.2)
def wB (B : wb) (S T : wt_S) (F : wt_F) (H : wt_H) (tt : Int32) : xm_O := wd (pw B.1) (pw B.2.1) (pw B.2.2.1) (pw B.2.2.2.1) (pw B.2.2.2.2.1) B.2.2.2.2.2.1 B.2.2.2.2.2.2.1 B.2.2.2.2.2.2.2.1 B.2.2.2.2.2.2.2.2 S T F H tt
def okB (B : wb) : Prop := (B.1.2.2 ≤ 16 ∧ okP (pw B.1) B.1.2.2) ∧ (B.2.1.2.2 ≤ 64 ∧ okP (pw B.2.1) B.2.1.2.2) ∧ (B.2.2.1.2.2 ≤ 12 ∧ okP (pw B.2.2.1) B.2.2.1.2.2) ∧ (B.2.2.2.1.2.2 ≤ 24 ∧ okP (pw B.2.2.2.1) B.2.2.2.1.2.2) ∧ (B.2.2.2.2.1.2.2 ≤ 12 ∧ okP (pw B.2.2.2.2.1) B.2.2.2.2.1.2.2) ∧ okK B.2.2.2.2.2.2.2.1 B.2.1.2.2
def g_fol (B : wb) (S : wt_S) (F : wt_F) : wt_F := f_fol (pw B.2.1) (pw B.2.2.1) (pw B.2.2.2.1) B.2.2.2.2.2.2.2.1 B.2.2.2.2.2.2.2.2 B.2.1.2.2 B.2.2.1.2.2 B.2.2.2.1.2.2 S F
def s_bl (S : wt_S) (b : Int32) : wt_S := (S.1, S.2.1, S.2.2.1, S.2.2.2.1, S.2.2.2.2.1, S.2.2.2.2.2.1, b)
def g_laf (B : wb) (S : wt_S) (F : wt_F) : Int32 × wt_S × wt_F := if S.2.2.2.2.2.2 = 0 then (f_b64 (g_fol B S F).2.2.1 1, s_bl S (f_b64 (g_fol B S F).2.2.1 1), g_fol B S F) else (0, S, F)
noncomputable def g_cur (B : wb) (P : wb_P) (S : wt_S) (F : wt_F) : Int32 × wt_F := if S.2.2.2.2.2.2 = 0 then (f_btw (g_fol B S F).2.2.1 (g_fol B S F).2.2.2.1 P.1 P.2.1 P.2.2, g_fol B S F) else (0, F)
def g_or (c m : Int32) : Int32 := if ¬ c = 0 then 1 else if ¬ m = 0 then 1 else 0
def g_mv1 (B : wb) (fed slow : Int32) (S : wt_S) (i : Nat) : Int32 × wt_S := if f_hb fed (nI i) = 0 then f_fall S (nI i) (B.2.2.2.2.2.2.1 i + (if ¬ f_hb slow (nI i) = 0 then 1 else 0)) else f_rise S (nI i) (B.2.2.2.2.2.1 i + (if ¬ f_hb slow (nI i) = 0 then 1 else 0))
def g_mv (B : wb) (fed slow c0 : Int32) (S0 : wt_S) : Nat → Int32 × wt_S
  | 0 => (c0, S0)
  | i + 1 => (g_or (g_mv B fed slow c0 S0 i).1 (g_mv1 B fed slow (g_mv B fed slow c0 S0 i).2 i).1, (g_mv1 B fed slow (g_mv B fed slow c0 S0 i).2 i).2)
noncomputable def g_step (B : wb) (slow : Int32) (S : wt_S) (F : wt_F) : Int32 × wt_S × wt_F :=
  let a := g_laf B S F
  let b := g_cur B B.1 a.2.1 a.2.2
  let c := g_mv B b.1 slow a.1 a.2.1 B.1.2.2
  (c.1, c.2, b.2)
noncomputable def g_run (B : wb) (slow : Int32) : Nat → Nat → wt_S → wt_F → Int32 × wt_S × wt_F
  | 0, _, S, F => (-1, S, F)
  | j + 1, d, S, F => if (g_step B slow S F).1 = 0 then (nI d, (g_step B slow S F).2) else g_run B slow j (d + 1) (g_step B slow S F).2.1 (g_step B slow S F).2.2
theorem g_laf01 (B : wb) (S : wt_S) (F : wt_F) : (g_laf B S F).1 = 0 ∨ (g_laf B S F).1 = 1 := by
  unfold g_laf
  split
  · exact f_b64_01 _ _
  · exact Or.inl rfl
theorem g_or01 (c m : Int32) : g_or c m = 0 ∨ g_or c m = 1 := by
  unfold g_or
  split
  · exact Or.inr rfl
  · split
    · exact Or.inr rfl
    · exact Or.inl rfl
def s01 (S : wt_S) : Prop := S.2.2.2.2.2.2 = 0 ∨ S.2.2.2.2.2.2 = 1
theorem s01_laf {B : wb} {S : wt_S} {F : wt_F} (h : s01 S) : s01 (g_laf B S F).2.1 := by
  unfold g_laf
  split
  · exact f_b64_01 _ _
  · exact h
theorem g_mv01 {B : wb} {fed slow c0 : Int32} {S0 : wt_S} (h : c0 = 0 ∨ c0 = 1) : ∀ n, (g_mv B fed slow c0 S0 n).1 = 0 ∨ (g_mv B fed slow c0 S0 n).1 = 1
  | 0 => h
  | _ + 1 => g_or01 _ _
theorem g_step01 (B : wb) (slow : Int32) (S : wt_S) (F : wt_F) : (g_step B slow S F).1 = 0 ∨ (g_step B slow S F).1 = 1 := g_mv01 (g_laf01 B S F) _
