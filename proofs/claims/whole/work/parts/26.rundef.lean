-- the bench's runs
theorem f_rise_bl (S : wt_S) (r p : Int32) : (f_rise S r p).2.2.2.2.2.2.2 = S.2.2.2.2.2.2 := by
  unfold f_rise
  split
  · rfl
  · split
    · rfl
    · split <;> rfl
theorem f_fall_bl (S : wt_S) (r p : Int32) : (f_fall S r p).2.2.2.2.2.2.2 = S.2.2.2.2.2.2 := by
  unfold f_fall
  split
  · rfl
  · split
    · rfl
    · split <;> rfl
theorem g_mv1_bl (B : wb) (fed slow : Int32) (S : wt_S) (i : Nat) : (g_mv1 B fed slow S i).2.2.2.2.2.2.2 = S.2.2.2.2.2.2 := by
  unfold g_mv1
  split
  · exact f_fall_bl _ _ _
  · exact f_rise_bl _ _ _
theorem g_mv_bl (B : wb) (fed slow c0 : Int32) (S0 : wt_S) : ∀ n, (g_mv B fed slow c0 S0 n).2.2.2.2.2.2.2 = S0.2.2.2.2.2.2
  | 0 => rfl
  | n + 1 => (g_mv1_bl _ _ _ _ _).trans (g_mv_bl B fed slow c0 S0 n)
theorem s01_step {B : wb} {slow : Int32} {S : wt_S} {F : wt_F} (h : s01 S) : s01 (g_step B slow S F).2.1 := by
  have h1 := s01_laf (B := B) (F := F) h
  unfold s01 at h1 ⊢
  show (g_mv B _ slow _ (g_laf B S F).2.1 _).2.2.2.2.2.2.2 = 0 ∨ (g_mv B _ slow _ (g_laf B S F).2.1 _).2.2.2.2.2.2.2 = 1
  rw [g_mv_bl]
  exact h1
theorem s01_run {B : wb} {slow : Int32} : ∀ (j d : Nat) (S : wt_S) (F : wt_F), s01 S → s01 (g_run B slow j d S F).2.1
  | 0, _, _, _, h => h
  | j + 1, d, S, F, h => by
    rw [g_run]
    split
    · exact s01_step h
    · exact s01_run j (d + 1) _ _ (s01_step h)
theorem s01_bec {S T : wt_S} (h : s01 S) : s01 (f_bec S T) := h
theorem s01_sk {S : wt_S} {k b : Int32} (h : s01 S) : s01 (f_sk S k b).2 := h
noncomputable def g_tick (B : wb) (S : wt_S) (F : wt_F) : Nat → Int32 × wt_S × wt_F
  | 0 => (0, S, F)
  | i + 1 => (if (g_step B 0 (g_tick B S F i).2.1 (g_tick B S F i).2.2).1 = 0 then (g_tick B S F i).1 else (g_tick B S F i).1 + 1, (g_step B 0 (g_tick B S F i).2.1 (g_tick B S F i).2.2).2)
def g_dial (S : wt_S) (x bits : Int32) : Nat → wt_S
  | 0 => S
  | i + 1 => (f_sk (g_dial S x bits i) (x + nI i) (f_hb bits (nI i))).2
noncomputable def g_out (B : wb) (S T : wt_S) (F : wt_F) (x z slow : Int32) (m : Nat) : Int32 × wt_S × wt_F :=
  let a := g_laf B (f_sk (f_bec S T) x z).2 F
  let r := g_run B slow (m + 1) 0 a.2.1 a.2.2
  (if r.1 = -1 then -1 else r.2.1.2.2.2.1 ||| (if r.2.1.2.2.2.2.2.2 = 0 then 0 else 65536), r.2)
noncomputable def g_race (B : wb) (S : wt_S) (x z : Int32) (m : Nat) (us : Int32) : Nat → Nat → wt_S → wt_F → Int32 × wt_S × wt_F
  | 0, _, T, F => (-1, T, F)
  | j + 1, s, T, F => if (g_out B S T F x z (nI s) m).1 = us then g_race B S x z m us j (s + 1) (g_out B S T F x z (nI s) m).2.1 (g_out B S T F x z (nI s) m).2.2 else (nI s, (g_out B S T F x z (nI s) m).2)
-- the states of a run, packed
def f_pk (st ct : Nat → Int32) (fr : Nat) : Nat → Int64
  | 0 => 0
  | i + 1 => ((f_pk st ct fr i <<< ((6 : Int32).toInt64 &&& 63)) ||| ((st (fr + i)) <<< ((4 : Int32) &&& 31)).toInt64) ||| (ct (fr + i)).toInt64
def f_low (T : wt_S) : Int64 := f_pk T.1 T.2.1 0 8
def f_high (T : wt_S) : Int64 := (f_pk T.1 T.2.1 8 8 <<< ((1 : Int32).toInt64 &&& 63)) ||| (if ¬ T.2.2.2.2.2.2 = 0 then (1 : Int32) else 0).toInt64
def g_ff (lo hi : Nat → Int64) (l h : Int64) : Nat → Nat → Int32
  | 0, _ => -1
  | j + 1, k => if lo k = l ∧ hi k = h then nI k else g_ff lo hi l h j (k + 1)
abbrev wh : Type := (Nat → Int64) × (Nat → Int64) × Nat
def hw (H : wh) : wt_H := (H.1, H.2.1, nI H.2.2)
def g_fk (T : wt_S) (H : wh) : Int32 × wh := (g_ff H.1 H.2.1 (f_low T) (f_high T) H.2.2 0, if g_ff H.1 H.2.1 (f_low T) (f_high T) H.2.2 0 = -1 then (vp_updL H.1 H.2.2 (f_low T), vp_updL H.2.1 H.2.2 (f_high T), H.2.2 + 1) else H)
theorem nI_ne (k : Nat) (h : k < 2 ^ 31) : ¬ nI k = -1 := fun e => by
  have h1 := nI_toInt h
  rw [e] at h1
  have h2 : (-1 : Int32).toInt = -1 := by decide
  rw [h2] at h1
  omega
theorem g_ff_no (lo hi : Nat → Int64) (l h : Int64) : ∀ j k, k + j < 2 ^ 31 → g_ff lo hi l h j k = -1 → ∀ i, k ≤ i → i < k + j → ¬ (lo i = l ∧ hi i = h)
  | 0, k, _, _, i, h1, h2 => by omega
  | j + 1, k, hb, h0, i, h1, h2 => by
    rw [g_ff] at h0
    split at h0
    · exact absurd h0 (nI_ne k (by omega))
    · next hn =>
      by_cases e : i = k
      · subst e; exact hn
      · exact g_ff_no lo hi l h j (k + 1) (by omega) h0 i (by omega) (by omega)
