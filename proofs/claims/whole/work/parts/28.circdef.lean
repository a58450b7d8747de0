noncomputable def g_circ (B : wb) : Nat → Nat → wt_S → wt_F → wh → Option Int32 × wt_S × wt_F × wh
  | 0, _, T, F, H => (none, T, F, H)
  | j + 1, d, T, F, H =>
    if (g_fk (g_step B 0 T F).2.1 H).1 = -1 then g_circ B j (d + 1) (g_step B 0 T F).2.1 (g_step B 0 T F).2.2 (g_fk (g_step B 0 T F).2.1 H).2
    else (some ((g_fk (g_step B 0 T F).2.1 H).1 + 1000 * (nI d - (g_fk (g_step B 0 T F).2.1 H).1)), (g_step B 0 T F).2.1, (g_step B 0 T F).2.2, (g_fk (g_step B 0 T F).2.1 H).2)
theorem pl_2tab : ∀ k, k ≤ 6 → (1 : Int32) <<< (nI k &&& 31) = nI (2 ^ k) := by decide +kernel
theorem g_fk_sz {T : wt_S} {H : wh} (h : (g_fk T H).1 = -1) : (g_fk T H).2.2.2 = H.2.2 + 1 := by
  have h2 : g_ff H.1 H.2.1 (f_low T) (f_high T) H.2.2 0 = -1 := h
  unfold g_fk
  dsimp only
  rw [if_pos h2]
