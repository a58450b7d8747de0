abbrev mt_S : Type := (Nat → Int32) × (Nat → Int32) × (Nat → Int32) × Int32
abbrev mt_H : Type := (Nat → Int32) × (Nat → Int32)
abbrev mt_K : Type := (Nat → Int32) × (Nat → Int32) × (Nat → Int32) × Int32 × Int32
abbrev mt_T : Type := (Nat → Int32) × (Nat → Int32) × (Nat → Int32)
def wM (P0 P1 P2 P3 P4 : wt_P) (pl dr ki rl : Nat → Int32) (Z : mt_S) (cl : Nat → Int32) (hc : mt_H) (sl tk : Int32) (kp : mt_K) (pa : Nat → Int32) (tr : mt_T) (co : Int32) : xm_O := [
  .inr (7, [.int co, .int P0.2.2, .int P1.2.2, .int P2.2.2, .int P3.2.2, .int P4.2.2, .int tk, .ref 37, .ref 38, .ref 39, .ref 40, .ref 41, .ref 42, .ref 43, .int Z.2.2.2, .ref 44, .ref 45, .ref 46, .ref 47, .ref 48, .ref 49, .ref 50, .ref 51, .ref 52, .ref 53, .ref 54, .int sl, .ref 55, .ref 56, .ref 57, .ref 58, .ref 59, .int kp.2.2.2.1, .int kp.2.2.2.2, .ref 60, .ref 61, .ref 62, .ref 63]),
  .inl (0, 16, .inl P0.1),
  .inl (0, 16, .inl P0.2.1),
  .inl (0, 16, .inl pl),
  .inl (0, 16, .inl dr),
  .inl (0, 16, .inl Z.1),
  .inl (0, 16, .inl Z.2.1),
  .inl (0, 16, .inl Z.2.2.1),
  .inl (0, 64, .inl ki),
  .inl (0, 64, .inl rl),
  .inl (0, 64, .inl P1.1),
  .inl (0, 64, .inl P1.2.1),
  .inl (0, 12, .inl P2.1),
  .inl (0, 12, .inl P2.2.1),
  .inl (2, 12, .inl cl),
  .inl (0, 24, .inl P3.1),
  .inl (0, 24, .inl P3.2.1),
  .inl (0, 12, .inl P4.1),
  .inl (0, 12, .inl P4.2.1),
  .inl (2, 48, .inl hc.1),
  .inl (2, 48, .inl hc.2),
  .inl (0, 16, .inl kp.1),
  .inl (0, 16, .inl kp.2.1),
  .inl (0, 16, .inl kp.2.2.1),
  .inl (0, 16533, .inl pa),
  .inl (0, 16, .inl tr.1),
  .inl (0, 16, .inl tr.2.1),
  .inl (0, 16, .inl tr.2.2)]
theorem vp_nar01 {x : Int32} (h : x = 0 ∨ x = 1) : vp_nar .boolean x = x := by rcases h with rfl | rfl <;> rfl
