/-- the row's beginning: one node -/
def r_0 (og : Nat → Int32) (a : Nat) (i : Nat) : Nat → Int32 := fun k => if k < i then (if k = a then 1 else 0) else og k
theorem r_0_0 (og : Nat → Int32) (a : Nat) : r_0 og a 0 = og := by funext k; simp [r_0]
theorem r_0_s (og : Nat → Int32) {a i : Nat} (ha : a < 48) (hi : i < 48) : upd (r_0 og a i) i (vp_nar .boolean (if nI i = nI a then 1 else 0)) = r_0 og a (i + 1) := by
  rw [vp_nar01 xm_b01]
  funext k
  unfold upd r_0
  by_cases h : k = i
  · subst h
    rw [if_pos (rfl : k = k), if_pos (show k < k + 1 by omega)]
    by_cases e : k = a
    · subst e; rw [if_pos rfl, if_pos rfl]
    · rw [if_neg e, if_neg (fun h9 => e (nI_48 hi ha h9))]
  · rw [if_neg h]
    by_cases h2 : k < i
    · rw [if_pos h2, if_pos (show k < i + 1 by omega)]
    · rw [if_neg h2, if_neg (show ¬ k < i + 1 by omega)]
theorem r_0_ok {e : Nat → Nat → Prop} {og : Nat → Int32} {a : Nat} (ha : a < 48) : rowok e a og (r_0 og a 48) := by
  refine ⟨fun k hk => ?_, ?_, fun k hk hn => ?_, fun k hk => ?_⟩
  · unfold r_0; rw [if_pos hk]; split
    · exact Or.inr rfl
    · exact Or.inl rfl
  · unfold r_0; rw [if_pos ha, if_pos rfl]
  · unfold r_0 at hn
    rw [if_pos hk] at hn
    by_cases e : k = a
    · subst e; exact Rch.rf
    · rw [if_neg e] at hn; exact absurd rfl hn
  · unfold r_0; rw [if_neg hk]
theorem zc_lt {row : Nat → Int32} : zc row < 49 := Nat.lt_succ_of_le (by
  have := List.countP_le_length (p := fun k => decide (row k = 0)) (l := List.range 48)
  rw [List.length_range] at this; exact this)
theorem m_inv0 {e : Nat → Nat → Prop} {a : Nat} {og row : Nat → Int32} (h : rowok e a og row) {D : Nat → Nat → Prop} (hD : ∀ x y, ¬ D x y) : m_inv e a og row D row 0 := ⟨h, Or.inl ⟨rfl, rfl, fun x y hxy => absurd hxy (hD x y)⟩⟩
theorem m_row_u (row : Nat → Int32) (a b : Int32) (x : Int32) (h : x = 0 ∨ x = 1) (e : x = (if ¬ row b.toNatClampNeg = 0 then 1 else (if ¬ m_fr row a b = 0 then 1 else 0))) : upd row b.toNatClampNeg (vp_nar .boolean x) = m_row row a b := by rw [vp_nar01 h, e, m_row]
theorem g_or_t {f m : Int32} (h : ¬ f = 0) : g_or f m = 1 := by rw [g_or, if_pos h]
theorem g_or_f {f m : Int32} (h : f = 0) : g_or f m = if ¬ m = 0 then 1 else 0 := by rw [g_or, if_neg (fun h9 => h9 h)]
