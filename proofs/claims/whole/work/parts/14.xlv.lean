section XLV
variable {E : xm_X} {nL : Nat} {Q : State → Prop} {kc ks : Nat} {ω : xm_O} {pc : Nat} {lv : List (Nat × Value)} {st : List Value}
theorem xm_pick {ad : Nat → Nat} (ks : List Nat) : lv_pick (xm_l ad lv) ks = xm_l ad (lv_pick lv ks) := by
  induction ks with
  | nil => rfl
  | cons k ks ih =>
    simp only [lv_pick, List.filterMap_cons, xm_l, List.getElem?_map] at ih ⊢
    cases h : lv[k]? with
    | none => simpa [h] using ih
    | some q => simp [ih]
theorem xs_lv {lv' : List (Nat × Value)} (is : List Nat) (h : lv_pick lv is = lv') (k : xm_W E nL Q kc ks ω pc lv' st) : xm_W E nL Q kc ks ω pc lv st := by
  obtain ⟨p, l, e, R, s, m, args, below, meth, c, D, cA, A, ad0, n0⟩ := E
  subst h
  exact fun ad H locs ls a1 a2 hP hD hS hl => k ad H locs ls a1 a2 hP hD hS (lv_sub hl is (xm_pick is))
end XLV
theorem lg_cmp0 {x y : Int64} : lg_cmp x y = 0 ↔ x = y := by
  unfold lg_cmp
  by_cases h1 : x > y
  · rw [if_pos h1]
    constructor
    · intro h; exact absurd h (by decide)
    · intro h; subst h; exact absurd h1 (Int64.lt_irrefl)
  · rw [if_neg h1]
    by_cases h2 : x = y
    · rw [if_pos h2]; exact ⟨fun _ => h2, fun _ => rfl⟩
    · rw [if_neg h2]
      exact ⟨fun h => absurd h (by decide), fun h => absurd h h2⟩
