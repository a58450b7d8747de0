-- PURE: what is reached
def Rch (e : Nat → Nat → Prop) (a b : Nat) : Prop := ∀ P : Nat → Prop, P a → (∀ i j, P i → e i j → P j) → P b
theorem Rch.rf {e : Nat → Nat → Prop} {a : Nat} : Rch e a a := fun _ h _ => h
theorem Rch.tr {e : Nat → Nat → Prop} {a i j : Nat} (h : Rch e a i) (he : e i j) : Rch e a j := fun P ha hs => hs i j (h P ha hs) he
def m_fr (row : Nat → Int32) (a b : Int32) : Int32 := if row a.toNatClampNeg = 0 then 0 else (if row b.toNatClampNeg = 0 then 1 else 0)
def m_row (row : Nat → Int32) (a b : Int32) : Nat → Int32 := upd row b.toNatClampNeg (if ¬ row b.toNatClampNeg = 0 then 1 else (if ¬ m_fr row a b = 0 then 1 else 0))
theorem m_fr01 (row : Nat → Int32) (a b : Int32) : m_fr row a b = 0 ∨ m_fr row a b = 1 := by
  unfold m_fr
  split
  · exact Or.inl rfl
  · exact xm_b01
def zc (row : Nat → Int32) : Nat := (List.range 48).countP (fun k => decide (row k = 0))
def rowok (e : Nat → Nat → Prop) (a : Nat) (og row : Nat → Int32) : Prop := (∀ k, k < 48 → row k = 0 ∨ row k = 1) ∧ row a = 1 ∧ (∀ k, k < 48 → ¬ row k = 0 → Rch e a k) ∧ ∀ k, ¬ k < 48 → row k = og k
def m_inv (e : Nat → Nat → Prop) (a : Nat) (og row0 : Nat → Int32) (D : Nat → Nat → Prop) (row : Nat → Int32) (more : Int32) : Prop :=
  rowok e a og row ∧ ((more = 0 ∧ row = row0 ∧ ∀ x y, D x y → ¬ row x = 0 → ¬ row y = 0) ∨ (more = 1 ∧ zc row < zc row0))
theorem m_inv.mono {e : Nat → Nat → Prop} {a : Nat} {og row0 : Nat → Int32} {D D' : Nat → Nat → Prop} {row : Nat → Int32} {more : Int32} (h : m_inv e a og row0 D row more) (hd : ∀ x y, D' x y → D x y) : m_inv e a og row0 D' row more :=
  ⟨h.1, h.2.imp (fun q => ⟨q.1, q.2.1, fun x y hxy => q.2.2 x y (hd x y hxy)⟩) id⟩
theorem m_inv.more01 {e : Nat → Nat → Prop} {a : Nat} {og row0 : Nat → Int32} {D : Nat → Nat → Prop} {row : Nat → Int32} {more : Int32} (h : m_inv e a og row0 D row more) : more = 0 ∨ more = 1 := h.2.imp (fun q => q.1) (fun q => q.1)
theorem m_step {e : Nat → Nat → Prop} {a : Nat} {og row0 : Nat → Int32} {D : Nat → Nat → Prop} {row : Nat → Int32} {more : Int32} (h : m_inv e a og row0 D row more) {i j : Nat} (hi : i < 48) (hj : j < 48) (he : e i j) :
    m_inv e a og row0 (fun x y => D x y ∨ (x = i ∧ y = j)) (m_row row (nI i) (nI j)) (g_or (m_fr row (nI i) (nI j)) more) := by
  have ci : (nI i).toNatClampNeg = i := nI_clamp (by omega)
  have cj : (nI j).toNatClampNeg = j := nI_clamp (by omega)
  have hm := h.more01
  obtain ⟨⟨h1, h2, h3, h4⟩, hc⟩ := h
  by_cases hfr : ¬ row i = 0 ∧ row j = 0
  · have ef : m_fr row (nI i) (nI j) = 1 := by rw [m_fr, ci, cj, if_neg hfr.1, if_pos hfr.2]
    have er : m_row row (nI i) (nI j) = upd row j 1 := by
      rw [m_row, ef, cj, if_neg (fun h9 => h9 hfr.2), if_pos (by decide)]
    have eo : g_or 1 more = 1 := by rw [g_or, if_pos (by decide)]
    rw [ef, er, eo]
    have hz : zc (upd row j 1) + 1 = zc row := by
      refine pb_count _ _ j 48 hj (decide_eq_true hfr.2) (fun k => ?_)
      by_cases hk : k = j
      · subst hk; simp [upd]
      · simp [upd, hk]
    have hle : zc row ≤ zc row0 := by
      rcases hc with ⟨-, e1, -⟩ | ⟨-, e1⟩
      · rw [e1]; exact Nat.le_refl _
      · omega
    refine ⟨⟨fun k hk => ?_, ?_, fun k hk hn => ?_, fun k hk => ?_⟩, Or.inr ⟨rfl, by omega⟩⟩
    · unfold upd; split
      · exact Or.inr rfl
      · exact h1 k hk
    · unfold upd; split
      · rfl
      · exact h2
    · by_cases hkj : k = j
      · subst hkj; exact (h3 i hi hfr.1).tr he
      · exact h3 k hk (by simpa [upd, hkj] using hn)
    · have : ¬ k = j := by omega
      simp only [upd, this, if_false]; exact h4 k hk
  · have ef : m_fr row (nI i) (nI j) = 0 := by
      rw [m_fr, ci, cj]
      by_cases q : row i = 0
      · rw [if_pos q]
      · rw [if_neg q, if_neg (fun q2 => hfr ⟨q, q2⟩)]
    have er : m_row row (nI i) (nI j) = row := by
      rw [m_row, ef, cj]
      funext k
      unfold upd
      by_cases hk : k = j
      · subst hk
        rw [if_pos rfl]
        rcases h1 k hj with q | q
        · rw [if_neg (fun h9 => h9 q), if_neg (by decide), q]
        · rw [if_pos (by rw [q]; decide), q]
      · rw [if_neg hk]
    have eo : g_or 0 more = more := by
      rw [g_or, if_neg (by decide)]
      rcases hm with q | q
      · rw [q, if_neg (by decide)]
      · rw [q, if_pos (by decide)]
    rw [ef, er, eo]
    refine ⟨⟨h1, h2, h3, h4⟩, hc.imp (fun q => ⟨q.1, q.2.1, fun x y hxy hx hy => ?_⟩) id⟩
    rcases hxy with hxy | ⟨rfl, rfl⟩
    · exact q.2.2 x y hxy hx hy
    · exact hfr ⟨hx, hy⟩
/-- a row that says of each node whether it is in R -/
noncomputable def rowR (og : Nat → Int32) (R : Nat → Prop) : Nat → Int32 := fun k => if k < 48 then @ite _ (R k) (Classical.propDecidable _) 1 0 else og k
theorem rowR_of {e : Nat → Nat → Prop} {a : Nat} {og row0 row : Nat → Int32} {D : Nat → Nat → Prop} (h : m_inv e a og row0 D row 0) (ha : a < 48) (hD : ∀ x y, e x y → D x y) (he : ∀ x y, e x y → x < 48 ∧ y < 48) : row = rowR og (Rch e a) := by
  obtain ⟨⟨h1, h2, h3, h4⟩, hc⟩ := h
  rcases hc with ⟨-, -, hcl⟩ | ⟨hm, -⟩
  · funext k
    unfold rowR
    by_cases hk : k < 48
    · rw [if_pos hk]
      by_cases hR : Rch e a k
      · rw [if_pos hR]
        have := hR (fun x => ¬ row x = 0) (by rw [h2]; decide) (fun i j hi hij => hcl i j (hD i j hij) hi)
        exact (h1 k hk).resolve_left this
      · rw [if_neg hR]
        rcases h1 k hk with q | q
        · exact q
        · exact absurd (h3 k hk (by rw [q]; decide)) hR
    · rw [if_neg hk]; exact h4 k hk
  · exact absurd hm (by decide)
-- the reference's edges
def m_cd (ki rl st : Nat → Int32) (c : Nat) : Int32 := if ki c = 4 then 1 else if ki c = 0 then (if st (rl c).toNatClampNeg = 2 then 1 else 0) else if ki c = 1 then (if st (rl c).toNatClampNeg = 0 then 1 else 0) else if ki c = 2 then (if st (rl c).toNatClampNeg = 0 then 0 else 1) else (if st (rl c).toNatClampNeg = 2 then 0 else 1)
def e_c (f g ki rl st : Nat → Int32) (n : Nat) (x y : Nat) : Prop := x < 48 ∧ y < 48 ∧ ∃ c, c < n ∧ ¬ m_cd ki rl st c = 0 ∧ ((f c = nI x ∧ g c = nI y) ∨ (g c = nI x ∧ f c = nI y))
def e_k (f g cl : Nat → Int32) (n : Nat) (x y : Nat) : Prop := x < 48 ∧ y < 48 ∧ ∃ c, c < n ∧ ¬ cl c = 0 ∧ ((f c = nI x ∧ g c = nI y) ∨ (g c = nI x ∧ f c = nI y))
def e_d (f g : Nat → Int32) (n : Nat) (x y : Nat) : Prop := x < 48 ∧ y < 48 ∧ ∃ c, c < n ∧ f c = nI x ∧ g c = nI y
theorem nI_48 {x y : Nat} (hx : x < 48) (hy : y < 48) (h : nI x = nI y) : x = y := (nI_eq (by omega) (by omega)).mp h
theorem e_c_s {f g ki rl st : Nat → Int32} {n i j : Nat} (hi : i < 48) (hj : j < 48) (ef : f n = nI i) (eg : g n = nI j) {x y : Nat} (h : e_c f g ki rl st (n + 1) x y) : e_c f g ki rl st n x y ∨ (x = i ∧ y = j) ∨ (x = j ∧ y = i) := by
  obtain ⟨hx, hy, c, hc, hcd, hxy⟩ := h
  by_cases e : c = n
  · subst e
    rcases hxy with ⟨q1, q2⟩ | ⟨q1, q2⟩
    · exact Or.inr (Or.inl ⟨nI_48 hx hi (q1.symm.trans ef), nI_48 hy hj (q2.symm.trans eg)⟩)
    · exact Or.inr (Or.inr ⟨nI_48 hx hj (q1.symm.trans eg), nI_48 hy hi (q2.symm.trans ef)⟩)
  · exact Or.inl ⟨hx, hy, c, by omega, hcd, hxy⟩
theorem e_c_n {f g ki rl st : Nat → Int32} {n : Nat} (h0 : m_cd ki rl st n = 0) {x y : Nat} (h : e_c f g ki rl st (n + 1) x y) : e_c f g ki rl st n x y := by
  obtain ⟨hx, hy, c, hc, hcd, hxy⟩ := h
  by_cases e : c = n
  · subst e; exact absurd h0 hcd
  · exact ⟨hx, hy, c, by omega, hcd, hxy⟩
theorem e_k_s {f g cl : Nat → Int32} {n i j : Nat} (hi : i < 48) (hj : j < 48) (ef : f n = nI i) (eg : g n = nI j) {x y : Nat} (h : e_k f g cl (n + 1) x y) : e_k f g cl n x y ∨ (x = i ∧ y = j) ∨ (x = j ∧ y = i) := by
  obtain ⟨hx, hy, c, hc, hcd, hxy⟩ := h
  by_cases e : c = n
  · subst e
    rcases hxy with ⟨q1, q2⟩ | ⟨q1, q2⟩
    · exact Or.inr (Or.inl ⟨nI_48 hx hi (q1.symm.trans ef), nI_48 hy hj (q2.symm.trans eg)⟩)
    · exact Or.inr (Or.inr ⟨nI_48 hx hj (q1.symm.trans eg), nI_48 hy hi (q2.symm.trans ef)⟩)
  · exact Or.inl ⟨hx, hy, c, by omega, hcd, hxy⟩
theorem e_k_n {f g cl : Nat → Int32} {n : Nat} (h0 : cl n = 0) {x y : Nat} (h : e_k f g cl (n + 1) x y) : e_k f g cl n x y := by
  obtain ⟨hx, hy, c, hc, hcd, hxy⟩ := h
  by_cases e : c = n
  · subst e; exact absurd h0 hcd
  · exact ⟨hx, hy, c, by omega, hcd, hxy⟩
theorem e_d_s {f g : Nat → Int32} {n i j : Nat} (hi : i < 48) (hj : j < 48) (ef : f n = nI i) (eg : g n = nI j) {x y : Nat} (h : e_d f g (n + 1) x y) : e_d f g n x y ∨ (x = i ∧ y = j) := by
  obtain ⟨hx, hy, c, hc, q1, q2⟩ := h
  by_cases e : c = n
  · subst e
    exact Or.inr ⟨nI_48 hx hi (q1.symm.trans ef), nI_48 hy hj (q2.symm.trans eg)⟩
  · exact Or.inl ⟨hx, hy, c, by omega, q1, q2⟩
def m_e (P1 P2 : wt_P) (ki rl st cl : Nat → Int32) (n1 n2 n3 : Nat) (df dg : Nat → Int32) (x y : Nat) : Prop := e_c P1.1 P1.2.1 ki rl st n1 x y ∨ e_k P2.1 P2.2.1 cl n2 x y ∨ e_d df dg n3 x y
