-- the class's flow against the reference's edges
theorem Rch_congr {e e' : Nat → Nat → Prop} (h : ∀ x y, e x y ↔ e' x y) {a b : Nat} : Rch e a b ↔ Rch e' a b :=
  ⟨fun H P ha hs => H P ha (fun i j hi hij => hs i j hi ((h i j).mp hij)), fun H P ha hs => H P ha (fun i j hi hij => hs i j hi ((h i j).mpr hij))⟩
def pRk (ups downs closed : Int32) (st cl : Nat → Int32) : Prop := (∀ r, r < 16 → (bI ups r = true ↔ st r = 2)) ∧ (∀ r, r < 16 → (bI downs r = true ↔ st r = 0)) ∧ ∀ k, k < 12 → (bI closed k = true ↔ ¬ cl k = 0)
theorem p_join (F : wt_F) {x y : Nat} (hx : x < 48) (hy : y < 48) (i j : Nat) : bL ((f_join F (nI x) (nI y)).1 i) j = (bL (F.1 i) j || (decide (i = x) && decide (j = y))) ∧ bL ((f_join F (nI x) (nI y)).2.1 i) j = (bL (F.2.1 i) j || (decide (i = y) && decide (j = x))) := by
  unfold f_join
  dsimp only
  rw [nI_clamp (show x < 2 ^ 31 by omega), nI_clamp (show y < 2 ^ 31 by omega)]
  have ex := pl_one (k := x) (by omega) j
  have ey := pl_one (k := y) (by omega) j
  unfold f_1 at ex ey
  constructor
  · unfold vp_updL
    by_cases h : i = x
    · subst h; rw [if_pos rfl, bL_or, ey]; simp
    · rw [if_neg h]; simp [h]
  · unfold vp_updL
    by_cases h : i = y
    · subst h; rw [if_pos rfl, bL_or, ex]; simp
    · rw [if_neg h]; simp [h]
theorem p_j2 (F : wt_F) {x y : Nat} (hx : x < 48) (hy : y < 48) (i j : Nat) : (bL ((f_j2 F (nI x) (nI y)).1 i) j = true ↔ bL (F.1 i) j = true ∨ (i = x ∧ j = y) ∨ (i = y ∧ j = x)) ∧ (bL ((f_j2 F (nI x) (nI y)).2.1 i) j = true ↔ bL (F.2.1 i) j = true ∨ (i = x ∧ j = y) ∨ (i = y ∧ j = x)) := by
  unfold f_j2
  rw [(p_join _ hy hx i j).1, (p_join _ hx hy i j).1, (p_join _ hy hx i j).2, (p_join _ hx hy i j).2]
  constructor
  · simp [or_assoc]
  · simp only [Bool.or_eq_true, Bool.and_eq_true, decide_eq_true_eq]
    constructor
    · rintro ((h | h) | h)
      · exact Or.inl h
      · exact Or.inr (Or.inr h)
      · exact Or.inr (Or.inl h)
    · rintro (h | h | h)
      · exact Or.inl (Or.inl h)
      · exact Or.inr h
      · exact Or.inl (Or.inr h)
theorem p_full {k : Nat} (hk : k < 32) : bI (-1) k = true := by
  have h : (-1 : Int32).toBitVec = BitVec.allOnes 32 := by decide
  rw [bI, h, BitVec.getLsbD_allOnes]; simp [hk]
theorem p_cd {S : wt_S} {st cl ki ow rl : Nat → Int32} {c : Nat} (hk : pRk S.2.2.2.1 S.2.2.2.2.1 S.2.2.2.2.2.1 st cl) (h5 : ki c = 0 ∨ ki c = 1 ∨ ki c = 2 ∨ ki c = 3 ∨ ki c = 4) (hr : ¬ ki c = 4 → vp_in (rl c) 16) (h4 : ki c = 4 → ow c = 0) (hn : ¬ ki c = 4 → ow c = rl c) : f_hb (f_rc S (ki c)) (ow c) = 0 ↔ m_cd ki rl st c = 0 := by
  unfold m_cd f_rc
  by_cases e4 : ki c = 4
  · rw [h4 e4, e4]
    have h0 : f_hb (-1) 0 = 1 := by decide
    simp [h0]
  · obtain ⟨r, hr16, er⟩ := pl_node (hr e4)
    have hu := hk.1 r hr16
    have hd := hk.2.1 r hr16
    rw [hn e4, er, if_neg e4]
    rcases h5 with e | e | e | e | e
    · rw [e]
      simp only [↓reduceIte]
      rw [p_hb0 _ (show r < 32 by omega), nI_clamp (show r < 2 ^ 31 by omega)]
      by_cases q : st r = 2
      · rw [hu.mpr q]; simp [q]
      · rw [Bool.eq_false_iff.mpr (fun h => q (hu.mp h))]; simp [q]
    · rw [e]
      simp only [show ¬ (1 : Int32) = 0 by decide, ↓reduceIte]
      rw [p_hb0 _ (show r < 32 by omega), nI_clamp (show r < 2 ^ 31 by omega)]
      by_cases q : st r = 0
      · rw [hd.mpr q]; simp [q]
      · rw [Bool.eq_false_iff.mpr (fun h => q (hd.mp h))]; simp [q]
    · rw [e]
      simp only [show ¬ (2 : Int32) = 0 by decide, show ¬ (2 : Int32) = 1 by decide, ↓reduceIte]
      rw [p_hb0 _ (show r < 32 by omega), nI_clamp (show r < 2 ^ 31 by omega), bI_not]
      by_cases q : st r = 0
      · rw [hd.mpr q]; simp [q]
      · rw [Bool.eq_false_iff.mpr (fun h => q (hd.mp h))]; simp [q, show r < 32 by omega]
    · rw [e]
      simp only [show ¬ (3 : Int32) = 0 by decide, show ¬ (3 : Int32) = 1 by decide, show ¬ (3 : Int32) = 2 by decide, ↓reduceIte]
      rw [p_hb0 _ (show r < 32 by omega), nI_clamp (show r < 2 ^ 31 by omega), bI_not]
      by_cases q : st r = 2
      · rw [hu.mpr q]; simp [q]
      · rw [Bool.eq_false_iff.mpr (fun h => q (hu.mp h))]; simp [q, show r < 32 by omega]
    · exact absurd e e4
def p_rows (F F1 : wt_F) (e1 e2 : Nat → Nat → Prop) : Prop := ∀ i j, (bL (F1.1 i) j = true ↔ bL (F.1 i) j = true ∨ e1 i j) ∧ (bL (F1.2.1 i) j = true ↔ bL (F.2.1 i) j = true ∨ e2 i j)
theorem p_jc {f g ki ow rl st cl : Nat → Int32} {S : wt_S} {F : wt_F} (hk : pRk S.2.2.2.1 S.2.2.2.2.1 S.2.2.2.2.2.1 st cl) : ∀ n, (∀ c, c < n → vp_in (f c) 48 ∧ vp_in (g c) 48) → (∀ c, c < n → ki c = 0 ∨ ki c = 1 ∨ ki c = 2 ∨ ki c = 3 ∨ ki c = 4) → (∀ c, c < n → ¬ ki c = 4 → vp_in (rl c) 16) → (∀ c, c < n → (ki c = 4 → ow c = 0) ∧ (¬ ki c = 4 → ow c = rl c)) →
    p_rows F (f_jc f g ki ow S F n) (e_c f g ki rl st n) (e_c f g ki rl st n) ∧ (f_jc f g ki ow S F n).2.2.2.2.1 = F.2.2.2.2.1 + m_cnt ki rl st n ∧ (f_jc f g ki ow S F n).2.2.2.2.2 = F.2.2.2.2.2
  | 0, _, _, _, _ => by
    refine ⟨fun i j => ⟨⟨Or.inl, ?_⟩, ⟨Or.inl, ?_⟩⟩, ?_, rfl⟩
    · rintro (h | ⟨_, _, c, hc, _⟩)
      · exact h
      · omega
    · rintro (h | ⟨_, _, c, hc, _⟩)
      · exact h
      · omega
    · show F.2.2.2.2.1 = F.2.2.2.2.1 + 0
      rw [Int32.add_zero]
  | n + 1, hp, h5, hr, ho => by
    obtain ⟨ih, ic, im⟩ := p_jc (f := f) (g := g) (F := F) hk n (fun c hc => hp c (by omega)) (fun c hc => h5 c (by omega)) (fun c hc => hr c (by omega)) (fun c hc => ho c (by omega))
    have hcd := p_cd hk (h5 n (by omega)) (hr n (by omega)) (ho n (by omega)).1 (ho n (by omega)).2
    rw [f_jc, m_cnt]
    by_cases hc : f_hb (f_rc S (ki n)) (ow n) = 0
    · rw [if_pos hc, if_neg (fun h => h (hcd.mp hc)), Int32.add_zero]
      refine ⟨fun i j => ?_, ic, im⟩
      have h1 : e_c f g ki rl st (n + 1) i j ↔ e_c f g ki rl st n i j := ⟨e_c_n (hcd.mp hc), fun ⟨q1, q2, c, q3, q4⟩ => ⟨q1, q2, c, by omega, q4⟩⟩
      rw [h1]
      exact ih i j
    · obtain ⟨x, hx, ex⟩ := pl_node (hp n (by omega)).1
      obtain ⟨y, hy, ey⟩ := pl_node (hp n (by omega)).2
      have hcn : ¬ m_cd ki rl st n = 0 := fun h => hc (hcd.mpr h)
      rw [if_neg hc, if_pos hcn]
      refine ⟨fun i j => ?_, ?_, im⟩
      · have h1 : e_c f g ki rl st (n + 1) i j ↔ e_c f g ki rl st n i j ∨ (i = x ∧ j = y) ∨ (i = y ∧ j = x) := by
          refine ⟨e_c_s hx hy ex ey, ?_⟩
          rintro (⟨q1, q2, c, q3, q4⟩ | ⟨rfl, rfl⟩ | ⟨rfl, rfl⟩)
          · exact ⟨q1, q2, c, by omega, q4⟩
          · exact ⟨hx, hy, n, by omega, hcn, Or.inl ⟨ex, ey⟩⟩
          · exact ⟨hy, hx, n, by omega, hcn, Or.inr ⟨ey, ex⟩⟩
        have h2 := p_j2 (f_jc f g ki ow S F n) hx hy i j
        rw [← ex, ← ey] at h2
        rw [h1]
        exact ⟨h2.1.trans (by rw [(ih i j).1, or_assoc]), h2.2.trans (by rw [(ih i j).2, or_assoc])⟩
      · show (f_jc f g ki ow S F n).2.2.2.2.1 + 1 = _
        rw [ic, Int32.add_assoc]
theorem p_jk {f g cl : Nat → Int32} {cb : Int32} {F : wt_F} : ∀ n, n ≤ 12 → (∀ k, k < 12 → (bI cb k = true ↔ ¬ cl k = 0)) → (∀ c, c < n → vp_in (f c) 48 ∧ vp_in (g c) 48) →
    p_rows F (f_jk f g cb F n) (e_k f g cl n) (e_k f g cl n) ∧ (f_jk f g cb F n).2.2 = F.2.2
  | 0, _, _, _ => by
    refine ⟨fun i j => ⟨⟨Or.inl, ?_⟩, ⟨Or.inl, ?_⟩⟩, rfl⟩
    · rintro (h | ⟨_, _, c, hc, _⟩)
      · exact h
      · omega
    · rintro (h | ⟨_, _, c, hc, _⟩)
      · exact h
      · omega
  | n + 1, hn, hk, hp => by
    obtain ⟨ih, im⟩ := p_jk (f := f) (g := g) (F := F) n (by omega) hk (fun c hc => hp c (by omega))
    have hcd : f_hb cb (nI n) = 0 ↔ cl n = 0 := by
      rw [p_hb0 _ (show n < 32 by omega)]
      have := hk n (by omega)
      by_cases q : cl n = 0
      · simp [q, Bool.eq_false_iff.mpr (fun h => (this.mp h) q)]
      · simp [q, this.mpr q]
    rw [f_jk]
    by_cases hc : f_hb cb (nI n) = 0
    · rw [if_pos hc]
      refine ⟨fun i j => ?_, im⟩
      have h1 : e_k f g cl (n + 1) i j ↔ e_k f g cl n i j := ⟨e_k_n (hcd.mp hc), fun ⟨q1, q2, c, q3, q4⟩ => ⟨q1, q2, c, by omega, q4⟩⟩
      rw [h1]
      exact ih i j
    · obtain ⟨x, hx, ex⟩ := pl_node (hp n (by omega)).1
      obtain ⟨y, hy, ey⟩ := pl_node (hp n (by omega)).2
      have hcn : ¬ cl n = 0 := fun h => hc (hcd.mpr h)
      rw [if_neg hc]
      refine ⟨fun i j => ?_, im⟩
      have h1 : e_k f g cl (n + 1) i j ↔ e_k f g cl n i j ∨ (i = x ∧ j = y) ∨ (i = y ∧ j = x) := by
        refine ⟨e_k_s hx hy ex ey, ?_⟩
        rintro (⟨q1, q2, c, q3, q4⟩ | ⟨rfl, rfl⟩ | ⟨rfl, rfl⟩)
        · exact ⟨q1, q2, c, by omega, q4⟩
        · exact ⟨hx, hy, n, by omega, hcn, Or.inl ⟨ex, ey⟩⟩
        · exact ⟨hy, hx, n, by omega, hcn, Or.inr ⟨ey, ex⟩⟩
      have h2 := p_j2 (f_jk f g cb F n) hx hy i j
      rw [← ex, ← ey] at h2
      rw [h1]
      exact ⟨h2.1.trans (by rw [(ih i j).1, or_assoc]), h2.2.trans (by rw [(ih i j).2, or_assoc])⟩
theorem p_jd {f g : Nat → Int32} {F : wt_F} : ∀ n, (∀ c, c < n → vp_in (f c) 48 ∧ vp_in (g c) 48) →
    p_rows F (f_jd f g F n) (e_d f g n) (e_d g f n) ∧ (f_jd f g F n).2.2 = F.2.2
  | 0, _ => by
    refine ⟨fun i j => ⟨⟨Or.inl, ?_⟩, ⟨Or.inl, ?_⟩⟩, rfl⟩
    · rintro (h | ⟨_, _, c, hc, _⟩)
      · exact h
      · omega
    · rintro (h | ⟨_, _, c, hc, _⟩)
      · exact h
      · omega
  | n + 1, hp => by
    obtain ⟨ih, im⟩ := p_jd (f := f) (g := g) (F := F) n (fun c hc => hp c (by omega))
    obtain ⟨x, hx, ex⟩ := pl_node (hp n (by omega)).1
    obtain ⟨y, hy, ey⟩ := pl_node (hp n (by omega)).2
    refine ⟨fun i j => ?_, im⟩
    have h1 : e_d f g (n + 1) i j ↔ e_d f g n i j ∨ (i = x ∧ j = y) := by
      refine ⟨e_d_s hx hy ex ey, ?_⟩
      rintro (⟨q1, q2, c, q3, q4⟩ | ⟨rfl, rfl⟩)
      · exact ⟨q1, q2, c, by omega, q4⟩
      · exact ⟨hx, hy, n, by omega, ex, ey⟩
    have h3 : e_d g f (n + 1) i j ↔ e_d g f n i j ∨ (i = y ∧ j = x) := by
      refine ⟨e_d_s hy hx ey ex, ?_⟩
      rintro (⟨q1, q2, c, q3, q4⟩ | ⟨rfl, rfl⟩)
      · exact ⟨q1, q2, c, by omega, q4⟩
      · exact ⟨hy, hx, n, by omega, ey, ex⟩
    have h2 := p_join (f_jd f g F n) hx hy i j
    rw [← ex, ← ey] at h2
    rw [h1, h3, f_jd, h2.1, h2.2]
    simp only [Bool.or_eq_true, Bool.and_eq_true, decide_eq_true_eq]
    rw [(ih i j).1, (ih i j).2, or_assoc, or_assoc]
    exact ⟨Iff.rfl, Iff.rfl⟩
def okO (B : wb) (rl : Nat → Int32) : Prop := ∀ c, c < B.2.1.2.2 → (B.2.2.2.2.2.2.2.1 c = 4 → B.2.2.2.2.2.2.2.2 c = 0) ∧ (¬ B.2.2.2.2.2.2.2.1 c = 4 → B.2.2.2.2.2.2.2.2 c = rl c)
def g_new (B : wb) (S : wt_S) (F : wt_F) : wt_F := f_new (pw B.2.1) (pw B.2.2.1) (pw B.2.2.2.1) B.2.2.2.2.2.2.2.1 B.2.2.2.2.2.2.2.2 B.2.1.2.2 B.2.2.1.2.2 B.2.2.2.1.2.2 S F
theorem p_new {B : wb} {rl st cl : Nat → Int32} {S : wt_S} {F : wt_F} (hM : okM B rl) (hO : okO B rl) (hk : pRk S.2.2.2.1 S.2.2.2.2.1 S.2.2.2.2.2.1 st cl) :
    (∀ i k, p_e (g_new B S F).1 i k ↔ m_eh B rl st cl i k) ∧ (∀ i k, p_e (g_new B S F).2.1 i k ↔ m_ec B rl st cl i k) ∧ (g_new B S F).2.2.2.2.1 = m_cnt B.2.2.2.2.2.2.2.1 rl st B.2.1.2.2 ∧ (g_new B S F).2.2.2.2.2 = (f_cc (pw B.2.1) (pw B.2.2.1) (pw B.2.2.2.1), S.2.2.2.1, S.2.2.2.2.1, S.2.2.2.2.2.1) ∧ okF (g_new B S F) := by
  obtain ⟨⟨f0, g0, n0⟩, ⟨f1, g1, n1⟩, ⟨f2, g2, n2⟩, ⟨f3, g3, n3⟩, ⟨f4, g4, n4⟩, pl, dr, ki, ow⟩ := B
  have hB := hM.1
  have hrl := hM.2
  obtain ⟨⟨h0, hp0⟩, ⟨h1, hp1⟩, ⟨h2, hp2⟩, ⟨h3, hp3⟩, ⟨h4, hp4⟩, hki⟩ := id hB
  dsimp only at h0 h1 h2 h3 h4 hp0 hp1 hp2 hp3 hp4 hki hrl
  obtain ⟨a1, a2, a3⟩ := p_jc (f := f1) (g := g1) (rl := rl) (F := (f_zr F.1 48, f_zr F.2.1 48, F.2.2.1, F.2.2.2.1, 0, f_cc (f1, g1, nI n1) (f2, g2, nI n2) (f3, g3, nI n3), S.2.2.2.1, S.2.2.2.2.1, S.2.2.2.2.2.1)) hk n1 hp1 hki hrl hO
  obtain ⟨b1, b2⟩ := p_jk (f := f2) (g := g2) (cl := cl) (cb := S.2.2.2.2.2.1) (F := f_jc f1 g1 ki ow S (f_zr F.1 48, f_zr F.2.1 48, F.2.2.1, F.2.2.2.1, 0, f_cc (f1, g1, nI n1) (f2, g2, nI n2) (f3, g3, nI n3), S.2.2.2.1, S.2.2.2.2.1, S.2.2.2.2.2.1) n1) n2 h2 hk.2.2 hp2
  obtain ⟨c1, c2⟩ := p_jd (f := f3) (g := g3) (F := f_jk f2 g2 S.2.2.2.2.2.1 (f_jc f1 g1 ki ow S (f_zr F.1 48, f_zr F.2.1 48, F.2.2.1, F.2.2.2.1, 0, f_cc (f1, g1, nI n1) (f2, g2, nI n2) (f3, g3, nI n3), S.2.2.2.1, S.2.2.2.2.1, S.2.2.2.2.2.1) n1) n2) n3 hp3
  have e1 : ∀ i k, p_e (g_new ((f0, g0, n0), (f1, g1, n1), (f2, g2, n2), (f3, g3, n3), (f4, g4, n4), pl, dr, ki, ow) S F).1 i k ↔ m_eh ((f0, g0, n0), (f1, g1, n1), (f2, g2, n2), (f3, g3, n3), (f4, g4, n4), pl, dr, ki, ow) rl st cl i k := fun i k => by
    have q := (c1 i k).1
    rw [(b1 i k).1, (a1 i k).1] at q
    constructor
    · rintro ⟨hi, h⟩
      have h' := q.mp h
      have hz : bL (f_zr F.1 48 i) k = false := by rw [f_zr, if_pos hi, bL]; simp
      rcases h' with ((h' | h') | h') | h'
      · rw [show bL (f_zr F.1 48 i) k = true from h'] at hz; cases hz
      · exact Or.inl h'
      · exact Or.inr (Or.inl h')
      · exact Or.inr (Or.inr h')
    · rintro (h | h | h)
      · exact ⟨h.1, q.mpr (Or.inl (Or.inl (Or.inr h)))⟩
      · exact ⟨h.1, q.mpr (Or.inl (Or.inr h))⟩
      · exact ⟨h.1, q.mpr (Or.inr h)⟩
  have e2 : ∀ i k, p_e (g_new ((f0, g0, n0), (f1, g1, n1), (f2, g2, n2), (f3, g3, n3), (f4, g4, n4), pl, dr, ki, ow) S F).2.1 i k ↔ m_ec ((f0, g0, n0), (f1, g1, n1), (f2, g2, n2), (f3, g3, n3), (f4, g4, n4), pl, dr, ki, ow) rl st cl i k := fun i k => by
    have q := (c1 i k).2
    rw [(b1 i k).2, (a1 i k).2] at q
    constructor
    · rintro ⟨hi, h⟩
      have h' := q.mp h
      have hz : bL (f_zr F.2.1 48 i) k = false := by rw [f_zr, if_pos hi, bL]; simp
      rcases h' with ((h' | h') | h') | h'
      · rw [show bL (f_zr F.2.1 48 i) k = true from h'] at hz; cases hz
      · exact Or.inl h'
      · exact Or.inr (Or.inl h')
      · exact Or.inr (Or.inr h')
    · rintro (h | h | h)
      · exact ⟨h.1, q.mpr (Or.inl (Or.inl (Or.inr h)))⟩
      · exact ⟨h.1, q.mpr (Or.inl (Or.inr h))⟩
      · exact ⟨h.1, q.mpr (Or.inr h)⟩
  have e3 := (congrArg (fun q => q.2.2) c2).trans (congrArg (fun q => q.2.2) b2)
  refine ⟨e1, e2, ?_, ?_, ?_⟩
  · refine (congrArg Prod.fst e3).trans (a2.trans ?_)
    show (0 : Int32) + _ = _
    rw [Int32.zero_add]
  · exact (congrArg Prod.snd e3).trans a3
  · exact okF_jd (okF_jk (okF_jc ⟨okR_zr _, okR_zr _⟩ n1 hp1) n2 hp2) n3 hp3
