-- what the flow's loops make
def f_zr (on : Nat → Int64) (i : Nat) : Nat → Int64 := fun k => if k < i then 0 else on k
theorem f_zr_0 (on : Nat → Int64) : f_zr on 0 = on := by funext k; simp [f_zr]
theorem f_zr_s (on : Nat → Int64) (i : Nat) : vp_updL (f_zr on i) i 0 = f_zr on (i + 1) := by
  funext k
  by_cases h : k = i
  · subst h; simp [vp_updL, f_zr]
  · by_cases h2 : k < i
    · have h3 : k < i + 1 := by omega
      simp [vp_updL, f_zr, h, h2, h3]
    · have h3 : ¬ k < i + 1 := by omega
      simp [vp_updL, f_zr, h, h2, h3]
def f_inc (F : wt_F) : wt_F := (F.1, F.2.1, F.2.2.1, F.2.2.2.1, F.2.2.2.2.1 + 1, F.2.2.2.2.2)
def f_j2 (F : wt_F) (a b : Int32) : wt_F := f_join (f_join F a b) b a
def f_jc (f g ki ow : Nat → Int32) (S : wt_S) (F : wt_F) : Nat → wt_F
  | 0 => F
  | i + 1 => if f_hb (f_rc S (ki i)) (ow i) = 0 then f_jc f g ki ow S F i else f_inc (f_j2 (f_jc f g ki ow S F i) (f i) (g i))
def f_jk (f g : Nat → Int32) (cl : Int32) (F : wt_F) : Nat → wt_F
  | 0 => F
  | i + 1 => if f_hb cl (nI i) = 0 then f_jk f g cl F i else f_j2 (f_jk f g cl F i) (f i) (g i)
def f_jd (f g : Nat → Int32) (F : wt_F) : Nat → wt_F
  | 0 => F
  | i + 1 => f_join (f_jd f g F i) (f i) (g i)
def f_rl (nx : Nat → Int64) : Nat → Int64 → Int64 → Int64
  | 0, re, _ => re
  | j + 1, re, op => if op = 0 then re else f_rl nx j (re ||| (nx (f_ltz op).toNatClampNeg &&& (re ^^^ (-1)))) ((op &&& (op - 1)) ||| (nx (f_ltz op).toNatClampNeg &&& (re ^^^ (-1))))
def f_1 (a : Int32) : Int64 := (1 : Int64) <<< (a.toInt64 &&& 63)
def f_reach (nx : Nat → Int64) (a : Int32) : Int64 := f_rl nx 48 (f_1 a) (f_1 a)
def f_bt (ho co : Int64) (a b : Int32) : Prop := (¬ f_b64 ho a = 0 ∧ ¬ f_b64 co b = 0) ∨ (¬ f_b64 ho b = 0 ∧ ¬ f_b64 co a = 0)
noncomputable def f_btw (ho co : Int64) (f g : Nat → Int32) : Nat → Int32
  | 0 => 0
  | i + 1 => @ite _ (f_bt ho co (f i) (g i)) (Classical.propDecidable _) (f_btw ho co f g i ||| ((1 : Int32) <<< (nI i &&& 31))) (f_btw ho co f g i)
-- rows whose bits are nodes
def okR (nx : Nat → Int64) : Prop := ∀ k, k < 48 → b48 (nx k)
theorem pl_onetab : ∀ k, k < 64 → ((1 : Int64) <<< ((nI k).toInt64 &&& 63)).toBitVec = BitVec.twoPow 64 k := by decide +kernel
theorem pl_one {k : Nat} (hk : k < 64) (j : Nat) : bL (f_1 (nI k)) j = decide (j = k) := by
  rw [bL, f_1, pl_onetab k hk, BitVec.getLsbD_twoPow]
  by_cases h : j = k
  · subst h; simp [hk]
  · simp [h, Ne.symm h]
theorem pl_node {a : Int32} {n : Nat} (h : vp_in a n) : ∃ k, k < n ∧ a = nI k := by
  unfold vp_in at h
  obtain ⟨j, hj, e⟩ := nI_of (x := a) (fun h9 => h (Or.inl h9))
  refine ⟨j, ?_, e⟩
  rcases Nat.lt_or_ge j n with q | q
  · exact q
  · exact absurd (Or.inr (by rw [e, nI_clamp hj]; exact q)) h
theorem b48_one {a : Int32} (h : vp_in a 48) : b48 (f_1 a) := by
  obtain ⟨k, hk, rfl⟩ := pl_node h
  intro j hj
  rw [pl_one (by omega)]
  exact decide_eq_false (by omega)
theorem okR_zr (on : Nat → Int64) : okR (f_zr on 48) := fun k hk j _ => by
  rw [f_zr, if_pos hk, bL]; simp
theorem okR_upd {nx : Nat → Int64} (h : okR nx) (a : Nat) {b : Int32} (hb : vp_in b 48) : okR (vp_updL nx a (nx a ||| f_1 b)) := fun k hk => by
  rw [vp_updL]
  by_cases e : k = a
  · subst e; rw [if_pos rfl]; exact b48_or (h k hk) (b48_one hb)
  · rw [if_neg e]; exact h k hk
def okF (F : wt_F) : Prop := okR F.1 ∧ okR F.2.1
theorem okF_join {F : wt_F} {a b : Int32} (h : okF F) (ha : vp_in a 48) (hb : vp_in b 48) : okF (f_join F a b) := ⟨okR_upd h.1 _ hb, okR_upd h.2 _ ha⟩
theorem okF_j2 {F : wt_F} {a b : Int32} (h : okF F) (ha : vp_in a 48) (hb : vp_in b 48) : okF (f_j2 F a b) := okF_join (okF_join h ha hb) hb ha
theorem okF_jc {f g ki ow : Nat → Int32} {S : wt_S} {F : wt_F} (h : okF F) : ∀ n, (∀ c, c < n → vp_in (f c) 48 ∧ vp_in (g c) 48) → okF (f_jc f g ki ow S F n)
  | 0, _ => h
  | n + 1, hn => by
    have ih := okF_jc (f := f) (g := g) (ki := ki) (ow := ow) (S := S) h n (fun c hc => hn c (by omega))
    rw [f_jc]
    split
    · exact ih
    · exact okF_j2 ih (hn n (by omega)).1 (hn n (by omega)).2
theorem okF_jk {f g : Nat → Int32} {cl : Int32} {F : wt_F} (h : okF F) : ∀ n, (∀ c, c < n → vp_in (f c) 48 ∧ vp_in (g c) 48) → okF (f_jk f g cl F n)
  | 0, _ => h
  | n + 1, hn => by
    have ih := okF_jk (f := f) (g := g) (cl := cl) h n (fun c hc => hn c (by omega))
    rw [f_jk]
    split
    · exact ih
    · exact okF_j2 ih (hn n (by omega)).1 (hn n (by omega)).2
theorem okF_jd {f g : Nat → Int32} {F : wt_F} (h : okF F) : ∀ n, (∀ c, c < n → vp_in (f c) 48 ∧ vp_in (g c) 48) → okF (f_jd f g F n)
  | 0, _ => h
  | n + 1, hn => okF_join (okF_jd h n (fun c hc => hn c (by omega))) (hn n (by omega)).1 (hn n (by omega)).2
def okP (P : wt_P) (n : Nat) : Prop := ∀ c, c < n → vp_in (P.1 c) 48 ∧ vp_in (P.2.1 c) 48
def okK (ki : Nat → Int32) (n : Nat) : Prop := ∀ c, c < n → ki c = 0 ∨ ki c = 1 ∨ ki c = 2 ∨ ki c = 3 ∨ ki c = 4
/-- the flow made anew -/
def f_new (P1 P2 P3 : wt_P) (ki ow : Nat → Int32) (n1 n2 n3 : Nat) (S : wt_S) (F : wt_F) : wt_F :=
  f_jd P3.1 P3.2.1 (f_jk P2.1 P2.2.1 S.2.2.2.2.2.1 (f_jc P1.1 P1.2.1 ki ow S (f_zr F.1 48, f_zr F.2.1 48, F.2.2.1, F.2.2.2.1, 0, f_cc P1 P2 P3, S.2.2.2.1, S.2.2.2.2.1, S.2.2.2.2.2.1) n1) n2) n3
def f_fin (F : wt_F) : wt_F := (F.1, F.2.1, f_reach F.1 0, f_reach F.2.1 1, F.2.2.2.2)
def f_fol (P1 P2 P3 : wt_P) (ki ow : Nat → Int32) (n1 n2 n3 : Nat) (S : wt_S) (F : wt_F) : wt_F := if f_made F (f_cc P1 P2 P3) S = 0 then f_fin (f_new P1 P2 P3 ki ow n1 n2 n3 S F) else F
