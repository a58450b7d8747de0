theorem nI_mul (a b : Nat) : nI a * nI b = nI (a * b) := (Int32.ofNat_mul a b).symm
def c01 (cl : Nat → Int32) : Prop := ∀ k, k < 12 → cl k = 0 ∨ cl k = 1
theorem c01_upd {cl : Nat → Int32} (h : c01 cl) (j : Nat) {z : Int32} (hz : z = 0 ∨ z = 1) : c01 (upd cl j z) := fun k hk => by
  unfold upd
  split
  · exact hz
  · exact h k hk
theorem c01_dial {cl : Nat → Int32} (h : c01 cl) (fr : Nat) (bits : Int32) : ∀ n, c01 (q_dial cl fr bits n)
  | 0 => h
  | n + 1 => c01_upd (c01_dial h fr bits n) _ xm_b01
theorem gw_in12 {x : Int32} {n : Nat} (hn : n ≤ 12) (h : gw x 0 (nI n - 1)) : vp_in x 12 := by
  obtain ⟨j, hj, e⟩ := gw_part hn (by decide) h
  rw [e]; exact vp_in_nI (by omega) (by decide)
noncomputable def m_wc (B : wb) (rl cl : Nat → Int32) (sl : Int32) (Z : mt_S) (hc : mt_H) (tr : mt_T) : Int32 × mt_S × mt_H × mt_T :=
  ((m_t1 B rl cl sl Z hc).1, m_untry (m_try Z tr) Z.2.2.2 (m_t1 B rl cl sl Z hc).2.1, (m_t1 B rl cl sl Z hc).2.2, m_try Z tr)
def q_nl (pa st ct : Nat → Int32) (n : Nat) : Nat → Nat → Int32
  | 0 => pa
  | r + 1 => upd (upd (q_nl pa st ct n r) (33 * n + r) (st r)) (33 * n + 16 + r) (ct r)
def q_note (pa : Nat → Int32) (Z : mt_S) (n : Nat) : Nat → Int32 := upd (q_nl pa Z.1 Z.2.1 n 16) (33 * n + 32) (if ¬ Z.2.2.2 = 0 then 1 else 0)
def q_al (pa : Nat → Int32) (a b : Nat) : Nat → Nat → Int32
  | 0, _ => 1
  | j + 1, k => if pa (33 * a + k) = pa (33 * b + k) then q_al pa a b j (k + 1) else 0
theorem q_al01 (pa : Nat → Int32) (a b : Nat) : ∀ j k, q_al pa a b j k = 0 ∨ q_al pa a b j k = 1
  | 0, _ => Or.inr rfl
  | j + 1, k => by
    rw [q_al]
    split
    · exact q_al01 pa a b j (k + 1)
    · exact Or.inl rfl
def q_bf (pa : Nat → Int32) (n : Nat) : Nat → Nat → Int32
  | 0, _ => -1
  | j + 1, k => if q_al pa k n 33 0 = 0 then q_bf pa n j (k + 1) else nI k
noncomputable def q_circ (B : wb) (rl cl : Nat → Int32) (sl : Int32) : Nat → Nat → mt_S → mt_H → (Nat → Int32) → Int32 × Nat × mt_S × mt_H × (Nat → Int32)
  | 0, n, Z, hc, pa => (-1, n, Z, hc, pa)
  | j + 1, n, Z, hc, pa =>
    if q_bf (q_note pa (m_t1 B rl cl sl Z hc).2.1 (n + 1)) (n + 1) (n + 1) 0 = -1 then q_circ B rl cl sl j (n + 1) (m_t1 B rl cl sl Z hc).2.1 (m_t1 B rl cl sl Z hc).2.2 (q_note pa (m_t1 B rl cl sl Z hc).2.1 (n + 1))
    else (q_bf (q_note pa (m_t1 B rl cl sl Z hc).2.1 (n + 1)) (n + 1) (n + 1) 0, n + 1, (m_t1 B rl cl sl Z hc).2.1, (m_t1 B rl cl sl Z hc).2.2, q_note pa (m_t1 B rl cl sl Z hc).2.1 (n + 1))
noncomputable def q_ol (B : wb) (rl cl : Nat → Int32) (sl : Int32) : Nat → mt_S → mt_H → mt_T → Int32 × mt_S × mt_H × mt_T
  | 0, Z, hc, tr => (-1, Z, hc, tr)
  | j + 1, Z, hc, tr =>
    if (m_wc B rl cl sl Z hc tr).1 = 0 then (m_up (m_wc B rl cl sl Z hc tr).2.1.1 B.1.2.2 ||| (if (m_wc B rl cl sl Z hc tr).2.1.2.2.2 = 0 then 0 else 65536), (m_wc B rl cl sl Z hc tr).2)
    else if j = 0 then (-1, (m_wc B rl cl sl Z hc tr).2)
    else q_ol B rl cl sl j (m_t1 B rl cl sl (m_wc B rl cl sl Z hc tr).2.1 (m_wc B rl cl sl Z hc tr).2.2.1).2.1 (m_t1 B rl cl sl (m_wc B rl cl sl Z hc tr).2.1 (m_wc B rl cl sl Z hc tr).2.2.1).2.2 (m_wc B rl cl sl Z hc tr).2.2.2
noncomputable def q_out (B : wb) (rl cl : Nat → Int32) (kp : mt_K) (x : Nat) (z sl : Int32) (m : Nat) (Z : mt_S) (hc : mt_H) (tr : mt_T) : Int32 × mt_S × mt_H × mt_T :=
  q_ol B rl (upd cl x z) sl (m + 1) (m_laf B rl (upd cl x z) (m_back kp Z) hc).1 (m_laf B rl (upd cl x z) (m_back kp Z) hc).2 tr
theorem upd_back (cl : Nat → Int32) (x : Nat) (z : Int32) : upd (upd cl x z) x (cl x) = cl := by
  funext k
  unfold upd
  by_cases h : k = x
  · subst h; simp
  · simp [h]
noncomputable def q_race (B : wb) (rl cl : Nat → Int32) (kp : mt_K) (x : Nat) (z : Int32) (m : Nat) (no : Int32) : Nat → Int32 → mt_S → mt_H → mt_T → Int32 × mt_S × mt_H × mt_T
  | 0, f, Z, hc, tr => (f, Z, hc, tr)
  | s + 1, f, Z, hc, tr => q_race B rl cl kp x z m no s (if (q_out B rl cl kp x z (nI (s + 1)) m Z hc tr).1 = no then f else nI (s + 1)) (q_out B rl cl kp x z (nI (s + 1)) m Z hc tr).2.1 (q_out B rl cl kp x z (nI (s + 1)) m Z hc tr).2.2.1 (q_out B rl cl kp x z (nI (s + 1)) m Z hc tr).2.2.2
