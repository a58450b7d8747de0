-- the reference's runs
def cpn {α : Type} (i : Nat) (f g : Nat → α) : Nat → α := fun k => if k < i then f k else g k
theorem cpn_0 {α : Type} (f g : Nat → α) : cpn 0 f g = g := by funext k; simp [cpn]
theorem cpn_s (i : Nat) (f g : Nat → Int32) : upd (cpn i f g) i (f i) = cpn (i + 1) f g := by
  funext k
  unfold upd cpn
  by_cases h : k = i
  · subst h; rw [if_pos (rfl : k = k), if_pos (show k < k + 1 by omega)]
  · rw [if_neg h]
    by_cases h2 : k < i
    · rw [if_pos h2, if_pos (show k < i + 1 by omega)]
    · rw [if_neg h2, if_neg (show ¬ k < i + 1 by omega)]
def m_keep (Z : mt_S) (tk : Int32) (kp : mt_K) : mt_K := (cpn 16 Z.1 kp.1, cpn 16 Z.2.1 kp.2.1, cpn 16 Z.2.2.1 kp.2.2.1, Z.2.2.2, tk)
def m_back (kp : mt_K) (Z : mt_S) : mt_S := (cpn 16 kp.1 Z.1, cpn 16 kp.2.1 Z.2.1, cpn 16 kp.2.2.1 Z.2.2.1, kp.2.2.2.1)
noncomputable def m_run (B : wb) (rl cl : Nat → Int32) (sl : Int32) : Nat → Nat → Int32 × mt_S × mt_H → Int32 × mt_S × mt_H
  | 0, n, a => (if a.1 = 0 then nI n else -1, a.2)
  | j + 1, n, a => if a.1 = 0 then (nI n, a.2) else m_run B rl cl sl j (n + 1) (m_t1 B rl cl sl a.2.1 a.2.2)
def m_try (Z : mt_S) (tr : mt_T) : mt_T := (cpn 16 Z.1 tr.1, cpn 16 Z.2.1 tr.2.1, cpn 16 Z.2.2.1 tr.2.2)
def m_untry (tr : mt_T) (mb : Int32) (Z : mt_S) : mt_S := (cpn 16 tr.1 Z.1, cpn 16 tr.2.1 Z.2.1, cpn 16 tr.2.2 Z.2.2.1, mb)
def m_up (st : Nat → Int32) : Nat → Int32
  | 0 => 0
  | i + 1 => m_up st i ||| (if st i = 2 then (1 : Int32) <<< (nI i &&& 31) else 0)
def z01 (Z : mt_S) : Prop := Z.2.2.2 = 0 ∨ Z.2.2.2 = 1
theorem z01_laf {B : wb} {rl cl : Nat → Int32} {Z : mt_S} {hc : mt_H} : z01 (m_laf B rl cl Z hc).1 := g_or01 _ _
theorem m_hold_bl (Z : mt_S) (r s : Int32) : (m_hold Z r s).2.2.2 = Z.2.2.2 := rfl
theorem m_next_bl (Z : mt_S) (r cur qp qd : Int32) : (m_next Z r cur qp qd).2.2.2 = Z.2.2.2 := by
  unfold m_next m_fall m_rise
  repeat' split
  all_goals rfl
theorem m_mvs_bl (B : wb) (sl : Int32) (hc : mt_H) (c0 : Int32) (Z0 : mt_S) : ∀ n, (m_mvs B sl hc c0 Z0 n).2.2.2.2 = Z0.2.2.2
  | 0 => rfl
  | n + 1 => (m_next_bl _ _ _ _ _).trans (m_mvs_bl B sl hc c0 Z0 n)
theorem z01_t1 {B : wb} {rl cl : Nat → Int32} {sl : Int32} {Z : mt_S} {hc : mt_H} : z01 (m_t1 B rl cl sl Z hc).2.1 := by
  have h := z01_laf (B := B) (rl := rl) (cl := cl) (Z := Z) (hc := hc)
  unfold z01 at h ⊢
  show (m_mvs B sl _ _ (m_laf B rl cl Z hc).1 _).2.2.2.2 = 0 ∨ (m_mvs B sl _ _ (m_laf B rl cl Z hc).1 _).2.2.2.2 = 1
  rw [m_mvs_bl]
  exact h
theorem m_t1_01 (B : wb) (rl cl : Nat → Int32) (sl : Int32) (Z : mt_S) (hc : mt_H) : (m_t1 B rl cl sl Z hc).1 = 0 ∨ (m_t1 B rl cl sl Z hc).1 = 1 := m_mvs01 xm_b01 _
