-- the reference over boards in one value
def wMB (B : wb) (rl : Nat → Int32) (Z : mt_S) (cl : Nat → Int32) (hc : mt_H) (sl tk : Int32) (kp : mt_K) (pa : Nat → Int32) (tr : mt_T) (co : Int32) : xm_O := wM (pw B.1) (pw B.2.1) (pw B.2.2.1) (pw B.2.2.2.1) (pw B.2.2.2.2.1) B.2.2.2.2.2.1 B.2.2.2.2.2.2.1 B.2.2.2.2.2.2.2.1 rl Z cl hc sl tk kp pa tr co
def okM (B : wb) (rl : Nat → Int32) : Prop := okB B ∧ ∀ c, c < B.2.1.2.2 → ¬ B.2.2.2.2.2.2.2.1 c = 4 → vp_in (rl c) 16
def m_eh (B : wb) (rl st cl : Nat → Int32) : Nat → Nat → Prop := m_e (pw B.2.1) (pw B.2.2.1) B.2.2.2.2.2.2.2.1 rl st cl B.2.1.2.2 B.2.2.1.2.2 B.2.2.2.1.2.2 B.2.2.2.1.1 B.2.2.2.1.2.1
def m_ec (B : wb) (rl st cl : Nat → Int32) : Nat → Nat → Prop := m_e (pw B.2.1) (pw B.2.2.1) B.2.2.2.2.2.2.2.1 rl st cl B.2.1.2.2 B.2.2.1.2.2 B.2.2.2.1.2.2 B.2.2.2.1.2.1 B.2.2.2.1.1
noncomputable def m_lay (B : wb) (rl st cl : Nat → Int32) (hc : mt_H) : mt_H := (rowR hc.1 (Rch (m_eh B rl st cl) 0), rowR hc.2 (Rch (m_ec B rl st cl) 1))
def z_bl (Z : mt_S) (b : Int32) : mt_S := (Z.1, Z.2.1, Z.2.2.1, b)
noncomputable def m_laf (B : wb) (rl cl : Nat → Int32) (Z : mt_S) (hc : mt_H) : mt_S × mt_H := (z_bl Z (g_or Z.2.2.2 ((m_lay B rl Z.1 cl hc).1 1)), m_lay B rl Z.1 cl hc)
def m_cur (mb : Int32) (hc : mt_H) (a b : Int32) : Int32 := if mb = 0 ∧ ((¬ hc.1 a.toNatClampNeg = 0 ∧ ¬ hc.2 b.toNatClampNeg = 0) ∨ (¬ hc.1 b.toNatClampNeg = 0 ∧ ¬ hc.2 a.toNatClampNeg = 0)) then 1 else 0
theorem m_cur01 (mb : Int32) (hc : mt_H) (a b : Int32) : m_cur mb hc a b = 0 ∨ m_cur mb hc a b = 1 := xm_b01
def m_next (Z : mt_S) (r cur qp qd : Int32) : mt_S := if cur = 0 then (if Z.1 r.toNatClampNeg = 2 then m_fall Z r 1 qd else if Z.1 r.toNatClampNeg = 3 then m_fall Z r (Z.2.1 r.toNatClampNeg + 1) qd else m_hold Z r 0) else (if Z.1 r.toNatClampNeg = 0 then m_rise Z r 1 qp else if Z.1 r.toNatClampNeg = 1 then m_rise Z r (Z.2.1 r.toNatClampNeg + 1) qp else m_hold Z r 2)
def m_chg (Z Z' : mt_S) (r : Int32) : Int32 := if Z'.1 r.toNatClampNeg = Z.1 r.toNatClampNeg then (if ¬ Z'.2.1 r.toNatClampNeg = Z.2.1 r.toNatClampNeg then 1 else 0) else 1
theorem m_chg01 (Z Z' : mt_S) (r : Int32) : m_chg Z Z' r = 0 ∨ m_chg Z Z' r = 1 := by
  unfold m_chg
  split
  · exact xm_b01
  · exact Or.inr rfl
def m_move (Z : mt_S) (r cur qp qd : Int32) : Int32 × mt_S := (m_chg Z (m_next Z r cur qp qd) r, m_next Z r cur qp qd)
def m_mvs (B : wb) (sl : Int32) (hc : mt_H) (c0 : Int32) (Z0 : mt_S) : Nat → Int32 × mt_S
  | 0 => (c0, Z0)
  | i + 1 => (g_or (m_move (m_mvs B sl hc c0 Z0 i).2 (nI i) (m_cur (m_mvs B sl hc c0 Z0 i).2.2.2.2 hc (B.1.1 i) (B.1.2.1 i)) (B.2.2.2.2.2.1 i + m_more sl (nI i)) (B.2.2.2.2.2.2.1 i + m_more sl (nI i))).1 (m_mvs B sl hc c0 Z0 i).1, (m_move (m_mvs B sl hc c0 Z0 i).2 (nI i) (m_cur (m_mvs B sl hc c0 Z0 i).2.2.2.2 hc (B.1.1 i) (B.1.2.1 i)) (B.2.2.2.2.2.1 i + m_more sl (nI i)) (B.2.2.2.2.2.2.1 i + m_more sl (nI i))).2)
noncomputable def m_t1 (B : wb) (rl cl : Nat → Int32) (sl : Int32) (Z : mt_S) (hc : mt_H) : Int32 × mt_S × mt_H :=
  let a := m_laf B rl cl Z hc
  let c := m_mvs B sl a.2 (if ¬ a.1.2.2.2 = Z.2.2.2 then 1 else 0) a.1 B.1.2.2
  (c.1, c.2, a.2)
theorem m_mvs01 {B : wb} {sl : Int32} {hc : mt_H} {c0 : Int32} {Z0 : mt_S} (h : c0 = 0 ∨ c0 = 1) : ∀ n, (m_mvs B sl hc c0 Z0 n).1 = 0 ∨ (m_mvs B sl hc c0 Z0 n).1 = 1
  | 0 => h
  | _ + 1 => g_or01 _ _
