theorem gw_in16 {x : Int32} {n : Nat} (hn : n ≤ 16) (h : gw x 0 (nI n - 1)) : vp_in x 16 := by
  obtain ⟨j, hj, e⟩ := gw_part hn (by decide) h
  rw [e]; exact vp_in_nI (by omega) (by decide)
theorem okM_addC {B : wb} {rl : Nat → Int32} {a b u v : Int32} (h : okM B rl) (hi : B.2.1.2.2 < 64) (hu : gw u 0 4) (hv : u = 4 ∨ gw v 0 (nI B.1.2.2 - 1)) (hg : g2 a b) : okM (b_addC B u v a b) (upd rl B.2.1.2.2 v) := by
  refine ⟨okB_addC h.1 hi hu hg, fun c hc hk => ?_⟩
  have hc' : c < B.2.1.2.2 + 1 := hc
  have hk' : ¬ upd B.2.2.2.2.2.2.2.1 B.2.1.2.2 u c = 4 := hk
  unfold upd at hk' ⊢
  by_cases e : c = B.2.1.2.2
  · rw [if_pos e] at hk' ⊢
    exact gw_in16 h.1.1.1 (hv.resolve_left hk')
  · rw [if_neg e] at hk' ⊢
    exact h.2 c (by omega) hk'
def q_lit (mb : Int32) (hc : mt_H) (f g : Nat → Int32) : Nat → Int32
  | 0 => 0
  | i + 1 => q_lit mb hc f g i ||| (if m_cur mb hc (f i) (g i) = 0 then 0 else (1 : Int32) <<< (nI i &&& 31))
def m_cnt (ki rl st : Nat → Int32) : Nat → Int32
  | 0 => 0
  | i + 1 => m_cnt ki rl st i + (if ¬ m_cd ki rl st i = 0 then 1 else 0)
noncomputable def q_tick (B : wb) (rl cl : Nat → Int32) (sl : Int32) (Z : mt_S) (hc : mt_H) : Nat → Int32 × mt_S × mt_H
  | 0 => (0, Z, hc)
  | i + 1 => ((q_tick B rl cl sl Z hc i).1 + (if ¬ (m_t1 B rl cl sl (q_tick B rl cl sl Z hc i).2.1 (q_tick B rl cl sl Z hc i).2.2).1 = 0 then 1 else 0), (m_t1 B rl cl sl (q_tick B rl cl sl Z hc i).2.1 (q_tick B rl cl sl Z hc i).2.2).2)
def q_dial (cl : Nat → Int32) (fr : Nat) (bits : Int32) : Nat → Nat → Int32
  | 0 => cl
  | i + 1 => upd (q_dial cl fr bits i) (fr + i) (if (bits >>> (nI i &&& 31)) &&& 1 = 1 then 1 else 0)
theorem upd_nar (f : Nat → Int32) (k : Nat) {x : Int32} (h : x = 0 ∨ x = 1) : upd f k (vp_nar .boolean x) = upd f k x := by rw [vp_nar01 h]
