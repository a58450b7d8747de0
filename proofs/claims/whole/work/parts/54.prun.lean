-- ticks, dials, runs of both
theorem pR_Z {n0 : Nat} {S : wt_S} {Z Z' : mt_S} {cl : Nat → Int32} (h : ∀ r, r < 16 → Z'.1 r = Z.1 r ∧ Z'.2.1 r = Z.2.1 r ∧ Z'.2.2.1 r = Z.2.2.1 r) (hb : Z'.2.2.2 = Z.2.2.2) (hR : pR n0 S Z cl) : pR n0 S Z' cl := by
  obtain ⟨r1, ⟨k1, k2, k3⟩, r3, r4, r5, r6⟩ := hR
  refine ⟨fun r hr => ?_, ⟨fun r hr => ?_, fun r hr => ?_, k3⟩, r3, by rw [hb]; exact r4, r5, fun r hr => ?_⟩
  · rw [(h r hr).1, (h r hr).2.1, (h r hr).2.2]; exact r1 r hr
  · rw [(h r hr).1]; exact k1 r hr
  · rw [(h r hr).1]; exact k2 r hr
  · rw [(h r hr).1, (h r hr).2.1]; exact r6 r hr
theorem pR_bec {n0 : Nat} {S : wt_S} (T : wt_S) {Z : mt_S} {cl : Nat → Int32} (hR : pR n0 S Z cl) : pR n0 (f_bec S T) Z cl := by
  obtain ⟨r1, r2, r3, r4, r5, r6⟩ := hR
  refine ⟨fun r hr => ?_, r2, r3, r4, r5, r6⟩
  unfold f_bec
  dsimp only
  have e : ∀ f g : Nat → Int32, va_cpy f g 0 0 16 r = f r := fun f g => by unfold va_cpy; rw [if_pos ⟨Nat.zero_le _, by omega⟩]; simp
  rw [e, e, e]
  exact r1 r hr
theorem cpn_in {f g : Nat → Int32} {r n : Nat} (h : r < n) : cpn n f g r = f r := by unfold cpn; rw [if_pos h]
theorem pR_back {n0 : Nat} {S : wt_S} {Z : mt_S} (tk : Int32) (kp : mt_K) (Z1 : mt_S) {cl : Nat → Int32} (hR : pR n0 S Z cl) : pR n0 S (m_back (m_keep Z tk kp) Z1) cl := by
  refine pR_Z (Z := Z) (fun r hr => ?_) rfl hR
  unfold m_back m_keep
  dsimp only
  rw [cpn_in hr, cpn_in hr, cpn_in hr, cpn_in hr, cpn_in hr, cpn_in hr]
  exact ⟨rfl, rfl, rfl⟩
theorem pR_untry {n0 : Nat} {S : wt_S} {Z : mt_S} (tr : mt_T) (Z1 : mt_S) {cl : Nat → Int32} (hR : pR n0 S Z cl) : pR n0 S (m_untry (m_try Z tr) Z.2.2.2 Z1) cl := by
  refine pR_Z (Z := Z) (fun r hr => ?_) rfl hR
  unfold m_untry m_try
  dsimp only
  rw [cpn_in hr, cpn_in hr, cpn_in hr, cpn_in hr, cpn_in hr, cpn_in hr]
  exact ⟨rfl, rfl, rfl⟩
theorem p_tick {B : wb} {rl cl : Nat → Int32} {S : wt_S} {Z : mt_S} {F : wt_F} {hc : mt_H} (hM : okM B rl) (hO : okO B rl) (hT : okT B) (hF : okFl B F) (hR : pR B.1.2.2 S Z cl) :
    ∀ n, (g_tick B S F n).1 = (q_tick B rl cl 0 Z hc n).1 ∧ pR B.1.2.2 (g_tick B S F n).2.1 (q_tick B rl cl 0 Z hc n).2.1 cl ∧ okFl B (g_tick B S F n).2.2
  | 0 => ⟨rfl, hR, hF⟩
  | n + 1 => by
    obtain ⟨i1, i2, i3⟩ := p_tick (hc := hc) hM hO hT hF hR n
    obtain ⟨s1, s2, s3⟩ := p_step (hc := (q_tick B rl cl 0 Z hc n).2.2) 0 hM hO hT i3 i2
    rw [g_tick, q_tick]
    refine ⟨?_, s2, s3⟩
    dsimp only
    rw [s1, i1]
    by_cases h : (m_t1 B rl cl 0 (q_tick B rl cl 0 Z hc n).2.1 (q_tick B rl cl 0 Z hc n).2.2).1 = 0
    · rw [if_pos h, if_neg (fun q => q h), Int32.add_zero]
    · rw [if_neg h, if_pos h]
theorem p_hbcl {closed : Int32} {cl : Nat → Int32} (hk : ∀ k, k < 12 → (bI closed k = true ↔ ¬ cl k = 0)) (h01 : c01 cl) {j : Nat} (hj : j < 12) : f_hb closed (nI j) = cl j := by
  rw [p_hb _ (show j < 32 by omega)]
  rcases h01 j hj with h | h
  · rw [h, if_neg (fun q => ((hk j hj).mp q) h)]
  · rw [h, if_pos ((hk j hj).mpr (by rw [h]; decide))]
theorem p_sk {n0 : Nat} {S : wt_S} {Z : mt_S} {cl : Nat → Int32} {j : Nat} {z : Int32} (hR : pR n0 S Z cl) (h01 : c01 cl) (hj : j < 12) (hz : z = 0 ∨ z = 1) : (f_sk S (nI j) z).1 = (if ¬ cl j = z then 1 else 0) ∧ pR n0 (f_sk S (nI j) z).2 Z (upd cl j z) := by
  obtain ⟨r1, ⟨k1, k2, k3⟩, r3, r4, r5, r6⟩ := hR
  unfold f_sk
  refine ⟨by dsimp only; rw [p_hbcl k3 h01 hj], r1, ⟨k1, k2, fun k hk => ?_⟩, r3, r4, r5, r6⟩
  dsimp only
  rw [p_wb _ (show j < 32 by omega)]
  unfold upd
  by_cases e : k = j
  · rw [if_pos e, if_pos e]; simp
  · rw [if_neg e, if_neg e]; exact k3 k hk
theorem p_bit (bits : Int32) {i : Nat} (hi : i < 16) : f_hb bits (nI i) = (if (bits >>> (nI i &&& 31)) &&& 1 = 1 then 1 else 0) := by
  have h := (p_more bits hi).2
  unfold f_hb
  have e : (bits >>> (nI i &&& 31)) &&& 1 = m_more bits (nI i) := rfl
  rw [e]
  rcases h with h | h <;> rw [h] <;> decide
theorem p_dial {n0 : Nat} {S : wt_S} {Z : mt_S} {cl : Nat → Int32} {fr : Nat} {bits : Int32} (hR : pR n0 S Z cl) (h01 : c01 cl) : ∀ m, fr + m ≤ 12 → pR n0 (g_dial S (nI fr) bits m) Z (q_dial cl fr bits m)
  | 0, _ => hR
  | m + 1, h => by
    have ih := p_dial (fr := fr) (bits := bits) hR h01 m (by omega)
    rw [g_dial, q_dial, nI_add, p_bit bits (show m < 16 by omega)]
    exact (p_sk ih (c01_dial h01 fr bits m) (show fr + m < 12 by omega) xm_b01).2
theorem p_run {B : wb} {rl cl : Nat → Int32} (sl : Int32) (hM : okM B rl) (hO : okO B rl) (hT : okT B) : ∀ (j d : Nat) (S : wt_S) (F : wt_F) (Z : mt_S) (hc : mt_H), okFl B F → pR B.1.2.2 S Z cl →
    (g_run B sl (j + 1) d S F).1 = (m_run B rl cl sl j d (m_t1 B rl cl sl Z hc)).1 ∧ pR B.1.2.2 (g_run B sl (j + 1) d S F).2.1 (m_run B rl cl sl j d (m_t1 B rl cl sl Z hc)).2.1 cl ∧ okFl B (g_run B sl (j + 1) d S F).2.2
  | 0, d, S, F, Z, hc, hF, hR => by
    obtain ⟨s1, s2, s3⟩ := p_step (hc := hc) sl hM hO hT hF hR
    rw [g_run, m_run]
    by_cases h : (g_step B sl S F).1 = 0
    · rw [if_pos h]
      dsimp only
      rw [if_pos (s1 ▸ h)]
      exact ⟨rfl, s2, s3⟩
    · rw [if_neg h, g_run]
      dsimp only
      rw [if_neg (s1 ▸ h)]
      exact ⟨rfl, s2, s3⟩
  | j + 1, d, S, F, Z, hc, hF, hR => by
    obtain ⟨s1, s2, s3⟩ := p_step (hc := hc) sl hM hO hT hF hR
    rw [g_run, m_run]
    by_cases h : (g_step B sl S F).1 = 0
    · rw [if_pos h, if_pos (s1 ▸ h)]
      exact ⟨rfl, s2, s3⟩
    · rw [if_neg h, if_neg (s1 ▸ h)]
      exact p_run sl hM hO hT j (d + 1) _ _ _ _ s3 s2
theorem m_up_b (st : Nat → Int32) : ∀ n, n ≤ 31 → ∀ i, bI (m_up st n) i = (decide (i < n) && decide (st i = 2))
  | 0, _, i => by rw [m_up, bI]; simp
  | n + 1, hn, i => by
    rw [m_up, bI_or, m_up_b st n (by omega) i]
    by_cases q : st n = 2
    · rw [if_pos q, p_one (show n < 32 by omega)]
      by_cases e : i = n
      · subst e; simp [q]
      · have : (i < n + 1) ↔ i < n := by omega
        simp [this, e]
    · rw [if_neg q, show bI 0 i = false by rw [bI]; simp, Bool.or_false]
      by_cases e : i = n
      · subst e; simp [q]
      · have : (i < n + 1) ↔ i < n := by omega
        simp [this]
theorem p_ups {n0 : Nat} {S : wt_S} {Z : mt_S} {cl : Nat → Int32} (h16 : n0 ≤ 16) (hR : pR n0 S Z cl) : S.2.2.2.1 = m_up Z.1 n0 := by
  obtain ⟨r1, ⟨k1, k2, k3⟩, r3, r4, r5, r6⟩ := hR
  refine pI_ext (fun j hj => ?_)
  rw [m_up_b _ _ (by omega)]
  by_cases h : j < 16
  · by_cases q : Z.1 j = 2
    · rw [(k1 j h).mpr q]
      have : j < n0 := by
        rcases Nat.lt_or_ge j n0 with h2 | h2
        · exact h2
        · have := (r6 j h).2.2.1 h2
          rw [q] at this
          exact absurd this (by decide)
      simp [q, this]
    · rw [Bool.eq_false_iff.mpr (fun h2 => q ((k1 j h).mp h2))]; simp [q]
  · rw [r3 j (by omega)]
    simp; omega
-- a tick that changes nothing
theorem m_next_ne (Z : mt_S) {r : Nat} (hr : r < 16) (cur qp qd : Int32) {j : Nat} (h : ¬ j = r) : (m_next Z (nI r) cur qp qd).1 j = Z.1 j := by
  have e : ∀ (Y : mt_S) (s : Int32), (m_hold Y (nI r) s).1 j = Y.1 j := fun Y s => by unfold m_hold; rw [nI_clamp (show r < 2 ^ 31 by omega)]; exact upd_ne _ _ h
  have e2 : ∀ (Y : mt_S) (s n : Int32), (m_set Y (nI r) s n).1 j = Y.1 j := fun Y s n => by unfold m_set; rw [nI_clamp (show r < 2 ^ 31 by omega)]; exact upd_ne _ _ h
  have e3 : ∀ (Y : mt_S), (m_wear Y (nI r)).1 j = Y.1 j := fun Y => rfl
  unfold m_next m_rise m_fall
  repeat' split
  all_goals simp only [e, e2, e3]
theorem m_mvs_0 {B : wb} {sl : Int32} {hc : mt_H} {c0 : Int32} {Z0 : mt_S} : ∀ n, n ≤ 16 → (m_mvs B sl hc c0 Z0 n).1 = 0 → c0 = 0 ∧ ∀ j, (m_mvs B sl hc c0 Z0 n).2.1 j = Z0.1 j
  | 0, _, h => ⟨h, fun _ => rfl⟩
  | n + 1, hn, h => by
    rw [m_mvs] at h ⊢
    dsimp only at h ⊢
    unfold g_or at h
    by_cases h1 : (m_move (m_mvs B sl hc c0 Z0 n).2 (nI n) (m_cur (m_mvs B sl hc c0 Z0 n).2.2.2.2 hc (B.1.1 n) (B.1.2.1 n)) (B.2.2.2.2.2.1 n + m_more sl (nI n)) (B.2.2.2.2.2.2.1 n + m_more sl (nI n))).1 = 0
    · rw [if_neg (fun q => q h1)] at h
      by_cases h2 : (m_mvs B sl hc c0 Z0 n).1 = 0
      · obtain ⟨i1, i2⟩ := m_mvs_0 n (by omega) h2
        refine ⟨i1, fun j => ?_⟩
        by_cases e : j = n
        · subst e
          unfold m_move m_chg at h1
          rw [nI_clamp (show j < 2 ^ 31 by omega)] at h1
          dsimp only at h1
          split at h1
          · next q => exact q.trans (i2 j)
          · exact absurd h1 (by decide)
        · exact (m_next_ne _ (by omega) _ _ _ e).trans (i2 j)
      · rw [if_pos h2] at h; exact absurd h (by decide)
    · rw [if_pos h1] at h; exact absurd h (by decide)
theorem m_t1_0 {B : wb} {rl cl : Nat → Int32} {sl : Int32} {Z : mt_S} {hc : mt_H} (h16 : B.1.2.2 ≤ 16) (h : (m_t1 B rl cl sl Z hc).1 = 0) : (∀ j, (m_t1 B rl cl sl Z hc).2.1.1 j = Z.1 j) ∧ (m_t1 B rl cl sl Z hc).2.1.2.2.2 = Z.2.2.2 := by
  unfold m_t1 at h ⊢
  dsimp only at h ⊢
  obtain ⟨h1, h2⟩ := m_mvs_0 _ h16 h
  refine ⟨h2, ?_⟩
  rw [m_mvs_bl]
  by_cases q : (m_laf B rl cl Z hc).1.2.2.2 = Z.2.2.2
  · exact q
  · rw [if_pos q] at h1; exact absurd h1 (by decide)
theorem m_up_congr {st st' : Nat → Int32} : ∀ n, (∀ j, j < n → st j = st' j) → m_up st n = m_up st' n
  | 0, _ => rfl
  | n + 1, h => by rw [m_up, m_up, m_up_congr n (fun j hj => h j (by omega)), h n (by omega)]
-- outcomes
theorem p_ol {B : wb} {rl cl : Nat → Int32} (sl : Int32) (hM : okM B rl) (hO : okO B rl) (hT : okT B) : ∀ (j d : Nat) (T : wt_S) (F : wt_F) (Z : mt_S) (hc : mt_H) (tr : mt_T), d + j < 1000 → okFl B F → pR B.1.2.2 T Z cl →
    (if (g_run B sl j d T F).1 = -1 then -1 else (g_run B sl j d T F).2.1.2.2.2.1 ||| (if (g_run B sl j d T F).2.1.2.2.2.2.2.2 = 0 then 0 else 65536)) = (q_ol B rl cl sl j Z hc tr).1 ∧ okFl B (g_run B sl j d T F).2.2
  | 0, d, T, F, Z, hc, tr, _, hF, hR => by
    rw [g_run, q_ol]
    exact ⟨by rw [if_pos rfl], hF⟩
  | j + 1, d, T, F, Z, hc, tr, hd, hF, hR => by
    have h16 : B.1.2.2 ≤ 16 := hM.1.1.1
    obtain ⟨s1, s2, s3⟩ := p_step (hc := hc) sl hM hO hT hF hR
    have ew : (m_wc B rl cl sl Z hc tr).1 = (m_t1 B rl cl sl Z hc).1 := rfl
    have hR2 : pR B.1.2.2 T (m_wc B rl cl sl Z hc tr).2.1 cl := pR_untry tr _ hR
    rw [g_run, q_ol]
    by_cases h : (g_step B sl T F).1 = 0
    · have ht : (m_t1 B rl cl sl Z hc).1 = 0 := s1 ▸ h
      obtain ⟨t1, t2⟩ := m_t1_0 h16 ht
      rw [if_pos h, if_pos (ew.trans ht)]
      dsimp only
      rw [if_neg (nI_ne d (by omega))]
      refine ⟨?_, s3⟩
      rw [p_ups h16 s2, show (g_step B sl T F).2.1.2.2.2.2.2.2 = Z.2.2.2 from s2.2.2.2.1.trans t2]
      rw [m_up_congr (st' := (m_wc B rl cl sl Z hc tr).2.1.1) B.1.2.2 (fun j hj => by
        rw [t1 j]
        unfold m_wc m_untry m_try
        dsimp only
        rw [cpn_in (show j < 16 by omega), cpn_in (show j < 16 by omega)])]
      rfl
    · have ht : ¬ (m_t1 B rl cl sl Z hc).1 = 0 := s1 ▸ h
      rw [if_neg h, if_neg (fun q => ht (ew.symm.trans q))]
      by_cases hj : j = 0
      · subst hj
        rw [if_pos rfl, g_run]
        exact ⟨by rw [if_pos rfl], s3⟩
      · rw [if_neg hj]
        obtain ⟨u1, u2, u3⟩ := p_step (hc := (m_wc B rl cl sl Z hc tr).2.2.1) sl hM hO hT hF hR2
        exact p_ol sl hM hO hT j (d + 1) _ _ _ _ _ (by omega) s3 u2
theorem p_out {B : wb} {rl cl : Nat → Int32} (sl : Int32) (hM : okM B rl) (hO : okO B rl) (hT : okT B) (h01 : c01 cl) {x m : Nat} {z : Int32} (hx : x < 12) (hz : z = 0 ∨ z = 1) (hm : m ≤ 100) {S : wt_S} {Z0 : mt_S} (hR : pR B.1.2.2 S Z0 cl) (tk : Int32) (kp : mt_K) (T : wt_S) {F : wt_F} (hF : okFl B F) (Z : mt_S) (hc : mt_H) (tr : mt_T) :
    (g_out B S T F (nI x) z sl m).1 = (q_out B rl cl (m_keep Z0 tk kp) x z sl m Z hc tr).1 ∧ okFl B (g_out B S T F (nI x) z sl m).2.2 := by
  unfold g_out q_out
  dsimp only
  have h1 := (p_sk (pR_bec T hR) h01 hx hz).2
  have h2 := pR_back tk kp Z hR
  obtain ⟨a1, a2, a3⟩ := p_laf (hc := hc) hM hO hF (show pR B.1.2.2 (f_sk (f_bec S T) (nI x) z).2 (m_back (m_keep Z0 tk kp) Z) (upd cl x z) from (p_sk (pR_bec T h2) h01 hx hz).2)
  exact p_ol sl hM hO hT (m + 1) 0 _ _ _ _ _ (by omega) a3 a2
def p_1st (o : Nat → Int32) (no : Int32) : Nat → Nat → Int32 → Int32
  | 0, _, f => f
  | j + 1, s, f => if o s = no then p_1st o no j (s + 1) f else nI s
theorem p_1st_s (o : Nat → Int32) (no : Int32) : ∀ j s f, p_1st o no (j + 1) s f = p_1st o no j s (if o (s + j) = no then f else nI (s + j))
  | 0, s, f => rfl
  | j + 1, s, f => by
    show (if o s = no then p_1st o no (j + 1) (s + 1) f else nI s) = (if o s = no then p_1st o no j (s + 1) (if o (s + (j + 1)) = no then f else nI (s + (j + 1))) else nI s)
    rw [p_1st_s o no j (s + 1) f, show s + 1 + j = s + (j + 1) by omega]
theorem p_race {B : wb} {rl cl : Nat → Int32} (hM : okM B rl) (hO : okO B rl) (hT : okT B) (h01 : c01 cl) {x m : Nat} {z : Int32} (hx : x < 12) (hz : z = 0 ∨ z = 1) (hm : m ≤ 100) {S : wt_S} {Z0 : mt_S} (hR : pR B.1.2.2 S Z0 cl) (tk : Int32) (kp : mt_K) (us : Int32) (ZZ : mt_S) (hh : mt_H) (tt : mt_T) :
    ∀ (j s : Nat) (T : wt_S) (F : wt_F), okFl B F → (g_race B S (nI x) z m us j s T F).1 = p_1st (fun s => (q_out B rl cl (m_keep Z0 tk kp) x z (nI s) m ZZ hh tt).1) us j s (-1) ∧ okFl B (g_race B S (nI x) z m us j s T F).2.2
  | 0, s, T, F, hF => ⟨rfl, hF⟩
  | j + 1, s, T, F, hF => by
    obtain ⟨o1, o2⟩ := p_out (nI s) hM hO hT h01 hx hz hm hR tk kp T hF ZZ hh tt
    rw [g_race, p_1st]
    by_cases h : (g_out B S T F (nI x) z (nI s) m).1 = us
    · rw [if_pos h, if_pos (o1.symm.trans h)]
      exact p_race hM hO hT h01 hx hz hm hR tk kp us ZZ hh tt j (s + 1) _ _ o2
    · rw [if_neg h, if_neg (fun q => h (o1.trans q))]
      exact ⟨rfl, o2⟩
theorem p_qrace {B : wb} {rl cl : Nat → Int32} (hM : okM B rl) (hO : okO B rl) (hT : okT B) (h01 : c01 cl) {x m : Nat} {z : Int32} (hx : x < 12) (hz : z = 0 ∨ z = 1) (hm : m ≤ 100) {S : wt_S} {Z0 : mt_S} (hR : pR B.1.2.2 S Z0 cl) (tk : Int32) (kp : mt_K) (us : Int32) (ZZ : mt_S) (hh : mt_H) (tt : mt_T) {F : wt_F} (hF : okFl B F) :
    ∀ (j : Nat) (f : Int32) (Z : mt_S) (hc : mt_H) (tr : mt_T), (q_race B rl cl (m_keep Z0 tk kp) x z m us j f Z hc tr).1 = p_1st (fun s => (q_out B rl cl (m_keep Z0 tk kp) x z (nI s) m ZZ hh tt).1) us j 1 f
  | 0, f, Z, hc, tr => rfl
  | j + 1, f, Z, hc, tr => by
    have o1 := (p_out (nI (j + 1)) hM hO hT h01 hx hz hm hR tk kp S hF ZZ hh tt).1.symm.trans (p_out (nI (j + 1)) hM hO hT h01 hx hz hm hR tk kp S hF Z hc tr).1
    rw [q_race, p_qrace hM hO hT h01 hx hz hm hR tk kp us ZZ hh tt hF j, p_1st_s, ← o1, Nat.add_comm 1 j]
