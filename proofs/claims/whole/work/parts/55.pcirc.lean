-- the states of a run, packed by the class and written out by the reference
def pkN (a c : Nat → Nat) (fr : Nat) : Nat → Nat
  | 0 => 0
  | i + 1 => pkN a c fr i * 64 + (16 * a (fr + i) + c (fr + i))
theorem pt_6 : ((6 : Int32).toInt64 &&& 63).toBitVec.smod 64 = 6#64 := by decide
theorem pt_1 : ((1 : Int32).toInt64 &&& 63).toBitVec.smod 64 = 1#64 := by decide
theorem pt_v : ∀ s, s < 4 → ∀ c, c < 10 → (((nI s) <<< ((4 : Int32) &&& 31)).toInt64 ||| (nI c).toInt64).toBitVec.toNat = 16 * s + c := by decide +kernel
theorem pt_or (x : Int64) {k : Nat} (n : BitVec 64) (hn : n.toNat = k) (hk : k < 64) (hx : x.toBitVec.toNat * 2 ^ k < 2 ^ 64) (y : Int64) (hy : y.toBitVec.toNat < 2 ^ k) {b : Int64} (hb : b.toBitVec.smod 64 = n) : ((x <<< b) ||| y).toBitVec.toNat = x.toBitVec.toNat * 2 ^ k + y.toBitVec.toNat := by
  rw [Int64.toBitVec_or, BitVec.toNat_or, Int64.toBitVec_shiftLeft, hb, BitVec.shiftLeft_eq', BitVec.toNat_shiftLeft, hn, Nat.shiftLeft_eq, Nat.mod_eq_of_lt hx, ← Nat.shiftLeft_eq, ← Nat.shiftLeft_add_eq_or_of_lt hy, Nat.shiftLeft_eq]
theorem p_pk {st ct : Nat → Int32} {a c : Nat → Nat} (h : ∀ r, r < 16 → (a r < 4 ∧ st r = nI (a r)) ∧ c r < 10 ∧ ct r = nI (c r)) {fr : Nat} (hfr : fr ≤ 8) : ∀ i, i ≤ 8 → (f_pk st ct fr i).toBitVec.toNat = pkN a c fr i ∧ pkN a c fr i < 2 ^ (6 * i)
  | 0, _ => ⟨by rw [f_pk, pkN]; rfl, by rw [pkN]; decide⟩
  | i + 1, hi => by
    obtain ⟨i1, i2⟩ := p_pk h hfr i (by omega)
    obtain ⟨⟨h1, h2⟩, h3, h4⟩ := h (fr + i) (by omega)
    have hv := pt_v _ h1 _ h3
    have hp : 2 ^ (6 * i) ≤ 2 ^ 42 := Nat.pow_le_pow_right (by decide) (by omega)
    have hs : 2 ^ (6 * (i + 1)) = 2 ^ (6 * i) * 64 := by rw [show 6 * (i + 1) = 6 * i + 6 by omega, Nat.pow_add]
    rw [f_pk, pkN, h2, h4, show ∀ x y z : Int64, (x ||| y) ||| z = x ||| (y ||| z) from fun x y z => Int64.or_assoc x y z]
    refine ⟨?_, ?_⟩
    · rw [pt_or _ (k := 6) 6#64 rfl (by decide) (by rw [i1]; omega) _ (by rw [hv]; omega) pt_6, i1, hv]
    · rw [hs]; omega
theorem pkN_inj {a c a' c' : Nat → Nat} {fr : Nat} : ∀ i, (∀ r, r < fr + i → c r < 10 ∧ c' r < 10 ∧ a r < 4 ∧ a' r < 4) → pkN a c fr i = pkN a' c' fr i → ∀ r, fr ≤ r → r < fr + i → a r = a' r ∧ c r = c' r
  | 0, _, _, r, h1, h2 => by omega
  | i + 1, hb, h, r, h1, h2 => by
    rw [pkN, pkN] at h
    obtain ⟨q1, q2, q3, q4⟩ := hb (fr + i) (by omega)
    have e1 : pkN a c fr i = pkN a' c' fr i := by omega
    by_cases e : r = fr + i
    · subst e; omega
    · exact pkN_inj i (fun r hr => hb r (by omega)) e1 r h1 (by omega)
theorem pkN_congr {a c a' c' : Nat → Nat} {fr : Nat} : ∀ i, (∀ r, fr ≤ r → r < fr + i → a r = a' r ∧ c r = c' r) → pkN a c fr i = pkN a' c' fr i
  | 0, _ => rfl
  | i + 1, h => by
    rw [pkN, pkN, pkN_congr i (fun r h1 h2 => h r h1 (by omega)), (h (fr + i) (by omega) (by omega)).1, (h (fr + i) (by omega) (by omega)).2]
theorem p_nat {n0 : Nat} {S : wt_S} {Z : mt_S} {cl : Nat → Int32} (hR : pR n0 S Z cl) : ∃ a c : Nat → Nat, ∀ r, r < 16 → ((a r < 4 ∧ S.1 r = nI (a r)) ∧ c r < 10 ∧ S.2.1 r = nI (c r)) ∧ Z.1 r = nI (a r) ∧ Z.2.1 r = nI (c r) := by
  obtain ⟨r1, r2, r3, r4, r5, r6⟩ := hR
  refine ⟨fun r => (Z.1 r).toNatClampNeg, fun r => (Z.2.1 r).toNatClampNeg, fun r hr => ?_⟩
  obtain ⟨s1, s2, s3, c, hc, e⟩ := r6 r hr
  obtain ⟨q1, q2, q3⟩ := r1 r hr
  have h1 : (Z.1 r).toNatClampNeg < 4 ∧ Z.1 r = nI (Z.1 r).toNatClampNeg := by
    rcases s1 with h | h | h | h <;> rw [h] <;> decide
  have h2 : (Z.2.1 r).toNatClampNeg = c := by rw [e, nI_clamp (by omega)]
  dsimp only
  rw [q1, q2, h2]
  exact ⟨⟨h1, hc, e⟩, h1.2, e⟩
theorem p_pack {n0 n1 : Nat} {S S' : wt_S} {Z Z' : mt_S} {cl cl' : Nat → Int32} (hR : pR n0 S Z cl) (hR' : pR n1 S' Z' cl') :
    (f_low S = f_low S' ∧ f_high S = f_high S') ↔ (∀ r, r < 16 → Z.1 r = Z'.1 r ∧ Z.2.1 r = Z'.2.1 r) ∧ Z.2.2.2 = Z'.2.2.2 := by
  obtain ⟨a, c, h⟩ := p_nat hR
  obtain ⟨a', c', h'⟩ := p_nat hR'
  have l := p_pk (fun r hr => (h r hr).1) (fr := 0) (by decide) 8 (by decide)
  have l' := p_pk (fun r hr => (h' r hr).1) (fr := 0) (by decide) 8 (by decide)
  have g := p_pk (fun r hr => (h r hr).1) (fr := 8) (by decide) 8 (by decide)
  have g' := p_pk (fun r hr => (h' r hr).1) (fr := 8) (by decide) 8 (by decide)
  have hb : ∀ (T : wt_S), s01 T → ((if ¬ T.2.2.2.2.2.2 = 0 then (1 : Int32) else 0).toInt64).toBitVec.toNat = (if T.2.2.2.2.2.2 = 0 then 0 else 1) := fun T hT => by
    rcases hT with q | q <;> rw [q] <;> decide
  have hh : ∀ (T : wt_S) (n : Nat), s01 T → (f_pk T.1 T.2.1 8 8).toBitVec.toNat = n → n < 2 ^ 48 → (f_high T).toBitVec.toNat = n * 2 + (if T.2.2.2.2.2.2 = 0 then 0 else 1) := fun T n hT hn hl => by
    unfold f_high
    rw [pt_or _ (k := 1) 1#64 rfl (by decide) (by rw [hn]; omega) _ (by rw [hb T hT]; split <;> decide) pt_1, hn, hb T hT]
  have H := hh S _ hR.2.2.2.2.1 g.1 g.2
  have H' := hh S' _ hR'.2.2.2.2.1 g'.1 g'.2
  have eb : S.2.2.2.2.2.2 = Z.2.2.2 := hR.2.2.2.1
  have eb' : S'.2.2.2.2.2.2 = Z'.2.2.2 := hR'.2.2.2.1
  have zb : Z.2.2.2 = 0 ∨ Z.2.2.2 = 1 := eb ▸ hR.2.2.2.2.1
  have zb' : Z'.2.2.2 = 0 ∨ Z'.2.2.2 = 1 := eb' ▸ hR'.2.2.2.2.1
  constructor
  · rintro ⟨e1, e2⟩
    have n1 : pkN a c 0 8 = pkN a' c' 0 8 := by
      rw [← l.1, ← l'.1]
      exact congrArg (fun x : Int64 => x.toBitVec.toNat) e1
    have n2 : (f_high S).toBitVec.toNat = (f_high S').toBitVec.toNat := by rw [e2]
    rw [H, H', eb, eb'] at n2
    have n3 : pkN a c 8 8 = pkN a' c' 8 8 ∧ Z.2.2.2 = Z'.2.2.2 := by
      rcases zb with q | q <;> rcases zb' with q' | q' <;> rw [q, q'] at n2 ⊢ <;> simp at n2 ⊢ <;> omega
    refine ⟨fun r hr => ?_, n3.2⟩
    have hbd : ∀ r, r < 16 → c r < 10 ∧ c' r < 10 ∧ a r < 4 ∧ a' r < 4 := fun r hr => ⟨(h r hr).1.2.1, (h' r hr).1.2.1, (h r hr).1.1.1, (h' r hr).1.1.1⟩
    have e : a r = a' r ∧ c r = c' r := by
      by_cases q : r < 8
      · exact pkN_inj 8 (fun r hr => hbd r (by omega)) n1 r (by omega) (by omega)
      · exact pkN_inj 8 (fun r hr => hbd r (by omega)) n3.1 r (by omega) (by omega)
    rw [(h r hr).2.1, (h r hr).2.2, (h' r hr).2.1, (h' r hr).2.2, e.1, e.2]
    exact ⟨rfl, rfl⟩
  · rintro ⟨e1, e2⟩
    have e : ∀ r, r < 16 → a r = a' r ∧ c r = c' r := fun r hr => by
      have q := e1 r hr
      rw [(h r hr).2.1, (h r hr).2.2, (h' r hr).2.1, (h' r hr).2.2] at q
      have b1 := (h r hr).1.1.1
      have b2 := (h' r hr).1.1.1
      have b3 := (h r hr).1.2.1
      have b4 := (h' r hr).1.2.1
      exact ⟨(nI_eq (by omega) (by omega)).mp q.1, (nI_eq (by omega) (by omega)).mp q.2⟩
    refine ⟨Int64.toBitVec_inj.mp (BitVec.eq_of_toNat_eq ?_), Int64.toBitVec_inj.mp (BitVec.eq_of_toNat_eq ?_)⟩
    · exact l.1.trans ((pkN_congr 8 (fun r h1 h2 => e r (by omega))).trans l'.1.symm)
    · rw [H, H', eb, eb', e2, pkN_congr 8 (fun r h1 h2 => e r (by omega))]
/-- the k-th state kept by both -/
def pH (lo hi : Nat → Int64) (pa : Nat → Int32) (k : Nat) : Prop := ∃ (n0 : Nat) (T : wt_S) (Z : mt_S) (cl : Nat → Int32), pR n0 T Z cl ∧ lo k = f_low T ∧ hi k = f_high T ∧ (∀ r, r < 16 → pa (33 * k + r) = Z.1 r ∧ pa (33 * k + 16 + r) = Z.2.1 r) ∧ pa (33 * k + 32) = (if ¬ Z.2.2.2 = 0 then 1 else 0)
theorem q_nl_at {pa st ct : Nat → Int32} {n : Nat} : ∀ r, r ≤ 16 → ∀ j, q_nl pa st ct n r j = if 33 * n ≤ j ∧ j < 33 * n + r then st (j - 33 * n) else if 33 * n + 16 ≤ j ∧ j < 33 * n + 16 + r then ct (j - (33 * n + 16)) else pa j
  | 0, _, j => by rw [q_nl, if_neg (by omega), if_neg (by omega)]
  | r + 1, hr, j => by
    rw [q_nl]
    unfold upd
    by_cases e1 : j = 33 * n + 16 + r
    · rw [if_pos e1, if_neg (by omega), if_pos (by omega)]
      congr 1; omega
    · rw [if_neg e1]
      by_cases e2 : j = 33 * n + r
      · rw [if_pos e2, if_pos (by omega)]
        congr 1; omega
      · rw [if_neg e2, q_nl_at r (by omega) j]
        by_cases q1 : 33 * n ≤ j ∧ j < 33 * n + r
        · rw [if_pos q1, if_pos (show 33 * n ≤ j ∧ j < 33 * n + (r + 1) by omega)]
        · rw [if_neg q1, if_neg (show ¬ (33 * n ≤ j ∧ j < 33 * n + (r + 1)) by omega)]
          by_cases q2 : 33 * n + 16 ≤ j ∧ j < 33 * n + 16 + r
          · rw [if_pos q2, if_pos (show 33 * n + 16 ≤ j ∧ j < 33 * n + 16 + (r + 1) by omega)]
          · rw [if_neg q2, if_neg (show ¬ (33 * n + 16 ≤ j ∧ j < 33 * n + 16 + (r + 1)) by omega)]
theorem q_note_at {pa : Nat → Int32} {Z : mt_S} {n : Nat} : (∀ r, r < 16 → q_note pa Z n (33 * n + r) = Z.1 r ∧ q_note pa Z n (33 * n + 16 + r) = Z.2.1 r) ∧ q_note pa Z n (33 * n + 32) = (if ¬ Z.2.2.2 = 0 then 1 else 0) ∧ ∀ j, j < 33 * n → q_note pa Z n j = pa j := by
  unfold q_note
  refine ⟨fun r hr => ⟨?_, ?_⟩, upd_at _ _ _, fun j hj => ?_⟩
  · rw [upd_ne _ _ (by omega), q_nl_at 16 (by decide), if_pos (show 33 * n ≤ 33 * n + r ∧ 33 * n + r < 33 * n + 16 by omega), show 33 * n + r - 33 * n = r by omega]
  · rw [upd_ne _ _ (by omega), q_nl_at 16 (by decide), if_neg (show ¬ (33 * n ≤ 33 * n + 16 + r ∧ 33 * n + 16 + r < 33 * n + 16) by omega), if_pos (show 33 * n + 16 ≤ 33 * n + 16 + r ∧ 33 * n + 16 + r < 33 * n + 16 + 16 by omega), show 33 * n + 16 + r - (33 * n + 16) = r by omega]
  · rw [upd_ne _ _ (by omega), q_nl_at 16 (by decide), if_neg (by omega), if_neg (by omega)]
theorem q_al_iff {pa : Nat → Int32} {a b : Nat} : ∀ j k, (¬ q_al pa a b j k = 0 ↔ ∀ i, k ≤ i → i < k + j → pa (33 * a + i) = pa (33 * b + i))
  | 0, k => by
    rw [q_al]
    exact ⟨fun _ i h1 h2 => by omega, fun _ => by decide⟩
  | j + 1, k => by
    rw [q_al]
    by_cases h : pa (33 * a + k) = pa (33 * b + k)
    · rw [if_pos h, q_al_iff j (k + 1)]
      refine ⟨fun H i h1 h2 => ?_, fun H i h1 h2 => H i (by omega) (by omega)⟩
      by_cases e : i = k
      · subst e; exact h
      · exact H i (by omega) (by omega)
    · rw [if_neg h]
      exact ⟨fun q => absurd rfl q, fun H => absurd (H k (by omega) (by omega)) h⟩
theorem p_alike {lo hi : Nat → Int64} {pa : Nat → Int32} {k n n0 : Nat} {T : wt_S} {Z : mt_S} {cl : Nat → Int32} (hk : pH lo hi pa k) (hR : pR n0 T Z cl) (hkn : k < n) (hn : (∀ r, r < 16 → pa (33 * n + r) = Z.1 r ∧ pa (33 * n + 16 + r) = Z.2.1 r) ∧ pa (33 * n + 32) = (if ¬ Z.2.2.2 = 0 then 1 else 0)) :
    (lo k = f_low T ∧ hi k = f_high T) ↔ ¬ q_al pa k n 33 0 = 0 := by
  obtain ⟨m0, T', Z', cl', hR', e1, e2, e3, e4⟩ := hk
  rw [e1, e2, p_pack hR' hR, q_al_iff]
  have zb : Z.2.2.2 = 0 ∨ Z.2.2.2 = 1 := hR.2.2.2.1 ▸ hR.2.2.2.2.1
  have zb' : Z'.2.2.2 = 0 ∨ Z'.2.2.2 = 1 := hR'.2.2.2.1 ▸ hR'.2.2.2.2.1
  constructor
  · rintro ⟨h1, h2⟩ i _ hi
    by_cases q1 : i < 16
    · rw [(e3 i q1).1, (hn.1 i q1).1]; exact (h1 i q1).1
    · by_cases q2 : i < 32
      · have a := (e3 (i - 16) (by omega)).2
        have b := (hn.1 (i - 16) (by omega)).2
        rw [show 33 * k + 16 + (i - 16) = 33 * k + i by omega] at a
        rw [show 33 * n + 16 + (i - 16) = 33 * n + i by omega] at b
        rw [a, b]; exact (h1 (i - 16) (by omega)).2
      · rw [show i = 32 by omega, e4, hn.2, h2]
  · intro H
    refine ⟨fun r hr => ⟨?_, ?_⟩, ?_⟩
    · rw [← (e3 r hr).1, ← (hn.1 r hr).1]; exact H r (by omega) (by omega)
    · rw [← (e3 r hr).2, ← (hn.1 r hr).2, Nat.add_assoc, Nat.add_assoc]; exact H (16 + r) (by omega) (by omega)
    · have q := H 32 (by omega) (by omega)
      rw [e4, hn.2] at q
      rcases zb with a | a <;> rcases zb' with b | b <;> rw [a, b] at q ⊢ <;> revert q <;> decide
theorem p_find {lo hi : Nat → Int64} {pa : Nat → Int32} {n n0 : Nat} {T : wt_S} {Z : mt_S} {cl : Nat → Int32} (hk : ∀ k, k < n → pH lo hi pa k) (hR : pR n0 T Z cl) (hn : (∀ r, r < 16 → pa (33 * n + r) = Z.1 r ∧ pa (33 * n + 16 + r) = Z.2.1 r) ∧ pa (33 * n + 32) = (if ¬ Z.2.2.2 = 0 then 1 else 0)) :
    ∀ j k, k + j = n → g_ff lo hi (f_low T) (f_high T) j k = q_bf pa n j k
  | 0, k, _ => rfl
  | j + 1, k, h => by
    have a := p_alike (hk k (by omega)) hR (show k < n by omega) hn
    rw [g_ff, q_bf]
    by_cases q : lo k = f_low T ∧ hi k = f_high T
    · rw [if_pos q, if_neg (a.mp q)]
    · rw [if_neg q, if_pos (Classical.byContradiction (fun h9 => q (a.mpr h9))), p_find hk hR hn j (k + 1) (by omega)]
theorem pH_keep {lo hi : Nat → Int64} {pa : Nat → Int32} {Z : mt_S} {n k : Nat} (h : pH lo hi pa k) (hk : k < n) : pH lo hi (q_note pa Z n) k := by
  obtain ⟨n0, T', Z', cl, h1, h2, h3, h4, h5⟩ := h
  refine ⟨n0, T', Z', cl, h1, h2, h3, fun r hr => ?_, ?_⟩
  · rw [q_note_at.2.2 _ (by omega), q_note_at.2.2 _ (by omega)]; exact h4 r hr
  · rw [q_note_at.2.2 _ (by omega)]; exact h5
theorem p_circ {B : wb} {rl cl : Nat → Int32} (hM : okM B rl) (hO : okO B rl) (hT : okT B) : ∀ (j n : Nat) (T : wt_S) (F : wt_F) (Z : mt_S) (hc : mt_H) (pa : Nat → Int32) (lo hi : Nat → Int64), n + j ≤ 1000 → okFl B F → pR B.1.2.2 T Z cl → (∀ k, k < n + 1 → pH lo hi pa k) →
    (g_circ B j (n + 1) T F (lo, hi, n + 1)).1 = (if (q_circ B rl cl 0 j n Z hc pa).1 = -1 then none else some ((q_circ B rl cl 0 j n Z hc pa).1 + 1000 * (nI (q_circ B rl cl 0 j n Z hc pa).2.1 - (q_circ B rl cl 0 j n Z hc pa).1))) ∧ okFl B (g_circ B j (n + 1) T F (lo, hi, n + 1)).2.2.1
  | 0, n, T, F, Z, hc, pa, lo, hi, _, hF, hR, hH => by
    rw [g_circ, q_circ]
    exact ⟨by rw [if_pos rfl], hF⟩
  | j + 1, n, T, F, Z, hc, pa, lo, hi, hj, hF, hR, hH => by
    obtain ⟨s1, s2, s3⟩ := p_step (hc := hc) 0 hM hO hT hF hR
    have hn := q_note_at (pa := pa) (Z := (m_t1 B rl cl 0 Z hc).2.1) (n := n + 1)
    have hk : ∀ k, k < n + 1 → pH lo hi (q_note pa (m_t1 B rl cl 0 Z hc).2.1 (n + 1)) k := fun k hk => pH_keep (hH k hk) hk
    have hf := p_find hk s2 ⟨hn.1, hn.2.1⟩ (n + 1) 0 (by omega)
    rw [g_circ, q_circ]
    have e1 : (g_fk (g_step B 0 T F).2.1 (lo, hi, n + 1)).1 = q_bf (q_note pa (m_t1 B rl cl 0 Z hc).2.1 (n + 1)) (n + 1) (n + 1) 0 := hf
    by_cases h : (g_fk (g_step B 0 T F).2.1 (lo, hi, n + 1)).1 = -1
    · have h2 : q_bf (q_note pa (m_t1 B rl cl 0 Z hc).2.1 (n + 1)) (n + 1) (n + 1) 0 = -1 := e1.symm.trans h
      rw [if_pos h, if_pos h2]
      have e2 : (g_fk (g_step B 0 T F).2.1 (lo, hi, n + 1)).2 = (vp_updL lo (n + 1) (f_low (g_step B 0 T F).2.1), vp_updL hi (n + 1) (f_high (g_step B 0 T F).2.1), n + 1 + 1) := by
        unfold g_fk
        dsimp only
        rw [if_pos (show g_ff lo hi _ _ (n + 1) 0 = -1 from h)]
      rw [e2]
      refine p_circ hM hO hT j (n + 1) _ _ _ _ _ _ _ (by omega) s3 s2 (fun k hk2 => ?_)
      by_cases e : k = n + 1
      · subst e
        refine ⟨_, _, _, _, s2, ?_, ?_, hn.1, hn.2.1⟩
        · unfold vp_updL; simp
        · unfold vp_updL; simp
      · obtain ⟨m0, T', Z', cl', q1, q2, q3, q4, q5⟩ := hk k (by omega)
        refine ⟨m0, T', Z', cl', q1, ?_, ?_, q4, q5⟩
        · unfold vp_updL; rw [if_neg e]; exact q2
        · unfold vp_updL; rw [if_neg e]; exact q3
    · have h2 : ¬ q_bf (q_note pa (m_t1 B rl cl 0 Z hc).2.1 (n + 1)) (n + 1) (n + 1) 0 = -1 := fun q => h (e1.trans q)
      rw [if_neg h, if_neg h2]
      dsimp only
      rw [if_neg h2, e1]
      exact ⟨rfl, s3⟩
theorem p_circ0 {B : wb} {rl cl : Nat → Int32} (hM : okM B rl) (hO : okO B rl) (hT : okT B) {m : Nat} (hm : m ≤ 500) {T : wt_S} {F : wt_F} {Z : mt_S} (hc : mt_H) (pa : Nat → Int32) (lo hi : Nat → Int64) (hF : okFl B F) (hR : pR B.1.2.2 T Z cl) :
    (g_circ B m 1 T F (g_fk T (lo, hi, 0)).2).1 = (if (q_circ B rl cl 0 m 0 Z hc (q_note pa Z 0)).1 = -1 then none else some ((q_circ B rl cl 0 m 0 Z hc (q_note pa Z 0)).1 + 1000 * (nI (q_circ B rl cl 0 m 0 Z hc (q_note pa Z 0)).2.1 - (q_circ B rl cl 0 m 0 Z hc (q_note pa Z 0)).1))) ∧ okFl B (g_circ B m 1 T F (g_fk T (lo, hi, 0)).2).2.2.1 := by
  have e2 : (g_fk T (lo, hi, 0)).2 = (vp_updL lo 0 (f_low T), vp_updL hi 0 (f_high T), 0 + 1) := by
    unfold g_fk
    dsimp only
    rw [if_pos (show g_ff lo hi _ _ 0 0 = -1 from rfl)]
  rw [e2]
  have hn := q_note_at (pa := pa) (Z := Z) (n := 0)
  refine p_circ hM hO hT m 0 T F Z hc _ _ _ (by omega) hF hR (fun k hk => ?_)
  have e : k = 0 := by omega
  subst e
  refine ⟨_, T, Z, cl, hR, ?_, ?_, hn.1, hn.2.1⟩
  · unfold vp_updL; simp
  · unfold vp_updL; simp
