-- bits of ints and longs by number
theorem pt_sh : ∀ k, k < 32 → ((nI k &&& 31).toBitVec.smod 32) = BitVec.ofNat 32 k := by decide +kernel
theorem pt_one : ∀ k, k < 32 → ((1 : Int32) <<< (nI k &&& 31)).toBitVec = BitVec.twoPow 32 k := by decide +kernel
theorem pt_shL : ∀ k, k < 64 → (((nI k).toInt64 &&& 63).toBitVec.smod 64) = BitVec.ofNat 64 k := by decide +kernel
theorem pI_ext {x y : Int32} (h : ∀ j, j < 32 → bI x j = bI y j) : x = y := Int32.toBitVec_inj.mp (BitVec.eq_of_getLsbD_eq (fun i hi => h i hi))
theorem pL_ext {x y : Int64} (h : ∀ j, j < 64 → bL x j = bL y j) : x = y := Int64.toBitVec_inj.mp (BitVec.eq_of_getLsbD_eq (fun i hi => h i hi))
theorem pI_hi (x : Int32) {j : Nat} (h : 32 ≤ j) : bI x j = false := BitVec.getLsbD_of_ge _ _ h
theorem pI_and1 (x : Int32) : x &&& 1 = 0 ↔ bI x 0 = false := by
  constructor
  · intro h
    have h2 : bI (x &&& 1) 0 = bI 0 0 := by rw [h]
    rw [bI, Int32.toBitVec_and, BitVec.getLsbD_and] at h2
    have h3 : (1 : Int32).toBitVec.getLsbD 0 = true := by decide
    have h4 : bI 0 0 = false := by decide
    rw [h3, h4, Bool.and_true] at h2
    exact h2
  · intro h
    refine pI_ext (fun j hj => ?_)
    rw [bI, Int32.toBitVec_and, BitVec.getLsbD_and]
    have h0 : bI 0 j = false := by rw [bI]; simp
    rw [h0]
    by_cases e : j = 0
    · subst e; rw [show x.toBitVec.getLsbD 0 = false from h]; rfl
    · have h1 : (1 : Int32).toBitVec.getLsbD j = false := by
        have : (1 : Int32).toBitVec = BitVec.twoPow 32 0 := by decide
        rw [this, BitVec.getLsbD_twoPow]; simp; omega
      rw [h1, Bool.and_false]
theorem pI_shr (x : Int32) {k : Nat} (hk : k < 32) : bI (x >>> (nI k &&& 31)) 0 = bI x k := by
  rw [bI, Int32.toBitVec_shiftRight, pt_sh k hk, BitVec.sshiftRight_eq', BitVec.toNat_ofNat, Nat.mod_eq_of_lt (by omega), BitVec.getLsbD_sshiftRight]
  simp [hk, bI]
theorem p_hb (x : Int32) {k : Nat} (hk : k < 32) : f_hb x (nI k) = if bI x k = true then 1 else 0 := by
  rw [f_hb]
  by_cases h : bI x k = true
  · rw [if_pos h, if_pos]
    intro h2
    rw [pI_and1, pI_shr x hk, h] at h2
    cases h2
  · rw [if_neg h, if_neg]
    intro h2
    exact h2 ((pI_and1 _).mpr (by rw [pI_shr x hk]; exact Bool.eq_false_iff.mpr h))
theorem p_hb0 (x : Int32) {k : Nat} (hk : k < 32) : f_hb x (nI k) = 0 ↔ bI x k = false := by
  rw [p_hb x hk]
  cases bI x k <;> simp
theorem p_one {k : Nat} (hk : k < 32) (j : Nat) : bI ((1 : Int32) <<< (nI k &&& 31)) j = decide (j = k) := by
  rw [bI, pt_one k hk, BitVec.getLsbD_twoPow]
  by_cases h : j = k
  · subst h; simp [hk]
  · simp [h, Ne.symm h]
theorem bI_and (x y : Int32) (j : Nat) : bI (x &&& y) j = (bI x j && bI y j) := by rw [bI, Int32.toBitVec_and, BitVec.getLsbD_and]; rfl
theorem bI_or (x y : Int32) (j : Nat) : bI (x ||| y) j = (bI x j || bI y j) := by rw [bI, Int32.toBitVec_or, BitVec.getLsbD_or]; rfl
theorem bI_not (x : Int32) (j : Nat) : bI (x ^^^ (-1)) j = (decide (j < 32) && !bI x j) := by rw [bI, pl_xI, BitVec.getLsbD_not]; rfl
theorem p_wb (x : Int32) {k : Nat} (hk : k < 32) (b : Int32) (j : Nat) : bI (f_wb x (nI k) b) j = if j = k then decide (¬ b = 0) else bI x j := by
  unfold f_wb
  by_cases hb : b = 0
  · rw [if_pos hb, bI_and, bI_not, p_one hk]
    by_cases e : j = k
    · subst e; simp [hb]
    · rw [if_neg e]
      by_cases h : j < 32
      · simp [h, e]
      · rw [pI_hi x (by omega)]; rfl
  · rw [if_neg hb, bI_or, p_one hk]
    by_cases e : j = k
    · subst e; simp [hb]
    · simp [e]
theorem pL_and1 (x : Int64) : x &&& 1 = 0 ↔ bL x 0 = false := by
  constructor
  · intro h
    have h2 : bL (x &&& 1) 0 = bL 0 0 := by rw [h]
    rw [bL_and] at h2
    have h3 : bL 1 0 = true := by decide
    have h4 : bL 0 0 = false := by decide
    rw [h3, h4, Bool.and_true] at h2
    exact h2
  · intro h
    refine pL_ext (fun j hj => ?_)
    rw [bL_and]
    have h0 : bL 0 j = false := by rw [bL]; simp
    rw [h0]
    by_cases e : j = 0
    · subst e; rw [h]; rfl
    · have h1 : bL 1 j = false := by
        have : (1 : Int64).toBitVec = BitVec.twoPow 64 0 := by decide
        rw [bL, this, BitVec.getLsbD_twoPow]; simp; omega
      rw [h1, Bool.and_false]
theorem pL_shr (x : Int64) {k : Nat} (hk : k < 64) : bL (x >>> ((nI k).toInt64 &&& 63)) 0 = bL x k := by
  rw [bL, Int64.toBitVec_shiftRight, pt_shL k hk, BitVec.sshiftRight_eq', BitVec.toNat_ofNat, Nat.mod_eq_of_lt (by omega), BitVec.getLsbD_sshiftRight]
  simp [hk, bL]
theorem p_b64 (x : Int64) {k : Nat} (hk : k < 64) : f_b64 x (nI k) = if bL x k = true then 1 else 0 := by
  rw [f_b64]
  by_cases h : bL x k = true
  · rw [if_pos h, if_pos]
    intro h2
    rw [lg_cmp0, pL_and1, pL_shr x hk, h] at h2
    cases h2
  · rw [if_neg h, if_neg]
    intro h2
    exact h2 (lg_cmp0.mpr ((pL_and1 _).mpr (by rw [pL_shr x hk]; exact Bool.eq_false_iff.mpr h)))
theorem p_b640 (x : Int64) {k : Nat} (hk : k < 64) : f_b64 x (nI k) = 0 ↔ bL x k = false := by
  rw [p_b64 x hk]
  cases bL x k <;> simp
-- what is reached
def p_e (nx : Nat → Int64) (i k : Nat) : Prop := i < 48 ∧ bL (nx i) k = true
theorem p_rl {nx : Nat → Int64} (hR : okR nx) {a : Nat} : ∀ (j : Nat) (re op : Int64), b48 re → b48 op → (∀ k, bL op k = true → bL re k = true) → bL re a = true → (∀ k, bL re k = true → Rch (p_e nx) a k) → (∀ i k, i < 48 → bL re i = true → bL op i = false → bL (nx i) k = true → bL re k = true) → (List.range 48).countP (fun k => !bL re k || bL op k) ≤ j → ∀ k, bL (f_rl nx j re op) k = true ↔ Rch (p_e nx) a k
  | j, re, op, h1, h2, h3, h4, h5, h6, h7, k => by
    by_cases hop : op = 0
    · have e : f_rl nx j re op = re := by
        cases j with
        | zero => rfl
        | succ j => rw [f_rl, if_pos hop]
      rw [e]
      refine ⟨h5 k, fun h => h (fun x => bL re x = true) h4 (fun x y hx hxy => h6 x y hxy.1 hx ?_ hxy.2)⟩
      rw [hop, bL]; simp
    · obtain ⟨t, ht, e1, e2, e3⟩ := b48_ltz h2 hop
      have hp := pb_count (fun k => !bL re k || bL op k) (fun k => (!bL re k || bL op k) && decide (k ≠ t)) t 48 ht (by simp [e2]) (fun _ => rfl)
      cases j with
      | zero => exact absurd h7 (by omega)
      | succ j =>
        rw [f_rl, if_neg hop, e1, nI_clamp (by omega)]
        have hnew : ∀ k, bL (nx t &&& (re ^^^ (-1))) k = (bL (nx t) k && !bL re k) := fun k => by
          rw [bL_and, bL_not]
          by_cases hk : k < 64
          · simp [hk]
          · rw [show bL (nx t) k = false from BitVec.getLsbD_of_ge _ _ (by omega)]; rfl
        have hret : bL re t = true := h3 t e2
        refine p_rl hR j _ _ (b48_or h1 (b48_and (hR t ht))) (b48_or (b48_and h2) (b48_and (hR t ht))) ?_ ?_ ?_ ?_ ?_ k
        · intro k
          rw [bL_or, bL_or, e3, hnew]
          have := h3 k
          revert this
          cases bL op k <;> cases bL re k <;> cases bL (nx t) k <;> simp
        · rw [bL_or, h4]; rfl
        · intro k
          rw [bL_or, hnew]
          intro hk
          by_cases hr : bL re k = true
          · exact h5 k hr
          · refine (h5 t hret).tr ⟨ht, ?_⟩
            rw [Bool.eq_false_iff.mpr hr] at hk
            simpa using hk
        · intro i k hi
          rw [bL_or, bL_or, bL_or, e3, hnew, hnew]
          by_cases hit : i = t
          · subst hit
            intro _ _ hk
            rw [hk]
            cases bL re k <;> rfl
          · intro q1 q2 hk
            have q3 : bL re i = true := by
              revert q1 q2
              cases bL re i <;> cases bL (nx t) i <;> simp
            have q4 : bL op i = false := by
              revert q2
              cases bL op i <;> simp [hit]
            rw [h6 i k hi q3 q4 hk]; rfl
        · refine Nat.le_trans (Nat.le_of_eq ?_) (show (List.range 48).countP (fun k => (!bL re k || bL op k) && decide (k ≠ t)) ≤ j by omega)
          congr 1
          funext k
          rw [bL_or, bL_or, e3, hnew]
          by_cases hkt : k = t
          · subst hkt; rw [hret]; simp
          · have := h3 k
            revert this
            cases bL op k <;> cases bL re k <;> cases bL (nx t) k <;> simp [hkt]
theorem p_reach {nx : Nat → Int64} (hR : okR nx) {a : Nat} (ha : a < 48) (k : Nat) : bL (f_reach nx (nI a)) k = true ↔ Rch (p_e nx) a k := by
  have hb := b48_one (a := nI a) (vp_in_nI ha (by decide))
  refine p_rl hR 48 _ _ hb hb (fun _ h => h) (by rw [pl_one (by omega)]; simp) ?_ ?_ ?_ k
  · intro k hk
    rw [pl_one (by omega)] at hk
    rw [of_decide_eq_true hk]
    exact Rch.rf
  · intro i k _ h1 h2
    rw [h1] at h2; cases h2
  · refine Nat.le_trans List.countP_le_length (by simp)
