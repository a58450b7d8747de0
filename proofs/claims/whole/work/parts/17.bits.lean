-- PURE: the lowest bit of a number
theorem pb_odd : ∀ n : Nat, n ≠ 0 → ∃ t q, n = 2 ^ t * (2 * q + 1) := by
  intro n
  induction n using Nat.strongRecOn with
  | ind n ih =>
    intro h
    by_cases ho : n % 2 = 1
    · exact ⟨0, n / 2, by omega⟩
    · obtain ⟨t, q, e⟩ := ih (n / 2) (by omega) (by omega)
      refine ⟨t + 1, q, ?_⟩
      rw [Nat.pow_succ, Nat.mul_assoc, Nat.mul_comm 2, ← Nat.mul_assoc, ← e]
      omega
theorem pb_tb (t q j : Nat) : (2 ^ t * (2 * q + 1)).testBit j = (decide (j = t) || (decide (t < j) && q.testBit (j - (t + 1)))) := by
  have e : 2 ^ t * (2 * q + 1) = 2 ^ (t + 1) * q + 2 ^ t := by rw [Nat.pow_succ]; rw [Nat.mul_add, Nat.mul_one, Nat.mul_assoc]
  have hlt : 2 ^ t < 2 ^ (t + 1) := Nat.pow_lt_pow_right (by decide) (by omega)
  rw [e, Nat.testBit_two_pow_mul_add _ hlt]
  by_cases h : j < t + 1
  · rw [if_pos h]
    by_cases h2 : j = t
    · subst h2; simp
    · have h3 : ¬ t < j := by omega
      rw [Nat.testBit_two_pow]
      simp [h2, h3, Ne.symm h2]
  · rw [if_neg h]
    have h2 : ¬ j = t := by omega
    have h3 : t < j := by omega
    simp [h2, h3]
theorem pb_tb1 (t q j : Nat) : (2 ^ t * (2 * q + 1) - 1).testBit j = (decide (j < t) || (decide (t < j) && q.testBit (j - (t + 1)))) := by
  have hp : 0 < 2 ^ t := Nat.pow_pos (by decide)
  have e : 2 ^ t * (2 * q + 1) - 1 = 2 ^ (t + 1) * q + (2 ^ t - 1) := by
    have e0 : 2 ^ t * (2 * q + 1) = 2 ^ (t + 1) * q + 2 ^ t := by rw [Nat.pow_succ]; rw [Nat.mul_add, Nat.mul_one, Nat.mul_assoc]
    omega
  have hlt : 2 ^ t - 1 < 2 ^ (t + 1) := by
    have : 2 ^ t < 2 ^ (t + 1) := Nat.pow_lt_pow_right (by decide) (by omega)
    omega
  rw [e, Nat.testBit_two_pow_mul_add _ hlt]
  by_cases h : j < t + 1
  · rw [if_pos h, Nat.testBit_two_pow_sub_one]
    have h3 : ¬ t < j := by omega
    simp [h3]
  · rw [if_neg h]
    have h2 : ¬ j < t := by omega
    have h3 : t < j := by omega
    simp [h2, h3]
/-- the lowest bit t of x: x and x - 1 without it; ~x & (x - 1): all below it -/
theorem pb_low {w : Nat} (x : BitVec w) (h : x ≠ 0#w) : ∃ t, t < w ∧ x.getLsbD t = true ∧ (∀ j, j < t → x.getLsbD j = false) ∧ (∀ j, (x &&& (x - 1#w)).getLsbD j = (x.getLsbD j && decide (j ≠ t))) ∧ (∀ j, (~~~x &&& (x - 1#w)).getLsbD j = decide (j < t)) := by
  have hn : x.toNat ≠ 0 := fun e => h (BitVec.eq_of_toNat_eq (by simpa using e))
  obtain ⟨t, q, e⟩ := pb_odd x.toNat hn
  have hlt : x.toNat < 2 ^ w := x.isLt
  have htw : t < w := by
    have h1 : 2 ^ t ≤ x.toNat := by rw [e]; exact Nat.le_mul_of_pos_right _ (by omega)
    exact (Nat.pow_lt_pow_iff_right (a := 2) (by decide)).mp (Nat.lt_of_le_of_lt h1 hlt)
  have hw : 0 < w := by omega
  have h1 : (1#w).toNat = 1 := by
    rw [BitVec.toNat_ofNat]
    exact Nat.mod_eq_of_lt (Nat.one_lt_two_pow (by omega))
  have hs : (x - 1#w).toNat = x.toNat - 1 := by
    have := BitVec.toNat_sub_of_le (x := x) (y := 1#w) (by rw [BitVec.le_def, h1]; omega)
    rw [this, h1]
  have g : ∀ j, x.getLsbD j = (decide (j = t) || (decide (t < j) && q.testBit (j - (t + 1)))) := fun j => by
    rw [BitVec.getLsbD, e, pb_tb]
  have g1 : ∀ j, (x - 1#w).getLsbD j = (decide (j < t) || (decide (t < j) && q.testBit (j - (t + 1)))) := fun j => by
    rw [BitVec.getLsbD, hs, e, pb_tb1]
  refine ⟨t, htw, by rw [g]; simp, fun j hj => ?_, fun j => ?_, fun j => ?_⟩
  · rw [g]
    have a1 : ¬ j = t := by omega
    have a2 : ¬ t < j := by omega
    simp [a1, a2]
  · rw [BitVec.getLsbD_and, g, g1]
    rcases Nat.lt_trichotomy j t with a | a | a
    · have a1 : ¬ j = t := by omega
      have a2 : ¬ t < j := by omega
      simp [a1, a2, a]
    · subst a; simp
    · have a1 : ¬ j = t := by omega
      have a2 : ¬ j < t := by omega
      simp [a1, a2, a]
  · rw [BitVec.getLsbD_and, BitVec.getLsbD_not, g, g1]
    rcases Nat.lt_trichotomy j t with a | a | a
    · have a1 : ¬ j = t := by omega
      have a2 : ¬ t < j := by omega
      have a3 : j < w := by omega
      simp [a1, a2, a, a3]
    · subst a; simp
    · have a1 : ¬ j = t := by omega
      have a2 : ¬ j < t := by omega
      simp [a1, a2, a]
theorem pb_low_eq {w : Nat} (x : BitVec w) {t : Nat} (ht : t < w) (h : ∀ j, (~~~x &&& (x - 1#w)).getLsbD j = decide (j < t)) : ~~~x &&& (x - 1#w) = BitVec.ofNat w (2 ^ t - 1) := by
  apply BitVec.eq_of_getLsbD_eq
  intro j hj
  rw [h, BitVec.getLsbD_ofNat, Nat.testBit_two_pow_sub_one]
  simp [hj]
-- counting
theorem pb_count (p p' : Nat → Bool) (t : Nat) : ∀ n, t < n → p t = true → (∀ j, p' j = (p j && decide (j ≠ t))) → (List.range n).countP p' + 1 = (List.range n).countP p := by
  intro n
  induction n with
  | zero => intro h; omega
  | succ n ih =>
    intro ht hp he
    rw [List.range_succ, List.countP_append, List.countP_append]
    by_cases h : t = n
    · subst h
      have e1 : (List.range t).countP p' = (List.range t).countP p := by
        apply List.countP_congr
        intro j hj
        have : j ≠ t := by have := List.mem_range.mp hj; omega
        rw [he]; simp [this]
      rw [e1]
      have e2 : p' t = false := by rw [he]; simp
      simp [hp, e2]
    · have := ih (by omega) hp he
      have e2 : p' n = p n := by rw [he]; simp [Ne.symm h]
      have e3 : List.countP p' [n] = List.countP p [n] := by simp [List.countP_cons, e2]
      rw [e3]
      omega
theorem pb_none (p : Nat → Bool) : ∀ n, (List.range n).countP p = 0 → ∀ j, j < n → p j = false := by
  intro n h j hj
  have := List.countP_eq_zero.mp h j (List.mem_range.mpr hj)
  simpa using this
-- bits of ints and longs
def bI (x : Int32) (j : Nat) : Bool := x.toBitVec.getLsbD j
def bL (x : Int64) (j : Nat) : Bool := x.toBitVec.getLsbD j
theorem pl_xI (x : Int32) : (x ^^^ (-1)).toBitVec = ~~~x.toBitVec := by
  rw [Int32.toBitVec_xor, show (-1 : Int32).toBitVec = BitVec.allOnes 32 from by decide, BitVec.xor_allOnes]
theorem pl_xL (x : Int64) : (x ^^^ (-1)).toBitVec = ~~~x.toBitVec := by
  rw [Int64.toBitVec_xor, show (-1 : Int64).toBitVec = BitVec.allOnes 64 from by decide, BitVec.xor_allOnes]
theorem pl_itab : ∀ t, t < 32 → f_itz (Int32.ofBitVec (BitVec.ofNat 32 (2 ^ t - 1))) = nI t := by decide +kernel
theorem pl_i {x : Int32} {t : Nat} (ht : t < 32) (h1 : bI x t = true) (h0 : ∀ j, j < t → bI x j = false) : f_i x = nI t := by
  have hx : x.toBitVec ≠ 0#32 := fun e => by
    simp [bI, e] at h1
  obtain ⟨u, hu, g1, g2, -, g4⟩ := pb_low x.toBitVec hx
  have hut : u = t := by
    rcases Nat.lt_trichotomy u t with a | a | a
    · have := h0 u a; rw [bI, g1] at this; cases this
    · exact a
    · have := g2 t a; rw [bI, this] at h1; cases h1
  subst hut
  have e := pb_low_eq x.toBitVec hu g4
  have e2 : (x ^^^ (-1)) &&& (x - 1) = Int32.ofBitVec (BitVec.ofNat 32 (2 ^ u - 1)) := by
    apply Int32.toBitVec_inj.mp
    rw [Int32.toBitVec_and, pl_xI, Int32.toBitVec_sub, show (1 : Int32).toBitVec = 1#32 from rfl, e]
    rfl
  rw [f_i, e2]
  exact pl_itab u ht
theorem pl_lowI (x : Int64) (j : Nat) (hj : j < 32) : bI x.toInt32 j = bL x j := by
  rw [bI, bL, Int64.toBitVec_toInt32, BitVec.getLsbD_signExtend]
  have : j < 64 := by omega
  simp [hj, this]
theorem pl_highI (x : Int64) (j : Nat) (hj : j < 32) : bI (x.toUInt64 >>> ((32 : Int32).toInt64.toUInt64 &&& Int64.toUInt64 63)).toInt64.toInt32 j = bL x (j + 32) := by
  rw [pl_lowI _ _ hj, bL, bL]
  have e : ((32 : Int32).toInt64.toUInt64 &&& Int64.toUInt64 63) = 32 := by decide
  rw [e]
  show (x.toUInt64 >>> 32).toBitVec.getLsbD j = x.toBitVec.getLsbD (j + 32)
  rw [UInt64.toBitVec_shiftRight]
  have e2 : x.toUInt64.toBitVec = x.toBitVec := rfl
  rw [e2]
  have e3 : (UInt64.toBitVec 32 % 64).toNat = 32 := by decide
  simp [BitVec.getLsbD_ushiftRight, e3, Nat.add_comm]
theorem pl_ltz {x : Int64} (hx : ¬ x = 0) : ∃ t, t < 64 ∧ f_ltz x = nI t ∧ bL x t = true ∧ ∀ j, bL (x &&& (x - 1)) j = (bL x j && decide (j ≠ t)) := by
  have hx' : x.toBitVec ≠ 0#64 := fun e => hx (Int64.toBitVec_inj.mp e)
  obtain ⟨t, ht, g1, g2, g3, -⟩ := pb_low x.toBitVec hx'
  refine ⟨t, ht, ?_, g1, fun j => ?_⟩
  · rw [f_ltz]
    by_cases h : t < 32
    · have hn : ¬ x.toInt32 = 0 := fun e => by
        have := pl_lowI x t h
        rw [e, bL, g1] at this
        simp [bI] at this
      rw [if_pos hn]
      exact pl_i h (by rw [pl_lowI _ _ h]; exact g1) (fun j hj => by rw [pl_lowI _ _ (by omega)]; exact g2 j hj)
    · have hz : x.toInt32 = 0 := by
        apply Int32.toBitVec_inj.mp
        apply BitVec.eq_of_getLsbD_eq
        intro j hj
        have := pl_lowI x j hj
        rw [bI, bL, g2 j (by omega)] at this
        rw [this]; simp
      rw [if_neg (fun h9 => h9 hz)]
      have e := pl_i (x := (x.toUInt64 >>> ((32 : Int32).toInt64.toUInt64 &&& Int64.toUInt64 63)).toInt64.toInt32) (t := t - 32) (by omega) (by rw [pl_highI _ _ (by omega), show t - 32 + 32 = t from by omega]; exact g1) (fun j hj => by rw [pl_highI _ _ (by omega)]; exact g2 _ (by omega))
      rw [e, show (32 : Int32) = nI 32 from rfl, nI_add, show 32 + (t - 32) = t from by omega]
  · have := g3 j
    rw [bL, Int64.toBitVec_and, Int64.toBitVec_sub]
    exact this
def b48 (x : Int64) : Prop := ∀ j, 48 ≤ j → bL x j = false
theorem b48_ltz {x : Int64} (h : b48 x) (hx : ¬ x = 0) : ∃ t, t < 48 ∧ f_ltz x = nI t ∧ bL x t = true ∧ ∀ j, bL (x &&& (x - 1)) j = (bL x j && decide (j ≠ t)) := by
  obtain ⟨t, ht, g1, g2, g3⟩ := pl_ltz hx
  refine ⟨t, ?_, g1, g2, g3⟩
  rcases Nat.lt_or_ge t 48 with a | a
  · exact a
  · rw [h t a] at g2; cases g2
theorem b48_in {x : Int64} (h : b48 x) (hx : ¬ x = 0) : vp_in (f_ltz x) 48 := by
  obtain ⟨t, ht, g1, -⟩ := b48_ltz h hx
  rw [g1]; exact vp_in_nI ht (by decide)
theorem bL_and (x y : Int64) (j : Nat) : bL (x &&& y) j = (bL x j && bL y j) := by rw [bL, Int64.toBitVec_and, BitVec.getLsbD_and]; rfl
theorem bL_or (x y : Int64) (j : Nat) : bL (x ||| y) j = (bL x j || bL y j) := by rw [bL, Int64.toBitVec_or, BitVec.getLsbD_or]; rfl
theorem bL_not (x : Int64) (j : Nat) : bL (x ^^^ (-1)) j = (decide (j < 64) && !bL x j) := by rw [bL, pl_xL, BitVec.getLsbD_not]; rfl
theorem b48_and {x y : Int64} (h : b48 x) : b48 (x &&& y) := fun j hj => by rw [bL_and, h j hj]; rfl
theorem b48_or {x y : Int64} (h : b48 x) (h2 : b48 y) : b48 (x ||| y) := fun j hj => by rw [bL_or, h j hj, h2 j hj]; rfl
