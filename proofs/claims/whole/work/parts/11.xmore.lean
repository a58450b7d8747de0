theorem xm_b01 {c : Prop} [Decidable c] : (if c then (1 : Int32) else 0) = 0 ∨ (if c then (1 : Int32) else 0) = 1 := by split <;> simp
section XMO
variable {E : xm_X} {own : String} {cc : ByteArray} {nL : Nat} {rt : Option FieldType} {tb : xm_H} {nm : String} {rm : Room} {Q : State → Prop} {kc ks : Nat} {ω : xm_O} {pc : Nat} {lv : List (Nat × Value)} {st : List Value}
theorem xs_bz_eq {x : Int32} {na nb off o2 : Int} {u v : Int32} {tgt J : Nat} (C : xm_C E own cc nL rt tb nm rm) (hd : decode cc pc = .ok (.ifCond .eq off, 3)) (ht : (pc : Int) + off = (tgt : Int)) (h1 : decode cc (pc + 3) = .ok (.iconst na, 1)) (hu : Int32.ofInt na = u) (h2 : decode cc (pc + 3 + 1) = .ok (.goto o2, 3)) (hj : ((pc + 3 + 1 : Nat) : Int) + o2 = (J : Int)) (h3 : decode cc tgt = .ok (.iconst nb, 1)) (hv : Int32.ofInt nb = v) (hJ : tgt + 1 = J) (k : xm_W E nL Q kc ks ω J lv (.int (if ¬ x = 0 then u else v) :: st)) : xm_W E nL Q kc ks ω pc lv (.int x :: st) := by
  refine xs_if_eq C hd ht (fun c => ?_) (fun c => ?_)
  · refine xs_iconst C h3 hv (xs_pc hJ ?_)
    have e : (if ¬ x = 0 then u else v) = v := if_neg (fun c2 => by first | exact c c2 | exact c2 c)
    rw [e] at k
    exact k
  · refine xs_iconst C h1 hu (xs_goto C h2 hj ?_)
    have e : (if ¬ x = 0 then u else v) = u := if_pos c
    rw [e] at k
    exact k
theorem xs_bi_eq {x y : Int32} {na nb off o2 : Int} {u v : Int32} {tgt J : Nat} (C : xm_C E own cc nL rt tb nm rm) (hd : decode cc pc = .ok (.if_icmp .eq off, 3)) (ht : (pc : Int) + off = (tgt : Int)) (h1 : decode cc (pc + 3) = .ok (.iconst na, 1)) (hu : Int32.ofInt na = u) (h2 : decode cc (pc + 3 + 1) = .ok (.goto o2, 3)) (hj : ((pc + 3 + 1 : Nat) : Int) + o2 = (J : Int)) (h3 : decode cc tgt = .ok (.iconst nb, 1)) (hv : Int32.ofInt nb = v) (hJ : tgt + 1 = J) (k : xm_W E nL Q kc ks ω J lv (.int (if ¬ x = y then u else v) :: st)) : xm_W E nL Q kc ks ω pc lv (.int y :: .int x :: st) := by
  refine xs_icmp_eq C hd ht (fun c => ?_) (fun c => ?_)
  · refine xs_iconst C h3 hv (xs_pc hJ ?_)
    have e : (if ¬ x = y then u else v) = v := if_neg (fun c2 => by first | exact c c2 | exact c2 c)
    rw [e] at k
    exact k
  · refine xs_iconst C h1 hu (xs_goto C h2 hj ?_)
    have e : (if ¬ x = y then u else v) = u := if_pos c
    rw [e] at k
    exact k
theorem xs_bz_ne {x : Int32} {na nb off o2 : Int} {u v : Int32} {tgt J : Nat} (C : xm_C E own cc nL rt tb nm rm) (hd : decode cc pc = .ok (.ifCond .ne off, 3)) (ht : (pc : Int) + off = (tgt : Int)) (h1 : decode cc (pc + 3) = .ok (.iconst na, 1)) (hu : Int32.ofInt na = u) (h2 : decode cc (pc + 3 + 1) = .ok (.goto o2, 3)) (hj : ((pc + 3 + 1 : Nat) : Int) + o2 = (J : Int)) (h3 : decode cc tgt = .ok (.iconst nb, 1)) (hv : Int32.ofInt nb = v) (hJ : tgt + 1 = J) (k : xm_W E nL Q kc ks ω J lv (.int (if x = 0 then u else v) :: st)) : xm_W E nL Q kc ks ω pc lv (.int x :: st) := by
  refine xs_if_ne C hd ht (fun c => ?_) (fun c => ?_)
  · refine xs_iconst C h3 hv (xs_pc hJ ?_)
    have e : (if x = 0 then u else v) = v := if_neg (fun c2 => by first | exact c c2 | exact c2 c)
    rw [e] at k
    exact k
  · refine xs_iconst C h1 hu (xs_goto C h2 hj ?_)
    have e : (if x = 0 then u else v) = u := if_pos c
    rw [e] at k
    exact k
theorem xs_bi_ne {x y : Int32} {na nb off o2 : Int} {u v : Int32} {tgt J : Nat} (C : xm_C E own cc nL rt tb nm rm) (hd : decode cc pc = .ok (.if_icmp .ne off, 3)) (ht : (pc : Int) + off = (tgt : Int)) (h1 : decode cc (pc + 3) = .ok (.iconst na, 1)) (hu : Int32.ofInt na = u) (h2 : decode cc (pc + 3 + 1) = .ok (.goto o2, 3)) (hj : ((pc + 3 + 1 : Nat) : Int) + o2 = (J : Int)) (h3 : decode cc tgt = .ok (.iconst nb, 1)) (hv : Int32.ofInt nb = v) (hJ : tgt + 1 = J) (k : xm_W E nL Q kc ks ω J lv (.int (if x = y then u else v) :: st)) : xm_W E nL Q kc ks ω pc lv (.int y :: .int x :: st) := by
  refine xs_icmp_ne C hd ht (fun c => ?_) (fun c => ?_)
  · refine xs_iconst C h3 hv (xs_pc hJ ?_)
    have e : (if x = y then u else v) = v := if_neg (fun c2 => by first | exact c c2 | exact c2 c)
    rw [e] at k
    exact k
  · refine xs_iconst C h1 hu (xs_goto C h2 hj ?_)
    have e : (if x = y then u else v) = u := if_pos c
    rw [e] at k
    exact k
theorem xs_bz_lt {x : Int32} {na nb off o2 : Int} {u v : Int32} {tgt J : Nat} (C : xm_C E own cc nL rt tb nm rm) (hd : decode cc pc = .ok (.ifCond .lt off, 3)) (ht : (pc : Int) + off = (tgt : Int)) (h1 : decode cc (pc + 3) = .ok (.iconst na, 1)) (hu : Int32.ofInt na = u) (h2 : decode cc (pc + 3 + 1) = .ok (.goto o2, 3)) (hj : ((pc + 3 + 1 : Nat) : Int) + o2 = (J : Int)) (h3 : decode cc tgt = .ok (.iconst nb, 1)) (hv : Int32.ofInt nb = v) (hJ : tgt + 1 = J) (k : xm_W E nL Q kc ks ω J lv (.int (if ¬ x < 0 then u else v) :: st)) : xm_W E nL Q kc ks ω pc lv (.int x :: st) := by
  refine xs_if_lt C hd ht (fun c => ?_) (fun c => ?_)
  · refine xs_iconst C h3 hv (xs_pc hJ ?_)
    have e : (if ¬ x < 0 then u else v) = v := if_neg (fun c2 => by first | exact c c2 | exact c2 c)
    rw [e] at k
    exact k
  · refine xs_iconst C h1 hu (xs_goto C h2 hj ?_)
    have e : (if ¬ x < 0 then u else v) = u := if_pos c
    rw [e] at k
    exact k
theorem xs_bi_lt {x y : Int32} {na nb off o2 : Int} {u v : Int32} {tgt J : Nat} (C : xm_C E own cc nL rt tb nm rm) (hd : decode cc pc = .ok (.if_icmp .lt off, 3)) (ht : (pc : Int) + off = (tgt : Int)) (h1 : decode cc (pc + 3) = .ok (.iconst na, 1)) (hu : Int32.ofInt na = u) (h2 : decode cc (pc + 3 + 1) = .ok (.goto o2, 3)) (hj : ((pc + 3 + 1 : Nat) : Int) + o2 = (J : Int)) (h3 : decode cc tgt = .ok (.iconst nb, 1)) (hv : Int32.ofInt nb = v) (hJ : tgt + 1 = J) (k : xm_W E nL Q kc ks ω J lv (.int (if ¬ x < y then u else v) :: st)) : xm_W E nL Q kc ks ω pc lv (.int y :: .int x :: st) := by
  refine xs_icmp_lt C hd ht (fun c => ?_) (fun c => ?_)
  · refine xs_iconst C h3 hv (xs_pc hJ ?_)
    have e : (if ¬ x < y then u else v) = v := if_neg (fun c2 => by first | exact c c2 | exact c2 c)
    rw [e] at k
    exact k
  · refine xs_iconst C h1 hu (xs_goto C h2 hj ?_)
    have e : (if ¬ x < y then u else v) = u := if_pos c
    rw [e] at k
    exact k
theorem xs_bz_ge {x : Int32} {na nb off o2 : Int} {u v : Int32} {tgt J : Nat} (C : xm_C E own cc nL rt tb nm rm) (hd : decode cc pc = .ok (.ifCond .ge off, 3)) (ht : (pc : Int) + off = (tgt : Int)) (h1 : decode cc (pc + 3) = .ok (.iconst na, 1)) (hu : Int32.ofInt na = u) (h2 : decode cc (pc + 3 + 1) = .ok (.goto o2, 3)) (hj : ((pc + 3 + 1 : Nat) : Int) + o2 = (J : Int)) (h3 : decode cc tgt = .ok (.iconst nb, 1)) (hv : Int32.ofInt nb = v) (hJ : tgt + 1 = J) (k : xm_W E nL Q kc ks ω J lv (.int (if ¬ 0 ≤ x then u else v) :: st)) : xm_W E nL Q kc ks ω pc lv (.int x :: st) := by
  refine xs_if_ge C hd ht (fun c => ?_) (fun c => ?_)
  · refine xs_iconst C h3 hv (xs_pc hJ ?_)
    have e : (if ¬ 0 ≤ x then u else v) = v := if_neg (fun c2 => by first | exact c c2 | exact c2 c)
    rw [e] at k
    exact k
  · refine xs_iconst C h1 hu (xs_goto C h2 hj ?_)
    have e : (if ¬ 0 ≤ x then u else v) = u := if_pos c
    rw [e] at k
    exact k
theorem xs_bi_ge {x y : Int32} {na nb off o2 : Int} {u v : Int32} {tgt J : Nat} (C : xm_C E own cc nL rt tb nm rm) (hd : decode cc pc = .ok (.if_icmp .ge off, 3)) (ht : (pc : Int) + off = (tgt : Int)) (h1 : decode cc (pc + 3) = .ok (.iconst na, 1)) (hu : Int32.ofInt na = u) (h2 : decode cc (pc + 3 + 1) = .ok (.goto o2, 3)) (hj : ((pc + 3 + 1 : Nat) : Int) + o2 = (J : Int)) (h3 : decode cc tgt = .ok (.iconst nb, 1)) (hv : Int32.ofInt nb = v) (hJ : tgt + 1 = J) (k : xm_W E nL Q kc ks ω J lv (.int (if ¬ y ≤ x then u else v) :: st)) : xm_W E nL Q kc ks ω pc lv (.int y :: .int x :: st) := by
  refine xs_icmp_ge C hd ht (fun c => ?_) (fun c => ?_)
  · refine xs_iconst C h3 hv (xs_pc hJ ?_)
    have e : (if ¬ y ≤ x then u else v) = v := if_neg (fun c2 => by first | exact c c2 | exact c2 c)
    rw [e] at k
    exact k
  · refine xs_iconst C h1 hu (xs_goto C h2 hj ?_)
    have e : (if ¬ y ≤ x then u else v) = u := if_pos c
    rw [e] at k
    exact k
theorem xs_bz_gt {x : Int32} {na nb off o2 : Int} {u v : Int32} {tgt J : Nat} (C : xm_C E own cc nL rt tb nm rm) (hd : decode cc pc = .ok (.ifCond .gt off, 3)) (ht : (pc : Int) + off = (tgt : Int)) (h1 : decode cc (pc + 3) = .ok (.iconst na, 1)) (hu : Int32.ofInt na = u) (h2 : decode cc (pc + 3 + 1) = .ok (.goto o2, 3)) (hj : ((pc + 3 + 1 : Nat) : Int) + o2 = (J : Int)) (h3 : decode cc tgt = .ok (.iconst nb, 1)) (hv : Int32.ofInt nb = v) (hJ : tgt + 1 = J) (k : xm_W E nL Q kc ks ω J lv (.int (if ¬ 0 < x then u else v) :: st)) : xm_W E nL Q kc ks ω pc lv (.int x :: st) := by
  refine xs_if_gt C hd ht (fun c => ?_) (fun c => ?_)
  · refine xs_iconst C h3 hv (xs_pc hJ ?_)
    have e : (if ¬ 0 < x then u else v) = v := if_neg (fun c2 => by first | exact c c2 | exact c2 c)
    rw [e] at k
    exact k
  · refine xs_iconst C h1 hu (xs_goto C h2 hj ?_)
    have e : (if ¬ 0 < x then u else v) = u := if_pos c
    rw [e] at k
    exact k
theorem xs_bi_gt {x y : Int32} {na nb off o2 : Int} {u v : Int32} {tgt J : Nat} (C : xm_C E own cc nL rt tb nm rm) (hd : decode cc pc = .ok (.if_icmp .gt off, 3)) (ht : (pc : Int) + off = (tgt : Int)) (h1 : decode cc (pc + 3) = .ok (.iconst na, 1)) (hu : Int32.ofInt na = u) (h2 : decode cc (pc + 3 + 1) = .ok (.goto o2, 3)) (hj : ((pc + 3 + 1 : Nat) : Int) + o2 = (J : Int)) (h3 : decode cc tgt = .ok (.iconst nb, 1)) (hv : Int32.ofInt nb = v) (hJ : tgt + 1 = J) (k : xm_W E nL Q kc ks ω J lv (.int (if ¬ y < x then u else v) :: st)) : xm_W E nL Q kc ks ω pc lv (.int y :: .int x :: st) := by
  refine xs_icmp_gt C hd ht (fun c => ?_) (fun c => ?_)
  · refine xs_iconst C h3 hv (xs_pc hJ ?_)
    have e : (if ¬ y < x then u else v) = v := if_neg (fun c2 => by first | exact c c2 | exact c2 c)
    rw [e] at k
    exact k
  · refine xs_iconst C h1 hu (xs_goto C h2 hj ?_)
    have e : (if ¬ y < x then u else v) = u := if_pos c
    rw [e] at k
    exact k
theorem xs_bz_le {x : Int32} {na nb off o2 : Int} {u v : Int32} {tgt J : Nat} (C : xm_C E own cc nL rt tb nm rm) (hd : decode cc pc = .ok (.ifCond .le off, 3)) (ht : (pc : Int) + off = (tgt : Int)) (h1 : decode cc (pc + 3) = .ok (.iconst na, 1)) (hu : Int32.ofInt na = u) (h2 : decode cc (pc + 3 + 1) = .ok (.goto o2, 3)) (hj : ((pc + 3 + 1 : Nat) : Int) + o2 = (J : Int)) (h3 : decode cc tgt = .ok (.iconst nb, 1)) (hv : Int32.ofInt nb = v) (hJ : tgt + 1 = J) (k : xm_W E nL Q kc ks ω J lv (.int (if ¬ x ≤ 0 then u else v) :: st)) : xm_W E nL Q kc ks ω pc lv (.int x :: st) := by
  refine xs_if_le C hd ht (fun c => ?_) (fun c => ?_)
  · refine xs_iconst C h3 hv (xs_pc hJ ?_)
    have e : (if ¬ x ≤ 0 then u else v) = v := if_neg (fun c2 => by first | exact c c2 | exact c2 c)
    rw [e] at k
    exact k
  · refine xs_iconst C h1 hu (xs_goto C h2 hj ?_)
    have e : (if ¬ x ≤ 0 then u else v) = u := if_pos c
    rw [e] at k
    exact k
theorem xs_bi_le {x y : Int32} {na nb off o2 : Int} {u v : Int32} {tgt J : Nat} (C : xm_C E own cc nL rt tb nm rm) (hd : decode cc pc = .ok (.if_icmp .le off, 3)) (ht : (pc : Int) + off = (tgt : Int)) (h1 : decode cc (pc + 3) = .ok (.iconst na, 1)) (hu : Int32.ofInt na = u) (h2 : decode cc (pc + 3 + 1) = .ok (.goto o2, 3)) (hj : ((pc + 3 + 1 : Nat) : Int) + o2 = (J : Int)) (h3 : decode cc tgt = .ok (.iconst nb, 1)) (hv : Int32.ofInt nb = v) (hJ : tgt + 1 = J) (k : xm_W E nL Q kc ks ω J lv (.int (if ¬ x ≤ y then u else v) :: st)) : xm_W E nL Q kc ks ω pc lv (.int y :: .int x :: st) := by
  refine xs_icmp_le C hd ht (fun c => ?_) (fun c => ?_)
  · refine xs_iconst C h3 hv (xs_pc hJ ?_)
    have e : (if ¬ x ≤ y then u else v) = v := if_neg (fun c2 => by first | exact c c2 | exact c2 c)
    rw [e] at k
    exact k
  · refine xs_iconst C h1 hu (xs_goto C h2 hj ?_)
    have e : (if ¬ x ≤ y then u else v) = u := if_pos c
    rw [e] at k
    exact k
theorem xs_copyi {q0 q1 n0 n1 index : Nat} {f g : Nat → Int32} {sp dp n : Int32} {ω' : xm_O} (C : xm_C E own cc nL rt tb nm rm) (hd : decode cc pc = .ok (.invokestatic index, 3)) (w1 : Cond.methodLink own index arraycopyName ∈ lw_g) (w2 : Cond.native arraycopyName ∈ lw_g) (w3 : Cond.static arraycopyName ∈ lw_g) (w4 : Cond.initialized "java/lang/System" ∈ lw_g) (h0 : ω[q0]? = some (.inl (0, n0, .inl f))) (h1 : ω[q1]? = some (.inl (0, n1, .inl g))) (hs : ¬ sp < 0) (hdp : ¬ dp < 0) (hn : ¬ n < 0) (b0 : sp.toNatClampNeg + n.toNatClampNeg ≤ n0) (b1 : dp.toNatClampNeg + n.toNatClampNeg ≤ n1) (hfr : 1 ≤ rm.frames) (hlo : (st.map fun v => v.category).sum + (nativeFrameWords "java/lang/System" "arraycopy" 5 + 11) ≤ rm.locals) (hω : ω.set q1 (.inl (0, n1, .inl (va_cpy f g sp.toNatClampNeg dp.toNatClampNeg n.toNatClampNeg))) = ω') (k : xm_W E nL Q kc ks ω' (pc + 3) lv st) : xm_W E nL Q kc ks ω pc lv (.int n :: .int dp :: .ref q1 :: .int sp :: .ref q0 :: st) := by
  obtain ⟨p, l, e, R, s, m, args, below, meth, c, D, cA, A, ad0, n00⟩ := E
  obtain ⟨hx, hb, hml, hr, hown, hts, hK, hA, -, -, -, -, -, hR⟩ := C
  subst hR
  subst hω
  intro ad H locs ls a1 a2 hP hD hS hl
  refine va_copyi hx hb (hml.trans hl.1.symm) hown (hts _ w1) (hts _ w2) (hts _ w3) (hts _ w4) hK hP hD hS q0 q1 0 0 (xm_c_get h0) (xm_c_get h1) rfl rfl rfl hs hdp hn b0 b1 (fun _ _ => rfl) hfr (by rw [xm_cats]; exact hlo) hd (fun H1 locs1 hP1 hD1 hS1 => ?_)
  have e := xm_c_set (cA := cA) (ad := ad) (ω := ω) (i := q1) (c := .inl (0, n1, .inl (va_cpy f g sp.toNatClampNeg dp.toNatClampNeg n.toNatClampNeg)))
  exact k ad H1 locs1 ls a1 (by simpa using a2) (e ▸ hP1) (e ▸ hD1) hS1 hl
theorem xs_ldcw {index : Nat} {v : Int32} (C : xm_C E own cc nL rt tb nm rm) (hd : decode cc pc = .ok (.ldc_w index, 3)) (hw : Cond.constant own index v ∈ lw_g) (k : xm_W E nL Q kc ks ω (pc + 3) lv (.int v :: st)) : xm_W E nL Q kc ks ω pc lv st := by
  obtain ⟨p, l, e, R, s, m, args, below, meth, c, D, cA, A, ad0, n0⟩ := E
  obtain ⟨hx, hb, hml, hr, hown, hts, hK, hA, -⟩ := C
  exact fun ad H locs ls a1 a2 hP hD hS hl => lv_ldcw hx hb hown (hts _ hw) hd (k ad H locs ls a1 a2 hP hD hS hl)
theorem xs_mmin {index : Nat} {x y : Int32} (C : xm_C E own cc nL rt tb nm rm) (hd : decode cc pc = .ok (.invokestatic index, 3)) (w1 : Cond.methodLink own index Lib.Math.min.name ∈ lw_g) (w2 : Cond.static Lib.Math.min.name ∈ lw_g) (w3 : Cond.initialized "java/lang/Math" ∈ lw_g) (w4 : Cond.code Lib.Math.min.name Lib.Math.min.code 2 (some .int) ∈ lw_g) (hfr : 1 ≤ rm.frames) (hlo : (st.map fun v => v.category).sum + 13 ≤ rm.locals) (hkc : kc ≤ rm.cells) (hks : ks ≤ rm.slots) (k : xm_W E nL Q kc ks ω (pc + 3) lv (.int (if y < x then y else x) :: st)) : xm_W E nL Q kc ks ω pc lv (.int y :: .int x :: st) := by
  obtain ⟨p, l, e, R, s, m, args, below, meth, c, D, cA, A, ad0, n0⟩ := E
  obtain ⟨hx, hb, hml, hr, hown, hts, hK, hA, -, -, -, -, -, hR⟩ := C
  subst hR
  exact fun ad H locs ls a1 a2 hP hD hS hl => va_mmin hx hb (hml.trans hl.1.symm) hown (hts _ w1) (hts _ w2) (hts _ w3) (hts _ w4) hfr (by rw [xm_cats]; exact hlo) hkc hks hd (k ad H locs ls a1 a2 hP hD hS hl)
end XMO
