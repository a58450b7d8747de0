-- the law's script: an int[] that lies outside the world (.retAddr b in the law's locals stands for the reference b itself)
def xl_X (E : xm_X) (b L : Nat) (xs : Nat → Int32) : Prop := match E with
  | (p, l, e, R, s, m, args, below, meth, c, D, cA, A, ad0, n0) => va_X b L xs s s.heap ∧ b < s.heap.size ∧ ¬ A b
section XL
variable {E : xm_X} {own : String} {cc : ByteArray} {nL : Nat} {rt : Option FieldType} {tb : xm_H} {nm : String} {rm : Room} {Q : State → Prop} {kc ks : Nat} {ω : xm_O} {pc : Nat} {lv : List (Nat × Value)} {st : List Value}
theorem xs_sld {b L : Nat} {xs : Nat → Int32} {i : Int32} (C : xm_C E own cc nL rt tb nm rm) (hX : xl_X E b L xs) (hd : decode cc pc = .ok (.iaload, 1)) (hi : vp_in i L) (k : xm_W E nL Q kc ks ω (pc + 1) lv (.int (xs i.toNatClampNeg) :: st)) : xm_W E nL Q kc ks ω pc lv (.int i :: .retAddr b :: st) := by
  obtain ⟨p, l, e, R, s, m, args, below, meth, c, D, cA, A, ad0, n0⟩ := E
  obtain ⟨hx, hb, -⟩ := C
  obtain ⟨x1, x2, x3⟩ := hX
  exact fun ad H locs ls a1 a2 hP hD hS hl => va_sld hx hb x1 x2 x3 hS hi hd (k ad H locs ls a1 a2 hP hD hS hl)
theorem xs_slen {b L : Nat} {xs : Nat → Int32} (C : xm_C E own cc nL rt tb nm rm) (hX : xl_X E b L xs) (hd : decode cc pc = .ok (.arraylength, 1)) (k : xm_W E nL Q kc ks ω (pc + 1) lv (.int (nI L) :: st)) : xm_W E nL Q kc ks ω pc lv (.retAddr b :: st) := by
  obtain ⟨p, l, e, R, s, m, args, below, meth, c, D, cA, A, ad0, n0⟩ := E
  obtain ⟨hx, hb, -⟩ := C
  obtain ⟨x1, x2, x3⟩ := hX
  exact fun ad H locs ls a1 a2 hP hD hS hl => va_slen hx hb x1 x2 x3 hS hd (k ad H locs ls a1 a2 hP hD hS hl)
theorem xs_saload {n : Fin 4} {i : Nat} {x : Nat} (C : xm_C E own cc nL rt tb nm rm) (hd : decode cc pc = .ok (.aload_n n, 1)) (hi : (n : Nat) = i) (j : Nat) (hj : lv[j]? = some (i, .retAddr x)) (k : xm_W E nL Q kc ks ω (pc + 1) lv (.retAddr x :: st)) : xm_W E nL Q kc ks ω pc lv (st) := by
  obtain ⟨p, l, e, R, s, m, args, below, meth, c, D, cA, A, ad0, n0⟩ := E
  obtain ⟨hx, hb, hml, hr, hown, hts, hK, hA, -⟩ := C
  exact fun ad H locs ls a1 a2 hP hD hS hl => lv_aload_n hx hb hd hi (lv_at hl j (xm_l_at hj)) (k ad H locs ls a1 a2 hP hD hS hl)
theorem xs_more {kc' ks' : Nat} (h1 : kc ≤ kc') (h2 : ks ≤ ks') (k : xm_W E nL Q kc' ks' ω pc lv st) : xm_W E nL Q kc ks ω pc lv st := by
  obtain ⟨p, l, e, R, s, m, args, below, meth, c, D, cA, A, ad0, n0⟩ := E
  exact fun ad H locs ls a1 a2 hP hD hS hl => W.widen h1 h2 (k ad H locs ls a1 a2 hP hD hS hl)
end XL
theorem xl_same {s t : State} {locs : List Loc} {k n : Nat} (h : s.sameButNew t locs k n) (hl : ∀ q ∈ locs, s.heap.size ≤ q.base) : s.sameButNew t [] k n := by
  refine ⟨h.1, h.2.1, h.2.2.1, h.2.2.2.1, h.2.2.2.2.1, fun a c hc => ?_⟩
  obtain ⟨c', hc', hce, hsz, hout⟩ := h.2.2.2.2.2 a c hc
  refine ⟨c', hc', hce, hsz, fun i _ => hout i (fun hm => ?_)⟩
  have h1 := (Array.getElem?_eq_some_iff.mp hc).1
  exact absurd (hl _ hm) (Nat.not_le.mpr h1)
theorem xl_drop {p : Program} {l : Launch} {e : Env} {R : Room} {s : State} {m : MethodId} {args : Array Value} {below : List Frame} {meth : Method} {c : Code} {T : State} {locs : List Loc} {cells slots : Nat} (X : Stand p l e R s m args below meth c T locs cells slots) (hl : ∀ q ∈ locs, s.heap.size ≤ q.base) : Stand p l e R s m args below meth c T [] cells slots :=
  ⟨X.admits, X.cas, X.clock, X.frames, X.room, X.hears, X.method, X.code, X.here, X.tail, X.warmed, X.limits, X.bytes, xl_same X.same hl⟩
theorem xl_end {p : Program} {l : Launch} {e : Env} {s : State} {m : MethodId} {below : List Frame} {meth : Method} {c : Code} {D : va_G} {cA ad0 : Nat → Nat} {n0 b nL kc ks pc : Nat} {A : Nat → Prop} {ω : xm_O} {lv : List (Nat × Value)} (hx : p.tables.exec = Jvm.exec) (hb : c.code = code) (hr : meth.sig.returnType = ret) (hlk : meth.locks = false) (hA : ∀ q, A q → s.heap.size ≤ q) (hd : decode code pc = .ok (.ireturn, 1)) (h1 : kc ≤ 601024) (h2 : ks ≤ 7293034) :
    xm_W (p, l, e, room_1, s, m, #[Value.ref b], below, meth, c, D, cA, A, ad0, n0) nL (lw_Z below #[Value.ref b] s) kc ks ω pc lv [.int 1] := by
  intro ad H locs ls a1 a2 hP hD hS hl
  refine W.widen h1 h2 ?_
  intro T hT X
  exact lw_ret hx hb hr hlk hd T hT (xl_drop X (fun q hq => hA _ (hS.2.2 q hq)))
