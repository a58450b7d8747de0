-- CONTRACTS over worlds: a method ends with r (an answer, or the class of what it threw) in the world ω', so that K r ω'
def xm_Rs (ad : Nat → Nat) (r : xm_R) (o : Outcome) (t : State) : Prop := match r with
  | .inl v => o = .returned (v.map (xm_v ad))
  | .inr cls => ∃ (x : Nat) (ce : Cell), o = .threw x ∧ t.heap[x]? = some ce ∧ ce.vm = .none ∧ t.vm.findClass cls = some ce.cls
def xm_Qc (D : va_G) (cA : Nat → ClassId) (ad0 : Nat → Nat) (n0 : Nat) (A : Nat → Prop) (K : xm_R → xm_O → Prop) (s : State) (o : Outcome) (t : State) : Prop :=
  ∃ (r : xm_R) (ω : xm_O) (ad : Nat → Nat), K r ω ∧ (∀ i, i < n0 → ad i = ad0 i) ∧ n0 ≤ ω.length ∧ va_P D classes (xm_c cA ad ω) t.heap ∧ va_D A (xm_c cA ad ω) ∧ va_F A s t ∧ xm_Rs ad r o t
def xm_En (s t : State) (L : List Loc) (k n : Nat) : Prop := s.WarmedH t.vm ∧ s.sameButNew ({ t with vm := s.vm } : State) L k n
def xm_F (E : xm_X) (mc ms : Nat) (K : xm_R → xm_O → Prop) : State → Prop := match E with
  | (p, l, e, R, s, m, args, below, meth, c, D, cA, A, ad0, n0) => fun t => ∃ o, t.status = .running ∧ Ended t below o ∧ xm_Qc D cA ad0 n0 A K s o t ∧ ∃ L, xm_En s t L mc ms ∧ ∀ q ∈ L, A q.base
def xm_Pc (D : va_G) (cA : Nat → ClassId) (ad : Nat → Nat) (av : List Value) (ω : xm_O) (sz : Nat) : Array Value → State → Prop :=
  va_Pc (av.map (xm_v ad)) (fun U => U.heap.size = sz ∧ va_P D classes (xm_c cA ad ω) U.heap ∧ va_K D classes (xm_t cA) U ∧ (∀ w ∈ lw_g, w.before #[] U = true) ∧ xm_Z (va_A (xm_c cA ad ω) sz) U U.heap ∧ va_D (fun _ => True) (xm_c cA ad ω))
def xm_M (y : MethodName) (w : Cond) (rm : Room) (av : List Value) (ω : xm_O) (K : xm_R → xm_O → Prop) : Prop :=
  ∀ (l : Launch), l.flags = pinnedFlags ++ [noTraceFlag] → ∀ (D : va_G) (cA : Nat → ClassId) (ad0 : Nat → Nat) (sz : Nat), MetFree l y (headSpec [w] rm) (xm_Pc D cA ad0 av ω sz) (fun _ _ _ _ _ => True)
    (fun _ s o t => xm_Qc D cA ad0 ω.length (va_A (xm_c cA ad0 ω) sz) K s o t ∧ ∃ L, xm_En s t L rm.cells rm.slots ∧ ∀ q ∈ L, va_A (xm_c cA ad0 ω) sz q.base)
theorem xm_M.mono {y : MethodName} {w : Cond} {rm : Room} {av : List Value} {ω : xm_O} {K K' : xm_R → xm_O → Prop} (h : xm_M y w rm av ω K) (hk : ∀ r ω', K r ω' → K' r ω') : xm_M y w rm av ω K' := by
  intro l hl D cA ad0 sz p e ha hc hkl s m args below hf happ hP _
  obtain ⟨n, o, h1, h2, h3, ⟨⟨r, ω', ad, q1, q2⟩, q3⟩⟩ := h l hl D cA ad0 sz p e ha hc hkl s m args below hf happ hP trivial
  exact ⟨n, o, h1, h2, h3, ⟨⟨r, ω', ad, hk _ _ q1, q2⟩, q3⟩⟩
set_option maxHeartbeats 1000000 in
/-- a contract out of a walk: a method without handlers -/
theorem xm_of {y : MethodName} {b : ByteArray} {n : Nat} {rt : Option FieldType} {rm : Room} {av : List Value} {ω : xm_O} {K : xm_R → xm_O → Prop} (hy : plainName y.cls = true) (hn : (lg_sl av).length ≤ n)
    (body : ∀ E : xm_X, xm_C E y.cls b n rt [] y.name rm → xm_W E n (xm_F E rm.cells rm.slots K) 0 0 ω 0 (lv_args 0 av) []) : xm_M y (.code y b n rt) rm av ω K := by
  intro l hfl D cA ad0 sz
  refine MetFree.of_bodyS (code := b) (maxLocals := n) (ret := rt) hy ?_ ?_
  · intro args s m h hnm
    obtain ⟨meth, c, h1, h2, h3, h4, h5, h6, -, -⟩ := Cond.code_spec hnm (atoms_spec (ws := [.code y b n rt]) h _ List.mem_cons_self)
    exact ⟨meth, c, h1, h2, h3, h4, h5, h6⟩
  · intro p e s m args below meth c s₁ B hml hP _
    obtain ⟨rfl, hsz, hP, hK, hts, hZ, hD0⟩ := hP
    subst hsz
    have hh0 : s₁.heap = s.heap := by rw [B.state]; rfl
    have hcd := atoms_spec (ws := [.code y b n rt]) B.pre _ List.mem_cons_self
    obtain ⟨meth', c', q1, q2, -, -, -, -, q7, -⟩ := Cond.code_spec B.named hcd
    cases B.method.symm.trans q1
    have hcc : meth.code = some c := (Stand.of_body B).code
    cases hcc.symm.trans q2
    have CC : xm_C (p, l, e, rm, s, m, (av.map (xm_v ad0)).toArray, below, meth, c, D, cA, va_A (xm_c cA ad0 ω) s.heap.size, ad0, ω.length) y.cls b n rt [] y.name rm :=
      ⟨B.exec, B.bytes, hml, B.returns, findClass_of_methodNamed B.named, lg_same rfl hts, hK, fun q h => Or.inr h, hZ, B.notSynchronized, hfl, by rw [Array.isEmpty_iff.mp q7]; rfl, (name_of_methodNamed B.named B.method).1, rfl⟩
    have hl := lv_entry (av.map (xm_v ad0)) (n := n) (by rw [xm_sl_len]; exact hn)
    rw [xm_args] at hl
    have K0 := body _ CC ad0 s.heap [] _ (fun _ _ => rfl) (Nat.le_refl _) hP hD0.self va_S.rf hl
    have K1 : W p l e rm s m (av.map (xm_v ad0)).toArray below meth c s.heap [] 0 0 (xm_F (p, l, e, rm, s, m, (av.map (xm_v ad0)).toArray, below, meth, c, D, cA, va_A (xm_c cA ad0 ω) s.heap.size, ad0, ω.length) rm.cells rm.slots K) (entryFrame m (av.map (xm_v ad0)).toArray n) := by
      rw [lg_entry_eq]; exact K0
    obtain ⟨t, a1, o, b1, b2, b3⟩ := K1 s₁ hh0 (Stand.of_body B)
    exact ⟨t, o, a1, b1, b2, b3⟩
set_option maxHeartbeats 1000000 in
/-- a contract out of a walk: a method with handlers -/
theorem xm_ofH {y : MethodName} {b : ByteArray} {n : Nat} {rt : Option FieldType} {tb : xm_H} {rm : Room} {av : List Value} {ω : xm_O} {K : xm_R → xm_O → Prop} (hy : plainName y.cls = true) (hn : (lg_sl av).length ≤ n)
    (body : ∀ E : xm_X, xm_C E y.cls b n rt tb y.name rm → xm_W E n (xm_F E rm.cells rm.slots K) 0 0 ω 0 (lv_args 0 av) []) : xm_M y (.codeWith y b n rt tb) rm av ω K := by
  intro l hfl D cA ad0 sz
  refine MetFree.of_bodyS (code := b) (maxLocals := n) (ret := rt) hy ?_ ?_
  · intro args s m h hnm
    obtain ⟨m', meth, c, h0, h1, h2, h3, h4, -, h5, h6, -⟩ := Cond.codeWith_spec (atoms_spec (ws := [.codeWith y b n rt tb]) h _ List.mem_cons_self)
    cases hnm.symm.trans h0
    exact ⟨meth, c, h1, h2, h3, h4, h5, h6⟩
  · intro p e s m args below meth c s₁ B hml hP _
    obtain ⟨rfl, hsz, hP, hK, hts, hZ, hD0⟩ := hP
    subst hsz
    have hh0 : s₁.heap = s.heap := by rw [B.state]; rfl
    have hcd := atoms_spec (ws := [.codeWith y b n rt tb]) B.pre _ List.mem_cons_self
    obtain ⟨m', meth', c', q0, q1, q2, -, -, q7, -, -, -⟩ := Cond.codeWith_spec hcd
    cases B.named.symm.trans q0
    cases B.method.symm.trans q1
    have hcc : meth.code = some c := (Stand.of_body B).code
    cases hcc.symm.trans q2
    have CC : xm_C (p, l, e, rm, s, m, (av.map (xm_v ad0)).toArray, below, meth, c, D, cA, va_A (xm_c cA ad0 ω) s.heap.size, ad0, ω.length) y.cls b n rt tb y.name rm :=
      ⟨B.exec, B.bytes, hml, B.returns, findClass_of_methodNamed B.named, lg_same rfl hts, hK, fun q h => Or.inr h, hZ, B.notSynchronized, hfl, q7, (name_of_methodNamed B.named B.method).1, rfl⟩
    have hl := lv_entry (av.map (xm_v ad0)) (n := n) (by rw [xm_sl_len]; exact hn)
    rw [xm_args] at hl
    have K0 := body _ CC ad0 s.heap [] _ (fun _ _ => rfl) (Nat.le_refl _) hP hD0.self va_S.rf hl
    have K1 : W p l e rm s m (av.map (xm_v ad0)).toArray below meth c s.heap [] 0 0 (xm_F (p, l, e, rm, s, m, (av.map (xm_v ad0)).toArray, below, meth, c, D, cA, va_A (xm_c cA ad0 ω) s.heap.size, ad0, ω.length) rm.cells rm.slots K) (entryFrame m (av.map (xm_v ad0)).toArray n) := by
      rw [lg_entry_eq]; exact K0
    obtain ⟨t, a1, o, b1, b2, b3⟩ := K1 s₁ hh0 (Stand.of_body B)
    exact ⟨t, o, a1, b1, b2, b3⟩
section XR
variable {E : xm_X} {own : String} {cc : ByteArray} {nL : Nat} {rt : Option FieldType} {tb : xm_H} {nm : String} {rm : Room} {Q : State → Prop} {kc ks : Nat} {ω : xm_O} {pc : Nat} {lv : List (Nat × Value)} {st : List Value} {K : xm_R → xm_O → Prop}
theorem xm_Wm {p : Program} {l : Launch} {e : Env} {R : Room} {s : State} {m : MethodId} {args : Array Value} {below : List Frame} {meth : Method} {c : Code} {H : Heap} {locs : List Loc} {cells slots : Nat} {Q Q' : State → Prop} {g : JFrame} (h : W p l e R s m args below meth c H locs cells slots Q g) (k : ∀ t, Q t → Q' t) : W p l e R s m args below meth c H locs cells slots Q' g := fun T hT X => by
  obtain ⟨t, a, b⟩ := h T hT X
  exact ⟨t, a, k t b⟩
theorem xs_iret {v : Int32} (C : xm_C E own cc nL (some .int) tb nm rm) (hd : decode cc pc = .ok (.ireturn, 1)) (hK : K (.inl (some (.int v))) ω) (h1 : kc ≤ rm.cells) (h2 : ks ≤ rm.slots) : xm_W E nL (xm_F E rm.cells rm.slots K) kc ks ω pc lv [.int v] := by
  obtain ⟨p, l, e, R, s, m, args, below, meth, c, D, cA, A, ad0, n0⟩ := E
  obtain ⟨hx, hb, hml, hr, hown, hts, hKn, hA, hZ, hlk, -⟩ := C
  intro ad H locs ls a1 a2 hP hD hS hl
  refine W.widen h1 h2 (xm_Wm (W.iret (Qc := fun _ s o t => xm_Qc D cA ad0 n0 A K s o t) (free := A) (v := v) hx hb hr (fun t ht hW => ⟨.inl (some (.int v)), ω, ad, hK, a1, a2, by rw [ht]; exact hP, hD, hS.F ht, rfl⟩) hS.2.2 hd hlk) ?_)
  rintro t ⟨o, b1, b2, b3, L, ⟨-, b4⟩, b5⟩
  exact ⟨o, b1, b2, b3, L, b4, b5⟩
theorem xs_zret {v : Int32} (C : xm_C E own cc nL (some .boolean) tb nm rm) (hd : decode cc pc = .ok (.ireturn, 1)) (hv : v = 0 ∨ v = 1) (hK : K (.inl (some (.int v))) ω) (h1 : kc ≤ rm.cells) (h2 : ks ≤ rm.slots) : xm_W E nL (xm_F E rm.cells rm.slots K) kc ks ω pc lv [.int v] := by
  obtain ⟨p, l, e, R, s, m, args, below, meth, c, D, cA, A, ad0, n0⟩ := E
  obtain ⟨hx, hb, hml, hr, hown, hts, hKn, hA, hZ, hlk, -⟩ := C
  intro ad H locs ls a1 a2 hP hD hS hl
  refine W.widen h1 h2 (xm_Wm (W.zret (Qc := fun _ s o t => xm_Qc D cA ad0 n0 A K s o t) (free := A) (v := v) (ty := .boolean) hx hb hr (by rcases hv with rfl | rfl <;> decide) (fun t ht hW => ⟨.inl (some (.int v)), ω, ad, hK, a1, a2, by rw [ht]; exact hP, hD, hS.F ht, rfl⟩) hS.2.2 hd hlk) ?_)
  rintro t ⟨o, b1, b2, b3, L, ⟨-, b4⟩, b5⟩
  exact ⟨o, b1, b2, b3, L, b4, b5⟩
theorem xs_lret {v : Int64} (C : xm_C E own cc nL (some .long) tb nm rm) (hd : decode cc pc = .ok (.lreturn, 1)) (hK : K (.inl (some (.long v))) ω) (h1 : kc ≤ rm.cells) (h2 : ks ≤ rm.slots) : xm_W E nL (xm_F E rm.cells rm.slots K) kc ks ω pc lv [.long v] := by
  obtain ⟨p, l, e, R, s, m, args, below, meth, c, D, cA, A, ad0, n0⟩ := E
  obtain ⟨hx, hb, hml, hr, hown, hts, hKn, hA, hZ, hlk, -⟩ := C
  intro ad H locs ls a1 a2 hP hD hS hl
  refine W.widen h1 h2 (xm_Wm (W.lret (Qc := fun _ s o t => xm_Qc D cA ad0 n0 A K s o t) (free := A) (v := v) hx hb hr (fun t ht hW => ⟨.inl (some (.long v)), ω, ad, hK, a1, a2, by rw [ht]; exact hP, hD, hS.F ht, rfl⟩) hS.2.2 hd hlk) ?_)
  rintro t ⟨o, b1, b2, b3, L, ⟨-, b4⟩, b5⟩
  exact ⟨o, b1, b2, b3, L, b4, b5⟩
theorem xs_aret {q : Nat} {rty : FieldType} (C : xm_C E own cc nL (some rty) tb nm rm) (hrt : (∃ n, rty = .object n) ∨ ∃ t, rty = .array t) (hd : decode cc pc = .ok (.areturn, 1)) (hK : K (.inl (some (.ref q))) ω) (h1 : kc ≤ rm.cells) (h2 : ks ≤ rm.slots) : xm_W E nL (xm_F E rm.cells rm.slots K) kc ks ω pc lv [.ref q] := by
  obtain ⟨p, l, e, R, s, m, args, below, meth, c, D, cA, A, ad0, n0⟩ := E
  obtain ⟨hx, hb, hml, hr, hown, hts, hKn, hA, hZ, hlk, -⟩ := C
  intro ad H locs ls a1 a2 hP hD hS hl
  refine W.widen h1 h2 (xm_Wm (W.aret (Qc := fun _ s o t => xm_Qc D cA ad0 n0 A K s o t) (free := A) (v := .ref (ad q)) hx hb hr hrt (Or.inr ⟨_, rfl⟩) (fun t ht hW => ⟨.inl (some (.ref q)), ω, ad, hK, a1, a2, by rw [ht]; exact hP, hD, hS.F ht, rfl⟩) hS.2.2 hd hlk) ?_)
  rintro t ⟨o, b1, b2, b3, L, ⟨-, b4⟩, b5⟩
  exact ⟨o, b1, b2, b3, L, b4, b5⟩
theorem xs_vret (C : xm_C E own cc nL none tb nm rm) (hd : decode cc pc = .ok (.return_, 1)) (hK : K (.inl none) ω) (h1 : kc ≤ rm.cells) (h2 : ks ≤ rm.slots) : xm_W E nL (xm_F E rm.cells rm.slots K) kc ks ω pc lv [] := by
  obtain ⟨p, l, e, R, s, m, args, below, meth, c, D, cA, A, ad0, n0⟩ := E
  obtain ⟨hx, hb, hml, hr, hown, hts, hKn, hA, hZ, hlk, -⟩ := C
  intro ad H locs ls a1 a2 hP hD hS hl
  refine W.widen h1 h2 (xm_Wm (W.vret (Qc := fun _ s o t => xm_Qc D cA ad0 n0 A K s o t) (free := A) hx hb hr (fun t ht hW => ⟨.inl none, ω, ad, hK, a1, a2, by rw [ht]; exact hP, hD, hS.F ht, rfl⟩) hS.2.2 hd hlk) ?_)
  rintro t ⟨o, b1, b2, b3, L, ⟨-, b4⟩, b5⟩
  exact ⟨o, b1, b2, b3, L, b4, b5⟩
end XR
set_option maxHeartbeats 2000000 in
/-- a call by contract, whatever comes of it -/
theorem xm_back {p : Program} {l : Launch} {e : Env} {R : Room} {s : State} {m : MethodId} {args : Array Value} {below : List Frame} {meth : Method} {c : Code} {T : State} {locs : List Loc} {cells slots : Nat} (X : Stand p l e R s m args below meth c T locs cells slots)
    {y : MethodName} {w : Cond} {rm : Room} {P : Array Value → State → Prop} {Qo : State → Outcome → State → Prop} {free : Nat → Prop} (hM : MetFree l y (headSpec [w] rm) P (fun _ _ _ _ _ => True) (fun _ s o t => Qo s o t ∧ ∃ L, xm_En s t L rm.cells rm.slots ∧ ∀ q ∈ L, free q.base))
    {g : JFrame} {ig : Instr} {len : Nat} {mk : MethodId} {a : Array Value} {maxL : Nat} (hg : g.method = m) (hsize : g.locals.size = c.maxLocals) (hdg : decode c.code g.pc = .ok (ig, len)) (hn : T.methodNamed? y = some mk)
    (hcode : ∃ methY cY, T.vm.method? mk = some methY ∧ methY.code = some cY ∧ cY.maxLocals = maxL) (hinit : (Cond.initialized y.cls).before a T = true) (hpre : w.before a T = true)
    (hfr : rm.frames + 1 ≤ R.frames) (hlo : 2 * g.monitorRoom + (g.stack.map fun v => v.category).sum + (maxL + 11) + rm.locals ≤ R.locals) (hce : cells + rm.cells ≤ R.cells) (hsl : slots + rm.slots ≤ R.slots)
    (hP : ∀ U : State, U.heap = T.heap → U.vm = T.vm → P a U) :
    ∃ (o : Outcome) (s₀ t T' : State) (L : List Loc), s₀.heap = T.heap ∧ Stand p l e R s m args below meth c T' (locs ++ L) (cells + rm.cells) (slots + rm.slots) ∧ (∀ q ∈ L, free q.base) ∧ T'.heap = t.heap ∧ T'.vm = t.vm ∧ Qo s₀ o t ∧
      (∀ v, o = .returned v → Steps p.tables e below (doInvoke e (T.setTop g) [] mk a).1 (T'.setTop { g with pc := g.pc + len, stack := v.toList ++ g.stack })) ∧
      (∀ x, o = .threw x → Steps p.tables e below (doInvoke e (T.setTop g) [] mk a).1 ((T'.setTop g).pushFrame (.throwing x))) := by
  obtain ⟨methY, cY, hmY, hcY, hlY⟩ := hcode
  obtain ⟨kY, hkY, -⟩ := className_of_methodNamed hn
  have hinitY : kY.init = .initialized := Cond.initialized_spec (findClass_of_methodNamed hn) hkY hinit
  have h : At T g.method c below := by rw [hg]; exact X.here
  have h1 : (headSpec [w] rm).pre.before a T = true := atoms_intro fun w' hw' => by
    rw [List.mem_singleton.mp hw']; exact hpre
  have happ : (headSpec [w] rm).appliesLoose y e.platform (T.calling g mk a) = true :=
    Spec.appliesLoose_calling (g := g) h hdg hn hkY hinitY
      (X.room_calling (g := g) (R' := rm) hsize hmY hcY hfr (by rw [hlY]; exact hlo) hce hsl) h1
  obtain ⟨mid, hmid⟩ := h.above
  have hfr' : (T.setTop g).frames = (.java g :: mid) ++ below := by rw [State.frames_setTop' g h.top, hmid]; rfl
  obtain ⟨o, s₂, hsteps, -, hend, hq⟩ := Steps.callFree hM p X.admits X.cas X.clock (acts := []) hfr' happ (hP _ rfl rfl) trivial
  rw [State.frames_setTop' g h.top] at hend
  obtain ⟨hQ, L, ⟨hW₂, e2, q2, q3, q4, q5, q6⟩, hL⟩ := hq
  have hW₂ : (T.calling g mk a).WarmedH s₂.vm := hW₂
  have e3 : s₂ = ({ (T.calling g mk a).setFrames s₂.frames with heap := s₂.heap, slotsUsed := s₂.slotsUsed } : State).setVm s₂.vm := by
    have this : s₂ = ({ s₂ with vm := (T.calling g mk a).vm } : State).setVm s₂.vm := rfl
    have e2' : ({ s₂ with vm := (T.calling g mk a).vm } : State) = { (T.calling g mk a).setFrames s₂.frames with heap := s₂.heap, slotsUsed := s₂.slotsUsed } := e2
    rw [e2'] at this
    exact this
  have hW' : T.WarmedH s₂.vm := hW₂
  obtain ⟨g₀, hg0⟩ := Option.isSome_iff_exists.mp h.top
  obtain ⟨r, hr⟩ := State.topJava?_eq_some.mp hg0
  have hr' : (({ T with heap := s₂.heap, slotsUsed := s₂.slotsUsed } : State).setVm s₂.vm).frames = .java g₀ :: r := hr
  have hsame : T.sameButNew ({ T with heap := s₂.heap, slotsUsed := s₂.slotsUsed } : State) L rm.cells rm.slots := by
    refine ⟨?_, q2, q3, q4, q5, q6⟩
    obtain ⟨t, ht, -⟩ := State.frames_cons hr
    show ({ T with heap := s₂.heap, slotsUsed := s₂.slotsUsed } : State) = { T.setFrames T.frames with heap := s₂.heap, slotsUsed := s₂.slotsUsed }
    rw [State.setFrames_self ht]
  subst hg
  refine ⟨o, (T.setTop g).pushFrame (.invoking mk a), s₂, (({ T with heap := s₂.heap, slotsUsed := s₂.slotsUsed } : State).setVm s₂.vm), L, rfl,
    ⟨X.admits, X.cas, X.clock, X.frames, X.room, X.hears, X.method, X.code, (X.here.setHeapUsed s₂.heap s₂.slotsUsed).setVm hW'.alike, X.tail, State.WarmedH.trans X.warmed hW', X.limits, X.bytes, X.same.trans (hsame.setVm s.vm)⟩, hL, rfl, rfl, hQ, ?_, ?_⟩
  · rintro v rfl
    obtain ⟨c₂, i₂, len₂, hc₂, hd₂, hf₂⟩ := hend
    have hcc : c₂ = c := by
      have h1 : s₂.code? g.method = T.code? g.method := by
        rw [State.code?_eq, State.code?_eq, hW'.alike.method?]
      exact Option.some.inj (hc₂.symm.trans (h1.trans h.code))
    subst hcc
    have hlen : len₂ = len := by rw [hdg] at hd₂; cases hd₂; rfl
    subst hlen
    have hs₂ : s₂ = (({ T with heap := s₂.heap, slotsUsed := s₂.slotsUsed } : State).setVm s₂.vm).setTop { g with pc := g.pc + len₂, stack := v.toList ++ g.stack } := by
      refine e3.trans ?_
      rw [hf₂, State.calling_eq h.top, State.setFrames_setFrames, State.setTop_of_frames _ hr', hr]
      rfl
    rw [← hs₂]
    exact hsteps
  · rintro x rfl
    have hf₂ : s₂.frames = .throwing x :: .java g :: T.frames.tail := hend
    have hs₂ : s₂ = ((({ T with heap := s₂.heap, slotsUsed := s₂.slotsUsed } : State).setVm s₂.vm).setTop g).pushFrame (.throwing x) := by
      refine e3.trans ?_
      rw [hf₂, State.calling_eq h.top, State.setFrames_setFrames, State.pushFrame, State.frames_setTop _ hr', State.setTop_of_frames _ hr', State.setFrames_setFrames, hr]
      rfl
    rw [← hs₂]
    exact hsteps
-- what a frame does with what a callee threw
def xm_Th (E : xm_X) (nL : Nat) (Q : State → Prop) (kc ks : Nat) (ω : xm_O) (pc : Nat) (lv : List (Nat × Value)) (st : List Value) (cls : String) : Prop := match E with
  | (p, l, e, R, s, m, args, below, meth, c, D, cA, A, ad0, n0) =>
    ∀ (ad : Nat → Nat) (locs : List Loc) (ls : Array Slot) (x : Nat) (ce : Cell) (T : State), (∀ i, i < n0 → ad i = ad0 i) → n0 ≤ ω.length → va_P D classes (xm_c cA ad ω) T.heap → va_D A (xm_c cA ad ω) → va_S A s.heap T.heap locs → lv_has ls nL (xm_l ad lv) →
      T.heap[x]? = some ce → ce.vm = .none → s.vm.findClass cls = some ce.cls → Stand p l e R s m args below meth c T locs kc ks → ∃ t, Steps p.tables e below ((T.setTop (F0 m pc ls (st.map (xm_v ad)))).pushFrame (.throwing x)) t ∧ Q t
/-- an invocation's own step: the method is found, its arguments are taken off -/
def xm_Iv (E : xm_X) (y : MethodName) (pc : Nat) (av st : List Value) (ω : xm_O) : Prop := match E with
  | (p, l, e, R, s, m, args, below, meth, c, D, cA, A, ad0, n0) =>
    ∀ (ad : Nat → Nat) (ls : Array Slot) (locs : List Loc) (cells slots : Nat) (T : State), va_P D classes (xm_c cA ad ω) T.heap → Stand p l e R s m args below meth c T locs cells slots →
      ∃ (mk : MethodId) (vm₁ : Vm), s.methodNamed? y = some mk ∧ Stand p l e R s m args below meth c (T.setVm vm₁) locs cells slots ∧
        ∀ target, Steps p.tables e below (doInvoke e ((T.setVm vm₁).setTop (F0 m pc ls (st.map (xm_v ad)))) [] mk (av.map (xm_v ad)).toArray).1 target → Steps p.tables e below (T.setTop (F0 m pc ls ((av.reverse ++ st).map (xm_v ad)))) target
section XK
variable {E : xm_X} {own : String} {cc : ByteArray} {nL : Nat} {rt : Option FieldType} {tb : xm_H} {nm : String} {rm : Room} {Q : State → Prop} {kc ks : Nat} {ω : xm_O} {pc : Nat} {lv : List (Nat × Value)} {st av : List Value} {y : MethodName}
def xm_cw (w : Cond) (y : MethodName) (maxL : Nat) : Prop := ∃ (b : ByteArray) (rt : Option FieldType), w = .code y b maxL rt ∨ ∃ hh, w = .codeWith y b maxL rt hh
theorem xm_cw.spec {w : Cond} {maxL : Nat} (h : xm_cw w y maxL) {a : Array Value} {U : State} {mk : MethodId} (hb : w.before a U = true) (hn : U.methodNamed? y = some mk) : ∃ methY cY, U.vm.method? mk = some methY ∧ methY.code = some cY ∧ cY.maxLocals = maxL ∧ parseMethodDescriptor y.desc = some methY.sig := by
  obtain ⟨b, rt, rfl | ⟨hh, rfl⟩⟩ := h
  · obtain ⟨methY, cY, h1, h2, -, h4, -, -, -, h8⟩ := Cond.code_spec hn hb
    exact ⟨methY, cY, h1, h2, h4, h8⟩
  · obtain ⟨m', methY, cY, h0, h1, h2, -, h4, -, -, -, h8⟩ := Cond.codeWith_spec hb
    cases hn.symm.trans h0
    exact ⟨methY, cY, h1, h2, h4, h8⟩
theorem xm_cw.named {w : Cond} {maxL : Nat} (h : xm_cw w y maxL) {a : Array Value} {U : State} (hb : w.before a U = true) : ∃ mk, U.methodNamed? y = some mk := by
  obtain ⟨b, rt, rfl | ⟨hh, rfl⟩⟩ := h
  · exact Cond.code_named hb
  · obtain ⟨m', methY, cY, h0, -⟩ := Cond.codeWith_spec hb
    exact ⟨m', h0⟩
set_option maxHeartbeats 1000000 in
theorem xi_S {index maxL : Nat} {w : Cond} (C : xm_C E own cc nL rt tb nm rm) (hd : decode cc pc = .ok (.invokestatic index, 3)) (h1 : Cond.methodLink own index y ∈ lw_g ∨ ∃ host, Cond.methodLinkNest own index y host ∈ lw_g) (h2 : Cond.static y ∈ lw_g) (h3 : Cond.initialized y.cls ∈ lw_g) (h4 : w ∈ lw_g) (hcw : xm_cw w y maxL) (hy : y.cls ≠ "java/lang/invoke/MethodHandle" ∧ y.cls ≠ "java/lang/invoke/VarHandle") (hlen : (parseMethodDescriptor y.desc).map (fun d => d.parameters.length) = some av.length) : xm_Iv E y pc av st ω := by
  obtain ⟨p, l, e, R, s, m, args, below, meth, c, D, cA, A, ad0, n0⟩ := E
  obtain ⟨hx, hb, hml, hr, hown, hts, hK, hA, -⟩ := C
  intro ad ls locs cells slots T hP X
  obtain ⟨mk, hnamed⟩ := hcw.named (hts _ h4)
  obtain ⟨methM, cM, hmethM, -, -, hsigM⟩ := hcw.spec (hts _ h4) hnamed
  have hstatic : methM.isStatic = true := Cond.static_spec hnamed hmethM (hts _ h2)
  obtain ⟨kP, hkP, -⟩ := className_of_methodNamed hnamed
  have hinitP : kP.init = .initialized := Cond.initialized_spec (findClass_of_methodNamed hnamed) hkP (hts _ h3)
  have hl : (av.map (xm_v ad)).length = methM.sig.parameters.length := by
    rw [hsigM] at hlen
    simpa using (Option.some.inj hlen).symm
  have hst : (F0 m pc ls ((av.reverse ++ st).map (xm_v ad))).stack = (av.map (xm_v ad)).reverse ++ st.map (xm_v ad) := by
    show (av.reverse ++ st).map (xm_v ad) = _
    rw [List.map_append, List.map_reverse]
  rcases h1 with h1 | ⟨host, h1⟩
  · obtain ⟨vm₁, X₁, hstep₁⟩ := X.invokestatic hx hown (hts _ h1) hnamed hmethM hstatic hkP hinitP hy (g := F0 m pc ls ((av.reverse ++ st).map (xm_v ad))) rfl (argsL := av.map (xm_v ad)) (rest := st.map (xm_v ad)) hl hst (by rw [hb]; exact hd)
    exact ⟨mk, vm₁, hnamed, X₁, fun target h => hstep₁ _ fun acts => by rw [doInvoke_state]; exact h⟩
  · obtain ⟨vm₁, X₁, hstep₁⟩ := X.invokestaticNest hx hown (hts _ h1) hnamed hmethM hstatic hkP hinitP hy (g := F0 m pc ls ((av.reverse ++ st).map (xm_v ad))) rfl (argsL := av.map (xm_v ad)) (rest := st.map (xm_v ad)) hl hst (by rw [hb]; exact hd)
    exact ⟨mk, vm₁, hnamed, X₁, fun target h => hstep₁ _ fun acts => by rw [doInvoke_state]; exact h⟩
set_option maxHeartbeats 1000000 in
theorem xi_V {index maxL q ci N : Nat} {w : Cond} {CN : String} {T0 : u_T} {fs As : List Value} (C : xm_C E own cc nL rt tb nm rm) (hd : decode cc pc = .ok (.invokevirtual index, 3)) (hw : ω[q]? = some (.inr (ci, fs))) (hc : classes[ci]? = some (CN, T0, N)) (h1 : Cond.methodLink own index y ∈ lw_g ∨ ∃ host, Cond.methodLinkNest own index y host ∈ lw_g) (h2 : Cond.instanceMethod y ∈ lw_g) (h3 : Cond.selects CN y y ∈ lw_g) (h4 : w ∈ lw_g) (hcw : xm_cw w y maxL) (hy : y.cls ≠ "java/lang/invoke/MethodHandle" ∧ y.cls ≠ "java/lang/invoke/VarHandle") (hlen : (parseMethodDescriptor y.desc).map (fun d => d.parameters.length) = some As.length) : xm_Iv E y pc (.ref q :: As) st ω := by
  obtain ⟨p, l, e, R, s, m, args, below, meth, c, D, cA, A, ad0, n0⟩ := E
  obtain ⟨hx, hb, hml, hr, hown, hts, hK, hA, -⟩ := C
  intro ad ls locs cells slots T hP X
  obtain ⟨cellB, hcell, hobj, hcls⟩ := va_recv hK hP hc (xm_c_get hw)
  obtain ⟨mk, methM, hnamed, hmethM, hstM, habM⟩ := Cond.instanceMethod_spec (hts _ h2)
  obtain ⟨methM', cM, hmethM', -, -, hsigM⟩ := hcw.spec (hts _ h4) hnamed
  cases hmethM.symm.trans hmethM'
  obtain ⟨c2, r2, m2, q1, q2, q3, q4, kP, hkP, hkPi⟩ := Cond.selects_spec (hts _ h3)
  cases hcls.symm.trans q1
  cases (State.methodFound?_of_named hnamed hy).symm.trans q2
  cases hnamed.symm.trans q3
  have hselP : selectMethod e.platform s.vm cellB.cls mk = .method mk := by rw [Launch.admits_selectMethod X.admits]; exact q4
  have hl : (As.map (xm_v ad)).length = methM.sig.parameters.length := by
    rw [hsigM] at hlen
    simpa using (Option.some.inj hlen).symm
  have hst : (F0 m pc ls (((.ref q :: As).reverse ++ st).map (xm_v ad))).stack = (As.map (xm_v ad)).reverse ++ .ref (ad q) :: st.map (xm_v ad) := by
    show ((.ref q :: As).reverse ++ st).map (xm_v ad) = _
    simp [xm_v]
  rcases h1 with h1 | ⟨host, h1⟩
  · obtain ⟨vm₁, X₁, hstep₁⟩ := X.invokevirtual hx hown (hts _ h1) hnamed hmethM hstM hkP hkPi hy (a := ad q) (cell := cellB) hcell
      (fun z h => by rw [h] at hobj; cases hobj) hselP hmethM habM hkP hkPi (g := F0 m pc ls (((.ref q :: As).reverse ++ st).map (xm_v ad))) rfl (argsL := As.map (xm_v ad)) (rest := st.map (xm_v ad)) hl hst (by rw [hb]; exact hd)
    exact ⟨mk, vm₁, hnamed, X₁, fun target h => hstep₁ _ fun acts => by rw [doInvoke_state]; exact h⟩
  · obtain ⟨vm₁, X₁, hstep₁⟩ := X.invokevirtualNest hx hown (hts _ h1) hnamed hmethM hstM hkP hkPi hy (a := ad q) (cell := cellB) hcell
      (fun z h => by rw [h] at hobj; cases hobj) hselP hmethM habM hkP hkPi (g := F0 m pc ls (((.ref q :: As).reverse ++ st).map (xm_v ad))) rfl (argsL := As.map (xm_v ad)) (rest := st.map (xm_v ad)) hl hst (by rw [hb]; exact hd)
    exact ⟨mk, vm₁, hnamed, X₁, fun target h => hstep₁ _ fun acts => by rw [doInvoke_state]; exact h⟩
set_option maxHeartbeats 1000000 in
theorem xi_I {index maxL q : Nat} {b : ByteArray} {As : List Value} (C : xm_C E own cc nL rt tb nm rm) (hd : decode cc pc = .ok (.invokespecial index, 3)) (hy1 : y.name = "<init>") (h1 : Cond.methodLink own index y ∈ lw_g ∨ ∃ host, Cond.methodLinkNest own index y host ∈ lw_g) (h2 : Cond.instanceMethod y ∈ lw_g) (h4 : Cond.code y b maxL none ∈ lw_g) (hy : y.cls ≠ "java/lang/invoke/MethodHandle" ∧ y.cls ≠ "java/lang/invoke/VarHandle") (hlen : (parseMethodDescriptor y.desc).map (fun d => d.parameters.length) = some As.length) : xm_Iv E y pc (.ref q :: As) st ω := by
  obtain ⟨p, l, e, R, s, m, args, below, meth, c, D, cA, A, ad0, n0⟩ := E
  obtain ⟨hx, hb, hml, hr, hown, hts, hK, hA, -⟩ := C
  intro ad ls locs cells slots T hP X
  have hpl : e.platform.magicAccessors = ({} : Platform).magicAccessors := by rw [X.admits.platform]
  have hl : ∀ sig, parseMethodDescriptor y.desc = some sig → (As.map (xm_v ad)).length = sig.parameters.length := fun sig h => by
    rw [h] at hlen
    simpa using (Option.some.inj hlen).symm
  have hst : (F0 m pc ls (((.ref q :: As).reverse ++ st).map (xm_v ad))).stack = (As.map (xm_v ad)).reverse ++ .ref (ad q) :: st.map (xm_v ad) := by
    show ((.ref q :: As).reverse ++ st).map (xm_v ad) = _
    simp [xm_v]
  rcases h1 with h1 | ⟨host, h1⟩
  · obtain ⟨mk, methM, cM, kP, vm₁, hnamed, hmethM, hcodeM, -, hlocalsM, -, hkP, -, hW₁, hstep₁⟩ := Steps.initColdArgs (e := e) X.here hx X.warmed hpl hown hy1 hy (hts _ h1) (hts _ h2) (hts _ h4) (f := F0 m pc ls (((.ref q :: As).reverse ++ st).map (xm_v ad))) rfl hl hst (by rw [hb]; exact hd)
    exact ⟨mk, vm₁, hnamed, X.noted hW₁, fun target h => hstep₁ _ fun acts => by rw [doInvoke_state]; exact h⟩
  · obtain ⟨mk, methM, cM, kP, vm₁, hnamed, hmethM, hcodeM, -, hlocalsM, -, hkP, -, hW₁, hstep₁⟩ := Steps.initColdArgsNest (e := e) X.here hx X.warmed hpl hown hy1 hy (hts _ h1) (hts _ h2) (hts _ h4) (f := F0 m pc ls (((.ref q :: As).reverse ++ st).map (xm_v ad))) rfl hl hst (by rw [hb]; exact hd)
    exact ⟨mk, vm₁, hnamed, X.noted hW₁, fun target h => hstep₁ _ fun acts => by rw [doInvoke_state]; exact h⟩
set_option maxHeartbeats 2000000 in
/-- THE CALL -/
theorem xs_call {ig : Instr} {maxL : Nat} {w : Cond} {rc : Room} {Kc : xm_R → xm_O → Prop} {stk : List Value} (C : xm_C E own cc nL rt tb nm rm) (hd : decode cc pc = .ok (ig, 3)) (hiv : xm_Iv E y pc av st ω) (hM : xm_M y w rc av ω Kc) (h3 : Cond.initialized y.cls ∈ lw_g) (h4 : w ∈ lw_g) (hcw : xm_cw w y maxL) (hstk : stk = av.reverse ++ st)
    (hb0 : (xm_bl ω.length lv && xm_bs ω.length st) = true) (hfr : rc.frames + 1 ≤ rm.frames) (hlo : (st.map fun v => v.category).sum + (maxL + 11) + rc.locals ≤ rm.locals) (hce : kc + rc.cells ≤ rm.cells) (hsl : ks + rc.slots ≤ rm.slots)
    (kr : ∀ v ω', Kc (.inl v) ω' → xm_W E nL Q (kc + rc.cells) (ks + rc.slots) ω' (pc + 3) lv (v.toList ++ st))
    (kt : ∀ cls ω', Kc (.inr cls) ω' → xm_Th E nL Q (kc + rc.cells) (ks + rc.slots) ω' pc lv st cls) : xm_W E nL Q kc ks ω pc lv stk := by
  subst hstk
  obtain ⟨p, l, e, R, s, m, args, below, meth, c, D, cA, A, ad0, n0⟩ := E
  obtain ⟨hx, hb, hml, hr, hown, hts, hK, hA, hZ, hlk, hfl, htb, hnm, hR⟩ := C
  subst hR
  simp only [Bool.and_eq_true] at hb0
  obtain ⟨b2, b3⟩ := hb0
  intro ad H locs ls a1 a2 hP hD hS hl T hT X
  subst hT
  obtain ⟨mk, vm₁, hnamed, X₁, st1⟩ := hiv ad ls locs kc ks T hP X
  have hFc : ∀ q, va_A (xm_c cA ad ω) T.heap.size q → A q := fun q hq => by
    rcases hq with ⟨k, e0, hk⟩ | hq
    · exact hD.2 k _ hk
    · exact hA q (Nat.le_trans hS.1 hq)
  obtain ⟨o, s₀, t, T', L, hs0, X', hL, e1, e2, hQ, ret, thr⟩ := xm_back X₁ (hM l hfl D cA ad T.heap.size) (g := F0 m pc ls (st.map (xm_v ad))) (a := (av.map (xm_v ad)).toArray) (maxL := maxL) rfl (hl.1.trans hml.symm) (by rw [hb]; exact hd) (X₁.named hnamed)
    (by
      obtain ⟨mY, cY, k1, k2, k3, -⟩ := hcw.spec (xm_ok_warm (A' := #[]) (List.mem_filter.mp h4).2 X₁.warmed (hts _ h4)) (X₁.named hnamed)
      exact ⟨mY, cY, k1, k2, k3⟩)
    (xm_ok_warm (List.mem_filter.mp h3).2 X₁.warmed (hts _ h3)) (xm_ok_warm (List.mem_filter.mp h4).2 X₁.warmed (hts _ h4)) hfr
    (by
      show 2 * 0 + ((st.map (xm_v ad)).map fun v => v.category).sum + (maxL + 11) + rc.locals ≤ _
      rw [xm_cats]; omega) hce hsl
    (fun U hU hV => by
      have hW : s.WarmedH U.vm := by rw [hV]; exact X₁.warmed
      refine ⟨rfl, by rw [hU]; rfl, by rw [hU]; exact hP, va_K.moved hW.alike hK, lg_warm hW hts, ?_, hD.weaken (fun _ _ _ _ => trivial)⟩
      rw [hU]
      exact ((hZ.kept (H1 := T.heap) (fun q h1 h2 => hS.2.1 q h1 h2)).narrow (fun q _ h => hFc q h)).moved hW.alike)
  obtain ⟨r, ω', ad', hKc, g1, g2, gP, gD, gF, gR⟩ := hQ
  have ag : ∀ i, i < ω.length → ad i = ad' i := fun i hi => (g1 i hi).symm
  have hs0' : s₀.heap = T.heap := hs0
  have hS' : va_S A s.heap T'.heap (locs ++ L) := by
    refine ⟨?_, fun q h1 h2 => ?_, fun q hq => ?_⟩
    · rw [e1]; have := gF.1; rw [hs0'] at this; exact Nat.le_trans hS.1 this
    · rw [e1, gF.2 q (by rw [hs0']; exact Nat.lt_of_lt_of_le h1 hS.1) (fun z => h2 (hFc q z)), hs0']
      exact hS.2.1 q h1 h2
    · rcases List.mem_append.mp hq with h | h
      · exact hS.2.2 q h
      · exact hFc _ (hL q h)
  have hP' : va_P D classes (xm_c cA ad' ω') T'.heap := by rw [e1]; exact gP
  have hD' : va_D A (xm_c cA ad' ω') := gD.weaken (fun _ q _ h => hFc q.1 h)
  have hl' : lv_has ls nL (xm_l ad' lv) := by rw [← xm_l_eq ag b2]; exact hl
  have ha' : ∀ i, i < n0 → ad' i = ad0 i := fun i hi => by rw [g1 i (Nat.lt_of_lt_of_le hi a2)]; exact a1 i hi
  have hst : st.map (xm_v ad) = st.map (xm_v ad') := xm_s_eq ag b3
  cases r with
  | inl v =>
    have hv : o = .returned (v.map (xm_v ad')) := gR
    obtain ⟨t', w1, w2⟩ := kr v ω' hKc ad' T'.heap (locs ++ L) ls ha' (Nat.le_trans a2 g2) hP' hD' hS' hl' T' rfl X'
    refine ⟨t', st1 _ ((ret _ hv).trans ?_), w2⟩
    have e4 : (v.map (xm_v ad')).toList ++ st.map (xm_v ad) = (v.toList ++ st).map (xm_v ad') := by
      rw [List.map_append, hst]
      cases v <;> rfl
    show Steps p.tables e below (T'.setTop (F0 m (pc + 3) ls ((v.map (xm_v ad')).toList ++ st.map (xm_v ad)))) t'
    rw [e4]
    exact w1
  | inr cls =>
    obtain ⟨x, ce, hv, hce1, hce2, hce3⟩ := gR
    have hfc : s.vm.findClass cls = some ce.cls := by
      have := X'.warmed.alike.findClass cls
      rw [e2] at this
      rw [← this]; exact hce3
    obtain ⟨t', w1, w2⟩ := kt cls ω' hKc ad' (locs ++ L) ls x ce T' ha' (Nat.le_trans a2 g2) hP' hD' hS' hl' (by rw [e1]; exact hce1) hce2 hfc X'
    refine ⟨t', st1 _ ((thr x hv).trans ?_), w2⟩
    show Steps p.tables e below ((T'.setTop (F0 m pc ls (st.map (xm_v ad)))).pushFrame (.throwing x)) t'
    rw [hst]
    exact w1
/-- thrown through: no handler here -/
theorem xt_leave {K : xm_R → xm_O → Prop} {cls : String} (C : xm_C E own cc nL rt [] nm rm) (hK : K (.inr cls) ω) (h1 : kc ≤ rm.cells) (h2 : ks ≤ rm.slots) : xm_Th E nL (xm_F E rm.cells rm.slots K) kc ks ω pc lv st cls := by
  obtain ⟨p, l, e, R, s, m, args, below, meth, c, D, cA, A, ad0, n0⟩ := E
  obtain ⟨hx, hb, hml, hr, hown, hts, hKn, hA, hZ, hlk, hfl, htb, hnm, hR⟩ := C
  intro ad locs ls x ce T a1 a2 hP hD hS hl hce hvm hcls X
  have hem : c.exceptionTable.toList = [] := by
    cases hq : c.exceptionTable.toList with
    | nil => rfl
    | cons z zs => rw [hq] at htb; cases htb
  obtain ⟨w1, w2, w3, w4, w5⟩ := X.leaveThrown x (g := F0 m pc ls (st.map (xm_v ad))) rfl rfl rfl (fun z hz => by rw [hem] at hz; cases hz) hlk
  refine ⟨_, w1, .threw x, w2, w3, ⟨.inr cls, ω, ad, hK, a1, a2, hP, hD, hS.F rfl, x, ce, rfl, hce, hvm, ?_⟩, locs, ⟨w4, w5.mono h1 h2⟩, hS.2.2⟩
  have := X.warmed.alike.findClass cls
  exact (this _).trans hcls
end XK
