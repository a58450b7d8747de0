-- THROWS: 'throw new X("..")' where nothing catches it here; the same invocation counted from here on
section XRB
variable {p : Program} {l : Launch} {e : Env} {R : Room} {s : State} {m : MethodId} {args : Array Value} {below : List Frame} {meth : Method} {c : Code} {T : State} {locs : List Loc} {cells slots : Nat}
theorem xt_hears (X : Stand p l e R s m args below meth c T locs cells slots) : (T.setFrames (.invoking m args :: below)).hears m below = true := by
  have h0 := X.hears
  have hm := X.method
  have hm' := X.method'
  cases below with
  | nil => simpa [State.hears, hm, hm'] using h0
  | cons f r => cases f <;> simp_all [State.hears, State.code?_eq, X.warmed.alike.method?]
theorem xt_rebase (X : Stand p l e R s m args below meth c T locs cells slots) (hc : cells ≤ R.cells) (hs : slots ≤ R.slots) :
    Stand p l e { R with cells := R.cells - cells, slots := R.slots - slots } (T.setFrames (.invoking m args :: below)) m args below meth c T [] 0 0 := by
  obtain ⟨g₀, hfr⟩ := X.frames_eq
  have hcur : T.cur < T.threads.size := State.cur_lt_of_frames hfr
  have hfs : (T.setFrames (.invoking m args :: below)).frames = .invoking m args :: below := State.frames_setFrames _ hcur
  obtain ⟨t, ht, -⟩ := State.frames_cons hfr
  obtain ⟨t', ht', -⟩ := State.frames_cons hfs
  refine ⟨X.admits, X.cas, X.clock, hfs, ?_, xt_hears X, X.method', X.code, X.here, X.tail, State.WarmedH.refl _, by rw [State.stackLimits_setFrames], by rw [State.stackBytes_setFrames], ?_⟩
  · have h0 := X.room
    have hz := X.heapSize
    have hu := X.used
    have hb := X.book
    have e1 : s.localsInUse = stackWeight below + vmFrameWords + (c.maxLocals + 11) := State.localsInUse_invoking X.frames X.method X.code
    have e2 : (T.setFrames (.invoking m args :: below)).localsInUse = stackWeight below + vmFrameWords + (c.maxLocals + 11) := State.localsInUse_invoking hfs X.method' X.code
    have e3 : e.platform.stackLimits (T.setFrames (.invoking m args :: below)).me = e.platform.stackLimits s.me := by rw [State.stackLimits_setFrames]; exact X.limits
    have e4 : (T.setFrames (.invoking m args :: below)).me.stackBytes = s.me.stackBytes := by rw [State.stackBytes_setFrames]; exact X.bytes
    simp only [State.hasRoom, Bool.and_eq_true, decide_eq_true_eq] at h0 ⊢
    rw [e1, X.frames] at h0
    rw [e2, hfs, e3, e4]
    refine ⟨⟨⟨h0.1.1.1, ?_⟩, ?_⟩, ?_⟩
    · have h1 := h0.1.1.2
      show T.heap.size + (R.cells - cells) ≤ _
      omega
    · have h1 := h0.1.2
      show T.slotsUsed + (R.slots - slots) ≤ _
      omega
    · exact hb
  · have h0 := (State.sameButNew.refl (T.setFrames (.invoking m args :: below)) ht').setFrames T.frames (State.cur_lt_of_frames hfs)
    have e0 : (T.setFrames (.invoking m args :: below)).setFrames T.frames = T.setVm (T.setFrames (.invoking m args :: below)).vm := by
      rw [State.setFrames_setFrames, State.setFrames_self ht]; rfl
    rw [e0] at h0
    exact h0
end XRB
theorem xt_kept {s s' : State} {k n : Nat} (h : s.sameButNew s' [] k n) {a : Addr} {c : Cell} (hc : s.heap[a]? = some c) : s'.heap[a]? = some c := by
  obtain ⟨c', hc', hce, hsz, hout⟩ := h.2.2.2.2.2 a c hc
  have hsl : c'.slots = c.slots := Array.ext hsz fun i h1 h2 => by
    have := hout i (by simp)
    rw [Array.getElem?_eq_getElem h1, Array.getElem?_eq_getElem h2] at this
    exact Option.some.inj this
  rw [hc', hce, hsl]
abbrev xm_zw (a : Cond) : Prop := a = .laysStatic "java/lang/Throwable" "UNASSIGNED_STACK" "[Ljava/lang/StackTraceElement;" ∨ a = .laysStatic "java/lang/Throwable" "SUPPRESSED_SENTINEL" "Ljava/util/List;" ∨ a = .isRef (.static "java/lang/Throwable" "UNASSIGNED_STACK" "[Ljava/lang/StackTraceElement;") ∨ a = .isRef (.static "java/lang/Throwable" "SUPPRESSED_SENTINEL" "Ljava/util/List;")
theorem xm_Z.use {A : Nat → Prop} {U : State} (h : xm_Z A U U.heap) {a : Cond} (ha : xm_zw a) {args : Array Value} : a.before args U = true := by
  rcases ha with rfl | rfl | rfl | rfl
  · exact h.1.lays
  · exact h.2.1.lays
  · exact h.1.ref
  · exact h.2.1.ref
theorem xt_str {own tx : String} {k : Nat} {A : Array Value} {U : State} {cur : ClassId} (hcur : U.vm.findClass own = some cur) (h : (Cond.stringRef own k tx).before A U = true) : ∃ q, vk_R own k tx q U := by
  obtain ⟨-, -, -, a, -, -, -, -, -, ha⟩ := Cond.stringRef_spec hcur (xm_str_same (A' := #[]) rfl h)
  exact ⟨a, xm_str_same rfl h, ha⟩
section XTW
variable {p : Program} {l : Launch} {e : Env} {R : Room} {s : State} {m : MethodId} {args : Array Value} {below : List Frame} {meth : Method} {c : Code} {Q : State → Prop}
set_option maxHeartbeats 1000000 in
theorem xt_W {cc : ByteArray} {own cls tx : String} {names : List String} {iC iS ic pc : Nat} {ls : Array Slot} {st : List Value} (hx : p.tables.exec = Jvm.exec) (hb : c.code = cc) (hml : ls.size = c.maxLocals) (htr : e.platform.stackTraces = false) (hown : s.vm.findClass own = some m.cls) (hlk : meth.locks = false)
    (h1 : (Cond.classLink own iC cls).before args s = true) (h2 : (Cond.instantiable cls 6).before args s = true) (h3 : (Cond.initialized cls).before args s = true) (h4 : (Cond.stringRef own iS tx).before args s = true) (hat : ∀ a ∈ Bundle.ownAtoms own ic cls names, a.before args s = true) (hf : Bundle.fit cls = true) (hfn : ∀ n ∈ names, Bundle.fit n = true)
    (d0 : decode cc pc = .ok (.new iC, 3)) (d3 : decode cc (pc + 3) = .ok (.dup, 1)) (d4 : decode cc (pc + 3 + 1) = .ok (.ldc iS, 2)) (d6 : decode cc (pc + 3 + 1 + 2) = .ok (.invokespecial ic, 3)) (d9 : decode cc (pc + 3 + 1 + 2 + 3) = .ok (.athrow, 1)) (hout : c.exceptionTable.toList = [])
    (hfr : names.length + 3 < R.frames) (hlo : (st.map fun v => v.category).sum + 1 + (13 * (names.length + 1) + 42) ≤ R.locals) (hce : 1 ≤ R.cells) (hsl : 6 ≤ R.slots)
    (hQ : ∀ (U : State) (x : Nat) (ce : Cell), U.status = .running → Ended U below (.threw x) → s.WarmedH U.vm → s.sameButNew ({ U with vm := s.vm } : State) [] 1 6 → U.heap[x]? = some ce → ce.vm = .none → s.vm.findClass cls = some ce.cls → Q U) :
    W p l e R s m args below meth c s.heap [] 0 0 Q (F0 m pc ls st) := by
  obtain ⟨q, hZ⟩ := xt_str hown h4
  refine W.newc hx hb hown h1 h2 h3 (g := F0 m pc ls st) rfl d0 (by omega) (by omega) (fun cC kC g1 g2 g3 g4 => ?_)
  refine W.eq (g2 := F0 m (pc + 3) ls (.ref s.heap.size :: st)) rfl ?_
  refine lv_dup hx hb d3 rfl ?_
  refine va_ldcS hx hb hown hZ d4 ?_
  intro T hT X
  obtain ⟨U, w1, w2, w3, w4, w5, ce, w6, w7⟩ := X.ctorThrowS hx htr (own := own) (cls := cls) (names := names) (ic := ic) hown hf hfn hat (fun x hx => by cases hx) (a := s.heap.size) (cX := cC) (kX := kC) g1 g2 (by rw [hT]; simp [freshCell]) (Nat.le_refl _) (msg := .ref q) rfl
    (g := F0 m (pc + 3 + 1 + 2) ls (.ref q :: .ref s.heap.size :: .ref s.heap.size :: st)) rfl hml rfl rfl (rest := st) rfl (by rw [hb]; exact d6) (by rw [hb]; exact d9) (fun x hx => by rw [hout] at hx; cases hx) hfr
    (by show 2 * 0 + (1 + (st.map fun v => v.category).sum) + (13 * (names.length + 1) + 42) ≤ _; omega) hlk
  exact ⟨U, w1, hQ U _ ce w2 w3 w4 w5 w6 w7.vm w7.cls⟩
end XTW
section XTK
variable {E : xm_X} {own : String} {cc : ByteArray} {nL : Nat} {rt : Option FieldType} {tb : xm_H} {nm : String} {rm : Room} {Q : State → Prop} {kc ks : Nat} {ω : xm_O} {pc : Nat} {lv : List (Nat × Value)} {st : List Value}
set_option maxHeartbeats 2000000 in
/-- 'throw new X("..")', no handler here -/
theorem xs_throw {K : xm_R → xm_O → Prop} {cls tx : String} {names : List String} {iC iS ic : Nat} (C : xm_C E own cc nL rt [] nm rm) (h1 : Cond.classLink own iC cls ∈ lw_g) (h2 : Cond.instantiable cls 6 ∈ lw_g) (h3 : Cond.initialized cls ∈ lw_g) (h4 : Cond.stringRef own iS tx ∈ lw_g) (hat : ∀ a ∈ Bundle.ownAtoms own ic cls names, a ∈ lw_g ∨ xm_zw a) (hf : Bundle.fit cls = true) (hfn : ∀ n ∈ names, Bundle.fit n = true)
    (d0 : decode cc pc = .ok (.new iC, 3)) (d3 : decode cc (pc + 3) = .ok (.dup, 1)) (d4 : decode cc (pc + 3 + 1) = .ok (.ldc iS, 2)) (d6 : decode cc (pc + 3 + 1 + 2) = .ok (.invokespecial ic, 3)) (d9 : decode cc (pc + 3 + 1 + 2 + 3) = .ok (.athrow, 1))
    (hfr : names.length + 3 < rm.frames) (hlo : (st.map fun v => v.category).sum + 1 + (13 * (names.length + 1) + 42) ≤ rm.locals) (hce : kc + 1 ≤ rm.cells) (hsl : ks + 6 ≤ rm.slots) (hK : K (.inr cls) ω) :
    xm_W E nL (xm_F E rm.cells rm.slots K) kc ks ω pc lv st := by
  obtain ⟨p, l, e, R, s, m, args, below, meth, c, D, cA, A, ad0, n0⟩ := E
  obtain ⟨hx, hb, hml, hr, hown, hts, hKn, hA, hZ, hlk, hfl, htb, hnm, hR⟩ := C
  subst hR
  have hem : c.exceptionTable.toList = [] := by
    cases hq : c.exceptionTable.toList with
    | nil => rfl
    | cons z zs => rw [hq] at htb; cases htb
  intro ad H locs ls a1 a2 hP hD hS hl T hT X
  subst hT
  have X' := xt_rebase X (by omega) (by omega)
  have hW := X.warmed
  have hts' : ∀ w ∈ lw_g, w.before args (T.setFrames (.invoking m args :: below)) = true := lg_warm (U := T.setFrames (.invoking m args :: below)) hW hts
  have hZ' : xm_Z A (T.setFrames (.invoking m args :: below)) (T.setFrames (.invoking m args :: below)).heap := (hZ.kept (H1 := T.heap) (fun q g1 g2 => hS.2.1 q g1 g2)).moved hW.alike
  have htr := Launch.traces_off hfl X.admits
  have hown' : (T.setFrames (.invoking m args :: below)).vm.findClass own = some m.cls := (hW.alike.findClass own _).trans hown
  obtain ⟨U, hst, hU⟩ := xt_W (Q := xm_F (p, l, e, R, s, m, args, below, meth, c, D, cA, A, ad0, n0) R.cells R.slots K) (p := p) (l := l) (e := e) (R := { R with cells := R.cells - kc, slots := R.slots - ks }) (s := T.setFrames (.invoking m args :: below)) (m := m) (args := args) (below := below) (meth := meth) (c := c) (ls := ls) (st := st.map (xm_v ad)) hx hb (hl.1.trans hml.symm) htr hown' hlk
    (hts' _ h1) (hts' _ h2) (hts' _ h3) (hts' _ h4) (fun a ha => (hat a ha).elim (fun h => hts' a h) (fun h => hZ'.use h)) hf hfn d0 d3 d4 d6 d9 hem hfr (by rw [xm_cats]; exact hlo) (by show 1 ≤ R.cells - kc; omega) (by show 6 ≤ R.slots - ks; omega)
    (fun U x ce w2 w3 w4 w5 w6 w7 w8 => by
      have kept : ∀ q : Nat, q < T.heap.size → U.heap[q]? = T.heap[q]? := fun q hq => by
        have h0 : (T.setFrames (.invoking m args :: below)).heap[q]? = some T.heap[q] := Array.getElem?_eq_getElem hq
        have := xt_kept w5 h0
        exact this.trans (Array.getElem?_eq_getElem hq).symm
      have hle : T.heap.size ≤ U.heap.size := w5.2.1
      refine ⟨.threw x, w2, w3, ⟨.inr cls, ω, ad, hK, a1, a2, hP.kept (fun k q hk => kept q.1 (hP k q hk).lt), hD, ⟨Nat.le_trans hS.1 hle, fun q g1 g2 => ?_⟩, x, ce, rfl, w6, w7, ?_⟩, locs, ⟨State.WarmedH.trans hW w4, ?_⟩, hS.2.2⟩
      · rw [kept q (Nat.lt_of_lt_of_le g1 hS.1)]; exact hS.2.1 q g1 g2
      · exact (w4.alike.findClass cls _).trans w8
      · obtain ⟨e2, q2, q3, q4, q5, q6⟩ := w5
        obtain ⟨g₀, hfr0⟩ := X.frames_eq
        obtain ⟨t, ht, -⟩ := State.frames_cons hfr0
        have hsame : T.sameButNew ({ T with heap := U.heap, slotsUsed := U.slotsUsed } : State) [] 1 6 := by
          refine ⟨?_, q2, q3, q4, q5, q6⟩
          show ({ T with heap := U.heap, slotsUsed := U.slotsUsed } : State) = { T.setFrames T.frames with heap := U.heap, slotsUsed := U.slotsUsed }
          rw [State.setFrames_self ht]
        have h9 := (X.same.trans (hsame.setVm s.vm)).setFrames U.frames X.cur
        rw [List.append_nil] at h9
        have e5 : ({ U with vm := s.vm } : State) = (({ T with heap := U.heap, slotsUsed := U.slotsUsed } : State).setVm s.vm).setFrames U.frames := by
          have e6 : ({ U with vm := s.vm } : State) = ({ U with vm := (T.setFrames (.invoking m args :: below)).vm } : State).setVm s.vm := rfl
          rw [e6, e2, State.setFrames_setFrames]
          rfl
        rw [e5]
        exact h9.mono hce hsl) T rfl X'
  exact ⟨U, hst, hU⟩
end XTK
-- CATCHES: the search through the table, its classes linked, cold or warm
section XFG
variable {Q : Handler → Pre} {CE : CtlPost} {e : Env} {d : Bool} {acts : List Action} {s : State} {f : JFrame} {a : Addr}
theorem xf_go {x : ExceptionTableEntry} {t : List ExceptionTableEntry} {c : ClassId} {cell : Cell} {bb : Bool} (hx : covers x f.pc = true) (h0 : x.catchType ≠ 0) (hl : s.vm.ClassLinks e.platform f.method.cls x.catchType c) (hcell : s.heap[a]? = some cell) (hobj : ∀ k, cell.vm ≠ .statics k)
    (hk : ∃ k, s.vm.classes[cell.cls]? = some k) (hc : ∃ k, s.vm.classes[c]? = some k) (hfit : s.vm.assignable cell.cls c = bb) :
    wp (findHandler.go f a (x :: t)) Q CE e d acts s ↔ (if bb = true then Q (.found x.handlerPc) d acts (s.setVm (s.vm.noted f.method.cls x.catchType (.cls c))) else wp (findHandler.go f a t) Q CE e d acts (s.setVm (s.vm.noted f.method.cls x.catchType (.cls c)))) := by
  simp only [covers] at hx
  obtain ⟨ha, ht⟩ := (resolveClass_links e.toSetting hl).op (op := VmOp.resolveClass f.method.cls x.catchType) rfl
  have hal : s.vm.Alike (s.vm.noted f.method.cls x.catchType (.cls c)) := (Vm.Alike.refl s.vm).noted _ _ _
  obtain ⟨k1, hk1⟩ := hk
  obtain ⟨k2, hk2⟩ := hc
  obtain ⟨k1', hk1', -⟩ := hal.2.2 _ _ hk1
  obtain ⟨k2', hk2', -⟩ := hal.2.2 _ _ hk2
  have hfit' : (s.vm.noted f.method.cls x.catchType (.cls c)).assignable cell.cls c = bb := by rw [hal.assignable]; exact hfit
  cases bb <;> simp [findHandler.go, hx, h0, ha, ht, hcell, hobj, hk1', hk2', hfit', VmOp.dirties, VmOp.acts]
end XFG
def xf_To (e : Env) (s : State) (f : JFrame) (a : Addr) (h : Handler) (vm' : Vm) : Prop := ∀ (Q : Handler → Pre) (CE : CtlPost) (d : Bool) (acts : List Action), wp (findHandler f a) Q CE e d acts s ↔ Q h d acts (s.setVm vm')
theorem xf_step {e : Env} {s : State} {a : Addr} {f : JFrame} {r : List Frame} {pc : Nat} {vm' : Vm} (hfind : xf_To e s f a (.found pc) vm') : (stepThrowing e s a (.java f :: r)).Is ((s.setVm vm').setFrames (.java { f with pc := pc, stack := [.ref a] } :: r)) [] := by
  simp only [stepThrowing, searchFrame, vmDo]
  generalize hr : Sem.go _ e false [] s = res
  obtain ⟨as, rfl, ha⟩ := Sem.eq_ok_of hr (a := Handler.found pc) (s' := s.setVm vm') (acts' := []) (by simp [hfind _ _ _ _])
  exact ⟨rfl, ha⟩
theorem xf_frames (u : State) (vm' : Vm) (F G : List Frame) : ((u.setFrames F).setVm vm').setFrames G = (u.setVm vm').setFrames G := by
  have h1 : (u.setFrames F).setVm vm' = (u.setVm vm').setFrames F := rfl
  rw [h1, State.setFrames_setFrames]
theorem xf_caught {tb : Tables} {e : Env} {s target : State} {g : JFrame} {c : Code} {below : List Frame} {a : Addr} (h : At s g.method c below) {pc : Nat} {vm' : Vm} (hfind : xf_To e ((s.setTop g).pushFrame (.throwing a)) g a (.found pc) vm') (hrest : Steps tb e below ((s.setVm vm').setTop { g with pc := pc, stack := [.ref a] }) target) : Steps tb e below ((s.setTop g).pushFrame (.throwing a)) target := by
  obtain ⟨hgo, hw⟩ := h.throwing a
  refine Steps.head hgo hw ?_
  rw [stepThread_throwing (frames_entered h.top _), (xf_step (s := (s.setTop g).pushFrame (.throwing a)) hfind).1]
  obtain ⟨g₀, hg⟩ := Option.isSome_iff_exists.mp h.top
  obtain ⟨r, hr⟩ := State.topJava?_eq_some.mp hg
  have hr' : (s.setVm vm').frames = .java g₀ :: r := hr
  rw [State.setTop_of_frames _ hr'] at hrest
  rw [hr, List.tail_cons, State.pushFrame, xf_frames, State.setTop_of_frames _ hr, xf_frames]
  exact hrest
section XFK
variable {E : xm_X} {own : String} {cc : ByteArray} {nL : Nat} {rt : Option FieldType} {tb : xm_H} {nm : String} {rm : Room} {Q : State → Prop} {kc ks : Nat} {ω : xm_O} {pc : Nat} {lv : List (Nat × Value)} {st : List Value}
set_option maxHeartbeats 1000000 in
/-- the first row of the table catches -/
theorem xt_catch1 {cls C1 : String} {p1 p2 p3 i1 : Nat} {rest : xm_H} (C : xm_C E own cc nL rt ((p1, p2, p3, i1) :: rest) nm rm) (hpc : p1 ≤ pc ∧ pc < p2) (hi : i1 ≠ 0) (w1 : Cond.classLink own i1 C1 ∈ lw_g) (w2 : Cond.castable cls C1 ∈ lw_g) (hb0 : (xm_bo ω.length ω && xm_bl ω.length lv) = true) (k : xm_W E nL Q kc ks ω p3 lv [.ref ω.length]) : xm_Th E nL Q kc ks ω pc lv st cls := by
  obtain ⟨p, l, e, R, s, m, args, below, meth, c, D, cA, A, ad0, n0⟩ := E
  obtain ⟨hx, hb, hml, hr, hown, hts, hKn, hA, hZ, hlk, hfl, htb, hnm, hR⟩ := C
  simp only [Bool.and_eq_true] at hb0
  intro ad locs ls x ce T a1 a2 hP hD hS hl hce hvm hcls X
  have hpl : e.platform.magicAccessors = ({} : Platform).magicAccessors := by rw [X.admits.platform]
  obtain ⟨c1, hc1, hcl⟩ := Cond.classLink_spec hown (hts _ w1) e.platform hpl
  obtain ⟨c3, c4, hc3, hc4, hasg⟩ := Cond.castable_spec (hts _ w2)
  cases hc3.symm.trans hcls
  cases hc4.symm.trans hc1
  obtain ⟨z, zs, hz, ez⟩ : ∃ z zs, c.exceptionTable.toList = z :: zs ∧ (z.startPc, z.endPc, z.handlerPc, z.catchType) = (p1, p2, p3, i1) := by
    cases hq : c.exceptionTable.toList with
    | nil => rw [hq] at htb; cases htb
    | cons z zs =>
      rw [hq] at htb
      exact ⟨z, zs, rfl, (List.cons.inj htb).1⟩
  simp only [Prod.mk.injEq] at ez
  obtain ⟨z1, z2, z3, z4⟩ := ez
  have hcov : covers z (F0 m pc ls (st.map (xm_v ad))).pc = true := by
    show covers z pc = true
    simp only [covers, z1, z2, Bool.and_eq_true, decide_eq_true_eq]
    exact hpc
  obtain ⟨dk, _, _, kt, hd, _, _, _, _, hkt, _, hopen⟩ := hcl.here
  have hW' : s.WarmedH (T.vm.noted m.cls i1 (.cls c1)) := X.warmed.noted hd hopen (State.rightAt_cls hcl)
  have hal := X.warmed.alike
  obtain ⟨kt', hkt', -⟩ := hal.2.2 _ _ hkt
  have hfit : T.vm.assignable ce.cls c1 = true := by rw [hal.assignable]; exact hasg
  have ag : ∀ i, i < ω.length → ad i = (fun i => if i = ω.length then x else ad i) i := fun i hi => by simp [Nat.ne_of_lt hi]
  have ew := xm_c_eq (cA := cA) ag (Nat.le_refl _) hb0.1
  have el := xm_l_eq ag hb0.2
  obtain ⟨t', g1, g2⟩ := k (fun i => if i = ω.length then x else ad i) T.heap locs ls (fun i hi => (ag i (Nat.lt_of_lt_of_le hi a2)).symm.trans (a1 i hi)) a2 (by rw [← ew]; exact hP) (by rw [← ew]; exact hD) hS (by rw [← el]; exact hl) (T.setVm (T.vm.noted m.cls i1 (.cls c1))) rfl (X.noted hW')
  refine ⟨t', ?_, g2⟩
  refine xf_caught (s := T) (g := F0 m pc ls (st.map (xm_v ad))) (pc := p3) (vm' := T.vm.noted m.cls i1 (.cls c1)) X.here (fun Q CE d acts => ?_) ?_
  · rw [W.findHandler_eq (s := (T.setTop (F0 m pc ls (st.map (xm_v ad)))).pushFrame (.throwing x)) (f := F0 m pc ls (st.map (xm_v ad))) (meth := meth) (code := c) X.method' X.code, hz]
    refine (xf_go (s := (T.setTop (F0 m pc ls (st.map (xm_v ad)))).pushFrame (.throwing x)) (bb := true) (c := c1) (cell := ce) hcov (by rw [z4]; exact hi) (by rw [z4]; exact X.warmed.classLinks hcl) hce (fun k => by rw [hvm]; intro h; cases h) (Vm.classAt_of_assignable hfit ⟨kt', hkt'⟩) ⟨kt', hkt'⟩ hfit).trans ?_
    rw [if_pos rfl, z3, z4]
    rfl
  · have e5 : ([.ref ω.length] : List Value).map (xm_v (fun i => if i = ω.length then x else ad i)) = [.ref x] := by simp [xm_v]
    rw [e5] at g1
    exact g1
set_option maxHeartbeats 1000000 in
/-- the first row of the table passes, the second catches -/
theorem xt_catch2 {cls C1 C2 : String} {p1 p2 p3 i1 r1 r2 r3 i2 : Nat} {rest : xm_H} (C : xm_C E own cc nL rt ((p1, p2, p3, i1) :: (r1, r2, r3, i2) :: rest) nm rm) (hpc : p1 ≤ pc ∧ pc < p2) (hpc2 : r1 ≤ pc ∧ pc < r2) (hi : i1 ≠ 0) (hi2 : i2 ≠ 0) (w1 : Cond.classLink own i1 C1 ∈ lw_g) (w2 : Cond.classLink own i2 C2 ∈ lw_g) (w3 : Cond.castable cls C2 ∈ lw_g)
    (hno : ∀ (A : Nat → Prop) (U : State) (H : Heap), xm_Z A U H → va_Nc cls C1 U) (hb0 : (xm_bo ω.length ω && xm_bl ω.length lv) = true) (k : xm_W E nL Q kc ks ω r3 lv [.ref ω.length]) : xm_Th E nL Q kc ks ω pc lv st cls := by
  obtain ⟨p, l, e, R, s, m, args, below, meth, c, D, cA, A, ad0, n0⟩ := E
  obtain ⟨hx, hb, hml, hr, hown, hts, hKn, hA, hZ, hlk, hfl, htb, hnm, hR⟩ := C
  simp only [Bool.and_eq_true] at hb0
  intro ad locs ls x ce T a1 a2 hP hD hS hl hce hvm hcls X
  have hpl : e.platform.magicAccessors = ({} : Platform).magicAccessors := by rw [X.admits.platform]
  obtain ⟨c1, hc1, hcl⟩ := Cond.classLink_spec hown (hts _ w1) e.platform hpl
  obtain ⟨c2, hc2, hcl2⟩ := Cond.classLink_spec hown (hts _ w2) e.platform hpl
  obtain ⟨c3, c4, hc3, hc4, hasg⟩ := Cond.castable_spec (hts _ w3)
  cases hc3.symm.trans hcls
  cases hc4.symm.trans hc2
  obtain ⟨c8, c9, n1, n2, hna⟩ := hno _ _ _ hZ
  cases n1.symm.trans hcls
  cases n2.symm.trans hc1
  obtain ⟨z, y, zs, hz, ez, ey⟩ : ∃ z y zs, c.exceptionTable.toList = z :: y :: zs ∧ (z.startPc, z.endPc, z.handlerPc, z.catchType) = (p1, p2, p3, i1) ∧ (y.startPc, y.endPc, y.handlerPc, y.catchType) = (r1, r2, r3, i2) := by
    cases hq : c.exceptionTable.toList with
    | nil => rw [hq] at htb; cases htb
    | cons z zs =>
      cases hq2 : zs with
      | nil => rw [hq, hq2] at htb; cases htb
      | cons y ys =>
        rw [hq, hq2] at htb
        exact ⟨z, y, ys, rfl, (List.cons.inj htb).1, (List.cons.inj (List.cons.inj htb).2).1⟩
  simp only [Prod.mk.injEq] at ez ey
  obtain ⟨z1, z2, z3, z4⟩ := ez
  obtain ⟨y1, y2, y3, y4⟩ := ey
  have hcov : covers z (F0 m pc ls (st.map (xm_v ad))).pc = true := by
    show covers z pc = true
    simp only [covers, z1, z2, Bool.and_eq_true, decide_eq_true_eq]
    exact hpc
  have hcov2 : covers y (F0 m pc ls (st.map (xm_v ad))).pc = true := by
    show covers y pc = true
    simp only [covers, y1, y2, Bool.and_eq_true, decide_eq_true_eq]
    exact hpc2
  obtain ⟨dk, _, _, kt, hd, _, _, _, _, hkt, _, hopen⟩ := hcl.here
  obtain ⟨dk2, _, _, kt2, hd2, _, _, _, _, hkt2, _, hopen2⟩ := hcl2.here
  have hWa : s.WarmedH (T.vm.noted m.cls i1 (.cls c1)) := X.warmed.noted hd hopen (State.rightAt_cls hcl)
  have hWb : s.WarmedH ((T.vm.noted m.cls i1 (.cls c1)).noted m.cls i2 (.cls c2)) := hWa.noted hd2 hopen2 (State.rightAt_cls hcl2)
  have hal := X.warmed.alike
  obtain ⟨kt', hkt', -⟩ := hal.2.2 _ _ hkt
  obtain ⟨kt2', hkt2', -⟩ := hWa.alike.2.2 _ _ hkt2
  have hfit : T.vm.assignable ce.cls c1 = false := by rw [hal.assignable]; exact hna
  have hfit2 : (T.vm.noted m.cls i1 (.cls c1)).assignable ce.cls c2 = true := by rw [hWa.alike.assignable]; exact hasg
  obtain ⟨kx, hkx⟩ := Vm.classAt_of_findClass hcls
  obtain ⟨kx', hkx', -⟩ := hal.2.2 _ _ hkx
  have ag : ∀ i, i < ω.length → ad i = (fun i => if i = ω.length then x else ad i) i := fun i hi => by simp [Nat.ne_of_lt hi]
  have ew := xm_c_eq (cA := cA) ag (Nat.le_refl _) hb0.1
  have el := xm_l_eq ag hb0.2
  obtain ⟨t', g1, g2⟩ := k (fun i => if i = ω.length then x else ad i) T.heap locs ls (fun i hi => (ag i (Nat.lt_of_lt_of_le hi a2)).symm.trans (a1 i hi)) a2 (by rw [← ew]; exact hP) (by rw [← ew]; exact hD) hS (by rw [← el]; exact hl) (T.setVm ((T.vm.noted m.cls i1 (.cls c1)).noted m.cls i2 (.cls c2))) rfl (X.noted hWb)
  refine ⟨t', ?_, g2⟩
  refine xf_caught (s := T) (g := F0 m pc ls (st.map (xm_v ad))) (pc := r3) (vm' := (T.vm.noted m.cls i1 (.cls c1)).noted m.cls i2 (.cls c2)) X.here (fun Q CE d acts => ?_) ?_
  · rw [W.findHandler_eq (s := (T.setTop (F0 m pc ls (st.map (xm_v ad)))).pushFrame (.throwing x)) (f := F0 m pc ls (st.map (xm_v ad))) (meth := meth) (code := c) X.method' X.code, hz]
    refine (xf_go (s := (T.setTop (F0 m pc ls (st.map (xm_v ad)))).pushFrame (.throwing x)) (bb := false) (c := c1) (cell := ce) hcov (by rw [z4]; exact hi) (by rw [z4]; exact X.warmed.classLinks hcl) hce (fun k => by rw [hvm]; intro h; cases h) ⟨kx', hkx'⟩ ⟨kt', hkt'⟩ hfit).trans ?_
    rw [if_neg (by decide), z4]
    refine (xf_go (s := ((T.setTop (F0 m pc ls (st.map (xm_v ad)))).pushFrame (.throwing x)).setVm (T.vm.noted m.cls i1 (.cls c1))) (bb := true) (c := c2) (cell := ce) hcov2 (by rw [y4]; exact hi2) (by rw [y4]; exact hWa.classLinks hcl2) hce (fun k => by rw [hvm]; intro h; cases h) (Vm.classAt_of_assignable hfit2 ⟨kt2', hkt2'⟩) ⟨kt2', hkt2'⟩ hfit2).trans ?_
    rw [if_pos rfl, y3, y4]
    rfl
  · have e5 : ([.ref ω.length] : List Value).map (xm_v (fun i => if i = ω.length then x else ad i)) = [.ref x] := by simp [xm_v]
    rw [e5] at g1
    exact g1
end XFK
