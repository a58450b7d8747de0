
-- one list of words: those of lw_tbl that warmer tables keep, whatever the heap
def xm_ok (w : Cond) : Bool := match w with
  | .fieldLinkNest .. => true
  | .methodLinkNest .. => true
  | .stringRef .. => true
  | .arrayClass _ => true
  | w => w.onTables && w.keepsFace
def lw_g : List Cond := lw_tbl.filter xm_ok
theorem lg_mem {w : Cond} (h : w ∈ lw_tbl) (g : xm_ok w = true) : w ∈ lw_g := List.mem_filter.mpr ⟨h, g⟩
theorem xm_str_same {a : String} {k : Nat} {tx : String} {A A' : Array Value} {u U : State} (h : u.vm = U.vm) (hb : (Cond.stringRef a k tx).before A u = true) : (Cond.stringRef a k tx).before A' U = true := by
  have e : (Cond.stringRef a k tx).before A (u.setVm U.vm) = (Cond.stringRef a k tx).before A' (U.setVm U.vm) := rfl
  have h1 : u.setVm U.vm = u := by rw [← h]; rfl
  have h2 : U.setVm U.vm = U := rfl
  rw [h1, h2] at e
  rw [← e]
  exact hb
theorem xm_arr_same {ty : FieldType} {A A' : Array Value} {u U : State} (h : u.vm = U.vm) (hb : (Cond.arrayClass ty).before A u = true) : (Cond.arrayClass ty).before A' U = true := by
  simp only [Cond.before, Cond.holds, Cond.value] at hb ⊢
  rw [← h]
  exact hb
theorem xm_ok_same {w : Cond} (g : xm_ok w = true) {A A' : Array Value} {u U : State} (h : u.vm = U.vm) (hb : w.before A u = true) : w.before A' U = true := by
  cases w
  case stringRef => exact xm_str_same h hb
  case arrayClass => exact xm_arr_same h hb
  case fieldLinkNest => exact va_tabs rfl h hb
  case methodLinkNest => exact va_tabs rfl h hb
  all_goals (simp only [xm_ok, Bool.and_eq_true] at g; exact va_tabs g.1 h hb)
theorem xm_ok_warm {w : Cond} (g : xm_ok w = true) {A A' : Array Value} {s U : State} (hW : s.WarmedH U.vm) (hb : w.before A s = true) : w.before A' U = true := by
  have e : (s.setVm U.vm).vm = U.vm := rfl
  refine xm_ok_same (A := A) g e ?_
  cases w
  case stringRef => exact Cond.stringRef_warmed hW hb
  case fieldLinkNest => exact Cond.fieldLinkNest_warmed hW hb
  case methodLinkNest => exact Cond.methodLinkNest_warmed hW hb
  case arrayClass => exact Cond.before_shiftedFace (State.Shifted.of_warmed hW) _ rfl hb
  all_goals (simp only [xm_ok, Bool.and_eq_true] at g; exact Cond.before_shiftedFace (State.Shifted.of_warmed hW) _ g.2 hb)
theorem lg_warm {A A' : Array Value} {s U : State} (hW : s.WarmedH U.vm) (h : ∀ w ∈ lw_g, w.before A s = true) : ∀ w ∈ lw_g, w.before A' U = true := fun w hw => xm_ok_warm (List.mem_filter.mp hw).2 hW (h w hw)
theorem lg_same {A A' : Array Value} {u U : State} (e : u.vm = U.vm) (h : ∀ w ∈ lw_g, w.before A u = true) : ∀ w ∈ lw_g, w.before A' U = true := fun w hw => xm_ok_same (List.mem_filter.mp hw).2 e (h w hw)
-- cells, worlds, values
abbrev xm_E : Type := (Nat × vp_A) ⊕ (Nat × List Value)
abbrev xm_O : Type := List xm_E
abbrev xm_R : Type := Option Value ⊕ String
def xm_v (ad : Nat → Nat) (v : Value) : Value := match v with
  | .ref i => .ref (ad i)
  | .retAddr b => .ref b
  | w => w
theorem xm_v_cat (ad : Nat → Nat) (v : Value) : (xm_v ad v).category = v.category := by cases v <;> rfl
def xm_l (ad : Nat → Nat) (lv : List (Nat × Value)) : List (Nat × Value) := lv.map (fun q => (q.1, xm_v ad q.2))
def xm_e (cA : Nat → ClassId) (ad : Nat → Nat) (c : xm_E) : va_E := match c with
  | .inl a => .inl (cA a.1, a.2)
  | .inr o => .inr (o.1, o.2.map (xm_v ad))
def xm_c (cA : Nat → ClassId) (ad : Nat → Nat) (ω : xm_O) : va_W := ω.mapIdx (fun i c => (ad i, xm_e cA ad c))
def xm_t (cA : Nat → ClassId) : List (ClassId × FieldType) := [(cA 0, .int), (cA 1, .long), (cA 2, .boolean)]
theorem xm_c_get {cA : Nat → ClassId} {ad : Nat → Nat} {ω : xm_O} {i : Nat} {c : xm_E} (h : ω[i]? = some c) : (xm_c cA ad ω)[i]? = some (ad i, xm_e cA ad c) := by
  simp [xm_c, List.getElem?_mapIdx, h]
theorem xm_c_len {cA : Nat → ClassId} {ad : Nat → Nat} {ω : xm_O} : (xm_c cA ad ω).length = ω.length := by simp [xm_c]
theorem xm_c_set {cA : Nat → ClassId} {ad : Nat → Nat} {ω : xm_O} {i : Nat} {c : xm_E} : (xm_c cA ad ω).set i (ad i, xm_e cA ad c) = xm_c cA ad (ω.set i c) := by
  apply List.ext_getElem?
  intro j
  simp only [xm_c, List.getElem?_set, List.getElem?_mapIdx, List.length_mapIdx]
  by_cases hj : i = j
  · subst hj
    by_cases hl : i < ω.length <;> simp [hl]
  · simp [hj]
-- references below a number
def xm_b (n : Nat) (v : Value) : Bool := match v with
  | .ref i => Nat.blt i n
  | _ => true
def xm_bs (n : Nat) (st : List Value) : Bool := st.all (xm_b n)
def xm_bl (n : Nat) (lv : List (Nat × Value)) : Bool := lv.all (fun q => xm_b n q.2)
def xm_bo (n : Nat) (ω : xm_O) : Bool := ω.all (fun c => match c with
  | .inl _ => true
  | .inr o => o.2.all (xm_b n))
section XB
variable {ad ad' : Nat → Nat} {n : Nat} {cA : Nat → ClassId}
theorem xm_v_eq (h : ∀ i, i < n → ad i = ad' i) {v : Value} (hb : xm_b n v = true) : xm_v ad v = xm_v ad' v := by
  cases v with
  | ref i =>
    have hi : i < n := by simpa [xm_b, Nat.blt_eq] using hb
    simp [xm_v, h i hi]
  | _ => rfl
theorem xm_s_eq (h : ∀ i, i < n → ad i = ad' i) {st : List Value} (hb : xm_bs n st = true) : st.map (xm_v ad) = st.map (xm_v ad') :=
  List.map_congr_left (fun v hv => xm_v_eq h (List.all_eq_true.mp hb v hv))
theorem xm_l_eq (h : ∀ i, i < n → ad i = ad' i) {lv : List (Nat × Value)} (hb : xm_bl n lv = true) : xm_l ad lv = xm_l ad' lv :=
  List.map_congr_left (fun q hq => by rw [xm_v_eq h (List.all_eq_true.mp hb q hq)])
theorem xm_c_eq (h : ∀ i, i < n → ad i = ad' i) {ω : xm_O} (hl : ω.length ≤ n) (hb : xm_bo n ω = true) : xm_c cA ad ω = xm_c cA ad' ω := by
  apply List.ext_getElem?
  intro j
  simp only [xm_c, List.getElem?_mapIdx]
  cases hj : ω[j]? with
  | none => rfl
  | some c =>
    have hlt : j < ω.length := (List.getElem?_eq_some_iff.mp hj).1
    have hm : c ∈ ω := List.mem_of_getElem? hj
    have hc := List.all_eq_true.mp hb c hm
    simp only [Option.map_some]
    rw [h j (by omega)]
    cases c with
    | inl a => rfl
    | inr o =>
      simp only [xm_e]
      rw [xm_s_eq h (st := o.2) hc]
theorem xm_c_push {ω : xm_O} {c : xm_E} {q : Nat} (hb : xm_bo ω.length ω = true) : xm_c cA (fun i => if i = ω.length then q else ad i) (ω ++ [c]) = xm_c cA ad ω ++ [(q, xm_e cA (fun i => if i = ω.length then q else ad i) c)] := by
  have e : xm_c cA (fun i => if i = ω.length then q else ad i) ω = xm_c cA ad ω := xm_c_eq (n := ω.length) (fun i hi => by simp [Nat.ne_of_lt hi]) (Nat.le_refl _) hb
  rw [← e]
  simp [xm_c, List.mapIdx_append]
theorem xm_l_filter (P : Nat × Value → Bool) (hP : ∀ i v, P (i, xm_v ad v) = P (i, v)) (lv : List (Nat × Value)) : (xm_l ad lv).filter P = xm_l ad (lv.filter P) := by
  simp only [xm_l, List.filter_map]
  congr 1
  apply List.filter_congr
  intro q _
  exact hP q.1 q.2
theorem xm_args (vs : List Value) : ∀ i, lv_args i (vs.map (xm_v ad)) = xm_l ad (lv_args i vs) := by
  induction vs with
  | nil => intro i; rfl
  | cons v vs ih =>
    intro i
    simp only [List.map_cons, lv_args, xm_l, xm_v_cat]
    rw [ih]
    rfl
theorem xm_sl_len (vs : List Value) : (lg_sl (vs.map (xm_v ad))).length = (lg_sl vs).length := by
  induction vs with
  | nil => rfl
  | cons v vs ih =>
    simp only [List.map_cons, lg_sl, List.flatMap_cons, List.length_append, xm_v_cat] at ih ⊢
    rw [ih]
    split <;> rfl
theorem xm_cats (vs : List Value) : ((vs.map (xm_v ad)).map fun v => v.category) = vs.map fun v => v.category := by
  rw [List.map_map]
  exact List.map_congr_left (fun v _ => xm_v_cat ad v)
end XB
-- Throwable's two statics, in a cell that is none of ours
def xm_Z1 (n d : String) (A : Nat → Prop) (U : State) (H : Heap) : Prop := ∃ (c : ClassId) (k : Class) (i : Nat) (f : Field) (a : Nat) (cell : Cell) (v : Value), U.vm.findClass "java/lang/Throwable" = some c ∧ U.fieldFound? "java/lang/Throwable" n d = some (c, k, i, f) ∧ f.isStatic = true ∧ k.statics = some a ∧ H[a]? = some cell ∧ cell.vm.isStatics = true ∧ cell.cls = c ∧ f.slot < cell.slots.size ∧ k.staticTypes[f.slot]? = some f.type ∧ cell.slots[f.slot]? = some v ∧ v.isRef = true ∧ ¬ A a
def xm_Z (A : Nat → Prop) (U : State) (H : Heap) : Prop := xm_Z1 "UNASSIGNED_STACK" "[Ljava/lang/StackTraceElement;" A U H ∧ xm_Z1 "SUPPRESSED_SENTINEL" "Ljava/util/List;" A U H ∧ va_Nc "java/lang/IllegalStateException" "java/lang/IllegalArgumentException" U ∧ va_Nc "java/lang/UnsupportedOperationException" "java/lang/IllegalArgumentException" U
theorem xm_Z1.moved {n d : String} {A : Nat → Prop} {u U : State} {H : Heap} (hvm : u.vm.Alike U.vm) (h : xm_Z1 n d A u H) : xm_Z1 n d A U H := by
  obtain ⟨c, k, i, f, a, cell, v, h0, h1, h2, h3, h4, h5, h6, h7, h8, h9⟩ := h
  obtain ⟨k', hi', he⟩ := State.fieldFound?_setVm hvm h1
  exact ⟨c, k', i, f, a, cell, v, by rw [hvm.findClass]; exact h0, hi', h2, by rw [he]; exact h3, h4, h5, h6, h7, by rw [he]; exact h8, h9⟩
theorem xm_Z1.kept {n d : String} {A : Nat → Prop} {U : State} {H H1 : Heap} (h : xm_Z1 n d A U H) (hq : ∀ a : Nat, a < H.size → ¬ A a → H1[a]? = H[a]?) : xm_Z1 n d A U H1 := by
  obtain ⟨c, k, i, f, a, cell, v, h0, h1, h2, h3, h4, h5, h6, h7, h8, h9, h10, h11⟩ := h
  exact ⟨c, k, i, f, a, cell, v, h0, h1, h2, h3, by rw [hq a (Array.getElem?_eq_some_iff.mp h4).1 h11]; exact h4, h5, h6, h7, h8, h9, h10, h11⟩
theorem xm_Z1.narrow {n d : String} {A B : Nat → Prop} {U : State} {H : Heap} (h : xm_Z1 n d A U H) (hAB : ∀ q, q < H.size → B q → A q) : xm_Z1 n d B U H := by
  obtain ⟨c, k, i, f, a, cell, v, h0, h1, h2, h3, h4, h5, h6, h7, h8, h9, h10, h11⟩ := h
  exact ⟨c, k, i, f, a, cell, v, h0, h1, h2, h3, h4, h5, h6, h7, h8, h9, h10, fun z => h11 (hAB a (Array.getElem?_eq_some_iff.mp h4).1 z)⟩
theorem xm_Z.moved {A : Nat → Prop} {u U : State} {H : Heap} (hvm : u.vm.Alike U.vm) (h : xm_Z A u H) : xm_Z A U H := ⟨h.1.moved hvm, h.2.1.moved hvm, h.2.2.1.moved hvm, h.2.2.2.moved hvm⟩
theorem xm_Z.kept {A : Nat → Prop} {U : State} {H H1 : Heap} (h : xm_Z A U H) (hq : ∀ a : Nat, a < H.size → ¬ A a → H1[a]? = H[a]?) : xm_Z A U H1 := ⟨h.1.kept hq, h.2.1.kept hq, h.2.2⟩
theorem xm_Z.narrow {A B : Nat → Prop} {U : State} {H : Heap} (h : xm_Z A U H) (hAB : ∀ q, q < H.size → B q → A q) : xm_Z B U H := ⟨h.1.narrow hAB, h.2.1.narrow hAB, h.2.2⟩
theorem xm_Z1.lays {n d : String} {A : Nat → Prop} {U : State} (h : xm_Z1 n d A U U.heap) {args : Array Value} : (Cond.laysStatic "java/lang/Throwable" n d).before args U = true := by
  obtain ⟨c, k, i, f, a, cell, v, h0, h1, h2, h3, h4, h5, h6, h7, h8, h9, h10, h11⟩ := h
  simp [Cond.before, Cond.holds, Cond.value, h0, h1, h2, h3, h4, h5, h6, h7, h8]
theorem xm_Z1.ref {n d : String} {A : Nat → Prop} {U : State} (h : xm_Z1 n d A U U.heap) {args : Array Value} : (Cond.isRef (.static "java/lang/Throwable" n d)).before args U = true := by
  obtain ⟨c, k, i, f, a, cell, v, h0, h1, h2, h3, h4, h5, h6, h7, h8, h9, h10, h11⟩ := h
  cases v <;> simp_all [Cond.before, Cond.holds, Cond.value, Term.eval, State.fieldNamed?, Value.isRef]
theorem xm_Z1.of {n d : String} {A : Nat → Prop} {U : State} {args : Array Value} (hl : (Cond.laysStatic "java/lang/Throwable" n d).before args U = true) (h : (Cond.isRef (.static "java/lang/Throwable" n d)).before args U = true) (hA : ∀ a : Nat, a < U.heap.size → ¬ A a) : xm_Z1 n d A U U.heap := by
  obtain ⟨c, k, i, f, a, cell, hc, hi, hst, ha, hcell, hs, hcls, hlt, hty⟩ := Cond.laysStatic_spec hl
  cases hv : (Term.static "java/lang/Throwable" n d).eval args U none [] U with
  | none => simp [Cond.before, Cond.holds, Cond.value, hv] at h
  | some w =>
    obtain ⟨hst', a', cell', ha', hcell', -, hslot⟩ := Term.static_spec hi hv
    cases ha.symm.trans ha'
    cases hcell.symm.trans hcell'
    refine ⟨c, k, i, f, a, cell, w, hc, hi, hst, ha, hcell, hs, hcls, hlt, hty, hslot, ?_, hA a (Array.getElem?_eq_some_iff.mp hcell).1⟩
    simp only [Cond.before, Cond.holds, Cond.value, hv] at h
    cases w <;> first | rfl | simp at h
-- the frame: all that stays while a method runs
abbrev xm_X : Type := Program × Launch × Env × Room × State × MethodId × Array Value × List Frame × Method × Code × va_G × (Nat → ClassId) × (Nat → Prop) × (Nat → Nat) × Nat
def xm_W (E : xm_X) (nL : Nat) (Q : State → Prop) (kc ks : Nat) (ω : xm_O) (pc : Nat) (lv : List (Nat × Value)) (st : List Value) : Prop := match E with
  | (p, l, e, R, s, m, args, below, meth, c, D, cA, A, ad0, n0) =>
    ∀ (ad : Nat → Nat) (H : Heap) (locs : List Loc) (ls : Array Slot), (∀ i, i < n0 → ad i = ad0 i) → n0 ≤ ω.length → va_P D classes (xm_c cA ad ω) H → va_D A (xm_c cA ad ω) → va_S A s.heap H locs → lv_has ls nL (xm_l ad lv) →
      W p l e R s m args below meth c H locs kc ks Q (F0 m pc ls (st.map (xm_v ad)))
abbrev xm_H : Type := List (Nat × Nat × Nat × Nat)
def xm_C (E : xm_X) (own : String) (cc : ByteArray) (nL : Nat) (rt : Option FieldType) (tb : xm_H) (nm : String) (rm : Room) : Prop := match E with
  | (p, l, e, R, s, m, args, below, meth, c, D, cA, A, ad0, n0) =>
    p.tables.exec = Jvm.exec ∧ c.code = cc ∧ c.maxLocals = nL ∧ meth.sig.returnType = rt ∧ s.vm.findClass own = some m.cls ∧ (∀ w ∈ lw_g, w.before args s = true) ∧ va_K D classes (xm_t cA) s ∧ (∀ q, s.heap.size ≤ q → A q) ∧ xm_Z A s s.heap ∧ meth.locks = false ∧ l.flags = pinnedFlags ++ [noTraceFlag] ∧ c.exceptionTable.toList.map (fun h => (h.startPc, h.endPc, h.handlerPc, h.catchType)) = tb ∧ meth.name = nm ∧ R = rm
-- a field's link: class, fields, place, by the words
def xm_Fl (own : String) (index ci k : Nat) : Prop := ∃ (C : String) (T : u_T) (N : Nat) (ty : Nat → FieldType), classes[ci]? = some (C, T, N) ∧ k < N ∧ (∀ w ∈ u_ws C T N, w ∈ lw_g) ∧ (∀ j, j < N → parseFieldDescriptor (T j).2.2.1 = some (ty j)) ∧ (∀ a, a < N → ∀ b, b < N → a ≠ b → (T a).2.1 ≠ (T b).2.1) ∧ (Cond.fieldLink own index (T k).1 (T k).2.1 (T k).2.2.1 ∈ lw_g ∨ ∃ host, Cond.fieldLinkNest own index (T k).1 (T k).2.1 (T k).2.2.1 host ∈ lw_g)
def xm_ty (ci k : Nat) (ty : FieldType) (fin : Bool) : Prop := ∀ (C : String) (T : u_T) (N : Nat), classes[ci]? = some (C, T, N) → parseFieldDescriptor (T k).2.2.1 = some ty ∧ (T k).2.2.2 = fin
section XS
variable {E : xm_X} {own : String} {cc : ByteArray} {nL : Nat} {rt : Option FieldType} {tb : xm_H} {nm : String} {rm : Room} {Q : State → Prop} {kc ks : Nat} {ω : xm_O} {pc : Nat} {lv : List (Nat × Value)} {st : List Value}
theorem xs_eq {ω' : xm_O} {lv' : List (Nat × Value)} {st' : List Value} (h1 : ω = ω') (h2 : lv = lv') (h3 : st = st') (k : xm_W E nL Q kc ks ω' pc lv' st') : xm_W E nL Q kc ks ω pc lv st := by subst h1; subst h2; subst h3; exact k
theorem xs_wide {kc' ks' : Nat} (h1 : kc ≤ kc') (h2 : ks ≤ ks') (k : xm_W E nL Q kc' ks' ω pc lv st) : xm_W E nL Q kc ks ω pc lv st := by
  obtain ⟨p, l, e, R, s, m, args, below, meth, c, D, cA, A, ad0, n0⟩ := E
  exact fun ad H locs ls a1 a2 hP hD hS hl => W.widen h1 h2 (k ad H locs ls a1 a2 hP hD hS hl)
theorem xs_iadd {x y : Int32} (C : xm_C E own cc nL rt tb nm rm) (hd : decode cc pc = .ok (.iadd, 1)) (k : xm_W E nL Q kc ks ω (pc + 1) lv (.int (x + y) :: st)) : xm_W E nL Q kc ks ω pc lv (.int y :: .int x :: st) := by
  obtain ⟨p, l, e, R, s, m, args, below, meth, c, D, cA, A, ad0, n0⟩ := E
  obtain ⟨hx, hb, hml, hr, hown, hts, hK, hA, -⟩ := C
  exact fun ad H locs ls a1 a2 hP hD hS hl => lv_iadd hx hb hd (k ad H locs ls a1 a2 hP hD hS hl)
theorem xs_isub {x y : Int32} (C : xm_C E own cc nL rt tb nm rm) (hd : decode cc pc = .ok (.isub, 1)) (k : xm_W E nL Q kc ks ω (pc + 1) lv (.int (x - y) :: st)) : xm_W E nL Q kc ks ω pc lv (.int y :: .int x :: st) := by
  obtain ⟨p, l, e, R, s, m, args, below, meth, c, D, cA, A, ad0, n0⟩ := E
  obtain ⟨hx, hb, hml, hr, hown, hts, hK, hA, -⟩ := C
  exact fun ad H locs ls a1 a2 hP hD hS hl => lv_isub hx hb hd (k ad H locs ls a1 a2 hP hD hS hl)
theorem xs_imul {x y : Int32} (C : xm_C E own cc nL rt tb nm rm) (hd : decode cc pc = .ok (.imul, 1)) (k : xm_W E nL Q kc ks ω (pc + 1) lv (.int (x * y) :: st)) : xm_W E nL Q kc ks ω pc lv (.int y :: .int x :: st) := by
  obtain ⟨p, l, e, R, s, m, args, below, meth, c, D, cA, A, ad0, n0⟩ := E
  obtain ⟨hx, hb, hml, hr, hown, hts, hK, hA, -⟩ := C
  exact fun ad H locs ls a1 a2 hP hD hS hl => lv_imul hx hb hd (k ad H locs ls a1 a2 hP hD hS hl)
theorem xs_iand {x y : Int32} (C : xm_C E own cc nL rt tb nm rm) (hd : decode cc pc = .ok (.iand, 1)) (k : xm_W E nL Q kc ks ω (pc + 1) lv (.int (x &&& y) :: st)) : xm_W E nL Q kc ks ω pc lv (.int y :: .int x :: st) := by
  obtain ⟨p, l, e, R, s, m, args, below, meth, c, D, cA, A, ad0, n0⟩ := E
  obtain ⟨hx, hb, hml, hr, hown, hts, hK, hA, -⟩ := C
  exact fun ad H locs ls a1 a2 hP hD hS hl => lv_iand hx hb hd (k ad H locs ls a1 a2 hP hD hS hl)
theorem xs_ior {x y : Int32} (C : xm_C E own cc nL rt tb nm rm) (hd : decode cc pc = .ok (.ior, 1)) (k : xm_W E nL Q kc ks ω (pc + 1) lv (.int (x ||| y) :: st)) : xm_W E nL Q kc ks ω pc lv (.int y :: .int x :: st) := by
  obtain ⟨p, l, e, R, s, m, args, below, meth, c, D, cA, A, ad0, n0⟩ := E
  obtain ⟨hx, hb, hml, hr, hown, hts, hK, hA, -⟩ := C
  exact fun ad H locs ls a1 a2 hP hD hS hl => lv_ior hx hb hd (k ad H locs ls a1 a2 hP hD hS hl)
theorem xs_ixor {x y : Int32} (C : xm_C E own cc nL rt tb nm rm) (hd : decode cc pc = .ok (.ixor, 1)) (k : xm_W E nL Q kc ks ω (pc + 1) lv (.int (x ^^^ y) :: st)) : xm_W E nL Q kc ks ω pc lv (.int y :: .int x :: st) := by
  obtain ⟨p, l, e, R, s, m, args, below, meth, c, D, cA, A, ad0, n0⟩ := E
  obtain ⟨hx, hb, hml, hr, hown, hts, hK, hA, -⟩ := C
  exact fun ad H locs ls a1 a2 hP hD hS hl => lv_ixor hx hb hd (k ad H locs ls a1 a2 hP hD hS hl)
theorem xs_ladd {x y : Int64} (C : xm_C E own cc nL rt tb nm rm) (hd : decode cc pc = .ok (.ladd, 1)) (k : xm_W E nL Q kc ks ω (pc + 1) lv (.long (x + y) :: st)) : xm_W E nL Q kc ks ω pc lv (.long y :: .long x :: st) := by
  obtain ⟨p, l, e, R, s, m, args, below, meth, c, D, cA, A, ad0, n0⟩ := E
  obtain ⟨hx, hb, hml, hr, hown, hts, hK, hA, -⟩ := C
  exact fun ad H locs ls a1 a2 hP hD hS hl => lv_ladd hx hb hd (k ad H locs ls a1 a2 hP hD hS hl)
theorem xs_lsub {x y : Int64} (C : xm_C E own cc nL rt tb nm rm) (hd : decode cc pc = .ok (.lsub, 1)) (k : xm_W E nL Q kc ks ω (pc + 1) lv (.long (x - y) :: st)) : xm_W E nL Q kc ks ω pc lv (.long y :: .long x :: st) := by
  obtain ⟨p, l, e, R, s, m, args, below, meth, c, D, cA, A, ad0, n0⟩ := E
  obtain ⟨hx, hb, hml, hr, hown, hts, hK, hA, -⟩ := C
  exact fun ad H locs ls a1 a2 hP hD hS hl => lv_lsub hx hb hd (k ad H locs ls a1 a2 hP hD hS hl)
theorem xs_lmul {x y : Int64} (C : xm_C E own cc nL rt tb nm rm) (hd : decode cc pc = .ok (.lmul, 1)) (k : xm_W E nL Q kc ks ω (pc + 1) lv (.long (x * y) :: st)) : xm_W E nL Q kc ks ω pc lv (.long y :: .long x :: st) := by
  obtain ⟨p, l, e, R, s, m, args, below, meth, c, D, cA, A, ad0, n0⟩ := E
  obtain ⟨hx, hb, hml, hr, hown, hts, hK, hA, -⟩ := C
  exact fun ad H locs ls a1 a2 hP hD hS hl => lv_lmul hx hb hd (k ad H locs ls a1 a2 hP hD hS hl)
theorem xs_land {x y : Int64} (C : xm_C E own cc nL rt tb nm rm) (hd : decode cc pc = .ok (.land, 1)) (k : xm_W E nL Q kc ks ω (pc + 1) lv (.long (x &&& y) :: st)) : xm_W E nL Q kc ks ω pc lv (.long y :: .long x :: st) := by
  obtain ⟨p, l, e, R, s, m, args, below, meth, c, D, cA, A, ad0, n0⟩ := E
  obtain ⟨hx, hb, hml, hr, hown, hts, hK, hA, -⟩ := C
  exact fun ad H locs ls a1 a2 hP hD hS hl => lv_land hx hb hd (k ad H locs ls a1 a2 hP hD hS hl)
theorem xs_lor {x y : Int64} (C : xm_C E own cc nL rt tb nm rm) (hd : decode cc pc = .ok (.lor, 1)) (k : xm_W E nL Q kc ks ω (pc + 1) lv (.long (x ||| y) :: st)) : xm_W E nL Q kc ks ω pc lv (.long y :: .long x :: st) := by
  obtain ⟨p, l, e, R, s, m, args, below, meth, c, D, cA, A, ad0, n0⟩ := E
  obtain ⟨hx, hb, hml, hr, hown, hts, hK, hA, -⟩ := C
  exact fun ad H locs ls a1 a2 hP hD hS hl => lv_lor hx hb hd (k ad H locs ls a1 a2 hP hD hS hl)
theorem xs_lxor {x y : Int64} (C : xm_C E own cc nL rt tb nm rm) (hd : decode cc pc = .ok (.lxor, 1)) (k : xm_W E nL Q kc ks ω (pc + 1) lv (.long (x ^^^ y) :: st)) : xm_W E nL Q kc ks ω pc lv (.long y :: .long x :: st) := by
  obtain ⟨p, l, e, R, s, m, args, below, meth, c, D, cA, A, ad0, n0⟩ := E
  obtain ⟨hx, hb, hml, hr, hown, hts, hK, hA, -⟩ := C
  exact fun ad H locs ls a1 a2 hP hD hS hl => lv_lxor hx hb hd (k ad H locs ls a1 a2 hP hD hS hl)
theorem xs_ineg {x : Int32} (C : xm_C E own cc nL rt tb nm rm) (hd : decode cc pc = .ok (.ineg, 1)) (k : xm_W E nL Q kc ks ω (pc + 1) lv (.int (-x) :: st)) : xm_W E nL Q kc ks ω pc lv (.int x :: st) := by
  obtain ⟨p, l, e, R, s, m, args, below, meth, c, D, cA, A, ad0, n0⟩ := E
  obtain ⟨hx, hb, hml, hr, hown, hts, hK, hA, -⟩ := C
  exact fun ad H locs ls a1 a2 hP hD hS hl => lv_ineg hx hb hd (k ad H locs ls a1 a2 hP hD hS hl)
theorem xs_ishl {x y : Int32} (C : xm_C E own cc nL rt tb nm rm) (hd : decode cc pc = .ok (.ishl, 1)) (k : xm_W E nL Q kc ks ω (pc + 1) lv (.int (x <<< (y &&& 31)) :: st)) : xm_W E nL Q kc ks ω pc lv (.int y :: .int x :: st) := by
  obtain ⟨p, l, e, R, s, m, args, below, meth, c, D, cA, A, ad0, n0⟩ := E
  obtain ⟨hx, hb, hml, hr, hown, hts, hK, hA, -⟩ := C
  exact fun ad H locs ls a1 a2 hP hD hS hl => lv_ishl hx hb hd (k ad H locs ls a1 a2 hP hD hS hl)
theorem xs_ishr {x y : Int32} (C : xm_C E own cc nL rt tb nm rm) (hd : decode cc pc = .ok (.ishr, 1)) (k : xm_W E nL Q kc ks ω (pc + 1) lv (.int (x >>> (y &&& 31)) :: st)) : xm_W E nL Q kc ks ω pc lv (.int y :: .int x :: st) := by
  obtain ⟨p, l, e, R, s, m, args, below, meth, c, D, cA, A, ad0, n0⟩ := E
  obtain ⟨hx, hb, hml, hr, hown, hts, hK, hA, -⟩ := C
  exact fun ad H locs ls a1 a2 hP hD hS hl => lv_ishr hx hb hd (k ad H locs ls a1 a2 hP hD hS hl)
theorem xs_iushr {x y : Int32} (C : xm_C E own cc nL rt tb nm rm) (hd : decode cc pc = .ok (.iushr, 1)) (k : xm_W E nL Q kc ks ω (pc + 1) lv (.int (x.toUInt32 >>> (y.toUInt32 &&& Int32.toUInt32 31)).toInt32 :: st)) : xm_W E nL Q kc ks ω pc lv (.int y :: .int x :: st) := by
  obtain ⟨p, l, e, R, s, m, args, below, meth, c, D, cA, A, ad0, n0⟩ := E
  obtain ⟨hx, hb, hml, hr, hown, hts, hK, hA, -⟩ := C
  exact fun ad H locs ls a1 a2 hP hD hS hl => lv_iushr hx hb hd rfl (k ad H locs ls a1 a2 hP hD hS hl)
theorem xs_lshl {x : Int64} {y : Int32} (C : xm_C E own cc nL rt tb nm rm) (hd : decode cc pc = .ok (.lshl, 1)) (k : xm_W E nL Q kc ks ω (pc + 1) lv (.long (x <<< (y.toInt64 &&& 63)) :: st)) : xm_W E nL Q kc ks ω pc lv (.int y :: .long x :: st) := by
  obtain ⟨p, l, e, R, s, m, args, below, meth, c, D, cA, A, ad0, n0⟩ := E
  obtain ⟨hx, hb, hml, hr, hown, hts, hK, hA, -⟩ := C
  exact fun ad H locs ls a1 a2 hP hD hS hl => lv_lshl hx hb hd rfl (k ad H locs ls a1 a2 hP hD hS hl)
theorem xs_lshr {x : Int64} {y : Int32} (C : xm_C E own cc nL rt tb nm rm) (hd : decode cc pc = .ok (.lshr, 1)) (k : xm_W E nL Q kc ks ω (pc + 1) lv (.long (x >>> (y.toInt64 &&& 63)) :: st)) : xm_W E nL Q kc ks ω pc lv (.int y :: .long x :: st) := by
  obtain ⟨p, l, e, R, s, m, args, below, meth, c, D, cA, A, ad0, n0⟩ := E
  obtain ⟨hx, hb, hml, hr, hown, hts, hK, hA, -⟩ := C
  exact fun ad H locs ls a1 a2 hP hD hS hl => lv_lshr hx hb hd rfl (k ad H locs ls a1 a2 hP hD hS hl)
theorem xs_lushr {x : Int64} {y : Int32} (C : xm_C E own cc nL rt tb nm rm) (hd : decode cc pc = .ok (.lushr, 1)) (k : xm_W E nL Q kc ks ω (pc + 1) lv (.long (x.toUInt64 >>> (y.toInt64.toUInt64 &&& Int64.toUInt64 63)).toInt64 :: st)) : xm_W E nL Q kc ks ω pc lv (.int y :: .long x :: st) := by
  obtain ⟨p, l, e, R, s, m, args, below, meth, c, D, cA, A, ad0, n0⟩ := E
  obtain ⟨hx, hb, hml, hr, hown, hts, hK, hA, -⟩ := C
  exact fun ad H locs ls a1 a2 hP hD hS hl => lv_lushr hx hb hd rfl (k ad H locs ls a1 a2 hP hD hS hl)
theorem xs_i2l {x : Int32} (C : xm_C E own cc nL rt tb nm rm) (hd : decode cc pc = .ok (.i2l, 1)) (k : xm_W E nL Q kc ks ω (pc + 1) lv (.long x.toInt64 :: st)) : xm_W E nL Q kc ks ω pc lv (.int x :: st) := by
  obtain ⟨p, l, e, R, s, m, args, below, meth, c, D, cA, A, ad0, n0⟩ := E
  obtain ⟨hx, hb, hml, hr, hown, hts, hK, hA, -⟩ := C
  exact fun ad H locs ls a1 a2 hP hD hS hl => lv_i2l hx hb hd rfl (k ad H locs ls a1 a2 hP hD hS hl)
theorem xs_l2i {x : Int64} (C : xm_C E own cc nL rt tb nm rm) (hd : decode cc pc = .ok (.l2i, 1)) (k : xm_W E nL Q kc ks ω (pc + 1) lv (.int x.toInt32 :: st)) : xm_W E nL Q kc ks ω pc lv (.long x :: st) := by
  obtain ⟨p, l, e, R, s, m, args, below, meth, c, D, cA, A, ad0, n0⟩ := E
  obtain ⟨hx, hb, hml, hr, hown, hts, hK, hA, -⟩ := C
  exact fun ad H locs ls a1 a2 hP hD hS hl => lv_l2i hx hb hd rfl (k ad H locs ls a1 a2 hP hD hS hl)
theorem xs_lcmp {x y : Int64} (C : xm_C E own cc nL rt tb nm rm) (hd : decode cc pc = .ok (.lcmp, 1)) (k : xm_W E nL Q kc ks ω (pc + 1) lv (.int (lg_cmp x y) :: st)) : xm_W E nL Q kc ks ω pc lv (.long y :: .long x :: st) := by
  obtain ⟨p, l, e, R, s, m, args, below, meth, c, D, cA, A, ad0, n0⟩ := E
  obtain ⟨hx, hb, hml, hr, hown, hts, hK, hA, -⟩ := C
  exact fun ad H locs ls a1 a2 hP hD hS hl => W.lcmp hx hb hd (k ad H locs ls a1 a2 hP hD hS hl)
theorem xs_iconst {n : Int} {v : Int32} (C : xm_C E own cc nL rt tb nm rm) (hd : decode cc pc = .ok (.iconst n, 1)) (hv : Int32.ofInt n = v) (k : xm_W E nL Q kc ks ω (pc + 1) lv (.int v :: st)) : xm_W E nL Q kc ks ω pc lv (st) := by
  obtain ⟨p, l, e, R, s, m, args, below, meth, c, D, cA, A, ad0, n0⟩ := E
  obtain ⟨hx, hb, hml, hr, hown, hts, hK, hA, -⟩ := C
  exact fun ad H locs ls a1 a2 hP hD hS hl => lv_iconst hx hb hd hv (k ad H locs ls a1 a2 hP hD hS hl)
theorem xs_lconst {n : Fin 2} {v : Int64} (C : xm_C E own cc nL rt tb nm rm) (hd : decode cc pc = .ok (.lconst n, 1)) (hv : Int64.ofNat (n : Nat) = v) (k : xm_W E nL Q kc ks ω (pc + 1) lv (.long v :: st)) : xm_W E nL Q kc ks ω pc lv (st) := by
  obtain ⟨p, l, e, R, s, m, args, below, meth, c, D, cA, A, ad0, n0⟩ := E
  obtain ⟨hx, hb, hml, hr, hown, hts, hK, hA, -⟩ := C
  exact fun ad H locs ls a1 a2 hP hD hS hl => lv_lconst hx hb hd hv (k ad H locs ls a1 a2 hP hD hS hl)
theorem xs_bipush {n : Int} {v : Int32} (C : xm_C E own cc nL rt tb nm rm) (hd : decode cc pc = .ok (.bipush n, 2)) (hv : (Int8.ofInt n).toInt32 = v) (k : xm_W E nL Q kc ks ω (pc + 2) lv (.int v :: st)) : xm_W E nL Q kc ks ω pc lv (st) := by
  obtain ⟨p, l, e, R, s, m, args, below, meth, c, D, cA, A, ad0, n0⟩ := E
  obtain ⟨hx, hb, hml, hr, hown, hts, hK, hA, -⟩ := C
  exact fun ad H locs ls a1 a2 hP hD hS hl => lv_bipush hx hb hd hv (k ad H locs ls a1 a2 hP hD hS hl)
theorem xs_sipush {n : Int} {v : Int32} (C : xm_C E own cc nL rt tb nm rm) (hd : decode cc pc = .ok (.sipush n, 3)) (hv : (Int16.ofInt n).toInt32 = v) (k : xm_W E nL Q kc ks ω (pc + 3) lv (.int v :: st)) : xm_W E nL Q kc ks ω pc lv (st) := by
  obtain ⟨p, l, e, R, s, m, args, below, meth, c, D, cA, A, ad0, n0⟩ := E
  obtain ⟨hx, hb, hml, hr, hown, hts, hK, hA, -⟩ := C
  exact fun ad H locs ls a1 a2 hP hD hS hl => lv_sipush hx hb hd hv (k ad H locs ls a1 a2 hP hD hS hl)
theorem xs_dup {va : Value} (C : xm_C E own cc nL rt tb nm rm) (hd : decode cc pc = .ok (.dup, 1)) (h1 : va.category = 1) (k : xm_W E nL Q kc ks ω (pc + 1) lv (va :: va :: st)) : xm_W E nL Q kc ks ω pc lv (va :: st) := by
  obtain ⟨p, l, e, R, s, m, args, below, meth, c, D, cA, A, ad0, n0⟩ := E
  obtain ⟨hx, hb, hml, hr, hown, hts, hK, hA, -⟩ := C
  exact fun ad H locs ls a1 a2 hP hD hS hl => lv_dup hx hb hd (by rw [xm_v_cat]; exact h1) (k ad H locs ls a1 a2 hP hD hS hl)
theorem xs_pop {va : Value} (C : xm_C E own cc nL rt tb nm rm) (hd : decode cc pc = .ok (.pop, 1)) (h1 : va.category = 1) (k : xm_W E nL Q kc ks ω (pc + 1) lv (st)) : xm_W E nL Q kc ks ω pc lv (va :: st) := by
  obtain ⟨p, l, e, R, s, m, args, below, meth, c, D, cA, A, ad0, n0⟩ := E
  obtain ⟨hx, hb, hml, hr, hown, hts, hK, hA, -⟩ := C
  exact fun ad H locs ls a1 a2 hP hD hS hl => lv_pop hx hb hd (by rw [xm_v_cat]; exact h1) (k ad H locs ls a1 a2 hP hD hS hl)
theorem xs_dup_x1 {va vb : Value} (C : xm_C E own cc nL rt tb nm rm) (hd : decode cc pc = .ok (.dup_x1, 1)) (h1 : va.category = 1) (h2 : vb.category = 1) (k : xm_W E nL Q kc ks ω (pc + 1) lv (va :: vb :: va :: st)) : xm_W E nL Q kc ks ω pc lv (va :: vb :: st) := by
  obtain ⟨p, l, e, R, s, m, args, below, meth, c, D, cA, A, ad0, n0⟩ := E
  obtain ⟨hx, hb, hml, hr, hown, hts, hK, hA, -⟩ := C
  exact fun ad H locs ls a1 a2 hP hD hS hl => lv_dup_x1 hx hb hd (by rw [xm_v_cat]; exact h1) (by rw [xm_v_cat]; exact h2) (k ad H locs ls a1 a2 hP hD hS hl)
theorem xs_dup_x2 {va vb vd : Value} (C : xm_C E own cc nL rt tb nm rm) (hd : decode cc pc = .ok (.dup_x2, 1)) (h1 : va.category = 1) (h2 : vb.category = 1) (h3 : vd.category = 1) (k : xm_W E nL Q kc ks ω (pc + 1) lv (va :: vb :: vd :: va :: st)) : xm_W E nL Q kc ks ω pc lv (va :: vb :: vd :: st) := by
  obtain ⟨p, l, e, R, s, m, args, below, meth, c, D, cA, A, ad0, n0⟩ := E
  obtain ⟨hx, hb, hml, hr, hown, hts, hK, hA, -⟩ := C
  exact fun ad H locs ls a1 a2 hP hD hS hl => lv_dup_x2 hx hb hd (by rw [xm_v_cat]; exact h1) (by rw [xm_v_cat]; exact h2) (by rw [xm_v_cat]; exact h3) (k ad H locs ls a1 a2 hP hD hS hl)
theorem xs_dup2_2 {va : Value} (C : xm_C E own cc nL rt tb nm rm) (hd : decode cc pc = .ok (.dup2, 1)) (h1 : va.category = 2) (k : xm_W E nL Q kc ks ω (pc + 1) lv (va :: va :: st)) : xm_W E nL Q kc ks ω pc lv (va :: st) := by
  obtain ⟨p, l, e, R, s, m, args, below, meth, c, D, cA, A, ad0, n0⟩ := E
  obtain ⟨hx, hb, hml, hr, hown, hts, hK, hA, -⟩ := C
  exact fun ad H locs ls a1 a2 hP hD hS hl => lv_dup2_2 hx hb hd (by rw [xm_v_cat]; exact h1) (k ad H locs ls a1 a2 hP hD hS hl)
theorem xs_dup2_11 {va vb : Value} (C : xm_C E own cc nL rt tb nm rm) (hd : decode cc pc = .ok (.dup2, 1)) (h1 : va.category = 1) (h2 : vb.category = 1) (k : xm_W E nL Q kc ks ω (pc + 1) lv (va :: vb :: va :: vb :: st)) : xm_W E nL Q kc ks ω pc lv (va :: vb :: st) := by
  obtain ⟨p, l, e, R, s, m, args, below, meth, c, D, cA, A, ad0, n0⟩ := E
  obtain ⟨hx, hb, hml, hr, hown, hts, hK, hA, -⟩ := C
  exact fun ad H locs ls a1 a2 hP hD hS hl => lv_dup2_11 hx hb hd (by rw [xm_v_cat]; exact h1) (by rw [xm_v_cat]; exact h2) (k ad H locs ls a1 a2 hP hD hS hl)
theorem xm_l_at {ad : Nat → Nat} {lv : List (Nat × Value)} {j i : Nat} {v : Value} (h : lv[j]? = some (i, v)) : (xm_l ad lv)[j]? = some (i, xm_v ad v) := by simp [xm_l, h]
theorem xs_iload_n {n : Fin 4} {i : Nat} {x : Int32} (C : xm_C E own cc nL rt tb nm rm) (hd : decode cc pc = .ok (.iload_n n, 1)) (hi : (n : Nat) = i) (j : Nat) (hj : lv[j]? = some (i, .int x)) (k : xm_W E nL Q kc ks ω (pc + 1) lv (.int x :: st)) : xm_W E nL Q kc ks ω pc lv (st) := by
  obtain ⟨p, l, e, R, s, m, args, below, meth, c, D, cA, A, ad0, n0⟩ := E
  obtain ⟨hx, hb, hml, hr, hown, hts, hK, hA, -⟩ := C
  exact fun ad H locs ls a1 a2 hP hD hS hl => lv_iload_n hx hb hd hi (lv_at hl j (xm_l_at hj)) (k ad H locs ls a1 a2 hP hD hS hl)
theorem xs_iload {i : Nat} {x : Int32} (C : xm_C E own cc nL rt tb nm rm) (hd : decode cc pc = .ok (.iload i, 2)) (j : Nat) (hj : lv[j]? = some (i, .int x)) (k : xm_W E nL Q kc ks ω (pc + 2) lv (.int x :: st)) : xm_W E nL Q kc ks ω pc lv (st) := by
  obtain ⟨p, l, e, R, s, m, args, below, meth, c, D, cA, A, ad0, n0⟩ := E
  obtain ⟨hx, hb, hml, hr, hown, hts, hK, hA, -⟩ := C
  exact fun ad H locs ls a1 a2 hP hD hS hl => lv_iload hx hb hd (lv_at hl j (xm_l_at hj)) (k ad H locs ls a1 a2 hP hD hS hl)
theorem xs_istore_n {n : Fin 4} {i : Nat} {x : Int32} {lv' : List (Nat × Value)} (C : xm_C E own cc nL rt tb nm rm) (hd : decode cc pc = .ok (.istore_n n, 1)) (hi : (n : Nat) = i) (hn : i < nL) (hl' : (i, Value.int x) :: lv.filter (fun q => !(q.1 == i) && !(q.1 + 1 == i && q.2.category == 2)) = lv') (k : xm_W E nL Q kc ks ω (pc + 1) lv' st) : xm_W E nL Q kc ks ω pc lv (.int x :: st) := by
  obtain ⟨p, l, e, R, s, m, args, below, meth, c, D, cA, A, ad0, n0⟩ := E
  obtain ⟨hx, hb, hml, hr, hown, hts, hK, hA, -⟩ := C
  subst hl'
  exact fun ad H locs ls a1 a2 hP hD hS hl => lv_istore_n hx hb hd hi hl hn (by rw [xm_l_filter _ (fun _ _ => by simp only [xm_v_cat])]; rfl) (fun ls' hl2 => k ad H locs ls' a1 a2 hP hD hS hl2)
theorem xs_istore {i : Nat} {x : Int32} {lv' : List (Nat × Value)} (C : xm_C E own cc nL rt tb nm rm) (hd : decode cc pc = .ok (.istore i, 2)) (hn : i < nL) (hl' : (i, Value.int x) :: lv.filter (fun q => !(q.1 == i) && !(q.1 + 1 == i && q.2.category == 2)) = lv') (k : xm_W E nL Q kc ks ω (pc + 2) lv' st) : xm_W E nL Q kc ks ω pc lv (.int x :: st) := by
  obtain ⟨p, l, e, R, s, m, args, below, meth, c, D, cA, A, ad0, n0⟩ := E
  obtain ⟨hx, hb, hml, hr, hown, hts, hK, hA, -⟩ := C
  subst hl'
  exact fun ad H locs ls a1 a2 hP hD hS hl => lv_istore hx hb hd hl hn (by rw [xm_l_filter _ (fun _ _ => by simp only [xm_v_cat])]; rfl) (fun ls' hl2 => k ad H locs ls' a1 a2 hP hD hS hl2)
theorem xs_lload_n {n : Fin 4} {i : Nat} {x : Int64} (C : xm_C E own cc nL rt tb nm rm) (hd : decode cc pc = .ok (.lload_n n, 1)) (hi : (n : Nat) = i) (j : Nat) (hj : lv[j]? = some (i, .long x)) (k : xm_W E nL Q kc ks ω (pc + 1) lv (.long x :: st)) : xm_W E nL Q kc ks ω pc lv (st) := by
  obtain ⟨p, l, e, R, s, m, args, below, meth, c, D, cA, A, ad0, n0⟩ := E
  obtain ⟨hx, hb, hml, hr, hown, hts, hK, hA, -⟩ := C
  exact fun ad H locs ls a1 a2 hP hD hS hl => lv_lload_n hx hb hd hi (lv_at hl j (xm_l_at hj)) (k ad H locs ls a1 a2 hP hD hS hl)
theorem xs_lload {i : Nat} {x : Int64} (C : xm_C E own cc nL rt tb nm rm) (hd : decode cc pc = .ok (.lload i, 2)) (j : Nat) (hj : lv[j]? = some (i, .long x)) (k : xm_W E nL Q kc ks ω (pc + 2) lv (.long x :: st)) : xm_W E nL Q kc ks ω pc lv (st) := by
  obtain ⟨p, l, e, R, s, m, args, below, meth, c, D, cA, A, ad0, n0⟩ := E
  obtain ⟨hx, hb, hml, hr, hown, hts, hK, hA, -⟩ := C
  exact fun ad H locs ls a1 a2 hP hD hS hl => lv_lload hx hb hd (lv_at hl j (xm_l_at hj)) (k ad H locs ls a1 a2 hP hD hS hl)
theorem xs_lstore_n {n : Fin 4} {i : Nat} {x : Int64} {lv' : List (Nat × Value)} (C : xm_C E own cc nL rt tb nm rm) (hd : decode cc pc = .ok (.lstore_n n, 1)) (hi : (n : Nat) = i) (hn : i + 1 < nL) (hl' : (i, Value.long x) :: lv.filter (fun q => !(q.1 == i) && (!(q.1 == i + 1) && !(q.1 + 1 == i && q.2.category == 2))) = lv') (k : xm_W E nL Q kc ks ω (pc + 1) lv' st) : xm_W E nL Q kc ks ω pc lv (.long x :: st) := by
  obtain ⟨p, l, e, R, s, m, args, below, meth, c, D, cA, A, ad0, n0⟩ := E
  obtain ⟨hx, hb, hml, hr, hown, hts, hK, hA, -⟩ := C
  subst hl'
  exact fun ad H locs ls a1 a2 hP hD hS hl => lv_lstore_n hx hb hd hi hl hn (by rw [xm_l_filter _ (fun _ _ => by simp only [xm_v_cat])]; rfl) (fun ls' hl2 => k ad H locs ls' a1 a2 hP hD hS hl2)
theorem xs_lstore {i : Nat} {x : Int64} {lv' : List (Nat × Value)} (C : xm_C E own cc nL rt tb nm rm) (hd : decode cc pc = .ok (.lstore i, 2)) (hn : i + 1 < nL) (hl' : (i, Value.long x) :: lv.filter (fun q => !(q.1 == i) && (!(q.1 == i + 1) && !(q.1 + 1 == i && q.2.category == 2))) = lv') (k : xm_W E nL Q kc ks ω (pc + 2) lv' st) : xm_W E nL Q kc ks ω pc lv (.long x :: st) := by
  obtain ⟨p, l, e, R, s, m, args, below, meth, c, D, cA, A, ad0, n0⟩ := E
  obtain ⟨hx, hb, hml, hr, hown, hts, hK, hA, -⟩ := C
  subst hl'
  exact fun ad H locs ls a1 a2 hP hD hS hl => lv_lstore hx hb hd hl hn (by rw [xm_l_filter _ (fun _ _ => by simp only [xm_v_cat])]; rfl) (fun ls' hl2 => k ad H locs ls' a1 a2 hP hD hS hl2)
theorem xs_aload_n {n : Fin 4} {i : Nat} {x : Nat} (C : xm_C E own cc nL rt tb nm rm) (hd : decode cc pc = .ok (.aload_n n, 1)) (hi : (n : Nat) = i) (j : Nat) (hj : lv[j]? = some (i, .ref x)) (k : xm_W E nL Q kc ks ω (pc + 1) lv (.ref x :: st)) : xm_W E nL Q kc ks ω pc lv (st) := by
  obtain ⟨p, l, e, R, s, m, args, below, meth, c, D, cA, A, ad0, n0⟩ := E
  obtain ⟨hx, hb, hml, hr, hown, hts, hK, hA, -⟩ := C
  exact fun ad H locs ls a1 a2 hP hD hS hl => lv_aload_n hx hb hd hi (lv_at hl j (xm_l_at hj)) (k ad H locs ls a1 a2 hP hD hS hl)
theorem xs_aload {i : Nat} {x : Nat} (C : xm_C E own cc nL rt tb nm rm) (hd : decode cc pc = .ok (.aload i, 2)) (j : Nat) (hj : lv[j]? = some (i, .ref x)) (k : xm_W E nL Q kc ks ω (pc + 2) lv (.ref x :: st)) : xm_W E nL Q kc ks ω pc lv (st) := by
  obtain ⟨p, l, e, R, s, m, args, below, meth, c, D, cA, A, ad0, n0⟩ := E
  obtain ⟨hx, hb, hml, hr, hown, hts, hK, hA, -⟩ := C
  exact fun ad H locs ls a1 a2 hP hD hS hl => lv_aload hx hb hd (lv_at hl j (xm_l_at hj)) (k ad H locs ls a1 a2 hP hD hS hl)
theorem xs_astore_n {n : Fin 4} {i : Nat} {x : Nat} {lv' : List (Nat × Value)} (C : xm_C E own cc nL rt tb nm rm) (hd : decode cc pc = .ok (.astore_n n, 1)) (hi : (n : Nat) = i) (hn : i < nL) (hl' : (i, Value.ref x) :: lv.filter (fun q => !(q.1 == i) && !(q.1 + 1 == i && q.2.category == 2)) = lv') (k : xm_W E nL Q kc ks ω (pc + 1) lv' st) : xm_W E nL Q kc ks ω pc lv (.ref x :: st) := by
  obtain ⟨p, l, e, R, s, m, args, below, meth, c, D, cA, A, ad0, n0⟩ := E
  obtain ⟨hx, hb, hml, hr, hown, hts, hK, hA, -⟩ := C
  subst hl'
  exact fun ad H locs ls a1 a2 hP hD hS hl => lv_astore_n hx hb hd hi hl hn (by rw [xm_l_filter _ (fun _ _ => by simp only [xm_v_cat])]; rfl) (fun ls' hl2 => k ad H locs ls' a1 a2 hP hD hS hl2)
theorem xs_astore {i : Nat} {x : Nat} {lv' : List (Nat × Value)} (C : xm_C E own cc nL rt tb nm rm) (hd : decode cc pc = .ok (.astore i, 2)) (hn : i < nL) (hl' : (i, Value.ref x) :: lv.filter (fun q => !(q.1 == i) && !(q.1 + 1 == i && q.2.category == 2)) = lv') (k : xm_W E nL Q kc ks ω (pc + 2) lv' st) : xm_W E nL Q kc ks ω pc lv (.ref x :: st) := by
  obtain ⟨p, l, e, R, s, m, args, below, meth, c, D, cA, A, ad0, n0⟩ := E
  obtain ⟨hx, hb, hml, hr, hown, hts, hK, hA, -⟩ := C
  subst hl'
  exact fun ad H locs ls a1 a2 hP hD hS hl => lv_astore hx hb hd hl hn (by rw [xm_l_filter _ (fun _ _ => by simp only [xm_v_cat])]; rfl) (fun ls' hl2 => k ad H locs ls' a1 a2 hP hD hS hl2)
theorem xs_iinc {i : Nat} {n : Int} {x v : Int32} {lv' : List (Nat × Value)} (C : xm_C E own cc nL rt tb nm rm) (hd : decode cc pc = .ok (.iinc i n, 3)) (j : Nat) (hj : lv[j]? = some (i, .int x)) (hv : x + Int32.ofInt n = v) (hn : i < nL) (hl' : (i, Value.int v) :: lv.filter (fun q => !(q.1 == i) && !(q.1 + 1 == i && q.2.category == 2)) = lv') (k : xm_W E nL Q kc ks ω (pc + 3) lv' st) : xm_W E nL Q kc ks ω pc lv st := by
  obtain ⟨p, l, e, R, s, m, args, below, meth, c, D, cA, A, ad0, n0⟩ := E
  obtain ⟨hx, hb, hml, hr, hown, hts, hK, hA, -⟩ := C
  subst hl'
  exact fun ad H locs ls a1 a2 hP hD hS hl => lv_iinc hx hb hd hl (xm_l_at hj) hv hn (by rw [xm_l_filter _ (fun _ _ => by simp only [xm_v_cat])]; rfl) (fun ls' hl2 => k ad H locs ls' a1 a2 hP hD hS hl2)
theorem xs_goto {off : Int} {tgt : Nat} (C : xm_C E own cc nL rt tb nm rm) (hd : decode cc pc = .ok (.goto off, 3)) (ht : (pc : Int) + off = (tgt : Int)) (k : xm_W E nL Q kc ks ω tgt lv st) : xm_W E nL Q kc ks ω pc lv st := by
  obtain ⟨p, l, e, R, s, m, args, below, meth, c, D, cA, A, ad0, n0⟩ := E
  obtain ⟨hx, hb, hml, hr, hown, hts, hK, hA, -⟩ := C
  exact fun ad H locs ls a1 a2 hP hD hS hl => lv_goto hx hb hd ht (k ad H locs ls a1 a2 hP hD hS hl)
theorem xs_if_eq {x : Int32} {off : Int} {tgt : Nat} (C : xm_C E own cc nL rt tb nm rm) (hd : decode cc pc = .ok (.ifCond .eq off, 3)) (ht : (pc : Int) + off = (tgt : Int)) (kt : x = 0 → xm_W E nL Q kc ks ω tgt lv st) (kf : ¬ x = 0 → xm_W E nL Q kc ks ω (pc + 3) lv st) : xm_W E nL Q kc ks ω pc lv (.int x :: st) := by
  obtain ⟨p, l, e, R, s, m, args, below, meth, c, D, cA, A, ad0, n0⟩ := E
  obtain ⟨hx, hb, hml, hr, hown, hts, hK, hA, -⟩ := C
  exact fun ad H locs ls a1 a2 hP hD hS hl => lv_if_eq hx hb hd ht (fun h => kt h ad H locs ls a1 a2 hP hD hS hl) (fun h => kf h ad H locs ls a1 a2 hP hD hS hl)
theorem xs_icmp_eq {x y : Int32} {off : Int} {tgt : Nat} (C : xm_C E own cc nL rt tb nm rm) (hd : decode cc pc = .ok (.if_icmp .eq off, 3)) (ht : (pc : Int) + off = (tgt : Int)) (kt : x = y → xm_W E nL Q kc ks ω tgt lv st) (kf : ¬ x = y → xm_W E nL Q kc ks ω (pc + 3) lv st) : xm_W E nL Q kc ks ω pc lv (.int y :: .int x :: st) := by
  obtain ⟨p, l, e, R, s, m, args, below, meth, c, D, cA, A, ad0, n0⟩ := E
  obtain ⟨hx, hb, hml, hr, hown, hts, hK, hA, -⟩ := C
  exact fun ad H locs ls a1 a2 hP hD hS hl => lv_icmp_eq hx hb hd ht (fun h => kt h ad H locs ls a1 a2 hP hD hS hl) (fun h => kf h ad H locs ls a1 a2 hP hD hS hl)
theorem xs_if_ne {x : Int32} {off : Int} {tgt : Nat} (C : xm_C E own cc nL rt tb nm rm) (hd : decode cc pc = .ok (.ifCond .ne off, 3)) (ht : (pc : Int) + off = (tgt : Int)) (kt : ¬ x = 0 → xm_W E nL Q kc ks ω tgt lv st) (kf : x = 0 → xm_W E nL Q kc ks ω (pc + 3) lv st) : xm_W E nL Q kc ks ω pc lv (.int x :: st) := by
  obtain ⟨p, l, e, R, s, m, args, below, meth, c, D, cA, A, ad0, n0⟩ := E
  obtain ⟨hx, hb, hml, hr, hown, hts, hK, hA, -⟩ := C
  exact fun ad H locs ls a1 a2 hP hD hS hl => lv_if_ne hx hb hd ht (fun h => kt h ad H locs ls a1 a2 hP hD hS hl) (fun h => kf h ad H locs ls a1 a2 hP hD hS hl)
theorem xs_icmp_ne {x y : Int32} {off : Int} {tgt : Nat} (C : xm_C E own cc nL rt tb nm rm) (hd : decode cc pc = .ok (.if_icmp .ne off, 3)) (ht : (pc : Int) + off = (tgt : Int)) (kt : ¬ x = y → xm_W E nL Q kc ks ω tgt lv st) (kf : x = y → xm_W E nL Q kc ks ω (pc + 3) lv st) : xm_W E nL Q kc ks ω pc lv (.int y :: .int x :: st) := by
  obtain ⟨p, l, e, R, s, m, args, below, meth, c, D, cA, A, ad0, n0⟩ := E
  obtain ⟨hx, hb, hml, hr, hown, hts, hK, hA, -⟩ := C
  exact fun ad H locs ls a1 a2 hP hD hS hl => lv_icmp_ne hx hb hd ht (fun h => kt h ad H locs ls a1 a2 hP hD hS hl) (fun h => kf h ad H locs ls a1 a2 hP hD hS hl)
theorem xs_if_lt {x : Int32} {off : Int} {tgt : Nat} (C : xm_C E own cc nL rt tb nm rm) (hd : decode cc pc = .ok (.ifCond .lt off, 3)) (ht : (pc : Int) + off = (tgt : Int)) (kt : x < 0 → xm_W E nL Q kc ks ω tgt lv st) (kf : ¬ x < 0 → xm_W E nL Q kc ks ω (pc + 3) lv st) : xm_W E nL Q kc ks ω pc lv (.int x :: st) := by
  obtain ⟨p, l, e, R, s, m, args, below, meth, c, D, cA, A, ad0, n0⟩ := E
  obtain ⟨hx, hb, hml, hr, hown, hts, hK, hA, -⟩ := C
  exact fun ad H locs ls a1 a2 hP hD hS hl => lv_if_lt hx hb hd ht (fun h => kt h ad H locs ls a1 a2 hP hD hS hl) (fun h => kf h ad H locs ls a1 a2 hP hD hS hl)
theorem xs_icmp_lt {x y : Int32} {off : Int} {tgt : Nat} (C : xm_C E own cc nL rt tb nm rm) (hd : decode cc pc = .ok (.if_icmp .lt off, 3)) (ht : (pc : Int) + off = (tgt : Int)) (kt : x < y → xm_W E nL Q kc ks ω tgt lv st) (kf : ¬ x < y → xm_W E nL Q kc ks ω (pc + 3) lv st) : xm_W E nL Q kc ks ω pc lv (.int y :: .int x :: st) := by
  obtain ⟨p, l, e, R, s, m, args, below, meth, c, D, cA, A, ad0, n0⟩ := E
  obtain ⟨hx, hb, hml, hr, hown, hts, hK, hA, -⟩ := C
  exact fun ad H locs ls a1 a2 hP hD hS hl => lv_icmp_lt hx hb hd ht (fun h => kt h ad H locs ls a1 a2 hP hD hS hl) (fun h => kf h ad H locs ls a1 a2 hP hD hS hl)
theorem xs_if_ge {x : Int32} {off : Int} {tgt : Nat} (C : xm_C E own cc nL rt tb nm rm) (hd : decode cc pc = .ok (.ifCond .ge off, 3)) (ht : (pc : Int) + off = (tgt : Int)) (kt : 0 ≤ x → xm_W E nL Q kc ks ω tgt lv st) (kf : ¬ 0 ≤ x → xm_W E nL Q kc ks ω (pc + 3) lv st) : xm_W E nL Q kc ks ω pc lv (.int x :: st) := by
  obtain ⟨p, l, e, R, s, m, args, below, meth, c, D, cA, A, ad0, n0⟩ := E
  obtain ⟨hx, hb, hml, hr, hown, hts, hK, hA, -⟩ := C
  exact fun ad H locs ls a1 a2 hP hD hS hl => lv_if_ge hx hb hd ht (fun h => kt h ad H locs ls a1 a2 hP hD hS hl) (fun h => kf h ad H locs ls a1 a2 hP hD hS hl)
theorem xs_icmp_ge {x y : Int32} {off : Int} {tgt : Nat} (C : xm_C E own cc nL rt tb nm rm) (hd : decode cc pc = .ok (.if_icmp .ge off, 3)) (ht : (pc : Int) + off = (tgt : Int)) (kt : y ≤ x → xm_W E nL Q kc ks ω tgt lv st) (kf : ¬ y ≤ x → xm_W E nL Q kc ks ω (pc + 3) lv st) : xm_W E nL Q kc ks ω pc lv (.int y :: .int x :: st) := by
  obtain ⟨p, l, e, R, s, m, args, below, meth, c, D, cA, A, ad0, n0⟩ := E
  obtain ⟨hx, hb, hml, hr, hown, hts, hK, hA, -⟩ := C
  exact fun ad H locs ls a1 a2 hP hD hS hl => lv_icmp_ge hx hb hd ht (fun h => kt h ad H locs ls a1 a2 hP hD hS hl) (fun h => kf h ad H locs ls a1 a2 hP hD hS hl)
theorem xs_if_gt {x : Int32} {off : Int} {tgt : Nat} (C : xm_C E own cc nL rt tb nm rm) (hd : decode cc pc = .ok (.ifCond .gt off, 3)) (ht : (pc : Int) + off = (tgt : Int)) (kt : 0 < x → xm_W E nL Q kc ks ω tgt lv st) (kf : ¬ 0 < x → xm_W E nL Q kc ks ω (pc + 3) lv st) : xm_W E nL Q kc ks ω pc lv (.int x :: st) := by
  obtain ⟨p, l, e, R, s, m, args, below, meth, c, D, cA, A, ad0, n0⟩ := E
  obtain ⟨hx, hb, hml, hr, hown, hts, hK, hA, -⟩ := C
  exact fun ad H locs ls a1 a2 hP hD hS hl => lv_if_gt hx hb hd ht (fun h => kt h ad H locs ls a1 a2 hP hD hS hl) (fun h => kf h ad H locs ls a1 a2 hP hD hS hl)
theorem xs_icmp_gt {x y : Int32} {off : Int} {tgt : Nat} (C : xm_C E own cc nL rt tb nm rm) (hd : decode cc pc = .ok (.if_icmp .gt off, 3)) (ht : (pc : Int) + off = (tgt : Int)) (kt : y < x → xm_W E nL Q kc ks ω tgt lv st) (kf : ¬ y < x → xm_W E nL Q kc ks ω (pc + 3) lv st) : xm_W E nL Q kc ks ω pc lv (.int y :: .int x :: st) := by
  obtain ⟨p, l, e, R, s, m, args, below, meth, c, D, cA, A, ad0, n0⟩ := E
  obtain ⟨hx, hb, hml, hr, hown, hts, hK, hA, -⟩ := C
  exact fun ad H locs ls a1 a2 hP hD hS hl => lv_icmp_gt hx hb hd ht (fun h => kt h ad H locs ls a1 a2 hP hD hS hl) (fun h => kf h ad H locs ls a1 a2 hP hD hS hl)
theorem xs_if_le {x : Int32} {off : Int} {tgt : Nat} (C : xm_C E own cc nL rt tb nm rm) (hd : decode cc pc = .ok (.ifCond .le off, 3)) (ht : (pc : Int) + off = (tgt : Int)) (kt : x ≤ 0 → xm_W E nL Q kc ks ω tgt lv st) (kf : ¬ x ≤ 0 → xm_W E nL Q kc ks ω (pc + 3) lv st) : xm_W E nL Q kc ks ω pc lv (.int x :: st) := by
  obtain ⟨p, l, e, R, s, m, args, below, meth, c, D, cA, A, ad0, n0⟩ := E
  obtain ⟨hx, hb, hml, hr, hown, hts, hK, hA, -⟩ := C
  exact fun ad H locs ls a1 a2 hP hD hS hl => lv_if_le hx hb hd ht (fun h => kt h ad H locs ls a1 a2 hP hD hS hl) (fun h => kf h ad H locs ls a1 a2 hP hD hS hl)
theorem xs_icmp_le {x y : Int32} {off : Int} {tgt : Nat} (C : xm_C E own cc nL rt tb nm rm) (hd : decode cc pc = .ok (.if_icmp .le off, 3)) (ht : (pc : Int) + off = (tgt : Int)) (kt : x ≤ y → xm_W E nL Q kc ks ω tgt lv st) (kf : ¬ x ≤ y → xm_W E nL Q kc ks ω (pc + 3) lv st) : xm_W E nL Q kc ks ω pc lv (.int y :: .int x :: st) := by
  obtain ⟨p, l, e, R, s, m, args, below, meth, c, D, cA, A, ad0, n0⟩ := E
  obtain ⟨hx, hb, hml, hr, hown, hts, hK, hA, -⟩ := C
  exact fun ad H locs ls a1 a2 hP hD hS hl => lv_icmp_le hx hb hd ht (fun h => kt h ad H locs ls a1 a2 hP hD hS hl) (fun h => kf h ad H locs ls a1 a2 hP hD hS hl)
theorem xs_tableIn {dflt lo hi : Int} {offs : Array Int} {len : Nat} {x : Int32} {off : Int} {tgt : Nat} (C : xm_C E own cc nL rt tb nm rm) (hd : decode cc pc = .ok (.tableswitch dflt lo hi offs, len)) (h1 : ¬ x.toInt < lo) (h2 : ¬ hi < x.toInt) (ho : offs[(x.toInt - lo).toNat]? = some off) (ht : (pc : Int) + off = (tgt : Int)) (k : xm_W E nL Q kc ks ω tgt lv st) : xm_W E nL Q kc ks ω pc lv (.int x :: st) := by
  obtain ⟨p, l, e, R, s, m, args, below, meth, c, D, cA, A, ad0, n0⟩ := E
  obtain ⟨hx, hb, hml, hr, hown, hts, hK, hA, -⟩ := C
  exact fun ad H locs ls a1 a2 hP hD hS hl => lv_tableIn hx hb hd h1 h2 ho ht (k ad H locs ls a1 a2 hP hD hS hl)
theorem xs_tableOut {dflt lo hi : Int} {offs : Array Int} {len : Nat} {x : Int32} {tgt : Nat} (C : xm_C E own cc nL rt tb nm rm) (hd : decode cc pc = .ok (.tableswitch dflt lo hi offs, len)) (h : x.toInt < lo ∨ hi < x.toInt) (ht : (pc : Int) + dflt = (tgt : Int)) (k : xm_W E nL Q kc ks ω tgt lv st) : xm_W E nL Q kc ks ω pc lv (.int x :: st) := by
  obtain ⟨p, l, e, R, s, m, args, below, meth, c, D, cA, A, ad0, n0⟩ := E
  obtain ⟨hx, hb, hml, hr, hown, hts, hK, hA, -⟩ := C
  exact fun ad H locs ls a1 a2 hP hD hS hl => lv_tableOut hx hb hd h ht (k ad H locs ls a1 a2 hP hD hS hl)
theorem xs_lookup {dflt : Int} {ps : Array (Int × Int)} {len : Nat} {x : Int32} {off : Int} {tgt : Nat} (C : xm_C E own cc nL rt tb nm rm) (hd : decode cc pc = .ok (.lookupswitch dflt ps, len)) (hp : (ps.toList.zip (ps.toList.drop 1)).all (fun (a, next) => a.1 < next.1) = true) (ho : Op.lookupswitch.offset ps.toList dflt x.toInt = off) (ht : (pc : Int) + off = (tgt : Int)) (k : xm_W E nL Q kc ks ω tgt lv st) : xm_W E nL Q kc ks ω pc lv (.int x :: st) := by
  obtain ⟨p, l, e, R, s, m, args, below, meth, c, D, cA, A, ad0, n0⟩ := E
  obtain ⟨hx, hb, hml, hr, hown, hts, hK, hA, -⟩ := C
  exact fun ad H locs ls a1 a2 hP hD hS hl => lv_lookup hx hb hd hp ho ht (k ad H locs ls a1 a2 hP hD hS hl)
theorem xs_ldc {index : Nat} {v : Int32} (C : xm_C E own cc nL rt tb nm rm) (hd : decode cc pc = .ok (.ldc index, 2)) (hw : Cond.constant own index v ∈ lw_g) (k : xm_W E nL Q kc ks ω (pc + 2) lv (.int v :: st)) : xm_W E nL Q kc ks ω pc lv st := by
  obtain ⟨p, l, e, R, s, m, args, below, meth, c, D, cA, A, ad0, n0⟩ := E
  obtain ⟨hx, hb, hml, hr, hown, hts, hK, hA, -⟩ := C
  exact fun ad H locs ls a1 a2 hP hD hS hl => lv_ldc hx hb hown (hts _ hw) hd (k ad H locs ls a1 a2 hP hD hS hl)
theorem xs_ldc2 {index : Nat} {v : Int64} (C : xm_C E own cc nL rt tb nm rm) (hd : decode cc pc = .ok (.ldc2_w index, 3)) (hw : Cond.constantLong own index v ∈ lw_g) (k : xm_W E nL Q kc ks ω (pc + 3) lv (.long v :: st)) : xm_W E nL Q kc ks ω pc lv st := by
  obtain ⟨p, l, e, R, s, m, args, below, meth, c, D, cA, A, ad0, n0⟩ := E
  obtain ⟨hx, hb, hml, hr, hown, hts, hK, hA, -⟩ := C
  exact fun ad H locs ls a1 a2 hP hD hS hl => lv_ldc2 hx hb hown (hts _ hw) hd (k ad H locs ls a1 a2 hP hD hS hl)
theorem xs_get {index ci q f : Nat} {fs : List Value} {v : Value} (C : xm_C E own cc nL rt tb nm rm) (F : xm_Fl own index ci f) (hd : decode cc pc = .ok (.getfield index, 3)) (hw : ω[q]? = some (.inr (ci, fs))) (hv : fs[f]? = some v) (k : xm_W E nL Q kc ks ω (pc + 3) lv (v :: st)) : xm_W E nL Q kc ks ω pc lv (.ref q :: st) := by
  obtain ⟨p, l, e, R, s, m, args, below, meth, c, D, cA, A, ad0, n0⟩ := E
  obtain ⟨hx, hb, hml, hr, hown, hts, hK, hA, -⟩ := C
  obtain ⟨CN, T, N, ty, hc, hk, hin, hty, hnm, hlink⟩ := F
  intro ad H locs ls a1 a2 hP hD hS hl
  have hv' : (fs.map (xm_v ad))[f]? = some (xm_v ad v) := by simp [hv]
  rcases hlink with hlink | ⟨host, hlink⟩
  · exact va_get hx hb hts hin hown hK hP q (xm_c_get hw) hc f hk (hts _ hlink) (fun _ h => h) hv' hd (k ad H locs ls a1 a2 hP hD hS hl)
  · exact va_getN hx hb hts hin hown hK hP q (xm_c_get hw) hc f hk (hts _ hlink) (fun _ h => h) hv' hd (k ad H locs ls a1 a2 hP hD hS hl)
theorem xm_e_set {cA : Nat → ClassId} {ad : Nat → Nat} {ci f : Nat} {fs : List Value} {v : Value} : xm_e cA ad (.inr (ci, fs.set f v)) = .inr (ci, (fs.map (xm_v ad)).set f (xm_v ad v)) := by
  simp only [xm_e, List.map_set]
theorem xm_T {ci f : Nat} {ty : FieldType} {fin : Bool} {CN : String} {T : u_T} {N : Nat} (h : xm_ty ci f ty fin) (hc : classes[ci]? = some (CN, T, N)) : parseFieldDescriptor (T f).2.2.1 = some ty ∧ (T f).2.2.2 = fin := h CN T N hc
theorem xs_put {index ci q f : Nat} {fs : List Value} {v : Value} {ty : FieldType} {ω' : xm_O} (C : xm_C E own cc nL rt tb nm rm) (F : xm_Fl own index ci f) (hty0 : xm_ty ci f ty false) (hd : decode cc pc = .ok (.putfield index, 3)) (hw : ω[q]? = some (.inr (ci, fs))) (hf : f < fs.length) (hfit : ∀ ad : Nat → Nat, narrow ty (xm_v ad v) = xm_v ad v ∧ fits ty (xm_v ad v) = true) (hω : ω.set q (.inr (ci, fs.set f v)) = ω') (k : xm_W E nL Q kc ks ω' (pc + 3) lv st) : xm_W E nL Q kc ks ω pc lv (v :: .ref q :: st) := by
  obtain ⟨p, l, e, R, s, m, args, below, meth, c, D, cA, A, ad0, n0⟩ := E
  obtain ⟨hx, hb, hml, hr, hown, hts, hK, hA, -⟩ := C
  obtain ⟨CN, T, N, ty1, hc, hk, hin, hty, hnm, hlink⟩ := F
  obtain ⟨t1, t2⟩ := xm_T hty0 hc
  subst hω
  intro ad H locs ls a1 a2 hP hD hS hl
  have hlen : f < (fs.map (xm_v ad)).length := by simpa using hf
  have e : (xm_c cA ad ω).set q (ad q, .inr (ci, (fs.map (xm_v ad)).set f (xm_v ad v))) = xm_c cA ad (ω.set q (.inr (ci, fs.set f v))) := by rw [← xm_e_set (cA := cA), xm_c_set]
  rcases hlink with hlink | ⟨host, hlink⟩
  · refine va_put hx hb hts hin ty1 hty hnm hown hK hP hD hS q (xm_c_get hw) hc f hk (hts _ hlink) (fun _ h => h) t2 t1 (hfit ad).1 (hfit ad).2 hlen hd (fun H1 locs1 hP1 hD1 hS1 => ?_)
    rw [e] at hP1 hD1
    exact k ad H1 locs1 ls a1 (by simpa using a2) hP1 hD1 hS1 hl
  · refine va_putN hx hb hts hin ty1 hty hnm hown hK hP hD hS q (xm_c_get hw) hc f hk (hts _ hlink) (fun _ h => h) t2 t1 (hfit ad).1 (hfit ad).2 hlen hd (fun H1 locs1 hP1 hD1 hS1 => ?_)
    rw [e] at hP1 hD1
    exact k ad H1 locs1 ls a1 (by simpa using a2) hP1 hD1 hS1 hl
theorem xs_putF {index ci q f : Nat} {fs : List Value} {v : Value} {ty : FieldType} {ω' : xm_O} (C : xm_C E own cc nL rt tb "<init>" rm) (F : xm_Fl own index ci f) (hty0 : xm_ty ci f ty true) (hown2 : ∀ (CN : String) (T : u_T) (N : Nat), classes[ci]? = some (CN, T, N) → (T f).1 = own ∧ Cond.fieldLink own index (T f).1 (T f).2.1 (T f).2.2.1 ∈ lw_g) (hd : decode cc pc = .ok (.putfield index, 3)) (hw : ω[q]? = some (.inr (ci, fs))) (hf : f < fs.length) (hfit : ∀ ad : Nat → Nat, narrow ty (xm_v ad v) = xm_v ad v ∧ fits ty (xm_v ad v) = true) (hω : ω.set q (.inr (ci, fs.set f v)) = ω') (k : xm_W E nL Q kc ks ω' (pc + 3) lv st) : xm_W E nL Q kc ks ω pc lv (v :: .ref q :: st) := by
  obtain ⟨p, l, e, R, s, m, args, below, meth, c, D, cA, A, ad0, n0⟩ := E
  obtain ⟨hx, hb, hml, hr, hown, hts, hK, hA, hZ, hlk, hfl, htb, hnm0, -⟩ := C
  obtain ⟨CN, T, N, ty1, hc, hk, hin, hty, hnm, -⟩ := F
  obtain ⟨t1, t2⟩ := xm_T hty0 hc
  obtain ⟨o1, hlink⟩ := hown2 CN T N hc
  subst hω
  intro ad H locs ls a1 a2 hP hD hS hl
  have hlen : f < (fs.map (xm_v ad)).length := by simpa using hf
  have e : (xm_c cA ad ω).set q (ad q, .inr (ci, (fs.map (xm_v ad)).set f (xm_v ad v))) = xm_c cA ad (ω.set q (.inr (ci, fs.set f v))) := by rw [← xm_e_set (cA := cA), xm_c_set]
  refine va_putF hx hb hts hin ty1 hty hnm hown hK hP hD hS q (xm_c_get hw) hc f hk (hts _ hlink) (fun _ h => h) t2 hnm0 o1 t1 (hfit ad).1 (hfit ad).2 hlen hd (fun H1 locs1 hP1 hD1 hS1 => ?_)
  rw [e] at hP1 hD1
  exact k ad H1 locs1 ls a1 (by simpa using a2) hP1 hD1 hS1 hl
theorem xs_iald {q n : Nat} {f : Nat → Int32} {i : Int32} (C : xm_C E own cc nL rt tb nm rm) (hd : decode cc pc = .ok (.iaload, 1)) (hw : ω[q]? = some (.inl (0, n, .inl f))) (hi : vp_in i n) (k : xm_W E nL Q kc ks ω (pc + 1) lv (.int (f i.toNatClampNeg) :: st)) : xm_W E nL Q kc ks ω pc lv (.int i :: .ref q :: st) := by
  obtain ⟨p, l, e, R, s, m, args, below, meth, c, D, cA, A, ad0, n0⟩ := E
  obtain ⟨hx, hb, hml, hr, hown, hts, hK, hA, -⟩ := C
  exact fun ad H locs ls a1 a2 hP hD hS hl => va_iald hx hb hK hP q 0 (xm_c_get hw) rfl hi hd (k ad H locs ls a1 a2 hP hD hS hl)
theorem xs_lald {q n : Nat} {f : Nat → Int64} {i : Int32} (C : xm_C E own cc nL rt tb nm rm) (hd : decode cc pc = .ok (.laload, 1)) (hw : ω[q]? = some (.inl (1, n, .inr (.inl f)))) (hi : vp_in i n) (k : xm_W E nL Q kc ks ω (pc + 1) lv (.long (f i.toNatClampNeg) :: st)) : xm_W E nL Q kc ks ω pc lv (.int i :: .ref q :: st) := by
  obtain ⟨p, l, e, R, s, m, args, below, meth, c, D, cA, A, ad0, n0⟩ := E
  obtain ⟨hx, hb, hml, hr, hown, hts, hK, hA, -⟩ := C
  exact fun ad H locs ls a1 a2 hP hD hS hl => va_lald hx hb hK hP q 1 (xm_c_get hw) rfl hi hd (k ad H locs ls a1 a2 hP hD hS hl)
theorem xs_zald {q n : Nat} {f : Nat → Int32} {i : Int32} (C : xm_C E own cc nL rt tb nm rm) (hd : decode cc pc = .ok (.baload, 1)) (hw : ω[q]? = some (.inl (2, n, .inl f))) (hi : vp_in i n) (k : xm_W E nL Q kc ks ω (pc + 1) lv (.int (f i.toNatClampNeg) :: st)) : xm_W E nL Q kc ks ω pc lv (.int i :: .ref q :: st) := by
  obtain ⟨p, l, e, R, s, m, args, below, meth, c, D, cA, A, ad0, n0⟩ := E
  obtain ⟨hx, hb, hml, hr, hown, hts, hK, hA, -⟩ := C
  exact fun ad H locs ls a1 a2 hP hD hS hl => va_zald hx hb hK hP q 2 (xm_c_get hw) rfl hi hd (k ad H locs ls a1 a2 hP hD hS hl)
theorem xs_iast {q n : Nat} {f : Nat → Int32} {i : Int32} {x : Int32} {ω' : xm_O} (C : xm_C E own cc nL rt tb nm rm) (hd : decode cc pc = .ok (.iastore, 1)) (hw : ω[q]? = some (.inl (0, n, .inl f))) (hi : vp_in i n) (hω : ω.set q (.inl (0, n, .inl (upd f i.toNatClampNeg x))) = ω') (k : xm_W E nL Q kc ks ω' (pc + 1) lv st) : xm_W E nL Q kc ks ω pc lv (.int x :: .int i :: .ref q :: st) := by
  obtain ⟨p, l, e, R, s, m, args, below, meth, c, D, cA, A, ad0, n0⟩ := E
  obtain ⟨hx, hb, hml, hr, hown, hts, hK, hA, -⟩ := C
  subst hω
  intro ad H locs ls a1 a2 hP hD hS hl
  refine va_iast hx hb hK hP hD hS q 0 (xm_c_get hw) rfl hi hd (fun H1 locs1 hP1 hD1 hS1 => ?_)
  have e := xm_c_set (cA := cA) (ad := ad) (ω := ω) (i := q) (c := .inl (0, n, .inl (upd f i.toNatClampNeg x)))
  exact k ad H1 locs1 ls a1 (by simpa using a2) (e ▸ hP1) (e ▸ hD1) hS1 hl
theorem xs_last {q n : Nat} {f : Nat → Int64} {i : Int32} {x : Int64} {ω' : xm_O} (C : xm_C E own cc nL rt tb nm rm) (hd : decode cc pc = .ok (.lastore, 1)) (hw : ω[q]? = some (.inl (1, n, .inr (.inl f)))) (hi : vp_in i n) (hω : ω.set q (.inl (1, n, .inr (.inl (vp_updL f i.toNatClampNeg x)))) = ω') (k : xm_W E nL Q kc ks ω' (pc + 1) lv st) : xm_W E nL Q kc ks ω pc lv (.long x :: .int i :: .ref q :: st) := by
  obtain ⟨p, l, e, R, s, m, args, below, meth, c, D, cA, A, ad0, n0⟩ := E
  obtain ⟨hx, hb, hml, hr, hown, hts, hK, hA, -⟩ := C
  subst hω
  intro ad H locs ls a1 a2 hP hD hS hl
  refine va_last hx hb hK hP hD hS q 1 (xm_c_get hw) rfl hi hd (fun H1 locs1 hP1 hD1 hS1 => ?_)
  have e := xm_c_set (cA := cA) (ad := ad) (ω := ω) (i := q) (c := .inl (1, n, .inr (.inl (vp_updL f i.toNatClampNeg x))))
  exact k ad H1 locs1 ls a1 (by simpa using a2) (e ▸ hP1) (e ▸ hD1) hS1 hl
theorem xs_zast {q n : Nat} {f : Nat → Int32} {i : Int32} {x : Int32} {ω' : xm_O} (C : xm_C E own cc nL rt tb nm rm) (hd : decode cc pc = .ok (.bastore, 1)) (hw : ω[q]? = some (.inl (2, n, .inl f))) (hi : vp_in i n) (hω : ω.set q (.inl (2, n, .inl (upd f i.toNatClampNeg (vp_nar .boolean x)))) = ω') (k : xm_W E nL Q kc ks ω' (pc + 1) lv st) : xm_W E nL Q kc ks ω pc lv (.int x :: .int i :: .ref q :: st) := by
  obtain ⟨p, l, e, R, s, m, args, below, meth, c, D, cA, A, ad0, n0⟩ := E
  obtain ⟨hx, hb, hml, hr, hown, hts, hK, hA, -⟩ := C
  subst hω
  intro ad H locs ls a1 a2 hP hD hS hl
  refine va_zast hx hb hK hP hD hS q 2 (xm_c_get hw) rfl hi hd (fun H1 locs1 hP1 hD1 hS1 => ?_)
  have e := xm_c_set (cA := cA) (ad := ad) (ω := ω) (i := q) (c := .inl (2, n, .inl (upd f i.toNatClampNeg (vp_nar .boolean x))))
  exact k ad H1 locs1 ls a1 (by simpa using a2) (e ▸ hP1) (e ▸ hD1) hS1 hl
theorem xs_alen {q t : Nat} {a : vp_A} {v : Int32} (C : xm_C E own cc nL rt tb nm rm) (hd : decode cc pc = .ok (.arraylength, 1)) (hw : ω[q]? = some (.inl (t, a))) (ht : t < 3) (hv : Int32.ofNat a.1 = v) (k : xm_W E nL Q kc ks ω (pc + 1) lv (.int v :: st)) : xm_W E nL Q kc ks ω pc lv (.ref q :: st) := by
  obtain ⟨p, l, e, R, s, m, args, below, meth, c, D, cA, A, ad0, n0⟩ := E
  obtain ⟨hx, hb, hml, hr, hown, hts, hK, hA, -⟩ := C
  intro ad H locs ls a1 a2 hP hD hS hl
  rcases (show t = 0 ∨ t = 1 ∨ t = 2 by omega) with rfl | rfl | rfl
  · exact va_alen hx hb hK hP q 0 (xm_c_get hw) rfl hv hd (k ad H locs ls a1 a2 hP hD hS hl)
  · exact va_alen hx hb hK hP q 1 (xm_c_get hw) rfl hv hd (k ad H locs ls a1 a2 hP hD hS hl)
  · exact va_alen hx hb hK hP q 2 (xm_c_get hw) rfl hv hd (k ad H locs ls a1 a2 hP hD hS hl)
theorem xs_new {index ci N : Nat} {CN : String} {T : u_T} {ty : Nat → FieldType} {fs : List Value} (C : xm_C E own cc nL rt tb nm rm) (hd : decode cc pc = .ok (.new index, 3)) (hc : classes[ci]? = some (CN, T, N)) (hin : ∀ w ∈ u_ws CN T N, w ∈ lw_g) (hty : ∀ j, j < N → parseFieldDescriptor (T j).2.2.1 = some (ty j)) (h1 : Cond.classLink own index CN ∈ lw_g) (h2 : Cond.instantiable CN N ∈ lw_g) (h3 : Cond.initialized CN ∈ lw_g) (hfs : ∀ j, j < N → defaultValue (ty j) = vp_V fs j) (hnr : ∀ ad : Nat → Nat, fs.map (xm_v ad) = fs) (hb0 : (xm_bo ω.length ω && (xm_bl ω.length lv && xm_bs ω.length st)) = true) (hkc : kc + 1 ≤ rm.cells) (hks : ks + N ≤ rm.slots) (k : xm_W E nL Q (kc + 1) (ks + N) (ω ++ [.inr (ci, fs)]) (pc + 3) lv (.ref ω.length :: st)) : xm_W E nL Q kc ks ω pc lv st := by
  obtain ⟨p, l, e, R, s, m, args, below, meth, c, D, cA, A, ad0, n0⟩ := E
  obtain ⟨hx, hb, hml, hr, hown, hts, hK, hA, -, -, -, -, -, hR⟩ := C
  simp only [Bool.and_eq_true] at hb0
  obtain ⟨b1, b2, b3⟩ := hb0
  subst hR
  intro ad H locs ls a1 a2 hP hD hS hl
  refine va_new (ci := ci) (fs := fs) (C := CN) (T := T) (N := N) hx hb hts hin ty hty hown (hts _ h1) (hts _ h2) (hts _ h3) hK hP hD hS hA hc hfs hkc hks hd (fun q H1 hP1 hD1 hS1 => ?_)
  have ag : ∀ i, i < ω.length → ad i = (fun i => if i = ω.length then q else ad i) i := fun i hi => by simp [Nat.ne_of_lt hi]
  have e0 := xm_c_push (cA := cA) (ad := ad) (c := .inr (ci, fs)) (q := q) b1
  have e1 : xm_e cA (fun i => if i = ω.length then q else ad i) (.inr (ci, fs)) = .inr (ci, fs) := by simp only [xm_e, hnr]
  rw [e1] at e0
  have e2 := xm_l_eq ag b2
  have e3 := xm_s_eq ag b3
  have e4 : (Value.ref q :: st.map (xm_v ad)) = (Value.ref ω.length :: st).map (xm_v (fun i => if i = ω.length then q else ad i)) := by
    rw [List.map_cons, ← e3]; simp [xm_v]
  rw [e4]
  refine k _ H1 locs ls (fun i hi => ?_) (by rw [List.length_append]; omega) (by rw [e0]; exact hP1) (by rw [e0]; exact hD1) hS1 (by rw [← e2]; exact hl)
  exact (ag i (by omega)).symm.trans (a1 i hi)
theorem xs_newa {atype : ArrayType} {t N : Nat} {ty : FieldType} {n : Int32} {a0 : vp_A} (C : xm_C E own cc nL rt tb nm rm) (hd : decode cc pc = .ok (.newarray atype, 2)) (hty : newarray.typeOf atype = ty) (ht : ∀ cA : Nat → ClassId, (xm_t cA)[t]? = some (cA t, ty)) (hpr : ∀ CN, ty ≠ .object CN) (hw : Cond.arrayClass (newarray.typeOf atype) ∈ lw_g) (ha : ∀ cA : ClassId, vp_cell cA a0 = arrV cA N (fun _ => defaultValue ty)) (hn : ¬ n < 0) (hN : n.toNatClampNeg = N) (hby : N * componentBytes ty ≤ 536870912) (hb0 : (xm_bo ω.length ω && (xm_bl ω.length lv && xm_bs ω.length st)) = true) (hkc : kc + 1 ≤ rm.cells) (hks : ks + N ≤ rm.slots) (k : xm_W E nL Q (kc + 1) (ks + N) (ω ++ [.inl (t, a0)]) (pc + 2) lv (.ref ω.length :: st)) : xm_W E nL Q kc ks ω pc lv (.int n :: st) := by
  obtain ⟨p, l, e, R, s, m, args, below, meth, c, D, cA, A, ad0, n0⟩ := E
  obtain ⟨hx, hb, hml, hr, hown, hts, hK, hA, -, -, -, -, -, hR⟩ := C
  simp only [Bool.and_eq_true] at hb0
  obtain ⟨b1, b2, b3⟩ := hb0
  subst hR
  intro ad H locs ls a1 a2 hP hD hS hl
  refine va_newa hx hb (hts _ hw) hty hK hP hD hS hA (a0 := a0) ha hn hN hby hkc hks hd (fun q cB H1 hK1 hP1 hD1 hS1 => ?_)
  have eC : cB = cA t := by
    have k1 := (hK1.2 3 (cB, ty) (by simp [xm_t])).2
    have k2 := (hK.2 t (cA t, ty) (ht cA)).2
    cases ty with
    | object CN => exact absurd rfl (hpr CN)
    | _ => exact Option.some.inj ((show s.vm.findClass _ = some cB from k1).symm.trans (show s.vm.findClass _ = some (cA t) from k2))
  subst eC
  have ag : ∀ i, i < ω.length → ad i = (fun i => if i = ω.length then q else ad i) i := fun i hi => by simp [Nat.ne_of_lt hi]
  have e0 := xm_c_push (cA := cA) (ad := ad) (c := .inl (t, a0)) (q := q) b1
  have e2 := xm_l_eq ag b2
  have e3 := xm_s_eq ag b3
  have e4 : (Value.ref q :: st.map (xm_v ad)) = (Value.ref ω.length :: st).map (xm_v (fun i => if i = ω.length then q else ad i)) := by
    rw [List.map_cons, ← e3]; simp [xm_v]
  show W p l e R s m args below meth c H1 locs (kc + 1) (ks + N) Q (F0 m (pc + 2) ls (Value.ref q :: st.map (xm_v ad)))
  rw [e4]
  refine k _ H1 locs ls (fun i hi => ?_) (by rw [List.length_append]; omega) (by rw [e0]; exact hP1) (by rw [e0]; exact hD1) hS1 (by rw [← e2]; exact hl)
  exact (ag i (by omega)).symm.trans (a1 i hi)
theorem xs_objInit {index : Nat} {q : Nat} (C : xm_C E own cc nL rt tb nm rm) (hd : decode cc pc = .ok (.invokespecial index, 3)) (h1 : Cond.methodLink own index Lib.objectInit ∈ lw_g) (h2 : Cond.instanceMethod Lib.objectInit ∈ lw_g) (h3 : Cond.code Lib.objectInit ⟨#[0xb1]⟩ 1 none ∈ lw_g) (hfr : 1 ≤ rm.frames) (hlo : (st.map fun v => v.category).sum + 12 ≤ rm.locals) (k : xm_W E nL Q kc ks ω (pc + 3) lv st) : xm_W E nL Q kc ks ω pc lv (.ref q :: st) := by
  obtain ⟨p, l, e, R, s, m, args, below, meth, c, D, cA, A, ad0, n0⟩ := E
  obtain ⟨hx, hb, hml, hr, hown, hts, hK, hA, -, -, -, -, -, hR⟩ := C
  subst hR
  intro ad H locs ls a1 a2 hP hD hS hl
  refine W.objInit hx hb hown (hts _ h1) (hts _ h2) (hts _ h3) (g := F0 m pc ls (Value.ref (ad q) :: st.map (xm_v ad))) rfl (by rw [hml]; exact hl.1) (rest := st.map (xm_v ad)) rfl hd hfr ?_ (k ad H locs ls a1 a2 hP hD hS hl)
  rw [xm_cats]
  show 2 * 0 + _ + 12 ≤ _
  omega
end XS
