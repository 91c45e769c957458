/-! The catching of what a callee threw, by the first or the second row of the method's own table; the row's class may be linked here for the first time. -/
section TC
/-- what the search for a handler gives, and the tables that it leaves -/
def tc_F (e : Env) (s : State) (f : JFrame) (a : Addr) (h : Handler) (vm' : Vm) : Prop :=
  ∀ (Q : Handler → Pre) (E : CtlPost) (d : Bool) (acts : List Action), wp (findHandler f a) Q E e d acts s ↔ Q h d acts (s.setVm vm')
theorem tc_hit {Q : Handler → Pre} {E : CtlPost} {e : Env} {d : Bool} {acts : List Action} {s : State} {f : JFrame} {a : Addr} {x : ExceptionTableEntry} {t : List ExceptionTableEntry} {k : ClassId} {cell : Cell} (hx : covers x f.pc = true) (h0 : x.catchType ≠ 0)
    (hl : s.vm.ClassLinks e.platform f.method.cls x.catchType k) (hcell : s.heap[a]? = some cell) (hobj : ∀ k, cell.vm ≠ .statics k)
    (hk : ∃ k, s.vm.classes[cell.cls]? = some k) (hc : ∃ kk, s.vm.classes[k]? = some kk) (hfit : s.vm.assignable cell.cls k = true) :
    wp (findHandler.go f a (x :: t)) Q E e d acts s ↔ Q (.found x.handlerPc) d acts (s.setVm (s.vm.noted f.method.cls x.catchType (.cls k))) := by
  simp only [covers] at hx
  obtain ⟨ha, ht⟩ := (resolveClass_links e.toSetting hl).op (op := VmOp.resolveClass f.method.cls x.catchType) rfl
  have hal : s.vm.Alike (s.vm.noted f.method.cls x.catchType (.cls k)) := (Vm.Alike.refl s.vm).noted _ _ _
  obtain ⟨k1, hk1⟩ := hk
  obtain ⟨k2, hk2⟩ := hc
  obtain ⟨k1', hk1', -⟩ := hal.2.2 _ _ hk1
  obtain ⟨k2', hk2', -⟩ := hal.2.2 _ _ hk2
  have hfit' : (s.vm.noted f.method.cls x.catchType (.cls k)).assignable cell.cls k = true := by rw [hal.assignable]; exact hfit
  simp [findHandler.go, hx, h0, ha, ht, hcell, hobj, hk1', hk2', hfit', VmOp.dirties, VmOp.acts]
theorem tc_miss {Q : Handler → Pre} {E : CtlPost} {e : Env} {d : Bool} {acts : List Action} {s : State} {f : JFrame} {a : Addr} {x : ExceptionTableEntry} {t : List ExceptionTableEntry} {k : ClassId} {cell : Cell} (hx : covers x f.pc = true) (h0 : x.catchType ≠ 0)
    (hl : s.vm.ClassLinks e.platform f.method.cls x.catchType k) (hcell : s.heap[a]? = some cell) (hobj : ∀ k, cell.vm ≠ .statics k)
    (hk : ∃ k, s.vm.classes[cell.cls]? = some k) (hc : ∃ kk, s.vm.classes[k]? = some kk) (hno : s.vm.assignable cell.cls k = false) :
    wp (findHandler.go f a (x :: t)) Q E e d acts s ↔ wp (findHandler.go f a t) Q E e d acts (s.setVm (s.vm.noted f.method.cls x.catchType (.cls k))) := by
  simp only [covers] at hx
  obtain ⟨ha, ht⟩ := (resolveClass_links e.toSetting hl).op (op := VmOp.resolveClass f.method.cls x.catchType) rfl
  have hal : s.vm.Alike (s.vm.noted f.method.cls x.catchType (.cls k)) := (Vm.Alike.refl s.vm).noted _ _ _
  obtain ⟨k1, hk1⟩ := hk
  obtain ⟨k2, hk2⟩ := hc
  obtain ⟨k1', hk1', -⟩ := hal.2.2 _ _ hk1
  obtain ⟨k2', hk2', -⟩ := hal.2.2 _ _ hk2
  have hno' : (s.vm.noted f.method.cls x.catchType (.cls k)).assignable cell.cls k = false := by rw [hal.assignable]; exact hno
  simp [findHandler.go, hx, h0, ha, ht, hcell, hobj, hk1', hk2', hno', VmOp.dirties, VmOp.acts]
theorem tc_step {e : Env} {s : State} {a : Addr} {f : JFrame} {r : List Frame} {pc : Nat} {vm' : Vm} (hfind : tc_F e s f a (.found pc) vm') :
    (stepThrowing e s a (.java f :: r)).Is ((s.setVm vm').setFrames (.java { f with pc := pc, stack := [.ref a] } :: r)) [] := by
  simp only [stepThrowing, searchFrame, vmDo]
  generalize hr : Sem.go _ e false [] s = res
  obtain ⟨as, rfl, ha⟩ := Sem.eq_ok_of hr (a := Handler.found pc) (s' := s.setVm vm') (acts' := []) (by simp [hfind _ _ _ _])
  exact ⟨rfl, ha⟩
theorem tc_frames (u : State) (vm' : Vm) (F G : List Frame) : ((u.setFrames F).setVm vm').setFrames G = (u.setVm vm').setFrames G := by
  have h1 : (u.setFrames F).setVm vm' = (u.setVm vm').setFrames F := rfl
  rw [h1, State.setFrames_setFrames]
theorem tc_steps {tb : Tables} {e : Env} {s target : State} {g : JFrame} {c : Code} {below : List Frame} {a : Addr} (h : At s g.method c below) {pc : Nat} {vm' : Vm}
    (hfind : tc_F e ((s.setTop g).pushFrame (.throwing a)) g a (.found pc) vm') (hrest : Steps tb e below ((s.setVm vm').setTop { g with pc := pc, stack := [.ref a] }) target) :
    Steps tb e below ((s.setTop g).pushFrame (.throwing a)) target := by
  obtain ⟨hgo, hw⟩ := h.throwing a
  refine Steps.head hgo hw ?_
  rw [stepThread_throwing (frames_entered h.top _), (tc_step (s := (s.setTop g).pushFrame (.throwing a)) hfind).1]
  obtain ⟨g₀, hg⟩ := Option.isSome_iff_exists.mp h.top
  obtain ⟨r, hr⟩ := State.topJava?_eq_some.mp hg
  have hr' : (s.setVm vm').frames = .java g₀ :: r := hr
  rw [State.setTop_of_frames _ hr'] at hrest
  rw [hr, List.tail_cons, State.pushFrame, tc_frames, State.setTop_of_frames _ hr, tc_frames]
  exact hrest
variable {p : Program} {l : Launch} {e : Env} {R : Room} {s : State} {m : MethodId} {args : Array Value} {below : List Frame} {meth : Method} {c : Code} {H : Heap} {locs : List Loc} {cells slots : Nat} {Q : State → Prop}
variable {pc : Nat} {ls : Array Slot} {rest st0 : List Value} {E own name name1 : String}
theorem tc_catch (hr : tx_Run p l e R s m args below meth c H locs cells slots (F0 m pc ls st0) rest E) (hown : s.vm.findClass own = some m.cls) (x : ExceptionTableEntry) (suf : List ExceptionTableEntry) (htab : c.exceptionTable.toList = x :: suf)
    (hx : covers x pc = true) (h0 : x.catchType ≠ 0) (hlink : (Cond.classLink own x.catchType name).before args s = true) (hcast : (Cond.castable E name).before args s = true)
    (k : ∀ (q : Nat) (H1 : Heap), H.size ≤ q → H.size ≤ H1.size → (∀ j : Nat, j < H.size → H1[j]? = H[j]?) → W p l e R s m args below meth c H1 locs (cells + 1) (slots + 6) Q (F0 m x.handlerPc ls [.ref q])) :
    W p l e R s m args below meth c H locs cells slots Q (F0 m pc ls st0) := by
  intro T hT X
  obtain ⟨q, ce, B, XB, h1, h2, h3, h4, h5, h6, st⟩ := hr T hT X
  have hpl : e.platform.magicAccessors = ({} : Platform).magicAccessors := by rw [XB.admits.platform]
  obtain ⟨c3, c4, hc3, hc4, hasg⟩ := Cond.castable_spec hcast
  cases Option.some.inj (hc3.symm.trans h4)
  obtain ⟨c5, hc5, hcl⟩ := Cond.classLink_spec hown hlink e.platform hpl
  cases Option.some.inj (hc4.symm.trans hc5)
  obtain ⟨dk, _, _, kt, hd, _, _, _, _, hkt, _, hopen⟩ := hcl.here
  have hcl₀ := XB.warmed.classLinks hcl
  have hW' : s.WarmedH (B.vm.noted m.cls x.catchType (.cls c4)) := XB.warmed.noted hd hopen (State.rightAt_cls hcl)
  have hal := XB.warmed.alike
  obtain ⟨kt', hkt', -⟩ := hal.2.2 _ _ hkt
  have hfit' : B.vm.assignable ce.cls c4 = true := by rw [hal.assignable]; exact hasg
  have hfind : tc_F e ((B.setTop (F0 m pc ls rest)).pushFrame (.throwing q)) (F0 m pc ls rest) q (.found x.handlerPc) (B.vm.noted m.cls x.catchType (.cls c4)) := by
    intro Q9 E9 d9 acts9
    rw [W.findHandler_eq (meth := meth) (code := c) (by rw [Stand.throwing_vm]; exact XB.method') XB.code, htab]
    have hvm : ((B.setTop (F0 m pc ls rest)).pushFrame (.throwing q)).vm = B.vm := Stand.throwing_vm _ _ _
    have hhp : ((B.setTop (F0 m pc ls rest)).pushFrame (.throwing q)).heap = B.heap := Stand.throwing_heap _ _ _
    have key := tc_hit (Q := Q9) (E := E9) (e := e) (d := d9) (acts := acts9) (s := (B.setTop (F0 m pc ls rest)).pushFrame (.throwing q)) (f := F0 m pc ls rest) (a := q) (t := suf) (k := c4) (cell := ce) hx h0 (by rw [hvm]; exact hcl₀) (by rw [hhp]; exact h2) (by rw [h3]; exact fun k h => by cases h)
      (by rw [hvm]; exact Vm.classAt_of_assignable hfit' ⟨kt', hkt'⟩) (by rw [hvm]; exact ⟨kt', hkt'⟩) (by rw [hvm]; exact hfit')
    rw [key, hvm]
  obtain ⟨t, a1, b1⟩ := k q B.heap h1 h5 h6 (B.setVm (B.vm.noted m.cls x.catchType (.cls c4))) rfl (XB.noted hW')
  exact ⟨t, st.trans (tc_steps XB.here hfind a1), b1⟩
theorem tc_catch2 (hr : tx_Run p l e R s m args below meth c H locs cells slots (F0 m pc ls st0) rest E) (hown : s.vm.findClass own = some m.cls) (x1 x : ExceptionTableEntry) (suf : List ExceptionTableEntry) (htab : c.exceptionTable.toList = x1 :: x :: suf)
    (hx1 : covers x1 pc = true) (h01 : x1.catchType ≠ 0) (hlink1 : (Cond.classLink own x1.catchType name1).before args s = true) (hno : va_Nc E name1 s)
    (hx : covers x pc = true) (h0 : x.catchType ≠ 0) (hlink : (Cond.classLink own x.catchType name).before args s = true) (hcast : (Cond.castable E name).before args s = true)
    (k : ∀ (q : Nat) (H1 : Heap), H.size ≤ q → H.size ≤ H1.size → (∀ j : Nat, j < H.size → H1[j]? = H[j]?) → W p l e R s m args below meth c H1 locs (cells + 1) (slots + 6) Q (F0 m x.handlerPc ls [.ref q])) :
    W p l e R s m args below meth c H locs cells slots Q (F0 m pc ls st0) := by
  intro T hT X
  obtain ⟨q, ce, B, XB, h1, h2, h3, h4, h5, h6, st⟩ := hr T hT X
  have hpl : e.platform.magicAccessors = ({} : Platform).magicAccessors := by rw [XB.admits.platform]
  obtain ⟨c3, c4, hc3, hc4, hasg⟩ := Cond.castable_spec hcast
  cases Option.some.inj (hc3.symm.trans h4)
  obtain ⟨c5, hc5, hcl⟩ := Cond.classLink_spec hown hlink e.platform hpl
  cases Option.some.inj (hc4.symm.trans hc5)
  obtain ⟨c6, hc6, hcl1⟩ := Cond.classLink_spec hown hlink1 e.platform hpl
  obtain ⟨a8, b8, g1, g2, g3⟩ := hno
  cases Option.some.inj (g1.symm.trans h4)
  cases Option.some.inj (g2.symm.trans hc6)
  obtain ⟨dk, _, _, kt, hd, _, _, _, _, hkt, _, hopen⟩ := hcl.here
  obtain ⟨dk1, _, _, kt1, hd1, _, _, _, _, hkt1, _, hopen1⟩ := hcl1.here
  have hW1 : s.WarmedH (B.vm.noted m.cls x1.catchType (.cls c6)) := XB.warmed.noted hd1 hopen1 (State.rightAt_cls hcl1)
  have hW' : s.WarmedH ((B.vm.noted m.cls x1.catchType (.cls c6)).noted m.cls x.catchType (.cls c4)) := hW1.noted hd hopen (State.rightAt_cls hcl)
  have hcl₁ := XB.warmed.classLinks hcl1
  have hcl₀ := hW1.classLinks hcl
  have hal := XB.warmed.alike
  have hal1 := hW1.alike
  obtain ⟨kt1', hkt1', -⟩ := hal.2.2 _ _ hkt1
  obtain ⟨kt', hkt', -⟩ := hal1.2.2 _ _ hkt
  have hno' : B.vm.assignable ce.cls c6 = false := by rw [hal.assignable]; exact g3
  have hfit' : (B.vm.noted m.cls x1.catchType (.cls c6)).assignable ce.cls c4 = true := by rw [hal1.assignable]; exact hasg
  obtain ⟨ke, hke⟩ : ∃ ke, s.vm.classes[ce.cls]? = some ke := by obtain ⟨k9, h9, -⟩ := Vm.findClass_spec h4; exact ⟨k9, h9⟩
  obtain ⟨ke', hke', -⟩ := hal.2.2 _ _ hke
  have hfind : tc_F e ((B.setTop (F0 m pc ls rest)).pushFrame (.throwing q)) (F0 m pc ls rest) q (.found x.handlerPc) ((B.vm.noted m.cls x1.catchType (.cls c6)).noted m.cls x.catchType (.cls c4)) := by
    intro Q9 E9 d9 acts9
    rw [W.findHandler_eq (meth := meth) (code := c) (by rw [Stand.throwing_vm]; exact XB.method') XB.code, htab]
    have hvm : ((B.setTop (F0 m pc ls rest)).pushFrame (.throwing q)).vm = B.vm := Stand.throwing_vm _ _ _
    have hhp : ((B.setTop (F0 m pc ls rest)).pushFrame (.throwing q)).heap = B.heap := Stand.throwing_heap _ _ _
    have key1 := tc_miss (Q := Q9) (E := E9) (e := e) (d := d9) (acts := acts9) (s := (B.setTop (F0 m pc ls rest)).pushFrame (.throwing q)) (f := F0 m pc ls rest) (a := q) (t := x :: suf) (k := c6) (cell := ce) hx1 h01 (by rw [hvm]; exact hcl₁) (by rw [hhp]; exact h2) (by rw [h3]; exact fun k h => by cases h)
      (by rw [hvm]; exact ⟨ke', hke'⟩) (by rw [hvm]; exact ⟨kt1', hkt1'⟩) (by rw [hvm]; exact hno')
    rw [key1, hvm]
    have key := tc_hit (Q := Q9) (E := E9) (e := e) (d := d9) (acts := acts9) (s := ((B.setTop (F0 m pc ls rest)).pushFrame (.throwing q)).setVm (B.vm.noted m.cls x1.catchType (.cls c6))) (f := F0 m pc ls rest) (a := q) (t := suf) (k := c4) (cell := ce) hx h0 hcl₀ (by show ((B.setTop (F0 m pc ls rest)).pushFrame (.throwing q)).heap[q]? = _; rw [hhp]; exact h2) (by rw [h3]; exact fun k h => by cases h)
      (Vm.classAt_of_assignable hfit' ⟨kt', hkt'⟩) ⟨kt', hkt'⟩ hfit'
    rw [key]
    rfl
  obtain ⟨t, a1, b1⟩ := k q B.heap h1 h5 h6 (B.setVm ((B.vm.noted m.cls x1.catchType (.cls c6)).noted m.cls x.catchType (.cls c4))) rfl (XB.noted hW')
  exact ⟨t, st.trans (tc_steps XB.here hfind a1), b1⟩
end TC
