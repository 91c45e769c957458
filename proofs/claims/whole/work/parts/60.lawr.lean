/-! Methods that catch: their contracts (CK), calls inside them, calls of them; the law's script; the law's end. -/
section LWR
variable {p : Program} {l : Launch} {e : Env} {R : Room} {s : State} {m : MethodId} {args : Array Value} {below : List Frame} {meth : Method} {c : Code} {cells slots : Nat} {Q : State → Prop}
variable {cc : ByteArray} {nL pc : Nat} {ret : Option FieldType} {Ts : List Cond} {own : String} {D : va_G} {cl : List vw_C} {cI cZ cJ : ClassId} {SL : List zS} {A : Nat → Prop} {ro : Prop} {lv : List (Nat × Value)} {st : List Value} {ws : va_W}
theorem tt_roF (k : TT p l e R s m args below meth c D cl A nL False Q pc lv st ws cells slots) : TT p l e R s m args below meth c D cl A nL True Q pc lv st ws cells slots := fun H locs ls _ hP hD hS hl => k H locs ls (fun h => h.elim) hP hD hS hl
def SRx (SO : String) (SS : List (Nat × String)) (U : State) : Prop := SQx SO SS U ∧ va_Nc ISE IAE U
theorem SRx.go {SO : String} {SS : List (Nat × String)} {u U : State} (h : SRx SO SS u) (hW : u.WarmedH U.vm) (hq : ∀ a : Nat, a < u.heap.size → U.heap[a]? = u.heap[a]?) : SRx SO SS U := ⟨h.1.go hW hq, h.2.moved hW.alike⟩
theorem SRx.same {SO : String} {SS : List (Nat × String)} {u U : State} (h : SRx SO SS u) (hv : U.vm = u.vm) (hq : U.heap = u.heap) : SRx SO SS U := ⟨h.1.same hv hq, h.2.moved (by rw [hv]; exact Vm.Alike.refl u.vm)⟩
def CK (l : Launch) (D : va_G) (cl : List vw_C) (cI cZ cJ : ClassId) (SL : List zS) (SO : String) (SS : List (Nat × String)) (y : MethodName) (wm : List Cond) (rm : Room) (av : List Value) (w0 : va_W) (post : Int → va_W → Prop) : Prop := ∀ sz : Nat, Met l y wm rm (fun a U => PW D cl cI cZ cJ SL av w0 sz a U ∧ SRx SO SS U) (QI D cl cI cZ cJ w0 post sz) rm.cells rm.slots (va_A w0 sz)
theorem pk_blind (D : va_G) (cl : List vw_C) (cI cZ cJ : ClassId) (SL : List zS) (SO : String) (SS : List (Nat × String)) (av : List Value) (w0 : va_W) (sz : Nat) : FrameBlind (fun a U => PW D cl cI cZ cJ SL av w0 sz a U ∧ SRx SO SS U) :=
  fun a U g mk q => ⟨pw_blind D cl cI cZ cJ SL av w0 sz a U g mk q.1, q.2.same rfl rfl⟩
def hTab (c : Code) : List (Nat × Nat × Nat × Nat) := c.exceptionTable.toList.map (fun h => (h.startPc, h.endPc, h.handlerPc, h.catchType))
theorem tk_start {y : MethodName} {wm wm' : List Cond} {rm : Room} {av : List Value} {w0 : va_W} {post : Int → va_W → Prop} {SO : String} {SS : List (Nat × String)} {hh : List (Nat × Nat × Nat × Nat)} (hy : plainName y.cls = true) (hw : wm = Cond.codeWith y cc nL ret hh :: wm') (hsl : (lg_sl av).length ≤ nL)
    (body : ∀ (p : Program) (e : Env) (s : State) (m : MethodId) (args : Array Value) (below : List Frame) (meth : Method) (c : Code), FX p s m args meth c cc nL ret wm y.cls D cl cI cZ cJ SL (va_A w0 s.heap.size) → hTab c = hh → SRx SO SS s → TT p l e rm s m args below meth c D cl (va_A w0 s.heap.size) nL True (MQ below (QI D cl cI cZ cJ w0 post s.heap.size) args s rm.cells rm.slots (va_A w0 s.heap.size)) 0 (lv_args 0 av) [] w0 0 0) : CK l D cl cI cZ cJ SL SO SS y wm rm av w0 post := by
  intro sz
  refine va_MetW (cc := cc) (maxL := nL) (ret := ret) (hh := hh) hy hw ?_
  intro p e s m args below meth c s₁ B hml hv
  obtain ⟨⟨rfl, rfl, hP, hK, hD, hSF⟩, hsp⟩ := hv
  have hown := findClass_of_methodNamed B.named
  have hts : ∀ w ∈ wm, w.before av.toArray s = true := atoms_spec B.pre
  have hl := lv_entry av (n := nL) hsl
  have hex : hTab c = hh := by
    obtain ⟨m', meth', c', h0, h1, h2, -, -, h3, -⟩ := Cond.codeWith_spec (hts _ (by rw [hw]; exact List.mem_cons_self))
    cases B.named.symm.trans h0
    have h4 := B.method.symm.trans h1
    cases h4
    have h5 : meth.code = some c := (Stand.of_body B).code
    have h6 := h5.symm.trans h2
    cases h6
    exact h3
  rw [lg_entry_eq]
  exact body p e s m _ below meth c ⟨⟨B.exec, B.bytes, hml, hown, hts⟩, hK, fun q h => Or.inr h, hSF, B.returns, B.notSynchronized⟩ hex hsp s.heap [] _ (fun _ => ⟨rfl, rfl⟩) hP hD.self va_S.rf hl
theorem tk_1 {c : Code} {a b h k : Nat} {hh : List (Nat × Nat × Nat × Nat)} (ht : hTab c = (a, b, h, k) :: hh) : ∃ x suf, c.exceptionTable.toList = x :: suf ∧ x.startPc = a ∧ x.endPc = b ∧ x.handlerPc = h ∧ x.catchType = k ∧ suf.map (fun h => (h.startPc, h.endPc, h.handlerPc, h.catchType)) = hh := by
  rw [hTab] at ht
  cases e : c.exceptionTable.toList with
  | nil => rw [e] at ht; simp at ht
  | cons x suf =>
    rw [e] at ht
    simp only [List.map_cons, List.cons.injEq, Prod.mk.injEq] at ht
    exact ⟨x, suf, rfl, ht.1.1, ht.1.2.1, ht.1.2.2.1, ht.1.2.2.2, ht.2⟩
theorem tk_P {H : Heap} {H1 : Heap} (hP : va_P D cl ws H) (h3 : ∀ j : Nat, j < H.size → H1[j]? = H[j]?) : va_P D cl ws H1 := hP.kept (fun k q hk => h3 q.1 (hP k q hk).lt)
/-- a call that throws what the method catches -/
theorem tk_catchV (F : FX p s m args meth c cc nL ret Ts own D cl cI cZ cJ SL A) {SO : String} {SS : List (Nat × String)} (hsp : SRx SO SS s) {y : MethodName} {bytes : ByteArray} {maxL n ix : Nat} {rt : Option FieldType} {wm : List Cond} {rm : Room} {As : List Value} {w0 : va_W} {E : String} {st0 : List Value} (wr : va_W) {C : String} {T : u_T} {N ci b : Nat} {fs : List Value} (q0 : Nat) (he : w0[q0]? = some (b, .inr (ci, fs))) (hcl : cl[ci]? = some (C, T, N)) (hM : CY l D cl cI cZ cJ SL SO SS y wm rm (.ref b :: As) w0 E) (cw : CallW R s args own C ix y bytes maxL rt wm rm 1 6 n) (hw : ws = wr ++ w0) (hn : As.length = n) (hst : st0 = As.reverse ++ .ref b :: st) (hW : (st.map fun v => v.category).sum ≤ 8) (hf : 1 ≤ R.cells ∧ 6 ≤ R.slots) (hd : decode cc pc = .ok (.invokevirtual ix, 3))
    {a1 b1 h1 k1 : Nat} {hh : List (Nat × Nat × Nat × Nat)} (htab : hTab c = (a1, b1, h1, k1) :: hh) (hcov : a1 ≤ pc ∧ pc < b1) (h0 : k1 ≠ 0) (hlink : Cond.classLink own k1 E ∈ Ts) (hcast : .castable E E ∈ tnL) (k : ∀ q : Nat, TT p l e R s m args below meth c D cl A nL False Q h1 lv [.ref q] ws 1 6) :
    TT p l e R s m args below meth c D cl A nL True Q pc lv st0 ws 0 0 := by
  intro H locs ls hN hP hD hS hl
  subst hw
  obtain ⟨rfl, rfl⟩ := hN trivial
  obtain ⟨x, suf, e1, rfl, rfl, rfl, rfl, -⟩ := tk_1 htab
  refine tc_catch (tx_runV (As := As) (rest := st) F.1 (hM s.heap.size) cw ⟨py_blind D cl cI cZ cJ SL SO SS _ w0 s.heap.size, tj_recv F hP he hcl, fun U hU hW2 => ⟨tj_pre F hP hD hS hU hW2, hsp.1.go hW2 (fun a _ => by rw [hU])⟩⟩ rfl hn hl.1 hst (lv_room hW) hd (by simpa using hf)) F.1.2.2.2.1 x suf e1 (by simp [covers, hcov.1, hcov.2]) h0 (F.1.2.2.2.2 _ hlink) (hsp.1.2 _ hcast _) ?_
  intro q H1 g1 g2 g3
  exact k q H1 [] ls (fun h => h.elim) (tk_P hP g3) hD ⟨g2, fun j hj _ => g3 j hj, fun _ h => by cases h⟩ hl
theorem tk_catchV2 (F : FX p s m args meth c cc nL ret Ts own D cl cI cZ cJ SL A) {SO : String} {SS : List (Nat × String)} (hsp : SRx SO SS s) {y : MethodName} {bytes : ByteArray} {maxL n ix : Nat} {rt : Option FieldType} {wm : List Cond} {rm : Room} {As : List Value} {w0 : va_W} {st0 : List Value} (wr : va_W) {C : String} {T : u_T} {N ci b : Nat} {fs : List Value} (q0 : Nat) (he : w0[q0]? = some (b, .inr (ci, fs))) (hcl : cl[ci]? = some (C, T, N)) (hM : CY l D cl cI cZ cJ SL SO SS y wm rm (.ref b :: As) w0 ISE) (cw : CallW R s args own C ix y bytes maxL rt wm rm 1 6 n) (hw : ws = wr ++ w0) (hn : As.length = n) (hst : st0 = As.reverse ++ .ref b :: st) (hW : (st.map fun v => v.category).sum ≤ 8) (hf : 1 ≤ R.cells ∧ 6 ≤ R.slots) (hd : decode cc pc = .ok (.invokevirtual ix, 3))
    {a1 b1 h1 k1 a2 b2 h2 k2 : Nat} {hh : List (Nat × Nat × Nat × Nat)} (htab : hTab c = (a1, b1, h1, k1) :: (a2, b2, h2, k2) :: hh) (hcov : a1 ≤ pc ∧ pc < b1) (h0 : k1 ≠ 0) (hlink : Cond.classLink own k1 IAE ∈ Ts) (hcov2 : a2 ≤ pc ∧ pc < b2) (h02 : k2 ≠ 0) (hlink2 : Cond.classLink own k2 ISE ∈ Ts) (hcast : .castable ISE ISE ∈ tnL) (k : ∀ q : Nat, TT p l e R s m args below meth c D cl A nL False Q h2 lv [.ref q] ws 1 6) :
    TT p l e R s m args below meth c D cl A nL True Q pc lv st0 ws 0 0 := by
  intro H locs ls hN hP hD hS hl
  subst hw
  obtain ⟨rfl, rfl⟩ := hN trivial
  obtain ⟨x, suf, e1, rfl, rfl, rfl, rfl, e2⟩ := tk_1 htab
  cases suf with
  | nil => simp at e2
  | cons x2 suf =>
    simp only [List.map_cons, List.cons.injEq, Prod.mk.injEq] at e2
    obtain ⟨⟨rfl, rfl, rfl, rfl⟩, -⟩ := e2
    refine tc_catch2 (tx_runV (As := As) (rest := st) F.1 (hM s.heap.size) cw ⟨py_blind D cl cI cZ cJ SL SO SS _ w0 s.heap.size, tj_recv F hP he hcl, fun U hU hW2 => ⟨tj_pre F hP hD hS hU hW2, hsp.1.go hW2 (fun a _ => by rw [hU])⟩⟩ rfl hn hl.1 hst (lv_room hW) hd (by simpa using hf)) F.1.2.2.2.1 x x2 suf e1 (by simp [covers, hcov.1, hcov.2]) h0 (F.1.2.2.2.2 _ hlink) hsp.2 (by simp [covers, hcov2.1, hcov2.2]) h02 (F.1.2.2.2.2 _ hlink2) (hsp.1.2 _ hcast _) ?_
    intro q H1 g1 g2 g3
    exact k q H1 [] ls (fun h => h.elim) (tk_P hP g3) hD ⟨g2, fun j hj _ => g3 j hj, fun _ h => by cases h⟩ hl
/-- calls of static methods with a table of handlers -/
theorem tk_callS {T : State} {locs : List Loc} (X : Stand p l e R s m args below meth c T locs cells slots) (hexec : p.tables.exec = Jvm.exec) {index : Nat} {y : MethodName} {bytes : ByteArray} {maxL : Nat} {ret : Option FieldType} {hh : List (Nat × Nat × Nat × Nat)}
    (hown : s.vm.findClass own = some m.cls) (hlink : (Cond.methodLink own index y).before args s = true) (hstat : (Cond.static y).before args s = true) (hinit : (Cond.initialized y.cls).before args s = true)
    (hcode : (Cond.codeWith y bytes maxL ret hh).before args s = true) (hy : y.cls ≠ "java/lang/invoke/MethodHandle" ∧ y.cls ≠ "java/lang/invoke/VarHandle")
    {W : Nat} {Pre : Pt → Array Value → Prop} {Post : Pt → Array Value → Option Value → Pt → Prop} (hK : Back l R p e below s args y 3 W Pre Post)
    {g : JFrame} (hg : g.method = m) (hsize : g.locals.size = c.maxLocals) {argsL rest : List Value} (hlen : ∀ sig, parseMethodDescriptor y.desc = some sig → argsL.length = sig.parameters.length)
    (hstack : g.stack = argsL.reverse ++ rest) (hW : 2 * g.monitorRoom + (rest.map fun v => v.category).sum ≤ W) (hdg : decode c.code g.pc = .ok (.invokestatic index, 3))
    (hpre : ∀ vm₁, s.WarmedH vm₁ → Pre ⟨T.setVm vm₁, locs, cells, slots⟩ argsL.toArray) :
    ∃ (v : Option Value) (vm₁ : Vm) (B : Pt), s.WarmedH vm₁ ∧ Stand p l e R s m args below meth c B.U B.locs B.cells B.slots ∧ Post ⟨T.setVm vm₁, locs, cells, slots⟩ argsL.toArray v B ∧
      ∀ target, Steps p.tables e below (B.U.setTop { g with pc := g.pc + 3, stack := v.toList ++ rest }) target → Steps p.tables e below (T.setTop g) target := by
  obtain ⟨mk, methM, cM, hnamed, hmethM, -, -, -, -, -, -, hsigM⟩ := Cond.codeWith_spec hcode
  have hstatic : methM.isStatic = true := Cond.static_spec hnamed hmethM hstat
  obtain ⟨kP, hkP, -⟩ := className_of_methodNamed hnamed
  have hinitP : kP.init = .initialized := Cond.initialized_spec (findClass_of_methodNamed hnamed) hkP hinit
  obtain ⟨vm₁, X₁, hstep₁⟩ := X.invokestatic hexec hown hlink hnamed hmethM hstatic hkP hinitP hy (g := g) hg (argsL := argsL) (rest := rest) (hlen _ hsigM) hstack hdg
  obtain ⟨v, B, X', hpost, hsteps⟩ := hK m meth c ⟨T.setVm vm₁, locs, cells, slots⟩ { g with stack := rest } (.invokestatic index) mk argsL.toArray X₁ hg hsize hdg hW (X₁.named hnamed) (hpre vm₁ X₁.warmed)
  exact ⟨v, vm₁, B, X₁.warmed, X', hpost, fun target h => hstep₁ _ fun acts => by rw [doInvoke_state]; exact hsteps.trans h⟩
abbrev CallK (R : Room) (s : State) (args : Array Value) (own : String) (index : Nat) (y : MethodName) (bytes : ByteArray) (maxL : Nat) (ret : Option FieldType) (hh : List (Nat × Nat × Nat × Nat)) (ws : List Cond) (rm : Room) (n : Nat) : Prop :=
  rm.frames + 1 ≤ R.frames ∧ 8 + (maxL + 11) + rm.locals ≤ R.locals ∧ (∀ w ∈ ws, ∀ (a' : Array Value) (U : State), s.WarmedH U.vm → w.before a' U = true) ∧ Cond.codeWith y bytes maxL ret hh ∈ ws ∧
  (Cond.codeWith y bytes maxL ret hh).before args s = true ∧ (Cond.initialized y.cls).before args s = true ∧ (y.cls ≠ "java/lang/invoke/MethodHandle" ∧ y.cls ≠ "java/lang/invoke/VarHandle") ∧ (∀ sig, parseMethodDescriptor y.desc = some sig → n = sig.parameters.length) ∧ (Cond.methodLink own index y).before args s = true ∧ (Cond.static y).before args s = true
theorem callK_of {index : Nat} {y : MethodName} {bytes : ByteArray} {maxL : Nat} {ret : Option FieldType} {hh : List (Nat × Nat × Nat × Nat)} {wm wm' : List Cond} {rm : Room} (n : Nat) (ht : ∀ w ∈ Ts, w.before args s = true) (hT : GoodIn Ts (va_wsS own index y wm)) (hw : wm = Cond.codeWith y bytes maxL ret hh :: wm')
    (hd : y.cls ≠ "java/lang/invoke/MethodHandle" ∧ y.cls ≠ "java/lang/invoke/VarHandle" ∧ (parseMethodDescriptor y.desc).map (fun d => d.parameters.length) = some n) (hR : rm.frames + 1 ≤ R.frames ∧ 8 + (maxL + 11) + rm.locals ≤ R.locals) :
    CallK R s args own index y bytes maxL ret hh wm rm n := by
  have ok : ∀ w ∈ va_wsS own index y wm, w.before args s = true := fun w h => ht w (hT w h).1
  have hG : GoodIn Ts wm := fun w h => hT w (by unfold va_wsS; exact List.mem_append_right _ h)
  have hc : Cond.codeWith y bytes maxL ret hh ∈ wm := by rw [hw]; exact List.mem_cons_self
  refine ⟨hR.1, hR.2, pay_in ht hG, hc, ht _ (hG _ hc).1, ok _ (by simp [va_wsS]), ⟨hd.1, hd.2.1⟩, fun sig h => ?_, ok _ (by simp [va_wsS]), ok _ (by simp [va_wsS])⟩
  have h2 := hd.2.2
  rw [h] at h2
  exact (Option.some.inj h2).symm
theorem tk_runS {H : Heap} {locs : List Loc} {y : MethodName} {bytes : ByteArray} {maxL n index : Nat} {rt : Option FieldType} {hh : List (Nat × Nat × Nat × Nat)} {wm : List Cond} {rm : Room} {Pc : Array Value → State → Prop} {Qc : Array Value → State → Outcome → State → Prop} {free : Addr → Prop} {As rest : List Value} {g : JFrame}
    (S : CallFix p m c cc nL s args Ts own) (hM : Met l y wm rm Pc Qc rm.cells rm.slots free) (cw : CallK R s args own index y bytes maxL rt hh wm rm n) (hp : PreS s H Pc As)
    (hg : g.method = m) (hn : As.length = n) (hsize : g.locals.size = nL) (hstack : g.stack = As.reverse ++ rest) (hW : 2 * g.monitorRoom + (rest.map fun v => v.category).sum ≤ 8) (hdg : decode cc g.pc = .ok (.invokestatic index, 3)) (hf : cells + rm.cells ≤ R.cells ∧ slots + rm.slots ≤ R.slots) :
    va_Run p l e R s m args below meth c H locs cells slots rm.cells rm.slots g rest (Qc As.toArray) (free) := by
  obtain ⟨hfr, hlo, hws, hcw, hcode, hini, hy, hlen, hl, hstt⟩ := cw
  have hK : Back l R p e below s args y 3 8 (PreOf R rm.cells rm.slots Pc) (PostOf Qc rm.cells rm.slots free) := va_backW (hh := hh) (bytes := bytes) (maxL := maxL) (ret := rt) hM hp.1 rfl rfl hfr hlo hws hcw (fun a' U hW => word_at hW (Or.inl (by first | rfl | simp [Cond.onTables, Cond.keeps, Cond.steady])) hini)
  obtain ⟨hx, hb, hml, ho, -⟩ := S
  intro T hT X
  obtain ⟨v, vm₁, ⟨U', l2, c2, s2⟩, hW₁, X', ⟨g', mk, t, L, e1, e2, hq, h1, hL, h2, h3⟩, st⟩ := tk_callS X hx (hh := hh) (bytes := bytes) (maxL := maxL) (ret := rt) ho hl hstt hini hcode hy hK hg (hsize.trans hml.symm) (argsL := As) (rest := rest) (fun sig h => hn.trans (hlen sig h)) hstack hW (by rw [hb]; exact hdg)
    (fun vm₁ hW₁ => ⟨hf.1, hf.2, hp.2 (T.setVm vm₁) hT hW₁⟩)
  dsimp only [Pt.U, Pt.locs, Pt.cells, Pt.slots] at X' e1 e2 h1 h2 h3 st
  subst h1; subst h2; subst h3
  exact ⟨v, (T.setVm vm₁).calling g' mk As.toArray, t, U', L, hT, X', hL, e1, e2, hq, st⟩
theorem tk_call (F : FX p s m args meth c cc nL ret Ts own D cl cI cZ cJ SL A) (hro : ¬ ro) {SO : String} {SS : List (Nat × String)} (hsp : SRx SO SS s) (hAo : ∀ a, a < s.heap.size → ¬ A a) {y : MethodName} {bytes : ByteArray} {maxL n ix : Nat} {rt : Option FieldType} {hh : List (Nat × Nat × Nat × Nat)} {wm : List Cond} {rm : Room} {As : List Value} {w0 : va_W} {post : Int → va_W → Prop} {st0 : List Value} (wr : va_W) (hM : CK l D cl cI cZ cJ SL SO SS y wm rm As w0 post) (cw : CallK R s args own ix y bytes maxL rt hh wm rm n) (hw : ws = wr ++ w0) (hn : As.length = n) (hst : st0 = As.reverse ++ st) (hW : (st.map fun v => v.category).sum ≤ 8) (hf : cells + rm.cells ≤ R.cells ∧ slots + rm.slots ≤ R.slots) (hd : decode cc pc = .ok (.invokestatic ix, 3)) (k : ∀ (z : Int) (w1 : va_W), post z w1 → TT p l e R s m args below meth c D cl A nL ro Q (pc + 3) lv (.int (iZ z) :: st) (wr ++ w1) (cells + rm.cells) (slots + rm.slots)) : TT p l e R s m args below meth c D cl A nL ro Q pc lv st0 ws cells slots := by
  intro H locs ls hN hP hD hS hl
  subst hw
  have hF := va_free hD hS F.2.2.1 _ (tj_C wr w0)
  refine va_calli (tk_runS (As := As) (rest := st) F.1 (hM H.size) cw ⟨pk_blind D cl cI cZ cJ SL SO SS _ w0 H.size, fun U hU hW => ⟨tj_pre F hP hD hS hU hW, hsp.go hW (fun a ha => by rw [hU]; exact hS.2.1 a ha (hAo a ha))⟩⟩ rfl hn hl.1 hst (lv_room hW) hd hf) hS (fun q _ h => hF q h) hF (fun r w1 t H1 locs1 ht hvm hp hB hz1 hk1 hS1 => ?_)
  obtain ⟨z, rfl, hp⟩ := hp
  obtain ⟨hP1, hK1, hD1⟩ := hB
  rw [ht] at hP1
  obtain ⟨hP2, hD2⟩ := va_join hP hD _ _ (tj_C wr w0) (tj_R wr w0) (tj_nd _ List.nodup_range) (tj_dis wr w0) hk1 hF hP1 hD1
  exact k z w1 hp H1 locs1 ls (fun h => absurd h hro) hP2 hD2 hS1 hl
/-- the script -/
def scv (xs : Nat → Int32) (z : Int) : Int := (xs z.toNat).toInt
theorem scv_ir (xs : Nat → Int32) (z : Int) : ir (scv xs z) := iZ_ir _
theorem tt_sld (F : FX p s m args meth c cc nL ret Ts own D cl cI cZ cJ SL A) {b L : Nat} {xs : Nat → Int32} (hX : va_X b L xs s s.heap) (hbl : b < s.heap.size) (hbA : ¬ A b) {z : Int} (h0 : 0 ≤ z) (h1 : z < L) (hL : L < 2147483648) (hd : decode cc pc = .ok (.iaload, 1)) (k : TT p l e R s m args below meth c D cl A nL ro Q (pc + 1) lv (.int (iZ (scv xs z)) :: st) ws cells slots) : TT p l e R s m args below meth c D cl A nL ro Q pc lv (.int (iZ z) :: .ref b :: st) ws cells slots := by
  intro H locs ls hN hP hD hS hl
  have e0 : vp_in (iZ z) L := by
    have := iZ_in (n := (L : Int)) h0 h1 (by omega)
    simpa using this
  refine va_sld F.1.1 F.1.2.1 hX hbl hbA hS e0 hd ?_
  have e1 : Value.int (xs (iZ z).toNatClampNeg) = Value.int (iZ (scv xs z)) := by rw [iZ_cl h0 (by omega), scv, iZ_of]
  rw [e1]
  exact k H locs ls hN hP hD hS hl
theorem tt_slen (F : FX p s m args meth c cc nL ret Ts own D cl cI cZ cJ SL A) {b L : Nat} {xs : Nat → Int32} (hX : va_X b L xs s s.heap) (hbl : b < s.heap.size) (hbA : ¬ A b) (hd : decode cc pc = .ok (.arraylength, 1)) (k : TT p l e R s m args below meth c D cl A nL ro Q (pc + 1) lv (.int (iZ (L : Int)) :: st) ws cells slots) : TT p l e R s m args below meth c D cl A nL ro Q pc lv (.ref b :: st) ws cells slots := by
  intro H locs ls hN hP hD hS hl
  refine va_slen F.1.1 F.1.2.1 hX hbl hbA hS hd ?_
  have e1 : Value.int (Int32.ofNat L) = Value.int (iZ (L : Int)) := by rw [iZ_nat]; rfl
  rw [e1]
  exact k H locs ls hN hP hD hS hl
/-- the law's reading of its script -/
def CS (l : Launch) (D : va_G) (cl : List vw_C) (cI cZ cJ : ClassId) (SL : List zS) (y : MethodName) (wm : List Cond) (rm : Room) (av : List Value) (b L : Nat) (xs : Nat → Int32) (post : Option Value → Prop) : Prop := ∀ sz : Nat, Met l y wm rm (fun a U => PW D cl cI cZ cJ SL av [] sz a U ∧ va_X b L xs U U.heap) (QO post) 0 0 (fun _ => False)
theorem ps_blind (D : va_G) (cl : List vw_C) (cI cZ cJ : ClassId) (SL : List zS) (av : List Value) (sz b L : Nat) (xs : Nat → Int32) : FrameBlind (fun a U => PW D cl cI cZ cJ SL av [] sz a U ∧ va_X b L xs U U.heap) :=
  fun a U g mk q => ⟨pw_blind D cl cI cZ cJ SL av [] sz a U g mk q.1, va_X.moved (u := U) (U := U.calling g mk a) (Vm.Alike.refl U.vm) q.2⟩
theorem tk_startS {y : MethodName} {wm wm' : List Cond} {rm : Room} {av : List Value} {b L : Nat} {xs : Nat → Int32} {post : Option Value → Prop} (hy : plainName y.cls = true) (hw : wm = Cond.code y cc nL ret :: wm') (hsl : (lg_sl av).length ≤ nL)
    (body : ∀ (p : Program) (e : Env) (s : State) (m : MethodId) (args : Array Value) (below : List Frame) (meth : Method) (c : Code), FX p s m args meth c cc nL ret wm y.cls D cl cI cZ cJ SL (va_A [] s.heap.size) → va_X b L xs s s.heap → TT p l e rm s m args below meth c D cl (va_A [] s.heap.size) nL True (MQ below (QO post) args s 0 0 (fun _ => False)) 0 (lv_args 0 av) [] [] 0 0) : CS l D cl cI cZ cJ SL y wm rm av b L xs post := by
  intro sz
  refine Met.ofW (cc := cc) (maxL := nL) (ret := ret) hy hw ?_
  intro p e s m args below meth c s₁ B hml hv
  obtain ⟨⟨rfl, rfl, hP, hK, hD, hSF⟩, hX⟩ := hv
  have hown := findClass_of_methodNamed B.named
  have hts : ∀ w ∈ wm, w.before av.toArray s = true := atoms_spec B.pre
  have hl := lv_entry av (n := nL) hsl
  rw [lg_entry_eq]
  exact body p e s m _ below meth c ⟨⟨B.exec, B.bytes, hml, hown, hts⟩, hK, fun q h => Or.inr h, hSF, B.returns, B.notSynchronized⟩ hX s.heap [] _ (fun _ => ⟨rfl, rfl⟩) hP hD.self va_S.rf hl
theorem tk_cS (F : FX p s m args meth c cc nL ret Ts own D cl cI cZ cJ SL A) {y : MethodName} {bytes : ByteArray} {maxL n ix : Nat} {rt : Option FieldType} {wm : List Cond} {rm : Room} {As : List Value} {b L : Nat} {xs : Nat → Int32} {post : Option Value → Prop} {st0 : List Value} (hX : va_X b L xs s s.heap) (hbl : b < s.heap.size) (hbA : ¬ A b) (hM : CS l D cl cI cZ cJ SL y wm rm As b L xs post) (cw : (CallB R s args own ix y bytes maxL rt wm rm 0 0 n ∧ (Cond.static y).before args s = true)) (hn : As.length = n) (hst : st0 = As.reverse ++ st) (hW : (st.map fun v => v.category).sum ≤ 8) (hf : cells ≤ R.cells ∧ slots ≤ R.slots) (hd : decode cc pc = .ok (.invokestatic ix, 3)) (k : ∀ v : Option Value, post v → TT p l e R s m args below meth c D cl A nL ro Q (pc + 3) lv (v.toList ++ st) ws cells slots) : TT p l e R s m args below meth c D cl A nL ro Q pc lv st0 ws cells slots := by
  intro H locs ls hN hP hD hS hl
  have hP0 : va_P D cl (ws ++ []) H := by rw [List.append_nil]; exact hP
  have hD0 : va_D A (ws ++ []) := by rw [List.append_nil]; exact hD
  have hr : va_Run p l e R s m args below meth c H locs cells slots 0 0 (F0 m pc ls st0) st (QO post (As).toArray) (fun _ => False) := va_runS (As := As) (rest := st) F.1 (hM H.size) cw ⟨ps_blind D cl cI cZ cJ SL _ H.size b L xs, fun U hU hW => ⟨tj_pre F hP0 hD0 hS hU hW, by rw [hU]; exact (hX.kept (hS.2.1 b hbl hbA)).moved hW.alike⟩⟩ rfl hn hl.1 hst (lv_room hW) hd hf
  intro T hT X
  obtain ⟨v, st₀, t, T', L, h1, X', h2, h3, h4, ⟨⟨v', h5, h6⟩, h7⟩, G⟩ := hr T hT X
  have hL : L = [] := by
    cases L with
    | nil => rfl
    | cons q L => exact (h2 q List.mem_cons_self).elim
  subst hL
  rw [List.append_nil] at X'
  cases h5
  obtain ⟨t2, a1, b1⟩ := k v h6 H locs ls hN hP hD hS hl T' (h3.trans (h7.trans h1)) X'
  exact ⟨t2, G t2 a1, b1⟩
end LWR
