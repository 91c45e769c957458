/-! Methods that throw, once more, with the words on Throwable that are not kept by tables alone (tnL). -/
section TYT
variable {p : Program} {l : Launch} {e : Env} {R : Room} {s : State} {m : MethodId} {args : Array Value} {below : List Frame} {meth : Method} {c : Code} {cells slots : Nat} {Q : State → Prop}
variable {cc : ByteArray} {nL pc : Nat} {ret : Option FieldType} {Ts : List Cond} {own : String} {D : va_G} {cl : List vw_C} {cI cZ cJ : ClassId} {SL : List zS} {A : Nat → Prop} {ro : Prop} {lv : List (Nat × Value)} {st : List Value} {ws : va_W}
def IAE : String := "java/lang/IllegalArgumentException"
def ISE : String := "java/lang/IllegalStateException"
theorem tn_cast {X Y : String} {u U : State} {A0 A1 : Array Value} (hvm : u.vm.Alike U.vm) (h : (Cond.castable X Y).before A0 u = true) : (Cond.castable X Y).before A1 U = true := by
  obtain ⟨c, t, h1, h2, h3⟩ := Cond.castable_spec h
  have e1 : U.vm.findClass X = some c := by rw [hvm.findClass]; exact h1
  have e2 : U.vm.findClass Y = some t := by rw [hvm.findClass]; exact h2
  have e3 : U.vm.assignable c t = true := by rw [hvm.assignable]; exact h3
  simp [Cond.before, Cond.holds, Cond.value, e1, e2, e3]
theorem tn_lays {C n d : String} {u U : State} {A0 A1 : Array Value} (hvm : u.vm.Alike U.vm) (hq : ∀ a : Nat, a < u.heap.size → U.heap[a]? = u.heap[a]?) (h : (Cond.laysStatic C n d).before A0 u = true) : (Cond.laysStatic C n d).before A1 U = true := by
  obtain ⟨c, k, i, f, a, cell, h1, h2, h3, h4, h5, h6, h7, h8, h9⟩ := Cond.laysStatic_spec h
  obtain ⟨k', hi', he⟩ := State.fieldFound?_setVm hvm h2
  have e1 : U.vm.findClass C = some c := by rw [hvm.findClass]; exact h1
  have e2 : U.fieldFound? C n d = some (c, k', i, f) := hi'
  have e4 : k'.statics = some a := by rw [he]; exact h4
  have e5 : U.heap[a]? = some cell := by rw [hq a (Array.getElem?_eq_some_iff.mp h5).1]; exact h5
  have e9 : k'.staticTypes[f.slot]? = some f.type := by rw [he]; exact h9
  simp [Cond.before, Cond.holds, Cond.value, e1, e2, e4, e5, e9, h3, h6, h7, h8]
theorem tn_ref {C n d : String} {u U : State} {A0 A1 A2 : Array Value} (hvm : u.vm.Alike U.vm) (hq : ∀ a : Nat, a < u.heap.size → U.heap[a]? = u.heap[a]?) (hl : (Cond.laysStatic C n d).before A0 u = true) (h : (Cond.isRef (.static C n d)).before A1 u = true) : (Cond.isRef (.static C n d)).before A2 U = true := by
  obtain ⟨c, k, i, f, a, cell, h1, h2, h3, h4, h5, h6, h7, h8, h9⟩ := Cond.laysStatic_spec hl
  obtain ⟨v, hv, hr⟩ := Cond.isRef_spec h
  obtain ⟨-, a', cell', ha', hc', -, hs⟩ := Term.static_spec h2 hv
  cases h4.symm.trans ha'
  cases h5.symm.trans hc'
  obtain ⟨k', hi', he⟩ := State.fieldFound?_setVm hvm h2
  have e2 : U.fieldFound? C n d = some (c, k', i, f) := hi'
  have e4 : k'.statics = some a := by rw [he]; exact h4
  have e5 : U.heap[a]? = some cell := by rw [hq a (Array.getElem?_eq_some_iff.mp h5).1]; exact h5
  have ev : (Term.static C n d).eval A2 U none [] U = some v := by
    simp [Term.eval, State.fieldNamed?, e2, h3, e4, e5, h6, hs]
  simp only [Cond.before, Cond.holds, Cond.value, ev, Option.map_some]
  cases v <;> first | rfl | (exfalso; simp [Value.isRef] at hr)
theorem tn_decl {x : MethodName} {u U : State} {A0 A1 : Array Value} (hvm : u.vm.Alike U.vm) (h : (Cond.declares x).before A0 u = true) : (Cond.declares x).before A1 U = true := by
  have h1 := Cond.faceAtom_setVm (args := A0) hvm (.declares x) rfl h
  rw [Cond.onTables_vm (A' := A1) (U' := U) U.vm (.declares x) rfl] at h1
  exact h1
def tnI (c : String) : MethodName := ⟨c, "<init>", "(Ljava/lang/String;)V"⟩
def tnU : String := "UNASSIGNED_STACK"
def tnS : String := "SUPPRESSED_SENTINEL"
def tnUd : String := "[Ljava/lang/StackTraceElement;"
def tnSd : String := "Ljava/util/List;"
def tnT : String := "java/lang/Throwable"
def tnL : List Cond := [.castable IAE IAE, .castable ISE ISE, .laysStatic tnT tnU tnUd, .laysStatic tnT tnS tnSd, .isRef (.static tnT tnU tnUd), .isRef (.static tnT tnS tnSd), .declares (tnI "java/lang/RuntimeException"), .declares (tnI "java/lang/Exception"), .declares (tnI tnT)]
def TNx (U : State) : Prop := ∀ w ∈ tnL, ∀ a : Array Value, w.before a U = true
theorem TNx.go {u U : State} (h : TNx u) (hvm : u.vm.Alike U.vm) (hq : ∀ a : Nat, a < u.heap.size → U.heap[a]? = u.heap[a]?) : TNx U := by
  intro w hw a
  have h1 := h (.castable IAE IAE) (by simp [tnL]) #[]
  have h2 := h (.castable ISE ISE) (by simp [tnL]) #[]
  have h3 := h (.laysStatic tnT tnU tnUd) (by simp [tnL]) #[]
  have h4 := h (.laysStatic tnT tnS tnSd) (by simp [tnL]) #[]
  have h5 := h (.isRef (.static tnT tnU tnUd)) (by simp [tnL]) #[]
  have h6 := h (.isRef (.static tnT tnS tnSd)) (by simp [tnL]) #[]
  have h7 := h (.declares (tnI "java/lang/RuntimeException")) (by simp [tnL]) #[]
  have h8 := h (.declares (tnI "java/lang/Exception")) (by simp [tnL]) #[]
  have h9 := h (.declares (tnI tnT)) (by simp [tnL]) #[]
  simp only [tnL, List.mem_cons, List.not_mem_nil, or_false] at hw
  rcases hw with rfl | rfl | rfl | rfl | rfl | rfl | rfl | rfl | rfl
  · exact tn_cast hvm h1
  · exact tn_cast hvm h2
  · exact tn_lays hvm hq h3
  · exact tn_lays hvm hq h4
  · exact tn_ref hvm hq h3 h5
  · exact tn_ref hvm hq h4 h6
  · exact tn_decl hvm h7
  · exact tn_decl hvm h8
  · exact tn_decl hvm h9
def SQx (SO : String) (SS : List (Nat × String)) (U : State) : Prop := SPx SO SS U ∧ TNx U
theorem SQx.go {SO : String} {SS : List (Nat × String)} {u U : State} (h : SQx SO SS u) (hW : u.WarmedH U.vm) (hq : ∀ a : Nat, a < u.heap.size → U.heap[a]? = u.heap[a]?) : SQx SO SS U := ⟨h.1.warm hW, h.2.go hW.alike hq⟩
theorem SQx.same {SO : String} {SS : List (Nat × String)} {u U : State} (h : SQx SO SS u) (hv : U.vm = u.vm) (hq : U.heap = u.heap) : SQx SO SS U := ⟨h.1.same hv, h.2.go (by rw [hv]; exact Vm.Alike.refl u.vm) (fun a _ => by rw [hq])⟩
/-- a contract: it throws E, and nothing has changed -/
def CY (l : Launch) (D : va_G) (cl : List vw_C) (cI cZ cJ : ClassId) (SL : List zS) (SO : String) (SS : List (Nat × String)) (y : MethodName) (wm : List Cond) (rm : Room) (av : List Value) (w0 : va_W) (E : String) : Prop := ∀ sz : Nat, tx_Met l y wm rm (fun a U => PW D cl cI cZ cJ SL av w0 sz a U ∧ SQx SO SS U) E
theorem py_blind (D : va_G) (cl : List vw_C) (cI cZ cJ : ClassId) (SL : List zS) (SO : String) (SS : List (Nat × String)) (av : List Value) (w0 : va_W) (sz : Nat) : FrameBlind (fun a U => PW D cl cI cZ cJ SL av w0 sz a U ∧ SQx SO SS U) :=
  fun a U g mk q => ⟨pw_blind D cl cI cZ cJ SL av w0 sz a U g mk q.1, q.2.same rfl rfl⟩
theorem ts_start {y : MethodName} {wm wm' : List Cond} {rm : Room} {av : List Value} {w0 : va_W} {E : String} {SO : String} {SS : List (Nat × String)} (hy : plainName y.cls = true) (hw : wm = Cond.code y cc nL ret :: wm') (hsl : (lg_sl av).length ≤ nL)
    (body : ∀ (p : Program) (e : Env) (s : State) (m : MethodId) (args : Array Value) (below : List Frame) (meth : Method) (c : Code), FX p s m args meth c cc nL ret wm y.cls D cl cI cZ cJ SL (va_A w0 s.heap.size) → c.exceptionTable.isEmpty = true → SQx SO SS s → TT p l e rm s m args below meth c D cl (va_A w0 s.heap.size) nL True (tx_MQ below E args s) 0 (lv_args 0 av) [] w0 0 0) : CY l D cl cI cZ cJ SL SO SS y wm rm av w0 E := by
  intro sz
  refine tx_ofW (cc := cc) (maxL := nL) (ret := ret) hy hw ?_
  intro p e s m args below meth c s₁ B hml hv
  obtain ⟨⟨rfl, rfl, hP, hK, hD, hSF⟩, hsp⟩ := hv
  have hown := findClass_of_methodNamed B.named
  have hts : ∀ w ∈ wm, w.before av.toArray s = true := atoms_spec B.pre
  have hl := lv_entry av (n := nL) hsl
  have hex : c.exceptionTable.isEmpty = true := by
    obtain ⟨meth', c', h1, h2, -, -, -, -, h3, -⟩ := Cond.code_spec B.named (hts _ (by rw [hw]; exact List.mem_cons_self))
    have h4 := B.method.symm.trans h1
    cases h4
    have h5 : meth.code = some c := (Stand.of_body B).code
    have h6 := h5.symm.trans h2
    cases h6
    exact h3
  rw [lg_entry_eq]
  exact body p e s m _ below meth c ⟨⟨B.exec, B.bytes, hml, hown, hts⟩, hK, fun q h => Or.inr h, hSF, B.returns, B.notSynchronized⟩ hex hsp s.heap [] _ (fun _ => ⟨rfl, rfl⟩) hP hD.self va_S.rf hl
/-- new; dup; ldc; invokespecial; athrow -/
theorem ts_throw (F : FX p s m args meth c cc nL ret Ts own D cl cI cZ cJ SL A) (hst : l.stackTraces = false) (hex : c.exceptionTable.isEmpty = true) {SS : List (Nat × String)} (hsp : SQx own SS s) {cls text : String} {names : List String} {ik is ic : Nat} (j : Nat) (hj : SS[j]? = some (is, text))
    (hcls : Bundle.fit cls = true) (hnames : ∀ n ∈ names, Bundle.fit n = true) (hw1 : Cond.classLink own ik cls ∈ Ts) (hw2 : Cond.initialized cls ∈ Ts) (hat : ∀ w ∈ Bundle.ownAtoms own ic cls names, w ∈ Ts ∨ w ∈ tnL)
    (d0 : decode cc pc = .ok (.new ik, 3)) (d3 : decode cc (pc + 3) = .ok (.dup, 1)) (d4 : decode cc (pc + 4) = .ok (.ldc is, 2)) (d6 : decode cc (pc + 6) = .ok (.invokespecial ic, 3)) (d9 : decode cc (pc + 9) = .ok (.athrow, 1))
    (hR1 : names.length + 3 < R.frames) (hR2 : (st.map fun v => v.category).sum + (13 * (names.length + 1) + 43) ≤ R.locals) (hR3 : 1 ≤ R.cells) (hR4 : 6 ≤ R.slots) :
    TT p l e R s m args below meth c D cl A nL True (tx_MQ below cls args s) pc lv st ws 0 0 := by
  intro H locs ls hN hP hD hS hl
  obtain ⟨rfl, rfl⟩ := hN trivial
  obtain ⟨sa, hsa⟩ := hsp.1 j _ hj
  exact tx_throw F.1.1 F.1.2.1 hst F.1.2.2.2.1 hcls hnames (F.1.2.2.2.2 _ hw1) (F.1.2.2.2.2 _ hw2) hsa (fun w hw => (hat w hw).elim (fun q => F.1.2.2.2.2 w q) (fun q => hsp.2 w q _)) (hl.1.trans F.1.2.2.1.symm) d0 d3 d4 d6 d9 (tx_noh hex _) hR1 hR2 hR3 hR4 F.2.2.2.2.2
theorem ts_outV (F : FX p s m args meth c cc nL ret Ts own D cl cI cZ cJ SL A) (hex : c.exceptionTable.isEmpty = true) {SO : String} {SS : List (Nat × String)} (hsp : SQx SO SS s) {y : MethodName} {bytes : ByteArray} {maxL n ix : Nat} {rt : Option FieldType} {wm : List Cond} {rm : Room} {As : List Value} {w0 : va_W} {E : String} {st0 : List Value} (wr : va_W) {C : String} {T : u_T} {N ci b : Nat} {fs : List Value} (q0 : Nat) (he : w0[q0]? = some (b, .inr (ci, fs))) (hcl : cl[ci]? = some (C, T, N)) (hM : CY l D cl cI cZ cJ SL SO SS y wm rm (.ref b :: As) w0 E) (cw : CallW R s args own C ix y bytes maxL rt wm rm 1 6 n) (hw : ws = wr ++ w0) (hn : As.length = n) (hst : st0 = As.reverse ++ .ref b :: st) (hW : (st.map fun v => v.category).sum ≤ 8) (hf : 1 ≤ R.cells ∧ 6 ≤ R.slots) (hd : decode cc pc = .ok (.invokevirtual ix, 3)) :
    TT p l e R s m args below meth c D cl A nL True (tx_MQ below E args s) pc lv st0 ws 0 0 := by
  intro H locs ls hN hP hD hS hl
  subst hw
  obtain ⟨rfl, rfl⟩ := hN trivial
  exact tx_out (tx_runV (As := As) (rest := st) F.1 (hM s.heap.size) cw ⟨py_blind D cl cI cZ cJ SL SO SS _ w0 s.heap.size, tj_recv F hP he hcl, fun U hU hW2 => ⟨tj_pre F hP hD hS hU hW2, hsp.go hW2 (fun a _ => by rw [hU])⟩⟩ rfl hn hl.1 hst (lv_room hW) hd (by simpa using hf)) (tx_noh hex _) F.2.2.2.2.2
theorem ts_outS (F : FX p s m args meth c cc nL ret Ts own D cl cI cZ cJ SL A) (hex : c.exceptionTable.isEmpty = true) {SO : String} {SS : List (Nat × String)} (hsp : SQx SO SS s) {y : MethodName} {bytes : ByteArray} {maxL n ix : Nat} {rt : Option FieldType} {wm : List Cond} {rm : Room} {As : List Value} {w0 : va_W} {E : String} {st0 : List Value} (wr : va_W) (hM : CY l D cl cI cZ cJ SL SO SS y wm rm As w0 E) (cw : (CallB R s args own ix y bytes maxL rt wm rm 1 6 n ∧ (Cond.static y).before args s = true)) (hw : ws = wr ++ w0) (hn : As.length = n) (hst : st0 = As.reverse ++ st) (hW : (st.map fun v => v.category).sum ≤ 8) (hf : 1 ≤ R.cells ∧ 6 ≤ R.slots) (hd : decode cc pc = .ok (.invokestatic ix, 3)) :
    TT p l e R s m args below meth c D cl A nL True (tx_MQ below E args s) pc lv st0 ws 0 0 := by
  intro H locs ls hN hP hD hS hl
  subst hw
  obtain ⟨rfl, rfl⟩ := hN trivial
  exact tx_out (tx_runS (As := As) (rest := st) F.1 (hM s.heap.size) cw ⟨py_blind D cl cI cZ cJ SL SO SS _ w0 s.heap.size, fun U hU hW2 => ⟨tj_pre F hP hD hS hU hW2, hsp.go hW2 (fun a _ => by rw [hU])⟩⟩ rfl hn hl.1 hst (lv_room hW) hd (by simpa using hf)) (tx_noh hex _) F.2.2.2.2.2
end TYT
