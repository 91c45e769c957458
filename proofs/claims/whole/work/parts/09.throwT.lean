/-! Methods that throw, over TT where nothing is written; the refs of text constants (SPx). -/
section TXT
variable {p : Program} {l : Launch} {e : Env} {R : Room} {s : State} {m : MethodId} {args : Array Value} {below : List Frame} {meth : Method} {c : Code} {cells slots : Nat} {Q : State → Prop}
variable {cc : ByteArray} {nL pc : Nat} {ret : Option FieldType} {Ts : List Cond} {own : String} {D : va_G} {cl : List vw_C} {cI cZ cJ : ClassId} {SL : List zS} {A : Nat → Prop} {ro : Prop} {lv : List (Nat × Value)} {st : List Value} {ws : va_W}
def SPx (SO : String) (SS : List (Nat × String)) (U : State) : Prop := ∀ (k : Nat) (q : Nat × String), SS[k]? = some q → ∃ a, vk_R SO q.1 q.2 a U
theorem SPx.warm {SO : String} {SS : List (Nat × String)} {u U : State} (h : SPx SO SS u) (hW : u.WarmedH U.vm) : SPx SO SS U := fun k q hk => by
  obtain ⟨a, ha⟩ := h k q hk
  exact ⟨a, ha.warm hW⟩
theorem SPx.same {SO : String} {SS : List (Nat × String)} {u U : State} (h : SPx SO SS u) (hv : U.vm = u.vm) : SPx SO SS U := fun k q hk => by
  obtain ⟨a, ha⟩ := h k q hk
  exact ⟨a, ha.same hv⟩
/-- a contract: it throws E, and nothing has changed -/
def CX (l : Launch) (D : va_G) (cl : List vw_C) (cI cZ cJ : ClassId) (SL : List zS) (SO : String) (SS : List (Nat × String)) (y : MethodName) (wm : List Cond) (rm : Room) (av : List Value) (w0 : va_W) (E : String) : Prop := ∀ sz : Nat, tx_Met l y wm rm (fun a U => PW D cl cI cZ cJ SL av w0 sz a U ∧ SPx SO SS U) E
theorem px_blind (D : va_G) (cl : List vw_C) (cI cZ cJ : ClassId) (SL : List zS) (SO : String) (SS : List (Nat × String)) (av : List Value) (w0 : va_W) (sz : Nat) : FrameBlind (fun a U => PW D cl cI cZ cJ SL av w0 sz a U ∧ SPx SO SS U) :=
  fun a U g mk q => ⟨pw_blind D cl cI cZ cJ SL av w0 sz a U g mk q.1, q.2.same rfl⟩
theorem tx_noh (h : c.exceptionTable.isEmpty = true) (pc : Nat) : ∀ x ∈ c.exceptionTable.toList, covers x pc = false := by
  intro x hx
  have e0 : c.exceptionTable = #[] := Array.isEmpty_iff.mp h
  rw [e0] at hx
  cases hx
theorem tt_startX {y : MethodName} {wm wm' : List Cond} {rm : Room} {av : List Value} {w0 : va_W} {E : String} {SO : String} {SS : List (Nat × String)} (hy : plainName y.cls = true) (hw : wm = Cond.code y cc nL ret :: wm') (hsl : (lg_sl av).length ≤ nL)
    (body : ∀ (p : Program) (e : Env) (s : State) (m : MethodId) (args : Array Value) (below : List Frame) (meth : Method) (c : Code), FX p s m args meth c cc nL ret wm y.cls D cl cI cZ cJ SL (va_A w0 s.heap.size) → c.exceptionTable.isEmpty = true → SPx SO SS s → TT p l e rm s m args below meth c D cl (va_A w0 s.heap.size) nL True (tx_MQ below E args s) 0 (lv_args 0 av) [] w0 0 0) : CX l D cl cI cZ cJ SL SO SS y wm rm av w0 E := by
  intro sz
  refine tx_ofW (cc := cc) (maxL := nL) (ret := ret) hy hw ?_
  intro p e s m args below meth c s₁ B hml hv
  obtain ⟨⟨rfl, rfl, hP, hK, hD, hSF⟩, hsp⟩ := hv
  have hown := findClass_of_methodNamed B.named
  have hts : ∀ w ∈ wm, w.before av.toArray s = true := atoms_spec B.pre
  have hl := lv_entry av (n := nL) hsl
  have hex : c.exceptionTable.isEmpty = true := by
    obtain ⟨meth', c', h1, h2, -, -, -, -, h3, -⟩ := Cond.code_spec B.named (hts _ (by rw [hw]; exact List.mem_cons_self))
    have h4 := B.method.symm.trans h1
    cases h4
    have h5 : meth.code = some c := (Stand.of_body B).code
    have h6 := h5.symm.trans h2
    cases h6
    exact h3
  rw [lg_entry_eq]
  exact body p e s m _ below meth c ⟨⟨B.exec, B.bytes, hml, hown, hts⟩, hK, fun q h => Or.inr h, hSF, B.returns, B.notSynchronized⟩ hex hsp s.heap [] _ (fun _ => ⟨rfl, rfl⟩) hP hD.self va_S.rf hl
/-- new; dup; ldc; invokespecial; athrow -/
theorem tt_throw (F : FX p s m args meth c cc nL ret Ts own D cl cI cZ cJ SL A) (hst : l.stackTraces = false) (hex : c.exceptionTable.isEmpty = true) {SS : List (Nat × String)} (hsp : SPx own SS s) {cls text : String} {names : List String} {ik is ic : Nat} (j : Nat) (hj : SS[j]? = some (is, text))
    (hcls : Bundle.fit cls = true) (hnames : ∀ n ∈ names, Bundle.fit n = true) (hw1 : Cond.classLink own ik cls ∈ Ts) (hw2 : Cond.initialized cls ∈ Ts) (hat : ∀ w ∈ Bundle.ownAtoms own ic cls names, w ∈ Ts)
    (d0 : decode cc pc = .ok (.new ik, 3)) (d3 : decode cc (pc + 3) = .ok (.dup, 1)) (d4 : decode cc (pc + 4) = .ok (.ldc is, 2)) (d6 : decode cc (pc + 6) = .ok (.invokespecial ic, 3)) (d9 : decode cc (pc + 9) = .ok (.athrow, 1))
    (hR1 : names.length + 3 < R.frames) (hR2 : (st.map fun v => v.category).sum + (13 * (names.length + 1) + 43) ≤ R.locals) (hR3 : 1 ≤ R.cells) (hR4 : 6 ≤ R.slots) :
    TT p l e R s m args below meth c D cl A nL True (tx_MQ below cls args s) pc lv st ws 0 0 := by
  intro H locs ls hN hP hD hS hl
  obtain ⟨rfl, rfl⟩ := hN trivial
  obtain ⟨sa, hsa⟩ := hsp j _ hj
  exact tx_throw F.1.1 F.1.2.1 hst F.1.2.2.2.1 hcls hnames (F.1.2.2.2.2 _ hw1) (F.1.2.2.2.2 _ hw2) hsa (fun w hw => F.1.2.2.2.2 w (hat w hw)) (hl.1.trans F.1.2.2.1.symm) d0 d3 d4 d6 d9 (tx_noh hex _) hR1 hR2 hR3 hR4 F.2.2.2.2.2
theorem tt_outV (F : FX p s m args meth c cc nL ret Ts own D cl cI cZ cJ SL A) (hex : c.exceptionTable.isEmpty = true) {SO : String} {SS : List (Nat × String)} (hsp : SPx SO SS s) {y : MethodName} {bytes : ByteArray} {maxL n ix : Nat} {rt : Option FieldType} {wm : List Cond} {rm : Room} {As : List Value} {w0 : va_W} {E : String} {st0 : List Value} (wr : va_W) {C : String} {T : u_T} {N ci b : Nat} {fs : List Value} (q0 : Nat) (he : w0[q0]? = some (b, .inr (ci, fs))) (hcl : cl[ci]? = some (C, T, N)) (hM : CX l D cl cI cZ cJ SL SO SS y wm rm (.ref b :: As) w0 E) (cw : CallW R s args own C ix y bytes maxL rt wm rm 1 6 n) (hw : ws = wr ++ w0) (hn : As.length = n) (hst : st0 = As.reverse ++ .ref b :: st) (hW : (st.map fun v => v.category).sum ≤ 8) (hf : 1 ≤ R.cells ∧ 6 ≤ R.slots) (hd : decode cc pc = .ok (.invokevirtual ix, 3)) :
    TT p l e R s m args below meth c D cl A nL True (tx_MQ below E args s) pc lv st0 ws 0 0 := by
  intro H locs ls hN hP hD hS hl
  subst hw
  obtain ⟨rfl, rfl⟩ := hN trivial
  exact tx_out (tx_runV (As := As) (rest := st) F.1 (hM s.heap.size) cw ⟨px_blind D cl cI cZ cJ SL SO SS _ w0 s.heap.size, tj_recv F hP he hcl, fun U hU hW2 => ⟨tj_pre F hP hD hS hU hW2, hsp.warm hW2⟩⟩ rfl hn hl.1 hst (lv_room hW) hd (by simpa using hf)) (tx_noh hex _) F.2.2.2.2.2
theorem tt_outS (F : FX p s m args meth c cc nL ret Ts own D cl cI cZ cJ SL A) (hex : c.exceptionTable.isEmpty = true) {SO : String} {SS : List (Nat × String)} (hsp : SPx SO SS s) {y : MethodName} {bytes : ByteArray} {maxL n ix : Nat} {rt : Option FieldType} {wm : List Cond} {rm : Room} {As : List Value} {w0 : va_W} {E : String} {st0 : List Value} (wr : va_W) (hM : CX l D cl cI cZ cJ SL SO SS y wm rm As w0 E) (cw : (CallB R s args own ix y bytes maxL rt wm rm 1 6 n ∧ (Cond.static y).before args s = true)) (hw : ws = wr ++ w0) (hn : As.length = n) (hst : st0 = As.reverse ++ st) (hW : (st.map fun v => v.category).sum ≤ 8) (hf : 1 ≤ R.cells ∧ 6 ≤ R.slots) (hd : decode cc pc = .ok (.invokestatic ix, 3)) :
    TT p l e R s m args below meth c D cl A nL True (tx_MQ below E args s) pc lv st0 ws 0 0 := by
  intro H locs ls hN hP hD hS hl
  subst hw
  obtain ⟨rfl, rfl⟩ := hN trivial
  exact tx_out (tx_runS (As := As) (rest := st) F.1 (hM s.heap.size) cw ⟨px_blind D cl cI cZ cJ SL SO SS _ w0 s.heap.size, fun U hU hW2 => ⟨tj_pre F hP hD hS hU hW2, hsp.warm hW2⟩⟩ rfl hn hl.1 hst (lv_room hW) hd (by simpa using hf)) (tx_noh hex _) F.2.2.2.2.2
end TXT
