/-! THE CLAIM OUT OF ONE WALK OF THE LAW'S BODY. Your part is whole_start (and what it stands on); all else here is the same for every law, but numbers. -/
def R_law : String := "RollingBallsLaw"
def lw_P (b : Addr) (xs : List Int32) (args : Array Value) (s : State) : Prop := args = #[.ref b] ∧ s.IntsAt b xs ∧ xs.length ≤ 2563 ∧ (Jvm.Cond.and given_1 narrow_1).before args s = true
def lw_Q (_ : Array Value) (s : State) (o : Outcome) (t : State) : Prop := o = .returned (some (.int 1)) ∧ Framed s o t [] 601024 7293000
def lw_Z (below : List Frame) (a : Array Value) (s : State) : State → Prop := fun t => ∃ o, t.status = .running ∧ Ended t below o ∧ lw_Q a s o t
/-- the law's own end, with 1 on the stack, nothing written that was there before, its room as the claim has it -/
theorem lw_ret {p : Program} {l : Launch} {e : Env} {s : State} {m : MethodId} {below : List Frame} {meth : Method} {c : Code} {b : Nat} (hx : p.tables.exec = Jvm.exec) (hb : c.code = code) (hr : meth.sig.returnType = ret) (hlocks : meth.locks = false) {pc : Nat} {H : Heap} {ls : Array Slot} (hdg : decode code pc = .ok (.ireturn, 1)) : W p l e room_1 s m #[Value.ref b] below meth c H [] 601024 7293000 (lw_Z below #[Value.ref b] s) (F0 m pc ls [.int 1]) := by
  intro T hT X
  obtain ⟨fs, hret, hrun, hended, hW, hframe⟩ := X.leave (v := some (.int 1)) (hlocks := hlocks) (fun h => by rw [hr] at h; cases h)
  have hmeth' : T.vm.method? m = some meth := X.method'
  refine ⟨T.setFrames fs, ?_, .returned (some (.int 1)), hrun, hended, rfl, ⟨_, rfl⟩, hW, hframe⟩
  jvm_step X.here [X.here.top, hx, hb, hdg, hmeth', hr, ret, narrow_b1]
  (try refine ⟨rfl, ?_⟩); (try refine ⟨rfl, ?_⟩)
  first | (intro acts; rw [hret _ acts rfl rfl rfl]) | rw [hret _ _ rfl rfl rfl]
  exact Steps.refl _
/-- what holds at the law's entry: the machine, the code, the tables' words (any of lw_tbl by 'hts w (by decide +kernel)'), the script of L ints xs at the cell b, what the Statement gives of the start (any of its parts by flat_of_before) -/
def lw_At (p : Program) (s : State) (m : MethodId) (meth : Method) (c : Code) (b L : Nat) (xs : Nat → Int32) : Prop :=
  p.tables.exec = Jvm.exec ∧ c.code = code ∧ meth.sig.returnType = ret ∧ c.maxLocals = 7 ∧ s.vm.findClass R_law = some m.cls ∧ (∀ w ∈ lw_tbl, w.before #[Value.ref b] s = true) ∧ va_X b L xs s s.heap ∧ b < s.heap.size ∧ meth.locks = false ∧ (Jvm.Cond.and given_1 narrow_1).before #[Value.ref b] s = true
section LWE
variable {p : Program} {l : Launch} {e : Env} {R : Room} {s : State} {m : MethodId} {args : Array Value} {below : List Frame} {meth : Method} {c : Code} {cells slots : Nat} {Q : State → Prop}
variable {cc : ByteArray} {nL pc : Nat} {rt' : Option FieldType} {Ts : List Cond} {own : String} {D : va_G} {cl : List vw_C} {cI cZ cJ : ClassId} {SL : List zS} {A : Nat → Prop} {ro : Prop} {lv : List (Nat × Value)} {st : List Value} {ws : va_W}
/-- the law's end -/
theorem tt_lend {b : Nat} (F : FX p s m #[Value.ref b] meth c code 7 (some .boolean) Ts own D cl cI cZ cJ SL A) (hA : ∀ q, A q → s.heap.size ≤ q) (hc : cells ≤ 601024) (hs : slots ≤ 7293000) (hd : decode code pc = .ok (.ireturn, 1)) : TT p l e room_1 s m #[Value.ref b] below meth c D cl A nL ro (lw_Z below #[Value.ref b] s) pc lv [.int (iZ 1)] ws cells slots := by
  intro H locs ls hN hP hD hS hl
  exact va_forget (fun q hq => hA _ (hS.2.2 q hq)) (W.widen hc hs (lw_ret F.1.1 F.1.2.1 F.2.2.2.2.1 F.2.2.2.2.2 hd))
theorem tt_eqT (F : FX p s m args meth c cc nL rt' Ts own D cl cI cZ cJ SL A) {a b off : Int} (tgt : Nat) (h : a = b) (hd : decode cc pc = .ok (.if_icmp .eq off, 3)) (ht : (pc : Int) + off = (tgt : Int)) (kt : TT p l e R s m args below meth c D cl A nL ro Q tgt lv st ws cells slots) : TT p l e R s m args below meth c D cl A nL ro Q pc lv (.int (iZ b) :: .int (iZ a) :: st) ws cells slots := fun H locs ls hN hP hD hS hl => lv_icmp_eq F.1.1 F.1.2.1 hd ht (fun _ => kt H locs ls hN hP hD hS hl) (fun q => absurd (by rw [h]) q)
theorem zand15 (x : Int) : 0 ≤ zand x 15 ∧ zand x 15 ≤ 15 := by
  have h : ∀ v : Int32, 0 ≤ (v &&& 15).toInt ∧ (v &&& 15).toInt ≤ 15 := by
    intro v
    have e : (v &&& 15).toBitVec = v.toBitVec &&& 15#32 := by rw [Int32.toBitVec_and]; rfl
    have h1 : (v &&& 15).toBitVec.toNat ≤ 15 := by rw [e, BitVec.toNat_and]; exact Nat.and_le_right
    have h2 : (v &&& 15).toInt = (v &&& 15).toBitVec.toInt := rfl
    rw [h2, BitVec.toInt_eq_toNat_of_lt (by omega)]
    omega
  have e15 : iZ 15 = 15 := by decide
  rw [zand, e15]
  exact h (iZ x)
end LWE
