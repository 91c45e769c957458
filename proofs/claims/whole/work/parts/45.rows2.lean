/-! more rows: division, longs, explicit worlds -/
section RW2
variable {p : Program} {l : Launch} {e : Env} {R : Room} {s : State} {m : MethodId} {args : Array Value} {below : List Frame} {meth : Method} {c : Code} {cells slots : Nat} {Q : State → Prop}
variable {cc : ByteArray} {nL pc : Nat} {ret : Option FieldType} {Ts : List Cond} {own : String} {D : va_G} {cl : List vw_C} {cI cZ cJ : ClassId} {SL : List zS} {A : Nat → Prop} {ro : Prop} {lv : List (Nat × Value)} {st : List Value} {ws : va_W}
theorem iZ_div {a b : Int} (ha : 0 ≤ a) (ha2 : a < 2147483648) (hb : 0 < b) (hb2 : b < 2147483648) : iZ a / iZ b = iZ (a / b) := by
  have h1 : 0 ≤ a / b := Int.ediv_nonneg ha (by omega)
  have h2 : a / b ≤ a := Int.ediv_le_self b ha
  rw [← Int32.toInt_inj, lg_idiv_nonneg (by rw [iZ_toInt ⟨by omega, ha2⟩]; exact ha) (by rw [iZ_toInt ⟨by omega, hb2⟩]; exact hb), iZ_toInt ⟨by omega, ha2⟩, iZ_toInt ⟨by omega, hb2⟩, iZ_toInt ⟨by omega, by omega⟩]
theorem tt_idiv (F : FX p s m args meth c cc nL ret Ts own D cl cI cZ cJ SL A) {a b : Int} (ha : 0 ≤ a) (ha2 : a < 2147483648) (hb : 0 < b) (hb2 : b < 2147483648) (hd : decode cc pc = .ok (.idiv, 1)) (k : TT p l e R s m args below meth c D cl A nL ro Q (pc + 1) lv (.int (iZ (a / b)) :: st) ws cells slots) : TT p l e R s m args below meth c D cl A nL ro Q pc lv (.int (iZ b) :: .int (iZ a) :: st) ws cells slots := fun H locs ls hN hP hD hS hl => lv_idiv F.1.1 F.1.2.1 hd (fun h => by rw [iZ_eq0 ⟨by omega, hb2⟩] at h; omega) (by rw [iZ_div ha ha2 hb hb2]; exact k H locs ls hN hP hD hS hl)
theorem tt_irem (F : FX p s m args meth c cc nL ret Ts own D cl cI cZ cJ SL A) {a b : Int} (ha : 0 ≤ a) (ha2 : a < 2147483648) (hb : 0 < b) (hb2 : b < 2147483648) (hd : decode cc pc = .ok (.irem, 1)) (k : TT p l e R s m args below meth c D cl A nL ro Q (pc + 1) lv (.int (iZ (a % b)) :: st) ws cells slots) : TT p l e R s m args below meth c D cl A nL ro Q pc lv (.int (iZ b) :: .int (iZ a) :: st) ws cells slots := fun H locs ls hN hP hD hS hl => lv_irem F.1.1 F.1.2.1 hd (fun h => by rw [iZ_eq0 ⟨by omega, hb2⟩] at h; omega) (by
  have e1 : iZ a - iZ a / iZ b * iZ b = iZ (a % b) := by
    rw [iZ_div ha ha2 hb hb2, iZ_mul, iZ_sub]
    congr 1
    have := Int.mul_ediv_add_emod a b
    rw [Int.mul_comm] at this
    omega
  rw [e1]; exact k H locs ls hN hP hD hS hl)
theorem tt_nrm {k n : Nat} {ws' : va_W} (h1 : cells ≤ k) (h2 : slots ≤ n) (hw : ws = ws') (kk : TT p l e R s m args below meth c D cl A nL ro Q pc lv st ws' k n) : TT p l e R s m args below meth c D cl A nL ro Q pc lv st ws cells slots := hw ▸ tt_wid h1 h2 kk
theorem tt_lconst (F : FX p s m args meth c cc nL ret Ts own D cl cI cZ cJ SL A) {n : Fin 2} {z : Int} (hz : Int64.ofNat (n : Nat) = jZ z) (hd : decode cc pc = .ok (.lconst n, 1)) (k : TT p l e R s m args below meth c D cl A nL ro Q (pc + 1) lv (.long (jZ z) :: st) ws cells slots) : TT p l e R s m args below meth c D cl A nL ro Q pc lv st ws cells slots := fun H locs ls hN hP hD hS hl => lv_lconst F.1.1 F.1.2.1 hd hz (k H locs ls hN hP hD hS hl)
theorem jZ_of {a : Int} (ha : ir a) : (iZ a).toInt64 = jZ a := by
  rw [← Int64.toInt_inj, Int32.toInt_toInt64, iZ_toInt ha]
  exact (Int64.toInt_ofInt_of_le (by have := ha.1; omega) (by have := ha.2; omega)).symm
theorem tt_i2l (F : FX p s m args meth c cc nL ret Ts own D cl cI cZ cJ SL A) {a : Int} (ha : ir a) (hd : decode cc pc = .ok (.i2l, 1)) (k : TT p l e R s m args below meth c D cl A nL ro Q (pc + 1) lv (.long (jZ a) :: st) ws cells slots) : TT p l e R s m args below meth c D cl A nL ro Q pc lv (.int (iZ a) :: st) ws cells slots := fun H locs ls hN hP hD hS hl => lv_i2l F.1.1 F.1.2.1 hd (jZ_of ha) (k H locs ls hN hP hD hS hl)
theorem jZ_toInt {z : Int} (h : ir z) : (jZ z).toInt = z := Int64.toInt_ofInt_of_le (by have := h.1; omega) (by have := h.2; omega)
theorem tt_lcmp (F : FX p s m args meth c cc nL ret Ts own D cl cI cZ cJ SL A) {a b : Int} (ha : ir a) (hb : ir b) (hd : decode cc pc = .ok (.lcmp, 1)) (k : ∀ z : Int, (-1 ≤ z ∧ z ≤ 1) → (z = 0 ↔ a = b) → TT p l e R s m args below meth c D cl A nL ro Q (pc + 1) lv (.int (iZ z) :: st) ws cells slots) : TT p l e R s m args below meth c D cl A nL ro Q pc lv (.long (jZ b) :: .long (jZ a) :: st) ws cells slots := fun H locs ls hN hP hD hS hl => W.lcmp F.1.1 F.1.2.1 hd (by
  by_cases h1 : jZ b < jZ a
  · have e1 : lg_cmp (jZ a) (jZ b) = iZ 1 := by simp only [lg_cmp, h1, if_true]; decide
    rw [e1]
    rw [Int64.lt_iff_toInt_lt, jZ_toInt ha, jZ_toInt hb] at h1
    exact k 1 (by omega) (by omega) H locs ls hN hP hD hS hl
  · by_cases h2 : jZ a = jZ b
    · have e1 : lg_cmp (jZ a) (jZ b) = iZ 0 := by rw [h2]; simp [lg_cmp]; decide
      rw [e1]
      rw [← Int64.toInt_inj, jZ_toInt ha, jZ_toInt hb] at h2
      exact k 0 (by omega) (by omega) H locs ls hN hP hD hS hl
    · have e1 : lg_cmp (jZ a) (jZ b) = iZ (-1) := by simp only [lg_cmp, h1, h2, if_false]; decide
      rw [e1]
      rw [← Int64.toInt_inj, jZ_toInt ha, jZ_toInt hb] at h2
      exact k (-1) (by omega) (by omega) H locs ls hN hP hD hS hl)
theorem tt_newJ (F : FX p s m args meth c cc nL ret Ts own D cl cI cZ cJ SL A) (hro : ¬ ro) {n : Int} (hw : Cond.arrayClass .long ∈ Ts) (h0 : 0 ≤ n) (hn : n ≤ 1000000) (hc : cells + 1 ≤ R.cells) (hs : slots + n.toNat ≤ R.slots) (hd : decode cc pc = .ok (.newarray .long, 2)) (k : ∀ q : Nat, TT p l e R s m args below meth c D cl A nL ro Q (pc + 2) lv (.ref q :: st) (ws ++ [(q, aJ cJ n (fun _ => 0))]) (cells + 1) (slots + n.toNat)) : TT p l e R s m args below meth c D cl A nL ro Q pc lv (.int (iZ n) :: st) ws cells slots := by
  intro H locs ls hN hP hD hS hl
  refine va_newa (atype := .long) (a0 := (n.toNat, .inr (.inl (fun _ => jZ 0)))) F.1.1 F.1.2.1 (F.1.2.2.2.2 _ hw) rfl F.2.1 hP hD hS F.2.2.1 (fun cA => rfl) (by rw [iZ_lt0 ⟨by omega, by omega⟩]; omega) (iZ_cl h0 (by omega)) (by show n.toNat * 8 ≤ _; omega) hc hs hd ?_
  intro q cA H1 hK hP hD hS
  have e1 : va_RA s cA .long := (hK.2 3 (cA, .long) rfl).2
  have e2 : va_RA s cJ .long := (F.2.1.2 2 (cJ, .long) rfl).2
  have e3 : some cA = some cJ := Eq.trans (Eq.symm e1) e2
  cases e3
  exact k q H1 locs ls (fun h => absurd h hro) hP hD hS hl
end RW2
