/-! tableswitch; the state of an object between calls -/
section TSW
variable {p : Program} {l : Launch} {e : Env} {R : Room} {s : State} {m : MethodId} {args : Array Value} {below : List Frame} {meth : Method} {c : Code} {cells slots : Nat} {Q : State → Prop}
variable {cc : ByteArray} {nL pc : Nat} {ret : Option FieldType} {Ts : List Cond} {own : String} {D : va_G} {cl : List vw_C} {cI cZ cJ : ClassId} {SL : List zS} {A : Nat → Prop} {ro : Prop} {lv : List (Nat × Value)} {st : List Value} {ws : va_W}
theorem tt_tsw (F : FX p s m args meth c cc nL ret Ts own D cl cI cZ cJ SL A) {dflt lo hi z off : Int} {offs : Array Int} {len : Nat} (tgt : Nat) (hz : ir z) (hd : decode cc pc = .ok (.tableswitch dflt lo hi offs, len)) (h1 : lo ≤ z) (h2 : z ≤ hi) (ho : offs[(z - lo).toNat]? = some off) (ht : (pc : Int) + off = (tgt : Int)) (k : TT p l e R s m args below meth c D cl A nL ro Q tgt lv st ws cells slots) : TT p l e R s m args below meth c D cl A nL ro Q pc lv (.int (iZ z) :: st) ws cells slots :=
  fun H locs ls hN hP hD hS hl => lv_tableIn F.1.1 F.1.2.1 hd (by rw [iZ_toInt hz]; omega) (by rw [iZ_toInt hz]; omega) (by rw [iZ_toInt hz]; exact ho) ht (k H locs ls hN hP hD hS hl)
theorem tt_tswO (F : FX p s m args meth c cc nL ret Ts own D cl cI cZ cJ SL A) {dflt lo hi z : Int} {offs : Array Int} {len : Nat} (tgt : Nat) (hz : ir z) (hd : decode cc pc = .ok (.tableswitch dflt lo hi offs, len)) (h : z < lo ∨ hi < z) (ht : (pc : Int) + dflt = (tgt : Int)) (k : TT p l e R s m args below meth c D cl A nL ro Q tgt lv st ws cells slots) : TT p l e R s m args below meth c D cl A nL ro Q pc lv (.int (iZ z) :: st) ws cells slots :=
  fun H locs ls hN hP hD hS hl => lv_tableOut F.1.1 F.1.2.1 hd (by rw [iZ_toInt hz]; exact h) ht (k H locs ls hN hP hD hS hl)
end TSW
def PUB (W D_ r : Int) (hs rs ts rt_ hc re ow tc cp ck wa : Int → Int) (cn : Int) : Prop :=
  BI W D_ r ts re tc ow hc ∧ (∀ p, 0 ≤ p → p < W * D_ → ts p = (hs p + rs p) * 1048576 ∧ (0 ≤ hs p ∧ hs p ≤ 200) ∧ (0 ≤ rs p ∧ rs p ≤ 50)) ∧ (∀ i j, 0 ≤ i → i < W → 0 ≤ j → j < D_ → ts (j * W + i) ≤ rt_ j ∧ rt_ j ≤ 262144000) ∧
  (0 ≤ cn ∧ cn ≤ 4) ∧ (∀ j, 0 ≤ j → j < cn → 0 ≤ cp j ∧ cp j < W * D_ ∧ 1 ≤ ck j ∧ ck j ≤ 50) ∧ (∀ p, 0 ≤ p → p < W * D_ → wa p = 0 ∨ wa p = 1)
theorem pub_ts {W D_ r cn : Int} {hs rs ts rt_ hc re ow tc cp ck wa : Int → Int} (h : PUB W D_ r hs rs ts rt_ hc re ow tc cp ck wa cn) : ∀ p, 0 ≤ p → p < W * D_ → 0 ≤ ts p ∧ ts p ≤ 262144000 := fun p p0 p1 => by
  have := h.2.1 p p0 p1
  omega
theorem pub_re {W D_ r cn sz : Int} {co ro ho ac al sd lf sq hs rs ts rt_ hc re ow tc cp ck wa : Int → Int} (hG : GE W D_ r sz co ro ho ac al sd lf sq) (h : PUB W D_ r hs rs ts rt_ hc re ow tc cp ck wa cn) : ∀ P, 0 ≤ P → P < (W + 2 * r) * (D_ + 2 * r) → 1 ≤ re P ∧ re P ≤ 272629760 := fun P p0 p1 => by
  obtain ⟨⟨hW1, hW2, hD1, hD2, hr1, hr2⟩, -⟩ := hG
  have hWD := wd_b hW1 hW2 hD1 hD2
  have := PLv_b hr1 hr2 (by omega) (h.1.1 P p0 p1) (fun p h1 h2 => (pub_ts h p h1 h2).2)
  omega
theorem pub_hc {W D_ r cn sz : Int} {co ro ho ac al sd lf sq hs rs ts rt_ hc re ow tc cp ck wa : Int → Int} (hG : GE W D_ r sz co ro ho ac al sd lf sq) (h : PUB W D_ r hs rs ts rt_ hc re ow tc cp ck wa cn) : ∀ p, 0 ≤ p → p < W * D_ → 0 ≤ hc p ∧ hc p ≤ 1024 := fun p p0 p1 => by
  obtain ⟨⟨hW1, hW2, hD1, hD2, hr1, hr2⟩, -⟩ := hG
  have hPL := pl_b hW1 hW2 hD1 hD2 hr1 hr2
  have h3 := cz_b (fun P => tch W r (plx W r P) (ply W r P) ts (re P) p) (z := (W + 2 * r) * (D_ + 2 * r)) (by omega)
  have h4 : hc p = cz (fun P => tch W r (plx W r P) (ply W r P) ts (re P) p) ((W + 2 * r) * (D_ + 2 * r)) := h.1.2 p p0 p1
  omega
/-- a point's height, or its rod, is another -/
theorem pub_h {W D_ r cn q h_ : Int} {hs rs ts rt_ hc re ow tc cp ck wa rt' hc' re' ow' tc' : Int → Int} (h : PUB W D_ r hs rs ts rt_ hc re ow tc cp ck wa cn) (hh : 0 ≤ h_ ∧ h_ ≤ 200) (hB : BI W D_ r (zu ts q ((h_ + rs q) * 1048576)) re' tc' ow' hc') (hr : ∀ i j, 0 ≤ i → i < W → 0 ≤ j → j < D_ → (zu ts q ((h_ + rs q) * 1048576)) (j * W + i) ≤ rt' j ∧ rt' j ≤ 262144000) : PUB W D_ r (zu hs q h_) rs (zu ts q ((h_ + rs q) * 1048576)) rt' hc' re' ow' tc' cp ck wa cn := by
  refine ⟨hB, fun p p0 p1 => ?_, hr, h.2.2.2⟩
  have a := h.2.1 p p0 p1
  by_cases e : p = q
  · subst e; rw [zu_s, zu_s]; exact ⟨rfl, hh, a.2.2⟩
  · rw [zu_n _ _ e, zu_n _ _ e]; exact a
theorem pub_r {W D_ r cn q v : Int} {hs rs ts rt_ hc re ow tc cp ck wa rt' hc' re' ow' tc' : Int → Int} (h : PUB W D_ r hs rs ts rt_ hc re ow tc cp ck wa cn) (hh : 0 ≤ v ∧ v ≤ 50) (hB : BI W D_ r (zu ts q ((hs q + v) * 1048576)) re' tc' ow' hc') (hr : ∀ i j, 0 ≤ i → i < W → 0 ≤ j → j < D_ → (zu ts q ((hs q + v) * 1048576)) (j * W + i) ≤ rt' j ∧ rt' j ≤ 262144000) : PUB W D_ r hs (zu rs q v) (zu ts q ((hs q + v) * 1048576)) rt' hc' re' ow' tc' cp ck wa cn := by
  refine ⟨hB, fun p p0 p1 => ?_, hr, h.2.2.2⟩
  have a := h.2.1 p p0 p1
  by_cases e : p = q
  · subst e; rw [zu_s, zu_s]; exact ⟨rfl, a.2.1, hh⟩
  · rw [zu_n _ _ e, zu_n _ _ e]; exact a
