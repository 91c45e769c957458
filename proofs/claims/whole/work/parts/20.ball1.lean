/-- the class's world -/
def cW (cI cZ : ClassId) (a : Nat → Nat) (W D_ r sz : Int) (co ro ho ac al sd lf sq hs rs ts rt_ hc li re ow tc cp ck wa qp qt qs lo sb : Int → Int) (lc cn ch sk : Int) : va_W := [
  (a 0, .inr (0, [.int (iZ W), .int (iZ D_), .int (iZ r), .ref (a 1), .ref (a 14), .ref (a 21), .ref (a 29)])),
  (a 1, .inr (2, [.int (iZ W), .int (iZ D_), .int (iZ (W * D_)), .ref (a 2), .ref (a 3), .ref (a 4), .ref (a 5), .ref (a 6), .ref (a 7)])),
  (a 2, aI cI (W * D_) co),
  (a 3, aI cI (W * D_) ro),
  (a 4, aI cI (W * D_) hs),
  (a 5, aI cI (W * D_) rs),
  (a 6, aI cI (W * D_) ts),
  (a 7, aI cI D_ rt_),
  (a 8, .inr (3, [.int (iZ sz), .ref (a 9), .ref (a 10), .ref (a 11), .ref (a 12), .ref (a 13), .int (iZ (2 * r + 1))])),
  (a 9, aI cI sz ac),
  (a 10, aI cI sz al),
  (a 11, aI cI sz sd),
  (a 12, aI cI sz lf),
  (a 13, aI cI ((2 * r + 1) * (2 * r + 1)) sq),
  (a 14, .inr (1, [.ref (a 8), .ref (a 15), .ref (a 18), .int (iZ (r * 1048576)), .ref (a 19), .ref (a 16), .ref (a 17), .int (iZ lc), .ref (a 1), .int (iZ r), .int (iZ (W + 2 * r)), .ref (a 20)])),
  (a 15, aI cI (W * D_) ho),
  (a 16, aI cI (W * D_) hc),
  (a 17, aI cI (W * D_) li),
  (a 18, aI cI ((W + 2 * r) * (D_ + 2 * r)) re),
  (a 19, aI cI ((W + 2 * r) * (D_ + 2 * r)) ow),
  (a 20, aI cI ((W + 2 * r) * (D_ + 2 * r)) tc),
  (a 21, .inr (4, [.ref (a 22), .ref (a 23), .int (iZ cn), .ref (a 24), .ref (a 1), .ref (a 14), .ref (a 25), .ref (a 26), .ref (a 27), .int (iZ ch), .int (iZ sk), .ref (a 28)])),
  (a 22, aI cI 4 cp),
  (a 23, aI cI 4 ck),
  (a 24, aI cZ (W * D_) wa),
  (a 25, aI cI 8 qp),
  (a 26, aI cI 8 qt),
  (a 27, aI cI 8 qs),
  (a 28, aI cI (W * D_) lo),
  (a 29, aI cZ (W * D_) sb)]
section CL
variable {p : Program} {l : Launch} {e : Env} {s : State} {m : MethodId} {args : Array Value} {below : List Frame} {meth : Method} {c : Code} {Q : State → Prop} {D : va_G} {cI cZ cJ : ClassId} {SL : List zS} {A : Nat → Prop} {a : Nat → Nat} {W D_ r sz : Int} {co ro ho ac al sd lf sq : Int → Int} {hs rs ts rt_ hc li re ow tc cp ck wa qp qt qs lo sb : Int → Int} {lc cn ch sk : Int}
abbrev rmBA_placeIndex : Room := { frames := 0, cells := 0, slots := 0, locals := 0 }
set_option maxHeartbeats 4000000 in
set_option maxRecDepth 100000 in
theorem c_placeIndex {w0 : va_W} {b q0 : Nat} {fs : List Value} {x y r pA : Int} (he : w0[q0]? = some (b, .inr (1, fs))) (hr : fs[9]? = some (.int (iZ r))) (hp : fs[10]? = some (.int (iZ pA))) : CI l D vwCl cI cZ cJ SL yBA_placeIndex wsBA_placeIndex rmBA_placeIndex [.ref b, .int (iZ x), .int (iZ y)] w0 (fun z w1 => z = (y + r) * pA + (x + r) ∧ w1 = w0) := by
  refine tt_startI (by decide) rfl (Nat.le_of_ble_eq_true rfl) ?_
  intro p e s m args below meth c hnm F
  refine tt_iload_n F 2 rfl rfl dBA_placeIndex_0 ?_
  refine tt_aload_n F 0 rfl rfl dBA_placeIndex_1 ?_
  refine tt_get F inBA q0 he rfl 9 (by decide) we210 hr dBA_placeIndex_2 ?_
  refine tt_iadd F dBA_placeIndex_5 ?_
  refine tt_aload_n F 0 rfl rfl dBA_placeIndex_6 ?_
  refine tt_get F inBA q0 he rfl 10 (by decide) we211 hp dBA_placeIndex_7 ?_
  refine tt_imul F dBA_placeIndex_10 ?_
  refine tt_iload_n F 1 rfl rfl dBA_placeIndex_11 ?_
  refine tt_iadd F dBA_placeIndex_12 ?_
  refine tt_aload_n F 0 rfl rfl dBA_placeIndex_13 ?_
  refine tt_get F inBA q0 he rfl 9 (by decide) we210 hr dBA_placeIndex_14 ?_
  refine tt_iadd F dBA_placeIndex_17 ?_
  exact tt_iret F rfl (Nat.le_of_ble_eq_true rfl) (Nat.le_of_ble_eq_true rfl) dBA_placeIndex_18 ⟨by omega, rfl⟩
abbrev rmBA_restAt : Room := { frames := 1, cells := 0, slots := 0, locals := 22 }
set_option maxHeartbeats 4000000 in
set_option maxRecDepth 100000 in
theorem c_restAt {x y : Int} (hG : GE W D_ r sz co ro ho ac al sd lf sq) (hx : -r ≤ x ∧ x < W + r) (hy : -r ≤ y ∧ y < D_ + r) : CI l D vwCl cI cZ cJ SL yBA_restAt wsBA_restAt rmBA_restAt [.ref (a 14), .int (iZ x), .int (iZ y)] (cW cI cZ a W D_ r sz co ro ho ac al sd lf sq hs rs ts rt_ hc li re ow tc cp ck wa qp qt qs lo sb lc cn ch sk) (fun z w1 => z = re ((y + r) * (W + 2 * r) + (x + r)) ∧ w1 = (cW cI cZ a W D_ r sz co ro ho ac al sd lf sq hs rs ts rt_ hc li re ow tc cp ck wa qp qt qs lo sb lc cn ch sk)) := by
  refine tt_startI (by decide) rfl (Nat.le_of_ble_eq_true rfl) ?_
  intro p e s m args below meth c hnm F
  obtain ⟨⟨hW1, hW2, hD1, hD2, hr1, hr2⟩, hGp, hGs, hGk, hGx, hGi, hGm, hGq⟩ := id hG
  have hWD := wd_b hW1 hW2 hD1 hD2
  have hPL := pl_b hW1 hW2 hD1 hD2 hr1 hr2
  have hSQ := sd_b hr1 hr2
  have hpi := pl_in (W := W) (D_ := D_) (r := r) hx.1 hx.2 hy.1 hy.2
  refine tt_aload_n F 0 rfl rfl dBA_restAt_0 ?_
  refine tt_get F inBA 14 rfl rfl 2 (by decide) we193 rfl dBA_restAt_1 ?_
  refine tt_aload_n F 0 rfl rfl dBA_restAt_4 ?_
  refine tt_iload_n F 1 rfl rfl dBA_restAt_5 ?_
  refine tt_iload_n F 2 rfl rfl dBA_restAt_6 ?_
  refine tt_cIV0 F (fun h => h) (As := [.int (iZ x), .int (iZ y)]) 14 rfl rfl (c_placeIndex (q0 := 14) (x := x) (y := y) (r := r) (pA := W + 2 * r) (w0 := (cW cI cZ a W D_ r sz co ro ho ac al sd lf sq hs rs ts rt_ hc li re ow tc cp ck wa qp qt qs lo sb lc cn ch sk)) rfl rfl rfl) (cwV 2 F.1.2.2.2.2 (gw_V wd185 wd187 wd0 wd48 wd188) rfl rfl rfl (by decide +kernel) ⟨(Nat.le_of_ble_eq_true rfl), (Nat.le_of_ble_eq_true rfl)⟩) rfl rfl rfl (Nat.le_of_ble_eq_true rfl) ⟨(Nat.le_of_ble_eq_true rfl), (Nat.le_of_ble_eq_true rfl)⟩ dBA_restAt_7 (fun z7 w1 hp => ?_)
  obtain ⟨hz7, rfl⟩ := hp
  refine tt_iald F 18 rfl (by omega) (by omega) (by omega) dBA_restAt_10 ?_
  refine tt_name (fun x10 hx10 => ?_)
  exact tt_iret F rfl (Nat.le_of_ble_eq_true rfl) (Nat.le_of_ble_eq_true rfl) dBA_restAt_11 ⟨by rw [hx10, hz7], rfl⟩
abbrev rmBA_countTouched : Room := { frames := 1, cells := 0, slots := 0, locals := 22 }
set_option maxHeartbeats 4000000 in
set_option maxRecDepth 100000 in
theorem c_countTouched {x y : Int} (hG : GE W D_ r sz co ro ho ac al sd lf sq) (hx : -r ≤ x ∧ x < W + r) (hy : -r ≤ y ∧ y < D_ + r) : CI l D vwCl cI cZ cJ SL yBA_countTouched wsBA_countTouched rmBA_countTouched [.ref (a 14), .int (iZ x), .int (iZ y)] (cW cI cZ a W D_ r sz co ro ho ac al sd lf sq hs rs ts rt_ hc li re ow tc cp ck wa qp qt qs lo sb lc cn ch sk) (fun z w1 => z = tc ((y + r) * (W + 2 * r) + (x + r)) ∧ w1 = (cW cI cZ a W D_ r sz co ro ho ac al sd lf sq hs rs ts rt_ hc li re ow tc cp ck wa qp qt qs lo sb lc cn ch sk)) := by
  refine tt_startI (by decide) rfl (Nat.le_of_ble_eq_true rfl) ?_
  intro p e s m args below meth c hnm F
  obtain ⟨⟨hW1, hW2, hD1, hD2, hr1, hr2⟩, hGp, hGs, hGk, hGx, hGi, hGm, hGq⟩ := id hG
  have hWD := wd_b hW1 hW2 hD1 hD2
  have hPL := pl_b hW1 hW2 hD1 hD2 hr1 hr2
  have hSQ := sd_b hr1 hr2
  have hpi := pl_in (W := W) (D_ := D_) (r := r) hx.1 hx.2 hy.1 hy.2
  refine tt_aload_n F 0 rfl rfl dBA_countTouched_0 ?_
  refine tt_get F inBA 14 rfl rfl 11 (by decide) we212 rfl dBA_countTouched_1 ?_
  refine tt_aload_n F 0 rfl rfl dBA_countTouched_4 ?_
  refine tt_iload_n F 1 rfl rfl dBA_countTouched_5 ?_
  refine tt_iload_n F 2 rfl rfl dBA_countTouched_6 ?_
  refine tt_cIV0 F (fun h => h) (As := [.int (iZ x), .int (iZ y)]) 14 rfl rfl (c_placeIndex (q0 := 14) (x := x) (y := y) (r := r) (pA := W + 2 * r) (w0 := (cW cI cZ a W D_ r sz co ro ho ac al sd lf sq hs rs ts rt_ hc li re ow tc cp ck wa qp qt qs lo sb lc cn ch sk)) rfl rfl rfl) (cwV 2 F.1.2.2.2.2 (gw_V wd185 wd187 wd0 wd48 wd188) rfl rfl rfl (by decide +kernel) ⟨(Nat.le_of_ble_eq_true rfl), (Nat.le_of_ble_eq_true rfl)⟩) rfl rfl rfl (Nat.le_of_ble_eq_true rfl) ⟨(Nat.le_of_ble_eq_true rfl), (Nat.le_of_ble_eq_true rfl)⟩ dBA_countTouched_7 (fun z7 w1 hp => ?_)
  obtain ⟨hz7, rfl⟩ := hp
  refine tt_iald F 20 rfl (by omega) (by omega) (by omega) dBA_countTouched_10 ?_
  refine tt_name (fun x10 hx10 => ?_)
  exact tt_iret F rfl (Nat.le_of_ble_eq_true rfl) (Nat.le_of_ble_eq_true rfl) dBA_countTouched_11 ⟨by rw [hx10, hz7], rfl⟩
abbrev rmBA_isSafe : Room := { frames := 0, cells := 0, slots := 0, locals := 0 }
set_option maxHeartbeats 4000000 in
set_option maxRecDepth 100000 in
theorem c_isSafe {q : Int} (hG : GE W D_ r sz co ro ho ac al sd lf sq) (hq : 0 ≤ q ∧ q < W * D_) (hc0 : ir (hc q)) : CI l D vwCl cI cZ cJ SL yBA_isSafe wsBA_isSafe rmBA_isSafe [.ref (a 14), .int (iZ q)] (cW cI cZ a W D_ r sz co ro ho ac al sd lf sq hs rs ts rt_ hc li re ow tc cp ck wa qp qt qs lo sb lc cn ch sk) (fun z w1 => z = bi (decide (hc q = 0)) ∧ w1 = (cW cI cZ a W D_ r sz co ro ho ac al sd lf sq hs rs ts rt_ hc li re ow tc cp ck wa qp qt qs lo sb lc cn ch sk)) := by
  refine tt_startI (by decide) rfl (Nat.le_of_ble_eq_true rfl) ?_
  intro p e s m args below meth c hnm F
  obtain ⟨⟨hW1, hW2, hD1, hD2, hr1, hr2⟩, hGp, hGs, hGk, hGx, hGi, hGm, hGq⟩ := id hG
  have hWD := wd_b hW1 hW2 hD1 hD2
  have hPL := pl_b hW1 hW2 hD1 hD2 hr1 hr2
  have hSQ := sd_b hr1 hr2
  refine tt_aload_n F 0 rfl rfl dBA_isSafe_0 ?_
  refine tt_get F inBA 14 rfl rfl 5 (by decide) we200 rfl dBA_isSafe_1 ?_
  refine tt_iload_n F 1 rfl rfl dBA_isSafe_4 ?_
  refine tt_iald F 16 rfl (by omega) (by omega) (by omega) dBA_isSafe_5 ?_
  refine tt_name (fun x5 hx5 => ?_)
  refine tt_if_ne F 13 (by rw [hx5]; exact hc0) dBA_isSafe_6 (by decide) (fun c6 => ?_) (fun c6 => ?_)
  · skip
    refine tt_iconst F dBA_isSafe_13 ?_
    exact tt_zret F rfl (by omega) (Nat.le_of_ble_eq_true rfl) (Nat.le_of_ble_eq_true rfl) dBA_isSafe_14 ⟨by simp [bi]; omega, rfl⟩
  · skip
    refine tt_iconst F dBA_isSafe_9 ?_
    refine tt_goto F 14 (by decide) dBA_isSafe_10 ?_
    exact tt_zret F rfl (by omega) (Nat.le_of_ble_eq_true rfl) (Nat.le_of_ble_eq_true rfl) dBA_isSafe_14 ⟨by simp [bi]; omega, rfl⟩
abbrev rmHO_tipWith : Room := { frames := 0, cells := 0, slots := 0, locals := 0 }
set_option maxHeartbeats 4000000 in
set_option maxRecDepth 100000 in
theorem c_tipWith {q v : Int} (hG : GE W D_ r sz co ro ho ac al sd lf sq) (hq : 0 ≤ q ∧ q < W * D_) : CI l D vwCl cI cZ cJ SL yHO_tipWith wsHO_tipWith rmHO_tipWith [.ref (a 1), .int (iZ q), .int (iZ v)] (cW cI cZ a W D_ r sz co ro ho ac al sd lf sq hs rs ts rt_ hc li re ow tc cp ck wa qp qt qs lo sb lc cn ch sk) (fun z w1 => z = (hs q + v) * 1048576 ∧ w1 = (cW cI cZ a W D_ r sz co ro ho ac al sd lf sq hs rs ts rt_ hc li re ow tc cp ck wa qp qt qs lo sb lc cn ch sk)) := by
  refine tt_startI (by decide) rfl (Nat.le_of_ble_eq_true rfl) ?_
  intro p e s m args below meth c hnm F
  obtain ⟨⟨hW1, hW2, hD1, hD2, hr1, hr2⟩, hGp, hGs, hGk, hGx, hGi, hGm, hGq⟩ := id hG
  have hWD := wd_b hW1 hW2 hD1 hD2
  have hPL := pl_b hW1 hW2 hD1 hD2 hr1 hr2
  have hSQ := sd_b hr1 hr2
  refine tt_aload_n F 0 rfl rfl dHO_tipWith_0 ?_
  refine tt_get F inHO 1 rfl rfl 5 (by decide) we100 rfl dHO_tipWith_1 ?_
  refine tt_iload_n F 1 rfl rfl dHO_tipWith_4 ?_
  refine tt_iald F 4 rfl (by omega) (by omega) (by omega) dHO_tipWith_5 ?_
  refine tt_name (fun x5 hx5 => ?_)
  refine tt_iload_n F 2 rfl rfl dHO_tipWith_6 ?_
  refine tt_iadd F dHO_tipWith_7 ?_
  refine tt_ldc F (n := 1048576) we346 dHO_tipWith_8 ?_
  refine tt_imul F dHO_tipWith_10 ?_
  exact tt_iret F rfl (Nat.le_of_ble_eq_true rfl) (Nat.le_of_ble_eq_true rfl) dHO_tipWith_11 ⟨by rw [hx5], rfl⟩
abbrev rmHO_setTip : Room := { frames := 1, cells := 0, slots := 0, locals := 14 }
set_option maxHeartbeats 4000000 in
set_option maxRecDepth 100000 in
theorem setTip_loop {row : Int} (F : FX p s m args meth c cHO_setTip 6 none wsHO_setTip RHO D vwCl cI cZ cJ SL A) (hG : GE W D_ r sz co ro ho ac al sd lf sq) (hts : ∀ p, 0 ≤ p → p < W * D_ → 0 ≤ ts p ∧ ts p ≤ 262144000) (hrow : 0 ≤ row ∧ row < D_)
    (k : ∀ (each top : Int), 0 ≤ top ∧ top ≤ 262144000 → (∀ p, row * W ≤ p → p < row * W + W → ts p ≤ top) → TT p l e rmHO_setTip s m args below meth c D vwCl A 6 False Q 61 [(0, .ref (a 1)), (3, .int (iZ row)), (4, .int (iZ top)), (5, .int (iZ each))] [] (cW cI cZ a W D_ r sz co ro ho ac al sd lf sq hs rs ts rt_ hc li re ow tc cp ck wa qp qt qs lo sb lc cn ch sk) 0 0) :
    ∀ (n : Nat) (each top : Int), (row * W + W - each).toNat < n → row * W ≤ each ∧ each ≤ row * W + W → 0 ≤ top ∧ top ≤ 262144000 → (∀ p, row * W ≤ p → p < each → ts p ≤ top) → TT p l e rmHO_setTip s m args below meth c D vwCl A 6 False Q 25 [(0, .ref (a 1)), (3, .int (iZ row)), (4, .int (iZ top)), (5, .int (iZ each))] [] (cW cI cZ a W D_ r sz co ro ho ac al sd lf sq hs rs ts rt_ hc li re ow tc cp ck wa qp qt qs lo sb lc cn ch sk) 0 0 := by
  intro n
  induction n with
  | zero => intro each top hn; omega
  | succ n ih =>
    intro each top hn he ht I
    obtain ⟨⟨hW1, hW2, hD1, hD2, hr1, hr2⟩, hGp, hGs, hGk, hGx, hGi, hGm, hGq⟩ := id hG
    have hWD := wd_b hW1 hW2 hD1 hD2
    have hPL := pl_b hW1 hW2 hD1 hD2 hr1 hr2
    have hSQ := sd_b hr1 hr2
    have hm0 := Int.mul_nonneg (a := row) (b := W) (by omega) (by omega)
    have hm1 := (ix_b (i := W - 1) (j := row) (W := W) (D := D_) (by omega) (by omega) (by omega) (by omega)).2
    refine tt_iload F 3 rfl dHO_setTip_25 ?_
    refine tt_iload_n F 1 rfl rfl dHO_setTip_27 ?_
    refine tt_aload_n F 0 rfl rfl dHO_setTip_28 ?_
    refine tt_get F inHO 1 rfl rfl 0 (by decide) we84 rfl dHO_setTip_29 ?_
    refine tt_imul F dHO_setTip_32 ?_
    refine tt_aload_n F 0 rfl rfl dHO_setTip_33 ?_
    refine tt_get F inHO 1 rfl rfl 0 (by decide) we84 rfl dHO_setTip_34 ?_
    refine tt_iadd F dHO_setTip_37 ?_
    refine tt_icmp_ge F 61 ⟨by omega, by omega⟩ ⟨by omega, by omega⟩ dHO_setTip_38 (by decide) (fun c38 => ?_) (fun c38 => ?_)
    · skip
      refine tt_sub [0, 1, 2, 3] rfl ?_
      exact k each top ht (fun p h1 h2 => I p h1 (by omega))
    · skip
      have hte := hts each (by omega) (by omega)
      refine tt_iload F 2 rfl dHO_setTip_41 ?_
      refine tt_aload_n F 0 rfl rfl dHO_setTip_43 ?_
      refine tt_get F inHO 1 rfl rfl 7 (by decide) we104 rfl dHO_setTip_44 ?_
      refine tt_iload F 3 rfl dHO_setTip_47 ?_
      refine tt_iald F 6 rfl (by omega) (by omega) (by omega) dHO_setTip_49 ?_
      refine tt_name (fun x49 hx49 => ?_)
      refine tt_mmax F ⟨by omega, by omega⟩ ⟨by omega, by omega⟩ we465 we76 we46 we77 (Nat.le_of_ble_eq_true rfl) (Nat.le_of_ble_eq_true rfl) (Nat.le_of_ble_eq_true rfl) (Nat.le_of_ble_eq_true rfl) dHO_setTip_50 ?_
      refine tt_name (fun x50 hx50 => ?_)
      have hbx50 : (top < x49 ∧ x50 = x49) ∨ (x49 ≤ top ∧ x50 = top) := by rw [hx50]; split <;> omega
      refine tt_istore F [(4, .int (iZ x50)), (0, .ref (a 1)), (3, .int (iZ row)), (5, .int (iZ each))] (by decide) rfl dHO_setTip_53 ?_
      refine tt_iinc F 3 [(5, .int (iZ (each + 1))), (4, .int (iZ x50)), (0, .ref (a 1)), (3, .int (iZ row))] rfl (by decide) rfl dHO_setTip_55 ?_
      refine tt_goto F 25 (by decide) dHO_setTip_58 ?_
      refine tt_sub [2, 3, 1, 0] rfl ?_
      exact ih (each + 1) x50 (by omega) (by omega) (by omega) (fun p h1 h2 => if e : p = each then (by rw [e, ← hx49]; omega) else (by have := I p h1 (by omega); omega))
set_option maxHeartbeats 4000000 in
set_option maxRecDepth 100000 in
theorem c_setTip {q t : Int} (hG : GE W D_ r sz co ro ho ac al sd lf sq) (hq : 0 ≤ q ∧ q < W * D_) (ht : 0 ≤ t ∧ t ≤ 262144000) (hts : ∀ p, 0 ≤ p → p < W * D_ → 0 ≤ ts p ∧ ts p ≤ 262144000) : CV l D vwCl cI cZ cJ SL yHO_setTip wsHO_setTip rmHO_setTip [.ref (a 1), .int (iZ q), .int (iZ t)] (cW cI cZ a W D_ r sz co ro ho ac al sd lf sq hs rs ts rt_ hc li re ow tc cp ck wa qp qt qs lo sb lc cn ch sk) (fun w1 => ∃ top, w1 = (cW cI cZ a W D_ r sz co ro ho ac al sd lf sq hs rs (zu ts q t) (zu rt_ (ro q) top) hc li re ow tc cp ck wa qp qt qs lo sb lc cn ch sk) ∧ (0 ≤ top ∧ top ≤ 262144000) ∧ ∀ p, ro q * W ≤ p → p < ro q * W + W → zu ts q t p ≤ top) := by
  refine tt_startV (by decide) rfl (Nat.le_of_ble_eq_true rfl) ?_
  intro p e s m args below meth c hnm F
  obtain ⟨⟨hW1, hW2, hD1, hD2, hr1, hr2⟩, hGp, hGs, hGk, hGx, hGi, hGm, hGq⟩ := id hG
  have hWD := wd_b hW1 hW2 hD1 hD2
  have hPL := pl_b hW1 hW2 hD1 hD2 hr1 hr2
  have hSQ := sd_b hr1 hr2
  have hqo := ix_of (p := q) (W := W) (D := D_) (by omega) hq.1 hq.2
  have hgp := hGp (q % W) (q / W) hqo.1 hqo.2.1 hqo.2.2.1 hqo.2.2.2.1
  rw [hqo.2.2.2.2] at hgp
  refine tt_aload_n F 0 rfl rfl dHO_setTip_0 ?_
  refine tt_get F inHO 1 rfl rfl 7 (by decide) we104 rfl dHO_setTip_1 ?_
  refine tt_iload_n F 1 rfl rfl dHO_setTip_4 ?_
  refine tt_iload_n F 2 rfl rfl dHO_setTip_5 ?_
  refine tt_iast F (fun h => h) 6 rfl (by omega) (by omega) (by omega) dHO_setTip_6 ?_
  refine tt_aload_n F 0 rfl rfl dHO_setTip_7 ?_
  refine tt_get F inHO 1 rfl rfl 4 (by decide) we96 rfl dHO_setTip_8 ?_
  refine tt_iload_n F 1 rfl rfl dHO_setTip_11 ?_
  refine tt_iald F 3 rfl (by omega) (by omega) (by omega) dHO_setTip_12 ?_
  refine tt_name (fun x12 hx12 => ?_)
  refine tt_istore_n F [(3, .int (iZ x12)), (0, .ref (a 1)), (1, .int (iZ q)), (2, .int (iZ t))] rfl (by decide) rfl dHO_setTip_13 ?_
  refine tt_iconst F dHO_setTip_14 ?_
  refine tt_istore F [(4, .int (iZ 0)), (3, .int (iZ x12)), (0, .ref (a 1)), (1, .int (iZ q)), (2, .int (iZ t))] (by decide) rfl dHO_setTip_15 ?_
  refine tt_iload_n F 1 rfl rfl dHO_setTip_17 ?_
  refine tt_aload_n F 2 rfl rfl dHO_setTip_18 ?_
  refine tt_get F inHO 1 rfl rfl 0 (by decide) we84 rfl dHO_setTip_19 ?_
  refine tt_imul F dHO_setTip_22 ?_
  refine tt_name (fun each0 heach0 => ?_)
  refine tt_istore F [(5, .int (iZ each0)), (4, .int (iZ 0)), (3, .int (iZ x12)), (0, .ref (a 1)), (1, .int (iZ q)), (2, .int (iZ t))] (by decide) rfl dHO_setTip_23 ?_
  refine tt_sub [3, 2, 1, 0] rfl ?_
  refine setTip_loop (ts := zu ts q t) F hG (fun p h1 h2 => if e : p = q then (by rw [e, zu_s]; exact ht) else (by rw [zu_n _ _ e]; exact hts p h1 h2)) (row := x12) (by omega) (fun each top ht2 I => ?_) (W.toNat + 1) _ 0 (by omega) (by omega) (by omega) (fun p h1 h2 => by omega)
  refine tt_aload_n F 0 rfl rfl dHO_setTip_61 ?_
  refine tt_get F inHO 1 rfl rfl 8 (by decide) we107 rfl dHO_setTip_62 ?_
  refine tt_iload_n F 1 rfl rfl dHO_setTip_65 ?_
  refine tt_iload F 2 rfl dHO_setTip_66 ?_
  refine tt_iast F (fun h => h) 7 rfl (by omega) (by omega) (by omega) dHO_setTip_68 ?_
  exact tt_vret F rfl (Nat.le_of_ble_eq_true rfl) (Nat.le_of_ble_eq_true rfl) dHO_setTip_69 ⟨top, by rw [hx12]; rfl, ht2, by rw [← hx12]; exact I⟩
abbrev rmBA_climb : Room := { frames := 0, cells := 0, slots := 0, locals := 0 }
theorem climb_low {W r x y fx lx nx row rest tv : Int} {tq : Int → Int} (hr1 : 1 ≤ r) (hr2 : r ≤ 10) (hX : 0 ≤ fx ∧ fx ≤ lx ∧ lx < W ∧ x - r ≤ fx ∧ lx ≤ x + r) (hX1 : ∀ q, 0 ≤ q → q < fx → q - x < -r) (hX2 : ∀ q, lx < q → q < W → r < q - x) (hN1 : ∀ q, fx ≤ q → q ≤ lx → (0 ≤ nx - x ∧ nx - x ≤ q - x) ∨ (q - x ≤ nx - x ∧ nx - x ≤ 0)) (ht : ∀ q, 0 ≤ q → q < W → tq (row * W + q) ≤ tv ∧ tq (row * W + q) ≤ 262144000) (hrest : 0 ≤ rest) (h : tv + lift r (nx - x) (row - y) < rest) : ∀ q, 0 ≤ q → q < W → rch W r x y tq (row * W + q) < rest := by
  intro q q0 q1
  have h1 := ht q q0 q1
  rw [rch_ij q0 q1]
  by_cases c1 : q < fx
  · rw [lift_out hr1 (Or.inl (hX1 q q0 c1))]; omega
  · by_cases c2 : lx < q
    · rw [lift_out hr1 (Or.inr (Or.inl (hX2 q c2 q1)))]; omega
    · have h2 := sq_le (hN1 q (by omega) (by omega))
      have h3 := lift_le (r := r) (dx := nx - x) (dx' := q - x) (dy := row - y) (dy' := row - y) hr1 hr2 (by omega)
      omega
theorem cl_b {W r x y at_ N z rest cnt : Int} {tq li : Int → Int} (hr1 : 1 ≤ r) (hr2 : r ≤ 10) (hq : ∀ p, 0 ≤ p → p < N → tq p ≤ 262144000) (ha : at_ ≤ 1000000000) (I : clI W r x y at_ N tq z rest cnt li) : rest ≤ 1000000000 := by
  rcases I.2.1 with q | ⟨p, q1, q2, q3⟩
  · omega
  · rw [rch] at q3
    have h1 := hq p q1 q2
    have h2 := lift_b (r := r) (dx := p % W - x) (dy := p / W - y) hr1 hr2
    omega
theorem climb_in {b q0 : Nat} {tq : Int → Int} {x y at_ fx lx fy ly nx : Int} {row cel : Int} (F : FX p s m args meth c cBA_climb 22 (some .int) wsBA_climb RBA D vwCl cI cZ cJ SL A) (hG : GE W D_ r sz co ro ho ac al sd lf sq) (he : ∀ (li : Int → Int) (lc : Int), (cW cI cZ a W D_ r sz co ro ho ac al sd lf sq hs rs ts rt_ hc li re ow tc cp ck wa qp qt qs lo sb lc cn ch sk)[q0]? = some (b, aI cI (W * D_) tq)) (hq : ∀ p, 0 ≤ p → p < W * D_ → 0 ≤ tq p ∧ tq p ≤ ts p ∧ ts p ≤ 262144000) (hrt : ∀ i j, 0 ≤ i → i < W → 0 ≤ j → j < D_ → ts (j * W + i) ≤ rt_ j ∧ rt_ j ≤ 262144000) (hx : -r ≤ x ∧ x < W + r) (hy : -r ≤ y ∧ y < D_ + r) (ha : 0 ≤ at_ ∧ at_ ≤ 1000000000) (hX : 0 ≤ fx ∧ fx ≤ lx ∧ lx < W ∧ x - r ≤ fx ∧ lx ≤ x + r) (hX1 : ∀ q, 0 ≤ q → q < fx → q - x < -r) (hX2 : ∀ q, lx < q → q < W → r < q - x) (hY : 0 ≤ fy ∧ fy ≤ ly ∧ ly < D_ ∧ y - r ≤ fy ∧ ly ≤ y + r) (hY1 : ∀ q, 0 ≤ q → q < fy → q - y < -r) (hY2 : ∀ q, ly < q → q < D_ → r < q - y) (hN : fx ≤ nx ∧ nx ≤ lx) (hN1 : ∀ q, fx ≤ q → q ≤ lx → (0 ≤ nx - x ∧ nx - x ≤ q - x) ∨ (q - x ≤ nx - x ∧ nx - x ≤ 0)) (hrow : fy ≤ row ∧ row ≤ ly) (hcel : cel = (row - y + r) * (2 * r + 1) + r - x)
    (k : ∀ (rest cnt : Int) (li : Int → Int), clI W r x y at_ (W * D_) tq ((row + 1) * W) rest cnt li → TT p l e rmBA_climb s m args below meth c D vwCl A 22 False Q 373 [(0, .ref (a 14)), (1, .ref b), (5, .ref (a 13)), (6, .ref (a 7)), (7, .int (iZ W)), (8, .int (iZ (2 * r + 1))), (9, .int (iZ lx)), (10, .int (iZ ly)), (11, .int (iZ fx)), (13, .int (iZ nx)), (16, .int (iZ cel)), (17, .int (iZ rest)), (18, .int (iZ cnt)), (19, .int (iZ row))] [] (cW cI cZ a W D_ r sz co ro ho ac al sd lf sq hs rs ts rt_ hc li re ow tc cp ck wa qp qt qs lo sb lc cn ch sk) 0 0) :
    ∀ (n : Nat) (col rest cnt : Int) (li : Int → Int), (lx + 1 - col).toNat < n → fx ≤ col → col ≤ lx + 1 → clI W r x y at_ (W * D_) tq (row * W + col) rest cnt li → TT p l e rmBA_climb s m args below meth c D vwCl A 22 False Q 300 [(0, .ref (a 14)), (1, .ref b), (5, .ref (a 13)), (6, .ref (a 7)), (7, .int (iZ W)), (8, .int (iZ (2 * r + 1))), (9, .int (iZ lx)), (10, .int (iZ ly)), (11, .int (iZ fx)), (13, .int (iZ nx)), (16, .int (iZ cel)), (17, .int (iZ rest)), (18, .int (iZ cnt)), (19, .int (iZ row)), (20, .int (iZ col))] [] (cW cI cZ a W D_ r sz co ro ho ac al sd lf sq hs rs ts rt_ hc li re ow tc cp ck wa qp qt qs lo sb lc cn ch sk) 0 0 := by
  intro n
  induction n with
  | zero => intro col rest cnt li hn; omega
  | succ n ih =>
    intro col rest cnt li hn hc1 hc2 I
    obtain ⟨⟨hW1, hW2, hD1, hD2, hr1, hr2⟩, hGp, hGs, hGk, hGx, hGi, hGm, hGq⟩ := id hG
    have hWD := wd_b hW1 hW2 hD1 hD2
    have hSQ := sd_b hr1 hr2
    have hrest : 0 ≤ rest := by have := I.1; omega
    have hrest2 := cl_b hr1 hr2 (fun p h1 h2 => by have := hq p h1 h2; omega) ha.2 I
    have hm0 := Int.mul_nonneg (a := row) (b := W) (by omega) (by omega)
    have hcnt := lsts_b (by omega) I.2.2.2
    refine tt_iload F 14 rfl dBA_climb_300 ?_
    refine tt_iload F 6 rfl dBA_climb_302 ?_
    refine tt_icmp_gt F 373 ⟨by omega, by omega⟩ ⟨by omega, by omega⟩ dBA_climb_304 (by decide) (fun c304 => ?_) (fun c304 => ?_)
    · skip
      refine tt_sub [0, 1, 2, 3, 4, 5, 6, 7, 8, 9, 10, 11, 12, 13] rfl ?_
      refine k rest cnt li ?_
      rw [rw_s]
      exact cl_row (by omega) (by omega) (Int.le_refl W) (by omega) (fun q q0 q1 => by have h1 := hq (row * W + q) (ix_b (i := q) (j := row) (W := W) (D := D_) (by omega) (by omega) (by omega) (by omega)).1 (ix_b (i := q) (j := row) (W := W) (D := D_) (by omega) (by omega) (by omega) (by omega)).2; have h2 := rch_far (W := W) (x := x) (y := y) (i := q) (j := row) (tq := tq) hr1 (by omega) (by omega) (by omega) (Or.inr (Or.inl (hX2 q (by omega) (by omega)))); have := I.1; omega) I
    · skip
      have hq1 := hq (row * W + col) (ix_b (i := col) (j := row) (W := W) (D := D_) (by omega) (by omega) (by omega) (by omega)).1 (ix_b (i := col) (j := row) (W := W) (D := D_) (by omega) (by omega) (by omega) (by omega)).2
      have hix := ix_b (i := col) (j := row) (W := W) (D := D_) (by omega) (by omega) (by omega) (by omega)
      have his := ix_b (i := col - x + r) (j := row - y + r) (W := 2 * r + 1) (D := 2 * r + 1) (by omega) (by omega) (by omega) (by omega)
      have hsq := hGq (col - x) (row - y) (by omega) (by omega) (by omega) (by omega)
      have hsx : cel + col = (row - y + r) * (2 * r + 1) + (col - x + r) := by omega
      have hlb := lift_b (dx := col - x) (dy := row - y) hr1 hr2
      refine tt_aload_n F 1 rfl rfl dBA_climb_307 ?_
      refine tt_iload F 13 rfl dBA_climb_308 ?_
      refine tt_iload F 4 rfl dBA_climb_310 ?_
      refine tt_imul F dBA_climb_312 ?_
      refine tt_iload F 14 rfl dBA_climb_313 ?_
      refine tt_iadd F dBA_climb_315 ?_
      refine tt_iald F q0 (he _ _) (by omega) (by omega) (by omega) dBA_climb_316 ?_
      refine tt_name (fun tv htv => ?_)
      refine tt_aload F 2 rfl dBA_climb_317 ?_
      refine tt_iload F 10 rfl dBA_climb_319 ?_
      refine tt_iload F 14 rfl dBA_climb_321 ?_
      refine tt_iadd F dBA_climb_323 ?_
      refine tt_iald F 13 rfl (by omega) (by omega) (by omega) dBA_climb_324 ?_
      refine tt_name (fun sv hsv => ?_)
      have hsv2 : sv = lift r (col - x) (row - y) := by rw [hsv, hsx]; exact hsq
      refine tt_iadd F dBA_climb_325 ?_
      refine tt_name (fun rv hrv => ?_)
      have hrv2 : rch W r x y tq (row * W + col) = rv := by rw [rch_ij (by omega) (by omega), hrv, htv, hsv2]
      have hz0 : 0 ≤ row * W + col := by omega
      refine tt_istore F [(21, .int (iZ rv)), (0, .ref (a 14)), (1, .ref b), (5, .ref (a 13)), (6, .ref (a 7)), (7, .int (iZ W)), (8, .int (iZ (2 * r + 1))), (9, .int (iZ lx)), (10, .int (iZ ly)), (11, .int (iZ fx)), (13, .int (iZ nx)), (16, .int (iZ cel)), (17, .int (iZ rest)), (18, .int (iZ cnt)), (19, .int (iZ row)), (20, .int (iZ col))] (by decide) rfl dBA_climb_326 ?_
      refine tt_iload F 0 rfl dBA_climb_328 ?_
      refine tt_iload F 12 rfl dBA_climb_330 ?_
      refine tt_icmp_le F 342 ⟨by omega, by omega⟩ ⟨by omega, by omega⟩ dBA_climb_332 (by decide) (fun c332 => ?_) (fun c332 => ?_)
      · skip
        refine tt_iload F 0 rfl dBA_climb_342 ?_
        refine tt_iload F 12 rfl dBA_climb_344 ?_
        refine tt_icmp_ne F 367 ⟨by omega, by omega⟩ ⟨by omega, by omega⟩ dBA_climb_346 (by decide) (fun c346 => ?_) (fun c346 => ?_)
        · skip
          refine tt_iinc F 15 [(20, .int (iZ (col + 1))), (21, .int (iZ rv)), (0, .ref (a 14)), (1, .ref b), (5, .ref (a 13)), (6, .ref (a 7)), (7, .int (iZ W)), (8, .int (iZ (2 * r + 1))), (9, .int (iZ lx)), (10, .int (iZ ly)), (11, .int (iZ fx)), (13, .int (iZ nx)), (16, .int (iZ cel)), (17, .int (iZ rest)), (18, .int (iZ cnt)), (19, .int (iZ row))] rfl (by decide) rfl dBA_climb_367 ?_
          refine tt_goto F 300 (by decide) dBA_climb_370 ?_
          refine tt_sub [2, 3, 4, 5, 6, 7, 8, 9, 10, 11, 12, 13, 14, 15, 0] rfl ?_
          exact ih (col + 1) rest cnt li (by omega) (by omega) (by omega) (by have I2 := cl_lt hz0 (by omega) I; rw [Int.add_assoc] at I2; exact I2)
        · skip
          refine tt_aload_n F 1 rfl rfl dBA_climb_349 ?_
          refine tt_get F inBA 14 rfl rfl 6 (by decide) we203 rfl dBA_climb_350 ?_
          refine tt_iload F 13 rfl dBA_climb_353 ?_
          refine tt_iload F 14 rfl dBA_climb_355 ?_
          refine tt_iload F 5 rfl dBA_climb_357 ?_
          refine tt_imul F dBA_climb_359 ?_
          refine tt_iload F 15 rfl dBA_climb_360 ?_
          refine tt_iadd F dBA_climb_362 ?_
          refine tt_iast F (fun h => h) 17 rfl (by omega) (by omega) (by omega) dBA_climb_363 ?_
          refine tt_iinc F 13 [(18, .int (iZ (cnt + 1))), (21, .int (iZ rv)), (0, .ref (a 14)), (1, .ref b), (5, .ref (a 13)), (6, .ref (a 7)), (7, .int (iZ W)), (8, .int (iZ (2 * r + 1))), (9, .int (iZ lx)), (10, .int (iZ ly)), (11, .int (iZ fx)), (13, .int (iZ nx)), (16, .int (iZ cel)), (17, .int (iZ rest)), (19, .int (iZ row)), (20, .int (iZ col))] rfl (by decide) rfl dBA_climb_364 ?_
          refine tt_iinc F 15 [(20, .int (iZ (col + 1))), (18, .int (iZ (cnt + 1))), (21, .int (iZ rv)), (0, .ref (a 14)), (1, .ref b), (5, .ref (a 13)), (6, .ref (a 7)), (7, .int (iZ W)), (8, .int (iZ (2 * r + 1))), (9, .int (iZ lx)), (10, .int (iZ ly)), (11, .int (iZ fx)), (13, .int (iZ nx)), (16, .int (iZ cel)), (17, .int (iZ rest)), (19, .int (iZ row))] rfl (by decide) rfl dBA_climb_367 ?_
          refine tt_goto F 300 (by decide) dBA_climb_370 ?_
          refine tt_sub [3, 4, 5, 6, 7, 8, 9, 10, 11, 12, 13, 14, 1, 15, 0] rfl ?_
          exact ih (col + 1) rest (cnt + 1) (zu li cnt ((row * W) + col)) (by omega) (by omega) (by omega) (by have I2 := cl_eq hz0 (by omega) I; rw [Int.add_assoc] at I2; exact I2)
      · skip
        refine tt_iload F 0 rfl dBA_climb_335 ?_
        refine tt_istore F [(17, .int (iZ rv)), (21, .int (iZ rv)), (0, .ref (a 14)), (1, .ref b), (5, .ref (a 13)), (6, .ref (a 7)), (7, .int (iZ W)), (8, .int (iZ (2 * r + 1))), (9, .int (iZ lx)), (10, .int (iZ ly)), (11, .int (iZ fx)), (13, .int (iZ nx)), (16, .int (iZ cel)), (18, .int (iZ cnt)), (19, .int (iZ row)), (20, .int (iZ col))] (by decide) rfl dBA_climb_337 ?_
        refine tt_iconst F dBA_climb_339 ?_
        refine tt_istore F [(18, .int (iZ 0)), (17, .int (iZ rv)), (21, .int (iZ rv)), (0, .ref (a 14)), (1, .ref b), (5, .ref (a 13)), (6, .ref (a 7)), (7, .int (iZ W)), (8, .int (iZ (2 * r + 1))), (9, .int (iZ lx)), (10, .int (iZ ly)), (11, .int (iZ fx)), (13, .int (iZ nx)), (16, .int (iZ cel)), (19, .int (iZ row)), (20, .int (iZ col))] (by decide) rfl dBA_climb_340 ?_
        refine tt_iload F 2 rfl dBA_climb_342 ?_
        refine tt_iload F 1 rfl dBA_climb_344 ?_
        refine tt_icmp_ne F 367 ⟨by omega, by omega⟩ ⟨by omega, by omega⟩ dBA_climb_346 (by decide) (fun c346 => ?_) (fun c346 => ?_)
        · skip
          refine tt_iinc F 15 [(20, .int (iZ (col + 1))), (18, .int (iZ 0)), (17, .int (iZ rv)), (21, .int (iZ rv)), (0, .ref (a 14)), (1, .ref b), (5, .ref (a 13)), (6, .ref (a 7)), (7, .int (iZ W)), (8, .int (iZ (2 * r + 1))), (9, .int (iZ lx)), (10, .int (iZ ly)), (11, .int (iZ fx)), (13, .int (iZ nx)), (16, .int (iZ cel)), (19, .int (iZ row))] rfl (by decide) rfl dBA_climb_367 ?_
          refine tt_goto F 300 (by decide) dBA_climb_370 ?_
          refine tt_sub [4, 5, 6, 7, 8, 9, 10, 11, 12, 13, 14, 2, 1, 15, 0] rfl ?_
          exact ih (col + 1) rv 0 li (by omega) (by omega) (by omega) (absurd rfl c346)
        · skip
          refine tt_aload_n F 3 rfl rfl dBA_climb_349 ?_
          refine tt_get F inBA 14 rfl rfl 6 (by decide) we203 rfl dBA_climb_350 ?_
          refine tt_iload F 0 rfl dBA_climb_353 ?_
          refine tt_iload F 14 rfl dBA_climb_355 ?_
          refine tt_iload F 7 rfl dBA_climb_357 ?_
          refine tt_imul F dBA_climb_359 ?_
          refine tt_iload F 15 rfl dBA_climb_360 ?_
          refine tt_iadd F dBA_climb_362 ?_
          refine tt_iast F (fun h => h) 17 rfl (by omega) (by omega) (by omega) dBA_climb_363 ?_
          refine tt_iinc F 0 [(18, .int (iZ (0 + 1))), (17, .int (iZ rv)), (21, .int (iZ rv)), (0, .ref (a 14)), (1, .ref b), (5, .ref (a 13)), (6, .ref (a 7)), (7, .int (iZ W)), (8, .int (iZ (2 * r + 1))), (9, .int (iZ lx)), (10, .int (iZ ly)), (11, .int (iZ fx)), (13, .int (iZ nx)), (16, .int (iZ cel)), (19, .int (iZ row)), (20, .int (iZ col))] rfl (by decide) rfl dBA_climb_364 ?_
          refine tt_iinc F 15 [(20, .int (iZ (col + 1))), (18, .int (iZ (0 + 1))), (17, .int (iZ rv)), (21, .int (iZ rv)), (0, .ref (a 14)), (1, .ref b), (5, .ref (a 13)), (6, .ref (a 7)), (7, .int (iZ W)), (8, .int (iZ (2 * r + 1))), (9, .int (iZ lx)), (10, .int (iZ ly)), (11, .int (iZ fx)), (13, .int (iZ nx)), (16, .int (iZ cel)), (19, .int (iZ row))] rfl (by decide) rfl dBA_climb_367 ?_
          refine tt_goto F 300 (by decide) dBA_climb_370 ?_
          refine tt_sub [4, 5, 6, 7, 8, 9, 10, 11, 12, 13, 14, 2, 1, 15, 0] rfl ?_
          exact ih (col + 1) rv (0 + 1) (zu li 0 ((row * W) + col)) (by omega) (by omega) (by omega) (by have I2 := cl_gt hz0 (by omega) (by omega) I; rw [hrv2, Int.add_assoc] at I2; exact I2)
theorem climb_out {b q0 : Nat} {tq : Int → Int} {x y at_ fx lx fy ly nx : Int} (F : FX p s m args meth c cBA_climb 22 (some .int) wsBA_climb RBA D vwCl cI cZ cJ SL A) (hG : GE W D_ r sz co ro ho ac al sd lf sq) (he : ∀ (li : Int → Int) (lc : Int), (cW cI cZ a W D_ r sz co ro ho ac al sd lf sq hs rs ts rt_ hc li re ow tc cp ck wa qp qt qs lo sb lc cn ch sk)[q0]? = some (b, aI cI (W * D_) tq)) (hq : ∀ p, 0 ≤ p → p < W * D_ → 0 ≤ tq p ∧ tq p ≤ ts p ∧ ts p ≤ 262144000) (hrt : ∀ i j, 0 ≤ i → i < W → 0 ≤ j → j < D_ → ts (j * W + i) ≤ rt_ j ∧ rt_ j ≤ 262144000) (hx : -r ≤ x ∧ x < W + r) (hy : -r ≤ y ∧ y < D_ + r) (ha : 0 ≤ at_ ∧ at_ ≤ 1000000000) (hX : 0 ≤ fx ∧ fx ≤ lx ∧ lx < W ∧ x - r ≤ fx ∧ lx ≤ x + r) (hX1 : ∀ q, 0 ≤ q → q < fx → q - x < -r) (hX2 : ∀ q, lx < q → q < W → r < q - x) (hY : 0 ≤ fy ∧ fy ≤ ly ∧ ly < D_ ∧ y - r ≤ fy ∧ ly ≤ y + r) (hY1 : ∀ q, 0 ≤ q → q < fy → q - y < -r) (hY2 : ∀ q, ly < q → q < D_ → r < q - y) (hN : fx ≤ nx ∧ nx ≤ lx) (hN1 : ∀ q, fx ≤ q → q ≤ lx → (0 ≤ nx - x ∧ nx - x ≤ q - x) ∨ (q - x ≤ nx - x ∧ nx - x ≤ 0))
    (k : ∀ (cel row rest cnt : Int) (li : Int → Int), clI W r x y at_ (W * D_) tq (W * D_) rest cnt li → TT p l e rmBA_climb s m args below meth c D vwCl A 22 False Q 386 [(0, .ref (a 14)), (1, .ref b), (5, .ref (a 13)), (6, .ref (a 7)), (7, .int (iZ W)), (8, .int (iZ (2 * r + 1))), (9, .int (iZ lx)), (10, .int (iZ ly)), (11, .int (iZ fx)), (13, .int (iZ nx)), (16, .int (iZ cel)), (17, .int (iZ rest)), (18, .int (iZ cnt)), (19, .int (iZ row))] [] (cW cI cZ a W D_ r sz co ro ho ac al sd lf sq hs rs ts rt_ hc li re ow tc cp ck wa qp qt qs lo sb lc cn ch sk) 0 0) :
    ∀ (n : Nat) (row cel rest cnt : Int) (li : Int → Int), (ly + 1 - row).toNat < n → fy ≤ row → row ≤ ly + 1 → cel = (row - y + r) * (2 * r + 1) + r - x → clI W r x y at_ (W * D_) tq (row * W) rest cnt li → TT p l e rmBA_climb s m args below meth c D vwCl A 22 False Q 270 [(0, .ref (a 14)), (1, .ref b), (5, .ref (a 13)), (6, .ref (a 7)), (7, .int (iZ W)), (8, .int (iZ (2 * r + 1))), (9, .int (iZ lx)), (10, .int (iZ ly)), (11, .int (iZ fx)), (13, .int (iZ nx)), (16, .int (iZ cel)), (17, .int (iZ rest)), (18, .int (iZ cnt)), (19, .int (iZ row))] [] (cW cI cZ a W D_ r sz co ro ho ac al sd lf sq hs rs ts rt_ hc li re ow tc cp ck wa qp qt qs lo sb lc cn ch sk) 0 0 := by
  intro n
  induction n with
  | zero => intro row cel rest cnt li hn; omega
  | succ n ih =>
    intro row cel rest cnt li hn hc1 hc2 hcel I
    obtain ⟨⟨hW1, hW2, hD1, hD2, hr1, hr2⟩, hGp, hGs, hGk, hGx, hGi, hGm, hGq⟩ := id hG
    have hWD := wd_b hW1 hW2 hD1 hD2
    have hSQ := sd_b hr1 hr2
    have hrest : 0 ≤ rest := by have := I.1; omega
    have hrest2 := cl_b hr1 hr2 (fun p h1 h2 => by have := hq p h1 h2; omega) ha.2 I
    refine tt_iload F 13 rfl dBA_climb_270 ?_
    refine tt_iload F 7 rfl dBA_climb_272 ?_
    refine tt_icmp_gt F 386 ⟨by omega, by omega⟩ ⟨by omega, by omega⟩ dBA_climb_274 (by decide) (fun c274 => ?_) (fun c274 => ?_)
    · skip
      refine tt_sub [0, 1, 2, 3, 4, 5, 6, 7, 8, 9, 10, 11, 12, 13] rfl ?_
      refine k cel row rest cnt li ?_
      have I9 := cl_rows (j' := D_) hW1 (by omega) (by omega) (fun i q i0 i1 q0 q1 => by have hb := ix_b (i := i) (j := q) (W := W) (D := D_) i0 i1 (by omega) (by omega); have h1 := hq _ hb.1 hb.2; have h2 := rch_far (W := W) (x := x) (y := y) (i := i) (j := q) (tq := tq) hr1 i0 i1 (by omega) (Or.inr (Or.inr (Or.inr (hY2 q (by omega) (by omega))))); have := I.1; omega) I
      rw [Int.mul_comm D_ W] at I9
      exact I9
    · skip
      have hstep : cel + (2 * r + 1) = (row + 1 - y + r) * (2 * r + 1) + r - x := by rw [hcel, show row + 1 - y + r = (row - y + r) + 1 by omega, rw_s]; omega
      have hrt1 := hrt nx row (by omega) (by omega) (by omega) (by omega)
      have hix := ix_b (i := nx) (j := row) (W := W) (D := D_) (by omega) (by omega) (by omega) (by omega)
      have hq1 := hq _ hix.1 hix.2
      have his := ix_b (i := nx - x + r) (j := row - y + r) (W := 2 * r + 1) (D := 2 * r + 1) (by omega) (by omega) (by omega) (by omega)
      have hsq := hGq (nx - x) (row - y) (by omega) (by omega) (by omega) (by omega)
      have hsx : cel + nx = (row - y + r) * (2 * r + 1) + (nx - x + r) := by omega
      have hlb := lift_b (dx := nx - x) (dy := row - y) hr1 hr2
      refine tt_aload F 3 rfl dBA_climb_277 ?_
      refine tt_iload F 13 rfl dBA_climb_279 ?_
      refine tt_iald F 7 rfl (by omega) (by omega) (by omega) dBA_climb_281 ?_
      refine tt_name (fun tv htv => ?_)
      refine tt_aload F 2 rfl dBA_climb_282 ?_
      refine tt_iload F 10 rfl dBA_climb_284 ?_
      refine tt_iload F 9 rfl dBA_climb_286 ?_
      refine tt_iadd F dBA_climb_288 ?_
      refine tt_iald F 13 rfl (by omega) (by omega) (by omega) dBA_climb_289 ?_
      refine tt_name (fun sv hsv => ?_)
      have hsv2 : sv = lift r (nx - x) (row - y) := by rw [hsv, hsx]; exact hsq
      refine tt_iadd F dBA_climb_290 ?_
      refine tt_iload F 11 rfl dBA_climb_291 ?_
      refine tt_icmp_lt F 373 ⟨by omega, by omega⟩ ⟨by omega, by omega⟩ dBA_climb_293 (by decide) (fun c293 => ?_) (fun c293 => ?_)
      · skip
        refine tt_iload F 10 rfl dBA_climb_373 ?_
        refine tt_iload F 5 rfl dBA_climb_375 ?_
        refine tt_iadd F dBA_climb_377 ?_
        refine tt_name (fun x378 hx378 => ?_)
        refine tt_istore F [(16, .int (iZ x378)), (0, .ref (a 14)), (1, .ref b), (5, .ref (a 13)), (6, .ref (a 7)), (7, .int (iZ W)), (8, .int (iZ (2 * r + 1))), (9, .int (iZ lx)), (10, .int (iZ ly)), (11, .int (iZ fx)), (13, .int (iZ nx)), (17, .int (iZ rest)), (18, .int (iZ cnt)), (19, .int (iZ row))] (by decide) rfl dBA_climb_378 ?_
        refine tt_iinc F 13 [(19, .int (iZ (row + 1))), (16, .int (iZ x378)), (0, .ref (a 14)), (1, .ref b), (5, .ref (a 13)), (6, .ref (a 7)), (7, .int (iZ W)), (8, .int (iZ (2 * r + 1))), (9, .int (iZ lx)), (10, .int (iZ ly)), (11, .int (iZ fx)), (13, .int (iZ nx)), (17, .int (iZ rest)), (18, .int (iZ cnt))] rfl (by decide) rfl dBA_climb_380 ?_
        refine tt_goto F 270 (by decide) dBA_climb_383 ?_
        refine tt_sub [2, 3, 4, 5, 6, 7, 8, 9, 10, 11, 1, 12, 13, 0] rfl ?_
        exact ih (row + 1) x378 rest cnt li (by omega) (by omega) (by omega) (by omega) (by rw [rw_s]; rw [← Int.add_zero (row * W)] at I; exact cl_row (Int.le_refl 0) (by omega) (Int.le_refl W) (by omega) (climb_low (tv := tv) (y := y) (rest := rest) hr1 hr2 hX hX1 hX2 hN1 (fun q q0 q1 => by have hb := ix_b (i := q) (j := row) (W := W) (D := D_) q0 q1 (by omega) (by omega); have h1 := hq _ hb.1 hb.2; have h2 := hrt q row q0 q1 (by omega) (by omega); omega) (by omega) (by omega)) I)
      · skip
        refine tt_iload F 8 rfl dBA_climb_296 ?_
        refine tt_istore F [(20, .int (iZ fx)), (0, .ref (a 14)), (1, .ref b), (5, .ref (a 13)), (6, .ref (a 7)), (7, .int (iZ W)), (8, .int (iZ (2 * r + 1))), (9, .int (iZ lx)), (10, .int (iZ ly)), (11, .int (iZ fx)), (13, .int (iZ nx)), (16, .int (iZ cel)), (17, .int (iZ rest)), (18, .int (iZ cnt)), (19, .int (iZ row))] (by decide) rfl dBA_climb_298 ?_
        refine tt_sub [1, 2, 3, 4, 5, 6, 7, 8, 9, 10, 11, 12, 13, 14, 0] rfl ?_
        refine climb_in F hG he hq hrt hx hy ha hX hX1 hX2 hY hY1 hY2 hN hN1 (by omega) hcel (fun rest cnt li I2 => ?_) ((lx + 1 - fx).toNat + 1) fx rest cnt li (by omega) (by omega) (by omega) ?_
        · skip
          refine tt_iload F 10 rfl dBA_climb_373 ?_
          refine tt_iload F 5 rfl dBA_climb_375 ?_
          refine tt_iadd F dBA_climb_377 ?_
          refine tt_name (fun x378 hx378 => ?_)
          refine tt_istore F [(16, .int (iZ x378)), (0, .ref (a 14)), (1, .ref b), (5, .ref (a 13)), (6, .ref (a 7)), (7, .int (iZ W)), (8, .int (iZ (2 * r + 1))), (9, .int (iZ lx)), (10, .int (iZ ly)), (11, .int (iZ fx)), (13, .int (iZ nx)), (17, .int (iZ rest)), (18, .int (iZ cnt)), (19, .int (iZ row))] (by decide) rfl dBA_climb_378 ?_
          refine tt_iinc F 13 [(19, .int (iZ (row + 1))), (16, .int (iZ x378)), (0, .ref (a 14)), (1, .ref b), (5, .ref (a 13)), (6, .ref (a 7)), (7, .int (iZ W)), (8, .int (iZ (2 * r + 1))), (9, .int (iZ lx)), (10, .int (iZ ly)), (11, .int (iZ fx)), (13, .int (iZ nx)), (17, .int (iZ rest)), (18, .int (iZ cnt))] rfl (by decide) rfl dBA_climb_380 ?_
          refine tt_goto F 270 (by decide) dBA_climb_383 ?_
          refine tt_sub [2, 3, 4, 5, 6, 7, 8, 9, 10, 11, 1, 12, 13, 0] rfl ?_
          exact ih (row + 1) x378 rest cnt li (by omega) (by omega) (by omega) (by omega) I2
        · skip
          rw [← Int.add_zero (row * W)] at I
          exact cl_row (Int.le_refl 0) (by omega) (by omega) (by omega) (fun q q0 q1 => by have hb := ix_b (i := q) (j := row) (W := W) (D := D_) (by omega) (by omega) (by omega) (by omega); have h1 := hq _ hb.1 hb.2; have h2 := rch_far (W := W) (x := x) (y := y) (i := q) (j := row) (tq := tq) hr1 (by omega) (by omega) (by omega) (Or.inl (hX1 q (by omega) (by omega))); have := I.1; omega) I
theorem c_climb {l : Launch} {D : va_G} {cI cZ cJ : ClassId} {SL : List zS} {b q0 : Nat} {tq : Int → Int} {x y at_ : Int} (hG : GE W D_ r sz co ro ho ac al sd lf sq) (he : ∀ (li : Int → Int) (lc : Int), (cW cI cZ a W D_ r sz co ro ho ac al sd lf sq hs rs ts rt_ hc li re ow tc cp ck wa qp qt qs lo sb lc cn ch sk)[q0]? = some (b, aI cI (W * D_) tq)) (hq : ∀ p, 0 ≤ p → p < W * D_ → 0 ≤ tq p ∧ tq p ≤ ts p ∧ ts p ≤ 262144000) (hrt : ∀ i j, 0 ≤ i → i < W → 0 ≤ j → j < D_ → ts (j * W + i) ≤ rt_ j ∧ rt_ j ≤ 262144000) (hx : -r ≤ x ∧ x < W + r) (hy : -r ≤ y ∧ y < D_ + r) (ha : 0 ≤ at_ ∧ at_ ≤ 1000000000) : CI l D vwCl cI cZ cJ SL yBA_climb wsBA_climb rmBA_climb [.ref (a 14), .ref b, .int (iZ x), .int (iZ y), .int (iZ at_)] (cW cI cZ a W D_ r sz co ro ho ac al sd lf sq hs rs ts rt_ hc li re ow tc cp ck wa qp qt qs lo sb lc cn ch sk) (fun z w1 => ∃ (li' : Int → Int) (lc' : Int), w1 = (cW cI cZ a W D_ r sz co ro ho ac al sd lf sq hs rs ts rt_ hc li' re ow tc cp ck wa qp qt qs lo sb lc' cn ch sk) ∧ clI W r x y at_ (W * D_) tq (W * D_) z lc' li') := by
  refine tt_startI (by decide) rfl (Nat.le_of_ble_eq_true rfl) ?_
  intro p e s m args below meth c hnm F
  obtain ⟨⟨hW1, hW2, hD1, hD2, hr1, hr2⟩, hGp, hGs, hGk, hGx, hGi, hGm, hGq⟩ := id hG
  have hWD := wd_b hW1 hW2 hD1 hD2
  have hSQ := sd_b hr1 hr2
  refine tt_aload_n F 0 rfl rfl dBA_climb_0 ?_
  refine tt_get F inBA 14 rfl rfl 0 (by decide) we189 rfl dBA_climb_1 ?_
  refine tt_get F inSH 8 rfl rfl 5 (by decide) we164 rfl dBA_climb_4 ?_
  refine tt_astore F [(5, .ref (a 13)), (0, .ref (a 14)), (1, .ref b), (2, .int (iZ x)), (3, .int (iZ y)), (4, .int (iZ at_))] (by decide) rfl dBA_climb_7 ?_
  refine tt_aload_n F 1 rfl rfl dBA_climb_9 ?_
  refine tt_get F inBA 14 rfl rfl 8 (by decide) we209 rfl dBA_climb_10 ?_
  refine tt_get F inHO 1 rfl rfl 8 (by decide) we108 rfl dBA_climb_13 ?_
  refine tt_astore F [(6, .ref (a 7)), (5, .ref (a 13)), (0, .ref (a 14)), (1, .ref b), (2, .int (iZ x)), (3, .int (iZ y)), (4, .int (iZ at_))] (by decide) rfl dBA_climb_16 ?_
  refine tt_aload_n F 2 rfl rfl dBA_climb_18 ?_
  refine tt_get F inBA 14 rfl rfl 8 (by decide) we209 rfl dBA_climb_19 ?_
  refine tt_get F inHO 1 rfl rfl 0 (by decide) we85 rfl dBA_climb_22 ?_
  refine tt_istore F [(7, .int (iZ W)), (6, .ref (a 7)), (5, .ref (a 13)), (0, .ref (a 14)), (1, .ref b), (2, .int (iZ x)), (3, .int (iZ y)), (4, .int (iZ at_))] (by decide) rfl dBA_climb_25 ?_
  refine tt_aload_n F 3 rfl rfl dBA_climb_27 ?_
  refine tt_get F inBA 14 rfl rfl 0 (by decide) we189 rfl dBA_climb_28 ?_
  refine tt_get F inSH 8 rfl rfl 6 (by decide) we166 rfl dBA_climb_31 ?_
  refine tt_istore F [(8, .int (iZ (2 * r + 1))), (7, .int (iZ W)), (6, .ref (a 7)), (5, .ref (a 13)), (0, .ref (a 14)), (1, .ref b), (2, .int (iZ x)), (3, .int (iZ y)), (4, .int (iZ at_))] (by decide) rfl dBA_climb_34 ?_
  refine tt_join (pc' := 60) (lv' := [(8, .int (iZ (2 * r + 1))), (7, .int (iZ W)), (6, .ref (a 7)), (5, .ref (a 13)), (0, .ref (a 14)), (1, .ref b), (2, .int (iZ x)), (3, .int (iZ y)), (4, .int (iZ at_))]) (st' := []) (fun v => (x + r < W ∧ v = x + r) ∨ (W ≤ x + r ∧ v = W - 1)) (fun lx hlx => ?_) (fun J36 => ?_)
  · skip
    refine tt_istore F [(9, .int (iZ lx)), (8, .int (iZ (2 * r + 1))), (7, .int (iZ W)), (6, .ref (a 7)), (5, .ref (a 13)), (0, .ref (a 14)), (1, .ref b), (2, .int (iZ x)), (3, .int (iZ y)), (4, .int (iZ at_))] (by decide) rfl dBA_climb_60 ?_
    refine tt_join (pc' := 96) (lv' := [(9, .int (iZ lx)), (8, .int (iZ (2 * r + 1))), (7, .int (iZ W)), (6, .ref (a 7)), (5, .ref (a 13)), (0, .ref (a 14)), (1, .ref b), (2, .int (iZ x)), (3, .int (iZ y)), (4, .int (iZ at_))]) (st' := []) (fun v => (y + r < D_ ∧ v = y + r) ∨ (D_ ≤ y + r ∧ v = D_ - 1)) (fun ly hly => ?_) (fun J62 => ?_)
    · skip
      refine tt_istore F [(10, .int (iZ ly)), (9, .int (iZ lx)), (8, .int (iZ (2 * r + 1))), (7, .int (iZ W)), (6, .ref (a 7)), (5, .ref (a 13)), (0, .ref (a 14)), (1, .ref b), (2, .int (iZ x)), (3, .int (iZ y)), (4, .int (iZ at_))] (by decide) rfl dBA_climb_96 ?_
      refine tt_join (pc' := 116) (lv' := [(10, .int (iZ ly)), (9, .int (iZ lx)), (8, .int (iZ (2 * r + 1))), (7, .int (iZ W)), (6, .ref (a 7)), (5, .ref (a 13)), (0, .ref (a 14)), (1, .ref b), (2, .int (iZ x)), (3, .int (iZ y)), (4, .int (iZ at_))]) (st' := []) (fun v => (r < x ∧ v = x - r) ∨ (x ≤ r ∧ v = 0)) (fun fx hfx => ?_) (fun J98 => ?_)
      · skip
        refine tt_istore F [(11, .int (iZ fx)), (10, .int (iZ ly)), (9, .int (iZ lx)), (8, .int (iZ (2 * r + 1))), (7, .int (iZ W)), (6, .ref (a 7)), (5, .ref (a 13)), (0, .ref (a 14)), (1, .ref b), (2, .int (iZ x)), (3, .int (iZ y)), (4, .int (iZ at_))] (by decide) rfl dBA_climb_116 ?_
        refine tt_join (pc' := 136) (lv' := [(11, .int (iZ fx)), (10, .int (iZ ly)), (9, .int (iZ lx)), (8, .int (iZ (2 * r + 1))), (7, .int (iZ W)), (6, .ref (a 7)), (5, .ref (a 13)), (0, .ref (a 14)), (1, .ref b), (2, .int (iZ x)), (3, .int (iZ y)), (4, .int (iZ at_))]) (st' := []) (fun v => (r < y ∧ v = y - r) ∨ (y ≤ r ∧ v = 0)) (fun fy hfy => ?_) (fun J118 => ?_)
        · skip
          refine tt_istore F [(12, .int (iZ fy)), (11, .int (iZ fx)), (10, .int (iZ ly)), (9, .int (iZ lx)), (8, .int (iZ (2 * r + 1))), (7, .int (iZ W)), (6, .ref (a 7)), (5, .ref (a 13)), (0, .ref (a 14)), (1, .ref b), (2, .int (iZ x)), (3, .int (iZ y)), (4, .int (iZ at_))] (by decide) rfl dBA_climb_136 ?_
          refine tt_join (pc' := 161) (lv' := [(12, .int (iZ fy)), (11, .int (iZ fx)), (10, .int (iZ ly)), (9, .int (iZ lx)), (8, .int (iZ (2 * r + 1))), (7, .int (iZ W)), (6, .ref (a 7)), (5, .ref (a 13)), (0, .ref (a 14)), (1, .ref b), (2, .int (iZ x)), (3, .int (iZ y)), (4, .int (iZ at_))]) (st' := []) (fun v => (x < fx ∧ v = fx) ∨ (fx ≤ x ∧ lx < x ∧ v = lx) ∨ (fx ≤ x ∧ x ≤ lx ∧ v = x)) (fun nx hnx => ?_) (fun J138 => ?_)
          · skip
            refine tt_istore F [(13, .int (iZ nx)), (12, .int (iZ fy)), (11, .int (iZ fx)), (10, .int (iZ ly)), (9, .int (iZ lx)), (8, .int (iZ (2 * r + 1))), (7, .int (iZ W)), (6, .ref (a 7)), (5, .ref (a 13)), (0, .ref (a 14)), (1, .ref b), (2, .int (iZ x)), (3, .int (iZ y)), (4, .int (iZ at_))] (by decide) rfl dBA_climb_161 ?_
            refine tt_join (pc' := 186) (lv' := [(13, .int (iZ nx)), (12, .int (iZ fy)), (11, .int (iZ fx)), (10, .int (iZ ly)), (9, .int (iZ lx)), (8, .int (iZ (2 * r + 1))), (7, .int (iZ W)), (6, .ref (a 7)), (5, .ref (a 13)), (0, .ref (a 14)), (1, .ref b), (2, .int (iZ x)), (3, .int (iZ y)), (4, .int (iZ at_))]) (st' := []) (fun v => (y < fy ∧ v = fy) ∨ (fy ≤ y ∧ ly < y ∧ v = ly) ∨ (fy ≤ y ∧ y ≤ ly ∧ v = y)) (fun ny hny => ?_) (fun J163 => ?_)
            · skip
              refine tt_istore F [(14, .int (iZ ny)), (13, .int (iZ nx)), (12, .int (iZ fy)), (11, .int (iZ fx)), (10, .int (iZ ly)), (9, .int (iZ lx)), (8, .int (iZ (2 * r + 1))), (7, .int (iZ W)), (6, .ref (a 7)), (5, .ref (a 13)), (0, .ref (a 14)), (1, .ref b), (2, .int (iZ x)), (3, .int (iZ y)), (4, .int (iZ at_))] (by decide) rfl dBA_climb_186 ?_
              have hX : 0 ≤ fx ∧ fx ≤ lx ∧ lx < W ∧ x - r ≤ fx ∧ lx ≤ x + r := by omega
              have hX1 : ∀ q, 0 ≤ q → q < fx → q - x < -r := fun q _ _ => by omega
              have hX2 : ∀ q, lx < q → q < W → r < q - x := fun q _ _ => by omega
              have hY : 0 ≤ fy ∧ fy ≤ ly ∧ ly < D_ ∧ y - r ≤ fy ∧ ly ≤ y + r := by omega
              have hY1 : ∀ q, 0 ≤ q → q < fy → q - y < -r := fun q _ _ => by omega
              have hY2 : ∀ q, ly < q → q < D_ → r < q - y := fun q _ _ => by omega
              have hN : fx ≤ nx ∧ nx ≤ lx := by omega
              have hN1 : ∀ q, fx ≤ q → q ≤ lx → (0 ≤ nx - x ∧ nx - x ≤ q - x) ∨ (q - x ≤ nx - x ∧ nx - x ≤ 0) := fun q _ _ => by omega
              have hM : fy ≤ ny ∧ ny ≤ ly := by omega
              clear hlx hly hfx hfy hnx hny
              have hix := ix_b (i := nx) (j := ny) (W := W) (D := D_) (by omega) (by omega) (by omega) (by omega)
              have hq1 := hq _ hix.1 hix.2
              have his := ix_b (i := nx - x + r) (j := ny - y + r) (W := 2 * r + 1) (D := 2 * r + 1) (by omega) (by omega) (by omega) (by omega)
              have hsq := hGq (nx - x) (ny - y) (by omega) (by omega) (by omega) (by omega)
              have hlb := lift_b (dx := nx - x) (dy := ny - y) hr1 hr2
              refine tt_aload_n F 11 rfl rfl dBA_climb_188 ?_
              refine tt_iload F 0 rfl dBA_climb_189 ?_
              refine tt_iload F 7 rfl dBA_climb_191 ?_
              refine tt_imul F dBA_climb_193 ?_
              refine tt_iload F 1 rfl dBA_climb_194 ?_
              refine tt_iadd F dBA_climb_196 ?_
              refine tt_iald F q0 (he _ _) (by omega) (by omega) (by omega) dBA_climb_197 ?_
              refine tt_name (fun tv htv => ?_)
              refine tt_aload F 9 rfl dBA_climb_198 ?_
              refine tt_iload F 0 rfl dBA_climb_200 ?_
              refine tt_iload_n F 13 rfl rfl dBA_climb_202 ?_
              refine tt_isub F dBA_climb_203 ?_
              refine tt_aload_n F 10 rfl rfl dBA_climb_204 ?_
              refine tt_get F inBA 14 rfl rfl 9 (by decide) we210 rfl dBA_climb_205 ?_
              refine tt_iadd F dBA_climb_208 ?_
              refine tt_iload F 6 rfl dBA_climb_209 ?_
              refine tt_imul F dBA_climb_211 ?_
              refine tt_iload F 1 rfl dBA_climb_212 ?_
              refine tt_iadd F dBA_climb_214 ?_
              refine tt_iload_n F 12 rfl rfl dBA_climb_215 ?_
              refine tt_isub F dBA_climb_216 ?_
              refine tt_aload_n F 10 rfl rfl dBA_climb_217 ?_
              refine tt_get F inBA 14 rfl rfl 9 (by decide) we210 rfl dBA_climb_218 ?_
              refine tt_iadd F dBA_climb_221 ?_
              refine tt_iald F 13 rfl (by omega) (by omega) (by omega) dBA_climb_222 ?_
              refine tt_name (fun sv hsv => ?_)
              have hsv2 : sv = lift r (nx - x) (ny - y) := by rw [hsv, ← hsq]; congr 1; omega
              refine tt_iadd F dBA_climb_223 ?_
              refine tt_name (fun nl hnl => ?_)
              refine tt_istore F [(15, .int (iZ nl)), (14, .int (iZ ny)), (13, .int (iZ nx)), (12, .int (iZ fy)), (11, .int (iZ fx)), (10, .int (iZ ly)), (9, .int (iZ lx)), (8, .int (iZ (2 * r + 1))), (7, .int (iZ W)), (6, .ref (a 7)), (5, .ref (a 13)), (0, .ref (a 14)), (1, .ref b), (2, .int (iZ x)), (3, .int (iZ y)), (4, .int (iZ at_))] (by decide) rfl dBA_climb_224 ?_
              refine tt_iload F 3 rfl dBA_climb_226 ?_
              refine tt_iload_n F 14 rfl rfl dBA_climb_228 ?_
              refine tt_isub F dBA_climb_229 ?_
              refine tt_aload_n F 11 rfl rfl dBA_climb_230 ?_
              refine tt_get F inBA 14 rfl rfl 9 (by decide) we210 rfl dBA_climb_231 ?_
              refine tt_iadd F dBA_climb_234 ?_
              refine tt_iload F 7 rfl dBA_climb_235 ?_
              refine tt_imul F dBA_climb_237 ?_
              refine tt_aload_n F 11 rfl rfl dBA_climb_238 ?_
              refine tt_get F inBA 14 rfl rfl 9 (by decide) we210 rfl dBA_climb_239 ?_
              refine tt_iadd F dBA_climb_242 ?_
              refine tt_iload_n F 13 rfl rfl dBA_climb_243 ?_
              refine tt_isub F dBA_climb_244 ?_
              refine tt_name (fun cel hcel => ?_)
              refine tt_istore F [(16, .int (iZ cel)), (15, .int (iZ nl)), (14, .int (iZ ny)), (13, .int (iZ nx)), (12, .int (iZ fy)), (11, .int (iZ fx)), (10, .int (iZ ly)), (9, .int (iZ lx)), (8, .int (iZ (2 * r + 1))), (7, .int (iZ W)), (6, .ref (a 7)), (5, .ref (a 13)), (0, .ref (a 14)), (1, .ref b), (2, .int (iZ x)), (3, .int (iZ y)), (4, .int (iZ at_))] (by decide) rfl dBA_climb_245 ?_
              refine tt_join (pc' := 261) (lv' := [(16, .int (iZ cel)), (15, .int (iZ nl)), (14, .int (iZ ny)), (13, .int (iZ nx)), (12, .int (iZ fy)), (11, .int (iZ fx)), (10, .int (iZ ly)), (9, .int (iZ lx)), (8, .int (iZ (2 * r + 1))), (7, .int (iZ W)), (6, .ref (a 7)), (5, .ref (a 13)), (0, .ref (a 14)), (1, .ref b), (2, .int (iZ x)), (3, .int (iZ y)), (4, .int (iZ at_))]) (st' := []) (fun v => (at_ < nl ∧ v = nl) ∨ (nl ≤ at_ ∧ v = at_)) (fun rest0 hrest0 => ?_) (fun J247 => ?_)
              · skip
                refine tt_istore F [(17, .int (iZ rest0)), (16, .int (iZ cel)), (15, .int (iZ nl)), (14, .int (iZ ny)), (13, .int (iZ nx)), (12, .int (iZ fy)), (11, .int (iZ fx)), (10, .int (iZ ly)), (9, .int (iZ lx)), (8, .int (iZ (2 * r + 1))), (7, .int (iZ W)), (6, .ref (a 7)), (5, .ref (a 13)), (0, .ref (a 14)), (1, .ref b), (2, .int (iZ x)), (3, .int (iZ y)), (4, .int (iZ at_))] (by decide) rfl dBA_climb_261 ?_
                refine tt_iconst F dBA_climb_263 ?_
                refine tt_istore F [(18, .int (iZ 0)), (17, .int (iZ rest0)), (16, .int (iZ cel)), (15, .int (iZ nl)), (14, .int (iZ ny)), (13, .int (iZ nx)), (12, .int (iZ fy)), (11, .int (iZ fx)), (10, .int (iZ ly)), (9, .int (iZ lx)), (8, .int (iZ (2 * r + 1))), (7, .int (iZ W)), (6, .ref (a 7)), (5, .ref (a 13)), (0, .ref (a 14)), (1, .ref b), (2, .int (iZ x)), (3, .int (iZ y)), (4, .int (iZ at_))] (by decide) rfl dBA_climb_264 ?_
                refine tt_iload F 6 rfl dBA_climb_266 ?_
                refine tt_istore F [(19, .int (iZ fy)), (18, .int (iZ 0)), (17, .int (iZ rest0)), (16, .int (iZ cel)), (15, .int (iZ nl)), (14, .int (iZ ny)), (13, .int (iZ nx)), (12, .int (iZ fy)), (11, .int (iZ fx)), (10, .int (iZ ly)), (9, .int (iZ lx)), (8, .int (iZ (2 * r + 1))), (7, .int (iZ W)), (6, .ref (a 7)), (5, .ref (a 13)), (0, .ref (a 14)), (1, .ref b), (2, .int (iZ x)), (3, .int (iZ y)), (4, .int (iZ at_))] (by decide) rfl dBA_climb_268 ?_
                refine tt_sub [15, 16, 14, 13, 12, 11, 10, 9, 8, 6, 3, 2, 1, 0] rfl ?_
                refine climb_out F hG he hq hrt hx hy ha hX hX1 hX2 hY hY1 hY2 hN hN1 (fun cel row rest cnt li I2 => ?_) ((ly + 1 - fy).toNat + 1) fy cel rest0 0 li (by omega) (by omega) (by omega) hcel ?_
                · skip
                  refine tt_aload_n F 0 rfl rfl dBA_climb_386 ?_
                  refine tt_iload F 12 rfl dBA_climb_387 ?_
                  refine tt_put F (fun h => h) inBA tyBA tyBA_ok nmBA 14 rfl rfl 7 (by decide) we206 rfl rfl rfl rfl (show (7 : Nat) + 1 ≤ _ from Nat.le_of_ble_eq_true rfl) dBA_climb_389 ?_
                  refine tt_iload F 11 rfl dBA_climb_392 ?_
                  exact tt_iret F rfl (Nat.le_of_ble_eq_true rfl) (Nat.le_of_ble_eq_true rfl) dBA_climb_394 ⟨_, _, rfl, I2⟩
                · skip
                  refine cl_rows hW1 (Int.le_refl 0) (by omega) (fun i q i0 i1 q0 q1 => by have hb := ix_b (i := i) (j := q) (W := W) (D := D_) i0 i1 (by omega) (by omega); have h1 := hq _ hb.1 hb.2; have h2 := rch_far (W := W) (x := x) (y := y) (i := i) (j := q) (tq := tq) hr1 i0 i1 (by omega) (Or.inr (Or.inr (Or.inl (hY1 q (by omega) (by omega))))); omega) (cl_0 (by omega) ?_)
                  by_cases hg : at_ < nl
                  · exact Or.inr ⟨ny * W + nx, by omega, by omega, by rw [rch_ij (by omega) (by omega)]; omega⟩
                  · exact Or.inl (by omega)
              · skip
                refine tt_iload F 1 rfl dBA_climb_247 ?_
                refine tt_iload F 16 rfl dBA_climb_249 ?_
                refine tt_icmp_le F 259 ⟨by omega, by omega⟩ ⟨by omega, by omega⟩ dBA_climb_251 (by decide) (fun c251 => ?_) (fun c251 => ?_)
                · skip
                  refine tt_iload F 16 rfl dBA_climb_259 ?_
                  exact J247 _ (by omega)
                · skip
                  refine tt_iload F 1 rfl dBA_climb_254 ?_
                  refine tt_goto F 261 (by decide) dBA_climb_256 ?_
                  exact J247 _ (by omega)
            · skip
              refine tt_iload_n F 12 rfl rfl dBA_climb_163 ?_
              refine tt_iload F 1 rfl dBA_climb_164 ?_
              refine tt_icmp_ge F 174 ⟨by omega, by omega⟩ ⟨by omega, by omega⟩ dBA_climb_166 (by decide) (fun c166 => ?_) (fun c166 => ?_)
              · skip
                refine tt_iload_n F 12 rfl rfl dBA_climb_174 ?_
                refine tt_iload F 3 rfl dBA_climb_175 ?_
                refine tt_icmp_le F 185 ⟨by omega, by omega⟩ ⟨by omega, by omega⟩ dBA_climb_177 (by decide) (fun c177 => ?_) (fun c177 => ?_)
                · skip
                  refine tt_iload_n F 12 rfl rfl dBA_climb_185 ?_
                  exact J163 _ (by omega)
                · skip
                  refine tt_iload F 3 rfl dBA_climb_180 ?_
                  refine tt_goto F 186 (by decide) dBA_climb_182 ?_
                  exact J163 _ (by omega)
              · skip
                refine tt_iload F 1 rfl dBA_climb_169 ?_
                refine tt_goto F 186 (by decide) dBA_climb_171 ?_
                exact J163 _ (by omega)
          · skip
            refine tt_iload_n F 10 rfl rfl dBA_climb_138 ?_
            refine tt_iload F 1 rfl dBA_climb_139 ?_
            refine tt_icmp_ge F 149 ⟨by omega, by omega⟩ ⟨by omega, by omega⟩ dBA_climb_141 (by decide) (fun c141 => ?_) (fun c141 => ?_)
            · skip
              refine tt_iload_n F 10 rfl rfl dBA_climb_149 ?_
              refine tt_iload F 3 rfl dBA_climb_150 ?_
              refine tt_icmp_le F 160 ⟨by omega, by omega⟩ ⟨by omega, by omega⟩ dBA_climb_152 (by decide) (fun c152 => ?_) (fun c152 => ?_)
              · skip
                refine tt_iload_n F 10 rfl rfl dBA_climb_160 ?_
                exact J138 _ (by omega)
              · skip
                refine tt_iload F 3 rfl dBA_climb_155 ?_
                refine tt_goto F 161 (by decide) dBA_climb_157 ?_
                exact J138 _ (by omega)
            · skip
              refine tt_iload F 1 rfl dBA_climb_144 ?_
              refine tt_goto F 161 (by decide) dBA_climb_146 ?_
              exact J138 _ (by omega)
        · skip
          refine tt_iload_n F 10 rfl rfl dBA_climb_118 ?_
          refine tt_aload_n F 7 rfl rfl dBA_climb_119 ?_
          refine tt_get F inBA 14 rfl rfl 9 (by decide) we210 rfl dBA_climb_120 ?_
          refine tt_icmp_le F 135 ⟨by omega, by omega⟩ ⟨by omega, by omega⟩ dBA_climb_123 (by decide) (fun c123 => ?_) (fun c123 => ?_)
          · skip
            refine tt_iconst F dBA_climb_135 ?_
            exact J118 _ (by omega)
          · skip
            refine tt_iload_n F 10 rfl rfl dBA_climb_126 ?_
            refine tt_aload_n F 7 rfl rfl dBA_climb_127 ?_
            refine tt_get F inBA 14 rfl rfl 9 (by decide) we210 rfl dBA_climb_128 ?_
            refine tt_isub F dBA_climb_131 ?_
            refine tt_goto F 136 (by decide) dBA_climb_132 ?_
            exact J118 _ (by omega)
      · skip
        refine tt_iload_n F 8 rfl rfl dBA_climb_98 ?_
        refine tt_aload_n F 6 rfl rfl dBA_climb_99 ?_
        refine tt_get F inBA 14 rfl rfl 9 (by decide) we210 rfl dBA_climb_100 ?_
        refine tt_icmp_le F 115 ⟨by omega, by omega⟩ ⟨by omega, by omega⟩ dBA_climb_103 (by decide) (fun c103 => ?_) (fun c103 => ?_)
        · skip
          refine tt_iconst F dBA_climb_115 ?_
          exact J98 _ (by omega)
        · skip
          refine tt_iload_n F 8 rfl rfl dBA_climb_106 ?_
          refine tt_aload_n F 6 rfl rfl dBA_climb_107 ?_
          refine tt_get F inBA 14 rfl rfl 9 (by decide) we210 rfl dBA_climb_108 ?_
          refine tt_isub F dBA_climb_111 ?_
          refine tt_goto F 116 (by decide) dBA_climb_112 ?_
          exact J98 _ (by omega)
    · skip
      refine tt_iload_n F 8 rfl rfl dBA_climb_62 ?_
      refine tt_aload_n F 5 rfl rfl dBA_climb_63 ?_
      refine tt_get F inBA 14 rfl rfl 9 (by decide) we210 rfl dBA_climb_64 ?_
      refine tt_iadd F dBA_climb_67 ?_
      refine tt_aload_n F 5 rfl rfl dBA_climb_68 ?_
      refine tt_get F inBA 14 rfl rfl 8 (by decide) we209 rfl dBA_climb_69 ?_
      refine tt_get F inHO 1 rfl rfl 1 (by decide) we87 rfl dBA_climb_72 ?_
      refine tt_icmp_ge F 87 ⟨by omega, by omega⟩ ⟨by omega, by omega⟩ dBA_climb_75 (by decide) (fun c75 => ?_) (fun c75 => ?_)
      · skip
        refine tt_aload_n F 5 rfl rfl dBA_climb_87 ?_
        refine tt_get F inBA 14 rfl rfl 8 (by decide) we209 rfl dBA_climb_88 ?_
        refine tt_get F inHO 1 rfl rfl 1 (by decide) we87 rfl dBA_climb_91 ?_
        refine tt_iconst F dBA_climb_94 ?_
        refine tt_isub F dBA_climb_95 ?_
        exact J62 _ (by omega)
      · skip
        refine tt_iload_n F 8 rfl rfl dBA_climb_78 ?_
        refine tt_aload_n F 5 rfl rfl dBA_climb_79 ?_
        refine tt_get F inBA 14 rfl rfl 9 (by decide) we210 rfl dBA_climb_80 ?_
        refine tt_iadd F dBA_climb_83 ?_
        refine tt_goto F 96 (by decide) dBA_climb_84 ?_
        exact J62 _ (by omega)
  · skip
    refine tt_iload_n F 6 rfl rfl dBA_climb_36 ?_
    refine tt_aload_n F 4 rfl rfl dBA_climb_37 ?_
    refine tt_get F inBA 14 rfl rfl 9 (by decide) we210 rfl dBA_climb_38 ?_
    refine tt_iadd F dBA_climb_41 ?_
    refine tt_iload F 1 rfl dBA_climb_42 ?_
    refine tt_icmp_ge F 56 ⟨by omega, by omega⟩ ⟨by omega, by omega⟩ dBA_climb_44 (by decide) (fun c44 => ?_) (fun c44 => ?_)
    · skip
      refine tt_iload F 1 rfl dBA_climb_56 ?_
      refine tt_iconst F dBA_climb_58 ?_
      refine tt_isub F dBA_climb_59 ?_
      exact J36 _ (by omega)
    · skip
      refine tt_iload_n F 6 rfl rfl dBA_climb_47 ?_
      refine tt_aload_n F 4 rfl rfl dBA_climb_48 ?_
      refine tt_get F inBA 14 rfl rfl 9 (by decide) we210 rfl dBA_climb_49 ?_
      refine tt_iadd F dBA_climb_52 ?_
      refine tt_goto F 60 (by decide) dBA_climb_53 ?_
      exact J36 _ (by omega)
abbrev rmBA_listTouched : Room := { frames := 2, cells := 0, slots := 0, locals := 44 }
set_option maxHeartbeats 4000000 in
set_option maxRecDepth 100000 in
theorem c_listTouched {x y : Int} (hG : GE W D_ r sz co ro ho ac al sd lf sq) (hts : ∀ p, 0 ≤ p → p < W * D_ → 0 ≤ ts p ∧ ts p ≤ 262144000) (hrt : ∀ i j, 0 ≤ i → i < W → 0 ≤ j → j < D_ → ts (j * W + i) ≤ rt_ j ∧ rt_ j ≤ 262144000) (hx : -r ≤ x ∧ x < W + r) (hy : -r ≤ y ∧ y < D_ + r) (hre : 0 ≤ re ((y + r) * (W + 2 * r) + (x + r)) ∧ re ((y + r) * (W + 2 * r) + (x + r)) ≤ 1000000000) : CV l D vwCl cI cZ cJ SL yBA_listTouched wsBA_listTouched rmBA_listTouched [.ref (a 14), .int (iZ x), .int (iZ y)] (cW cI cZ a W D_ r sz co ro ho ac al sd lf sq hs rs ts rt_ hc li re ow tc cp ck wa qp qt qs lo sb lc cn ch sk) (fun w1 => ∃ (li' : Int → Int) (lc' z : Int), w1 = (cW cI cZ a W D_ r sz co ro ho ac al sd lf sq hs rs ts rt_ hc li' re ow tc cp ck wa qp qt qs lo sb lc' cn ch sk) ∧ clI W r x y (re ((y + r) * (W + 2 * r) + (x + r))) (W * D_) ts (W * D_) z lc' li') := by
  refine tt_startV (by decide) rfl (Nat.le_of_ble_eq_true rfl) ?_
  intro p e s m args below meth c hnm F
  obtain ⟨⟨hW1, hW2, hD1, hD2, hr1, hr2⟩, hGp, hGs, hGk, hGx, hGi, hGm, hGq⟩ := id hG
  have hWD := wd_b hW1 hW2 hD1 hD2
  have hPL := pl_b hW1 hW2 hD1 hD2 hr1 hr2
  have hSQ := sd_b hr1 hr2
  refine tt_aload_n F 0 rfl rfl dBA_listTouched_0 ?_
  refine tt_aload_n F 0 rfl rfl dBA_listTouched_1 ?_
  refine tt_get F inBA 14 rfl rfl 8 (by decide) we209 rfl dBA_listTouched_2 ?_
  refine tt_get F inHO 1 rfl rfl 7 (by decide) we105 rfl dBA_listTouched_5 ?_
  refine tt_iload_n F 1 rfl rfl dBA_listTouched_8 ?_
  refine tt_iload_n F 2 rfl rfl dBA_listTouched_9 ?_
  refine tt_aload_n F 0 rfl rfl dBA_listTouched_10 ?_
  refine tt_iload_n F 1 rfl rfl dBA_listTouched_11 ?_
  refine tt_iload_n F 2 rfl rfl dBA_listTouched_12 ?_
  refine tt_cIV0 F (fun h => h) (As := [.int (iZ x), .int (iZ y)]) 14 rfl rfl (c_restAt (hs := hs) (rs := rs) (ts := ts) (rt_ := rt_) (hc := hc) (li := li) (re := re) (ow := ow) (tc := tc) (cp := cp) (ck := ck) (wa := wa) (qp := qp) (qt := qt) (qs := qs) (lo := lo) (sb := sb) (lc := lc) (cn := cn) (ch := ch) (sk := sk) (x := x) (y := y) hG (by omega) (by omega)) (cwV 2 F.1.2.2.2.2 (gw_V wd609 wd578 wd579 wd48 wd580) rfl rfl rfl (by decide +kernel) ⟨(Nat.le_of_ble_eq_true rfl), (Nat.le_of_ble_eq_true rfl)⟩) rfl rfl rfl (Nat.le_of_ble_eq_true rfl) ⟨(Nat.le_of_ble_eq_true rfl), (Nat.le_of_ble_eq_true rfl)⟩ dBA_listTouched_13 (fun z13 w1 hp => ?_)
  obtain ⟨hz13, rfl⟩ := hp
  refine tt_cIV0 F (fun h => h) (As := [.ref (a 6), .int (iZ x), .int (iZ y), .int (iZ z13)]) 14 rfl rfl (c_climb (hs := hs) (rs := rs) (ts := ts) (rt_ := rt_) (hc := hc) (li := li) (re := re) (ow := ow) (tc := tc) (cp := cp) (ck := ck) (wa := wa) (qp := qp) (qt := qt) (qs := qs) (lo := lo) (sb := sb) (lc := lc) (cn := cn) (ch := ch) (sk := sk) (q0 := 6) (b := a 6) (tq := ts) (x := x) (y := y) (at_ := z13) hG (fun _ _ => rfl) (fun p h1 h2 => ⟨(hts p h1 h2).1, Int.le_refl _, (hts p h1 h2).2⟩) hrt (by omega) (by omega) (by rw [hz13]; exact hre)) (cwV 4 F.1.2.2.2.2 (gw_V wd456 wd384 wd385 wd48 wd386) rfl rfl rfl (by decide +kernel) ⟨(Nat.le_of_ble_eq_true rfl), (Nat.le_of_ble_eq_true rfl)⟩) rfl rfl rfl (Nat.le_of_ble_eq_true rfl) ⟨(Nat.le_of_ble_eq_true rfl), (Nat.le_of_ble_eq_true rfl)⟩ dBA_listTouched_16 (fun z16 w1 hp => ?_)
  obtain ⟨li16, lc16, rfl, I16⟩ := hp
  refine tt_pop F rfl dBA_listTouched_19 ?_
  exact tt_vret F rfl (Nat.le_of_ble_eq_true rfl) (Nat.le_of_ble_eq_true rfl) dBA_listTouched_20 ⟨_, _, _, rfl, by rw [← hz13]; exact I16⟩
end CL
