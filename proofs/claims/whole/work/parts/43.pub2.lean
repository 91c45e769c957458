section CL
variable {p : Program} {l : Launch} {e : Env} {s : State} {m : MethodId} {args : Array Value} {below : List Frame} {meth : Method} {c : Code} {Q : State → Prop} {D : va_G} {cI cZ cJ : ClassId} {SL : List zS} {A : Nat → Prop} {a : Nat → Nat} {W D_ r sz : Int} {co ro ho ac al sd lf sq : Int → Int} {hs rs ts rt_ hc li re ow tc cp ck wa qp qt qs lo sb : Int → Int} {lc cn ch sk : Int}
set_option maxHeartbeats 4000000 in
set_option maxRecDepth 100000 in
theorem o_placeIndex {w0 : va_W} {b q0 : Nat} {fs : List Value} {x y r pA : Int} (he : w0[q0]? = some (b, .inr (1, fs))) (hr : fs[9]? = some (.int (iZ r))) (hp : fs[10]? = some (.int (iZ pA))) : CO l D vwCl cI cZ cJ SL yBA_placeIndex wsBA_placeIndex rmBA_placeIndex [.ref b, .int (iZ x), .int (iZ y)] w0 (fun v => v = some (.int (iZ ((y + r) * pA + (x + r))))) := by
  refine tt_startO (by decide) rfl (Nat.le_of_ble_eq_true rfl) ?_
  intro p e s m args below meth c hnm F
  refine tt_iload_n F 2 rfl rfl dBA_placeIndex_0 ?_
  refine tt_aload_n F 0 rfl rfl dBA_placeIndex_1 ?_
  refine tt_get F inBA q0 he rfl 9 (by decide) we210 hr dBA_placeIndex_2 ?_
  refine tt_iadd F dBA_placeIndex_5 ?_
  refine tt_aload_n F 0 rfl rfl dBA_placeIndex_6 ?_
  refine tt_get F inBA q0 he rfl 10 (by decide) we211 hp dBA_placeIndex_7 ?_
  refine tt_imul F dBA_placeIndex_10 ?_
  refine tt_iload_n F 1 rfl rfl dBA_placeIndex_11 ?_
  refine tt_iadd F dBA_placeIndex_12 ?_
  refine tt_aload_n F 0 rfl rfl dBA_placeIndex_13 ?_
  refine tt_get F inBA q0 he rfl 9 (by decide) we210 hr dBA_placeIndex_14 ?_
  refine tt_iadd F dBA_placeIndex_17 ?_
  exact tt_iretO F rfl dBA_placeIndex_18 (by rw [show (y + r) * pA + x + r = (y + r) * pA + (x + r) by omega])
set_option maxHeartbeats 4000000 in
set_option maxRecDepth 100000 in
theorem o_restAt {x y : Int} (hG : GE W D_ r sz co ro ho ac al sd lf sq) (hpl : (-r ≤ x ∧ x < W + r) ∧ -r ≤ y ∧ y < D_ + r) : CO l D vwCl cI cZ cJ SL yBA_restAt wsBA_restAt rmBA_restAt [.ref (a 14), .int (iZ x), .int (iZ y)] (cW cI cZ a W D_ r sz co ro ho ac al sd lf sq hs rs ts rt_ hc li re ow tc cp ck wa qp qt qs lo sb lc cn ch sk) (fun v => v = some (.int (iZ (re ((y + r) * (W + 2 * r) + (x + r)))))) := by
  refine tt_startO (by decide) rfl (Nat.le_of_ble_eq_true rfl) ?_
  intro p e s m args below meth c hnm F
  obtain ⟨⟨hW1, hW2, hD1, hD2, hr1, hr2⟩, hGp, hGs, hGk, hGx, hGi, hGm, hGq⟩ := id hG
  have hWD := wd_b hW1 hW2 hD1 hD2
  have hPL := pl_b hW1 hW2 hD1 hD2 hr1 hr2
  have hSQ := sd_b hr1 hr2
  have hpi := pl_in (W := W) (D_ := D_) (r := r) hpl.1.1 hpl.1.2 hpl.2.1 hpl.2.2
  refine tt_aload_n F 0 rfl rfl dBA_restAt_0 ?_
  refine tt_get F inBA 14 rfl rfl 2 (by decide) we193 rfl dBA_restAt_1 ?_
  refine tt_aload_n F 0 rfl rfl dBA_restAt_4 ?_
  refine tt_iload_n F 1 rfl rfl dBA_restAt_5 ?_
  refine tt_iload_n F 2 rfl rfl dBA_restAt_6 ?_
  refine tt_cOV F (As := [.int (iZ x), .int (iZ y)]) [] 14 rfl rfl (o_placeIndex (q0 := 14) (x := x) (y := y) (r := r) (pA := W + 2 * r) (w0 := (cW cI cZ a W D_ r sz co ro ho ac al sd lf sq hs rs ts rt_ hc li re ow tc cp ck wa qp qt qs lo sb lc cn ch sk)) rfl rfl rfl) (cwV 2 F.1.2.2.2.2 (gw_V wd185 wd187 wd0 wd48 wd188) rfl rfl rfl (by decide +kernel) ⟨(Nat.le_of_ble_eq_true rfl), (Nat.le_of_ble_eq_true rfl)⟩) rfl rfl rfl (Nat.le_of_ble_eq_true rfl) ⟨(Nat.le_of_ble_eq_true rfl), (Nat.le_of_ble_eq_true rfl)⟩ dBA_restAt_7 (fun v7 hp => ?_)
  obtain rfl := hp
  refine tt_iald F 18 rfl (by omega) (by omega) (by omega) dBA_restAt_10 ?_
  exact tt_iretO F rfl dBA_restAt_11 (rfl)
abbrev rmRB_putRod : Room := { frames := 4, cells := 0, slots := 0, locals := 116 }
set_option maxHeartbeats 4000000 in
set_option maxRecDepth 100000 in
theorem c_putRod {q v : Int} (hG : GE W D_ r sz co ro ho ac al sd lf sq) (hU : PUB W D_ r hs rs ts rt_ hc re ow tc cp ck wa cn) (hq : 0 ≤ q ∧ q < W * D_) (hv : 0 ≤ v ∧ v ≤ 50) : CV l D vwCl cI cZ cJ SL yRB_putRod wsRB_putRod rmRB_putRod [.ref (a 0), .int (iZ q), .int (iZ v)] (cW cI cZ a W D_ r sz co ro ho ac al sd lf sq hs rs ts rt_ hc li re ow tc cp ck wa qp qt qs lo sb lc cn ch sk) (fun w1 => ∃ (rt' hc' li' re' ow' tc' : Int → Int) (lc' : Int), w1 = (cW cI cZ a W D_ r sz co ro ho ac al sd lf sq hs (zu rs q v) (zu ts q ((hs q + v) * 1048576)) rt' hc' li' re' ow' tc' cp ck wa qp qt qs lo sb lc' cn ch sk) ∧ PUB W D_ r hs (zu rs q v) (zu ts q ((hs q + v) * 1048576)) rt' hc' re' ow' tc' cp ck wa cn) := by
  refine tt_startV (by decide) rfl (Nat.le_of_ble_eq_true rfl) ?_
  intro p e s m args below meth c hnm F
  obtain ⟨⟨hW1, hW2, hD1, hD2, hr1, hr2⟩, hGp, hGs, hGk, hGx, hGi, hGm, hGq⟩ := id hG
  have hWD := wd_b hW1 hW2 hD1 hD2
  have hPL := pl_b hW1 hW2 hD1 hD2 hr1 hr2
  have hSQ := sd_b hr1 hr2
  have hts := pub_ts hU
  have hrt := hU.2.2.1
  have hB := hU.1
  have hcn := hU.2.2.2.1
  have hcp := hU.2.2.2.2.1
  have hwa := hU.2.2.2.2.2
  have hre := pub_re hG hU
  have hhc := pub_hc hG hU
  have hhs : ∀ p, 0 ≤ p → p < W * D_ → 0 ≤ hs p ∧ hs p ≤ 200 := fun p h1 h2 => (hU.2.1 p h1 h2).2.1
  have hq1 := hhs q hq.1 hq.2
  refine tt_aload_n F 0 rfl rfl dRB_putRod_0 ?_
  refine tt_get F inRB 0 rfl rfl 3 (by decide) we289 rfl dRB_putRod_1 ?_
  refine tt_get F inHO 1 rfl rfl 6 (by decide) we103 rfl dRB_putRod_4 ?_
  refine tt_iload_n F 1 rfl rfl dRB_putRod_7 ?_
  refine tt_iload_n F 2 rfl rfl dRB_putRod_8 ?_
  refine tt_iast F (fun h => h) 5 rfl (by omega) (by omega) (by omega) dRB_putRod_9 ?_
  refine tt_aload_n F 0 rfl rfl dRB_putRod_10 ?_
  refine tt_get F inRB 0 rfl rfl 4 (by decide) we290 rfl dRB_putRod_11 ?_
  refine tt_iload_n F 1 rfl rfl dRB_putRod_14 ?_
  refine tt_aload_n F 0 rfl rfl dRB_putRod_15 ?_
  refine tt_get F inRB 0 rfl rfl 3 (by decide) we289 rfl dRB_putRod_16 ?_
  refine tt_iload_n F 1 rfl rfl dRB_putRod_19 ?_
  refine tt_iload_n F 2 rfl rfl dRB_putRod_20 ?_
  refine tt_cIV0 F (fun h => h) (As := [.int (iZ q), .int (iZ v)]) 1 rfl rfl (c_tipWith (hs := hs) (rs := zu rs q v) (ts := ts) (rt_ := rt_) (hc := hc) (li := li) (re := re) (ow := ow) (tc := tc) (cp := cp) (ck := ck) (wa := wa) (qp := qp) (qt := qt) (qs := qs) (lo := lo) (sb := sb) (lc := lc) (cn := cn) (ch := ch) (sk := sk) (q := q) (v := v) hG (by omega)) (cwV 2 F.1.2.2.2.2 (gw_V wd443 wd343 wd344 wd47 wd345) rfl rfl rfl (by decide +kernel) ⟨(Nat.le_of_ble_eq_true rfl), (Nat.le_of_ble_eq_true rfl)⟩) rfl rfl rfl (Nat.le_of_ble_eq_true rfl) ⟨(Nat.le_of_ble_eq_true rfl), (Nat.le_of_ble_eq_true rfl)⟩ dRB_putRod_21 (fun z21 w1 hp => ?_)
  obtain ⟨hz21, rfl⟩ := hp
  refine tt_cVV0 F (fun h => h) (As := [.int (iZ q), .int (iZ z21)]) 14 rfl rfl (c_moveTip (hs := hs) (rs := zu rs q v) (ts := ts) (rt_ := rt_) (hc := hc) (li := li) (re := re) (ow := ow) (tc := tc) (cp := cp) (ck := ck) (wa := wa) (qp := qp) (qt := qt) (qs := qs) (lo := lo) (sb := sb) (lc := lc) (cn := cn) (ch := ch) (sk := sk) (p0 := q) (v := z21) hG hts hrt (by omega) (by omega) hB) (cwV 2 F.1.2.2.2.2 (gw_V wd444 wd445 wd446 wd48 wd447) rfl rfl rfl (by decide +kernel) ⟨(Nat.le_of_ble_eq_true rfl), (Nat.le_of_ble_eq_true rfl)⟩) rfl rfl rfl (Nat.le_of_ble_eq_true rfl) ⟨(Nat.le_of_ble_eq_true rfl), (Nat.le_of_ble_eq_true rfl)⟩ dRB_putRod_24 (fun w1 hp => ?_)
  obtain ⟨rt24, hc24, li24, re24, ow24, tc24, lc24, rfl, Ib24, It24⟩ := hp
  exact tt_vret F rfl (Nat.le_of_ble_eq_true rfl) (Nat.le_of_ble_eq_true rfl) dRB_putRod_27 ⟨rt24, hc24, li24, re24, ow24, tc24, lc24, by rw [hz21], pub_r hU hv (by rw [← hz21]; exact Ib24) (by rw [← hz21]; exact It24)⟩
abbrev rmRB_height : Room := { frames := 4, cells := 0, slots := 0, locals := 116 }
set_option maxHeartbeats 4000000 in
set_option maxRecDepth 100000 in
theorem c_height {x y h_ : Int} (hG : GE W D_ r sz co ro ho ac al sd lf sq) (hU : PUB W D_ r hs rs ts rt_ hc re ow tc cp ck wa cn) (hp : (0 ≤ x ∧ x < W) ∧ 0 ≤ y ∧ y < D_) (hh : 0 ≤ h_ ∧ h_ ≤ 200) : CI l D vwCl cI cZ cJ SL yRB_height wsRB_height rmRB_height [.ref (a 0), .int (iZ x), .int (iZ y), .int (iZ h_)] (cW cI cZ a W D_ r sz co ro ho ac al sd lf sq hs rs ts rt_ hc li re ow tc cp ck wa qp qt qs lo sb lc cn ch sk) (fun z w1 => z = hs (y * W + x) ∧ ∃ (ts' rt' hc' li' re' ow' tc' : Int → Int) (lc' : Int), w1 = (cW cI cZ a W D_ r sz co ro ho ac al sd lf sq (zu hs (y * W + x) h_) rs ts' rt' hc' li' re' ow' tc' cp ck wa qp qt qs lo sb lc' cn ch sk) ∧ PUB W D_ r (zu hs (y * W + x) h_) rs ts' rt' hc' re' ow' tc' cp ck wa cn) := by
  refine tt_startI (by decide) rfl (Nat.le_of_ble_eq_true rfl) ?_
  intro p e s m args below meth c hnm F
  obtain ⟨⟨hW1, hW2, hD1, hD2, hr1, hr2⟩, hGp, hGs, hGk, hGx, hGi, hGm, hGq⟩ := id hG
  have hWD := wd_b hW1 hW2 hD1 hD2
  have hPL := pl_b hW1 hW2 hD1 hD2 hr1 hr2
  have hSQ := sd_b hr1 hr2
  have hts := pub_ts hU
  have hrt := hU.2.2.1
  have hB := hU.1
  have hcn := hU.2.2.2.1
  have hcp := hU.2.2.2.2.1
  have hwa := hU.2.2.2.2.2
  have hre := pub_re hG hU
  have hhc := pub_hc hG hU
  have hhs : ∀ p, 0 ≤ p → p < W * D_ → 0 ≤ hs p ∧ hs p ≤ 200 := fun p h1 h2 => (hU.2.1 p h1 h2).2.1
  have hqb := ix_b (i := x) (j := y) (W := W) (D := D_) (by omega) (by omega) (by omega) (by omega)
  have hq1 := hU.2.1 _ hqb.1 hqb.2
  refine tt_aload_n F 0 rfl rfl dRB_height_0 ?_
  refine tt_iload_n F 1 rfl rfl dRB_height_1 ?_
  refine tt_iload_n F 2 rfl rfl dRB_height_2 ?_
  refine tt_cOV F (As := [.int (iZ x), .int (iZ y)]) [] 0 rfl rfl (o_pointAt (hs := hs) (rs := rs) (ts := ts) (rt_ := rt_) (hc := hc) (li := li) (re := re) (ow := ow) (tc := tc) (cp := cp) (ck := ck) (wa := wa) (qp := qp) (qt := qt) (qs := qs) (lo := lo) (sb := sb) (lc := lc) (cn := cn) (ch := ch) (sk := sk) (x := x) (y := y) hG (by omega)) (cwV 2 F.1.2.2.2.2 (gw_V wd485 wd487 wd25 wd45 wd488) rfl rfl rfl (by decide +kernel) ⟨(Nat.le_of_ble_eq_true rfl), (Nat.le_of_ble_eq_true rfl)⟩) rfl rfl rfl (Nat.le_of_ble_eq_true rfl) ⟨(Nat.le_of_ble_eq_true rfl), (Nat.le_of_ble_eq_true rfl)⟩ dRB_height_3 (fun v3 hp => ?_)
  obtain rfl := hp
  refine tt_istore F [(4, .int (iZ (y * W + x))), (0, .ref (a 0)), (1, .int (iZ x)), (2, .int (iZ y)), (3, .int (iZ h_))] (by decide) rfl dRB_height_6 ?_
  refine tt_iload_n F 4 rfl rfl dRB_height_8 ?_
  refine tt_iconst F dRB_height_9 ?_
  refine tt_sipush F (by decide) dRB_height_10 ?_
  refine tt_cOS F (As := [.int (iZ h_), .int (iZ 0), .int (iZ 200)]) [] (o_needNumber (w0 := (cW cI cZ a W D_ r sz co ro ho ac al sd lf sq hs rs ts rt_ hc li re ow tc cp ck wa qp qt qs lo sb lc cn ch sk)) (z := h_) (a_ := 0) (b_ := 200) ⟨by omega, by omega⟩ ⟨by omega, by omega⟩ ⟨by omega, by omega⟩ (by omega)) (va_cwS 3 F.1.2.2.2.2 (gw_S wd489 wd490 wd45 wd491) rfl rfl rfl (by decide +kernel) ⟨(Nat.le_of_ble_eq_true rfl), (Nat.le_of_ble_eq_true rfl)⟩) rfl rfl rfl (Nat.le_of_ble_eq_true rfl) ⟨(Nat.le_of_ble_eq_true rfl), (Nat.le_of_ble_eq_true rfl)⟩ dRB_height_13 (fun v13 hp => ?_)
  obtain rfl := hp
  refine tt_aload_n F 1 rfl rfl dRB_height_16 ?_
  refine tt_get F inRB 0 rfl rfl 3 (by decide) we289 rfl dRB_height_17 ?_
  refine tt_get F inHO 1 rfl rfl 5 (by decide) we101 rfl dRB_height_20 ?_
  refine tt_iload F 0 rfl dRB_height_23 ?_
  refine tt_iald F 4 rfl (by omega) (by omega) (by omega) dRB_height_25 ?_
  refine tt_name (fun was hwas => ?_)
  refine tt_istore F [(5, .int (iZ was)), (4, .int (iZ (y * W + x))), (0, .ref (a 0)), (1, .int (iZ x)), (2, .int (iZ y)), (3, .int (iZ h_))] (by decide) rfl dRB_height_26 ?_
  refine tt_aload_n F 2 rfl rfl dRB_height_28 ?_
  refine tt_get F inRB 0 rfl rfl 3 (by decide) we289 rfl dRB_height_29 ?_
  refine tt_get F inHO 1 rfl rfl 5 (by decide) we101 rfl dRB_height_32 ?_
  refine tt_iload F 1 rfl dRB_height_35 ?_
  refine tt_iload_n F 5 rfl rfl dRB_height_37 ?_
  refine tt_iast F (fun h => h) 4 rfl (by omega) (by omega) (by omega) dRB_height_38 ?_
  refine tt_aload_n F 2 rfl rfl dRB_height_39 ?_
  refine tt_get F inRB 0 rfl rfl 4 (by decide) we290 rfl dRB_height_40 ?_
  refine tt_iload F 1 rfl dRB_height_43 ?_
  refine tt_aload_n F 2 rfl rfl dRB_height_45 ?_
  refine tt_get F inRB 0 rfl rfl 3 (by decide) we289 rfl dRB_height_46 ?_
  refine tt_iload F 1 rfl dRB_height_49 ?_
  refine tt_aload_n F 2 rfl rfl dRB_height_51 ?_
  refine tt_get F inRB 0 rfl rfl 3 (by decide) we289 rfl dRB_height_52 ?_
  refine tt_get F inHO 1 rfl rfl 6 (by decide) we103 rfl dRB_height_55 ?_
  refine tt_iload F 1 rfl dRB_height_58 ?_
  refine tt_iald F 5 rfl (by omega) (by omega) (by omega) dRB_height_60 ?_
  refine tt_name (fun rv hrv => ?_)
  refine tt_cIV0 F (fun h => h) (As := [.int (iZ (y * W + x)), .int (iZ rv)]) 1 rfl rfl (c_tipWith (hs := zu hs (y * W + x) h_) (rs := rs) (ts := ts) (rt_ := rt_) (hc := hc) (li := li) (re := re) (ow := ow) (tc := tc) (cp := cp) (ck := ck) (wa := wa) (qp := qp) (qt := qt) (qs := qs) (lo := lo) (sb := sb) (lc := lc) (cn := cn) (ch := ch) (sk := sk) (q := y * W + x) (v := rv) hG (by omega)) (cwV 2 F.1.2.2.2.2 (gw_V wd443 wd343 wd344 wd47 wd345) rfl rfl rfl (by decide +kernel) ⟨(Nat.le_of_ble_eq_true rfl), (Nat.le_of_ble_eq_true rfl)⟩) rfl rfl rfl (Nat.le_of_ble_eq_true rfl) ⟨(Nat.le_of_ble_eq_true rfl), (Nat.le_of_ble_eq_true rfl)⟩ dRB_height_61 (fun z61 w1 hp => ?_)
  obtain ⟨hz61, rfl⟩ := hp
  have hz61' : z61 = (h_ + rs (y * W + x)) * 1048576 := by rw [hz61, zu_s, hrv]
  refine tt_cVV0 F (fun h => h) (As := [.int (iZ (y * W + x)), .int (iZ z61)]) 14 rfl rfl (c_moveTip (hs := zu hs (y * W + x) h_) (rs := rs) (ts := ts) (rt_ := rt_) (hc := hc) (li := li) (re := re) (ow := ow) (tc := tc) (cp := cp) (ck := ck) (wa := wa) (qp := qp) (qt := qt) (qs := qs) (lo := lo) (sb := sb) (lc := lc) (cn := cn) (ch := ch) (sk := sk) (p0 := y * W + x) (v := z61) hG hts hrt (by omega) (by omega) hB) (cwV 2 F.1.2.2.2.2 (gw_V wd444 wd445 wd446 wd48 wd447) rfl rfl rfl (by decide +kernel) ⟨(Nat.le_of_ble_eq_true rfl), (Nat.le_of_ble_eq_true rfl)⟩) rfl rfl rfl (Nat.le_of_ble_eq_true rfl) ⟨(Nat.le_of_ble_eq_true rfl), (Nat.le_of_ble_eq_true rfl)⟩ dRB_height_64 (fun w1 hp => ?_)
  obtain ⟨rt64, hc64, li64, re64, ow64, tc64, lc64, rfl, Ib64, It64⟩ := hp
  refine tt_iload F 0 rfl dRB_height_67 ?_
  exact tt_iret F rfl (Nat.le_of_ble_eq_true rfl) (Nat.le_of_ble_eq_true rfl) dRB_height_69 ⟨hwas, _, rt64, hc64, li64, re64, ow64, tc64, lc64, by rw [hz61'], pub_h hU hh (by rw [← hz61']; exact Ib64) (by rw [← hz61']; exact It64)⟩
abbrev rmTRB_height : Room := { frames := 8, cells := 1, slots := 6, locals := 134 }
set_option maxHeartbeats 4000000 in
set_option maxRecDepth 100000 in
theorem x_height (hst : l.stackTraces = false) {x y h_ : Int} (hG : GE W D_ r sz co ro ho ac al sd lf sq) (hx0 : ir x) (hy0 : ir y) (hh0 : ir h_) (h : ¬ (((0 ≤ x ∧ x < W) ∧ 0 ≤ y ∧ y < D_) ∧ 0 ≤ h_ ∧ h_ ≤ 200)) : CY l D vwCl cI cZ cJ SL RRB ssL yRB_height wsRB_height rmTRB_height [.ref (a 0), .int (iZ x), .int (iZ y), .int (iZ h_)] (cW cI cZ a W D_ r sz co ro ho ac al sd lf sq hs rs ts rt_ hc li re ow tc cp ck wa qp qt qs lo sb lc cn ch sk) IAE := by
  refine ts_start (by decide) rfl (Nat.le_of_ble_eq_true rfl) ?_
  intro p e s m args below meth c F hex hsp
  obtain ⟨⟨hW1, hW2, hD1, hD2, hr1, hr2⟩, hGp, hGs, hGk, hGx, hGi, hGm, hGq⟩ := id hG
  have hWD := wd_b hW1 hW2 hD1 hD2
  have hPL := pl_b hW1 hW2 hD1 hD2 hr1 hr2
  have hSQ := sd_b hr1 hr2
  by_cases hx : (0 ≤ x ∧ x < W) ∧ 0 ≤ y ∧ y < D_
  · skip
    refine tt_aload_n F 0 rfl rfl dRB_height_0 ?_
    refine tt_iload_n F 1 rfl rfl dRB_height_1 ?_
    refine tt_iload_n F 2 rfl rfl dRB_height_2 ?_
    refine tt_cOV F (As := [.int (iZ x), .int (iZ y)]) [] 0 rfl rfl (o_pointAt (hs := hs) (rs := rs) (ts := ts) (rt_ := rt_) (hc := hc) (li := li) (re := re) (ow := ow) (tc := tc) (cp := cp) (ck := ck) (wa := wa) (qp := qp) (qt := qt) (qs := qs) (lo := lo) (sb := sb) (lc := lc) (cn := cn) (ch := ch) (sk := sk) (x := x) (y := y) hG (by omega)) (cwV 2 F.1.2.2.2.2 (gw_V wd485 wd487 wd25 wd45 wd488) rfl rfl rfl (by decide +kernel) ⟨(Nat.le_of_ble_eq_true rfl), (Nat.le_of_ble_eq_true rfl)⟩) rfl rfl rfl (Nat.le_of_ble_eq_true rfl) ⟨(Nat.le_of_ble_eq_true rfl), (Nat.le_of_ble_eq_true rfl)⟩ dRB_height_3 (fun v3 hp => ?_)
    obtain rfl := hp
    refine tt_istore F [(4, .int (iZ (y * W + x))), (0, .ref (a 0)), (1, .int (iZ x)), (2, .int (iZ y)), (3, .int (iZ h_))] (by decide) rfl dRB_height_6 ?_
    refine tt_iload_n F 4 rfl rfl dRB_height_8 ?_
    refine tt_iconst F dRB_height_9 ?_
    refine tt_sipush F (by decide) dRB_height_10 ?_
    exact ts_outS F hex hsp (As := [.int (iZ h_), .int (iZ 0), .int (iZ 200)]) [] (x_needNumber hst (w0 := (cW cI cZ a W D_ r sz co ro ho ac al sd lf sq hs rs ts rt_ hc li re ow tc cp ck wa qp qt qs lo sb lc cn ch sk)) (z := h_) (a_ := 0) (b_ := 200) ⟨by omega, by omega⟩ ⟨by omega, by omega⟩ ⟨by omega, by omega⟩ (by omega)) (va_cwS 3 F.1.2.2.2.2 (gw_S wd489 wd490 wd45 wd491) rfl rfl rfl (by decide +kernel) ⟨(Nat.le_of_ble_eq_true rfl), (Nat.le_of_ble_eq_true rfl)⟩) rfl rfl rfl (Nat.le_of_ble_eq_true rfl) ⟨(Nat.le_of_ble_eq_true rfl), (Nat.le_of_ble_eq_true rfl)⟩ dRB_height_13
  · skip
    refine tt_aload_n F 0 rfl rfl dRB_height_0 ?_
    refine tt_iload_n F 1 rfl rfl dRB_height_1 ?_
    refine tt_iload_n F 2 rfl rfl dRB_height_2 ?_
    exact ts_outV F hex hsp (As := [.int (iZ x), .int (iZ y)]) [] 0 rfl rfl (x_pointAt hst (hs := hs) (rs := rs) (ts := ts) (rt_ := rt_) (hc := hc) (li := li) (re := re) (ow := ow) (tc := tc) (cp := cp) (ck := ck) (wa := wa) (qp := qp) (qt := qt) (qs := qs) (lo := lo) (sb := sb) (lc := lc) (cn := cn) (ch := ch) (sk := sk) (x := x) (y := y) hG ⟨by omega, by omega⟩ ⟨by omega, by omega⟩ (by omega)) (cwV 2 F.1.2.2.2.2 (gw_V wd485 wd487 wd25 wd45 wd488) rfl rfl rfl (by decide +kernel) ⟨(Nat.le_of_ble_eq_true rfl), (Nat.le_of_ble_eq_true rfl)⟩) rfl rfl rfl (Nat.le_of_ble_eq_true rfl) ⟨(Nat.le_of_ble_eq_true rfl), (Nat.le_of_ble_eq_true rfl)⟩ dRB_height_3
abbrev rmRB_rod : Room := { frames := 5, cells := 0, slots := 0, locals := 138 }
set_option maxHeartbeats 4000000 in
set_option maxRecDepth 100000 in
theorem c_rod {x y v_ : Int} (hG : GE W D_ r sz co ro ho ac al sd lf sq) (hU : PUB W D_ r hs rs ts rt_ hc re ow tc cp ck wa cn) (hp : (0 ≤ x ∧ x < W) ∧ 0 ≤ y ∧ y < D_) (hh : 0 ≤ v_ ∧ v_ ≤ 50) : CI l D vwCl cI cZ cJ SL yRB_rod wsRB_rod rmRB_rod [.ref (a 0), .int (iZ x), .int (iZ y), .int (iZ v_)] (cW cI cZ a W D_ r sz co ro ho ac al sd lf sq hs rs ts rt_ hc li re ow tc cp ck wa qp qt qs lo sb lc cn ch sk) (fun z w1 => z = rs (y * W + x) ∧ ∃ (ts' rt' hc' li' re' ow' tc' : Int → Int) (lc' : Int), w1 = (cW cI cZ a W D_ r sz co ro ho ac al sd lf sq hs (zu rs (y * W + x) v_) ts' rt' hc' li' re' ow' tc' cp ck wa qp qt qs lo sb lc' cn ch sk) ∧ PUB W D_ r hs (zu rs (y * W + x) v_) ts' rt' hc' re' ow' tc' cp ck wa cn) := by
  refine tt_startI (by decide) rfl (Nat.le_of_ble_eq_true rfl) ?_
  intro p e s m args below meth c hnm F
  obtain ⟨⟨hW1, hW2, hD1, hD2, hr1, hr2⟩, hGp, hGs, hGk, hGx, hGi, hGm, hGq⟩ := id hG
  have hWD := wd_b hW1 hW2 hD1 hD2
  have hPL := pl_b hW1 hW2 hD1 hD2 hr1 hr2
  have hSQ := sd_b hr1 hr2
  have hts := pub_ts hU
  have hrt := hU.2.2.1
  have hB := hU.1
  have hcn := hU.2.2.2.1
  have hcp := hU.2.2.2.2.1
  have hwa := hU.2.2.2.2.2
  have hre := pub_re hG hU
  have hhc := pub_hc hG hU
  have hhs : ∀ p, 0 ≤ p → p < W * D_ → 0 ≤ hs p ∧ hs p ≤ 200 := fun p h1 h2 => (hU.2.1 p h1 h2).2.1
  have hqb := ix_b (i := x) (j := y) (W := W) (D := D_) (by omega) (by omega) (by omega) (by omega)
  refine tt_aload_n F 0 rfl rfl dRB_rod_0 ?_
  refine tt_iload_n F 1 rfl rfl dRB_rod_1 ?_
  refine tt_iload_n F 2 rfl rfl dRB_rod_2 ?_
  refine tt_cOV F (As := [.int (iZ x), .int (iZ y)]) [] 0 rfl rfl (o_pointAt (hs := hs) (rs := rs) (ts := ts) (rt_ := rt_) (hc := hc) (li := li) (re := re) (ow := ow) (tc := tc) (cp := cp) (ck := ck) (wa := wa) (qp := qp) (qt := qt) (qs := qs) (lo := lo) (sb := sb) (lc := lc) (cn := cn) (ch := ch) (sk := sk) (x := x) (y := y) hG (by omega)) (cwV 2 F.1.2.2.2.2 (gw_V wd485 wd487 wd25 wd45 wd488) rfl rfl rfl (by decide +kernel) ⟨(Nat.le_of_ble_eq_true rfl), (Nat.le_of_ble_eq_true rfl)⟩) rfl rfl rfl (Nat.le_of_ble_eq_true rfl) ⟨(Nat.le_of_ble_eq_true rfl), (Nat.le_of_ble_eq_true rfl)⟩ dRB_rod_3 (fun v3 hp => ?_)
  obtain rfl := hp
  refine tt_istore F [(4, .int (iZ (y * W + x))), (0, .ref (a 0)), (1, .int (iZ x)), (2, .int (iZ y)), (3, .int (iZ v_))] (by decide) rfl dRB_rod_6 ?_
  refine tt_iload_n F 4 rfl rfl dRB_rod_8 ?_
  refine tt_iconst F dRB_rod_9 ?_
  refine tt_bipush F (by decide) dRB_rod_10 ?_
  refine tt_cOS F (As := [.int (iZ v_), .int (iZ 0), .int (iZ 50)]) [] (o_needNumber (w0 := (cW cI cZ a W D_ r sz co ro ho ac al sd lf sq hs rs ts rt_ hc li re ow tc cp ck wa qp qt qs lo sb lc cn ch sk)) (z := v_) (a_ := 0) (b_ := 50) ⟨by omega, by omega⟩ ⟨by omega, by omega⟩ ⟨by omega, by omega⟩ (by omega)) (va_cwS 3 F.1.2.2.2.2 (gw_S wd489 wd490 wd45 wd491) rfl rfl rfl (by decide +kernel) ⟨(Nat.le_of_ble_eq_true rfl), (Nat.le_of_ble_eq_true rfl)⟩) rfl rfl rfl (Nat.le_of_ble_eq_true rfl) ⟨(Nat.le_of_ble_eq_true rfl), (Nat.le_of_ble_eq_true rfl)⟩ dRB_rod_12 (fun v12 hp => ?_)
  obtain rfl := hp
  refine tt_aload_n F 1 rfl rfl dRB_rod_15 ?_
  refine tt_get F inRB 0 rfl rfl 3 (by decide) we289 rfl dRB_rod_16 ?_
  refine tt_get F inHO 1 rfl rfl 6 (by decide) we103 rfl dRB_rod_19 ?_
  refine tt_iload F 0 rfl dRB_rod_22 ?_
  refine tt_iald F 5 rfl (by omega) (by omega) (by omega) dRB_rod_24 ?_
  refine tt_name (fun was hwas => ?_)
  refine tt_istore F [(5, .int (iZ was)), (4, .int (iZ (y * W + x))), (0, .ref (a 0)), (1, .int (iZ x)), (2, .int (iZ y)), (3, .int (iZ v_))] (by decide) rfl dRB_rod_25 ?_
  refine tt_aload_n F 2 rfl rfl dRB_rod_27 ?_
  refine tt_iload F 1 rfl dRB_rod_28 ?_
  refine tt_iload_n F 5 rfl rfl dRB_rod_30 ?_
  refine tt_cVV0 F (fun h => h) (As := [.int (iZ (y * W + x)), .int (iZ v_)]) 0 rfl rfl (c_putRod (hs := hs) (rs := rs) (ts := ts) (rt_ := rt_) (hc := hc) (li := li) (re := re) (ow := ow) (tc := tc) (cp := cp) (ck := ck) (wa := wa) (qp := qp) (qt := qt) (qs := qs) (lo := lo) (sb := sb) (lc := lc) (cn := cn) (ch := ch) (sk := sk) (q := y * W + x) (v := v_) hG hU hqb hh) (cwV 2 F.1.2.2.2.2 (gw_V wd439 wd441 wd19 wd45 wd442) rfl rfl rfl (by decide +kernel) ⟨(Nat.le_of_ble_eq_true rfl), (Nat.le_of_ble_eq_true rfl)⟩) rfl rfl rfl (Nat.le_of_ble_eq_true rfl) ⟨(Nat.le_of_ble_eq_true rfl), (Nat.le_of_ble_eq_true rfl)⟩ dRB_rod_31 (fun w1 hp => ?_)
  obtain ⟨rt31, hc31, li31, re31, ow31, tc31, lc31, rfl, IU31⟩ := hp
  refine tt_iload F 0 rfl dRB_rod_34 ?_
  exact tt_iret F rfl (Nat.le_of_ble_eq_true rfl) (Nat.le_of_ble_eq_true rfl) dRB_rod_36 ⟨hwas, _, rt31, hc31, li31, re31, ow31, tc31, lc31, rfl, IU31⟩
abbrev rmTRB_rod : Room := { frames := 8, cells := 1, slots := 6, locals := 134 }
set_option maxHeartbeats 4000000 in
set_option maxRecDepth 100000 in
theorem x_rod (hst : l.stackTraces = false) {x y v_ : Int} (hG : GE W D_ r sz co ro ho ac al sd lf sq) (hx0 : ir x) (hy0 : ir y) (hh0 : ir v_) (h : ¬ (((0 ≤ x ∧ x < W) ∧ 0 ≤ y ∧ y < D_) ∧ 0 ≤ v_ ∧ v_ ≤ 50)) : CY l D vwCl cI cZ cJ SL RRB ssL yRB_rod wsRB_rod rmTRB_rod [.ref (a 0), .int (iZ x), .int (iZ y), .int (iZ v_)] (cW cI cZ a W D_ r sz co ro ho ac al sd lf sq hs rs ts rt_ hc li re ow tc cp ck wa qp qt qs lo sb lc cn ch sk) IAE := by
  refine ts_start (by decide) rfl (Nat.le_of_ble_eq_true rfl) ?_
  intro p e s m args below meth c F hex hsp
  obtain ⟨⟨hW1, hW2, hD1, hD2, hr1, hr2⟩, hGp, hGs, hGk, hGx, hGi, hGm, hGq⟩ := id hG
  have hWD := wd_b hW1 hW2 hD1 hD2
  have hPL := pl_b hW1 hW2 hD1 hD2 hr1 hr2
  have hSQ := sd_b hr1 hr2
  by_cases hx : (0 ≤ x ∧ x < W) ∧ 0 ≤ y ∧ y < D_
  · skip
    refine tt_aload_n F 0 rfl rfl dRB_rod_0 ?_
    refine tt_iload_n F 1 rfl rfl dRB_rod_1 ?_
    refine tt_iload_n F 2 rfl rfl dRB_rod_2 ?_
    refine tt_cOV F (As := [.int (iZ x), .int (iZ y)]) [] 0 rfl rfl (o_pointAt (hs := hs) (rs := rs) (ts := ts) (rt_ := rt_) (hc := hc) (li := li) (re := re) (ow := ow) (tc := tc) (cp := cp) (ck := ck) (wa := wa) (qp := qp) (qt := qt) (qs := qs) (lo := lo) (sb := sb) (lc := lc) (cn := cn) (ch := ch) (sk := sk) (x := x) (y := y) hG (by omega)) (cwV 2 F.1.2.2.2.2 (gw_V wd485 wd487 wd25 wd45 wd488) rfl rfl rfl (by decide +kernel) ⟨(Nat.le_of_ble_eq_true rfl), (Nat.le_of_ble_eq_true rfl)⟩) rfl rfl rfl (Nat.le_of_ble_eq_true rfl) ⟨(Nat.le_of_ble_eq_true rfl), (Nat.le_of_ble_eq_true rfl)⟩ dRB_rod_3 (fun v3 hp => ?_)
    obtain rfl := hp
    refine tt_istore F [(4, .int (iZ (y * W + x))), (0, .ref (a 0)), (1, .int (iZ x)), (2, .int (iZ y)), (3, .int (iZ v_))] (by decide) rfl dRB_rod_6 ?_
    refine tt_iload_n F 4 rfl rfl dRB_rod_8 ?_
    refine tt_iconst F dRB_rod_9 ?_
    refine tt_bipush F (by decide) dRB_rod_10 ?_
    exact ts_outS F hex hsp (As := [.int (iZ v_), .int (iZ 0), .int (iZ 50)]) [] (x_needNumber hst (w0 := (cW cI cZ a W D_ r sz co ro ho ac al sd lf sq hs rs ts rt_ hc li re ow tc cp ck wa qp qt qs lo sb lc cn ch sk)) (z := v_) (a_ := 0) (b_ := 50) ⟨by omega, by omega⟩ ⟨by omega, by omega⟩ ⟨by omega, by omega⟩ (by omega)) (va_cwS 3 F.1.2.2.2.2 (gw_S wd489 wd490 wd45 wd491) rfl rfl rfl (by decide +kernel) ⟨(Nat.le_of_ble_eq_true rfl), (Nat.le_of_ble_eq_true rfl)⟩) rfl rfl rfl (Nat.le_of_ble_eq_true rfl) ⟨(Nat.le_of_ble_eq_true rfl), (Nat.le_of_ble_eq_true rfl)⟩ dRB_rod_12
  · skip
    refine tt_aload_n F 0 rfl rfl dRB_rod_0 ?_
    refine tt_iload_n F 1 rfl rfl dRB_rod_1 ?_
    refine tt_iload_n F 2 rfl rfl dRB_rod_2 ?_
    exact ts_outV F hex hsp (As := [.int (iZ x), .int (iZ y)]) [] 0 rfl rfl (x_pointAt hst (hs := hs) (rs := rs) (ts := ts) (rt_ := rt_) (hc := hc) (li := li) (re := re) (ow := ow) (tc := tc) (cp := cp) (ck := ck) (wa := wa) (qp := qp) (qt := qt) (qs := qs) (lo := lo) (sb := sb) (lc := lc) (cn := cn) (ch := ch) (sk := sk) (x := x) (y := y) hG ⟨by omega, by omega⟩ ⟨by omega, by omega⟩ (by omega)) (cwV 2 F.1.2.2.2.2 (gw_V wd485 wd487 wd25 wd45 wd488) rfl rfl rfl (by decide +kernel) ⟨(Nat.le_of_ble_eq_true rfl), (Nat.le_of_ble_eq_true rfl)⟩) rfl rfl rfl (Nat.le_of_ble_eq_true rfl) ⟨(Nat.le_of_ble_eq_true rfl), (Nat.le_of_ble_eq_true rfl)⟩ dRB_rod_3
abbrev rmRB_rest : Room := { frames := 2, cells := 0, slots := 0, locals := 44 }
set_option maxHeartbeats 4000000 in
set_option maxRecDepth 100000 in
theorem c_rest {x y wh : Int} (hG : GE W D_ r sz co ro ho ac al sd lf sq) (hU : PUB W D_ r hs rs ts rt_ hc re ow tc cp ck wa cn) (hpl : (-r ≤ x ∧ x < W + r) ∧ -r ≤ y ∧ y < D_ + r) (hw : 0 ≤ wh ∧ wh ≤ 3) : CI l D vwCl cI cZ cJ SL yRB_rest wsRB_rest rmRB_rest [.ref (a 0), .int (iZ x), .int (iZ y), .int (iZ wh)] (cW cI cZ a W D_ r sz co ro ho ac al sd lf sq hs rs ts rt_ hc li re ow tc cp ck wa qp qt qs lo sb lc cn ch sk) (fun z w1 => ((wh = 0 ∧ z = re ((y + r) * (W + 2 * r) + (x + r)) / 1048576) ∨ (wh = 1 ∧ z = bi (decide (re ((y + r) * (W + 2 * r) + (x + r)) % 1048576 = 0))) ∨ (wh = 2 ∧ z = tc ((y + r) * (W + 2 * r) + (x + r))) ∨ (wh = 3 ∧ z = bi (decide (re ((y + r) * (W + 2 * r) + (x + r)) = r * 1048576)))) ∧ w1 = (cW cI cZ a W D_ r sz co ro ho ac al sd lf sq hs rs ts rt_ hc li re ow tc cp ck wa qp qt qs lo sb lc cn ch sk)) := by
  refine tt_startI (by decide) rfl (Nat.le_of_ble_eq_true rfl) ?_
  intro p e s m args below meth c hnm F
  obtain ⟨⟨hW1, hW2, hD1, hD2, hr1, hr2⟩, hGp, hGs, hGk, hGx, hGi, hGm, hGq⟩ := id hG
  have hWD := wd_b hW1 hW2 hD1 hD2
  have hPL := pl_b hW1 hW2 hD1 hD2 hr1 hr2
  have hSQ := sd_b hr1 hr2
  have hts := pub_ts hU
  have hrt := hU.2.2.1
  have hB := hU.1
  have hcn := hU.2.2.2.1
  have hcp := hU.2.2.2.2.1
  have hwa := hU.2.2.2.2.2
  have hre := pub_re hG hU
  have hhc := pub_hc hG hU
  have hhs : ∀ p, 0 ≤ p → p < W * D_ → 0 ≤ hs p ∧ hs p ≤ 200 := fun p h1 h2 => (hU.2.1 p h1 h2).2.1
  have hpi := pl_in (W := W) (D_ := D_) (r := r) hpl.1.1 hpl.1.2 hpl.2.1 hpl.2.2
  have hrb := hre _ hpi.1 hpi.2
  refine tt_aload_n F 0 rfl rfl dRB_rest_0 ?_
  refine tt_iload_n F 1 rfl rfl dRB_rest_1 ?_
  refine tt_iload_n F 2 rfl rfl dRB_rest_2 ?_
  refine tt_cOV F (As := [.int (iZ x), .int (iZ y)]) [] 0 rfl rfl (o_needPlace (hs := hs) (rs := rs) (ts := ts) (rt_ := rt_) (hc := hc) (li := li) (re := re) (ow := ow) (tc := tc) (cp := cp) (ck := ck) (wa := wa) (qp := qp) (qt := qt) (qs := qs) (lo := lo) (sb := sb) (lc := lc) (cn := cn) (ch := ch) (sk := sk) (x := x) (y := y) hG (by omega)) (cwV 2 F.1.2.2.2.2 (gw_V wd573 wd575 wd27 wd45 wd576) rfl rfl rfl (by decide +kernel) ⟨(Nat.le_of_ble_eq_true rfl), (Nat.le_of_ble_eq_true rfl)⟩) rfl rfl rfl (Nat.le_of_ble_eq_true rfl) ⟨(Nat.le_of_ble_eq_true rfl), (Nat.le_of_ble_eq_true rfl)⟩ dRB_rest_3 (fun v3 hp => ?_)
  obtain rfl := hp
  refine tt_aload_n F 0 rfl rfl dRB_rest_6 ?_
  refine tt_get F inRB 0 rfl rfl 4 (by decide) we290 rfl dRB_rest_7 ?_
  refine tt_iload_n F 1 rfl rfl dRB_rest_10 ?_
  refine tt_iload_n F 2 rfl rfl dRB_rest_11 ?_
  refine tt_cOV F (As := [.int (iZ x), .int (iZ y)]) [] 14 rfl rfl (o_restAt (hs := hs) (rs := rs) (ts := ts) (rt_ := rt_) (hc := hc) (li := li) (re := re) (ow := ow) (tc := tc) (cp := cp) (ck := ck) (wa := wa) (qp := qp) (qt := qt) (qs := qs) (lo := lo) (sb := sb) (lc := lc) (cn := cn) (ch := ch) (sk := sk) (x := x) (y := y) hG (by omega)) (cwV 2 F.1.2.2.2.2 (gw_V wd577 wd578 wd579 wd48 wd580) rfl rfl rfl (by decide +kernel) ⟨(Nat.le_of_ble_eq_true rfl), (Nat.le_of_ble_eq_true rfl)⟩) rfl rfl rfl (Nat.le_of_ble_eq_true rfl) ⟨(Nat.le_of_ble_eq_true rfl), (Nat.le_of_ble_eq_true rfl)⟩ dRB_rest_12 (fun v12 hp => ?_)
  obtain rfl := hp
  refine tt_istore F [(4, .int (iZ (re ((y + r) * (W + 2 * r) + (x + r))))), (0, .ref (a 0)), (1, .int (iZ x)), (2, .int (iZ y)), (3, .int (iZ wh))] (by decide) rfl dRB_rest_15 ?_
  refine tt_iload_n F 4 rfl rfl dRB_rest_17 ?_
  rcases (show wh = 0 ∨ wh = 1 ∨ wh = 2 ∨ wh = 3 by omega) with hw | hw | hw | hw
  · skip
    refine tt_tsw F 48 ⟨by omega, by omega⟩ dRB_rest_18 (by omega) (by omega) (by rw [hw]; rfl) (by decide) ?_
    refine tt_iload F 0 rfl dRB_rest_48 ?_
    refine tt_cIS0 F (fun h => h) (As := [.int (iZ (re ((y + r) * (W + 2 * r) + (x + r))))]) (c_floor (w0 := (cW cI cZ a W D_ r sz co ro ho ac al sd lf sq hs rs ts rt_ hc li re ow tc cp ck wa qp qt qs lo sb lc cn ch sk)) (x := re ((y + r) * (W + 2 * r) + (x + r))) ⟨by omega, by omega⟩) (va_cwS 1 F.1.2.2.2.2 (gw_S wd581 wd582 wd50 wd583) rfl rfl rfl (by decide +kernel) ⟨(Nat.le_of_ble_eq_true rfl), (Nat.le_of_ble_eq_true rfl)⟩) rfl rfl rfl (Nat.le_of_ble_eq_true rfl) ⟨(Nat.le_of_ble_eq_true rfl), (Nat.le_of_ble_eq_true rfl)⟩ dRB_rest_50 (fun z50 w1 hp => ?_)
    obtain ⟨hz50, rfl⟩ := hp
    exact tt_iret F rfl (Nat.le_of_ble_eq_true rfl) (Nat.le_of_ble_eq_true rfl) dRB_rest_53 ⟨Or.inl ⟨hw, hz50⟩, rfl⟩
  · skip
    refine tt_tsw F 54 ⟨by omega, by omega⟩ dRB_rest_18 (by omega) (by omega) (by rw [hw]; rfl) (by decide) ?_
    refine tt_iload F 0 rfl dRB_rest_54 ?_
    refine tt_cIS0 F (fun h => h) (As := [.int (iZ (re ((y + r) * (W + 2 * r) + (x + r))))]) (c_isWhole (w0 := (cW cI cZ a W D_ r sz co ro ho ac al sd lf sq hs rs ts rt_ hc li re ow tc cp ck wa qp qt qs lo sb lc cn ch sk)) (x := re ((y + r) * (W + 2 * r) + (x + r))) (by omega)) (va_cwS 1 F.1.2.2.2.2 (gw_S wd584 wd585 wd50 wd586) rfl rfl rfl (by decide +kernel) ⟨(Nat.le_of_ble_eq_true rfl), (Nat.le_of_ble_eq_true rfl)⟩) rfl rfl rfl (Nat.le_of_ble_eq_true rfl) ⟨(Nat.le_of_ble_eq_true rfl), (Nat.le_of_ble_eq_true rfl)⟩ dRB_rest_56 (fun z56 w1 hp => ?_)
    obtain ⟨hz56, rfl⟩ := hp
    refine tt_if_eq F 66 (by rw [hz56]; have := bi_b (decide (re ((y + r) * (W + 2 * r) + (x + r)) % 1048576 = 0)); exact ⟨by omega, by omega⟩) dRB_rest_59 (by decide) (fun c59 => ?_) (fun c59 => ?_)
    · skip
      refine tt_iconst F dRB_rest_66 ?_
      exact tt_iret F rfl (Nat.le_of_ble_eq_true rfl) (Nat.le_of_ble_eq_true rfl) dRB_rest_67 ⟨Or.inr (Or.inl ⟨hw, by rw [← hz56]; have := bi_b (decide (re ((y + r) * (W + 2 * r) + (x + r)) % 1048576 = 0)); omega⟩), rfl⟩
    · skip
      refine tt_iconst F dRB_rest_62 ?_
      refine tt_goto F 67 (by decide) dRB_rest_63 ?_
      exact tt_iret F rfl (Nat.le_of_ble_eq_true rfl) (Nat.le_of_ble_eq_true rfl) dRB_rest_67 ⟨Or.inr (Or.inl ⟨hw, by rw [← hz56]; have := bi_b (decide (re ((y + r) * (W + 2 * r) + (x + r)) % 1048576 = 0)); omega⟩), rfl⟩
  · skip
    refine tt_tsw F 68 ⟨by omega, by omega⟩ dRB_rest_18 (by omega) (by omega) (by rw [hw]; rfl) (by decide) ?_
    refine tt_aload_n F 1 rfl rfl dRB_rest_68 ?_
    refine tt_get F inRB 0 rfl rfl 4 (by decide) we290 rfl dRB_rest_69 ?_
    refine tt_iload_n F 2 rfl rfl dRB_rest_72 ?_
    refine tt_iload_n F 3 rfl rfl dRB_rest_73 ?_
    refine tt_cIV0 F (fun h => h) (As := [.int (iZ x), .int (iZ y)]) 14 rfl rfl (c_countTouched (hs := hs) (rs := rs) (ts := ts) (rt_ := rt_) (hc := hc) (li := li) (re := re) (ow := ow) (tc := tc) (cp := cp) (ck := ck) (wa := wa) (qp := qp) (qt := qt) (qs := qs) (lo := lo) (sb := sb) (lc := lc) (cn := cn) (ch := ch) (sk := sk) (x := x) (y := y) hG (by omega) (by omega)) (cwV 2 F.1.2.2.2.2 (gw_V wd589 wd590 wd591 wd48 wd592) rfl rfl rfl (by decide +kernel) ⟨(Nat.le_of_ble_eq_true rfl), (Nat.le_of_ble_eq_true rfl)⟩) rfl rfl rfl (Nat.le_of_ble_eq_true rfl) ⟨(Nat.le_of_ble_eq_true rfl), (Nat.le_of_ble_eq_true rfl)⟩ dRB_rest_74 (fun z74 w1 hp => ?_)
    obtain ⟨hz74, rfl⟩ := hp
    exact tt_iret F rfl (Nat.le_of_ble_eq_true rfl) (Nat.le_of_ble_eq_true rfl) dRB_rest_77 ⟨Or.inr (Or.inr (Or.inl ⟨hw, hz74⟩)), rfl⟩
  · skip
    refine tt_tsw F 78 ⟨by omega, by omega⟩ dRB_rest_18 (by omega) (by omega) (by rw [hw]; rfl) (by decide) ?_
    refine tt_iload F 0 rfl dRB_rest_78 ?_
    refine tt_aload_n F 1 rfl rfl dRB_rest_80 ?_
    refine tt_get F inRB 0 rfl rfl 4 (by decide) we290 rfl dRB_rest_81 ?_
    refine tt_get F inBA 14 rfl rfl 3 (by decide) we196 rfl dRB_rest_84 ?_
    refine tt_icmp_ne F 94 ⟨by omega, by omega⟩ ⟨by omega, by omega⟩ dRB_rest_87 (by decide) (fun c87 => ?_) (fun c87 => ?_)
    · skip
      refine tt_iconst F dRB_rest_94 ?_
      exact tt_iret F rfl (Nat.le_of_ble_eq_true rfl) (Nat.le_of_ble_eq_true rfl) dRB_rest_95 ⟨Or.inr (Or.inr (Or.inr ⟨hw, by simp [bi]; omega⟩)), rfl⟩
    · skip
      refine tt_iconst F dRB_rest_90 ?_
      refine tt_goto F 95 (by decide) dRB_rest_91 ?_
      exact tt_iret F rfl (Nat.le_of_ble_eq_true rfl) (Nat.le_of_ble_eq_true rfl) dRB_rest_95 ⟨Or.inr (Or.inr (Or.inr ⟨hw, by simp [bi]; omega⟩)), rfl⟩
abbrev rmTRB_rest : Room := { frames := 8, cells := 1, slots := 6, locals := 134 }
set_option maxHeartbeats 4000000 in
set_option maxRecDepth 100000 in
theorem x_rest (hst : l.stackTraces = false) {x y wh : Int} (hG : GE W D_ r sz co ro ho ac al sd lf sq) (hx0 : ir x) (hy0 : ir y) (hw0 : ir wh) (h : ¬ (((-r ≤ x ∧ x < W + r) ∧ -r ≤ y ∧ y < D_ + r) ∧ 0 ≤ wh ∧ wh ≤ 3)) : CY l D vwCl cI cZ cJ SL RRB ssL yRB_rest wsRB_rest rmTRB_rest [.ref (a 0), .int (iZ x), .int (iZ y), .int (iZ wh)] (cW cI cZ a W D_ r sz co ro ho ac al sd lf sq hs rs ts rt_ hc li re ow tc cp ck wa qp qt qs lo sb lc cn ch sk) IAE := by
  refine ts_start (by decide) rfl (Nat.le_of_ble_eq_true rfl) ?_
  intro p e s m args below meth c F hex hsp
  obtain ⟨⟨hW1, hW2, hD1, hD2, hr1, hr2⟩, hGp, hGs, hGk, hGx, hGi, hGm, hGq⟩ := id hG
  have hWD := wd_b hW1 hW2 hD1 hD2
  have hPL := pl_b hW1 hW2 hD1 hD2 hr1 hr2
  have hSQ := sd_b hr1 hr2
  by_cases hpl : (-r ≤ x ∧ x < W + r) ∧ -r ≤ y ∧ y < D_ + r
  · skip
    refine tt_aload_n F 0 rfl rfl dRB_rest_0 ?_
    refine tt_iload_n F 1 rfl rfl dRB_rest_1 ?_
    refine tt_iload_n F 2 rfl rfl dRB_rest_2 ?_
    refine tt_cOV F (As := [.int (iZ x), .int (iZ y)]) [] 0 rfl rfl (o_needPlace (hs := hs) (rs := rs) (ts := ts) (rt_ := rt_) (hc := hc) (li := li) (re := re) (ow := ow) (tc := tc) (cp := cp) (ck := ck) (wa := wa) (qp := qp) (qt := qt) (qs := qs) (lo := lo) (sb := sb) (lc := lc) (cn := cn) (ch := ch) (sk := sk) (x := x) (y := y) hG (by omega)) (cwV 2 F.1.2.2.2.2 (gw_V wd573 wd575 wd27 wd45 wd576) rfl rfl rfl (by decide +kernel) ⟨(Nat.le_of_ble_eq_true rfl), (Nat.le_of_ble_eq_true rfl)⟩) rfl rfl rfl (Nat.le_of_ble_eq_true rfl) ⟨(Nat.le_of_ble_eq_true rfl), (Nat.le_of_ble_eq_true rfl)⟩ dRB_rest_3 (fun v3 hp => ?_)
    obtain rfl := hp
    refine tt_aload_n F 0 rfl rfl dRB_rest_6 ?_
    refine tt_get F inRB 0 rfl rfl 4 (by decide) we290 rfl dRB_rest_7 ?_
    refine tt_iload_n F 1 rfl rfl dRB_rest_10 ?_
    refine tt_iload_n F 2 rfl rfl dRB_rest_11 ?_
    refine tt_cOV F (As := [.int (iZ x), .int (iZ y)]) [] 14 rfl rfl (o_restAt (hs := hs) (rs := rs) (ts := ts) (rt_ := rt_) (hc := hc) (li := li) (re := re) (ow := ow) (tc := tc) (cp := cp) (ck := ck) (wa := wa) (qp := qp) (qt := qt) (qs := qs) (lo := lo) (sb := sb) (lc := lc) (cn := cn) (ch := ch) (sk := sk) (x := x) (y := y) hG (by omega)) (cwV 2 F.1.2.2.2.2 (gw_V wd577 wd578 wd579 wd48 wd580) rfl rfl rfl (by decide +kernel) ⟨(Nat.le_of_ble_eq_true rfl), (Nat.le_of_ble_eq_true rfl)⟩) rfl rfl rfl (Nat.le_of_ble_eq_true rfl) ⟨(Nat.le_of_ble_eq_true rfl), (Nat.le_of_ble_eq_true rfl)⟩ dRB_rest_12 (fun v12 hp => ?_)
    obtain rfl := hp
    refine tt_istore F [(4, .int (iZ (re ((y + r) * (W + 2 * r) + (x + r))))), (0, .ref (a 0)), (1, .int (iZ x)), (2, .int (iZ y)), (3, .int (iZ wh))] (by decide) rfl dRB_rest_15 ?_
    refine tt_iload_n F 4 rfl rfl dRB_rest_17 ?_
    refine tt_tswO F 96 hw0 dRB_rest_18 (by omega) (by decide) ?_
    exact ts_throw F hst hex hsp (cls := IAE) (names := ["java/lang/RuntimeException", "java/lang/Exception"]) 1 rfl (by decide +kernel) (by decide +kernel) we492 we57 (by decide +kernel) dRB_rest_96 dRB_rest_99 dRB_rest_100 dRB_rest_102 dRB_rest_105 (Nat.le_of_ble_eq_true rfl) (Nat.le_of_ble_eq_true rfl) (Nat.le_of_ble_eq_true rfl) (Nat.le_of_ble_eq_true rfl)
  · skip
    refine tt_aload_n F 0 rfl rfl dRB_rest_0 ?_
    refine tt_iload_n F 1 rfl rfl dRB_rest_1 ?_
    refine tt_iload_n F 2 rfl rfl dRB_rest_2 ?_
    exact ts_outV F hex hsp (As := [.int (iZ x), .int (iZ y)]) [] 0 rfl rfl (x_needPlace hst (hs := hs) (rs := rs) (ts := ts) (rt_ := rt_) (hc := hc) (li := li) (re := re) (ow := ow) (tc := tc) (cp := cp) (ck := ck) (wa := wa) (qp := qp) (qt := qt) (qs := qs) (lo := lo) (sb := sb) (lc := lc) (cn := cn) (ch := ch) (sk := sk) (x := x) (y := y) hG ⟨by omega, by omega⟩ ⟨by omega, by omega⟩ (by omega)) (cwV 2 F.1.2.2.2.2 (gw_V wd573 wd575 wd27 wd45 wd576) rfl rfl rfl (by decide +kernel) ⟨(Nat.le_of_ble_eq_true rfl), (Nat.le_of_ble_eq_true rfl)⟩) rfl rfl rfl (Nat.le_of_ble_eq_true rfl) ⟨(Nat.le_of_ble_eq_true rfl), (Nat.le_of_ble_eq_true rfl)⟩ dRB_rest_3
abbrev rmRB_higher : Room := { frames := 2, cells := 0, slots := 0, locals := 44 }
set_option maxHeartbeats 4000000 in
set_option maxRecDepth 100000 in
theorem c_higher {x y x2 y2 : Int} (hG : GE W D_ r sz co ro ho ac al sd lf sq) (hU : PUB W D_ r hs rs ts rt_ hc re ow tc cp ck wa cn) (hpl : (-r ≤ x ∧ x < W + r) ∧ -r ≤ y ∧ y < D_ + r) (hpl2 : (-r ≤ x2 ∧ x2 < W + r) ∧ -r ≤ y2 ∧ y2 < D_ + r) : CI l D vwCl cI cZ cJ SL yRB_higher wsRB_higher rmRB_higher [.ref (a 0), .int (iZ x), .int (iZ y), .int (iZ x2), .int (iZ y2)] (cW cI cZ a W D_ r sz co ro ho ac al sd lf sq hs rs ts rt_ hc li re ow tc cp ck wa qp qt qs lo sb lc cn ch sk) (fun z w1 => ((re ((y + r) * (W + 2 * r) + (x + r)) < re ((y2 + r) * (W + 2 * r) + (x2 + r)) ∧ z = -1) ∨ (re ((y + r) * (W + 2 * r) + (x + r)) = re ((y2 + r) * (W + 2 * r) + (x2 + r)) ∧ z = 0) ∨ (re ((y2 + r) * (W + 2 * r) + (x2 + r)) < re ((y + r) * (W + 2 * r) + (x + r)) ∧ z = 1)) ∧ w1 = (cW cI cZ a W D_ r sz co ro ho ac al sd lf sq hs rs ts rt_ hc li re ow tc cp ck wa qp qt qs lo sb lc cn ch sk)) := by
  refine tt_startI (by decide) rfl (Nat.le_of_ble_eq_true rfl) ?_
  intro p e s m args below meth c hnm F
  obtain ⟨⟨hW1, hW2, hD1, hD2, hr1, hr2⟩, hGp, hGs, hGk, hGx, hGi, hGm, hGq⟩ := id hG
  have hWD := wd_b hW1 hW2 hD1 hD2
  have hPL := pl_b hW1 hW2 hD1 hD2 hr1 hr2
  have hSQ := sd_b hr1 hr2
  have hts := pub_ts hU
  have hrt := hU.2.2.1
  have hB := hU.1
  have hcn := hU.2.2.2.1
  have hcp := hU.2.2.2.2.1
  have hwa := hU.2.2.2.2.2
  have hre := pub_re hG hU
  have hhc := pub_hc hG hU
  have hhs : ∀ p, 0 ≤ p → p < W * D_ → 0 ≤ hs p ∧ hs p ≤ 200 := fun p h1 h2 => (hU.2.1 p h1 h2).2.1
  have hpi := pl_in (W := W) (D_ := D_) (r := r) hpl.1.1 hpl.1.2 hpl.2.1 hpl.2.2
  have hrb := hre _ hpi.1 hpi.2
  have hpi2 := pl_in (W := W) (D_ := D_) (r := r) hpl2.1.1 hpl2.1.2 hpl2.2.1 hpl2.2.2
  have hrb2 := hre _ hpi2.1 hpi2.2
  refine tt_aload_n F 0 rfl rfl dRB_higher_0 ?_
  refine tt_iload_n F 1 rfl rfl dRB_higher_1 ?_
  refine tt_iload_n F 2 rfl rfl dRB_higher_2 ?_
  refine tt_cOV F (As := [.int (iZ x), .int (iZ y)]) [] 0 rfl rfl (o_needPlace (hs := hs) (rs := rs) (ts := ts) (rt_ := rt_) (hc := hc) (li := li) (re := re) (ow := ow) (tc := tc) (cp := cp) (ck := ck) (wa := wa) (qp := qp) (qt := qt) (qs := qs) (lo := lo) (sb := sb) (lc := lc) (cn := cn) (ch := ch) (sk := sk) (x := x) (y := y) hG (by omega)) (cwV 2 F.1.2.2.2.2 (gw_V wd573 wd575 wd27 wd45 wd576) rfl rfl rfl (by decide +kernel) ⟨(Nat.le_of_ble_eq_true rfl), (Nat.le_of_ble_eq_true rfl)⟩) rfl rfl rfl (Nat.le_of_ble_eq_true rfl) ⟨(Nat.le_of_ble_eq_true rfl), (Nat.le_of_ble_eq_true rfl)⟩ dRB_higher_3 (fun v3 hp => ?_)
  obtain rfl := hp
  refine tt_aload_n F 0 rfl rfl dRB_higher_6 ?_
  refine tt_iload_n F 3 rfl rfl dRB_higher_7 ?_
  refine tt_iload F 4 rfl dRB_higher_8 ?_
  refine tt_cOV F (As := [.int (iZ x2), .int (iZ y2)]) [] 0 rfl rfl (o_needPlace (hs := hs) (rs := rs) (ts := ts) (rt_ := rt_) (hc := hc) (li := li) (re := re) (ow := ow) (tc := tc) (cp := cp) (ck := ck) (wa := wa) (qp := qp) (qt := qt) (qs := qs) (lo := lo) (sb := sb) (lc := lc) (cn := cn) (ch := ch) (sk := sk) (x := x2) (y := y2) hG (by omega)) (cwV 2 F.1.2.2.2.2 (gw_V wd573 wd575 wd27 wd45 wd576) rfl rfl rfl (by decide +kernel) ⟨(Nat.le_of_ble_eq_true rfl), (Nat.le_of_ble_eq_true rfl)⟩) rfl rfl rfl (Nat.le_of_ble_eq_true rfl) ⟨(Nat.le_of_ble_eq_true rfl), (Nat.le_of_ble_eq_true rfl)⟩ dRB_higher_10 (fun v10 hp => ?_)
  obtain rfl := hp
  refine tt_aload_n F 0 rfl rfl dRB_higher_13 ?_
  refine tt_get F inRB 0 rfl rfl 4 (by decide) we290 rfl dRB_higher_14 ?_
  refine tt_iload_n F 1 rfl rfl dRB_higher_17 ?_
  refine tt_iload_n F 2 rfl rfl dRB_higher_18 ?_
  refine tt_cOV F (As := [.int (iZ x), .int (iZ y)]) [] 14 rfl rfl (o_restAt (hs := hs) (rs := rs) (ts := ts) (rt_ := rt_) (hc := hc) (li := li) (re := re) (ow := ow) (tc := tc) (cp := cp) (ck := ck) (wa := wa) (qp := qp) (qt := qt) (qs := qs) (lo := lo) (sb := sb) (lc := lc) (cn := cn) (ch := ch) (sk := sk) (x := x) (y := y) hG (by omega)) (cwV 2 F.1.2.2.2.2 (gw_V wd577 wd578 wd579 wd48 wd580) rfl rfl rfl (by decide +kernel) ⟨(Nat.le_of_ble_eq_true rfl), (Nat.le_of_ble_eq_true rfl)⟩) rfl rfl rfl (Nat.le_of_ble_eq_true rfl) ⟨(Nat.le_of_ble_eq_true rfl), (Nat.le_of_ble_eq_true rfl)⟩ dRB_higher_19 (fun v19 hp => ?_)
  obtain rfl := hp
  refine tt_aload_n F 0 rfl rfl dRB_higher_22 ?_
  refine tt_get F inRB 0 rfl rfl 4 (by decide) we290 rfl dRB_higher_23 ?_
  refine tt_iload_n F 3 rfl rfl dRB_higher_26 ?_
  refine tt_iload F 4 rfl dRB_higher_27 ?_
  refine tt_cOV F (As := [.int (iZ x2), .int (iZ y2)]) [] 14 rfl rfl (o_restAt (hs := hs) (rs := rs) (ts := ts) (rt_ := rt_) (hc := hc) (li := li) (re := re) (ow := ow) (tc := tc) (cp := cp) (ck := ck) (wa := wa) (qp := qp) (qt := qt) (qs := qs) (lo := lo) (sb := sb) (lc := lc) (cn := cn) (ch := ch) (sk := sk) (x := x2) (y := y2) hG (by omega)) (cwV 2 F.1.2.2.2.2 (gw_V wd577 wd578 wd579 wd48 wd580) rfl rfl rfl (by decide +kernel) ⟨(Nat.le_of_ble_eq_true rfl), (Nat.le_of_ble_eq_true rfl)⟩) rfl rfl rfl (Nat.le_of_ble_eq_true rfl) ⟨(Nat.le_of_ble_eq_true rfl), (Nat.le_of_ble_eq_true rfl)⟩ dRB_higher_29 (fun v29 hp => ?_)
  obtain rfl := hp
  refine tt_cIS0 F (fun h => h) (As := [.int (iZ (re ((y + r) * (W + 2 * r) + (x + r)))), .int (iZ (re ((y2 + r) * (W + 2 * r) + (x2 + r))))]) (c_compare (w0 := (cW cI cZ a W D_ r sz co ro ho ac al sd lf sq hs rs ts rt_ hc li re ow tc cp ck wa qp qt qs lo sb lc cn ch sk)) (x := re ((y + r) * (W + 2 * r) + (x + r))) (y := re ((y2 + r) * (W + 2 * r) + (x2 + r))) ⟨by omega, by omega⟩ ⟨by omega, by omega⟩) (va_cwS 2 F.1.2.2.2.2 (gw_S wd621 wd622 wd58 wd623) rfl rfl rfl (by decide +kernel) ⟨(Nat.le_of_ble_eq_true rfl), (Nat.le_of_ble_eq_true rfl)⟩) rfl rfl rfl (Nat.le_of_ble_eq_true rfl) ⟨(Nat.le_of_ble_eq_true rfl), (Nat.le_of_ble_eq_true rfl)⟩ dRB_higher_32 (fun z32 w1 hp => ?_)
  obtain ⟨hz32, rfl⟩ := hp
  exact tt_iret F rfl (Nat.le_of_ble_eq_true rfl) (Nat.le_of_ble_eq_true rfl) dRB_higher_35 ⟨hz32, rfl⟩
abbrev rmTRB_higher : Room := { frames := 8, cells := 1, slots := 6, locals := 134 }
set_option maxHeartbeats 4000000 in
set_option maxRecDepth 100000 in
theorem x_higher (hst : l.stackTraces = false) {x y x2 y2 : Int} (hG : GE W D_ r sz co ro ho ac al sd lf sq) (hx0 : ir x) (hy0 : ir y) (hx20 : ir x2) (hy20 : ir y2) (h : ¬ (((-r ≤ x ∧ x < W + r) ∧ -r ≤ y ∧ y < D_ + r) ∧ (-r ≤ x2 ∧ x2 < W + r) ∧ -r ≤ y2 ∧ y2 < D_ + r)) : CY l D vwCl cI cZ cJ SL RRB ssL yRB_higher wsRB_higher rmTRB_higher [.ref (a 0), .int (iZ x), .int (iZ y), .int (iZ x2), .int (iZ y2)] (cW cI cZ a W D_ r sz co ro ho ac al sd lf sq hs rs ts rt_ hc li re ow tc cp ck wa qp qt qs lo sb lc cn ch sk) IAE := by
  refine ts_start (by decide) rfl (Nat.le_of_ble_eq_true rfl) ?_
  intro p e s m args below meth c F hex hsp
  obtain ⟨⟨hW1, hW2, hD1, hD2, hr1, hr2⟩, hGp, hGs, hGk, hGx, hGi, hGm, hGq⟩ := id hG
  have hWD := wd_b hW1 hW2 hD1 hD2
  have hPL := pl_b hW1 hW2 hD1 hD2 hr1 hr2
  have hSQ := sd_b hr1 hr2
  by_cases hpl : ((-r ≤ x ∧ x < W + r) ∧ -r ≤ y ∧ y < D_ + r)
  · skip
    refine tt_aload_n F 0 rfl rfl dRB_higher_0 ?_
    refine tt_iload_n F 1 rfl rfl dRB_higher_1 ?_
    refine tt_iload_n F 2 rfl rfl dRB_higher_2 ?_
    refine tt_cOV F (As := [.int (iZ x), .int (iZ y)]) [] 0 rfl rfl (o_needPlace (hs := hs) (rs := rs) (ts := ts) (rt_ := rt_) (hc := hc) (li := li) (re := re) (ow := ow) (tc := tc) (cp := cp) (ck := ck) (wa := wa) (qp := qp) (qt := qt) (qs := qs) (lo := lo) (sb := sb) (lc := lc) (cn := cn) (ch := ch) (sk := sk) (x := x) (y := y) hG (by omega)) (cwV 2 F.1.2.2.2.2 (gw_V wd573 wd575 wd27 wd45 wd576) rfl rfl rfl (by decide +kernel) ⟨(Nat.le_of_ble_eq_true rfl), (Nat.le_of_ble_eq_true rfl)⟩) rfl rfl rfl (Nat.le_of_ble_eq_true rfl) ⟨(Nat.le_of_ble_eq_true rfl), (Nat.le_of_ble_eq_true rfl)⟩ dRB_higher_3 (fun v3 hp => ?_)
    obtain rfl := hp
    refine tt_aload_n F 0 rfl rfl dRB_higher_6 ?_
    refine tt_iload_n F 3 rfl rfl dRB_higher_7 ?_
    refine tt_iload F 4 rfl dRB_higher_8 ?_
    exact ts_outV F hex hsp (As := [.int (iZ x2), .int (iZ y2)]) [] 0 rfl rfl (x_needPlace hst (hs := hs) (rs := rs) (ts := ts) (rt_ := rt_) (hc := hc) (li := li) (re := re) (ow := ow) (tc := tc) (cp := cp) (ck := ck) (wa := wa) (qp := qp) (qt := qt) (qs := qs) (lo := lo) (sb := sb) (lc := lc) (cn := cn) (ch := ch) (sk := sk) (x := x2) (y := y2) hG ⟨by omega, by omega⟩ ⟨by omega, by omega⟩ (by omega)) (cwV 2 F.1.2.2.2.2 (gw_V wd573 wd575 wd27 wd45 wd576) rfl rfl rfl (by decide +kernel) ⟨(Nat.le_of_ble_eq_true rfl), (Nat.le_of_ble_eq_true rfl)⟩) rfl rfl rfl (Nat.le_of_ble_eq_true rfl) ⟨(Nat.le_of_ble_eq_true rfl), (Nat.le_of_ble_eq_true rfl)⟩ dRB_higher_10
  · skip
    refine tt_aload_n F 0 rfl rfl dRB_higher_0 ?_
    refine tt_iload_n F 1 rfl rfl dRB_higher_1 ?_
    refine tt_iload_n F 2 rfl rfl dRB_higher_2 ?_
    exact ts_outV F hex hsp (As := [.int (iZ x), .int (iZ y)]) [] 0 rfl rfl (x_needPlace hst (hs := hs) (rs := rs) (ts := ts) (rt_ := rt_) (hc := hc) (li := li) (re := re) (ow := ow) (tc := tc) (cp := cp) (ck := ck) (wa := wa) (qp := qp) (qt := qt) (qs := qs) (lo := lo) (sb := sb) (lc := lc) (cn := cn) (ch := ch) (sk := sk) (x := x) (y := y) hG ⟨by omega, by omega⟩ ⟨by omega, by omega⟩ (by omega)) (cwV 2 F.1.2.2.2.2 (gw_V wd573 wd575 wd27 wd45 wd576) rfl rfl rfl (by decide +kernel) ⟨(Nat.le_of_ble_eq_true rfl), (Nat.le_of_ble_eq_true rfl)⟩) rfl rfl rfl (Nat.le_of_ble_eq_true rfl) ⟨(Nat.le_of_ble_eq_true rfl), (Nat.le_of_ble_eq_true rfl)⟩ dRB_higher_3
abbrev rmRB_touched : Room := { frames := 3, cells := 0, slots := 0, locals := 66 }
set_option maxHeartbeats 4000000 in
set_option maxRecDepth 100000 in
theorem c_touched {x y k : Int} (hG : GE W D_ r sz co ro ho ac al sd lf sq) (hU : PUB W D_ r hs rs ts rt_ hc re ow tc cp ck wa cn) (hpl : (-r ≤ x ∧ x < W + r) ∧ -r ≤ y ∧ y < D_ + r) (hk : 0 ≤ k ∧ k < 2147483648) : CI l D vwCl cI cZ cJ SL yRB_touched wsRB_touched rmRB_touched [.ref (a 0), .int (iZ x), .int (iZ y), .int (iZ k)] (cW cI cZ a W D_ r sz co ro ho ac al sd lf sq hs rs ts rt_ hc li re ow tc cp ck wa qp qt qs lo sb lc cn ch sk) (fun z w1 => ((∃ p, 0 ≤ p ∧ p < W * D_ ∧ tch W r x y ts (re ((y + r) * (W + 2 * r) + (x + r))) p = true ∧ cz (tch W r x y ts (re ((y + r) * (W + 2 * r) + (x + r)))) p = k ∧ z = 100 * (p / W) + p % W) ∨ (z = -1 ∧ cz (tch W r x y ts (re ((y + r) * (W + 2 * r) + (x + r)))) (W * D_) ≤ k)) ∧ ∃ (li' : Int → Int) (lc' : Int), w1 = (cW cI cZ a W D_ r sz co ro ho ac al sd lf sq hs rs ts rt_ hc li' re ow tc cp ck wa qp qt qs lo sb lc' cn ch sk)) := by
  refine tt_startI (by decide) rfl (Nat.le_of_ble_eq_true rfl) ?_
  intro p e s m args below meth c hnm F
  obtain ⟨⟨hW1, hW2, hD1, hD2, hr1, hr2⟩, hGp, hGs, hGk, hGx, hGi, hGm, hGq⟩ := id hG
  have hWD := wd_b hW1 hW2 hD1 hD2
  have hPL := pl_b hW1 hW2 hD1 hD2 hr1 hr2
  have hSQ := sd_b hr1 hr2
  have hts := pub_ts hU
  have hrt := hU.2.2.1
  have hB := hU.1
  have hcn := hU.2.2.2.1
  have hcp := hU.2.2.2.2.1
  have hwa := hU.2.2.2.2.2
  have hre := pub_re hG hU
  have hhc := pub_hc hG hU
  have hhs : ∀ p, 0 ≤ p → p < W * D_ → 0 ≤ hs p ∧ hs p ≤ 200 := fun p h1 h2 => (hU.2.1 p h1 h2).2.1
  have hpi := pl_in (W := W) (D_ := D_) (r := r) hpl.1.1 hpl.1.2 hpl.2.1 hpl.2.2
  have hrb := hre _ hpi.1 hpi.2
  have hpat := pl_at (W := W) (r := r) (x := x) (y := y) hpl.1.1 hpl.1.2
  have hplv : PLv W (W * D_) r x y ts (re ((y + r) * (W + 2 * r) + (x + r))) (tc ((y + r) * (W + 2 * r) + (x + r))) (ow ((y + r) * (W + 2 * r) + (x + r))) := by have h1 := hB.1 _ hpi.1 hpi.2; simp only [hpat.1, hpat.2] at h1; exact h1
  refine tt_aload_n F 0 rfl rfl dRB_touched_0 ?_
  refine tt_iload_n F 1 rfl rfl dRB_touched_1 ?_
  refine tt_iload_n F 2 rfl rfl dRB_touched_2 ?_
  refine tt_cOV F (As := [.int (iZ x), .int (iZ y)]) [] 0 rfl rfl (o_needPlace (hs := hs) (rs := rs) (ts := ts) (rt_ := rt_) (hc := hc) (li := li) (re := re) (ow := ow) (tc := tc) (cp := cp) (ck := ck) (wa := wa) (qp := qp) (qt := qt) (qs := qs) (lo := lo) (sb := sb) (lc := lc) (cn := cn) (ch := ch) (sk := sk) (x := x) (y := y) hG (by omega)) (cwV 2 F.1.2.2.2.2 (gw_V wd573 wd575 wd27 wd45 wd576) rfl rfl rfl (by decide +kernel) ⟨(Nat.le_of_ble_eq_true rfl), (Nat.le_of_ble_eq_true rfl)⟩) rfl rfl rfl (Nat.le_of_ble_eq_true rfl) ⟨(Nat.le_of_ble_eq_true rfl), (Nat.le_of_ble_eq_true rfl)⟩ dRB_touched_3 (fun v3 hp => ?_)
  obtain rfl := hp
  refine tt_iload_n F 3 rfl rfl dRB_touched_6 ?_
  refine tt_cOS F (As := [.int (iZ k)]) [] (o_needIndex (w0 := (cW cI cZ a W D_ r sz co ro ho ac al sd lf sq hs rs ts rt_ hc li re ow tc cp ck wa qp qt qs lo sb lc cn ch sk)) (k := k) ⟨by omega, by omega⟩ (by omega)) (va_cwS 1 F.1.2.2.2.2 (gw_S wd601 wd602 wd45 wd603) rfl rfl rfl (by decide +kernel) ⟨(Nat.le_of_ble_eq_true rfl), (Nat.le_of_ble_eq_true rfl)⟩) rfl rfl rfl (Nat.le_of_ble_eq_true rfl) ⟨(Nat.le_of_ble_eq_true rfl), (Nat.le_of_ble_eq_true rfl)⟩ dRB_touched_7 (fun v7 hp => ?_)
  obtain rfl := hp
  refine tt_aload_n F 0 rfl rfl dRB_touched_10 ?_
  refine tt_get F inRB 0 rfl rfl 4 (by decide) we290 rfl dRB_touched_11 ?_
  refine tt_iload_n F 1 rfl rfl dRB_touched_14 ?_
  refine tt_iload_n F 2 rfl rfl dRB_touched_15 ?_
  refine tt_cVV0 F (fun h => h) (As := [.int (iZ x), .int (iZ y)]) 14 rfl rfl (c_listTouched (hs := hs) (rs := rs) (ts := ts) (rt_ := rt_) (hc := hc) (li := li) (re := re) (ow := ow) (tc := tc) (cp := cp) (ck := ck) (wa := wa) (qp := qp) (qt := qt) (qs := qs) (lo := lo) (sb := sb) (lc := lc) (cn := cn) (ch := ch) (sk := sk) (x := x) (y := y) hG hts hrt (by omega) (by omega) (by omega)) (cwV 2 F.1.2.2.2.2 (gw_V wd605 wd606 wd607 wd48 wd608) rfl rfl rfl (by decide +kernel) ⟨(Nat.le_of_ble_eq_true rfl), (Nat.le_of_ble_eq_true rfl)⟩) rfl rfl rfl (Nat.le_of_ble_eq_true rfl) ⟨(Nat.le_of_ble_eq_true rfl), (Nat.le_of_ble_eq_true rfl)⟩ dRB_touched_16 (fun w1 hp => ?_)
  obtain ⟨li16, lc16, zz16, rfl, I16⟩ := hp
  have hsame := cl_same I16 hplv.2.2.1
  rw [hsame] at I16
  have hl4 := I16.2.2.2
  have hfun : (fun p => decide (rch W r x y ts p = re ((y + r) * (W + 2 * r) + (x + r)))) = tch W r x y ts (re ((y + r) * (W + 2 * r) + (x + r))) := rfl
  rw [hfun] at hl4
  have hlb := lsts_b (by omega) hl4
  refine tt_iload_n F 3 rfl rfl dRB_touched_19 ?_
  refine tt_aload_n F 0 rfl rfl dRB_touched_20 ?_
  refine tt_get F inRB 0 rfl rfl 4 (by decide) we290 rfl dRB_touched_21 ?_
  refine tt_get F inBA 14 rfl rfl 7 (by decide) we207 rfl dRB_touched_24 ?_
  refine tt_icmp_ge F 46 ⟨by omega, by omega⟩ ⟨by omega, by omega⟩ dRB_touched_27 (by decide) (fun c27 => ?_) (fun c27 => ?_)
  · skip
    refine tt_iconst F dRB_touched_46 ?_
    exact tt_iret F rfl (Nat.le_of_ble_eq_true rfl) (Nat.le_of_ble_eq_true rfl) dRB_touched_47 ⟨Or.inr ⟨rfl, by have := hl4.1; omega⟩, _, _, rfl⟩
  · skip
    have hg := lsts_get (by omega) hl4 hk.1 c27
    refine tt_aload_n F 0 rfl rfl dRB_touched_30 ?_
    refine tt_aload_n F 0 rfl rfl dRB_touched_31 ?_
    refine tt_get F inRB 0 rfl rfl 4 (by decide) we290 rfl dRB_touched_32 ?_
    refine tt_get F inBA 14 rfl rfl 6 (by decide) we204 rfl dRB_touched_35 ?_
    refine tt_iload_n F 3 rfl rfl dRB_touched_38 ?_
    refine tt_iald F 17 rfl (by omega) (by omega) (by omega) dRB_touched_39 ?_
    refine tt_name (fun pv hpv => ?_)
    refine tt_cIV0 F (fun h => h) (As := [.int (iZ pv)]) 0 rfl rfl (c_numberOf (hs := hs) (rs := rs) (ts := ts) (rt_ := rt_) (hc := hc) (li := li16) (re := re) (ow := ow) (tc := tc) (cp := cp) (ck := ck) (wa := wa) (qp := qp) (qt := qt) (qs := qs) (lo := lo) (sb := sb) (lc := lc16) (cn := cn) (ch := ch) (sk := sk) (q := pv) hG (by omega)) (cwV 1 F.1.2.2.2.2 (gw_V wd610 wd612 wd28 wd45 wd613) rfl rfl rfl (by decide +kernel) ⟨(Nat.le_of_ble_eq_true rfl), (Nat.le_of_ble_eq_true rfl)⟩) rfl rfl rfl (Nat.le_of_ble_eq_true rfl) ⟨(Nat.le_of_ble_eq_true rfl), (Nat.le_of_ble_eq_true rfl)⟩ dRB_touched_40 (fun z40 w1 hp => ?_)
    obtain ⟨hz40, rfl⟩ := hp
    refine tt_goto F 47 (by decide) dRB_touched_43 ?_
    exact tt_iret F rfl (Nat.le_of_ble_eq_true rfl) (Nat.le_of_ble_eq_true rfl) dRB_touched_47 ⟨Or.inl ⟨pv, by omega, by omega, by rw [hpv]; exact hg.2.2.1, by rw [hpv]; exact hg.2.2.2, hz40⟩, _, _, rfl⟩
abbrev rmTRB_touched : Room := { frames := 8, cells := 1, slots := 6, locals := 134 }
set_option maxHeartbeats 4000000 in
set_option maxRecDepth 100000 in
theorem x_touched (hst : l.stackTraces = false) {x y k : Int} (hG : GE W D_ r sz co ro ho ac al sd lf sq) (hx0 : ir x) (hy0 : ir y) (hk0 : ir k) (h : ¬ (((-r ≤ x ∧ x < W + r) ∧ -r ≤ y ∧ y < D_ + r) ∧ 0 ≤ k)) : CY l D vwCl cI cZ cJ SL RRB ssL yRB_touched wsRB_touched rmTRB_touched [.ref (a 0), .int (iZ x), .int (iZ y), .int (iZ k)] (cW cI cZ a W D_ r sz co ro ho ac al sd lf sq hs rs ts rt_ hc li re ow tc cp ck wa qp qt qs lo sb lc cn ch sk) IAE := by
  refine ts_start (by decide) rfl (Nat.le_of_ble_eq_true rfl) ?_
  intro p e s m args below meth c F hex hsp
  obtain ⟨⟨hW1, hW2, hD1, hD2, hr1, hr2⟩, hGp, hGs, hGk, hGx, hGi, hGm, hGq⟩ := id hG
  have hWD := wd_b hW1 hW2 hD1 hD2
  have hPL := pl_b hW1 hW2 hD1 hD2 hr1 hr2
  have hSQ := sd_b hr1 hr2
  by_cases hpl : ((-r ≤ x ∧ x < W + r) ∧ -r ≤ y ∧ y < D_ + r)
  · skip
    refine tt_aload_n F 0 rfl rfl dRB_touched_0 ?_
    refine tt_iload_n F 1 rfl rfl dRB_touched_1 ?_
    refine tt_iload_n F 2 rfl rfl dRB_touched_2 ?_
    refine tt_cOV F (As := [.int (iZ x), .int (iZ y)]) [] 0 rfl rfl (o_needPlace (hs := hs) (rs := rs) (ts := ts) (rt_ := rt_) (hc := hc) (li := li) (re := re) (ow := ow) (tc := tc) (cp := cp) (ck := ck) (wa := wa) (qp := qp) (qt := qt) (qs := qs) (lo := lo) (sb := sb) (lc := lc) (cn := cn) (ch := ch) (sk := sk) (x := x) (y := y) hG (by omega)) (cwV 2 F.1.2.2.2.2 (gw_V wd573 wd575 wd27 wd45 wd576) rfl rfl rfl (by decide +kernel) ⟨(Nat.le_of_ble_eq_true rfl), (Nat.le_of_ble_eq_true rfl)⟩) rfl rfl rfl (Nat.le_of_ble_eq_true rfl) ⟨(Nat.le_of_ble_eq_true rfl), (Nat.le_of_ble_eq_true rfl)⟩ dRB_touched_3 (fun v3 hp => ?_)
    obtain rfl := hp
    refine tt_iload_n F 3 rfl rfl dRB_touched_6 ?_
    exact ts_outS F hex hsp (As := [.int (iZ k)]) [] (x_needIndex hst (w0 := (cW cI cZ a W D_ r sz co ro ho ac al sd lf sq hs rs ts rt_ hc li re ow tc cp ck wa qp qt qs lo sb lc cn ch sk)) (k := k) ⟨by omega, by omega⟩ (by omega)) (va_cwS 1 F.1.2.2.2.2 (gw_S wd601 wd602 wd45 wd603) rfl rfl rfl (by decide +kernel) ⟨(Nat.le_of_ble_eq_true rfl), (Nat.le_of_ble_eq_true rfl)⟩) rfl rfl rfl (Nat.le_of_ble_eq_true rfl) ⟨(Nat.le_of_ble_eq_true rfl), (Nat.le_of_ble_eq_true rfl)⟩ dRB_touched_7
  · skip
    refine tt_aload_n F 0 rfl rfl dRB_touched_0 ?_
    refine tt_iload_n F 1 rfl rfl dRB_touched_1 ?_
    refine tt_iload_n F 2 rfl rfl dRB_touched_2 ?_
    exact ts_outV F hex hsp (As := [.int (iZ x), .int (iZ y)]) [] 0 rfl rfl (x_needPlace hst (hs := hs) (rs := rs) (ts := ts) (rt_ := rt_) (hc := hc) (li := li) (re := re) (ow := ow) (tc := tc) (cp := cp) (ck := ck) (wa := wa) (qp := qp) (qt := qt) (qs := qs) (lo := lo) (sb := sb) (lc := lc) (cn := cn) (ch := ch) (sk := sk) (x := x) (y := y) hG ⟨by omega, by omega⟩ ⟨by omega, by omega⟩ (by omega)) (cwV 2 F.1.2.2.2.2 (gw_V wd573 wd575 wd27 wd45 wd576) rfl rfl rfl (by decide +kernel) ⟨(Nat.le_of_ble_eq_true rfl), (Nat.le_of_ble_eq_true rfl)⟩) rfl rfl rfl (Nat.le_of_ble_eq_true rfl) ⟨(Nat.le_of_ble_eq_true rfl), (Nat.le_of_ble_eq_true rfl)⟩ dRB_touched_3
abbrev rmRB_tops : Room := { frames := 1, cells := 0, slots := 0, locals := 26 }
set_option maxHeartbeats 4000000 in
set_option maxRecDepth 100000 in
theorem c_tops  (hG : GE W D_ r sz co ro ho ac al sd lf sq) (hU : PUB W D_ r hs rs ts rt_ hc re ow tc cp ck wa cn) : CI l D vwCl cI cZ cJ SL yRB_tops wsRB_tops rmRB_tops [.ref (a 0)] (cW cI cZ a W D_ r sz co ro ho ac al sd lf sq hs rs ts rt_ hc li re ow tc cp ck wa qp qt qs lo sb lc cn ch sk) (fun z w1 => (∃ hi, (∀ P, 0 ≤ P → P < ((W + 2 * r) * (D_ + 2 * r)) → re P ≤ hi) ∧ z = cz (fun P => decide (re P = hi)) ((W + 2 * r) * (D_ + 2 * r)) ∧ ∃ P, 0 ≤ P ∧ P < ((W + 2 * r) * (D_ + 2 * r)) ∧ re P = hi) ∧ w1 = (cW cI cZ a W D_ r sz co ro ho ac al sd lf sq hs rs ts rt_ hc li re ow tc cp ck wa qp qt qs lo sb lc cn ch sk)) := by
  refine tt_startI (by decide) rfl (Nat.le_of_ble_eq_true rfl) ?_
  intro p e s m args below meth c hnm F
  obtain ⟨⟨hW1, hW2, hD1, hD2, hr1, hr2⟩, hGp, hGs, hGk, hGx, hGi, hGm, hGq⟩ := id hG
  have hWD := wd_b hW1 hW2 hD1 hD2
  have hPL := pl_b hW1 hW2 hD1 hD2 hr1 hr2
  have hSQ := sd_b hr1 hr2
  have hts := pub_ts hU
  have hrt := hU.2.2.1
  have hB := hU.1
  have hcn := hU.2.2.2.1
  have hcp := hU.2.2.2.2.1
  have hwa := hU.2.2.2.2.2
  have hre := pub_re hG hU
  have hhc := pub_hc hG hU
  have hhs : ∀ p, 0 ≤ p → p < W * D_ → 0 ≤ hs p ∧ hs p ≤ 200 := fun p h1 h2 => (hU.2.1 p h1 h2).2.1
  refine tt_aload_n F 0 rfl rfl dRB_tops_0 ?_
  refine tt_get F inRB 0 rfl rfl 4 (by decide) we290 rfl dRB_tops_1 ?_
  refine tt_cIV0 F (fun h => h) (As := []) 14 rfl rfl (c_highest (hs := hs) (rs := rs) (ts := ts) (rt_ := rt_) (hc := hc) (li := li) (re := re) (ow := ow) (tc := tc) (cp := cp) (ck := ck) (wa := wa) (qp := qp) (qt := qt) (qs := qs) (lo := lo) (sb := sb) (lc := lc) (cn := cn) (ch := ch) (sk := sk) hG hre) (cwV 0 F.1.2.2.2.2 (gw_V wd312 wd313 wd314 wd48 wd315) rfl rfl rfl (by decide +kernel) ⟨(Nat.le_of_ble_eq_true rfl), (Nat.le_of_ble_eq_true rfl)⟩) rfl rfl rfl (Nat.le_of_ble_eq_true rfl) ⟨(Nat.le_of_ble_eq_true rfl), (Nat.le_of_ble_eq_true rfl)⟩ dRB_tops_4 (fun z4 w1 hp => ?_)
  obtain ⟨hz4, rfl⟩ := hp
  exact tt_iret F rfl (Nat.le_of_ble_eq_true rfl) (Nat.le_of_ble_eq_true rfl) dRB_tops_7 ⟨hz4, rfl⟩
abbrev rmRB_hits : Room := { frames := 2, cells := 0, slots := 0, locals := 44 }
set_option maxHeartbeats 4000000 in
set_option maxRecDepth 100000 in
theorem c_hits {x y : Int} (hG : GE W D_ r sz co ro ho ac al sd lf sq) (hU : PUB W D_ r hs rs ts rt_ hc re ow tc cp ck wa cn) (hp : (0 ≤ x ∧ x < W) ∧ 0 ≤ y ∧ y < D_) : CI l D vwCl cI cZ cJ SL yRB_hits wsRB_hits rmRB_hits [.ref (a 0), .int (iZ x), .int (iZ y)] (cW cI cZ a W D_ r sz co ro ho ac al sd lf sq hs rs ts rt_ hc li re ow tc cp ck wa qp qt qs lo sb lc cn ch sk) (fun z w1 => z = hc (y * W + x) ∧ w1 = (cW cI cZ a W D_ r sz co ro ho ac al sd lf sq hs rs ts rt_ hc li re ow tc cp ck wa qp qt qs lo sb lc cn ch sk)) := by
  refine tt_startI (by decide) rfl (Nat.le_of_ble_eq_true rfl) ?_
  intro p e s m args below meth c hnm F
  obtain ⟨⟨hW1, hW2, hD1, hD2, hr1, hr2⟩, hGp, hGs, hGk, hGx, hGi, hGm, hGq⟩ := id hG
  have hWD := wd_b hW1 hW2 hD1 hD2
  have hPL := pl_b hW1 hW2 hD1 hD2 hr1 hr2
  have hSQ := sd_b hr1 hr2
  have hts := pub_ts hU
  have hrt := hU.2.2.1
  have hB := hU.1
  have hcn := hU.2.2.2.1
  have hcp := hU.2.2.2.2.1
  have hwa := hU.2.2.2.2.2
  have hre := pub_re hG hU
  have hhc := pub_hc hG hU
  have hhs : ∀ p, 0 ≤ p → p < W * D_ → 0 ≤ hs p ∧ hs p ≤ 200 := fun p h1 h2 => (hU.2.1 p h1 h2).2.1
  have hqb := ix_b (i := x) (j := y) (W := W) (D := D_) (by omega) (by omega) (by omega) (by omega)
  refine tt_aload_n F 0 rfl rfl dRB_hits_0 ?_
  refine tt_get F inRB 0 rfl rfl 4 (by decide) we290 rfl dRB_hits_1 ?_
  refine tt_get F inBA 14 rfl rfl 5 (by decide) we201 rfl dRB_hits_4 ?_
  refine tt_aload_n F 0 rfl rfl dRB_hits_7 ?_
  refine tt_iload_n F 1 rfl rfl dRB_hits_8 ?_
  refine tt_iload_n F 2 rfl rfl dRB_hits_9 ?_
  refine tt_cOV F (As := [.int (iZ x), .int (iZ y)]) [] 0 rfl rfl (o_pointAt (hs := hs) (rs := rs) (ts := ts) (rt_ := rt_) (hc := hc) (li := li) (re := re) (ow := ow) (tc := tc) (cp := cp) (ck := ck) (wa := wa) (qp := qp) (qt := qt) (qs := qs) (lo := lo) (sb := sb) (lc := lc) (cn := cn) (ch := ch) (sk := sk) (x := x) (y := y) hG (by omega)) (cwV 2 F.1.2.2.2.2 (gw_V wd485 wd487 wd25 wd45 wd488) rfl rfl rfl (by decide +kernel) ⟨(Nat.le_of_ble_eq_true rfl), (Nat.le_of_ble_eq_true rfl)⟩) rfl rfl rfl (Nat.le_of_ble_eq_true rfl) ⟨(Nat.le_of_ble_eq_true rfl), (Nat.le_of_ble_eq_true rfl)⟩ dRB_hits_10 (fun v10 hp => ?_)
  obtain rfl := hp
  refine tt_iald F 16 rfl (by omega) (by omega) (by omega) dRB_hits_13 ?_
  refine tt_name (fun hv hhv => ?_)
  exact tt_iret F rfl (Nat.le_of_ble_eq_true rfl) (Nat.le_of_ble_eq_true rfl) dRB_hits_14 ⟨hhv, rfl⟩
abbrev rmTRB_hits : Room := { frames := 8, cells := 1, slots := 6, locals := 134 }
set_option maxHeartbeats 4000000 in
set_option maxRecDepth 100000 in
theorem x_hits (hst : l.stackTraces = false) {x y : Int} (hG : GE W D_ r sz co ro ho ac al sd lf sq) (hx0 : ir x) (hy0 : ir y) (h : ¬ ((0 ≤ x ∧ x < W) ∧ 0 ≤ y ∧ y < D_)) : CY l D vwCl cI cZ cJ SL RRB ssL yRB_hits wsRB_hits rmTRB_hits [.ref (a 0), .int (iZ x), .int (iZ y)] (cW cI cZ a W D_ r sz co ro ho ac al sd lf sq hs rs ts rt_ hc li re ow tc cp ck wa qp qt qs lo sb lc cn ch sk) IAE := by
  refine ts_start (by decide) rfl (Nat.le_of_ble_eq_true rfl) ?_
  intro p e s m args below meth c F hex hsp
  obtain ⟨⟨hW1, hW2, hD1, hD2, hr1, hr2⟩, hGp, hGs, hGk, hGx, hGi, hGm, hGq⟩ := id hG
  have hWD := wd_b hW1 hW2 hD1 hD2
  have hPL := pl_b hW1 hW2 hD1 hD2 hr1 hr2
  have hSQ := sd_b hr1 hr2
  refine tt_aload_n F 0 rfl rfl dRB_hits_0 ?_
  refine tt_get F inRB 0 rfl rfl 4 (by decide) we290 rfl dRB_hits_1 ?_
  refine tt_get F inBA 14 rfl rfl 5 (by decide) we201 rfl dRB_hits_4 ?_
  refine tt_aload_n F 0 rfl rfl dRB_hits_7 ?_
  refine tt_iload_n F 1 rfl rfl dRB_hits_8 ?_
  refine tt_iload_n F 2 rfl rfl dRB_hits_9 ?_
  exact ts_outV F hex hsp (As := [.int (iZ x), .int (iZ y)]) [] 0 rfl rfl (x_pointAt hst (hs := hs) (rs := rs) (ts := ts) (rt_ := rt_) (hc := hc) (li := li) (re := re) (ow := ow) (tc := tc) (cp := cp) (ck := ck) (wa := wa) (qp := qp) (qt := qt) (qs := qs) (lo := lo) (sb := sb) (lc := lc) (cn := cn) (ch := ch) (sk := sk) (x := x) (y := y) hG ⟨by omega, by omega⟩ ⟨by omega, by omega⟩ (by omega)) (cwV 2 F.1.2.2.2.2 (gw_V wd485 wd487 wd25 wd45 wd488) rfl rfl rfl (by decide +kernel) ⟨(Nat.le_of_ble_eq_true rfl), (Nat.le_of_ble_eq_true rfl)⟩) rfl rfl rfl (Nat.le_of_ble_eq_true rfl) ⟨(Nat.le_of_ble_eq_true rfl), (Nat.le_of_ble_eq_true rfl)⟩ dRB_hits_10
abbrev rmRB_cover : Room := { frames := 2, cells := 0, slots := 0, locals := 44 }
set_option maxHeartbeats 4000000 in
set_option maxRecDepth 100000 in
theorem c_cover {x y : Int} (hG : GE W D_ r sz co ro ho ac al sd lf sq) (hU : PUB W D_ r hs rs ts rt_ hc re ow tc cp ck wa cn) (hp : (0 ≤ x ∧ x < W) ∧ 0 ≤ y ∧ y < D_) : CI l D vwCl cI cZ cJ SL yRB_cover wsRB_cover rmRB_cover [.ref (a 0), .int (iZ x), .int (iZ y)] (cW cI cZ a W D_ r sz co ro ho ac al sd lf sq hs rs ts rt_ hc li re ow tc cp ck wa qp qt qs lo sb lc cn ch sk) (fun z w1 => (∃ m_, ((∀ k, 0 ≤ k → k < sz → m_ ≤ re (ho (y * W + x) + sd k) - lf k) ∧ ∃ k, 0 ≤ k ∧ k < sz ∧ m_ = re (ho (y * W + x) + sd k) - lf k) ∧ z = m_ / 1048576) ∧ w1 = (cW cI cZ a W D_ r sz co ro ho ac al sd lf sq hs rs ts rt_ hc li re ow tc cp ck wa qp qt qs lo sb lc cn ch sk)) := by
  refine tt_startI (by decide) rfl (Nat.le_of_ble_eq_true rfl) ?_
  intro p e s m args below meth c hnm F
  obtain ⟨⟨hW1, hW2, hD1, hD2, hr1, hr2⟩, hGp, hGs, hGk, hGx, hGi, hGm, hGq⟩ := id hG
  have hWD := wd_b hW1 hW2 hD1 hD2
  have hPL := pl_b hW1 hW2 hD1 hD2 hr1 hr2
  have hSQ := sd_b hr1 hr2
  have hts := pub_ts hU
  have hrt := hU.2.2.1
  have hB := hU.1
  have hcn := hU.2.2.2.1
  have hcp := hU.2.2.2.2.1
  have hwa := hU.2.2.2.2.2
  have hre := pub_re hG hU
  have hhc := pub_hc hG hU
  have hhs : ∀ p, 0 ≤ p → p < W * D_ → 0 ≤ hs p ∧ hs p ≤ 200 := fun p h1 h2 => (hU.2.1 p h1 h2).2.1
  have hqb := ix_b (i := x) (j := y) (W := W) (D := D_) (by omega) (by omega) (by omega) (by omega)
  refine tt_aload_n F 0 rfl rfl dRB_cover_0 ?_
  refine tt_get F inRB 0 rfl rfl 4 (by decide) we290 rfl dRB_cover_1 ?_
  refine tt_aload_n F 0 rfl rfl dRB_cover_4 ?_
  refine tt_iload_n F 1 rfl rfl dRB_cover_5 ?_
  refine tt_iload_n F 2 rfl rfl dRB_cover_6 ?_
  refine tt_cOV F (As := [.int (iZ x), .int (iZ y)]) [] 0 rfl rfl (o_pointAt (hs := hs) (rs := rs) (ts := ts) (rt_ := rt_) (hc := hc) (li := li) (re := re) (ow := ow) (tc := tc) (cp := cp) (ck := ck) (wa := wa) (qp := qp) (qt := qt) (qs := qs) (lo := lo) (sb := sb) (lc := lc) (cn := cn) (ch := ch) (sk := sk) (x := x) (y := y) hG (by omega)) (cwV 2 F.1.2.2.2.2 (gw_V wd485 wd487 wd25 wd45 wd488) rfl rfl rfl (by decide +kernel) ⟨(Nat.le_of_ble_eq_true rfl), (Nat.le_of_ble_eq_true rfl)⟩) rfl rfl rfl (Nat.le_of_ble_eq_true rfl) ⟨(Nat.le_of_ble_eq_true rfl), (Nat.le_of_ble_eq_true rfl)⟩ dRB_cover_7 (fun v7 hp => ?_)
  obtain rfl := hp
  refine tt_cIV0 F (fun h => h) (As := [.int (iZ (y * W + x))]) 14 rfl rfl (c_coverOf (hs := hs) (rs := rs) (ts := ts) (rt_ := rt_) (hc := hc) (li := li) (re := re) (ow := ow) (tc := tc) (cp := cp) (ck := ck) (wa := wa) (qp := qp) (qt := qt) (qs := qs) (lo := lo) (sb := sb) (lc := lc) (cn := cn) (ch := ch) (sk := sk) (q := y * W + x) hG hre (by omega)) (cwV 1 F.1.2.2.2.2 (gw_V wd645 wd646 wd647 wd48 wd648) rfl rfl rfl (by decide +kernel) ⟨(Nat.le_of_ble_eq_true rfl), (Nat.le_of_ble_eq_true rfl)⟩) rfl rfl rfl (Nat.le_of_ble_eq_true rfl) ⟨(Nat.le_of_ble_eq_true rfl), (Nat.le_of_ble_eq_true rfl)⟩ dRB_cover_10 (fun z10 w1 hp => ?_)
  obtain ⟨hz10, rfl⟩ := hp
  have hzir : ir z10 := by
    obtain ⟨k, k0, k1, k2⟩ := hz10.2
    have g := ge_k hG hqb.1 hqb.2 k0 k1
    have g2 := hre _ g.2.2.2.1 g.2.2.2.2.1
    exact ⟨by omega, by omega⟩
  refine tt_cIS0 F (fun h => h) (As := [.int (iZ z10)]) (c_floor (w0 := (cW cI cZ a W D_ r sz co ro ho ac al sd lf sq hs rs ts rt_ hc li re ow tc cp ck wa qp qt qs lo sb lc cn ch sk)) (x := z10) hzir) (va_cwS 1 F.1.2.2.2.2 (gw_S wd581 wd582 wd50 wd583) rfl rfl rfl (by decide +kernel) ⟨(Nat.le_of_ble_eq_true rfl), (Nat.le_of_ble_eq_true rfl)⟩) rfl rfl rfl (Nat.le_of_ble_eq_true rfl) ⟨(Nat.le_of_ble_eq_true rfl), (Nat.le_of_ble_eq_true rfl)⟩ dRB_cover_13 (fun z13 w1 hp => ?_)
  obtain ⟨hz13, rfl⟩ := hp
  exact tt_iret F rfl (Nat.le_of_ble_eq_true rfl) (Nat.le_of_ble_eq_true rfl) dRB_cover_16 ⟨⟨z10, hz10, hz13⟩, rfl⟩
abbrev rmTRB_cover : Room := { frames := 8, cells := 1, slots := 6, locals := 134 }
set_option maxHeartbeats 4000000 in
set_option maxRecDepth 100000 in
theorem x_cover (hst : l.stackTraces = false) {x y : Int} (hG : GE W D_ r sz co ro ho ac al sd lf sq) (hx0 : ir x) (hy0 : ir y) (h : ¬ ((0 ≤ x ∧ x < W) ∧ 0 ≤ y ∧ y < D_)) : CY l D vwCl cI cZ cJ SL RRB ssL yRB_cover wsRB_cover rmTRB_cover [.ref (a 0), .int (iZ x), .int (iZ y)] (cW cI cZ a W D_ r sz co ro ho ac al sd lf sq hs rs ts rt_ hc li re ow tc cp ck wa qp qt qs lo sb lc cn ch sk) IAE := by
  refine ts_start (by decide) rfl (Nat.le_of_ble_eq_true rfl) ?_
  intro p e s m args below meth c F hex hsp
  obtain ⟨⟨hW1, hW2, hD1, hD2, hr1, hr2⟩, hGp, hGs, hGk, hGx, hGi, hGm, hGq⟩ := id hG
  have hWD := wd_b hW1 hW2 hD1 hD2
  have hPL := pl_b hW1 hW2 hD1 hD2 hr1 hr2
  have hSQ := sd_b hr1 hr2
  refine tt_aload_n F 0 rfl rfl dRB_cover_0 ?_
  refine tt_get F inRB 0 rfl rfl 4 (by decide) we290 rfl dRB_cover_1 ?_
  refine tt_aload_n F 0 rfl rfl dRB_cover_4 ?_
  refine tt_iload_n F 1 rfl rfl dRB_cover_5 ?_
  refine tt_iload_n F 2 rfl rfl dRB_cover_6 ?_
  exact ts_outV F hex hsp (As := [.int (iZ x), .int (iZ y)]) [] 0 rfl rfl (x_pointAt hst (hs := hs) (rs := rs) (ts := ts) (rt_ := rt_) (hc := hc) (li := li) (re := re) (ow := ow) (tc := tc) (cp := cp) (ck := ck) (wa := wa) (qp := qp) (qt := qt) (qs := qs) (lo := lo) (sb := sb) (lc := lc) (cn := cn) (ch := ch) (sk := sk) (x := x) (y := y) hG ⟨by omega, by omega⟩ ⟨by omega, by omega⟩ (by omega)) (cwV 2 F.1.2.2.2.2 (gw_V wd485 wd487 wd25 wd45 wd488) rfl rfl rfl (by decide +kernel) ⟨(Nat.le_of_ble_eq_true rfl), (Nat.le_of_ble_eq_true rfl)⟩) rfl rfl rfl (Nat.le_of_ble_eq_true rfl) ⟨(Nat.le_of_ble_eq_true rfl), (Nat.le_of_ble_eq_true rfl)⟩ dRB_cover_7
abbrev rmRB_safe : Room := { frames := 1, cells := 0, slots := 0, locals := 21 }
set_option maxHeartbeats 4000000 in
set_option maxRecDepth 100000 in
theorem safe_loop {k : Int} (F : FX p s m args meth c cRB_safe 4 (some .int) wsRB_safe RRB D vwCl cI cZ cJ SL A) (hG : GE W D_ r sz co ro ho ac al sd lf sq) (hhc : ∀ p, 0 ≤ p → p < W * D_ → 0 ≤ hc p ∧ hc p ≤ 1024) (hk : 0 ≤ k ∧ k < 2147483648)
    (k35 : ∀ (bf : Int) (p_ : Int), (0 ≤ p_ ∧ p_ < W * D_ ∧ hc p_ = 0 ∧ cz (fun p => decide (hc p = 0)) p_ = k) → TT p l e rmRB_safe s m args below meth c D vwCl A 4 False Q 35 [(0, .ref (a 0)), (1, .int (iZ k)), (2, .int (iZ bf)), (3, .int (iZ p_))] [] (cW cI cZ a W D_ r sz co ro ho ac al sd lf sq hs rs ts rt_ hc li re ow tc cp ck wa qp qt qs lo sb lc cn ch sk) 0 0)
    (k50 : ∀ (bf : Int) (p_ : Int), (cz (fun p => decide (hc p = 0)) (W * D_) ≤ k) → TT p l e rmRB_safe s m args below meth c D vwCl A 4 False Q 50 [(0, .ref (a 0)), (1, .int (iZ k)), (2, .int (iZ bf)), (3, .int (iZ p_))] [] (cW cI cZ a W D_ r sz co ro ho ac al sd lf sq hs rs ts rt_ hc li re ow tc cp ck wa qp qt qs lo sb lc cn ch sk) 0 0) :
    ∀ (n : Nat) (bf : Int) (p_ : Int), (W * D_ - p_).toNat < n → (0 ≤ p_ ∧ p_ ≤ W * D_) → (bf = cz (fun p => decide (hc p = 0)) p_ ∧ bf ≤ k) → TT p l e rmRB_safe s m args below meth c D vwCl A 4 False Q 8 [(0, .ref (a 0)), (1, .int (iZ k)), (2, .int (iZ bf)), (3, .int (iZ p_))] [] (cW cI cZ a W D_ r sz co ro ho ac al sd lf sq hs rs ts rt_ hc li re ow tc cp ck wa qp qt qs lo sb lc cn ch sk) 0 0 := by
  intro n
  induction n with
  | zero => intro bf p_ hn; omega
  | succ n ih =>
    intro bf p_ hn I1 I2
    obtain ⟨⟨hW1, hW2, hD1, hD2, hr1, hr2⟩, hGp, hGs, hGk, hGx, hGi, hGm, hGq⟩ := id hG
    have hWD := wd_b hW1 hW2 hD1 hD2
    have hPL := pl_b hW1 hW2 hD1 hD2 hr1 hr2
    have hSQ := sd_b hr1 hr2
    have hczb := cz_b (fun p => decide (hc p = 0)) I1.1
    refine tt_iload_n F 3 rfl rfl dRB_safe_8 ?_
    refine tt_aload_n F 0 rfl rfl dRB_safe_9 ?_
    refine tt_get F inRB 0 rfl rfl 3 (by decide) we289 rfl dRB_safe_10 ?_
    refine tt_get F inHO 1 rfl rfl 2 (by decide) we91 rfl dRB_safe_13 ?_
    refine tt_icmp_ge F 50 ⟨by omega, by omega⟩ ⟨by omega, by omega⟩ dRB_safe_16 (by decide) (fun c16 => ?_) (fun c16 => ?_)
    · skip
      refine tt_sub [0, 1, 2, 3] rfl ?_
      exact k50 bf p_ (by rw [show W * D_ = p_ by omega]; omega)
    · skip
      have hp1 := hhc p_ (by omega) (by omega)
      have hp3 : ir (hc p_) := ⟨by omega, by omega⟩
      refine tt_aload_n F 0 rfl rfl dRB_safe_19 ?_
      refine tt_get F inRB 0 rfl rfl 4 (by decide) we290 rfl dRB_safe_20 ?_
      refine tt_iload_n F 3 rfl rfl dRB_safe_23 ?_
      refine tt_cIV0 F (fun h => h) (As := [.int (iZ p_)]) 14 rfl rfl (c_isSafe (hs := hs) (rs := rs) (ts := ts) (rt_ := rt_) (hc := hc) (li := li) (re := re) (ow := ow) (tc := tc) (cp := cp) (ck := ck) (wa := wa) (qp := qp) (qt := qt) (qs := qs) (lo := lo) (sb := sb) (lc := lc) (cn := cn) (ch := ch) (sk := sk) (q := p_) hG (by omega) (by assumption)) (cwV 1 F.1.2.2.2.2 (gw_V wd437 wd333 wd334 wd48 wd335) rfl rfl rfl (by decide +kernel) ⟨(Nat.le_of_ble_eq_true rfl), (Nat.le_of_ble_eq_true rfl)⟩) rfl rfl rfl (Nat.le_of_ble_eq_true rfl) ⟨(Nat.le_of_ble_eq_true rfl), (Nat.le_of_ble_eq_true rfl)⟩ dRB_safe_24 (fun z24 w1 hp => ?_)
      obtain ⟨hz24, rfl⟩ := hp
      refine tt_if_eq F 44 (by rw [hz24]; have := bi_b (decide (hc p_ = 0)); exact ⟨by omega, by omega⟩) dRB_safe_27 (by decide) (fun c27 => ?_) (fun c27 => ?_)
      · skip
        refine tt_iinc F 3 [(3, .int (iZ (p_ + 1))), (0, .ref (a 0)), (1, .int (iZ k)), (2, .int (iZ bf))] rfl (by decide) rfl dRB_safe_44 ?_
        refine tt_goto F 8 (by decide) dRB_safe_47 ?_
        refine tt_sub [1, 2, 3, 0] rfl ?_
        exact ih bf (p_ + 1) (by omega) (by omega) (by have h9 := bi_b (decide (hc p_ = 0)); rw [cz_s _ I1.1]; omega)
      · skip
        refine tt_iload_n F 2 rfl rfl dRB_safe_30 ?_
        refine tt_iload_n F 1 rfl rfl dRB_safe_31 ?_
        refine tt_icmp_ne F 41 ⟨by omega, by omega⟩ ⟨by omega, by omega⟩ dRB_safe_32 (by decide) (fun c32 => ?_) (fun c32 => ?_)
        · skip
          refine tt_iinc F 2 [(2, .int (iZ (bf + 1))), (0, .ref (a 0)), (1, .int (iZ k)), (3, .int (iZ p_))] rfl (by decide) rfl dRB_safe_41 ?_
          refine tt_iinc F 3 [(3, .int (iZ (p_ + 1))), (2, .int (iZ (bf + 1))), (0, .ref (a 0)), (1, .int (iZ k))] rfl (by decide) rfl dRB_safe_44 ?_
          refine tt_goto F 8 (by decide) dRB_safe_47 ?_
          refine tt_sub [2, 3, 1, 0] rfl ?_
          exact ih (bf + 1) (p_ + 1) (by omega) (by omega) (by have h9 := bi_b (decide (hc p_ = 0)); rw [cz_s _ I1.1]; omega)
        · skip
          refine tt_sub [0, 1, 2, 3] rfl ?_
          exact k35 bf p_ (⟨by omega, by omega, by cases e : decide (hc p_ = 0) with | true => exact of_decide_eq_true e | false => rw [hz24, e, bi_f rfl] at c27; omega, by omega⟩)
set_option maxHeartbeats 4000000 in
set_option maxRecDepth 100000 in
theorem c_safe {k : Int} (hG : GE W D_ r sz co ro ho ac al sd lf sq) (hU : PUB W D_ r hs rs ts rt_ hc re ow tc cp ck wa cn) (hk : 0 ≤ k ∧ k < 2147483648) : CI l D vwCl cI cZ cJ SL yRB_safe wsRB_safe rmRB_safe [.ref (a 0), .int (iZ k)] (cW cI cZ a W D_ r sz co ro ho ac al sd lf sq hs rs ts rt_ hc li re ow tc cp ck wa qp qt qs lo sb lc cn ch sk) (fun z w1 => ((∃ p, 0 ≤ p ∧ p < W * D_ ∧ hc p = 0 ∧ cz (fun p => decide (hc p = 0)) p = k ∧ z = 100 * (p / W) + p % W) ∨ (z = -1 ∧ cz (fun p => decide (hc p = 0)) (W * D_) ≤ k)) ∧ w1 = (cW cI cZ a W D_ r sz co ro ho ac al sd lf sq hs rs ts rt_ hc li re ow tc cp ck wa qp qt qs lo sb lc cn ch sk)) := by
  refine tt_startI (by decide) rfl (Nat.le_of_ble_eq_true rfl) ?_
  intro p e s m args below meth c hnm F
  obtain ⟨⟨hW1, hW2, hD1, hD2, hr1, hr2⟩, hGp, hGs, hGk, hGx, hGi, hGm, hGq⟩ := id hG
  have hWD := wd_b hW1 hW2 hD1 hD2
  have hPL := pl_b hW1 hW2 hD1 hD2 hr1 hr2
  have hSQ := sd_b hr1 hr2
  have hts := pub_ts hU
  have hrt := hU.2.2.1
  have hB := hU.1
  have hcn := hU.2.2.2.1
  have hcp := hU.2.2.2.2.1
  have hwa := hU.2.2.2.2.2
  have hre := pub_re hG hU
  have hhc := pub_hc hG hU
  have hhs : ∀ p, 0 ≤ p → p < W * D_ → 0 ≤ hs p ∧ hs p ≤ 200 := fun p h1 h2 => (hU.2.1 p h1 h2).2.1
  refine tt_iload_n F 1 rfl rfl dRB_safe_0 ?_
  refine tt_cOS F (As := [.int (iZ k)]) [] (o_needIndex (w0 := (cW cI cZ a W D_ r sz co ro ho ac al sd lf sq hs rs ts rt_ hc li re ow tc cp ck wa qp qt qs lo sb lc cn ch sk)) (k := k) ⟨by omega, by omega⟩ (by omega)) (va_cwS 1 F.1.2.2.2.2 (gw_S wd601 wd602 wd45 wd603) rfl rfl rfl (by decide +kernel) ⟨(Nat.le_of_ble_eq_true rfl), (Nat.le_of_ble_eq_true rfl)⟩) rfl rfl rfl (Nat.le_of_ble_eq_true rfl) ⟨(Nat.le_of_ble_eq_true rfl), (Nat.le_of_ble_eq_true rfl)⟩ dRB_safe_1 (fun v1 hp => ?_)
  obtain rfl := hp
  refine tt_iconst F dRB_safe_4 ?_
  refine tt_istore_n F [(2, .int (iZ 0)), (0, .ref (a 0)), (1, .int (iZ k))] rfl (by decide) rfl dRB_safe_5 ?_
  refine tt_iconst F dRB_safe_6 ?_
  refine tt_istore_n F [(3, .int (iZ 0)), (2, .int (iZ 0)), (0, .ref (a 0)), (1, .int (iZ k))] rfl (by decide) rfl dRB_safe_7 ?_
  refine tt_sub [2, 3, 1, 0] rfl ?_
  refine safe_loop F hG hhc hk (fun bf p_ hr_ => ?_) (fun bf p_ hn_ => ?_) ((W * D_).toNat + 1) 0 0 (by omega) (by omega) ⟨(cz_0 _ (Int.le_refl 0)).symm, hk.1⟩
  · skip
    refine tt_aload_n F 0 rfl rfl dRB_safe_35 ?_
    refine tt_iload_n F 3 rfl rfl dRB_safe_36 ?_
    refine tt_cIV0 F (fun h => h) (As := [.int (iZ p_)]) 0 rfl rfl (c_numberOf (hs := hs) (rs := rs) (ts := ts) (rt_ := rt_) (hc := hc) (li := li) (re := re) (ow := ow) (tc := tc) (cp := cp) (ck := ck) (wa := wa) (qp := qp) (qt := qt) (qs := qs) (lo := lo) (sb := sb) (lc := lc) (cn := cn) (ch := ch) (sk := sk) (q := p_) hG (by omega)) (cwV 1 F.1.2.2.2.2 (gw_V wd610 wd612 wd28 wd45 wd613) rfl rfl rfl (by decide +kernel) ⟨(Nat.le_of_ble_eq_true rfl), (Nat.le_of_ble_eq_true rfl)⟩) rfl rfl rfl (Nat.le_of_ble_eq_true rfl) ⟨(Nat.le_of_ble_eq_true rfl), (Nat.le_of_ble_eq_true rfl)⟩ dRB_safe_37 (fun z37 w1 hp => ?_)
    obtain ⟨hz37, rfl⟩ := hp
    exact tt_iret F rfl (Nat.le_of_ble_eq_true rfl) (Nat.le_of_ble_eq_true rfl) dRB_safe_40 ⟨Or.inl ⟨p_, hr_.1, hr_.2.1, hr_.2.2.1, hr_.2.2.2, hz37⟩, rfl⟩
  · skip
    refine tt_iconst F dRB_safe_50 ?_
    exact tt_iret F rfl (Nat.le_of_ble_eq_true rfl) (Nat.le_of_ble_eq_true rfl) dRB_safe_51 ⟨Or.inr ⟨rfl, hn_⟩, rfl⟩
abbrev rmTRB_safe : Room := { frames := 7, cells := 1, slots := 6, locals := 110 }
set_option maxHeartbeats 4000000 in
set_option maxRecDepth 100000 in
theorem x_safe (hst : l.stackTraces = false) {k : Int} (hG : GE W D_ r sz co ro ho ac al sd lf sq) (hk0 : ir k) (h : k < 0) : CY l D vwCl cI cZ cJ SL RRB ssL yRB_safe wsRB_safe rmTRB_safe [.ref (a 0), .int (iZ k)] (cW cI cZ a W D_ r sz co ro ho ac al sd lf sq hs rs ts rt_ hc li re ow tc cp ck wa qp qt qs lo sb lc cn ch sk) IAE := by
  refine ts_start (by decide) rfl (Nat.le_of_ble_eq_true rfl) ?_
  intro p e s m args below meth c F hex hsp
  obtain ⟨⟨hW1, hW2, hD1, hD2, hr1, hr2⟩, hGp, hGs, hGk, hGx, hGi, hGm, hGq⟩ := id hG
  have hWD := wd_b hW1 hW2 hD1 hD2
  have hPL := pl_b hW1 hW2 hD1 hD2 hr1 hr2
  have hSQ := sd_b hr1 hr2
  refine tt_iload_n F 1 rfl rfl dRB_safe_0 ?_
  exact ts_outS F hex hsp (As := [.int (iZ k)]) [] (x_needIndex hst (w0 := (cW cI cZ a W D_ r sz co ro ho ac al sd lf sq hs rs ts rt_ hc li re ow tc cp ck wa qp qt qs lo sb lc cn ch sk)) (k := k) ⟨by omega, by omega⟩ (by omega)) (va_cwS 1 F.1.2.2.2.2 (gw_S wd601 wd602 wd45 wd603) rfl rfl rfl (by decide +kernel) ⟨(Nat.le_of_ble_eq_true rfl), (Nat.le_of_ble_eq_true rfl)⟩) rfl rfl rfl (Nat.le_of_ble_eq_true rfl) ⟨(Nat.le_of_ble_eq_true rfl), (Nat.le_of_ble_eq_true rfl)⟩ dRB_safe_1
end CL
