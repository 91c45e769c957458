section LAW1
variable {p : Program} {l : Launch} {e : Env} {s : State} {m : MethodId} {args : Array Value} {below : List Frame} {meth : Method} {c : Code} {Q : State → Prop} {D : va_G} {cI cZ cJ : ClassId} {SL : List zS} {A : Nat → Prop} {a : Nat → Nat} {W D_ r sz : Int} {co ro ho ac al sd lf sq : Int → Int} {hs rs ts rt_ hc li re ow tc cp ck wa qp qt qs lo sb : Int → Int} {lc cn ch sk : Int}
abbrev rmLW_height : Room := { frames := 9, cells := 1, slots := 6, locals := 159 }
set_option maxHeartbeats 4000000 in
set_option maxRecDepth 100000 in
theorem k_height (hst : l.stackTraces = false) {o : Nat} {f : Int → Int} {x y h_ : Int} (hG : GE W D_ r sz co ro ho ac al sd lf sq) (hU : PUB W D_ r hs rs ts rt_ hc re ow tc cp ck wa cn) (h0 : ir x) (h1 : ir y) (h2 : ir h_) : CK l D vwCl cI cZ cJ SL RRB ssL yLW_height wsLW_height rmLW_height [.ref (a 0), .int (iZ x), .int (iZ y), .int (iZ h_), .ref o] ((o, aJ cJ 1 f) :: (cW cI cZ a W D_ r sz co ro ho ac al sd lf sq hs rs ts rt_ hc li re ow tc cp ck wa qp qt qs lo sb lc cn ch sk)) (fun k_ w1 => ((((0 ≤ x ∧ x < W) ∧ 0 ≤ y ∧ y < D_) ∧ 0 ≤ h_ ∧ h_ ≤ 200) ∧ k_ = 0 ∧ ∃ z wc, w1 = (o, aJ cJ 1 (zu f 0 (nz z))) :: wc ∧ (fun z w1 => z = hs (y * W + x) ∧ ∃ (ts' rt' hc' li' re' ow' tc' : Int → Int) (lc' : Int), w1 = (cW cI cZ a W D_ r sz co ro ho ac al sd lf sq (zu hs (y * W + x) h_) rs ts' rt' hc' li' re' ow' tc' cp ck wa qp qt qs lo sb lc' cn ch sk) ∧ PUB W D_ r (zu hs (y * W + x) h_) rs ts' rt' hc' re' ow' tc' cp ck wa cn) z wc) ∨ (¬ (((0 ≤ x ∧ x < W) ∧ 0 ≤ y ∧ y < D_) ∧ 0 ≤ h_ ∧ h_ ≤ 200) ∧ k_ = 1 ∧ w1 = ((o, aJ cJ 1 f) :: (cW cI cZ a W D_ r sz co ro ho ac al sd lf sq hs rs ts rt_ hc li re ow tc cp ck wa qp qt qs lo sb lc cn ch sk)))) := by
  refine tk_start (by decide) rfl (Nat.le_of_ble_eq_true rfl) ?_
  intro p e s m args below meth c F htab hsp
  by_cases hv : (((0 ≤ x ∧ x < W) ∧ 0 ≤ y ∧ y < D_) ∧ 0 ≤ h_ ∧ h_ ≤ 200)
  · skip
    refine tt_roF ?_
    refine tt_aload F 4 rfl dLW_height_0 ?_
    refine tt_iconst F dLW_height_2 ?_
    refine tt_aload_n F 0 rfl rfl dLW_height_3 ?_
    refine tt_iload_n F 1 rfl rfl dLW_height_4 ?_
    refine tt_iload_n F 2 rfl rfl dLW_height_5 ?_
    refine tt_iload_n F 3 rfl rfl dLW_height_6 ?_
    refine tt_cIV F (fun h => h) (As := [.int (iZ x), .int (iZ y), .int (iZ h_)]) [(o, aJ cJ 1 f)] 0 rfl rfl (c_height (hs := hs) (rs := rs) (ts := ts) (rt_ := rt_) (hc := hc) (li := li) (re := re) (ow := ow) (tc := tc) (cp := cp) (ck := ck) (wa := wa) (qp := qp) (qt := qt) (qs := qs) (lo := lo) (sb := sb) (lc := lc) (cn := cn) (ch := ch) (sk := sk) hG hU hv.1 hv.2) (cwV 3 F.1.2.2.2.2 (gw_V wd481 wd482 wd483 wd45 wd484) rfl rfl rfl (by decide +kernel) ⟨(Nat.le_of_ble_eq_true rfl), (Nat.le_of_ble_eq_true rfl)⟩) rfl rfl rfl (Nat.le_of_ble_eq_true rfl) ⟨(Nat.le_of_ble_eq_true rfl), (Nat.le_of_ble_eq_true rfl)⟩ dLW_height_7 (fun z wc hp => ?_)
    refine tt_i2ln F dLW_height_10 ?_
    refine tt_jast F (fun h => h) 0 rfl (by omega) (by omega) (by omega) dLW_height_11 ?_
    refine tt_goto F 19 (by decide) dLW_height_12 ?_
    refine tt_iconst F dLW_height_19 ?_
    exact tt_iret F rfl (Nat.le_of_ble_eq_true rfl) (Nat.le_of_ble_eq_true rfl) dLW_height_20 (Or.inl ⟨hv, rfl, z, wc, rfl, hp⟩)
  · skip
    refine tt_aload F 4 rfl dLW_height_0 ?_
    refine tt_iconst F dLW_height_2 ?_
    refine tt_aload_n F 0 rfl rfl dLW_height_3 ?_
    refine tt_iload_n F 1 rfl rfl dLW_height_4 ?_
    refine tt_iload_n F 2 rfl rfl dLW_height_5 ?_
    refine tt_iload_n F 3 rfl rfl dLW_height_6 ?_
    refine tk_catchV F hsp (As := [.int (iZ x), .int (iZ y), .int (iZ h_)]) [(o, aJ cJ 1 f)] 0 rfl rfl (x_height (hs := hs) (rs := rs) (ts := ts) (rt_ := rt_) (hc := hc) (li := li) (re := re) (ow := ow) (tc := tc) (cp := cp) (ck := ck) (wa := wa) (qp := qp) (qt := qt) (qs := qs) (lo := lo) (sb := sb) (lc := lc) (cn := cn) (ch := ch) (sk := sk) hst hG h0 h1 h2 hv) (cwV 3 F.1.2.2.2.2 (gw_V wd481 wd482 wd483 wd45 wd484) rfl rfl rfl (by decide +kernel) ⟨(Nat.le_of_ble_eq_true rfl), (Nat.le_of_ble_eq_true rfl)⟩) rfl rfl rfl (Nat.le_of_ble_eq_true rfl) ⟨(Nat.le_of_ble_eq_true rfl), (Nat.le_of_ble_eq_true rfl)⟩ dLW_height_7 htab (by decide) (by decide) we480 (by simp [tnL]) (fun q => ?_)
    refine tt_astore F [(5, .ref q), (0, .ref (a 0)), (1, .int (iZ x)), (2, .int (iZ y)), (3, .int (iZ h_)), (4, .ref o)] (by decide) rfl dLW_height_15 ?_
    refine tt_iconst F dLW_height_17 ?_
    exact tt_iret F rfl (Nat.le_of_ble_eq_true rfl) (Nat.le_of_ble_eq_true rfl) dLW_height_18 (Or.inr ⟨hv, rfl, rfl⟩)
abbrev rmLW_rod : Room := { frames := 9, cells := 1, slots := 6, locals := 163 }
set_option maxHeartbeats 4000000 in
set_option maxRecDepth 100000 in
theorem k_rod (hst : l.stackTraces = false) {o : Nat} {f : Int → Int} {x y v_ : Int} (hG : GE W D_ r sz co ro ho ac al sd lf sq) (hU : PUB W D_ r hs rs ts rt_ hc re ow tc cp ck wa cn) (h0 : ir x) (h1 : ir y) (h2 : ir v_) : CK l D vwCl cI cZ cJ SL RRB ssL yLW_rod wsLW_rod rmLW_rod [.ref (a 0), .int (iZ x), .int (iZ y), .int (iZ v_), .ref o] ((o, aJ cJ 1 f) :: (cW cI cZ a W D_ r sz co ro ho ac al sd lf sq hs rs ts rt_ hc li re ow tc cp ck wa qp qt qs lo sb lc cn ch sk)) (fun k_ w1 => ((((0 ≤ x ∧ x < W) ∧ 0 ≤ y ∧ y < D_) ∧ 0 ≤ v_ ∧ v_ ≤ 50) ∧ k_ = 0 ∧ ∃ z wc, w1 = (o, aJ cJ 1 (zu f 0 (nz z))) :: wc ∧ (fun z w1 => z = rs (y * W + x) ∧ ∃ (ts' rt' hc' li' re' ow' tc' : Int → Int) (lc' : Int), w1 = (cW cI cZ a W D_ r sz co ro ho ac al sd lf sq hs (zu rs (y * W + x) v_) ts' rt' hc' li' re' ow' tc' cp ck wa qp qt qs lo sb lc' cn ch sk) ∧ PUB W D_ r hs (zu rs (y * W + x) v_) ts' rt' hc' re' ow' tc' cp ck wa cn) z wc) ∨ (¬ (((0 ≤ x ∧ x < W) ∧ 0 ≤ y ∧ y < D_) ∧ 0 ≤ v_ ∧ v_ ≤ 50) ∧ k_ = 1 ∧ w1 = ((o, aJ cJ 1 f) :: (cW cI cZ a W D_ r sz co ro ho ac al sd lf sq hs rs ts rt_ hc li re ow tc cp ck wa qp qt qs lo sb lc cn ch sk)))) := by
  refine tk_start (by decide) rfl (Nat.le_of_ble_eq_true rfl) ?_
  intro p e s m args below meth c F htab hsp
  by_cases hv : (((0 ≤ x ∧ x < W) ∧ 0 ≤ y ∧ y < D_) ∧ 0 ≤ v_ ∧ v_ ≤ 50)
  · skip
    refine tt_roF ?_
    refine tt_aload F 4 rfl dLW_rod_0 ?_
    refine tt_iconst F dLW_rod_2 ?_
    refine tt_aload_n F 0 rfl rfl dLW_rod_3 ?_
    refine tt_iload_n F 1 rfl rfl dLW_rod_4 ?_
    refine tt_iload_n F 2 rfl rfl dLW_rod_5 ?_
    refine tt_iload_n F 3 rfl rfl dLW_rod_6 ?_
    refine tt_cIV F (fun h => h) (As := [.int (iZ x), .int (iZ y), .int (iZ v_)]) [(o, aJ cJ 1 f)] 0 rfl rfl (c_rod (hs := hs) (rs := rs) (ts := ts) (rt_ := rt_) (hc := hc) (li := li) (re := re) (ow := ow) (tc := tc) (cp := cp) (ck := ck) (wa := wa) (qp := qp) (qt := qt) (qs := qs) (lo := lo) (sb := sb) (lc := lc) (cn := cn) (ch := ch) (sk := sk) hG hU hv.1 hv.2) (cwV 3 F.1.2.2.2.2 (gw_V wd562 wd563 wd564 wd45 wd565) rfl rfl rfl (by decide +kernel) ⟨(Nat.le_of_ble_eq_true rfl), (Nat.le_of_ble_eq_true rfl)⟩) rfl rfl rfl (Nat.le_of_ble_eq_true rfl) ⟨(Nat.le_of_ble_eq_true rfl), (Nat.le_of_ble_eq_true rfl)⟩ dLW_rod_7 (fun z wc hp => ?_)
    refine tt_i2ln F dLW_rod_10 ?_
    refine tt_jast F (fun h => h) 0 rfl (by omega) (by omega) (by omega) dLW_rod_11 ?_
    refine tt_goto F 19 (by decide) dLW_rod_12 ?_
    refine tt_iconst F dLW_rod_19 ?_
    exact tt_iret F rfl (Nat.le_of_ble_eq_true rfl) (Nat.le_of_ble_eq_true rfl) dLW_rod_20 (Or.inl ⟨hv, rfl, z, wc, rfl, hp⟩)
  · skip
    refine tt_aload F 4 rfl dLW_rod_0 ?_
    refine tt_iconst F dLW_rod_2 ?_
    refine tt_aload_n F 0 rfl rfl dLW_rod_3 ?_
    refine tt_iload_n F 1 rfl rfl dLW_rod_4 ?_
    refine tt_iload_n F 2 rfl rfl dLW_rod_5 ?_
    refine tt_iload_n F 3 rfl rfl dLW_rod_6 ?_
    refine tk_catchV F hsp (As := [.int (iZ x), .int (iZ y), .int (iZ v_)]) [(o, aJ cJ 1 f)] 0 rfl rfl (x_rod (hs := hs) (rs := rs) (ts := ts) (rt_ := rt_) (hc := hc) (li := li) (re := re) (ow := ow) (tc := tc) (cp := cp) (ck := ck) (wa := wa) (qp := qp) (qt := qt) (qs := qs) (lo := lo) (sb := sb) (lc := lc) (cn := cn) (ch := ch) (sk := sk) hst hG h0 h1 h2 hv) (cwV 3 F.1.2.2.2.2 (gw_V wd562 wd563 wd564 wd45 wd565) rfl rfl rfl (by decide +kernel) ⟨(Nat.le_of_ble_eq_true rfl), (Nat.le_of_ble_eq_true rfl)⟩) rfl rfl rfl (Nat.le_of_ble_eq_true rfl) ⟨(Nat.le_of_ble_eq_true rfl), (Nat.le_of_ble_eq_true rfl)⟩ dLW_rod_7 htab (by decide) (by decide) we480 (by simp [tnL]) (fun q => ?_)
    refine tt_astore F [(5, .ref q), (0, .ref (a 0)), (1, .int (iZ x)), (2, .int (iZ y)), (3, .int (iZ v_)), (4, .ref o)] (by decide) rfl dLW_rod_15 ?_
    refine tt_iconst F dLW_rod_17 ?_
    exact tt_iret F rfl (Nat.le_of_ble_eq_true rfl) (Nat.le_of_ble_eq_true rfl) dLW_rod_18 (Or.inr ⟨hv, rfl, rfl⟩)
abbrev rmLW_rest : Room := { frames := 9, cells := 1, slots := 6, locals := 158 }
set_option maxHeartbeats 4000000 in
set_option maxRecDepth 100000 in
theorem k_rest (hst : l.stackTraces = false) {o : Nat} {f : Int → Int} {x y wh : Int} (hG : GE W D_ r sz co ro ho ac al sd lf sq) (hU : PUB W D_ r hs rs ts rt_ hc re ow tc cp ck wa cn) (h0 : ir x) (h1 : ir y) (h2 : ir wh) : CK l D vwCl cI cZ cJ SL RRB ssL yLW_rest wsLW_rest rmLW_rest [.ref (a 0), .int (iZ x), .int (iZ y), .int (iZ wh), .ref o] ((o, aJ cJ 1 f) :: (cW cI cZ a W D_ r sz co ro ho ac al sd lf sq hs rs ts rt_ hc li re ow tc cp ck wa qp qt qs lo sb lc cn ch sk)) (fun k_ w1 => ((((-r ≤ x ∧ x < W + r) ∧ -r ≤ y ∧ y < D_ + r) ∧ 0 ≤ wh ∧ wh ≤ 3) ∧ k_ = 0 ∧ ∃ z wc, w1 = (o, aJ cJ 1 (zu f 0 (nz z))) :: wc ∧ (fun z w1 => ((wh = 0 ∧ z = re ((y + r) * (W + 2 * r) + (x + r)) / 1048576) ∨ (wh = 1 ∧ z = bi (decide (re ((y + r) * (W + 2 * r) + (x + r)) % 1048576 = 0))) ∨ (wh = 2 ∧ z = tc ((y + r) * (W + 2 * r) + (x + r))) ∨ (wh = 3 ∧ z = bi (decide (re ((y + r) * (W + 2 * r) + (x + r)) = r * 1048576)))) ∧ w1 = (cW cI cZ a W D_ r sz co ro ho ac al sd lf sq hs rs ts rt_ hc li re ow tc cp ck wa qp qt qs lo sb lc cn ch sk)) z wc) ∨ (¬ (((-r ≤ x ∧ x < W + r) ∧ -r ≤ y ∧ y < D_ + r) ∧ 0 ≤ wh ∧ wh ≤ 3) ∧ k_ = 1 ∧ w1 = ((o, aJ cJ 1 f) :: (cW cI cZ a W D_ r sz co ro ho ac al sd lf sq hs rs ts rt_ hc li re ow tc cp ck wa qp qt qs lo sb lc cn ch sk)))) := by
  refine tk_start (by decide) rfl (Nat.le_of_ble_eq_true rfl) ?_
  intro p e s m args below meth c F htab hsp
  by_cases hv : (((-r ≤ x ∧ x < W + r) ∧ -r ≤ y ∧ y < D_ + r) ∧ 0 ≤ wh ∧ wh ≤ 3)
  · skip
    refine tt_roF ?_
    refine tt_aload F 4 rfl dLW_rest_0 ?_
    refine tt_iconst F dLW_rest_2 ?_
    refine tt_aload_n F 0 rfl rfl dLW_rest_3 ?_
    refine tt_iload_n F 1 rfl rfl dLW_rest_4 ?_
    refine tt_iload_n F 2 rfl rfl dLW_rest_5 ?_
    refine tt_iload_n F 3 rfl rfl dLW_rest_6 ?_
    refine tt_cIV F (fun h => h) (As := [.int (iZ x), .int (iZ y), .int (iZ wh)]) [(o, aJ cJ 1 f)] 0 rfl rfl (c_rest (hs := hs) (rs := rs) (ts := ts) (rt_ := rt_) (hc := hc) (li := li) (re := re) (ow := ow) (tc := tc) (cp := cp) (ck := ck) (wa := wa) (qp := qp) (qt := qt) (qs := qs) (lo := lo) (sb := sb) (lc := lc) (cn := cn) (ch := ch) (sk := sk) hG hU hv.1 hv.2) (cwV 3 F.1.2.2.2.2 (gw_V wd569 wd570 wd571 wd45 wd572) rfl rfl rfl (by decide +kernel) ⟨(Nat.le_of_ble_eq_true rfl), (Nat.le_of_ble_eq_true rfl)⟩) rfl rfl rfl (Nat.le_of_ble_eq_true rfl) ⟨(Nat.le_of_ble_eq_true rfl), (Nat.le_of_ble_eq_true rfl)⟩ dLW_rest_7 (fun z wc hp => ?_)
    refine tt_i2ln F dLW_rest_10 ?_
    refine tt_jast F (fun h => h) 0 rfl (by omega) (by omega) (by omega) dLW_rest_11 ?_
    refine tt_goto F 19 (by decide) dLW_rest_12 ?_
    refine tt_iconst F dLW_rest_19 ?_
    exact tt_iret F rfl (Nat.le_of_ble_eq_true rfl) (Nat.le_of_ble_eq_true rfl) dLW_rest_20 (Or.inl ⟨hv, rfl, z, wc, rfl, hp⟩)
  · skip
    refine tt_aload F 4 rfl dLW_rest_0 ?_
    refine tt_iconst F dLW_rest_2 ?_
    refine tt_aload_n F 0 rfl rfl dLW_rest_3 ?_
    refine tt_iload_n F 1 rfl rfl dLW_rest_4 ?_
    refine tt_iload_n F 2 rfl rfl dLW_rest_5 ?_
    refine tt_iload_n F 3 rfl rfl dLW_rest_6 ?_
    refine tk_catchV F hsp (As := [.int (iZ x), .int (iZ y), .int (iZ wh)]) [(o, aJ cJ 1 f)] 0 rfl rfl (x_rest (hs := hs) (rs := rs) (ts := ts) (rt_ := rt_) (hc := hc) (li := li) (re := re) (ow := ow) (tc := tc) (cp := cp) (ck := ck) (wa := wa) (qp := qp) (qt := qt) (qs := qs) (lo := lo) (sb := sb) (lc := lc) (cn := cn) (ch := ch) (sk := sk) hst hG h0 h1 h2 hv) (cwV 3 F.1.2.2.2.2 (gw_V wd569 wd570 wd571 wd45 wd572) rfl rfl rfl (by decide +kernel) ⟨(Nat.le_of_ble_eq_true rfl), (Nat.le_of_ble_eq_true rfl)⟩) rfl rfl rfl (Nat.le_of_ble_eq_true rfl) ⟨(Nat.le_of_ble_eq_true rfl), (Nat.le_of_ble_eq_true rfl)⟩ dLW_rest_7 htab (by decide) (by decide) we480 (by simp [tnL]) (fun q => ?_)
    refine tt_astore F [(5, .ref q), (0, .ref (a 0)), (1, .int (iZ x)), (2, .int (iZ y)), (3, .int (iZ wh)), (4, .ref o)] (by decide) rfl dLW_rest_15 ?_
    refine tt_iconst F dLW_rest_17 ?_
    exact tt_iret F rfl (Nat.le_of_ble_eq_true rfl) (Nat.le_of_ble_eq_true rfl) dLW_rest_18 (Or.inr ⟨hv, rfl, rfl⟩)
abbrev rmLW_touched : Room := { frames := 9, cells := 1, slots := 6, locals := 157 }
set_option maxHeartbeats 4000000 in
set_option maxRecDepth 100000 in
theorem k_touched (hst : l.stackTraces = false) {o : Nat} {f : Int → Int} {x y k : Int} (hG : GE W D_ r sz co ro ho ac al sd lf sq) (hU : PUB W D_ r hs rs ts rt_ hc re ow tc cp ck wa cn) (h0 : ir x) (h1 : ir y) (h2 : ir k) : CK l D vwCl cI cZ cJ SL RRB ssL yLW_touched wsLW_touched rmLW_touched [.ref (a 0), .int (iZ x), .int (iZ y), .int (iZ k), .ref o] ((o, aJ cJ 1 f) :: (cW cI cZ a W D_ r sz co ro ho ac al sd lf sq hs rs ts rt_ hc li re ow tc cp ck wa qp qt qs lo sb lc cn ch sk)) (fun k_ w1 => ((((-r ≤ x ∧ x < W + r) ∧ -r ≤ y ∧ y < D_ + r) ∧ 0 ≤ k) ∧ k_ = 0 ∧ ∃ z wc, w1 = (o, aJ cJ 1 (zu f 0 (nz z))) :: wc ∧ (fun z w1 => ((∃ p, 0 ≤ p ∧ p < W * D_ ∧ tch W r x y ts (re ((y + r) * (W + 2 * r) + (x + r))) p = true ∧ cz (tch W r x y ts (re ((y + r) * (W + 2 * r) + (x + r)))) p = k ∧ z = 100 * (p / W) + p % W) ∨ (z = -1 ∧ cz (tch W r x y ts (re ((y + r) * (W + 2 * r) + (x + r)))) (W * D_) ≤ k)) ∧ ∃ (li' : Int → Int) (lc' : Int), w1 = (cW cI cZ a W D_ r sz co ro ho ac al sd lf sq hs rs ts rt_ hc li' re ow tc cp ck wa qp qt qs lo sb lc' cn ch sk)) z wc) ∨ (¬ (((-r ≤ x ∧ x < W + r) ∧ -r ≤ y ∧ y < D_ + r) ∧ 0 ≤ k) ∧ k_ = 1 ∧ w1 = ((o, aJ cJ 1 f) :: (cW cI cZ a W D_ r sz co ro ho ac al sd lf sq hs rs ts rt_ hc li re ow tc cp ck wa qp qt qs lo sb lc cn ch sk)))) := by
  refine tk_start (by decide) rfl (Nat.le_of_ble_eq_true rfl) ?_
  intro p e s m args below meth c F htab hsp
  by_cases hv : (((-r ≤ x ∧ x < W + r) ∧ -r ≤ y ∧ y < D_ + r) ∧ 0 ≤ k)
  · skip
    refine tt_roF ?_
    refine tt_aload F 4 rfl dLW_touched_0 ?_
    refine tt_iconst F dLW_touched_2 ?_
    refine tt_aload_n F 0 rfl rfl dLW_touched_3 ?_
    refine tt_iload_n F 1 rfl rfl dLW_touched_4 ?_
    refine tt_iload_n F 2 rfl rfl dLW_touched_5 ?_
    refine tt_iload_n F 3 rfl rfl dLW_touched_6 ?_
    refine tt_cIV F (fun h => h) (As := [.int (iZ x), .int (iZ y), .int (iZ k)]) [(o, aJ cJ 1 f)] 0 rfl rfl (c_touched (hs := hs) (rs := rs) (ts := ts) (rt_ := rt_) (hc := hc) (li := li) (re := re) (ow := ow) (tc := tc) (cp := cp) (ck := ck) (wa := wa) (qp := qp) (qt := qt) (qs := qs) (lo := lo) (sb := sb) (lc := lc) (cn := cn) (ch := ch) (sk := sk) hG hU hv.1 ⟨hv.2, h2.2⟩) (cwV 3 F.1.2.2.2.2 (gw_V wd597 wd598 wd599 wd45 wd600) rfl rfl rfl (by decide +kernel) ⟨(Nat.le_of_ble_eq_true rfl), (Nat.le_of_ble_eq_true rfl)⟩) rfl rfl rfl (Nat.le_of_ble_eq_true rfl) ⟨(Nat.le_of_ble_eq_true rfl), (Nat.le_of_ble_eq_true rfl)⟩ dLW_touched_7 (fun z wc hp => ?_)
    refine tt_i2ln F dLW_touched_10 ?_
    refine tt_jast F (fun h => h) 0 rfl (by omega) (by omega) (by omega) dLW_touched_11 ?_
    refine tt_goto F 19 (by decide) dLW_touched_12 ?_
    refine tt_iconst F dLW_touched_19 ?_
    exact tt_iret F rfl (Nat.le_of_ble_eq_true rfl) (Nat.le_of_ble_eq_true rfl) dLW_touched_20 (Or.inl ⟨hv, rfl, z, wc, rfl, hp⟩)
  · skip
    refine tt_aload F 4 rfl dLW_touched_0 ?_
    refine tt_iconst F dLW_touched_2 ?_
    refine tt_aload_n F 0 rfl rfl dLW_touched_3 ?_
    refine tt_iload_n F 1 rfl rfl dLW_touched_4 ?_
    refine tt_iload_n F 2 rfl rfl dLW_touched_5 ?_
    refine tt_iload_n F 3 rfl rfl dLW_touched_6 ?_
    refine tk_catchV F hsp (As := [.int (iZ x), .int (iZ y), .int (iZ k)]) [(o, aJ cJ 1 f)] 0 rfl rfl (x_touched (hs := hs) (rs := rs) (ts := ts) (rt_ := rt_) (hc := hc) (li := li) (re := re) (ow := ow) (tc := tc) (cp := cp) (ck := ck) (wa := wa) (qp := qp) (qt := qt) (qs := qs) (lo := lo) (sb := sb) (lc := lc) (cn := cn) (ch := ch) (sk := sk) hst hG h0 h1 h2 hv) (cwV 3 F.1.2.2.2.2 (gw_V wd597 wd598 wd599 wd45 wd600) rfl rfl rfl (by decide +kernel) ⟨(Nat.le_of_ble_eq_true rfl), (Nat.le_of_ble_eq_true rfl)⟩) rfl rfl rfl (Nat.le_of_ble_eq_true rfl) ⟨(Nat.le_of_ble_eq_true rfl), (Nat.le_of_ble_eq_true rfl)⟩ dLW_touched_7 htab (by decide) (by decide) we480 (by simp [tnL]) (fun q => ?_)
    refine tt_astore F [(5, .ref q), (0, .ref (a 0)), (1, .int (iZ x)), (2, .int (iZ y)), (3, .int (iZ k)), (4, .ref o)] (by decide) rfl dLW_touched_15 ?_
    refine tt_iconst F dLW_touched_17 ?_
    exact tt_iret F rfl (Nat.le_of_ble_eq_true rfl) (Nat.le_of_ble_eq_true rfl) dLW_touched_18 (Or.inr ⟨hv, rfl, rfl⟩)
abbrev rmLW_higher : Room := { frames := 9, cells := 1, slots := 6, locals := 158 }
set_option maxHeartbeats 4000000 in
set_option maxRecDepth 100000 in
theorem k_higher (hst : l.stackTraces = false) {o : Nat} {f : Int → Int} {x y x2 y2 : Int} (hG : GE W D_ r sz co ro ho ac al sd lf sq) (hU : PUB W D_ r hs rs ts rt_ hc re ow tc cp ck wa cn) (h0 : ir x) (h1 : ir y) (h2 : ir x2) (h3 : ir y2) : CK l D vwCl cI cZ cJ SL RRB ssL yLW_higher wsLW_higher rmLW_higher [.ref (a 0), .int (iZ x), .int (iZ y), .int (iZ x2), .int (iZ y2), .ref o] ((o, aJ cJ 1 f) :: (cW cI cZ a W D_ r sz co ro ho ac al sd lf sq hs rs ts rt_ hc li re ow tc cp ck wa qp qt qs lo sb lc cn ch sk)) (fun k_ w1 => ((((-r ≤ x ∧ x < W + r) ∧ -r ≤ y ∧ y < D_ + r) ∧ ((-r ≤ x2 ∧ x2 < W + r) ∧ -r ≤ y2 ∧ y2 < D_ + r)) ∧ k_ = 0 ∧ ∃ z wc, w1 = (o, aJ cJ 1 (zu f 0 (nz z))) :: wc ∧ (fun z w1 => ((re ((y + r) * (W + 2 * r) + (x + r)) < re ((y2 + r) * (W + 2 * r) + (x2 + r)) ∧ z = -1) ∨ (re ((y + r) * (W + 2 * r) + (x + r)) = re ((y2 + r) * (W + 2 * r) + (x2 + r)) ∧ z = 0) ∨ (re ((y2 + r) * (W + 2 * r) + (x2 + r)) < re ((y + r) * (W + 2 * r) + (x + r)) ∧ z = 1)) ∧ w1 = (cW cI cZ a W D_ r sz co ro ho ac al sd lf sq hs rs ts rt_ hc li re ow tc cp ck wa qp qt qs lo sb lc cn ch sk)) z wc) ∨ (¬ (((-r ≤ x ∧ x < W + r) ∧ -r ≤ y ∧ y < D_ + r) ∧ ((-r ≤ x2 ∧ x2 < W + r) ∧ -r ≤ y2 ∧ y2 < D_ + r)) ∧ k_ = 1 ∧ w1 = ((o, aJ cJ 1 f) :: (cW cI cZ a W D_ r sz co ro ho ac al sd lf sq hs rs ts rt_ hc li re ow tc cp ck wa qp qt qs lo sb lc cn ch sk)))) := by
  refine tk_start (by decide) rfl (Nat.le_of_ble_eq_true rfl) ?_
  intro p e s m args below meth c F htab hsp
  by_cases hv : (((-r ≤ x ∧ x < W + r) ∧ -r ≤ y ∧ y < D_ + r) ∧ ((-r ≤ x2 ∧ x2 < W + r) ∧ -r ≤ y2 ∧ y2 < D_ + r))
  · skip
    refine tt_roF ?_
    refine tt_aload F 5 rfl dLW_higher_0 ?_
    refine tt_iconst F dLW_higher_2 ?_
    refine tt_aload_n F 0 rfl rfl dLW_higher_3 ?_
    refine tt_iload_n F 1 rfl rfl dLW_higher_4 ?_
    refine tt_iload_n F 2 rfl rfl dLW_higher_5 ?_
    refine tt_iload_n F 3 rfl rfl dLW_higher_6 ?_
    refine tt_iload F 4 rfl dLW_higher_7 ?_
    refine tt_cIV F (fun h => h) (As := [.int (iZ x), .int (iZ y), .int (iZ x2), .int (iZ y2)]) [(o, aJ cJ 1 f)] 0 rfl rfl (c_higher (hs := hs) (rs := rs) (ts := ts) (rt_ := rt_) (hc := hc) (li := li) (re := re) (ow := ow) (tc := tc) (cp := cp) (ck := ck) (wa := wa) (qp := qp) (qt := qt) (qs := qs) (lo := lo) (sb := sb) (lc := lc) (cn := cn) (ch := ch) (sk := sk) hG hU hv.1 hv.2) (cwV 4 F.1.2.2.2.2 (gw_V wd617 wd618 wd619 wd45 wd620) rfl rfl rfl (by decide +kernel) ⟨(Nat.le_of_ble_eq_true rfl), (Nat.le_of_ble_eq_true rfl)⟩) rfl rfl rfl (Nat.le_of_ble_eq_true rfl) ⟨(Nat.le_of_ble_eq_true rfl), (Nat.le_of_ble_eq_true rfl)⟩ dLW_higher_9 (fun z wc hp => ?_)
    refine tt_i2ln F dLW_higher_12 ?_
    refine tt_jast F (fun h => h) 0 rfl (by omega) (by omega) (by omega) dLW_higher_13 ?_
    refine tt_goto F 21 (by decide) dLW_higher_14 ?_
    refine tt_iconst F dLW_higher_21 ?_
    exact tt_iret F rfl (Nat.le_of_ble_eq_true rfl) (Nat.le_of_ble_eq_true rfl) dLW_higher_22 (Or.inl ⟨hv, rfl, z, wc, rfl, hp⟩)
  · skip
    refine tt_aload F 5 rfl dLW_higher_0 ?_
    refine tt_iconst F dLW_higher_2 ?_
    refine tt_aload_n F 0 rfl rfl dLW_higher_3 ?_
    refine tt_iload_n F 1 rfl rfl dLW_higher_4 ?_
    refine tt_iload_n F 2 rfl rfl dLW_higher_5 ?_
    refine tt_iload_n F 3 rfl rfl dLW_higher_6 ?_
    refine tt_iload F 4 rfl dLW_higher_7 ?_
    refine tk_catchV F hsp (As := [.int (iZ x), .int (iZ y), .int (iZ x2), .int (iZ y2)]) [(o, aJ cJ 1 f)] 0 rfl rfl (x_higher (hs := hs) (rs := rs) (ts := ts) (rt_ := rt_) (hc := hc) (li := li) (re := re) (ow := ow) (tc := tc) (cp := cp) (ck := ck) (wa := wa) (qp := qp) (qt := qt) (qs := qs) (lo := lo) (sb := sb) (lc := lc) (cn := cn) (ch := ch) (sk := sk) hst hG h0 h1 h2 h3 hv) (cwV 4 F.1.2.2.2.2 (gw_V wd617 wd618 wd619 wd45 wd620) rfl rfl rfl (by decide +kernel) ⟨(Nat.le_of_ble_eq_true rfl), (Nat.le_of_ble_eq_true rfl)⟩) rfl rfl rfl (Nat.le_of_ble_eq_true rfl) ⟨(Nat.le_of_ble_eq_true rfl), (Nat.le_of_ble_eq_true rfl)⟩ dLW_higher_9 htab (by decide) (by decide) we480 (by simp [tnL]) (fun q => ?_)
    refine tt_astore F [(6, .ref q), (0, .ref (a 0)), (1, .int (iZ x)), (2, .int (iZ y)), (3, .int (iZ x2)), (4, .int (iZ y2)), (5, .ref o)] (by decide) rfl dLW_higher_17 ?_
    refine tt_iconst F dLW_higher_19 ?_
    exact tt_iret F rfl (Nat.le_of_ble_eq_true rfl) (Nat.le_of_ble_eq_true rfl) dLW_higher_20 (Or.inr ⟨hv, rfl, rfl⟩)
abbrev rmLW_hits : Room := { frames := 9, cells := 1, slots := 6, locals := 156 }
set_option maxHeartbeats 4000000 in
set_option maxRecDepth 100000 in
theorem k_hits (hst : l.stackTraces = false) {o : Nat} {f : Int → Int} {x y : Int} (hG : GE W D_ r sz co ro ho ac al sd lf sq) (hU : PUB W D_ r hs rs ts rt_ hc re ow tc cp ck wa cn) (h0 : ir x) (h1 : ir y) : CK l D vwCl cI cZ cJ SL RRB ssL yLW_hits wsLW_hits rmLW_hits [.ref (a 0), .int (iZ x), .int (iZ y), .ref o] ((o, aJ cJ 1 f) :: (cW cI cZ a W D_ r sz co ro ho ac al sd lf sq hs rs ts rt_ hc li re ow tc cp ck wa qp qt qs lo sb lc cn ch sk)) (fun k_ w1 => (((0 ≤ x ∧ x < W) ∧ 0 ≤ y ∧ y < D_) ∧ k_ = 0 ∧ ∃ z wc, w1 = (o, aJ cJ 1 (zu f 0 (nz z))) :: wc ∧ (fun z w1 => z = hc (y * W + x) ∧ w1 = (cW cI cZ a W D_ r sz co ro ho ac al sd lf sq hs rs ts rt_ hc li re ow tc cp ck wa qp qt qs lo sb lc cn ch sk)) z wc) ∨ (¬ ((0 ≤ x ∧ x < W) ∧ 0 ≤ y ∧ y < D_) ∧ k_ = 1 ∧ w1 = ((o, aJ cJ 1 f) :: (cW cI cZ a W D_ r sz co ro ho ac al sd lf sq hs rs ts rt_ hc li re ow tc cp ck wa qp qt qs lo sb lc cn ch sk)))) := by
  refine tk_start (by decide) rfl (Nat.le_of_ble_eq_true rfl) ?_
  intro p e s m args below meth c F htab hsp
  by_cases hv : ((0 ≤ x ∧ x < W) ∧ 0 ≤ y ∧ y < D_)
  · skip
    refine tt_roF ?_
    refine tt_aload_n F 3 rfl rfl dLW_hits_0 ?_
    refine tt_iconst F dLW_hits_1 ?_
    refine tt_aload_n F 0 rfl rfl dLW_hits_2 ?_
    refine tt_iload_n F 1 rfl rfl dLW_hits_3 ?_
    refine tt_iload_n F 2 rfl rfl dLW_hits_4 ?_
    refine tt_cIV F (fun h => h) (As := [.int (iZ x), .int (iZ y)]) [(o, aJ cJ 1 f)] 0 rfl rfl (c_hits (hs := hs) (rs := rs) (ts := ts) (rt_ := rt_) (hc := hc) (li := li) (re := re) (ow := ow) (tc := tc) (cp := cp) (ck := ck) (wa := wa) (qp := qp) (qt := qt) (qs := qs) (lo := lo) (sb := sb) (lc := lc) (cn := cn) (ch := ch) (sk := sk) hG hU hv) (cwV 2 F.1.2.2.2.2 (gw_V wd627 wd628 wd629 wd45 wd630) rfl rfl rfl (by decide +kernel) ⟨(Nat.le_of_ble_eq_true rfl), (Nat.le_of_ble_eq_true rfl)⟩) rfl rfl rfl (Nat.le_of_ble_eq_true rfl) ⟨(Nat.le_of_ble_eq_true rfl), (Nat.le_of_ble_eq_true rfl)⟩ dLW_hits_5 (fun z wc hp => ?_)
    refine tt_i2ln F dLW_hits_8 ?_
    refine tt_jast F (fun h => h) 0 rfl (by omega) (by omega) (by omega) dLW_hits_9 ?_
    refine tt_goto F 17 (by decide) dLW_hits_10 ?_
    refine tt_iconst F dLW_hits_17 ?_
    exact tt_iret F rfl (Nat.le_of_ble_eq_true rfl) (Nat.le_of_ble_eq_true rfl) dLW_hits_18 (Or.inl ⟨hv, rfl, z, wc, rfl, hp⟩)
  · skip
    refine tt_aload_n F 3 rfl rfl dLW_hits_0 ?_
    refine tt_iconst F dLW_hits_1 ?_
    refine tt_aload_n F 0 rfl rfl dLW_hits_2 ?_
    refine tt_iload_n F 1 rfl rfl dLW_hits_3 ?_
    refine tt_iload_n F 2 rfl rfl dLW_hits_4 ?_
    refine tk_catchV F hsp (As := [.int (iZ x), .int (iZ y)]) [(o, aJ cJ 1 f)] 0 rfl rfl (x_hits (hs := hs) (rs := rs) (ts := ts) (rt_ := rt_) (hc := hc) (li := li) (re := re) (ow := ow) (tc := tc) (cp := cp) (ck := ck) (wa := wa) (qp := qp) (qt := qt) (qs := qs) (lo := lo) (sb := sb) (lc := lc) (cn := cn) (ch := ch) (sk := sk) hst hG h0 h1 hv) (cwV 2 F.1.2.2.2.2 (gw_V wd627 wd628 wd629 wd45 wd630) rfl rfl rfl (by decide +kernel) ⟨(Nat.le_of_ble_eq_true rfl), (Nat.le_of_ble_eq_true rfl)⟩) rfl rfl rfl (Nat.le_of_ble_eq_true rfl) ⟨(Nat.le_of_ble_eq_true rfl), (Nat.le_of_ble_eq_true rfl)⟩ dLW_hits_5 htab (by decide) (by decide) we480 (by simp [tnL]) (fun q => ?_)
    refine tt_astore F [(4, .ref q), (0, .ref (a 0)), (1, .int (iZ x)), (2, .int (iZ y)), (3, .ref o)] (by decide) rfl dLW_hits_13 ?_
    refine tt_iconst F dLW_hits_15 ?_
    exact tt_iret F rfl (Nat.le_of_ble_eq_true rfl) (Nat.le_of_ble_eq_true rfl) dLW_hits_16 (Or.inr ⟨hv, rfl, rfl⟩)
abbrev rmLW_safe : Room := { frames := 8, cells := 1, slots := 6, locals := 133 }
set_option maxHeartbeats 4000000 in
set_option maxRecDepth 100000 in
theorem k_safe (hst : l.stackTraces = false) {o : Nat} {f : Int → Int} {k : Int} (hG : GE W D_ r sz co ro ho ac al sd lf sq) (hU : PUB W D_ r hs rs ts rt_ hc re ow tc cp ck wa cn) (h0 : ir k) : CK l D vwCl cI cZ cJ SL RRB ssL yLW_safe wsLW_safe rmLW_safe [.ref (a 0), .int (iZ k), .ref o] ((o, aJ cJ 1 f) :: (cW cI cZ a W D_ r sz co ro ho ac al sd lf sq hs rs ts rt_ hc li re ow tc cp ck wa qp qt qs lo sb lc cn ch sk)) (fun k_ w1 => ((0 ≤ k) ∧ k_ = 0 ∧ ∃ z wc, w1 = (o, aJ cJ 1 (zu f 0 (nz z))) :: wc ∧ (fun z w1 => ((∃ p, 0 ≤ p ∧ p < W * D_ ∧ hc p = 0 ∧ cz (fun p => decide (hc p = 0)) p = k ∧ z = 100 * (p / W) + p % W) ∨ (z = -1 ∧ cz (fun p => decide (hc p = 0)) (W * D_) ≤ k)) ∧ w1 = (cW cI cZ a W D_ r sz co ro ho ac al sd lf sq hs rs ts rt_ hc li re ow tc cp ck wa qp qt qs lo sb lc cn ch sk)) z wc) ∨ (¬ (0 ≤ k) ∧ k_ = 1 ∧ w1 = ((o, aJ cJ 1 f) :: (cW cI cZ a W D_ r sz co ro ho ac al sd lf sq hs rs ts rt_ hc li re ow tc cp ck wa qp qt qs lo sb lc cn ch sk)))) := by
  refine tk_start (by decide) rfl (Nat.le_of_ble_eq_true rfl) ?_
  intro p e s m args below meth c F htab hsp
  by_cases hv : (0 ≤ k)
  · skip
    refine tt_roF ?_
    refine tt_aload_n F 2 rfl rfl dLW_safe_0 ?_
    refine tt_iconst F dLW_safe_1 ?_
    refine tt_aload_n F 0 rfl rfl dLW_safe_2 ?_
    refine tt_iload_n F 1 rfl rfl dLW_safe_3 ?_
    refine tt_cIV F (fun h => h) (As := [.int (iZ k)]) [(o, aJ cJ 1 f)] 0 rfl rfl (c_safe (hs := hs) (rs := rs) (ts := ts) (rt_ := rt_) (hc := hc) (li := li) (re := re) (ow := ow) (tc := tc) (cp := cp) (ck := ck) (wa := wa) (qp := qp) (qt := qt) (qs := qs) (lo := lo) (sb := sb) (lc := lc) (cn := cn) (ch := ch) (sk := sk) hG hU ⟨hv, h0.2⟩) (cwV 1 F.1.2.2.2.2 (gw_V wd634 wd635 wd636 wd45 wd637) rfl rfl rfl (by decide +kernel) ⟨(Nat.le_of_ble_eq_true rfl), (Nat.le_of_ble_eq_true rfl)⟩) rfl rfl rfl (Nat.le_of_ble_eq_true rfl) ⟨(Nat.le_of_ble_eq_true rfl), (Nat.le_of_ble_eq_true rfl)⟩ dLW_safe_4 (fun z wc hp => ?_)
    refine tt_i2ln F dLW_safe_7 ?_
    refine tt_jast F (fun h => h) 0 rfl (by omega) (by omega) (by omega) dLW_safe_8 ?_
    refine tt_goto F 15 (by decide) dLW_safe_9 ?_
    refine tt_iconst F dLW_safe_15 ?_
    exact tt_iret F rfl (Nat.le_of_ble_eq_true rfl) (Nat.le_of_ble_eq_true rfl) dLW_safe_16 (Or.inl ⟨hv, rfl, z, wc, rfl, hp⟩)
  · skip
    refine tt_aload_n F 2 rfl rfl dLW_safe_0 ?_
    refine tt_iconst F dLW_safe_1 ?_
    refine tt_aload_n F 0 rfl rfl dLW_safe_2 ?_
    refine tt_iload_n F 1 rfl rfl dLW_safe_3 ?_
    refine tk_catchV F hsp (As := [.int (iZ k)]) [(o, aJ cJ 1 f)] 0 rfl rfl (x_safe (hs := hs) (rs := rs) (ts := ts) (rt_ := rt_) (hc := hc) (li := li) (re := re) (ow := ow) (tc := tc) (cp := cp) (ck := ck) (wa := wa) (qp := qp) (qt := qt) (qs := qs) (lo := lo) (sb := sb) (lc := lc) (cn := cn) (ch := ch) (sk := sk) hst hG h0 (by omega)) (cwV 1 F.1.2.2.2.2 (gw_V wd634 wd635 wd636 wd45 wd637) rfl rfl rfl (by decide +kernel) ⟨(Nat.le_of_ble_eq_true rfl), (Nat.le_of_ble_eq_true rfl)⟩) rfl rfl rfl (Nat.le_of_ble_eq_true rfl) ⟨(Nat.le_of_ble_eq_true rfl), (Nat.le_of_ble_eq_true rfl)⟩ dLW_safe_4 htab (by decide) (by decide) we480 (by simp [tnL]) (fun q => ?_)
    refine tt_astore_n F [(3, .ref q), (0, .ref (a 0)), (1, .int (iZ k)), (2, .ref o)] rfl (by decide) rfl dLW_safe_12 ?_
    refine tt_iconst F dLW_safe_13 ?_
    exact tt_iret F rfl (Nat.le_of_ble_eq_true rfl) (Nat.le_of_ble_eq_true rfl) dLW_safe_14 (Or.inr ⟨hv, rfl, rfl⟩)
abbrev rmLW_cover : Room := { frames := 9, cells := 1, slots := 6, locals := 156 }
set_option maxHeartbeats 4000000 in
set_option maxRecDepth 100000 in
theorem k_cover (hst : l.stackTraces = false) {o : Nat} {f : Int → Int} {x y : Int} (hG : GE W D_ r sz co ro ho ac al sd lf sq) (hU : PUB W D_ r hs rs ts rt_ hc re ow tc cp ck wa cn) (h0 : ir x) (h1 : ir y) : CK l D vwCl cI cZ cJ SL RRB ssL yLW_cover wsLW_cover rmLW_cover [.ref (a 0), .int (iZ x), .int (iZ y), .ref o] ((o, aJ cJ 1 f) :: (cW cI cZ a W D_ r sz co ro ho ac al sd lf sq hs rs ts rt_ hc li re ow tc cp ck wa qp qt qs lo sb lc cn ch sk)) (fun k_ w1 => (((0 ≤ x ∧ x < W) ∧ 0 ≤ y ∧ y < D_) ∧ k_ = 0 ∧ ∃ z wc, w1 = (o, aJ cJ 1 (zu f 0 (nz z))) :: wc ∧ (fun z w1 => (∃ m_, ((∀ k, 0 ≤ k → k < sz → m_ ≤ re (ho (y * W + x) + sd k) - lf k) ∧ ∃ k, 0 ≤ k ∧ k < sz ∧ m_ = re (ho (y * W + x) + sd k) - lf k) ∧ z = m_ / 1048576) ∧ w1 = (cW cI cZ a W D_ r sz co ro ho ac al sd lf sq hs rs ts rt_ hc li re ow tc cp ck wa qp qt qs lo sb lc cn ch sk)) z wc) ∨ (¬ ((0 ≤ x ∧ x < W) ∧ 0 ≤ y ∧ y < D_) ∧ k_ = 1 ∧ w1 = ((o, aJ cJ 1 f) :: (cW cI cZ a W D_ r sz co ro ho ac al sd lf sq hs rs ts rt_ hc li re ow tc cp ck wa qp qt qs lo sb lc cn ch sk)))) := by
  refine tk_start (by decide) rfl (Nat.le_of_ble_eq_true rfl) ?_
  intro p e s m args below meth c F htab hsp
  by_cases hv : ((0 ≤ x ∧ x < W) ∧ 0 ≤ y ∧ y < D_)
  · skip
    refine tt_roF ?_
    refine tt_aload_n F 3 rfl rfl dLW_cover_0 ?_
    refine tt_iconst F dLW_cover_1 ?_
    refine tt_aload_n F 0 rfl rfl dLW_cover_2 ?_
    refine tt_iload_n F 1 rfl rfl dLW_cover_3 ?_
    refine tt_iload_n F 2 rfl rfl dLW_cover_4 ?_
    refine tt_cIV F (fun h => h) (As := [.int (iZ x), .int (iZ y)]) [(o, aJ cJ 1 f)] 0 rfl rfl (c_cover (hs := hs) (rs := rs) (ts := ts) (rt_ := rt_) (hc := hc) (li := li) (re := re) (ow := ow) (tc := tc) (cp := cp) (ck := ck) (wa := wa) (qp := qp) (qt := qt) (qs := qs) (lo := lo) (sb := sb) (lc := lc) (cn := cn) (ch := ch) (sk := sk) hG hU hv) (cwV 2 F.1.2.2.2.2 (gw_V wd641 wd642 wd643 wd45 wd644) rfl rfl rfl (by decide +kernel) ⟨(Nat.le_of_ble_eq_true rfl), (Nat.le_of_ble_eq_true rfl)⟩) rfl rfl rfl (Nat.le_of_ble_eq_true rfl) ⟨(Nat.le_of_ble_eq_true rfl), (Nat.le_of_ble_eq_true rfl)⟩ dLW_cover_5 (fun z wc hp => ?_)
    refine tt_i2ln F dLW_cover_8 ?_
    refine tt_jast F (fun h => h) 0 rfl (by omega) (by omega) (by omega) dLW_cover_9 ?_
    refine tt_goto F 17 (by decide) dLW_cover_10 ?_
    refine tt_iconst F dLW_cover_17 ?_
    exact tt_iret F rfl (Nat.le_of_ble_eq_true rfl) (Nat.le_of_ble_eq_true rfl) dLW_cover_18 (Or.inl ⟨hv, rfl, z, wc, rfl, hp⟩)
  · skip
    refine tt_aload_n F 3 rfl rfl dLW_cover_0 ?_
    refine tt_iconst F dLW_cover_1 ?_
    refine tt_aload_n F 0 rfl rfl dLW_cover_2 ?_
    refine tt_iload_n F 1 rfl rfl dLW_cover_3 ?_
    refine tt_iload_n F 2 rfl rfl dLW_cover_4 ?_
    refine tk_catchV F hsp (As := [.int (iZ x), .int (iZ y)]) [(o, aJ cJ 1 f)] 0 rfl rfl (x_cover (hs := hs) (rs := rs) (ts := ts) (rt_ := rt_) (hc := hc) (li := li) (re := re) (ow := ow) (tc := tc) (cp := cp) (ck := ck) (wa := wa) (qp := qp) (qt := qt) (qs := qs) (lo := lo) (sb := sb) (lc := lc) (cn := cn) (ch := ch) (sk := sk) hst hG h0 h1 hv) (cwV 2 F.1.2.2.2.2 (gw_V wd641 wd642 wd643 wd45 wd644) rfl rfl rfl (by decide +kernel) ⟨(Nat.le_of_ble_eq_true rfl), (Nat.le_of_ble_eq_true rfl)⟩) rfl rfl rfl (Nat.le_of_ble_eq_true rfl) ⟨(Nat.le_of_ble_eq_true rfl), (Nat.le_of_ble_eq_true rfl)⟩ dLW_cover_5 htab (by decide) (by decide) we480 (by simp [tnL]) (fun q => ?_)
    refine tt_astore F [(4, .ref q), (0, .ref (a 0)), (1, .int (iZ x)), (2, .int (iZ y)), (3, .ref o)] (by decide) rfl dLW_cover_13 ?_
    refine tt_iconst F dLW_cover_15 ?_
    exact tt_iret F rfl (Nat.le_of_ble_eq_true rfl) (Nat.le_of_ble_eq_true rfl) dLW_cover_16 (Or.inr ⟨hv, rfl, rfl⟩)
abbrev rmLW_may : Room := { frames := 9, cells := 1, slots := 6, locals := 158 }
set_option maxHeartbeats 4000000 in
set_option maxRecDepth 100000 in
theorem k_may (hst : l.stackTraces = false) {o : Nat} {f : Int → Int} {x y v_ : Int} (hG : GE W D_ r sz co ro ho ac al sd lf sq) (hU : PUB W D_ r hs rs ts rt_ hc re ow tc cp ck wa cn) (h0 : ir x) (h1 : ir y) (h2 : ir v_) : CK l D vwCl cI cZ cJ SL RRB ssL yLW_may wsLW_may rmLW_may [.ref (a 0), .int (iZ x), .int (iZ y), .int (iZ v_), .ref o] ((o, aJ cJ 1 f) :: (cW cI cZ a W D_ r sz co ro ho ac al sd lf sq hs rs ts rt_ hc li re ow tc cp ck wa qp qt qs lo sb lc cn ch sk)) (fun k_ w1 => (((((0 ≤ x ∧ x < W) ∧ 0 ≤ y ∧ y < D_) ∧ 1 ≤ v_ ∧ v_ ≤ 50) ∧ cn < 4) ∧ k_ = 0 ∧ ∃ z wc, w1 = (o, aJ cJ 1 (zu f 0 (nz z))) :: wc ∧ (fun z w1 => (z = cn + 1 ∧ w1 = (cW cI cZ a W D_ r sz co ro ho ac al sd lf sq hs rs ts rt_ hc li re ow tc (zu cp cn (y * W + x)) (zu ck cn v_) wa qp qt qs lo sb lc (cn + 1) ch sk)) ∧ PUB W D_ r hs rs ts rt_ hc re ow tc (zu cp cn (y * W + x)) (zu ck cn v_) wa (cn + 1)) z wc) ∨ (¬ (((0 ≤ x ∧ x < W) ∧ 0 ≤ y ∧ y < D_) ∧ 1 ≤ v_ ∧ v_ ≤ 50) ∧ k_ = 1 ∧ w1 = ((o, aJ cJ 1 f) :: (cW cI cZ a W D_ r sz co ro ho ac al sd lf sq hs rs ts rt_ hc li re ow tc cp ck wa qp qt qs lo sb lc cn ch sk))) ∨ (((((0 ≤ x ∧ x < W) ∧ 0 ≤ y ∧ y < D_) ∧ 1 ≤ v_ ∧ v_ ≤ 50) ∧ cn = 4) ∧ k_ = 2 ∧ w1 = ((o, aJ cJ 1 f) :: (cW cI cZ a W D_ r sz co ro ho ac al sd lf sq hs rs ts rt_ hc li re ow tc cp ck wa qp qt qs lo sb lc cn ch sk)))) := by
  refine tk_start (by decide) rfl (Nat.le_of_ble_eq_true rfl) ?_
  intro p e s m args below meth c F htab hsp
  by_cases hv : (((0 ≤ x ∧ x < W) ∧ 0 ≤ y ∧ y < D_) ∧ 1 ≤ v_ ∧ v_ ≤ 50)
  · skip
    by_cases h4 : cn < 4
    · skip
      refine tt_roF ?_
      refine tt_aload F 4 rfl dLW_may_0 ?_
      refine tt_iconst F dLW_may_2 ?_
      refine tt_aload_n F 0 rfl rfl dLW_may_3 ?_
      refine tt_iload_n F 1 rfl rfl dLW_may_4 ?_
      refine tt_iload_n F 2 rfl rfl dLW_may_5 ?_
      refine tt_iload_n F 3 rfl rfl dLW_may_6 ?_
      refine tt_cIV F (fun h => h) (As := [.int (iZ x), .int (iZ y), .int (iZ v_)]) [(o, aJ cJ 1 f)] 0 rfl rfl (c_may (hs := hs) (rs := rs) (ts := ts) (rt_ := rt_) (hc := hc) (li := li) (re := re) (ow := ow) (tc := tc) (cp := cp) (ck := ck) (wa := wa) (qp := qp) (qt := qt) (qs := qs) (lo := lo) (sb := sb) (lc := lc) (cn := cn) (ch := ch) (sk := sk) hG hU hv.1 hv.2 h4) (cwV 3 F.1.2.2.2.2 (gw_V wd654 wd655 wd656 wd45 wd657) rfl rfl rfl (by decide +kernel) ⟨(Nat.le_of_ble_eq_true rfl), (Nat.le_of_ble_eq_true rfl)⟩) rfl rfl rfl (Nat.le_of_ble_eq_true rfl) ⟨(Nat.le_of_ble_eq_true rfl), (Nat.le_of_ble_eq_true rfl)⟩ dLW_may_7 (fun z wc hp => ?_)
      refine tt_i2ln F dLW_may_10 ?_
      refine tt_jast F (fun h => h) 0 rfl (by omega) (by omega) (by omega) dLW_may_11 ?_
      refine tt_goto F 23 (by decide) dLW_may_12 ?_
      refine tt_iconst F dLW_may_23 ?_
      exact tt_iret F rfl (Nat.le_of_ble_eq_true rfl) (Nat.le_of_ble_eq_true rfl) dLW_may_24 (Or.inl ⟨⟨hv, h4⟩, rfl, z, wc, rfl, hp⟩)
    · skip
      have h5 : cn = 4 := by have := hU.2.2.2.1; omega
      refine tt_aload F 4 rfl dLW_may_0 ?_
      refine tt_iconst F dLW_may_2 ?_
      refine tt_aload_n F 0 rfl rfl dLW_may_3 ?_
      refine tt_iload_n F 1 rfl rfl dLW_may_4 ?_
      refine tt_iload_n F 2 rfl rfl dLW_may_5 ?_
      refine tt_iload_n F 3 rfl rfl dLW_may_6 ?_
      refine tk_catchV2 F hsp (As := [.int (iZ x), .int (iZ y), .int (iZ v_)]) [(o, aJ cJ 1 f)] 0 rfl rfl (y_may (hs := hs) (rs := rs) (ts := ts) (rt_ := rt_) (hc := hc) (li := li) (re := re) (ow := ow) (tc := tc) (cp := cp) (ck := ck) (wa := wa) (qp := qp) (qt := qt) (qs := qs) (lo := lo) (sb := sb) (lc := lc) (cn := cn) (ch := ch) (sk := sk) hst hG hv.1 hv.2 h5) (cwV 3 F.1.2.2.2.2 (gw_V wd654 wd655 wd656 wd45 wd657) rfl rfl rfl (by decide +kernel) ⟨(Nat.le_of_ble_eq_true rfl), (Nat.le_of_ble_eq_true rfl)⟩) rfl rfl rfl (Nat.le_of_ble_eq_true rfl) ⟨(Nat.le_of_ble_eq_true rfl), (Nat.le_of_ble_eq_true rfl)⟩ dLW_may_7 htab (by decide) (by decide) we480 (by decide) (by decide) we653 (by simp [tnL]) (fun q => ?_)
      refine tt_astore F [(5, .ref q), (0, .ref (a 0)), (1, .int (iZ x)), (2, .int (iZ y)), (3, .int (iZ v_)), (4, .ref o)] (by decide) rfl dLW_may_19 ?_
      refine tt_iconst F dLW_may_21 ?_
      exact tt_iret F rfl (Nat.le_of_ble_eq_true rfl) (Nat.le_of_ble_eq_true rfl) dLW_may_22 (Or.inr (Or.inr ⟨⟨hv, h5⟩, rfl, rfl⟩))
  · skip
    refine tt_aload F 4 rfl dLW_may_0 ?_
    refine tt_iconst F dLW_may_2 ?_
    refine tt_aload_n F 0 rfl rfl dLW_may_3 ?_
    refine tt_iload_n F 1 rfl rfl dLW_may_4 ?_
    refine tt_iload_n F 2 rfl rfl dLW_may_5 ?_
    refine tt_iload_n F 3 rfl rfl dLW_may_6 ?_
    refine tk_catchV F hsp (As := [.int (iZ x), .int (iZ y), .int (iZ v_)]) [(o, aJ cJ 1 f)] 0 rfl rfl (x_may (hs := hs) (rs := rs) (ts := ts) (rt_ := rt_) (hc := hc) (li := li) (re := re) (ow := ow) (tc := tc) (cp := cp) (ck := ck) (wa := wa) (qp := qp) (qt := qt) (qs := qs) (lo := lo) (sb := sb) (lc := lc) (cn := cn) (ch := ch) (sk := sk) hst hG h0 h1 h2 hv) (cwV 3 F.1.2.2.2.2 (gw_V wd654 wd655 wd656 wd45 wd657) rfl rfl rfl (by decide +kernel) ⟨(Nat.le_of_ble_eq_true rfl), (Nat.le_of_ble_eq_true rfl)⟩) rfl rfl rfl (Nat.le_of_ble_eq_true rfl) ⟨(Nat.le_of_ble_eq_true rfl), (Nat.le_of_ble_eq_true rfl)⟩ dLW_may_7 htab (by decide) (by decide) we480 (by simp [tnL]) (fun q => ?_)
    refine tt_astore F [(5, .ref q), (0, .ref (a 0)), (1, .int (iZ x)), (2, .int (iZ y)), (3, .int (iZ v_)), (4, .ref o)] (by decide) rfl dLW_may_15 ?_
    refine tt_iconst F dLW_may_17 ?_
    exact tt_iret F rfl (Nat.le_of_ble_eq_true rfl) (Nat.le_of_ble_eq_true rfl) dLW_may_18 (Or.inr (Or.inl ⟨hv, rfl, rfl⟩))
abbrev rmLW_want : Room := { frames := 9, cells := 1, slots := 6, locals := 159 }
set_option maxHeartbeats 4000000 in
set_option maxRecDepth 100000 in
theorem k_want (hst : l.stackTraces = false) {o : Nat} {f : Int → Int} {x y on : Int} (hG : GE W D_ r sz co ro ho ac al sd lf sq) (hU : PUB W D_ r hs rs ts rt_ hc re ow tc cp ck wa cn) (h0 : ir x) (h1 : ir y) (h2 : ir on) (hon : on = 0 ∨ on = 1) : CK l D vwCl cI cZ cJ SL RRB ssL yLW_want wsLW_want rmLW_want [.ref (a 0), .int (iZ x), .int (iZ y), .int (iZ on), .ref o] ((o, aJ cJ 1 f) :: (cW cI cZ a W D_ r sz co ro ho ac al sd lf sq hs rs ts rt_ hc li re ow tc cp ck wa qp qt qs lo sb lc cn ch sk)) (fun k_ w1 => (((0 ≤ x ∧ x < W) ∧ 0 ≤ y ∧ y < D_) ∧ k_ = 0 ∧ ∃ z wc, w1 = (o, aJ cJ 1 (zu f 0 (nz z))) :: wc ∧ (fun z w1 => (z = wa (y * W + x) ∧ w1 = (cW cI cZ a W D_ r sz co ro ho ac al sd lf sq hs rs ts rt_ hc li re ow tc cp ck (zu wa (y * W + x) on) qp qt qs lo sb lc cn ch sk)) ∧ PUB W D_ r hs rs ts rt_ hc re ow tc cp ck (zu wa (y * W + x) on) cn) z wc) ∨ (¬ ((0 ≤ x ∧ x < W) ∧ 0 ≤ y ∧ y < D_) ∧ k_ = 1 ∧ w1 = ((o, aJ cJ 1 f) :: (cW cI cZ a W D_ r sz co ro ho ac al sd lf sq hs rs ts rt_ hc li re ow tc cp ck wa qp qt qs lo sb lc cn ch sk)))) := by
  refine tk_start (by decide) rfl (Nat.le_of_ble_eq_true rfl) ?_
  intro p e s m args below meth c F htab hsp
  by_cases hv : ((0 ≤ x ∧ x < W) ∧ 0 ≤ y ∧ y < D_)
  · skip
    refine tt_roF ?_
    refine tt_aload F 4 rfl dLW_want_0 ?_
    refine tt_iconst F dLW_want_2 ?_
    refine tt_aload_n F 0 rfl rfl dLW_want_3 ?_
    refine tt_iload_n F 1 rfl rfl dLW_want_4 ?_
    refine tt_iload_n F 2 rfl rfl dLW_want_5 ?_
    refine tt_iload_n F 3 rfl rfl dLW_want_6 ?_
    refine tt_cIV F (fun h => h) (As := [.int (iZ x), .int (iZ y), .int (iZ on)]) [(o, aJ cJ 1 f)] 0 rfl rfl (c_want (hs := hs) (rs := rs) (ts := ts) (rt_ := rt_) (hc := hc) (li := li) (re := re) (ow := ow) (tc := tc) (cp := cp) (ck := ck) (wa := wa) (qp := qp) (qt := qt) (qs := qs) (lo := lo) (sb := sb) (lc := lc) (cn := cn) (ch := ch) (sk := sk) hG hU hv hon) (cwV 3 F.1.2.2.2.2 (gw_V wd685 wd686 wd687 wd45 wd688) rfl rfl rfl (by decide +kernel) ⟨(Nat.le_of_ble_eq_true rfl), (Nat.le_of_ble_eq_true rfl)⟩) rfl rfl rfl (Nat.le_of_ble_eq_true rfl) ⟨(Nat.le_of_ble_eq_true rfl), (Nat.le_of_ble_eq_true rfl)⟩ dLW_want_7 (fun z wc hp => ?_)
    have hz01 : z = 0 ∨ z = 1 := by have b := ix_b (D := D_) hv.1.1 hv.1.2 hv.2.1 hv.2.2; have := hU.2.2.2.2.2 _ b.1 b.2; have := hp.1.1; omega
    refine tt_if_eq F 17 ⟨by omega, by omega⟩ dLW_want_10 (by decide) (fun c10 => ?_) (fun c10 => ?_)
    · skip
      have hz1 : nz z = 0 := by rw [c10]; decide
      refine tt_lconst F (z := 0) (by decide) dLW_want_17 ?_
      refine tt_jast F (fun h => h) 0 rfl (by omega) (by omega) (by omega) dLW_want_18 ?_
      refine tt_goto F 26 (by decide) dLW_want_19 ?_
      refine tt_iconst F dLW_want_26 ?_
      exact tt_iret F rfl (Nat.le_of_ble_eq_true rfl) (Nat.le_of_ble_eq_true rfl) dLW_want_27 (Or.inl ⟨hv, rfl, z, wc, by rw [hz1]; rfl, hp⟩)
    · skip
      have hz1 : nz z = 1 := by rw [show z = 1 by omega]; decide
      refine tt_lconst F (z := 1) (by decide) dLW_want_13 ?_
      refine tt_goto F 18 (by decide) dLW_want_14 ?_
      refine tt_jast F (fun h => h) 0 rfl (by omega) (by omega) (by omega) dLW_want_18 ?_
      refine tt_goto F 26 (by decide) dLW_want_19 ?_
      refine tt_iconst F dLW_want_26 ?_
      exact tt_iret F rfl (Nat.le_of_ble_eq_true rfl) (Nat.le_of_ble_eq_true rfl) dLW_want_27 (Or.inl ⟨hv, rfl, z, wc, by rw [hz1]; rfl, hp⟩)
  · skip
    refine tt_aload F 4 rfl dLW_want_0 ?_
    refine tt_iconst F dLW_want_2 ?_
    refine tt_aload_n F 0 rfl rfl dLW_want_3 ?_
    refine tt_iload_n F 1 rfl rfl dLW_want_4 ?_
    refine tt_iload_n F 2 rfl rfl dLW_want_5 ?_
    refine tt_iload_n F 3 rfl rfl dLW_want_6 ?_
    refine tk_catchV F hsp (As := [.int (iZ x), .int (iZ y), .int (iZ on)]) [(o, aJ cJ 1 f)] 0 rfl rfl (x_want (hs := hs) (rs := rs) (ts := ts) (rt_ := rt_) (hc := hc) (li := li) (re := re) (ow := ow) (tc := tc) (cp := cp) (ck := ck) (wa := wa) (qp := qp) (qt := qt) (qs := qs) (lo := lo) (sb := sb) (lc := lc) (cn := cn) (ch := ch) (sk := sk) hst hG h0 h1 hv) (cwV 3 F.1.2.2.2.2 (gw_V wd685 wd686 wd687 wd45 wd688) rfl rfl rfl (by decide +kernel) ⟨(Nat.le_of_ble_eq_true rfl), (Nat.le_of_ble_eq_true rfl)⟩) rfl rfl rfl (Nat.le_of_ble_eq_true rfl) ⟨(Nat.le_of_ble_eq_true rfl), (Nat.le_of_ble_eq_true rfl)⟩ dLW_want_7 htab (by decide) (by decide) we480 (by simp [tnL]) (fun q => ?_)
    refine tt_astore F [(5, .ref q), (0, .ref (a 0)), (1, .int (iZ x)), (2, .int (iZ y)), (3, .int (iZ on)), (4, .ref o)] (by decide) rfl dLW_want_22 ?_
    refine tt_iconst F dLW_want_24 ?_
    exact tt_iret F rfl (Nat.le_of_ble_eq_true rfl) (Nat.le_of_ble_eq_true rfl) dLW_want_25 (Or.inr ⟨hv, rfl, rfl⟩)
abbrev rmLW_cell : Room := { frames := 0, cells := 0, slots := 0, locals := 0 }
set_option maxHeartbeats 4000000 in
set_option maxRecDepth 100000 in
theorem k_cell {b L : Nat} {xs : Nat → Int32} {k : Int} (hL : L ≤ 2563) (hk : 0 ≤ k ∧ k ≤ 10) : CS l D vwCl cI cZ cJ SL yLW_cell wsLW_cell rmLW_cell [.ref b, .int (iZ k)] b L xs (fun v => v = some (.int (iZ (if k < L then scv xs k else 0)))) := by
  refine tk_startS (by decide) rfl (Nat.le_of_ble_eq_true rfl) ?_
  intro p e s m args below meth c F hX
  have hbl : b < s.heap.size := by obtain ⟨_, h, -⟩ := hX; exact (Array.getElem?_eq_some_iff.mp h).1
  have hbA : ¬ va_A [] s.heap.size b := fun h => h.elim (fun h => by obtain ⟨k, q, hk⟩ := h; simp at hk) (fun h => absurd hbl (Nat.not_lt.mpr h))
  refine tt_iload_n F 1 rfl rfl dLW_cell_0 ?_
  refine tt_aload_n F 0 rfl rfl dLW_cell_1 ?_
  refine tt_slen F hX hbl hbA dLW_cell_2 ?_
  refine tt_icmp_ge F 12 ⟨by omega, by omega⟩ ⟨by omega, by omega⟩ dLW_cell_3 (by decide) (fun c3 => ?_) (fun c3 => ?_)
  · skip
    refine tt_iconst F dLW_cell_12 ?_
    exact tt_iretO F rfl dLW_cell_13 (by rw [if_neg (by omega)])
  · skip
    refine tt_aload_n F 0 rfl rfl dLW_cell_6 ?_
    refine tt_iload_n F 1 rfl rfl dLW_cell_7 ?_
    refine tt_sld F hX hbl hbA (by omega) (by omega) (by omega) dLW_cell_8 ?_
    refine tt_goto F 13 (by decide) dLW_cell_9 ?_
    exact tt_iretO F rfl dLW_cell_13 (by rw [if_pos (by omega)])
end LAW1
