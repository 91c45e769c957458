section CL
variable {p : Program} {l : Launch} {e : Env} {s : State} {m : MethodId} {args : Array Value} {below : List Frame} {meth : Method} {c : Code} {Q : State → Prop} {D : va_G} {cI cZ cJ : ClassId} {SL : List zS} {A : Nat → Prop} {a : Nat → Nat} {W D_ r sz : Int} {co ro ho ac al sd lf sq : Int → Int} {hs rs ts rt_ hc li re ow tc cp ck wa qp qt qs lo sb : Int → Int} {lc cn ch sk : Int}
abbrev rmRB_may : Room := { frames := 2, cells := 0, slots := 0, locals := 44 }
theorem pub_may {W D_ r cn q v : Int} {hs rs ts rt_ hc re ow tc cp ck wa : Int → Int} (h : PUB W D_ r hs rs ts rt_ hc re ow tc cp ck wa cn) (h4 : cn < 4) (hq : 0 ≤ q ∧ q < W * D_) (hv : 1 ≤ v ∧ v ≤ 50) : PUB W D_ r hs rs ts rt_ hc re ow tc (zu cp cn q) (zu ck cn v) wa (cn + 1) := by
  obtain ⟨h1, h2, h3, h5, h6, h7⟩ := h
  refine ⟨h1, h2, h3, by omega, fun j j0 j1 => ?_, h7⟩
  by_cases e : j = cn
  · subst e; rw [zu_s, zu_s]; omega
  · rw [zu_n _ _ e, zu_n _ _ e]; exact h6 j j0 (by omega)
theorem pub_0 {W D_ r cn : Int} {hs rs ts rt_ hc re ow tc cp ck wa : Int → Int} (h : PUB W D_ r hs rs ts rt_ hc re ow tc cp ck wa cn) : PUB W D_ r hs rs ts rt_ hc re ow tc cp ck wa 0 :=
  ⟨h.1, h.2.1, h.2.2.1, by omega, fun j j0 j1 => by omega, h.2.2.2.2.2⟩
theorem pub_w {W D_ r cn q v : Int} {hs rs ts rt_ hc re ow tc cp ck wa : Int → Int} (h : PUB W D_ r hs rs ts rt_ hc re ow tc cp ck wa cn) (hv : v = 0 ∨ v = 1) : PUB W D_ r hs rs ts rt_ hc re ow tc cp ck (zu wa q v) cn :=
  ⟨h.1, h.2.1, h.2.2.1, h.2.2.2.1, h.2.2.2.2.1, fun p p0 p1 => if e : p = q then (by rw [e, zu_s]; exact hv) else (by rw [zu_n _ _ e]; exact h.2.2.2.2.2 p p0 p1)⟩
set_option maxHeartbeats 4000000 in
set_option maxRecDepth 100000 in
theorem c_may {x y v_ : Int} (hG : GE W D_ r sz co ro ho ac al sd lf sq) (hU : PUB W D_ r hs rs ts rt_ hc re ow tc cp ck wa cn) (hp : (0 ≤ x ∧ x < W) ∧ 0 ≤ y ∧ y < D_) (hh : 1 ≤ v_ ∧ v_ ≤ 50) (h4 : cn < 4) : CI l D vwCl cI cZ cJ SL yRB_may wsRB_may rmRB_may [.ref (a 0), .int (iZ x), .int (iZ y), .int (iZ v_)] (cW cI cZ a W D_ r sz co ro ho ac al sd lf sq hs rs ts rt_ hc li re ow tc cp ck wa qp qt qs lo sb lc cn ch sk) (fun z w1 => (z = cn + 1 ∧ w1 = (cW cI cZ a W D_ r sz co ro ho ac al sd lf sq hs rs ts rt_ hc li re ow tc (zu cp cn (y * W + x)) (zu ck cn v_) wa qp qt qs lo sb lc (cn + 1) ch sk)) ∧ PUB W D_ r hs rs ts rt_ hc re ow tc (zu cp cn (y * W + x)) (zu ck cn v_) wa (cn + 1)) := by
  refine tt_startI (by decide) rfl (Nat.le_of_ble_eq_true rfl) ?_
  intro p e s m args below meth c hnm F
  obtain ⟨⟨hW1, hW2, hD1, hD2, hr1, hr2⟩, hGp, hGs, hGk, hGx, hGi, hGm, hGq⟩ := id hG
  have hWD := wd_b hW1 hW2 hD1 hD2
  have hPL := pl_b hW1 hW2 hD1 hD2 hr1 hr2
  have hSQ := sd_b hr1 hr2
  have hts := pub_ts hU
  have hrt := hU.2.2.1
  have hB := hU.1
  have hcn := hU.2.2.2.1
  have hcp := hU.2.2.2.2.1
  have hwa := hU.2.2.2.2.2
  have hre := pub_re hG hU
  have hhc := pub_hc hG hU
  have hhs : ∀ p, 0 ≤ p → p < W * D_ → 0 ≤ hs p ∧ hs p ≤ 200 := fun p h1 h2 => (hU.2.1 p h1 h2).2.1
  have hqb := ix_b (i := x) (j := y) (W := W) (D := D_) (by omega) (by omega) (by omega) (by omega)
  refine tt_aload_n F 0 rfl rfl dRB_may_0 ?_
  refine tt_iload_n F 1 rfl rfl dRB_may_1 ?_
  refine tt_iload_n F 2 rfl rfl dRB_may_2 ?_
  refine tt_cOV F (As := [.int (iZ x), .int (iZ y)]) [] 0 rfl rfl (o_pointAt (hs := hs) (rs := rs) (ts := ts) (rt_ := rt_) (hc := hc) (li := li) (re := re) (ow := ow) (tc := tc) (cp := cp) (ck := ck) (wa := wa) (qp := qp) (qt := qt) (qs := qs) (lo := lo) (sb := sb) (lc := lc) (cn := cn) (ch := ch) (sk := sk) (x := x) (y := y) hG (by omega)) (cwV 2 F.1.2.2.2.2 (gw_V wd485 wd487 wd25 wd45 wd488) rfl rfl rfl (by decide +kernel) ⟨(Nat.le_of_ble_eq_true rfl), (Nat.le_of_ble_eq_true rfl)⟩) rfl rfl rfl (Nat.le_of_ble_eq_true rfl) ⟨(Nat.le_of_ble_eq_true rfl), (Nat.le_of_ble_eq_true rfl)⟩ dRB_may_3 (fun v3 hp => ?_)
  obtain rfl := hp
  refine tt_istore F [(4, .int (iZ (y * W + x))), (0, .ref (a 0)), (1, .int (iZ x)), (2, .int (iZ y)), (3, .int (iZ v_))] (by decide) rfl dRB_may_6 ?_
  refine tt_iload_n F 4 rfl rfl dRB_may_8 ?_
  refine tt_iconst F dRB_may_9 ?_
  refine tt_bipush F (by decide) dRB_may_10 ?_
  refine tt_cOS F (As := [.int (iZ v_), .int (iZ 1), .int (iZ 50)]) [] (o_needNumber (w0 := (cW cI cZ a W D_ r sz co ro ho ac al sd lf sq hs rs ts rt_ hc li re ow tc cp ck wa qp qt qs lo sb lc cn ch sk)) (z := v_) (a_ := 1) (b_ := 50) ⟨by omega, by omega⟩ ⟨by omega, by omega⟩ ⟨by omega, by omega⟩ (by omega)) (va_cwS 3 F.1.2.2.2.2 (gw_S wd489 wd490 wd45 wd491) rfl rfl rfl (by decide +kernel) ⟨(Nat.le_of_ble_eq_true rfl), (Nat.le_of_ble_eq_true rfl)⟩) rfl rfl rfl (Nat.le_of_ble_eq_true rfl) ⟨(Nat.le_of_ble_eq_true rfl), (Nat.le_of_ble_eq_true rfl)⟩ dRB_may_12 (fun v12 hp => ?_)
  obtain rfl := hp
  refine tt_aload_n F 1 rfl rfl dRB_may_15 ?_
  refine tt_get F inRB 0 rfl rfl 5 (by decide) we291 rfl dRB_may_16 ?_
  refine tt_cOV F (As := []) [] 21 rfl rfl (o_isFull (hs := hs) (rs := rs) (ts := ts) (rt_ := rt_) (hc := hc) (li := li) (re := re) (ow := ow) (tc := tc) (cp := cp) (ck := ck) (wa := wa) (qp := qp) (qt := qt) (qs := qs) (lo := lo) (sb := sb) (lc := lc) (cn := cn) (ch := ch) (sk := sk) hcn) (cwV 0 F.1.2.2.2.2 (gw_V wd658 wd659 wd660 wd52 wd661) rfl rfl rfl (by decide +kernel) ⟨(Nat.le_of_ble_eq_true rfl), (Nat.le_of_ble_eq_true rfl)⟩) rfl rfl rfl (Nat.le_of_ble_eq_true rfl) ⟨(Nat.le_of_ble_eq_true rfl), (Nat.le_of_ble_eq_true rfl)⟩ dRB_may_19 (fun v19 hp => ?_)
  obtain ⟨z19, rfl, hz19⟩ := hp
  refine tt_if_eq F 35 ⟨by omega, by omega⟩ dRB_may_22 (by decide) (fun c22 => ?_) (fun c22 => ?_)
  · skip
    refine tt_aload_n F 1 rfl rfl dRB_may_35 ?_
    refine tt_get F inRB 0 rfl rfl 5 (by decide) we291 rfl dRB_may_36 ?_
    refine tt_iload F 0 rfl dRB_may_39 ?_
    refine tt_iload_n F 4 rfl rfl dRB_may_41 ?_
    refine tt_cVV0 F (fun h => h) (As := [.int (iZ (y * W + x)), .int (iZ v_)]) 21 rfl rfl (c_add (hs := hs) (rs := rs) (ts := ts) (rt_ := rt_) (hc := hc) (li := li) (re := re) (ow := ow) (tc := tc) (cp := cp) (ck := ck) (wa := wa) (qp := qp) (qt := qt) (qs := qs) (lo := lo) (sb := sb) (lc := lc) (cn := cn) (ch := ch) (sk := sk) (q := y * W + x) (v := v_) hcn (by omega)) (cwV 2 F.1.2.2.2.2 (gw_V wd678 wd679 wd680 wd52 wd681) rfl rfl rfl (by decide +kernel) ⟨(Nat.le_of_ble_eq_true rfl), (Nat.le_of_ble_eq_true rfl)⟩) rfl rfl rfl (Nat.le_of_ble_eq_true rfl) ⟨(Nat.le_of_ble_eq_true rfl), (Nat.le_of_ble_eq_true rfl)⟩ dRB_may_42 (fun w1 hp => ?_)
    obtain rfl := hp
    refine tt_aload_n F 1 rfl rfl dRB_may_45 ?_
    refine tt_get F inRB 0 rfl rfl 5 (by decide) we291 rfl dRB_may_46 ?_
    refine tt_get F inPL 21 rfl rfl 2 (by decide) we249 rfl dRB_may_49 ?_
    exact tt_iret F rfl (Nat.le_of_ble_eq_true rfl) (Nat.le_of_ble_eq_true rfl) dRB_may_52 ⟨⟨rfl, rfl⟩, pub_may hU h4 hqb hh⟩
  · skip
    omega
abbrev rmTRB_may : Room := { frames := 8, cells := 1, slots := 6, locals := 134 }
set_option maxHeartbeats 4000000 in
set_option maxRecDepth 100000 in
theorem x_may (hst : l.stackTraces = false) {x y v_ : Int} (hG : GE W D_ r sz co ro ho ac al sd lf sq) (hx0 : ir x) (hy0 : ir y) (hh0 : ir v_) (h : ¬ (((0 ≤ x ∧ x < W) ∧ 0 ≤ y ∧ y < D_) ∧ 1 ≤ v_ ∧ v_ ≤ 50)) : CY l D vwCl cI cZ cJ SL RRB ssL yRB_may wsRB_may rmTRB_may [.ref (a 0), .int (iZ x), .int (iZ y), .int (iZ v_)] (cW cI cZ a W D_ r sz co ro ho ac al sd lf sq hs rs ts rt_ hc li re ow tc cp ck wa qp qt qs lo sb lc cn ch sk) IAE := by
  refine ts_start (by decide) rfl (Nat.le_of_ble_eq_true rfl) ?_
  intro p e s m args below meth c F hex hsp
  obtain ⟨⟨hW1, hW2, hD1, hD2, hr1, hr2⟩, hGp, hGs, hGk, hGx, hGi, hGm, hGq⟩ := id hG
  have hWD := wd_b hW1 hW2 hD1 hD2
  have hPL := pl_b hW1 hW2 hD1 hD2 hr1 hr2
  have hSQ := sd_b hr1 hr2
  by_cases hx : (0 ≤ x ∧ x < W) ∧ 0 ≤ y ∧ y < D_
  · skip
    refine tt_aload_n F 0 rfl rfl dRB_may_0 ?_
    refine tt_iload_n F 1 rfl rfl dRB_may_1 ?_
    refine tt_iload_n F 2 rfl rfl dRB_may_2 ?_
    refine tt_cOV F (As := [.int (iZ x), .int (iZ y)]) [] 0 rfl rfl (o_pointAt (hs := hs) (rs := rs) (ts := ts) (rt_ := rt_) (hc := hc) (li := li) (re := re) (ow := ow) (tc := tc) (cp := cp) (ck := ck) (wa := wa) (qp := qp) (qt := qt) (qs := qs) (lo := lo) (sb := sb) (lc := lc) (cn := cn) (ch := ch) (sk := sk) (x := x) (y := y) hG (by omega)) (cwV 2 F.1.2.2.2.2 (gw_V wd485 wd487 wd25 wd45 wd488) rfl rfl rfl (by decide +kernel) ⟨(Nat.le_of_ble_eq_true rfl), (Nat.le_of_ble_eq_true rfl)⟩) rfl rfl rfl (Nat.le_of_ble_eq_true rfl) ⟨(Nat.le_of_ble_eq_true rfl), (Nat.le_of_ble_eq_true rfl)⟩ dRB_may_3 (fun v3 hp => ?_)
    obtain rfl := hp
    refine tt_istore F [(4, .int (iZ (y * W + x))), (0, .ref (a 0)), (1, .int (iZ x)), (2, .int (iZ y)), (3, .int (iZ v_))] (by decide) rfl dRB_may_6 ?_
    refine tt_iload_n F 4 rfl rfl dRB_may_8 ?_
    refine tt_iconst F dRB_may_9 ?_
    refine tt_bipush F (by decide) dRB_may_10 ?_
    exact ts_outS F hex hsp (As := [.int (iZ v_), .int (iZ 1), .int (iZ 50)]) [] (x_needNumber hst (w0 := (cW cI cZ a W D_ r sz co ro ho ac al sd lf sq hs rs ts rt_ hc li re ow tc cp ck wa qp qt qs lo sb lc cn ch sk)) (z := v_) (a_ := 1) (b_ := 50) ⟨by omega, by omega⟩ ⟨by omega, by omega⟩ ⟨by omega, by omega⟩ (by omega)) (va_cwS 3 F.1.2.2.2.2 (gw_S wd489 wd490 wd45 wd491) rfl rfl rfl (by decide +kernel) ⟨(Nat.le_of_ble_eq_true rfl), (Nat.le_of_ble_eq_true rfl)⟩) rfl rfl rfl (Nat.le_of_ble_eq_true rfl) ⟨(Nat.le_of_ble_eq_true rfl), (Nat.le_of_ble_eq_true rfl)⟩ dRB_may_12
  · skip
    refine tt_aload_n F 0 rfl rfl dRB_may_0 ?_
    refine tt_iload_n F 1 rfl rfl dRB_may_1 ?_
    refine tt_iload_n F 2 rfl rfl dRB_may_2 ?_
    exact ts_outV F hex hsp (As := [.int (iZ x), .int (iZ y)]) [] 0 rfl rfl (x_pointAt hst (hs := hs) (rs := rs) (ts := ts) (rt_ := rt_) (hc := hc) (li := li) (re := re) (ow := ow) (tc := tc) (cp := cp) (ck := ck) (wa := wa) (qp := qp) (qt := qt) (qs := qs) (lo := lo) (sb := sb) (lc := lc) (cn := cn) (ch := ch) (sk := sk) (x := x) (y := y) hG ⟨by omega, by omega⟩ ⟨by omega, by omega⟩ (by omega)) (cwV 2 F.1.2.2.2.2 (gw_V wd485 wd487 wd25 wd45 wd488) rfl rfl rfl (by decide +kernel) ⟨(Nat.le_of_ble_eq_true rfl), (Nat.le_of_ble_eq_true rfl)⟩) rfl rfl rfl (Nat.le_of_ble_eq_true rfl) ⟨(Nat.le_of_ble_eq_true rfl), (Nat.le_of_ble_eq_true rfl)⟩ dRB_may_3
abbrev rmTRB_mays : Room := { frames := 8, cells := 1, slots := 6, locals := 134 }
set_option maxHeartbeats 4000000 in
set_option maxRecDepth 100000 in
theorem y_may (hst : l.stackTraces = false) {x y v_ : Int} (hG : GE W D_ r sz co ro ho ac al sd lf sq) (hp : (0 ≤ x ∧ x < W) ∧ 0 ≤ y ∧ y < D_) (hh : 1 ≤ v_ ∧ v_ ≤ 50) (h4 : cn = 4) : CY l D vwCl cI cZ cJ SL RRB ssL yRB_may wsRB_may rmTRB_mays [.ref (a 0), .int (iZ x), .int (iZ y), .int (iZ v_)] (cW cI cZ a W D_ r sz co ro ho ac al sd lf sq hs rs ts rt_ hc li re ow tc cp ck wa qp qt qs lo sb lc cn ch sk) ISE := by
  refine ts_start (by decide) rfl (Nat.le_of_ble_eq_true rfl) ?_
  intro p e s m args below meth c F hex hsp
  obtain ⟨⟨hW1, hW2, hD1, hD2, hr1, hr2⟩, hGp, hGs, hGk, hGx, hGi, hGm, hGq⟩ := id hG
  have hWD := wd_b hW1 hW2 hD1 hD2
  have hPL := pl_b hW1 hW2 hD1 hD2 hr1 hr2
  have hSQ := sd_b hr1 hr2
  have hcn : 0 ≤ cn ∧ cn ≤ 4 := by omega
  refine tt_aload_n F 0 rfl rfl dRB_may_0 ?_
  refine tt_iload_n F 1 rfl rfl dRB_may_1 ?_
  refine tt_iload_n F 2 rfl rfl dRB_may_2 ?_
  refine tt_cOV F (As := [.int (iZ x), .int (iZ y)]) [] 0 rfl rfl (o_pointAt (hs := hs) (rs := rs) (ts := ts) (rt_ := rt_) (hc := hc) (li := li) (re := re) (ow := ow) (tc := tc) (cp := cp) (ck := ck) (wa := wa) (qp := qp) (qt := qt) (qs := qs) (lo := lo) (sb := sb) (lc := lc) (cn := cn) (ch := ch) (sk := sk) (x := x) (y := y) hG (by omega)) (cwV 2 F.1.2.2.2.2 (gw_V wd485 wd487 wd25 wd45 wd488) rfl rfl rfl (by decide +kernel) ⟨(Nat.le_of_ble_eq_true rfl), (Nat.le_of_ble_eq_true rfl)⟩) rfl rfl rfl (Nat.le_of_ble_eq_true rfl) ⟨(Nat.le_of_ble_eq_true rfl), (Nat.le_of_ble_eq_true rfl)⟩ dRB_may_3 (fun v3 hp => ?_)
  obtain rfl := hp
  refine tt_istore F [(4, .int (iZ (y * W + x))), (0, .ref (a 0)), (1, .int (iZ x)), (2, .int (iZ y)), (3, .int (iZ v_))] (by decide) rfl dRB_may_6 ?_
  refine tt_iload_n F 4 rfl rfl dRB_may_8 ?_
  refine tt_iconst F dRB_may_9 ?_
  refine tt_bipush F (by decide) dRB_may_10 ?_
  refine tt_cOS F (As := [.int (iZ v_), .int (iZ 1), .int (iZ 50)]) [] (o_needNumber (w0 := (cW cI cZ a W D_ r sz co ro ho ac al sd lf sq hs rs ts rt_ hc li re ow tc cp ck wa qp qt qs lo sb lc cn ch sk)) (z := v_) (a_ := 1) (b_ := 50) ⟨by omega, by omega⟩ ⟨by omega, by omega⟩ ⟨by omega, by omega⟩ (by omega)) (va_cwS 3 F.1.2.2.2.2 (gw_S wd489 wd490 wd45 wd491) rfl rfl rfl (by decide +kernel) ⟨(Nat.le_of_ble_eq_true rfl), (Nat.le_of_ble_eq_true rfl)⟩) rfl rfl rfl (Nat.le_of_ble_eq_true rfl) ⟨(Nat.le_of_ble_eq_true rfl), (Nat.le_of_ble_eq_true rfl)⟩ dRB_may_12 (fun v12 hp => ?_)
  obtain rfl := hp
  refine tt_aload_n F 1 rfl rfl dRB_may_15 ?_
  refine tt_get F inRB 0 rfl rfl 5 (by decide) we291 rfl dRB_may_16 ?_
  refine tt_cOV F (As := []) [] 21 rfl rfl (o_isFull (hs := hs) (rs := rs) (ts := ts) (rt_ := rt_) (hc := hc) (li := li) (re := re) (ow := ow) (tc := tc) (cp := cp) (ck := ck) (wa := wa) (qp := qp) (qt := qt) (qs := qs) (lo := lo) (sb := sb) (lc := lc) (cn := cn) (ch := ch) (sk := sk) hcn) (cwV 0 F.1.2.2.2.2 (gw_V wd658 wd659 wd660 wd52 wd661) rfl rfl rfl (by decide +kernel) ⟨(Nat.le_of_ble_eq_true rfl), (Nat.le_of_ble_eq_true rfl)⟩) rfl rfl rfl (Nat.le_of_ble_eq_true rfl) ⟨(Nat.le_of_ble_eq_true rfl), (Nat.le_of_ble_eq_true rfl)⟩ dRB_may_19 (fun v19 hp => ?_)
  obtain ⟨z19, rfl, hz19⟩ := hp
  refine tt_if_eq F 35 ⟨by omega, by omega⟩ dRB_may_22 (by decide) (fun c22 => ?_) (fun c22 => ?_)
  · skip
    omega
  · skip
    exact ts_throw F hst hex hsp (cls := ISE) (names := ["java/lang/RuntimeException", "java/lang/Exception"]) 3 rfl (by decide +kernel) (by decide +kernel) we662 we59 (by decide +kernel) dRB_may_25 dRB_may_28 dRB_may_29 dRB_may_31 dRB_may_34 (Nat.le_of_ble_eq_true rfl) (Nat.le_of_ble_eq_true rfl) (Nat.le_of_ble_eq_true rfl) (Nat.le_of_ble_eq_true rfl)
abbrev rmRB_forget : Room := { frames := 0, cells := 0, slots := 0, locals := 0 }
set_option maxHeartbeats 4000000 in
set_option maxRecDepth 100000 in
theorem c_forget  (hU : PUB W D_ r hs rs ts rt_ hc re ow tc cp ck wa cn) : CI l D vwCl cI cZ cJ SL yRB_forget wsRB_forget rmRB_forget [.ref (a 0)] (cW cI cZ a W D_ r sz co ro ho ac al sd lf sq hs rs ts rt_ hc li re ow tc cp ck wa qp qt qs lo sb lc cn ch sk) (fun z w1 => (z = cn ∧ w1 = (cW cI cZ a W D_ r sz co ro ho ac al sd lf sq hs rs ts rt_ hc li re ow tc cp ck wa qp qt qs lo sb lc 0 ch sk)) ∧ PUB W D_ r hs rs ts rt_ hc re ow tc cp ck wa 0) := by
  refine tt_startI (by decide) rfl (Nat.le_of_ble_eq_true rfl) ?_
  intro p e s m args below meth c hnm F
  refine tt_aload_n F 0 rfl rfl dRB_forget_0 ?_
  refine tt_get F inRB 0 rfl rfl 5 (by decide) we291 rfl dRB_forget_1 ?_
  refine tt_get F inPL 21 rfl rfl 2 (by decide) we249 rfl dRB_forget_4 ?_
  refine tt_istore_n F [(1, .int (iZ cn)), (0, .ref (a 0))] rfl (by decide) rfl dRB_forget_7 ?_
  refine tt_aload_n F 1 rfl rfl dRB_forget_8 ?_
  refine tt_get F inRB 0 rfl rfl 5 (by decide) we291 rfl dRB_forget_9 ?_
  refine tt_iconst F dRB_forget_12 ?_
  refine tt_put F (fun h => h) inPL tyPL tyPL_ok nmPL 21 rfl rfl 2 (by decide) we249 rfl rfl rfl rfl (show (2 : Nat) + 1 ≤ _ from Nat.le_of_ble_eq_true rfl) dRB_forget_13 ?_
  refine tt_iload_n F 0 rfl rfl dRB_forget_16 ?_
  exact tt_iret F rfl (Nat.le_of_ble_eq_true rfl) (Nat.le_of_ble_eq_true rfl) dRB_forget_17 ⟨⟨rfl, rfl⟩, pub_0 hU⟩
abbrev rmRB_want : Room := { frames := 2, cells := 0, slots := 0, locals := 44 }
set_option maxHeartbeats 4000000 in
set_option maxRecDepth 100000 in
theorem c_want {x y on : Int} (hG : GE W D_ r sz co ro ho ac al sd lf sq) (hU : PUB W D_ r hs rs ts rt_ hc re ow tc cp ck wa cn) (hp : (0 ≤ x ∧ x < W) ∧ 0 ≤ y ∧ y < D_) (hon : on = 0 ∨ on = 1) : CI l D vwCl cI cZ cJ SL yRB_want wsRB_want rmRB_want [.ref (a 0), .int (iZ x), .int (iZ y), .int (iZ on)] (cW cI cZ a W D_ r sz co ro ho ac al sd lf sq hs rs ts rt_ hc li re ow tc cp ck wa qp qt qs lo sb lc cn ch sk) (fun z w1 => (z = wa (y * W + x) ∧ w1 = (cW cI cZ a W D_ r sz co ro ho ac al sd lf sq hs rs ts rt_ hc li re ow tc cp ck (zu wa (y * W + x) on) qp qt qs lo sb lc cn ch sk)) ∧ PUB W D_ r hs rs ts rt_ hc re ow tc cp ck (zu wa (y * W + x) on) cn) := by
  refine tt_startI (by decide) rfl (Nat.le_of_ble_eq_true rfl) ?_
  intro p e s m args below meth c hnm F
  obtain ⟨⟨hW1, hW2, hD1, hD2, hr1, hr2⟩, hGp, hGs, hGk, hGx, hGi, hGm, hGq⟩ := id hG
  have hWD := wd_b hW1 hW2 hD1 hD2
  have hPL := pl_b hW1 hW2 hD1 hD2 hr1 hr2
  have hSQ := sd_b hr1 hr2
  have hts := pub_ts hU
  have hrt := hU.2.2.1
  have hB := hU.1
  have hcn := hU.2.2.2.1
  have hcp := hU.2.2.2.2.1
  have hwa := hU.2.2.2.2.2
  have hre := pub_re hG hU
  have hhc := pub_hc hG hU
  have hhs : ∀ p, 0 ≤ p → p < W * D_ → 0 ≤ hs p ∧ hs p ≤ 200 := fun p h1 h2 => (hU.2.1 p h1 h2).2.1
  have hqb := ix_b (i := x) (j := y) (W := W) (D := D_) (by omega) (by omega) (by omega) (by omega)
  have hw0 := hwa _ hqb.1 hqb.2
  refine tt_aload_n F 0 rfl rfl dRB_want_0 ?_
  refine tt_iload_n F 1 rfl rfl dRB_want_1 ?_
  refine tt_iload_n F 2 rfl rfl dRB_want_2 ?_
  refine tt_cOV F (As := [.int (iZ x), .int (iZ y)]) [] 0 rfl rfl (o_pointAt (hs := hs) (rs := rs) (ts := ts) (rt_ := rt_) (hc := hc) (li := li) (re := re) (ow := ow) (tc := tc) (cp := cp) (ck := ck) (wa := wa) (qp := qp) (qt := qt) (qs := qs) (lo := lo) (sb := sb) (lc := lc) (cn := cn) (ch := ch) (sk := sk) (x := x) (y := y) hG (by omega)) (cwV 2 F.1.2.2.2.2 (gw_V wd485 wd487 wd25 wd45 wd488) rfl rfl rfl (by decide +kernel) ⟨(Nat.le_of_ble_eq_true rfl), (Nat.le_of_ble_eq_true rfl)⟩) rfl rfl rfl (Nat.le_of_ble_eq_true rfl) ⟨(Nat.le_of_ble_eq_true rfl), (Nat.le_of_ble_eq_true rfl)⟩ dRB_want_3 (fun v3 hp => ?_)
  obtain rfl := hp
  refine tt_istore F [(4, .int (iZ (y * W + x))), (0, .ref (a 0)), (1, .int (iZ x)), (2, .int (iZ y)), (3, .int (iZ on))] (by decide) rfl dRB_want_6 ?_
  refine tt_aload_n F 1 rfl rfl dRB_want_8 ?_
  refine tt_get F inRB 0 rfl rfl 5 (by decide) we291 rfl dRB_want_9 ?_
  refine tt_get F inPL 21 rfl rfl 3 (by decide) we251 rfl dRB_want_12 ?_
  refine tt_iload F 0 rfl dRB_want_15 ?_
  refine tt_zald F 24 rfl (by omega) (by omega) (by omega) dRB_want_17 ?_
  refine tt_name (fun was hwas => ?_)
  refine tt_istore F [(5, .int (iZ was)), (4, .int (iZ (y * W + x))), (0, .ref (a 0)), (1, .int (iZ x)), (2, .int (iZ y)), (3, .int (iZ on))] (by decide) rfl dRB_want_18 ?_
  refine tt_aload_n F 2 rfl rfl dRB_want_20 ?_
  refine tt_get F inRB 0 rfl rfl 5 (by decide) we291 rfl dRB_want_21 ?_
  refine tt_get F inPL 21 rfl rfl 3 (by decide) we251 rfl dRB_want_24 ?_
  refine tt_iload F 1 rfl dRB_want_27 ?_
  refine tt_iload_n F 5 rfl rfl dRB_want_29 ?_
  refine tt_zast F (fun h => h) 24 rfl (by omega) (by omega) (by omega) (hon) dRB_want_30 ?_
  refine tt_iload F 0 rfl dRB_want_31 ?_
  exact tt_zret F rfl (by rw [hwas]; exact hw0) (Nat.le_of_ble_eq_true rfl) (Nat.le_of_ble_eq_true rfl) dRB_want_33 ⟨⟨hwas, rfl⟩, pub_w hU hon⟩
abbrev rmTRB_want : Room := { frames := 8, cells := 1, slots := 6, locals := 134 }
set_option maxHeartbeats 4000000 in
set_option maxRecDepth 100000 in
theorem x_want (hst : l.stackTraces = false) {x y on : Int} (hG : GE W D_ r sz co ro ho ac al sd lf sq) (hx0 : ir x) (hy0 : ir y) (h : ¬ ((0 ≤ x ∧ x < W) ∧ 0 ≤ y ∧ y < D_)) : CY l D vwCl cI cZ cJ SL RRB ssL yRB_want wsRB_want rmTRB_want [.ref (a 0), .int (iZ x), .int (iZ y), .int (iZ on)] (cW cI cZ a W D_ r sz co ro ho ac al sd lf sq hs rs ts rt_ hc li re ow tc cp ck wa qp qt qs lo sb lc cn ch sk) IAE := by
  refine ts_start (by decide) rfl (Nat.le_of_ble_eq_true rfl) ?_
  intro p e s m args below meth c F hex hsp
  obtain ⟨⟨hW1, hW2, hD1, hD2, hr1, hr2⟩, hGp, hGs, hGk, hGx, hGi, hGm, hGq⟩ := id hG
  have hWD := wd_b hW1 hW2 hD1 hD2
  have hPL := pl_b hW1 hW2 hD1 hD2 hr1 hr2
  have hSQ := sd_b hr1 hr2
  refine tt_aload_n F 0 rfl rfl dRB_want_0 ?_
  refine tt_iload_n F 1 rfl rfl dRB_want_1 ?_
  refine tt_iload_n F 2 rfl rfl dRB_want_2 ?_
  exact ts_outV F hex hsp (As := [.int (iZ x), .int (iZ y)]) [] 0 rfl rfl (x_pointAt hst (hs := hs) (rs := rs) (ts := ts) (rt_ := rt_) (hc := hc) (li := li) (re := re) (ow := ow) (tc := tc) (cp := cp) (ck := ck) (wa := wa) (qp := qp) (qt := qt) (qs := qs) (lo := lo) (sb := sb) (lc := lc) (cn := cn) (ch := ch) (sk := sk) (x := x) (y := y) hG ⟨by omega, by omega⟩ ⟨by omega, by omega⟩ (by omega)) (cwV 2 F.1.2.2.2.2 (gw_V wd485 wd487 wd25 wd45 wd488) rfl rfl rfl (by decide +kernel) ⟨(Nat.le_of_ble_eq_true rfl), (Nat.le_of_ble_eq_true rfl)⟩) rfl rfl rfl (Nat.le_of_ble_eq_true rfl) ⟨(Nat.le_of_ble_eq_true rfl), (Nat.le_of_ble_eq_true rfl)⟩ dRB_want_3
abbrev rmRB_choose : Room := { frames := 5, cells := 0, slots := 0, locals := 141 }
set_option maxHeartbeats 4000000 in
set_option maxRecDepth 100000 in
theorem c_choose {aS : Nat} (hG : GE W D_ r sz co ro ho ac al sd lf sq) (hU : PUB W D_ r hs rs ts rt_ hc re ow tc cp ck wa cn) (hsw : SL[1]? = some ("RollingBalls$Plan", "SETS_WITH", "[I", aS, 4, fun j : Nat => Value.int (iZ (SWv (j : Int))))) : CI l D vwCl cI cZ cJ SL yRB_choose wsRB_choose rmRB_choose [.ref (a 0)] (cW cI cZ a W D_ r sz co ro ho ac al sd lf sq hs rs ts rt_ hc li re ow tc cp ck wa qp qt qs lo sb lc cn ch sk) (fun z w1 => ansI W D_ r cn ts hs cp ck wa z ∧ ∃ (li' qp' qt' qs' lo' : Int → Int) (lc' ch' sk' : Int), w1 = (cW cI cZ a W D_ r sz co ro ho ac al sd lf sq hs rs ts rt_ hc li' re ow tc cp ck wa qp' qt' qs' lo' sb lc' cn ch' sk')) := by
  refine tt_startI (by decide) rfl (Nat.le_of_ble_eq_true rfl) ?_
  intro p e s m args below meth c hnm F
  obtain ⟨⟨hW1, hW2, hD1, hD2, hr1, hr2⟩, hGp, hGs, hGk, hGx, hGi, hGm, hGq⟩ := id hG
  have hWD := wd_b hW1 hW2 hD1 hD2
  have hPL := pl_b hW1 hW2 hD1 hD2 hr1 hr2
  have hSQ := sd_b hr1 hr2
  have hts := pub_ts hU
  have hrt := hU.2.2.1
  have hB := hU.1
  have hcn := hU.2.2.2.1
  have hcp := hU.2.2.2.2.1
  have hwa := hU.2.2.2.2.2
  have hre := pub_re hG hU
  have hhc := pub_hc hG hU
  have hhs : ∀ p, 0 ≤ p → p < W * D_ → 0 ≤ hs p ∧ hs p ≤ 200 := fun p h1 h2 => (hU.2.1 p h1 h2).2.1
  refine tt_aload_n F 0 rfl rfl dRB_choose_0 ?_
  refine tt_get F inRB 0 rfl rfl 5 (by decide) we291 rfl dRB_choose_1 ?_
  refine tt_cIV0 F (fun h => h) (As := []) 21 rfl rfl (c_bestSet (hs := hs) (rs := rs) (ts := ts) (rt_ := rt_) (hc := hc) (li := li) (re := re) (ow := ow) (tc := tc) (cp := cp) (ck := ck) (wa := wa) (qp := qp) (qt := qt) (qs := qs) (lo := lo) (sb := sb) (lc := lc) (cn := cn) (ch := ch) (sk := sk) hG hts hrt hB hwa hcn hcp hhs hsw) (cwV 0 F.1.2.2.2.2 (gw_V wd324 wd325 wd326 wd52 wd327) rfl rfl rfl (by decide +kernel) ⟨(Nat.le_of_ble_eq_true rfl), (Nat.le_of_ble_eq_true rfl)⟩) rfl rfl rfl (Nat.le_of_ble_eq_true rfl) ⟨(Nat.le_of_ble_eq_true rfl), (Nat.le_of_ble_eq_true rfl)⟩ dRB_choose_4 (fun z4 w1 hp => ?_)
  obtain ⟨li4, qp4, qt4, qs4, lo4, lc4, ch4, sk4, rfl, IA4⟩ := hp
  exact tt_iret F rfl (Nat.le_of_ble_eq_true rfl) (Nat.le_of_ble_eq_true rfl) dRB_choose_7 ⟨IA4, _, _, _, _, _, _, _, _, rfl⟩
abbrev rmRB_put : Room := { frames := 5, cells := 0, slots := 0, locals := 138 }
def rS (rs cp ck : Int → Int) (S : Int) : Nat → Int → Int
  | 0 => rs
  | k + 1 => if tb S (k : Int) = true then zu (rS rs cp ck S k) (cp (k : Int)) (ck (k : Int)) else rS rs cp ck S k
theorem rS_s {rs cp ck : Int → Int} {S k : Int} (h : 0 ≤ k) : rS rs cp ck S (k + 1).toNat = if tb S k = true then zu (rS rs cp ck S k.toNat) (cp k) (ck k) else rS rs cp ck S k.toNat := by
  have e1 : (k + 1).toNat = k.toNat + 1 := by omega
  have e2 : ((k.toNat : Nat) : Int) = k := by omega
  rw [e1, rS, e2]
theorem tS_s {ts hs cp ck : Int → Int} {S k : Int} (h : 0 ≤ k) : tS ts hs cp ck S (k + 1).toNat = if tb S k = true then zu (tS ts hs cp ck S k.toNat) (cp k) ((hs (cp k) + ck k) * 1048576) else tS ts hs cp ck S k.toNat := by
  have e1 : (k + 1).toNat = k.toNat + 1 := by omega
  have e2 : ((k.toNat : Nat) : Int) = k := by omega
  rw [e1, tS, e2]
set_option maxHeartbeats 4000000 in
set_option maxRecDepth 100000 in
theorem put_a {S : Int} (F : FX p s m args meth c cRB_put 4 (some .int) wsRB_put RRB D vwCl cI cZ cJ SL A) (hG : GE W D_ r sz co ro ho ac al sd lf sq) (hhc : ∀ p, 0 ≤ p → p < W * D_ → 0 ≤ hc p ∧ hc p ≤ 1024)
    (k33 : ∀ (p_ : Int) (sb : Int → Int), (∀ p, 0 ≤ p → p < W * D_ → sb p = bi (decide (hc p = 0))) → TT p l e rmRB_put s m args below meth c D vwCl A 4 False Q 33 [(0, .ref (a 0)), (1, .int (iZ S))] [] (cW cI cZ a W D_ r sz co ro ho ac al sd lf sq hs rs ts rt_ hc li re ow tc cp ck wa qp qt qs lo sb lc cn ch sk) 0 0) :
    ∀ (n : Nat) (p_ : Int) (sb : Int → Int), (W * D_ - p_).toNat < n → (0 ≤ p_ ∧ p_ ≤ W * D_) → (∀ p, 0 ≤ p → p < p_ → sb p = bi (decide (hc p = 0))) → TT p l e rmRB_put s m args below meth c D vwCl A 4 False Q 2 [(0, .ref (a 0)), (1, .int (iZ S)), (2, .int (iZ p_))] [] (cW cI cZ a W D_ r sz co ro ho ac al sd lf sq hs rs ts rt_ hc li re ow tc cp ck wa qp qt qs lo sb lc cn ch sk) 0 0 := by
  intro n
  induction n with
  | zero => intro p_ sb hn; omega
  | succ n ih =>
    intro p_ sb hn I1 I2
    obtain ⟨⟨hW1, hW2, hD1, hD2, hr1, hr2⟩, hGp, hGs, hGk, hGx, hGi, hGm, hGq⟩ := id hG
    have hWD := wd_b hW1 hW2 hD1 hD2
    have hPL := pl_b hW1 hW2 hD1 hD2 hr1 hr2
    have hSQ := sd_b hr1 hr2
    refine tt_iload_n F 2 rfl rfl dRB_put_2 ?_
    refine tt_aload_n F 0 rfl rfl dRB_put_3 ?_
    refine tt_get F inRB 0 rfl rfl 3 (by decide) we289 rfl dRB_put_4 ?_
    refine tt_get F inHO 1 rfl rfl 2 (by decide) we91 rfl dRB_put_7 ?_
    refine tt_icmp_ge F 33 ⟨by omega, by omega⟩ ⟨by omega, by omega⟩ dRB_put_10 (by decide) (fun c10 => ?_) (fun c10 => ?_)
    · skip
      refine tt_sub [0, 1] rfl ?_
      exact k33 p_ sb (fun p h1 h2 => I2 p h1 (by omega))
    · skip
      have hp1 := hhc p_ (by omega) (by omega)
      have hp3 : ir (hc p_) := ⟨by omega, by omega⟩
      refine tt_aload_n F 0 rfl rfl dRB_put_13 ?_
      refine tt_get F inRB 0 rfl rfl 6 (by decide) we292 rfl dRB_put_14 ?_
      refine tt_iload_n F 2 rfl rfl dRB_put_17 ?_
      refine tt_aload_n F 0 rfl rfl dRB_put_18 ?_
      refine tt_get F inRB 0 rfl rfl 4 (by decide) we290 rfl dRB_put_19 ?_
      refine tt_iload_n F 2 rfl rfl dRB_put_22 ?_
      refine tt_cIV0 F (fun h => h) (As := [.int (iZ p_)]) 14 rfl rfl (c_isSafe (hs := hs) (rs := rs) (ts := ts) (rt_ := rt_) (hc := hc) (li := li) (re := re) (ow := ow) (tc := tc) (cp := cp) (ck := ck) (wa := wa) (qp := qp) (qt := qt) (qs := qs) (lo := lo) (sb := sb) (lc := lc) (cn := cn) (ch := ch) (sk := sk) (q := p_) hG (by omega) (by assumption)) (cwV 1 F.1.2.2.2.2 (gw_V wd437 wd333 wd334 wd48 wd335) rfl rfl rfl (by decide +kernel) ⟨(Nat.le_of_ble_eq_true rfl), (Nat.le_of_ble_eq_true rfl)⟩) rfl rfl rfl (Nat.le_of_ble_eq_true rfl) ⟨(Nat.le_of_ble_eq_true rfl), (Nat.le_of_ble_eq_true rfl)⟩ dRB_put_23 (fun z23 w1 hp => ?_)
      obtain ⟨hz23, rfl⟩ := hp
      refine tt_zast F (fun h => h) 29 rfl (by omega) (by omega) (by omega) (by rw [hz23]; have h9 := bi_b (decide (hc p_ = 0)); omega) dRB_put_26 ?_
      refine tt_iinc F 2 [(2, .int (iZ (p_ + 1))), (0, .ref (a 0)), (1, .int (iZ S))] rfl (by decide) rfl dRB_put_27 ?_
      refine tt_goto F 2 (by decide) dRB_put_30 ?_
      refine tt_sub [1, 2, 0] rfl ?_
      exact ih (p_ + 1) (zu sb p_ z23) (by omega) (by omega) (fun p h1 h2 => if e : p = p_ then (by rw [e, zu_s, hz23]) else (by rw [zu_n _ _ e]; exact I2 p h1 (by omega)))
set_option maxHeartbeats 4000000 in
set_option maxRecDepth 100000 in
theorem put_b {S : Int} {rs0 ts0 : Int → Int} (F : FX p s m args meth c cRB_put 4 (some .int) wsRB_put RRB D vwCl cI cZ cJ SL A) (hG : GE W D_ r sz co ro ho ac al sd lf sq) (hcn : 0 ≤ cn ∧ cn ≤ 4)
    (k82 : ∀ (k : Int) (rs : Int → Int) (ts : Int → Int) (rt_ : Int → Int) (hc : Int → Int) (li : Int → Int) (re : Int → Int) (ow : Int → Int) (tc : Int → Int) (lc : Int), (PUB W D_ r hs rs ts rt_ hc re ow tc cp ck wa cn) → (rs = rS rs0 cp ck S cn.toNat) → (ts = tS ts0 hs cp ck S cn.toNat) → TT p l e rmRB_put s m args below meth c D vwCl A 4 False Q 82 [(0, .ref (a 0)), (1, .int (iZ S))] [] (cW cI cZ a W D_ r sz co ro ho ac al sd lf sq hs rs ts rt_ hc li re ow tc cp ck wa qp qt qs lo sb lc cn ch sk) 0 0) :
    ∀ (n : Nat) (k : Int) (rs : Int → Int) (ts : Int → Int) (rt_ : Int → Int) (hc : Int → Int) (li : Int → Int) (re : Int → Int) (ow : Int → Int) (tc : Int → Int) (lc : Int), (cn - k).toNat < n → (0 ≤ k ∧ k ≤ cn) → (PUB W D_ r hs rs ts rt_ hc re ow tc cp ck wa cn) → (rs = rS rs0 cp ck S k.toNat) → (ts = tS ts0 hs cp ck S k.toNat) → TT p l e rmRB_put s m args below meth c D vwCl A 4 False Q 35 [(0, .ref (a 0)), (1, .int (iZ S)), (2, .int (iZ k))] [] (cW cI cZ a W D_ r sz co ro ho ac al sd lf sq hs rs ts rt_ hc li re ow tc cp ck wa qp qt qs lo sb lc cn ch sk) 0 0 := by
  intro n
  induction n with
  | zero => intro k rs ts rt_ hc li re ow tc lc hn; omega
  | succ n ih =>
    intro k rs ts rt_ hc li re ow tc lc hn I1 I2 I3 I4
    obtain ⟨⟨hW1, hW2, hD1, hD2, hr1, hr2⟩, hGp, hGs, hGk, hGx, hGi, hGm, hGq⟩ := id hG
    have hWD := wd_b hW1 hW2 hD1 hD2
    have hPL := pl_b hW1 hW2 hD1 hD2 hr1 hr2
    have hSQ := sd_b hr1 hr2
    have hU := I2
    refine tt_iload_n F 2 rfl rfl dRB_put_35 ?_
    refine tt_aload_n F 0 rfl rfl dRB_put_36 ?_
    refine tt_get F inRB 0 rfl rfl 5 (by decide) we291 rfl dRB_put_37 ?_
    refine tt_get F inPL 21 rfl rfl 2 (by decide) we249 rfl dRB_put_40 ?_
    refine tt_icmp_ge F 82 ⟨by omega, by omega⟩ ⟨by omega, by omega⟩ dRB_put_43 (by decide) (fun c43 => ?_) (fun c43 => ?_)
    · skip
      refine tt_sub [0, 1] rfl ?_
      exact k82 k rs ts rt_ hc li re ow tc lc (I2) (by rw [show cn = k by omega]; exact I3) (by rw [show cn = k by omega]; exact I4)
    · skip
      have hk1 := hU.2.2.2.2.1 k (by omega) (by omega)
      refine tt_iload_n F 1 rfl rfl dRB_put_46 ?_
      refine tt_iload_n F 2 rfl rfl dRB_put_47 ?_
      refine tt_cIS0 F (fun h => h) (As := [.int (iZ S), .int (iZ k)]) (c_holds (w0 := (cW cI cZ a W D_ r sz co ro ho ac al sd lf sq hs rs ts rt_ hc li re ow tc cp ck wa qp qt qs lo sb lc cn ch sk)) (s_ := S) (k := k) (by omega)) (va_cwS 2 F.1.2.2.2.2 (gw_S wd438 wd405 wd52 wd406) rfl rfl rfl (by decide +kernel) ⟨(Nat.le_of_ble_eq_true rfl), (Nat.le_of_ble_eq_true rfl)⟩) rfl rfl rfl (Nat.le_of_ble_eq_true rfl) ⟨(Nat.le_of_ble_eq_true rfl), (Nat.le_of_ble_eq_true rfl)⟩ dRB_put_48 (fun z48 w1 hp => ?_)
      obtain ⟨hz48, rfl⟩ := hp
      refine tt_if_eq F 76 (by rw [hz48]; have := bi_b (tb S k); exact ⟨by omega, by omega⟩) dRB_put_51 (by decide) (fun c51 => ?_) (fun c51 => ?_)
      · skip
        refine tt_iinc F 2 [(2, .int (iZ (k + 1))), (0, .ref (a 0)), (1, .int (iZ S))] rfl (by decide) rfl dRB_put_76 ?_
        refine tt_goto F 35 (by decide) dRB_put_79 ?_
        refine tt_sub [1, 2, 0] rfl ?_
        exact ih (k + 1) rs ts rt_ hc li re ow tc lc (by omega) (by omega) (I2) (by rw [rS_s I1.1, if_neg (fun e => by rw [hz48, bi_t e] at c51; omega)]; exact I3) (by rw [tS_s I1.1, if_neg (fun e => by rw [hz48, bi_t e] at c51; omega)]; exact I4)
      · skip
        refine tt_aload_n F 0 rfl rfl dRB_put_54 ?_
        refine tt_aload_n F 0 rfl rfl dRB_put_55 ?_
        refine tt_get F inRB 0 rfl rfl 5 (by decide) we291 rfl dRB_put_56 ?_
        refine tt_get F inPL 21 rfl rfl 0 (by decide) we245 rfl dRB_put_59 ?_
        refine tt_iload_n F 2 rfl rfl dRB_put_62 ?_
        refine tt_iald F 22 rfl (by omega) (by omega) (by omega) dRB_put_63 ?_
        refine tt_name (fun x63 hx63 => ?_)
        refine tt_aload_n F 0 rfl rfl dRB_put_64 ?_
        refine tt_get F inRB 0 rfl rfl 5 (by decide) we291 rfl dRB_put_65 ?_
        refine tt_get F inPL 21 rfl rfl 1 (by decide) we247 rfl dRB_put_68 ?_
        refine tt_iload_n F 2 rfl rfl dRB_put_71 ?_
        refine tt_iald F 23 rfl (by omega) (by omega) (by omega) dRB_put_72 ?_
        refine tt_name (fun x72 hx72 => ?_)
        refine tt_cVV0 F (fun h => h) (As := [.int (iZ x63), .int (iZ x72)]) 0 rfl rfl (c_putRod (hs := hs) (rs := rs) (ts := ts) (rt_ := rt_) (hc := hc) (li := li) (re := re) (ow := ow) (tc := tc) (cp := cp) (ck := ck) (wa := wa) (qp := qp) (qt := qt) (qs := qs) (lo := lo) (sb := sb) (lc := lc) (cn := cn) (ch := ch) (sk := sk) (q := x63) (v := x72) hG hU (by omega) (by omega)) (cwV 2 F.1.2.2.2.2 (gw_V wd439 wd441 wd19 wd45 wd442) rfl rfl rfl (by decide +kernel) ⟨(Nat.le_of_ble_eq_true rfl), (Nat.le_of_ble_eq_true rfl)⟩) rfl rfl rfl (Nat.le_of_ble_eq_true rfl) ⟨(Nat.le_of_ble_eq_true rfl), (Nat.le_of_ble_eq_true rfl)⟩ dRB_put_73 (fun w1 hp => ?_)
        obtain ⟨rt73, hc73, li73, re73, ow73, tc73, lc73, rfl, IU73⟩ := hp
        refine tt_iinc F 2 [(2, .int (iZ (k + 1))), (0, .ref (a 0)), (1, .int (iZ S))] rfl (by decide) rfl dRB_put_76 ?_
        refine tt_goto F 35 (by decide) dRB_put_79 ?_
        refine tt_sub [1, 2, 0] rfl ?_
        exact ih (k + 1) (zu rs x63 x72) (zu ts x63 ((hs x63 + x72) * 1048576)) rt73 hc73 li73 re73 ow73 tc73 lc73 (by omega) (by omega) (IU73) (by rw [rS_s I1.1, if_pos (by cases e : tb S k with | true => rfl | false => rw [hz48, bi_f e] at c51; omega), ← I3, hx63, hx72]) (by rw [tS_s I1.1, if_pos (by cases e : tb S k with | true => rfl | false => rw [hz48, bi_f e] at c51; omega), ← I4, hx63, hx72])
set_option maxHeartbeats 4000000 in
set_option maxRecDepth 100000 in
theorem put_c  (F : FX p s m args meth c cRB_put 4 (some .int) wsRB_put RRB D vwCl cI cZ cJ SL A) (hG : GE W D_ r sz co ro ho ac al sd lf sq) (hhc : ∀ p, 0 ≤ p → p < W * D_ → 0 ≤ hc p ∧ hc p ≤ 1024) (hsb : ∀ p, 0 ≤ p → p < W * D_ → 0 ≤ sb p ∧ sb p ≤ 1)
    (k123 : ∀ (n_ : Int) (p_ : Int), (n_ = cz (fun p => decide (¬ sb p = bi (decide (hc p = 0)))) (W * D_)) → TT p l e rmRB_put s m args below meth c D vwCl A 4 False Q 123 [(0, .ref (a 0)), (2, .int (iZ n_)), (3, .int (iZ p_))] [] (cW cI cZ a W D_ r sz co ro ho ac al sd lf sq hs rs ts rt_ hc li re ow tc cp ck wa qp qt qs lo sb lc cn ch sk) 0 0) :
    ∀ (n : Nat) (n_ : Int) (p_ : Int), (W * D_ - p_).toNat < n → (0 ≤ p_ ∧ p_ ≤ W * D_) → (n_ = cz (fun p => decide (¬ sb p = bi (decide (hc p = 0)))) p_) → TT p l e rmRB_put s m args below meth c D vwCl A 4 False Q 86 [(0, .ref (a 0)), (2, .int (iZ n_)), (3, .int (iZ p_))] [] (cW cI cZ a W D_ r sz co ro ho ac al sd lf sq hs rs ts rt_ hc li re ow tc cp ck wa qp qt qs lo sb lc cn ch sk) 0 0 := by
  intro n
  induction n with
  | zero => intro n_ p_ hn; omega
  | succ n ih =>
    intro n_ p_ hn I1 I2
    obtain ⟨⟨hW1, hW2, hD1, hD2, hr1, hr2⟩, hGp, hGs, hGk, hGx, hGi, hGm, hGq⟩ := id hG
    have hWD := wd_b hW1 hW2 hD1 hD2
    have hPL := pl_b hW1 hW2 hD1 hD2 hr1 hr2
    have hSQ := sd_b hr1 hr2
    refine tt_iload_n F 2 rfl rfl dRB_put_86 ?_
    refine tt_aload_n F 0 rfl rfl dRB_put_87 ?_
    refine tt_get F inRB 0 rfl rfl 3 (by decide) we289 rfl dRB_put_88 ?_
    refine tt_get F inHO 1 rfl rfl 2 (by decide) we91 rfl dRB_put_91 ?_
    refine tt_icmp_ge F 123 ⟨by omega, by omega⟩ ⟨by omega, by omega⟩ dRB_put_94 (by decide) (fun c94 => ?_) (fun c94 => ?_)
    · skip
      refine tt_sub [0, 1, 2] rfl ?_
      exact k123 n_ p_ (by rw [show W * D_ = p_ by omega]; exact I2)
    · skip
      have hp1 := hhc p_ (by omega) (by omega)
      have hp3 : ir (hc p_) := ⟨by omega, by omega⟩
      have hp4 := hsb p_ (by omega) (by omega)
      have hp5 := bi_b (decide (hc p_ = 0))
      refine tt_aload_n F 0 rfl rfl dRB_put_97 ?_
      refine tt_get F inRB 0 rfl rfl 6 (by decide) we292 rfl dRB_put_98 ?_
      refine tt_iload_n F 2 rfl rfl dRB_put_101 ?_
      refine tt_zald F 29 rfl (by omega) (by omega) (by omega) dRB_put_102 ?_
      refine tt_name (fun sv hsv => ?_)
      refine tt_aload_n F 0 rfl rfl dRB_put_103 ?_
      refine tt_get F inRB 0 rfl rfl 4 (by decide) we290 rfl dRB_put_104 ?_
      refine tt_iload_n F 2 rfl rfl dRB_put_107 ?_
      refine tt_cIV0 F (fun h => h) (As := [.int (iZ p_)]) 14 rfl rfl (c_isSafe (hs := hs) (rs := rs) (ts := ts) (rt_ := rt_) (hc := hc) (li := li) (re := re) (ow := ow) (tc := tc) (cp := cp) (ck := ck) (wa := wa) (qp := qp) (qt := qt) (qs := qs) (lo := lo) (sb := sb) (lc := lc) (cn := cn) (ch := ch) (sk := sk) (q := p_) hG (by omega) (by assumption)) (cwV 1 F.1.2.2.2.2 (gw_V wd437 wd333 wd334 wd48 wd335) rfl rfl rfl (by decide +kernel) ⟨(Nat.le_of_ble_eq_true rfl), (Nat.le_of_ble_eq_true rfl)⟩) rfl rfl rfl (Nat.le_of_ble_eq_true rfl) ⟨(Nat.le_of_ble_eq_true rfl), (Nat.le_of_ble_eq_true rfl)⟩ dRB_put_108 (fun z108 w1 hp => ?_)
      obtain ⟨hz108, rfl⟩ := hp
      refine tt_icmp_eq F 117 ⟨by omega, by omega⟩ ⟨by rw [hz108]; omega, by rw [hz108]; omega⟩ dRB_put_111 (by decide) (fun c111 => ?_) (fun c111 => ?_)
      · skip
        refine tt_iinc F 2 [(3, .int (iZ (p_ + 1))), (0, .ref (a 0)), (2, .int (iZ n_))] rfl (by decide) rfl dRB_put_117 ?_
        refine tt_goto F 86 (by decide) dRB_put_120 ?_
        refine tt_sub [1, 2, 0] rfl ?_
        exact ih n_ (p_ + 1) (by omega) (by omega) (by rw [cz_s _ I1.1, ← I2, bi_f (by simp only [decide_eq_false_iff_not]; omega)]; omega)
      · skip
        refine tt_iinc F 1 [(2, .int (iZ (n_ + 1))), (0, .ref (a 0)), (3, .int (iZ p_))] rfl (by decide) rfl dRB_put_114 ?_
        refine tt_iinc F 2 [(3, .int (iZ (p_ + 1))), (2, .int (iZ (n_ + 1))), (0, .ref (a 0))] rfl (by decide) rfl dRB_put_117 ?_
        refine tt_goto F 86 (by decide) dRB_put_120 ?_
        refine tt_sub [2, 1, 0] rfl ?_
        exact ih (n_ + 1) (p_ + 1) (by omega) (by omega) (by rw [cz_s _ I1.1, ← I2, bi_t (by simp only [decide_eq_true_eq]; omega)])
set_option maxHeartbeats 4000000 in
set_option maxRecDepth 100000 in
theorem c_put {S : Int} (hG : GE W D_ r sz co ro ho ac al sd lf sq) (hU : PUB W D_ r hs rs ts rt_ hc re ow tc cp ck wa cn) : CI l D vwCl cI cZ cJ SL yRB_put wsRB_put rmRB_put [.ref (a 0), .int (iZ S)] (cW cI cZ a W D_ r sz co ro ho ac al sd lf sq hs rs ts rt_ hc li re ow tc cp ck wa qp qt qs lo sb lc cn ch sk) (fun z w1 => ∃ (rt' hc' li' re' ow' tc' sb' : Int → Int) (lc' : Int), (w1 = (cW cI cZ a W D_ r sz co ro ho ac al sd lf sq hs (rS rs cp ck S cn.toNat) (tS ts hs cp ck S cn.toNat) rt' hc' li' re' ow' tc' cp ck wa qp qt qs lo sb' lc' cn ch sk) ∧ PUB W D_ r hs (rS rs cp ck S cn.toNat) (tS ts hs cp ck S cn.toNat) rt' hc' re' ow' tc' cp ck wa cn) ∧ z = cz (fun p => decide (¬ bi (decide (hc p = 0)) = bi (decide (hc' p = 0)))) (W * D_)) := by
  refine tt_startI (by decide) rfl (Nat.le_of_ble_eq_true rfl) ?_
  intro p e s m args below meth c hnm F
  obtain ⟨⟨hW1, hW2, hD1, hD2, hr1, hr2⟩, hGp, hGs, hGk, hGx, hGi, hGm, hGq⟩ := id hG
  have hWD := wd_b hW1 hW2 hD1 hD2
  have hPL := pl_b hW1 hW2 hD1 hD2 hr1 hr2
  have hSQ := sd_b hr1 hr2
  have hts := pub_ts hU
  have hrt := hU.2.2.1
  have hB := hU.1
  have hcn := hU.2.2.2.1
  have hcp := hU.2.2.2.2.1
  have hwa := hU.2.2.2.2.2
  have hre := pub_re hG hU
  have hhc := pub_hc hG hU
  have hhs : ∀ p, 0 ≤ p → p < W * D_ → 0 ≤ hs p ∧ hs p ≤ 200 := fun p h1 h2 => (hU.2.1 p h1 h2).2.1
  refine tt_iconst F dRB_put_0 ?_
  refine tt_istore_n F [(2, .int (iZ 0)), (0, .ref (a 0)), (1, .int (iZ S))] rfl (by decide) rfl dRB_put_1 ?_
  refine tt_sub [1, 2, 0] rfl ?_
  refine put_a F hG hhc (fun p_ sb1 hsb1 => ?_) ((W * D_).toNat + 1) 0 sb (by omega) (by omega) (fun p h1 h2 => by omega)
  refine tt_iconst F dRB_put_33 ?_
  refine tt_istore_n F [(2, .int (iZ 0)), (0, .ref (a 0)), (1, .int (iZ S))] rfl (by decide) rfl dRB_put_34 ?_
  refine tt_sub [1, 2, 0] rfl ?_
  refine put_b (rs0 := rs) (ts0 := ts) (sb := sb1) F hG hcn (fun k rs2 ts2 rt2 hc2 li2 re2 ow2 tc2 lc2 hU2 hr2_ ht2_ => ?_) (cn.toNat + 1) 0 rs ts rt_ hc li re ow tc lc (by omega) (by omega) hU rfl rfl
  have hhc2 := pub_hc hG hU2
  refine tt_iconst F dRB_put_82 ?_
  refine tt_istore_n F [(2, .int (iZ 0)), (0, .ref (a 0)), (1, .int (iZ S))] rfl (by decide) rfl dRB_put_83 ?_
  refine tt_iconst F dRB_put_84 ?_
  refine tt_istore_n F [(3, .int (iZ 0)), (2, .int (iZ 0)), (0, .ref (a 0)), (1, .int (iZ S))] rfl (by decide) rfl dRB_put_85 ?_
  refine tt_sub [2, 1, 0] rfl ?_
  refine put_c (hc := hc2) (sb := sb1) F hG hhc2 (fun p h1 h2 => by rw [hsb1 p h1 h2]; exact bi_b _) (fun n_ p_ hz => ?_) ((W * D_).toNat + 1) 0 0 (by omega) (by omega) (cz_0 _ (Int.le_refl 0)).symm
  refine tt_iload_n F 1 rfl rfl dRB_put_123 ?_
  exact tt_iret F rfl (Nat.le_of_ble_eq_true rfl) (Nat.le_of_ble_eq_true rfl) dRB_put_124 ⟨rt2, hc2, li2, re2, ow2, tc2, sb1, lc2, ⟨by rw [← hr2_, ← ht2_], by rw [← hr2_, ← ht2_]; exact hU2⟩, by rw [hz]; exact cz_c (fun p h1 h2 => by simp only [hsb1 p h1 h2])⟩
end CL
