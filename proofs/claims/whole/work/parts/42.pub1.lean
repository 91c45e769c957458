section CL
variable {p : Program} {l : Launch} {e : Env} {s : State} {m : MethodId} {args : Array Value} {below : List Frame} {meth : Method} {c : Code} {Q : State → Prop} {D : va_G} {cI cZ cJ : ClassId} {SL : List zS} {A : Nat → Prop} {a : Nat → Nat} {W D_ r sz : Int} {co ro ho ac al sd lf sq : Int → Int} {hs rs ts rt_ hc li re ow tc cp ck wa qp qt qs lo sb : Int → Int} {lc cn ch sk : Int}
abbrev rmLE_floor : Room := { frames := 0, cells := 0, slots := 0, locals := 0 }
set_option maxHeartbeats 4000000 in
set_option maxRecDepth 100000 in
theorem c_floor {w0 : va_W} {x : Int} (hx : ir x) : CI l D vwCl cI cZ cJ SL yLE_floor wsLE_floor rmLE_floor [.int (iZ x)] w0 (fun z w1 => z = x / 1048576 ∧ w1 = w0) := by
  refine tt_startI (by decide) rfl (Nat.le_of_ble_eq_true rfl) ?_
  intro p e s m args below meth c hnm F
  refine tt_iload_n F 0 rfl rfl dLE_floor_0 ?_
  refine tt_bipush F (by decide) dLE_floor_1 ?_
  refine tt_ishr F dLE_floor_3 ?_
  exact tt_iret F rfl (Nat.le_of_ble_eq_true rfl) (Nat.le_of_ble_eq_true rfl) dLE_floor_4 ⟨zshr_20 hx, rfl⟩
abbrev rmLE_isWhole : Room := { frames := 1, cells := 0, slots := 0, locals := 20 }
set_option maxHeartbeats 4000000 in
set_option maxRecDepth 100000 in
theorem c_isWhole {w0 : va_W} {x : Int} (hx : 0 ≤ x ∧ x ≤ 1000000000) : CI l D vwCl cI cZ cJ SL yLE_isWhole wsLE_isWhole rmLE_isWhole [.int (iZ x)] w0 (fun z w1 => z = bi (decide (x % 1048576 = 0)) ∧ w1 = w0) := by
  refine tt_startI (by decide) rfl (Nat.le_of_ble_eq_true rfl) ?_
  intro p e s m args below meth c hnm F
  refine tt_iload_n F 0 rfl rfl dLE_isWhole_0 ?_
  refine tt_cIS0 F (fun h => h) (As := [.int (iZ x)]) (c_floor (w0 := w0) (x := x) ⟨by omega, by omega⟩) (va_cwS 1 F.1.2.2.2.2 (gw_S wd587 wd582 wd50 wd583) rfl rfl rfl (by decide +kernel) ⟨(Nat.le_of_ble_eq_true rfl), (Nat.le_of_ble_eq_true rfl)⟩) rfl rfl rfl (Nat.le_of_ble_eq_true rfl) ⟨(Nat.le_of_ble_eq_true rfl), (Nat.le_of_ble_eq_true rfl)⟩ dLE_isWhole_1 (fun z1 w1 hp => ?_)
  obtain ⟨hz1, rfl⟩ := hp
  refine tt_ldc F (n := 1048576) we588 dLE_isWhole_4 ?_
  refine tt_imul F dLE_isWhole_6 ?_
  refine tt_iload_n F 0 rfl rfl dLE_isWhole_7 ?_
  refine tt_icmp_ne F 15 ⟨by omega, by omega⟩ ⟨by omega, by omega⟩ dLE_isWhole_8 (by decide) (fun c8 => ?_) (fun c8 => ?_)
  · skip
    refine tt_iconst F dLE_isWhole_15 ?_
    exact tt_zret F rfl (by omega) (Nat.le_of_ble_eq_true rfl) (Nat.le_of_ble_eq_true rfl) dLE_isWhole_16 ⟨by simp [bi]; omega, rfl⟩
  · skip
    refine tt_iconst F dLE_isWhole_11 ?_
    refine tt_goto F 16 (by decide) dLE_isWhole_12 ?_
    exact tt_zret F rfl (by omega) (Nat.le_of_ble_eq_true rfl) (Nat.le_of_ble_eq_true rfl) dLE_isWhole_16 ⟨by simp [bi]; omega, rfl⟩
abbrev rmJI_compare : Room := { frames := 0, cells := 0, slots := 0, locals := 0 }
set_option maxHeartbeats 4000000 in
set_option maxRecDepth 100000 in
theorem c_compare {w0 : va_W} {x y : Int} (hx : ir x) (hy : ir y) : CI l D vwCl cI cZ cJ SL yJI_compare wsJI_compare rmJI_compare [.int (iZ x), .int (iZ y)] w0 (fun z w1 => ((x < y ∧ z = -1) ∨ (x = y ∧ z = 0) ∨ (y < x ∧ z = 1)) ∧ w1 = w0) := by
  refine tt_startI (by decide) rfl (Nat.le_of_ble_eq_true rfl) ?_
  intro p e s m args below meth c hnm F
  refine tt_iload_n F 0 rfl rfl dJI_compare_0 ?_
  refine tt_iload_n F 1 rfl rfl dJI_compare_1 ?_
  refine tt_icmp_ge F 9 (hx) (hy) dJI_compare_2 (by decide) (fun c2 => ?_) (fun c2 => ?_)
  · skip
    refine tt_iload_n F 0 rfl rfl dJI_compare_9 ?_
    refine tt_iload_n F 1 rfl rfl dJI_compare_10 ?_
    refine tt_icmp_ne F 18 (hx) (hy) dJI_compare_11 (by decide) (fun c11 => ?_) (fun c11 => ?_)
    · skip
      refine tt_iconst F dJI_compare_18 ?_
      exact tt_iret F rfl (Nat.le_of_ble_eq_true rfl) (Nat.le_of_ble_eq_true rfl) dJI_compare_19 ⟨by omega, rfl⟩
    · skip
      refine tt_iconst F dJI_compare_14 ?_
      refine tt_goto F 19 (by decide) dJI_compare_15 ?_
      exact tt_iret F rfl (Nat.le_of_ble_eq_true rfl) (Nat.le_of_ble_eq_true rfl) dJI_compare_19 ⟨by omega, rfl⟩
  · skip
    refine tt_iconst F dJI_compare_5 ?_
    refine tt_goto F 19 (by decide) dJI_compare_6 ?_
    exact tt_iret F rfl (Nat.le_of_ble_eq_true rfl) (Nat.le_of_ble_eq_true rfl) dJI_compare_19 ⟨by omega, rfl⟩
abbrev rmRB_needNumber : Room := { frames := 0, cells := 0, slots := 0, locals := 0 }
def ssL : List (Nat × String) := [(183, "a number is out of its bounds"), (105, "what is not one of 0, 1, 2, 3"), (181, "k is below 0"), (150, "there are 4 candidates")]
set_option maxHeartbeats 4000000 in
set_option maxRecDepth 100000 in
theorem o_needNumber {w0 : va_W} {z a_ b_ : Int} (hz : ir z) (ha : ir a_) (hb : ir b_) (h : a_ ≤ z ∧ z ≤ b_) : CO l D vwCl cI cZ cJ SL yRB_needNumber wsRB_needNumber rmRB_needNumber [.int (iZ z), .int (iZ a_), .int (iZ b_)] w0 (fun v => v = none) := by
  refine tt_startO (by decide) rfl (Nat.le_of_ble_eq_true rfl) ?_
  intro p e s m args below meth c hnm F
  refine tt_iload_n F 0 rfl rfl dRB_needNumber_0 ?_
  refine tt_iload_n F 1 rfl rfl dRB_needNumber_1 ?_
  refine tt_icmp_lt F 10 (hz) (ha) dRB_needNumber_2 (by decide) (fun c2 => ?_) (fun c2 => ?_)
  · skip
    omega
  · skip
    refine tt_iload_n F 0 rfl rfl dRB_needNumber_5 ?_
    refine tt_iload_n F 2 rfl rfl dRB_needNumber_6 ?_
    refine tt_icmp_le F 20 (hz) (hb) dRB_needNumber_7 (by decide) (fun c7 => ?_) (fun c7 => ?_)
    · skip
      exact tt_vretO F rfl dRB_needNumber_20 (rfl)
    · skip
      omega
abbrev rmTRB_needNumber : Room := { frames := 6, cells := 1, slots := 6, locals := 90 }
set_option maxHeartbeats 4000000 in
set_option maxRecDepth 100000 in
theorem x_needNumber (hst : l.stackTraces = false) {w0 : va_W} {z a_ b_ : Int} (hz : ir z) (ha : ir a_) (hb : ir b_) (h : z < a_ ∨ b_ < z) : CY l D vwCl cI cZ cJ SL RRB ssL yRB_needNumber wsRB_needNumber rmTRB_needNumber [.int (iZ z), .int (iZ a_), .int (iZ b_)] w0 IAE := by
  refine ts_start (by decide) rfl (Nat.le_of_ble_eq_true rfl) ?_
  intro p e s m args below meth c F hex hsp
  refine tt_iload_n F 0 rfl rfl dRB_needNumber_0 ?_
  refine tt_iload_n F 1 rfl rfl dRB_needNumber_1 ?_
  refine tt_icmp_lt F 10 (hz) (ha) dRB_needNumber_2 (by decide) (fun c2 => ?_) (fun c2 => ?_)
  · skip
    exact ts_throw F hst hex hsp (cls := IAE) (names := ["java/lang/RuntimeException", "java/lang/Exception"]) 0 rfl (by decide +kernel) (by decide +kernel) we492 we57 (by decide +kernel) dRB_needNumber_10 dRB_needNumber_13 dRB_needNumber_14 dRB_needNumber_16 dRB_needNumber_19 (Nat.le_of_ble_eq_true rfl) (Nat.le_of_ble_eq_true rfl) (Nat.le_of_ble_eq_true rfl) (Nat.le_of_ble_eq_true rfl)
  · skip
    refine tt_iload_n F 0 rfl rfl dRB_needNumber_5 ?_
    refine tt_iload_n F 2 rfl rfl dRB_needNumber_6 ?_
    refine tt_icmp_le F 20 (hz) (hb) dRB_needNumber_7 (by decide) (fun c7 => ?_) (fun c7 => ?_)
    · skip
      omega
    · skip
      exact ts_throw F hst hex hsp (cls := IAE) (names := ["java/lang/RuntimeException", "java/lang/Exception"]) 0 rfl (by decide +kernel) (by decide +kernel) we492 we57 (by decide +kernel) dRB_needNumber_10 dRB_needNumber_13 dRB_needNumber_14 dRB_needNumber_16 dRB_needNumber_19 (Nat.le_of_ble_eq_true rfl) (Nat.le_of_ble_eq_true rfl) (Nat.le_of_ble_eq_true rfl) (Nat.le_of_ble_eq_true rfl)
abbrev rmRB_needIndex : Room := { frames := 0, cells := 0, slots := 0, locals := 0 }
set_option maxHeartbeats 4000000 in
set_option maxRecDepth 100000 in
theorem o_needIndex {w0 : va_W} {k : Int} (hk : ir k) (h : 0 ≤ k) : CO l D vwCl cI cZ cJ SL yRB_needIndex wsRB_needIndex rmRB_needIndex [.int (iZ k)] w0 (fun v => v = none) := by
  refine tt_startO (by decide) rfl (Nat.le_of_ble_eq_true rfl) ?_
  intro p e s m args below meth c hnm F
  refine tt_iload_n F 0 rfl rfl dRB_needIndex_0 ?_
  refine tt_if_ge F 14 (hk) dRB_needIndex_1 (by decide) (fun c1 => ?_) (fun c1 => ?_)
  · skip
    exact tt_vretO F rfl dRB_needIndex_14 (rfl)
  · skip
    omega
abbrev rmTRB_needIndex : Room := { frames := 6, cells := 1, slots := 6, locals := 90 }
set_option maxHeartbeats 4000000 in
set_option maxRecDepth 100000 in
theorem x_needIndex (hst : l.stackTraces = false) {w0 : va_W} {k : Int} (hk : ir k) (h : k < 0) : CY l D vwCl cI cZ cJ SL RRB ssL yRB_needIndex wsRB_needIndex rmTRB_needIndex [.int (iZ k)] w0 IAE := by
  refine ts_start (by decide) rfl (Nat.le_of_ble_eq_true rfl) ?_
  intro p e s m args below meth c F hex hsp
  refine tt_iload_n F 0 rfl rfl dRB_needIndex_0 ?_
  refine tt_if_ge F 14 (hk) dRB_needIndex_1 (by decide) (fun c1 => ?_) (fun c1 => ?_)
  · skip
    omega
  · skip
    exact ts_throw F hst hex hsp (cls := IAE) (names := ["java/lang/RuntimeException", "java/lang/Exception"]) 2 rfl (by decide +kernel) (by decide +kernel) we492 we57 (by decide +kernel) dRB_needIndex_4 dRB_needIndex_7 dRB_needIndex_8 dRB_needIndex_10 dRB_needIndex_13 (Nat.le_of_ble_eq_true rfl) (Nat.le_of_ble_eq_true rfl) (Nat.le_of_ble_eq_true rfl) (Nat.le_of_ble_eq_true rfl)
abbrev rmRB_pointAt : Room := { frames := 1, cells := 0, slots := 0, locals := 22 }
set_option maxHeartbeats 4000000 in
set_option maxRecDepth 100000 in
theorem o_pointAt {x y : Int} (hG : GE W D_ r sz co ro ho ac al sd lf sq) (h : (0 ≤ x ∧ x < W) ∧ 0 ≤ y ∧ y < D_) : CO l D vwCl cI cZ cJ SL yRB_pointAt wsRB_pointAt rmRB_pointAt [.ref (a 0), .int (iZ x), .int (iZ y)] (cW cI cZ a W D_ r sz co ro ho ac al sd lf sq hs rs ts rt_ hc li re ow tc cp ck wa qp qt qs lo sb lc cn ch sk) (fun v => v = some (.int (iZ (y * W + x)))) := by
  refine tt_startO (by decide) rfl (Nat.le_of_ble_eq_true rfl) ?_
  intro p e s m args below meth c hnm F
  obtain ⟨⟨hW1, hW2, hD1, hD2, hr1, hr2⟩, hGp, hGs, hGk, hGx, hGi, hGm, hGq⟩ := id hG
  have hWD := wd_b hW1 hW2 hD1 hD2
  have hPL := pl_b hW1 hW2 hD1 hD2 hr1 hr2
  have hSQ := sd_b hr1 hr2
  refine tt_iload_n F 1 rfl rfl dRB_pointAt_0 ?_
  refine tt_iconst F dRB_pointAt_1 ?_
  refine tt_aload_n F 0 rfl rfl dRB_pointAt_2 ?_
  refine tt_get F inRB 0 rfl rfl 0 (by decide) we286 rfl dRB_pointAt_3 ?_
  refine tt_iconst F dRB_pointAt_6 ?_
  refine tt_isub F dRB_pointAt_7 ?_
  refine tt_cOS F (As := [.int (iZ x), .int (iZ 0), .int (iZ (W - 1))]) [] (o_needNumber (w0 := (cW cI cZ a W D_ r sz co ro ho ac al sd lf sq hs rs ts rt_ hc li re ow tc cp ck wa qp qt qs lo sb lc cn ch sk)) (z := x) (a_ := 0) (b_ := W - 1) ⟨by omega, by omega⟩ ⟨by omega, by omega⟩ ⟨by omega, by omega⟩ (by omega)) (va_cwS 3 F.1.2.2.2.2 (gw_S wd489 wd490 wd45 wd491) rfl rfl rfl (by decide +kernel) ⟨(Nat.le_of_ble_eq_true rfl), (Nat.le_of_ble_eq_true rfl)⟩) rfl rfl rfl (Nat.le_of_ble_eq_true rfl) ⟨(Nat.le_of_ble_eq_true rfl), (Nat.le_of_ble_eq_true rfl)⟩ dRB_pointAt_8 (fun v8 hp => ?_)
  obtain rfl := hp
  refine tt_iload_n F 2 rfl rfl dRB_pointAt_11 ?_
  refine tt_iconst F dRB_pointAt_12 ?_
  refine tt_aload_n F 0 rfl rfl dRB_pointAt_13 ?_
  refine tt_get F inRB 0 rfl rfl 1 (by decide) we287 rfl dRB_pointAt_14 ?_
  refine tt_iconst F dRB_pointAt_17 ?_
  refine tt_isub F dRB_pointAt_18 ?_
  refine tt_cOS F (As := [.int (iZ y), .int (iZ 0), .int (iZ (D_ - 1))]) [] (o_needNumber (w0 := (cW cI cZ a W D_ r sz co ro ho ac al sd lf sq hs rs ts rt_ hc li re ow tc cp ck wa qp qt qs lo sb lc cn ch sk)) (z := y) (a_ := 0) (b_ := D_ - 1) ⟨by omega, by omega⟩ ⟨by omega, by omega⟩ ⟨by omega, by omega⟩ (by omega)) (va_cwS 3 F.1.2.2.2.2 (gw_S wd489 wd490 wd45 wd491) rfl rfl rfl (by decide +kernel) ⟨(Nat.le_of_ble_eq_true rfl), (Nat.le_of_ble_eq_true rfl)⟩) rfl rfl rfl (Nat.le_of_ble_eq_true rfl) ⟨(Nat.le_of_ble_eq_true rfl), (Nat.le_of_ble_eq_true rfl)⟩ dRB_pointAt_19 (fun v19 hp => ?_)
  obtain rfl := hp
  refine tt_iload_n F 2 rfl rfl dRB_pointAt_22 ?_
  refine tt_aload_n F 0 rfl rfl dRB_pointAt_23 ?_
  refine tt_get F inRB 0 rfl rfl 0 (by decide) we286 rfl dRB_pointAt_24 ?_
  refine tt_imul F dRB_pointAt_27 ?_
  refine tt_iload_n F 1 rfl rfl dRB_pointAt_28 ?_
  refine tt_iadd F dRB_pointAt_29 ?_
  exact tt_iretO F rfl dRB_pointAt_30 (rfl)
abbrev rmTRB_pointAt : Room := { frames := 7, cells := 1, slots := 6, locals := 112 }
set_option maxHeartbeats 4000000 in
set_option maxRecDepth 100000 in
theorem x_pointAt (hst : l.stackTraces = false) {x y : Int} (hG : GE W D_ r sz co ro ho ac al sd lf sq) (hx0 : ir x) (hy0 : ir y) (h : ¬ ((0 ≤ x ∧ x < W) ∧ 0 ≤ y ∧ y < D_)) : CY l D vwCl cI cZ cJ SL RRB ssL yRB_pointAt wsRB_pointAt rmTRB_pointAt [.ref (a 0), .int (iZ x), .int (iZ y)] (cW cI cZ a W D_ r sz co ro ho ac al sd lf sq hs rs ts rt_ hc li re ow tc cp ck wa qp qt qs lo sb lc cn ch sk) IAE := by
  refine ts_start (by decide) rfl (Nat.le_of_ble_eq_true rfl) ?_
  intro p e s m args below meth c F hex hsp
  obtain ⟨⟨hW1, hW2, hD1, hD2, hr1, hr2⟩, hGp, hGs, hGk, hGx, hGi, hGm, hGq⟩ := id hG
  have hWD := wd_b hW1 hW2 hD1 hD2
  have hPL := pl_b hW1 hW2 hD1 hD2 hr1 hr2
  have hSQ := sd_b hr1 hr2
  by_cases hx : 0 ≤ x ∧ x < W
  · skip
    refine tt_iload_n F 1 rfl rfl dRB_pointAt_0 ?_
    refine tt_iconst F dRB_pointAt_1 ?_
    refine tt_aload_n F 0 rfl rfl dRB_pointAt_2 ?_
    refine tt_get F inRB 0 rfl rfl 0 (by decide) we286 rfl dRB_pointAt_3 ?_
    refine tt_iconst F dRB_pointAt_6 ?_
    refine tt_isub F dRB_pointAt_7 ?_
    refine tt_cOS F (As := [.int (iZ x), .int (iZ 0), .int (iZ (W - 1))]) [] (o_needNumber (w0 := (cW cI cZ a W D_ r sz co ro ho ac al sd lf sq hs rs ts rt_ hc li re ow tc cp ck wa qp qt qs lo sb lc cn ch sk)) (z := x) (a_ := 0) (b_ := W - 1) ⟨by omega, by omega⟩ ⟨by omega, by omega⟩ ⟨by omega, by omega⟩ (by omega)) (va_cwS 3 F.1.2.2.2.2 (gw_S wd489 wd490 wd45 wd491) rfl rfl rfl (by decide +kernel) ⟨(Nat.le_of_ble_eq_true rfl), (Nat.le_of_ble_eq_true rfl)⟩) rfl rfl rfl (Nat.le_of_ble_eq_true rfl) ⟨(Nat.le_of_ble_eq_true rfl), (Nat.le_of_ble_eq_true rfl)⟩ dRB_pointAt_8 (fun v8 hp => ?_)
    obtain rfl := hp
    refine tt_iload_n F 2 rfl rfl dRB_pointAt_11 ?_
    refine tt_iconst F dRB_pointAt_12 ?_
    refine tt_aload_n F 0 rfl rfl dRB_pointAt_13 ?_
    refine tt_get F inRB 0 rfl rfl 1 (by decide) we287 rfl dRB_pointAt_14 ?_
    refine tt_iconst F dRB_pointAt_17 ?_
    refine tt_isub F dRB_pointAt_18 ?_
    exact ts_outS F hex hsp (As := [.int (iZ y), .int (iZ 0), .int (iZ (D_ - 1))]) [] (x_needNumber hst (w0 := (cW cI cZ a W D_ r sz co ro ho ac al sd lf sq hs rs ts rt_ hc li re ow tc cp ck wa qp qt qs lo sb lc cn ch sk)) (z := y) (a_ := 0) (b_ := D_ - 1) ⟨by omega, by omega⟩ ⟨by omega, by omega⟩ ⟨by omega, by omega⟩ (by omega)) (va_cwS 3 F.1.2.2.2.2 (gw_S wd489 wd490 wd45 wd491) rfl rfl rfl (by decide +kernel) ⟨(Nat.le_of_ble_eq_true rfl), (Nat.le_of_ble_eq_true rfl)⟩) rfl rfl rfl (Nat.le_of_ble_eq_true rfl) ⟨(Nat.le_of_ble_eq_true rfl), (Nat.le_of_ble_eq_true rfl)⟩ dRB_pointAt_19
  · skip
    refine tt_iload_n F 1 rfl rfl dRB_pointAt_0 ?_
    refine tt_iconst F dRB_pointAt_1 ?_
    refine tt_aload_n F 0 rfl rfl dRB_pointAt_2 ?_
    refine tt_get F inRB 0 rfl rfl 0 (by decide) we286 rfl dRB_pointAt_3 ?_
    refine tt_iconst F dRB_pointAt_6 ?_
    refine tt_isub F dRB_pointAt_7 ?_
    exact ts_outS F hex hsp (As := [.int (iZ x), .int (iZ 0), .int (iZ (W - 1))]) [] (x_needNumber hst (w0 := (cW cI cZ a W D_ r sz co ro ho ac al sd lf sq hs rs ts rt_ hc li re ow tc cp ck wa qp qt qs lo sb lc cn ch sk)) (z := x) (a_ := 0) (b_ := W - 1) ⟨by omega, by omega⟩ ⟨by omega, by omega⟩ ⟨by omega, by omega⟩ (by omega)) (va_cwS 3 F.1.2.2.2.2 (gw_S wd489 wd490 wd45 wd491) rfl rfl rfl (by decide +kernel) ⟨(Nat.le_of_ble_eq_true rfl), (Nat.le_of_ble_eq_true rfl)⟩) rfl rfl rfl (Nat.le_of_ble_eq_true rfl) ⟨(Nat.le_of_ble_eq_true rfl), (Nat.le_of_ble_eq_true rfl)⟩ dRB_pointAt_8
abbrev rmRB_needPlace : Room := { frames := 1, cells := 0, slots := 0, locals := 22 }
set_option maxHeartbeats 4000000 in
set_option maxRecDepth 100000 in
theorem o_needPlace {x y : Int} (hG : GE W D_ r sz co ro ho ac al sd lf sq) (h : (-r ≤ x ∧ x < W + r) ∧ -r ≤ y ∧ y < D_ + r) : CO l D vwCl cI cZ cJ SL yRB_needPlace wsRB_needPlace rmRB_needPlace [.ref (a 0), .int (iZ x), .int (iZ y)] (cW cI cZ a W D_ r sz co ro ho ac al sd lf sq hs rs ts rt_ hc li re ow tc cp ck wa qp qt qs lo sb lc cn ch sk) (fun v => v = none) := by
  refine tt_startO (by decide) rfl (Nat.le_of_ble_eq_true rfl) ?_
  intro p e s m args below meth c hnm F
  obtain ⟨⟨hW1, hW2, hD1, hD2, hr1, hr2⟩, hGp, hGs, hGk, hGx, hGi, hGm, hGq⟩ := id hG
  have hWD := wd_b hW1 hW2 hD1 hD2
  have hPL := pl_b hW1 hW2 hD1 hD2 hr1 hr2
  have hSQ := sd_b hr1 hr2
  refine tt_iload_n F 1 rfl rfl dRB_needPlace_0 ?_
  refine tt_aload_n F 0 rfl rfl dRB_needPlace_1 ?_
  refine tt_get F inRB 0 rfl rfl 2 (by decide) we288 rfl dRB_needPlace_2 ?_
  refine tt_ineg F dRB_needPlace_5 ?_
  refine tt_aload_n F 0 rfl rfl dRB_needPlace_6 ?_
  refine tt_get F inRB 0 rfl rfl 0 (by decide) we286 rfl dRB_needPlace_7 ?_
  refine tt_iconst F dRB_needPlace_10 ?_
  refine tt_isub F dRB_needPlace_11 ?_
  refine tt_aload_n F 0 rfl rfl dRB_needPlace_12 ?_
  refine tt_get F inRB 0 rfl rfl 2 (by decide) we288 rfl dRB_needPlace_13 ?_
  refine tt_iadd F dRB_needPlace_16 ?_
  refine tt_cOS F (As := [.int (iZ x), .int (iZ (-r)), .int (iZ ((W - 1) + r))]) [] (o_needNumber (w0 := (cW cI cZ a W D_ r sz co ro ho ac al sd lf sq hs rs ts rt_ hc li re ow tc cp ck wa qp qt qs lo sb lc cn ch sk)) (z := x) (a_ := -r) (b_ := (W - 1) + r) ⟨by omega, by omega⟩ ⟨by omega, by omega⟩ ⟨by omega, by omega⟩ (by omega)) (va_cwS 3 F.1.2.2.2.2 (gw_S wd489 wd490 wd45 wd491) rfl rfl rfl (by decide +kernel) ⟨(Nat.le_of_ble_eq_true rfl), (Nat.le_of_ble_eq_true rfl)⟩) rfl rfl rfl (Nat.le_of_ble_eq_true rfl) ⟨(Nat.le_of_ble_eq_true rfl), (Nat.le_of_ble_eq_true rfl)⟩ dRB_needPlace_17 (fun v17 hp => ?_)
  obtain rfl := hp
  refine tt_iload_n F 2 rfl rfl dRB_needPlace_20 ?_
  refine tt_aload_n F 0 rfl rfl dRB_needPlace_21 ?_
  refine tt_get F inRB 0 rfl rfl 2 (by decide) we288 rfl dRB_needPlace_22 ?_
  refine tt_ineg F dRB_needPlace_25 ?_
  refine tt_aload_n F 0 rfl rfl dRB_needPlace_26 ?_
  refine tt_get F inRB 0 rfl rfl 1 (by decide) we287 rfl dRB_needPlace_27 ?_
  refine tt_iconst F dRB_needPlace_30 ?_
  refine tt_isub F dRB_needPlace_31 ?_
  refine tt_aload_n F 0 rfl rfl dRB_needPlace_32 ?_
  refine tt_get F inRB 0 rfl rfl 2 (by decide) we288 rfl dRB_needPlace_33 ?_
  refine tt_iadd F dRB_needPlace_36 ?_
  refine tt_cOS F (As := [.int (iZ y), .int (iZ (-r)), .int (iZ ((D_ - 1) + r))]) [] (o_needNumber (w0 := (cW cI cZ a W D_ r sz co ro ho ac al sd lf sq hs rs ts rt_ hc li re ow tc cp ck wa qp qt qs lo sb lc cn ch sk)) (z := y) (a_ := -r) (b_ := (D_ - 1) + r) ⟨by omega, by omega⟩ ⟨by omega, by omega⟩ ⟨by omega, by omega⟩ (by omega)) (va_cwS 3 F.1.2.2.2.2 (gw_S wd489 wd490 wd45 wd491) rfl rfl rfl (by decide +kernel) ⟨(Nat.le_of_ble_eq_true rfl), (Nat.le_of_ble_eq_true rfl)⟩) rfl rfl rfl (Nat.le_of_ble_eq_true rfl) ⟨(Nat.le_of_ble_eq_true rfl), (Nat.le_of_ble_eq_true rfl)⟩ dRB_needPlace_37 (fun v37 hp => ?_)
  obtain rfl := hp
  exact tt_vretO F rfl dRB_needPlace_40 (rfl)
abbrev rmTRB_needPlace : Room := { frames := 7, cells := 1, slots := 6, locals := 112 }
set_option maxHeartbeats 4000000 in
set_option maxRecDepth 100000 in
theorem x_needPlace (hst : l.stackTraces = false) {x y : Int} (hG : GE W D_ r sz co ro ho ac al sd lf sq) (hx0 : ir x) (hy0 : ir y) (h : ¬ ((-r ≤ x ∧ x < W + r) ∧ -r ≤ y ∧ y < D_ + r)) : CY l D vwCl cI cZ cJ SL RRB ssL yRB_needPlace wsRB_needPlace rmTRB_needPlace [.ref (a 0), .int (iZ x), .int (iZ y)] (cW cI cZ a W D_ r sz co ro ho ac al sd lf sq hs rs ts rt_ hc li re ow tc cp ck wa qp qt qs lo sb lc cn ch sk) IAE := by
  refine ts_start (by decide) rfl (Nat.le_of_ble_eq_true rfl) ?_
  intro p e s m args below meth c F hex hsp
  obtain ⟨⟨hW1, hW2, hD1, hD2, hr1, hr2⟩, hGp, hGs, hGk, hGx, hGi, hGm, hGq⟩ := id hG
  have hWD := wd_b hW1 hW2 hD1 hD2
  have hPL := pl_b hW1 hW2 hD1 hD2 hr1 hr2
  have hSQ := sd_b hr1 hr2
  by_cases hx : -r ≤ x ∧ x < W + r
  · skip
    refine tt_iload_n F 1 rfl rfl dRB_needPlace_0 ?_
    refine tt_aload_n F 0 rfl rfl dRB_needPlace_1 ?_
    refine tt_get F inRB 0 rfl rfl 2 (by decide) we288 rfl dRB_needPlace_2 ?_
    refine tt_ineg F dRB_needPlace_5 ?_
    refine tt_aload_n F 0 rfl rfl dRB_needPlace_6 ?_
    refine tt_get F inRB 0 rfl rfl 0 (by decide) we286 rfl dRB_needPlace_7 ?_
    refine tt_iconst F dRB_needPlace_10 ?_
    refine tt_isub F dRB_needPlace_11 ?_
    refine tt_aload_n F 0 rfl rfl dRB_needPlace_12 ?_
    refine tt_get F inRB 0 rfl rfl 2 (by decide) we288 rfl dRB_needPlace_13 ?_
    refine tt_iadd F dRB_needPlace_16 ?_
    refine tt_cOS F (As := [.int (iZ x), .int (iZ (-r)), .int (iZ ((W - 1) + r))]) [] (o_needNumber (w0 := (cW cI cZ a W D_ r sz co ro ho ac al sd lf sq hs rs ts rt_ hc li re ow tc cp ck wa qp qt qs lo sb lc cn ch sk)) (z := x) (a_ := -r) (b_ := (W - 1) + r) ⟨by omega, by omega⟩ ⟨by omega, by omega⟩ ⟨by omega, by omega⟩ (by omega)) (va_cwS 3 F.1.2.2.2.2 (gw_S wd489 wd490 wd45 wd491) rfl rfl rfl (by decide +kernel) ⟨(Nat.le_of_ble_eq_true rfl), (Nat.le_of_ble_eq_true rfl)⟩) rfl rfl rfl (Nat.le_of_ble_eq_true rfl) ⟨(Nat.le_of_ble_eq_true rfl), (Nat.le_of_ble_eq_true rfl)⟩ dRB_needPlace_17 (fun v17 hp => ?_)
    obtain rfl := hp
    refine tt_iload_n F 2 rfl rfl dRB_needPlace_20 ?_
    refine tt_aload_n F 0 rfl rfl dRB_needPlace_21 ?_
    refine tt_get F inRB 0 rfl rfl 2 (by decide) we288 rfl dRB_needPlace_22 ?_
    refine tt_ineg F dRB_needPlace_25 ?_
    refine tt_aload_n F 0 rfl rfl dRB_needPlace_26 ?_
    refine tt_get F inRB 0 rfl rfl 1 (by decide) we287 rfl dRB_needPlace_27 ?_
    refine tt_iconst F dRB_needPlace_30 ?_
    refine tt_isub F dRB_needPlace_31 ?_
    refine tt_aload_n F 0 rfl rfl dRB_needPlace_32 ?_
    refine tt_get F inRB 0 rfl rfl 2 (by decide) we288 rfl dRB_needPlace_33 ?_
    refine tt_iadd F dRB_needPlace_36 ?_
    exact ts_outS F hex hsp (As := [.int (iZ y), .int (iZ (-r)), .int (iZ ((D_ - 1) + r))]) [] (x_needNumber hst (w0 := (cW cI cZ a W D_ r sz co ro ho ac al sd lf sq hs rs ts rt_ hc li re ow tc cp ck wa qp qt qs lo sb lc cn ch sk)) (z := y) (a_ := -r) (b_ := (D_ - 1) + r) ⟨by omega, by omega⟩ ⟨by omega, by omega⟩ ⟨by omega, by omega⟩ (by omega)) (va_cwS 3 F.1.2.2.2.2 (gw_S wd489 wd490 wd45 wd491) rfl rfl rfl (by decide +kernel) ⟨(Nat.le_of_ble_eq_true rfl), (Nat.le_of_ble_eq_true rfl)⟩) rfl rfl rfl (Nat.le_of_ble_eq_true rfl) ⟨(Nat.le_of_ble_eq_true rfl), (Nat.le_of_ble_eq_true rfl)⟩ dRB_needPlace_37
  · skip
    refine tt_iload_n F 1 rfl rfl dRB_needPlace_0 ?_
    refine tt_aload_n F 0 rfl rfl dRB_needPlace_1 ?_
    refine tt_get F inRB 0 rfl rfl 2 (by decide) we288 rfl dRB_needPlace_2 ?_
    refine tt_ineg F dRB_needPlace_5 ?_
    refine tt_aload_n F 0 rfl rfl dRB_needPlace_6 ?_
    refine tt_get F inRB 0 rfl rfl 0 (by decide) we286 rfl dRB_needPlace_7 ?_
    refine tt_iconst F dRB_needPlace_10 ?_
    refine tt_isub F dRB_needPlace_11 ?_
    refine tt_aload_n F 0 rfl rfl dRB_needPlace_12 ?_
    refine tt_get F inRB 0 rfl rfl 2 (by decide) we288 rfl dRB_needPlace_13 ?_
    refine tt_iadd F dRB_needPlace_16 ?_
    exact ts_outS F hex hsp (As := [.int (iZ x), .int (iZ (-r)), .int (iZ ((W - 1) + r))]) [] (x_needNumber hst (w0 := (cW cI cZ a W D_ r sz co ro ho ac al sd lf sq hs rs ts rt_ hc li re ow tc cp ck wa qp qt qs lo sb lc cn ch sk)) (z := x) (a_ := -r) (b_ := (W - 1) + r) ⟨by omega, by omega⟩ ⟨by omega, by omega⟩ ⟨by omega, by omega⟩ (by omega)) (va_cwS 3 F.1.2.2.2.2 (gw_S wd489 wd490 wd45 wd491) rfl rfl rfl (by decide +kernel) ⟨(Nat.le_of_ble_eq_true rfl), (Nat.le_of_ble_eq_true rfl)⟩) rfl rfl rfl (Nat.le_of_ble_eq_true rfl) ⟨(Nat.le_of_ble_eq_true rfl), (Nat.le_of_ble_eq_true rfl)⟩ dRB_needPlace_17
abbrev rmRB_numberOf : Room := { frames := 0, cells := 0, slots := 0, locals := 0 }
set_option maxHeartbeats 4000000 in
set_option maxRecDepth 100000 in
theorem c_numberOf {q : Int} (hG : GE W D_ r sz co ro ho ac al sd lf sq) (hq : 0 ≤ q ∧ q < W * D_) : CI l D vwCl cI cZ cJ SL yRB_numberOf wsRB_numberOf rmRB_numberOf [.ref (a 0), .int (iZ q)] (cW cI cZ a W D_ r sz co ro ho ac al sd lf sq hs rs ts rt_ hc li re ow tc cp ck wa qp qt qs lo sb lc cn ch sk) (fun z w1 => z = 100 * (q / W) + q % W ∧ w1 = (cW cI cZ a W D_ r sz co ro ho ac al sd lf sq hs rs ts rt_ hc li re ow tc cp ck wa qp qt qs lo sb lc cn ch sk)) := by
  refine tt_startI (by decide) rfl (Nat.le_of_ble_eq_true rfl) ?_
  intro p e s m args below meth c hnm F
  obtain ⟨⟨hW1, hW2, hD1, hD2, hr1, hr2⟩, hGp, hGs, hGk, hGx, hGi, hGm, hGq⟩ := id hG
  have hWD := wd_b hW1 hW2 hD1 hD2
  have hPL := pl_b hW1 hW2 hD1 hD2 hr1 hr2
  have hSQ := sd_b hr1 hr2
  have hgp := ge_p hG hq.1 hq.2
  refine tt_bipush F (by decide) dRB_numberOf_0 ?_
  refine tt_aload_n F 0 rfl rfl dRB_numberOf_2 ?_
  refine tt_get F inRB 0 rfl rfl 3 (by decide) we289 rfl dRB_numberOf_3 ?_
  refine tt_get F inHO 1 rfl rfl 4 (by decide) we99 rfl dRB_numberOf_6 ?_
  refine tt_iload_n F 1 rfl rfl dRB_numberOf_9 ?_
  refine tt_iald F 3 rfl (by omega) (by omega) (by omega) dRB_numberOf_10 ?_
  refine tt_name (fun rv hrv => ?_)
  refine tt_imul F dRB_numberOf_11 ?_
  refine tt_aload_n F 0 rfl rfl dRB_numberOf_12 ?_
  refine tt_get F inRB 0 rfl rfl 3 (by decide) we289 rfl dRB_numberOf_13 ?_
  refine tt_get F inHO 1 rfl rfl 3 (by decide) we95 rfl dRB_numberOf_16 ?_
  refine tt_iload_n F 1 rfl rfl dRB_numberOf_19 ?_
  refine tt_iald F 2 rfl (by omega) (by omega) (by omega) dRB_numberOf_20 ?_
  refine tt_name (fun cv hcv => ?_)
  refine tt_iadd F dRB_numberOf_21 ?_
  exact tt_iret F rfl (Nat.le_of_ble_eq_true rfl) (Nat.le_of_ble_eq_true rfl) dRB_numberOf_22 ⟨by omega, rfl⟩
abbrev rmPL_isFull : Room := { frames := 0, cells := 0, slots := 0, locals := 0 }
set_option maxHeartbeats 4000000 in
set_option maxRecDepth 100000 in
theorem o_isFull  (hcn : 0 ≤ cn ∧ cn ≤ 4) : CO l D vwCl cI cZ cJ SL yPL_isFull wsPL_isFull rmPL_isFull [.ref (a 21)] (cW cI cZ a W D_ r sz co ro ho ac al sd lf sq hs rs ts rt_ hc li re ow tc cp ck wa qp qt qs lo sb lc cn ch sk) (fun v => ∃ z, v = some (.int (iZ z)) ∧ ((z = 1 ∧ cn = 4) ∨ (z = 0 ∧ cn < 4))) := by
  refine tt_startO (by decide) rfl (Nat.le_of_ble_eq_true rfl) ?_
  intro p e s m args below meth c hnm F
  refine tt_aload_n F 0 rfl rfl dPL_isFull_0 ?_
  refine tt_get F inPL 21 rfl rfl 2 (by decide) we248 rfl dPL_isFull_1 ?_
  refine tt_iconst F dPL_isFull_4 ?_
  refine tt_icmp_lt F 12 ⟨by omega, by omega⟩ ⟨by omega, by omega⟩ dPL_isFull_5 (by decide) (fun c5 => ?_) (fun c5 => ?_)
  · skip
    refine tt_iconst F dPL_isFull_12 ?_
    exact tt_zretO F rfl (by omega) dPL_isFull_13 (⟨_, rfl, by omega⟩)
  · skip
    refine tt_iconst F dPL_isFull_8 ?_
    refine tt_goto F 13 (by decide) dPL_isFull_9 ?_
    exact tt_zretO F rfl (by omega) dPL_isFull_13 (⟨_, rfl, by omega⟩)
end CL
