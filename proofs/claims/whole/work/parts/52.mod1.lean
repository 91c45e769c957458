/-- the model's world -/
def mW (cI cZ : ClassId) (ad : Nat → Nat) (W D_ r : Int) (hM rM tM wM mp mk wh sM hi vS : Int → Int) (cd mn : Int) : va_W := [
  (ad 0, .inr (5, [.int (iZ cd), .int (iZ W), .int (iZ D_), .int (iZ r), .ref (ad 1), .ref (ad 2), .ref (ad 3), .ref (ad 4), .int (iZ mn), .ref (ad 5), .ref (ad 6), .ref (ad 7), .ref (ad 8), .ref (ad 9), .ref (ad 10)])),
  (ad 1, aI cI 144 hM),
  (ad 2, aI cI 144 rM),
  (ad 3, aI cI 144 tM),
  (ad 4, aI cZ 144 wM),
  (ad 5, aI cI 4 mp),
  (ad 6, aI cI 4 mk),
  (ad 7, aI cI 1024 wh),
  (ad 8, aI cI 1024 sM),
  (ad 9, aI cI 144 hi),
  (ad 10, aI cZ 144 vS)]
section MOD1
variable {p : Program} {l : Launch} {e : Env} {s : State} {m : MethodId} {args : Array Value} {below : List Frame} {meth : Method} {c : Code} {Q : State → Prop} {D : va_G} {cI cZ cJ : ClassId} {SL : List zS} {A : Nat → Prop} {ad : Nat → Nat} {W D_ r : Int} {hM rM tM wM mp mk wh sM hi vS : Int → Int} {cd mn : Int}
abbrev rmMO_nearest : Room := { frames := 0, cells := 0, slots := 0, locals := 0 }
set_option maxHeartbeats 4000000 in
set_option maxRecDepth 100000 in
theorem o_nearest {w0 : va_W} {z q : Int} (hz : ir z) (hq : 1 ≤ q ∧ q ≤ 100) : CO l D vwCl cI cZ cJ SL yMO_nearest wsMO_nearest rmMO_nearest [.int (iZ z), .int (iZ q)] w0 (fun v => ∃ k, v = some (.int (iZ k)) ∧ ((z < 1 ∧ k = 1) ∨ (1 ≤ z ∧ z ≤ q ∧ k = z) ∨ (q < z ∧ k = q))) := by
  refine tt_startO (by decide) rfl (Nat.le_of_ble_eq_true rfl) ?_
  intro p e s m args below meth c hnm F
  refine tt_iload_n F 0 rfl rfl dMO_nearest_0 ?_
  refine tt_iconst F dMO_nearest_1 ?_
  refine tt_icmp_ge F 9 ⟨by omega, by omega⟩ ⟨by omega, by omega⟩ dMO_nearest_2 (by decide) (fun c2 => ?_) (fun c2 => ?_)
  · skip
    refine tt_iload_n F 0 rfl rfl dMO_nearest_9 ?_
    refine tt_iload_n F 1 rfl rfl dMO_nearest_10 ?_
    refine tt_icmp_le F 18 ⟨by omega, by omega⟩ ⟨by omega, by omega⟩ dMO_nearest_11 (by decide) (fun c11 => ?_) (fun c11 => ?_)
    · skip
      refine tt_iload_n F 0 rfl rfl dMO_nearest_18 ?_
      exact tt_iretO F rfl dMO_nearest_19 (⟨_, rfl, by omega⟩)
    · skip
      refine tt_iload_n F 1 rfl rfl dMO_nearest_14 ?_
      refine tt_goto F 19 (by decide) dMO_nearest_15 ?_
      exact tt_iretO F rfl dMO_nearest_19 (⟨_, rfl, by omega⟩)
  · skip
    refine tt_iconst F dMO_nearest_5 ?_
    refine tt_goto F 19 (by decide) dMO_nearest_6 ?_
    exact tt_iretO F rfl dMO_nearest_19 (⟨_, rfl, by omega⟩)
abbrev rmMO_in : Room := { frames := 0, cells := 0, slots := 0, locals := 0 }
set_option maxHeartbeats 4000000 in
set_option maxRecDepth 100000 in
theorem o_in {w0 : va_W} {z a_ b_ : Int} (hz : ir z) (ha : ir a_) (hb : ir b_) : CO l D vwCl cI cZ cJ SL yMO_in wsMO_in rmMO_in [.int (iZ z), .int (iZ a_), .int (iZ b_)] w0 (fun v => ∃ k, v = some (.int (iZ k)) ∧ ((k = 1 ∧ a_ ≤ z ∧ z ≤ b_) ∨ (k = 0 ∧ (z < a_ ∨ b_ < z)))) := by
  refine tt_startO (by decide) rfl (Nat.le_of_ble_eq_true rfl) ?_
  intro p e s m args below meth c hnm F
  refine tt_iload_n F 0 rfl rfl dMO_in_0 ?_
  refine tt_iload_n F 1 rfl rfl dMO_in_1 ?_
  refine tt_icmp_lt F 14 ⟨by omega, by omega⟩ ⟨by omega, by omega⟩ dMO_in_2 (by decide) (fun c2 => ?_) (fun c2 => ?_)
  · skip
    refine tt_iconst F dMO_in_14 ?_
    exact tt_zretO F rfl (by omega) dMO_in_15 (⟨_, rfl, by omega⟩)
  · skip
    refine tt_iload_n F 0 rfl rfl dMO_in_5 ?_
    refine tt_iload_n F 2 rfl rfl dMO_in_6 ?_
    refine tt_icmp_gt F 14 ⟨by omega, by omega⟩ ⟨by omega, by omega⟩ dMO_in_7 (by decide) (fun c7 => ?_) (fun c7 => ?_)
    · skip
      refine tt_iconst F dMO_in_14 ?_
      exact tt_zretO F rfl (by omega) dMO_in_15 (⟨_, rfl, by omega⟩)
    · skip
      refine tt_iconst F dMO_in_10 ?_
      refine tt_goto F 15 (by decide) dMO_in_11 ?_
      exact tt_zretO F rfl (by omega) dMO_in_15 (⟨_, rfl, by omega⟩)
abbrev rmMO_isPoint : Room := { frames := 1, cells := 0, slots := 0, locals := 22 }
set_option maxHeartbeats 4000000 in
set_option maxRecDepth 100000 in
theorem o_isPoint {x y : Int} (hg : 1 ≤ W ∧ W ≤ 12 ∧ 1 ≤ D_ ∧ D_ ≤ 12 ∧ 1 ≤ r ∧ r ≤ 10) (hx : ir x) (hy : ir y) : CO l D vwCl cI cZ cJ SL yMO_isPoint wsMO_isPoint rmMO_isPoint [.ref (ad 0), .int (iZ x), .int (iZ y)] (mW cI cZ ad W D_ r hM rM tM wM mp mk wh sM hi vS cd mn) (fun v => ∃ k, v = some (.int (iZ k)) ∧ ((k = 1 ∧ ((0 ≤ x ∧ x < W) ∧ 0 ≤ y ∧ y < D_)) ∨ (k = 0 ∧ ¬ ((0 ≤ x ∧ x < W) ∧ 0 ≤ y ∧ y < D_)))) := by
  refine tt_startO (by decide) rfl (Nat.le_of_ble_eq_true rfl) ?_
  intro p e s m args below meth c hnm F
  obtain ⟨hW1, hW2, hD1, hD2, hr1, hr2⟩ := id hg
  refine tt_iload_n F 1 rfl rfl dMO_isPoint_0 ?_
  refine tt_iconst F dMO_isPoint_1 ?_
  refine tt_aload_n F 0 rfl rfl dMO_isPoint_2 ?_
  refine tt_get F inMO 0 rfl rfl 1 (by decide) we699 rfl dMO_isPoint_3 ?_
  refine tt_iconst F dMO_isPoint_6 ?_
  refine tt_isub F dMO_isPoint_7 ?_
  refine tt_cOS F (As := [.int (iZ x), .int (iZ 0), .int (iZ (W - 1))]) [] (o_in (by omega) (by omega) (by omega)) (va_cwS 3 F.1.2.2.2.2 (gw_S wd756 wd757 wd53 wd758) rfl rfl rfl (by decide +kernel) ⟨(Nat.le_of_ble_eq_true rfl), (Nat.le_of_ble_eq_true rfl)⟩) rfl rfl rfl (Nat.le_of_ble_eq_true rfl) ⟨(Nat.le_of_ble_eq_true rfl), (Nat.le_of_ble_eq_true rfl)⟩ dMO_isPoint_8 (fun v8 hp => ?_)
  obtain ⟨z8, rfl, hz8⟩ := hp
  have hb8 := zb_b hz8
  refine tt_if_eq F 32 ⟨by omega, by omega⟩ dMO_isPoint_11 (by decide) (fun c11 => ?_) (fun c11 => ?_)
  · skip
    refine tt_iconst F dMO_isPoint_32 ?_
    exact tt_zretO F rfl (by omega) dMO_isPoint_33 (⟨_, rfl, by omega⟩)
  · skip
    refine tt_iload_n F 2 rfl rfl dMO_isPoint_14 ?_
    refine tt_iconst F dMO_isPoint_15 ?_
    refine tt_aload_n F 0 rfl rfl dMO_isPoint_16 ?_
    refine tt_get F inMO 0 rfl rfl 2 (by decide) we700 rfl dMO_isPoint_17 ?_
    refine tt_iconst F dMO_isPoint_20 ?_
    refine tt_isub F dMO_isPoint_21 ?_
    refine tt_cOS F (As := [.int (iZ y), .int (iZ 0), .int (iZ (D_ - 1))]) [] (o_in (by omega) (by omega) (by omega)) (va_cwS 3 F.1.2.2.2.2 (gw_S wd756 wd757 wd53 wd758) rfl rfl rfl (by decide +kernel) ⟨(Nat.le_of_ble_eq_true rfl), (Nat.le_of_ble_eq_true rfl)⟩) rfl rfl rfl (Nat.le_of_ble_eq_true rfl) ⟨(Nat.le_of_ble_eq_true rfl), (Nat.le_of_ble_eq_true rfl)⟩ dMO_isPoint_22 (fun v22 hp => ?_)
    obtain ⟨z22, rfl, hz22⟩ := hp
    have hb22 := zb_b hz22
    refine tt_if_eq F 32 ⟨by omega, by omega⟩ dMO_isPoint_25 (by decide) (fun c25 => ?_) (fun c25 => ?_)
    · skip
      refine tt_iconst F dMO_isPoint_32 ?_
      exact tt_zretO F rfl (by omega) dMO_isPoint_33 (⟨_, rfl, by omega⟩)
    · skip
      refine tt_iconst F dMO_isPoint_28 ?_
      refine tt_goto F 33 (by decide) dMO_isPoint_29 ?_
      exact tt_zretO F rfl (by omega) dMO_isPoint_33 (⟨_, rfl, by omega⟩)
abbrev rmMO_isPlace : Room := { frames := 1, cells := 0, slots := 0, locals := 22 }
set_option maxHeartbeats 4000000 in
set_option maxRecDepth 100000 in
theorem o_isPlace {x y : Int} (hg : 1 ≤ W ∧ W ≤ 12 ∧ 1 ≤ D_ ∧ D_ ≤ 12 ∧ 1 ≤ r ∧ r ≤ 10) (hx : ir x) (hy : ir y) : CO l D vwCl cI cZ cJ SL yMO_isPlace wsMO_isPlace rmMO_isPlace [.ref (ad 0), .int (iZ x), .int (iZ y)] (mW cI cZ ad W D_ r hM rM tM wM mp mk wh sM hi vS cd mn) (fun v => ∃ k, v = some (.int (iZ k)) ∧ ((k = 1 ∧ ((-r ≤ x ∧ x < W + r) ∧ -r ≤ y ∧ y < D_ + r)) ∨ (k = 0 ∧ ¬ ((-r ≤ x ∧ x < W + r) ∧ -r ≤ y ∧ y < D_ + r)))) := by
  refine tt_startO (by decide) rfl (Nat.le_of_ble_eq_true rfl) ?_
  intro p e s m args below meth c hnm F
  obtain ⟨hW1, hW2, hD1, hD2, hr1, hr2⟩ := id hg
  refine tt_iload_n F 1 rfl rfl dMO_isPlace_0 ?_
  refine tt_aload_n F 0 rfl rfl dMO_isPlace_1 ?_
  refine tt_get F inMO 0 rfl rfl 3 (by decide) we701 rfl dMO_isPlace_2 ?_
  refine tt_ineg F dMO_isPlace_5 ?_
  refine tt_aload_n F 0 rfl rfl dMO_isPlace_6 ?_
  refine tt_get F inMO 0 rfl rfl 1 (by decide) we699 rfl dMO_isPlace_7 ?_
  refine tt_iconst F dMO_isPlace_10 ?_
  refine tt_isub F dMO_isPlace_11 ?_
  refine tt_aload_n F 0 rfl rfl dMO_isPlace_12 ?_
  refine tt_get F inMO 0 rfl rfl 3 (by decide) we701 rfl dMO_isPlace_13 ?_
  refine tt_iadd F dMO_isPlace_16 ?_
  refine tt_cOS F (As := [.int (iZ x), .int (iZ (-r)), .int (iZ ((W - 1) + r))]) [] (o_in (by omega) (by omega) (by omega)) (va_cwS 3 F.1.2.2.2.2 (gw_S wd756 wd757 wd53 wd758) rfl rfl rfl (by decide +kernel) ⟨(Nat.le_of_ble_eq_true rfl), (Nat.le_of_ble_eq_true rfl)⟩) rfl rfl rfl (Nat.le_of_ble_eq_true rfl) ⟨(Nat.le_of_ble_eq_true rfl), (Nat.le_of_ble_eq_true rfl)⟩ dMO_isPlace_17 (fun v17 hp => ?_)
  obtain ⟨z17, rfl, hz17⟩ := hp
  have hb17 := zb_b hz17
  refine tt_if_eq F 50 ⟨by omega, by omega⟩ dMO_isPlace_20 (by decide) (fun c20 => ?_) (fun c20 => ?_)
  · skip
    refine tt_iconst F dMO_isPlace_50 ?_
    exact tt_zretO F rfl (by omega) dMO_isPlace_51 (⟨_, rfl, by omega⟩)
  · skip
    refine tt_iload_n F 2 rfl rfl dMO_isPlace_23 ?_
    refine tt_aload_n F 0 rfl rfl dMO_isPlace_24 ?_
    refine tt_get F inMO 0 rfl rfl 3 (by decide) we701 rfl dMO_isPlace_25 ?_
    refine tt_ineg F dMO_isPlace_28 ?_
    refine tt_aload_n F 0 rfl rfl dMO_isPlace_29 ?_
    refine tt_get F inMO 0 rfl rfl 2 (by decide) we700 rfl dMO_isPlace_30 ?_
    refine tt_iconst F dMO_isPlace_33 ?_
    refine tt_isub F dMO_isPlace_34 ?_
    refine tt_aload_n F 0 rfl rfl dMO_isPlace_35 ?_
    refine tt_get F inMO 0 rfl rfl 3 (by decide) we701 rfl dMO_isPlace_36 ?_
    refine tt_iadd F dMO_isPlace_39 ?_
    refine tt_cOS F (As := [.int (iZ y), .int (iZ (-r)), .int (iZ ((D_ - 1) + r))]) [] (o_in (by omega) (by omega) (by omega)) (va_cwS 3 F.1.2.2.2.2 (gw_S wd756 wd757 wd53 wd758) rfl rfl rfl (by decide +kernel) ⟨(Nat.le_of_ble_eq_true rfl), (Nat.le_of_ble_eq_true rfl)⟩) rfl rfl rfl (Nat.le_of_ble_eq_true rfl) ⟨(Nat.le_of_ble_eq_true rfl), (Nat.le_of_ble_eq_true rfl)⟩ dMO_isPlace_40 (fun v40 hp => ?_)
    obtain ⟨z40, rfl, hz40⟩ := hp
    have hb40 := zb_b hz40
    refine tt_if_eq F 50 ⟨by omega, by omega⟩ dMO_isPlace_43 (by decide) (fun c43 => ?_) (fun c43 => ?_)
    · skip
      refine tt_iconst F dMO_isPlace_50 ?_
      exact tt_zretO F rfl (by omega) dMO_isPlace_51 (⟨_, rfl, by omega⟩)
    · skip
      refine tt_iconst F dMO_isPlace_46 ?_
      refine tt_goto F 51 (by decide) dMO_isPlace_47 ?_
      exact tt_zretO F rfl (by omega) dMO_isPlace_51 (⟨_, rfl, by omega⟩)
abbrev rmMO_spot : Room := { frames := 0, cells := 0, slots := 0, locals := 0 }
set_option maxHeartbeats 4000000 in
set_option maxRecDepth 100000 in
theorem o_spot {w0 : va_W} {x y : Int}  : CO l D vwCl cI cZ cJ SL yMO_spot wsMO_spot rmMO_spot [.int (iZ x), .int (iZ y)] w0 (fun v => v = some (.int (iZ (12 * y + x)))) := by
  refine tt_startO (by decide) rfl (Nat.le_of_ble_eq_true rfl) ?_
  intro p e s m args below meth c hnm F
  refine tt_bipush F (by decide) dMO_spot_0 ?_
  refine tt_iload_n F 1 rfl rfl dMO_spot_2 ?_
  refine tt_imul F dMO_spot_3 ?_
  refine tt_iload_n F 0 rfl rfl dMO_spot_4 ?_
  refine tt_iadd F dMO_spot_5 ?_
  exact tt_iretO F rfl dMO_spot_6 (rfl)
abbrev rmMO_across : Room := { frames := 0, cells := 0, slots := 0, locals := 0 }
set_option maxHeartbeats 4000000 in
set_option maxRecDepth 100000 in
theorem o_across   : CO l D vwCl cI cZ cJ SL yMO_across wsMO_across rmMO_across [.ref (ad 0)] (mW cI cZ ad W D_ r hM rM tM wM mp mk wh sM hi vS cd mn) (fun v => v = some (.int (iZ (W + 2 * r)))) := by
  refine tt_startO (by decide) rfl (Nat.le_of_ble_eq_true rfl) ?_
  intro p e s m args below meth c hnm F
  refine tt_aload_n F 0 rfl rfl dMO_across_0 ?_
  refine tt_get F inMO 0 rfl rfl 1 (by decide) we699 rfl dMO_across_1 ?_
  refine tt_iconst F dMO_across_4 ?_
  refine tt_aload_n F 0 rfl rfl dMO_across_5 ?_
  refine tt_get F inMO 0 rfl rfl 3 (by decide) we701 rfl dMO_across_6 ?_
  refine tt_imul F dMO_across_9 ?_
  refine tt_iadd F dMO_across_10 ?_
  exact tt_iretO F rfl dMO_across_11 (rfl)
abbrev rmMO_places : Room := { frames := 1, cells := 0, slots := 0, locals := 20 }
set_option maxHeartbeats 4000000 in
set_option maxRecDepth 100000 in
theorem o_places   : CO l D vwCl cI cZ cJ SL yMO_places wsMO_places rmMO_places [.ref (ad 0)] (mW cI cZ ad W D_ r hM rM tM wM mp mk wh sM hi vS cd mn) (fun v => v = some (.int (iZ ((W + 2 * r) * (D_ + 2 * r))))) := by
  refine tt_startO (by decide) rfl (Nat.le_of_ble_eq_true rfl) ?_
  intro p e s m args below meth c hnm F
  refine tt_aload_n F 0 rfl rfl dMO_places_0 ?_
  refine tt_cOV F (As := []) [] 0 rfl rfl (o_across (hM := hM) (rM := rM) (tM := tM) (wM := wM) (mp := mp) (mk := mk) (wh := wh) (sM := sM) (hi := hi) (vS := vS) (cd := cd) (mn := mn)) (cwV 0 F.1.2.2.2.2 (gw_V wd786 wd788 wd34 wd53 wd789) rfl rfl rfl (by decide +kernel) ⟨(Nat.le_of_ble_eq_true rfl), (Nat.le_of_ble_eq_true rfl)⟩) rfl rfl rfl (Nat.le_of_ble_eq_true rfl) ⟨(Nat.le_of_ble_eq_true rfl), (Nat.le_of_ble_eq_true rfl)⟩ dMO_places_1 (fun v1 hp => ?_)
  subst hp
  refine tt_aload_n F 0 rfl rfl dMO_places_4 ?_
  refine tt_get F inMO 0 rfl rfl 2 (by decide) we700 rfl dMO_places_5 ?_
  refine tt_iconst F dMO_places_8 ?_
  refine tt_aload_n F 0 rfl rfl dMO_places_9 ?_
  refine tt_get F inMO 0 rfl rfl 3 (by decide) we701 rfl dMO_places_10 ?_
  refine tt_imul F dMO_places_13 ?_
  refine tt_iadd F dMO_places_14 ?_
  refine tt_imul F dMO_places_15 ?_
  exact tt_iretO F rfl dMO_places_16 (rfl)
abbrev rmMO_placeAt : Room := { frames := 1, cells := 0, slots := 0, locals := 20 }
set_option maxHeartbeats 4000000 in
set_option maxRecDepth 100000 in
theorem o_placeAt {x y : Int}  : CO l D vwCl cI cZ cJ SL yMO_placeAt wsMO_placeAt rmMO_placeAt [.ref (ad 0), .int (iZ x), .int (iZ y)] (mW cI cZ ad W D_ r hM rM tM wM mp mk wh sM hi vS cd mn) (fun v => v = some (.int (iZ ((y + r) * (W + 2 * r) + (x + r))))) := by
  refine tt_startO (by decide) rfl (Nat.le_of_ble_eq_true rfl) ?_
  intro p e s m args below meth c hnm F
  refine tt_aload_n F 0 rfl rfl dMO_placeAt_0 ?_
  refine tt_cOV F (As := []) [] 0 rfl rfl (o_across (hM := hM) (rM := rM) (tM := tM) (wM := wM) (mp := mp) (mk := mk) (wh := wh) (sM := sM) (hi := hi) (vS := vS) (cd := cd) (mn := mn)) (cwV 0 F.1.2.2.2.2 (gw_V wd786 wd788 wd34 wd53 wd789) rfl rfl rfl (by decide +kernel) ⟨(Nat.le_of_ble_eq_true rfl), (Nat.le_of_ble_eq_true rfl)⟩) rfl rfl rfl (Nat.le_of_ble_eq_true rfl) ⟨(Nat.le_of_ble_eq_true rfl), (Nat.le_of_ble_eq_true rfl)⟩ dMO_placeAt_1 (fun v1 hp => ?_)
  subst hp
  refine tt_iload_n F 2 rfl rfl dMO_placeAt_4 ?_
  refine tt_aload_n F 0 rfl rfl dMO_placeAt_5 ?_
  refine tt_get F inMO 0 rfl rfl 3 (by decide) we701 rfl dMO_placeAt_6 ?_
  refine tt_iadd F dMO_placeAt_9 ?_
  refine tt_imul F dMO_placeAt_10 ?_
  refine tt_iload_n F 1 rfl rfl dMO_placeAt_11 ?_
  refine tt_iadd F dMO_placeAt_12 ?_
  refine tt_aload_n F 0 rfl rfl dMO_placeAt_13 ?_
  refine tt_get F inMO 0 rfl rfl 3 (by decide) we701 rfl dMO_placeAt_14 ?_
  refine tt_iadd F dMO_placeAt_17 ?_
  exact tt_iretO F rfl dMO_placeAt_18 (by rw [show (W + 2 * r) * (y + r) + x + r = ((y + r) * (W + 2 * r) + (x + r)) by rw [Int.mul_comm]; omega])
theorem cmp_bd {off b : Int} (h0 : 0 ≤ off) (h1 : off ≤ 10) (b0 : 0 ≤ b) (b1 : b ≤ 100) : 0 ≤ 4 * off * off * b ∧ 4 * off * off * b ≤ 40000 := by
  have a := sq_le (a := off) (b := 10) (by omega)
  have c := sq_0 off
  have e := Int.mul_le_mul (a := 4 * (off * off)) (b := b) (c := 400) (d := 100) (by omega) (by omega) b0 (by omega)
  have f := Int.mul_nonneg (a := 4 * (off * off)) (b := b) (by omega) b0
  rw [Int.mul_assoc 4 off off]
  omega
abbrev rmMO_compare : Room := { frames := 0, cells := 0, slots := 0, locals := 0 }
set_option maxHeartbeats 4000000 in
set_option maxRecDepth 100000 in
theorem o_cmp1 {w0 : va_W} {u1 v1 u2 v2 : Int} (hu1 : -1000 ≤ u1 ∧ u1 ≤ 1000) (hu2 : -1000 ≤ u2 ∧ u2 ≤ 1000) (hv1 : 0 ≤ v1 ∧ v1 ≤ 100) (hv2 : 0 ≤ v2 ∧ v2 ≤ 100) (hu : -300 ≤ u1 - u2 ∧ u1 - u2 ≤ 300) (hle : u2 ≤ u1) : CO l D vwCl cI cZ cJ SL yMO_compare wsMO_compare rmMO_compare [.int (iZ u1), .int (iZ v1), .int (iZ u2), .int (iZ v2)] w0 (fun v => ∃ z, v = some (.int (iZ z)) ∧ ((z = -1 ∧ u1 * 1048576 + rt v1 < u2 * 1048576 + rt v2) ∨ (z = 0 ∧ u1 * 1048576 + rt v1 = u2 * 1048576 + rt v2) ∨ (z = 1 ∧ u2 * 1048576 + rt v2 < u1 * 1048576 + rt v1))) := by
  refine tt_startO (by decide) rfl (Nat.le_of_ble_eq_true rfl) ?_
  intro p e s m args below meth c hnm F
  refine tt_iload_n F 0 rfl rfl dMO_compare_0 ?_
  refine tt_iload_n F 2 rfl rfl dMO_compare_1 ?_
  refine tt_icmp_ge F 14 ⟨by omega, by omega⟩ ⟨by omega, by omega⟩ dMO_compare_2 (by decide) (fun c2 => ?_) (fun c2 => ?_)
  · skip
    refine tt_iload_n F 0 rfl rfl dMO_compare_14 ?_
    refine tt_iload_n F 2 rfl rfl dMO_compare_15 ?_
    refine tt_isub F dMO_compare_16 ?_
    refine tt_name (fun off hoff => ?_)
    have hoo := sq_le (a := off) (b := 300) (by omega)
    have ho0 := sq_0 off
    have hk := cmp_ok (off := off) (b := v1) (d := v2) (by omega) (by omega) (by omega) (by omega) (by omega)
    refine tt_istore F [(4, .int (iZ off)), (0, .int (iZ u1)), (1, .int (iZ v1)), (2, .int (iZ u2)), (3, .int (iZ v2))] (by decide) rfl dMO_compare_17 ?_
    refine tt_iload_n F 4 rfl rfl dMO_compare_19 ?_
    refine tt_iload F 0 rfl dMO_compare_20 ?_
    refine tt_iload F 0 rfl dMO_compare_22 ?_
    refine tt_imul F dMO_compare_24 ?_
    refine tt_isub F dMO_compare_25 ?_
    refine tt_iload_n F 2 rfl rfl dMO_compare_26 ?_
    refine tt_isub F dMO_compare_27 ?_
    refine tt_name (fun rst hrst => ?_)
    rw [← hrst] at hk
    refine tt_istore F [(5, .int (iZ rst)), (4, .int (iZ off)), (0, .int (iZ u1)), (1, .int (iZ v1)), (2, .int (iZ u2)), (3, .int (iZ v2))] (by decide) rfl dMO_compare_28 ?_
    refine tt_iload F 0 rfl dMO_compare_30 ?_
    refine tt_if_ge F 37 ⟨by omega, by omega⟩ dMO_compare_32 (by decide) (fun c32 => ?_) (fun c32 => ?_)
    · skip
      refine tt_iconst F dMO_compare_37 ?_
      refine tt_iload F 1 rfl dMO_compare_38 ?_
      refine tt_imul F dMO_compare_40 ?_
      refine tt_iload F 1 rfl dMO_compare_41 ?_
      refine tt_imul F dMO_compare_43 ?_
      refine tt_iload_n F 3 rfl rfl dMO_compare_44 ?_
      refine tt_imul F dMO_compare_45 ?_
      refine tt_name (fun lft hlft => ?_)
      have hk2 := hk.2 (by omega)
      have hbd := cmp_bd (off := off) (b := v1) (by omega) (by omega) (by omega) (by omega)
      rw [← hlft] at hk2 hbd
      refine tt_istore F [(6, .int (iZ lft)), (5, .int (iZ rst)), (4, .int (iZ off)), (0, .int (iZ u1)), (1, .int (iZ v1)), (2, .int (iZ u2)), (3, .int (iZ v2))] (by decide) rfl dMO_compare_46 ?_
      refine tt_iload F 1 rfl dMO_compare_48 ?_
      refine tt_iload F 1 rfl dMO_compare_50 ?_
      refine tt_imul F dMO_compare_52 ?_
      refine tt_name (fun rgt hrgt => ?_)
      have hrq := sq_le (a := rst) (b := 100) (by omega)
      have hr0 := sq_0 rst
      rw [← hrgt] at hk2 hrq hr0
      refine tt_istore F [(7, .int (iZ rgt)), (6, .int (iZ lft)), (5, .int (iZ rst)), (4, .int (iZ off)), (0, .int (iZ u1)), (1, .int (iZ v1)), (2, .int (iZ u2)), (3, .int (iZ v2))] (by decide) rfl dMO_compare_53 ?_
      refine tt_iload F 1 rfl dMO_compare_55 ?_
      refine tt_iload F 0 rfl dMO_compare_57 ?_
      refine tt_icmp_le F 66 ⟨by omega, by omega⟩ ⟨by omega, by omega⟩ dMO_compare_59 (by decide) (fun c59 => ?_) (fun c59 => ?_)
      · skip
        refine tt_iload F 1 rfl dMO_compare_66 ?_
        refine tt_iload F 0 rfl dMO_compare_68 ?_
        refine tt_icmp_ge F 77 ⟨by omega, by omega⟩ ⟨by omega, by omega⟩ dMO_compare_70 (by decide) (fun c70 => ?_) (fun c70 => ?_)
        · skip
          refine tt_iconst F dMO_compare_77 ?_
          exact tt_iretO F rfl dMO_compare_78 (⟨_, rfl, by omega⟩)
        · skip
          refine tt_iconst F dMO_compare_73 ?_
          refine tt_goto F 78 (by decide) dMO_compare_74 ?_
          exact tt_iretO F rfl dMO_compare_78 (⟨_, rfl, by omega⟩)
      · skip
        refine tt_iconst F dMO_compare_62 ?_
        refine tt_goto F 78 (by decide) dMO_compare_63 ?_
        exact tt_iretO F rfl dMO_compare_78 (⟨_, rfl, by omega⟩)
    · skip
      refine tt_iconst F dMO_compare_35 ?_
      exact tt_iretO F rfl dMO_compare_36 (⟨_, rfl, by omega⟩)
  · skip
    exact absurd c2 (by omega)
abbrev rmMO_compare2 : Room := { frames := 1, cells := 0, slots := 0, locals := 27 }
set_option maxHeartbeats 4000000 in
set_option maxRecDepth 100000 in
theorem o_cmp {w0 : va_W} {u1 v1 u2 v2 : Int} (hu1 : -1000 ≤ u1 ∧ u1 ≤ 1000) (hu2 : -1000 ≤ u2 ∧ u2 ≤ 1000) (hv1 : 0 ≤ v1 ∧ v1 ≤ 100) (hv2 : 0 ≤ v2 ∧ v2 ≤ 100) (hu : -300 ≤ u1 - u2 ∧ u1 - u2 ≤ 300) : CO l D vwCl cI cZ cJ SL yMO_compare wsMO_compare rmMO_compare2 [.int (iZ u1), .int (iZ v1), .int (iZ u2), .int (iZ v2)] w0 (fun v => ∃ z, v = some (.int (iZ z)) ∧ ((z = -1 ∧ u1 * 1048576 + rt v1 < u2 * 1048576 + rt v2) ∨ (z = 0 ∧ u1 * 1048576 + rt v1 = u2 * 1048576 + rt v2) ∨ (z = 1 ∧ u2 * 1048576 + rt v2 < u1 * 1048576 + rt v1))) := by
  refine tt_startO (by decide) rfl (Nat.le_of_ble_eq_true rfl) ?_
  intro p e s m args below meth c hnm F
  refine tt_iload_n F 0 rfl rfl dMO_compare_0 ?_
  refine tt_iload_n F 2 rfl rfl dMO_compare_1 ?_
  refine tt_icmp_ge F 14 ⟨by omega, by omega⟩ ⟨by omega, by omega⟩ dMO_compare_2 (by decide) (fun c2 => ?_) (fun c2 => ?_)
  · skip
    refine tt_iload_n F 0 rfl rfl dMO_compare_14 ?_
    refine tt_iload_n F 2 rfl rfl dMO_compare_15 ?_
    refine tt_isub F dMO_compare_16 ?_
    refine tt_name (fun off hoff => ?_)
    have hoo := sq_le (a := off) (b := 300) (by omega)
    have ho0 := sq_0 off
    have hk := cmp_ok (off := off) (b := v1) (d := v2) (by omega) (by omega) (by omega) (by omega) (by omega)
    refine tt_istore F [(4, .int (iZ off)), (0, .int (iZ u1)), (1, .int (iZ v1)), (2, .int (iZ u2)), (3, .int (iZ v2))] (by decide) rfl dMO_compare_17 ?_
    refine tt_iload_n F 4 rfl rfl dMO_compare_19 ?_
    refine tt_iload F 0 rfl dMO_compare_20 ?_
    refine tt_iload F 0 rfl dMO_compare_22 ?_
    refine tt_imul F dMO_compare_24 ?_
    refine tt_isub F dMO_compare_25 ?_
    refine tt_iload_n F 2 rfl rfl dMO_compare_26 ?_
    refine tt_isub F dMO_compare_27 ?_
    refine tt_name (fun rst hrst => ?_)
    rw [← hrst] at hk
    refine tt_istore F [(5, .int (iZ rst)), (4, .int (iZ off)), (0, .int (iZ u1)), (1, .int (iZ v1)), (2, .int (iZ u2)), (3, .int (iZ v2))] (by decide) rfl dMO_compare_28 ?_
    refine tt_iload F 0 rfl dMO_compare_30 ?_
    refine tt_if_ge F 37 ⟨by omega, by omega⟩ dMO_compare_32 (by decide) (fun c32 => ?_) (fun c32 => ?_)
    · skip
      refine tt_iconst F dMO_compare_37 ?_
      refine tt_iload F 1 rfl dMO_compare_38 ?_
      refine tt_imul F dMO_compare_40 ?_
      refine tt_iload F 1 rfl dMO_compare_41 ?_
      refine tt_imul F dMO_compare_43 ?_
      refine tt_iload_n F 3 rfl rfl dMO_compare_44 ?_
      refine tt_imul F dMO_compare_45 ?_
      refine tt_name (fun lft hlft => ?_)
      have hk2 := hk.2 (by omega)
      have hbd := cmp_bd (off := off) (b := v1) (by omega) (by omega) (by omega) (by omega)
      rw [← hlft] at hk2 hbd
      refine tt_istore F [(6, .int (iZ lft)), (5, .int (iZ rst)), (4, .int (iZ off)), (0, .int (iZ u1)), (1, .int (iZ v1)), (2, .int (iZ u2)), (3, .int (iZ v2))] (by decide) rfl dMO_compare_46 ?_
      refine tt_iload F 1 rfl dMO_compare_48 ?_
      refine tt_iload F 1 rfl dMO_compare_50 ?_
      refine tt_imul F dMO_compare_52 ?_
      refine tt_name (fun rgt hrgt => ?_)
      have hrq := sq_le (a := rst) (b := 100) (by omega)
      have hr0 := sq_0 rst
      rw [← hrgt] at hk2 hrq hr0
      refine tt_istore F [(7, .int (iZ rgt)), (6, .int (iZ lft)), (5, .int (iZ rst)), (4, .int (iZ off)), (0, .int (iZ u1)), (1, .int (iZ v1)), (2, .int (iZ u2)), (3, .int (iZ v2))] (by decide) rfl dMO_compare_53 ?_
      refine tt_iload F 1 rfl dMO_compare_55 ?_
      refine tt_iload F 0 rfl dMO_compare_57 ?_
      refine tt_icmp_le F 66 ⟨by omega, by omega⟩ ⟨by omega, by omega⟩ dMO_compare_59 (by decide) (fun c59 => ?_) (fun c59 => ?_)
      · skip
        refine tt_iload F 1 rfl dMO_compare_66 ?_
        refine tt_iload F 0 rfl dMO_compare_68 ?_
        refine tt_icmp_ge F 77 ⟨by omega, by omega⟩ ⟨by omega, by omega⟩ dMO_compare_70 (by decide) (fun c70 => ?_) (fun c70 => ?_)
        · skip
          refine tt_iconst F dMO_compare_77 ?_
          exact tt_iretO F rfl dMO_compare_78 (⟨_, rfl, by omega⟩)
        · skip
          refine tt_iconst F dMO_compare_73 ?_
          refine tt_goto F 78 (by decide) dMO_compare_74 ?_
          exact tt_iretO F rfl dMO_compare_78 (⟨_, rfl, by omega⟩)
      · skip
        refine tt_iconst F dMO_compare_62 ?_
        refine tt_goto F 78 (by decide) dMO_compare_63 ?_
        exact tt_iretO F rfl dMO_compare_78 (⟨_, rfl, by omega⟩)
    · skip
      refine tt_iconst F dMO_compare_35 ?_
      exact tt_iretO F rfl dMO_compare_36 (⟨_, rfl, by omega⟩)
  · skip
    refine tt_iload_n F 2 rfl rfl dMO_compare_5 ?_
    refine tt_iload_n F 3 rfl rfl dMO_compare_6 ?_
    refine tt_iload_n F 0 rfl rfl dMO_compare_7 ?_
    refine tt_iload_n F 1 rfl rfl dMO_compare_8 ?_
    refine tt_cOS F (As := [.int (iZ u2), .int (iZ v2), .int (iZ u1), .int (iZ v1)]) [] (o_cmp1 (by omega) (by omega) (by omega) (by omega) (by omega) (by omega)) (va_cwS 4 F.1.2.2.2.2 (gw_S wd798 wd799 wd53 wd800) rfl rfl rfl (by decide +kernel) ⟨(Nat.le_of_ble_eq_true rfl), (Nat.le_of_ble_eq_true rfl)⟩) rfl rfl rfl (Nat.le_of_ble_eq_true rfl) ⟨(Nat.le_of_ble_eq_true rfl), (Nat.le_of_ble_eq_true rfl)⟩ dMO_compare_9 (fun v9 hp => ?_)
    obtain ⟨z9, rfl, hz9⟩ := hp
    refine tt_ineg F dMO_compare_12 ?_
    exact tt_iretO F rfl dMO_compare_13 (⟨_, rfl, by omega⟩)
abbrev rmMO_rootOf : Room := { frames := 0, cells := 0, slots := 0, locals := 0 }
set_option maxHeartbeats 4000000 in
set_option maxRecDepth 100000 in
theorem lp_root {w0 : va_W} {b : Int} (F : FX p s m args meth c cMO_rootOf 2 (some .int) wsMO_rootOf RMO D vwCl cI cZ cJ SL A) (hb : 0 ≤ b ∧ b ≤ 100)
    (k19 : ∀ (k : Int), (0 ≤ k ∧ k * k ≤ b ∧ b < (k + 1) * (k + 1)) → TT p l e rmMO_rootOf s m args below meth c D vwCl A 2 False Q 19 [(0, .int (iZ b)), (1, .int (iZ k))] [] w0 0 0) :
    ∀ (n : Nat) (k : Int), (b - k).toNat < n → (0 ≤ k) → (k * k ≤ b) → TT p l e rmMO_rootOf s m args below meth c D vwCl A 2 False Q 2 [(0, .int (iZ b)), (1, .int (iZ k))] [] w0 0 0 := by
  intro n
  induction n with
  | zero => intro k hn; omega
  | succ n ih =>
    intro k hn hk hk2
    have hk3 : k ≤ 10 := by by_cases e : k ≤ 10; exact e; have := sq_le (a := 11) (b := k) (by omega); omega
    have hk4 := sq_le (a := k + 1) (b := 11) (by omega)
    have hk5 := sq_0 (k + 1)
    have hk6 : k + 1 ≤ (k + 1) * (k + 1) := by have := Int.mul_le_mul_of_nonneg_left (a := 1) (b := k + 1) (c := k + 1) (by omega) (by omega); omega
    refine tt_iload_n F 1 rfl rfl dMO_rootOf_2 ?_
    refine tt_iconst F dMO_rootOf_3 ?_
    refine tt_iadd F dMO_rootOf_4 ?_
    refine tt_iload_n F 1 rfl rfl dMO_rootOf_5 ?_
    refine tt_iconst F dMO_rootOf_6 ?_
    refine tt_iadd F dMO_rootOf_7 ?_
    refine tt_imul F dMO_rootOf_8 ?_
    refine tt_iload_n F 0 rfl rfl dMO_rootOf_9 ?_
    refine tt_icmp_gt F 19 ⟨by omega, by omega⟩ ⟨by omega, by omega⟩ dMO_rootOf_10 (by decide) (fun c10 => ?_) (fun c10 => ?_)
    · skip
      refine tt_sub [0, 1] rfl ?_
      exact k19 k (⟨by omega, by omega, by omega⟩)
    · skip
      refine tt_iinc F 1 [(1, .int (iZ (k + 1))), (0, .int (iZ b))] rfl (by decide) rfl dMO_rootOf_13 ?_
      refine tt_goto F 2 (by decide) dMO_rootOf_16 ?_
      refine tt_sub [1, 0] rfl ?_
      exact ih (k + 1) (by omega) (by omega) (by omega)
set_option maxHeartbeats 4000000 in
set_option maxRecDepth 100000 in
theorem c_rootOf {w0 : va_W} {b : Int} (hb : 0 ≤ b ∧ b ≤ 100) : CI l D vwCl cI cZ cJ SL yMO_rootOf wsMO_rootOf rmMO_rootOf [.int (iZ b)] w0 (fun z w1 => (0 ≤ z ∧ z * z ≤ b ∧ b < (z + 1) * (z + 1)) ∧ w1 = w0) := by
  refine tt_startI (by decide) rfl (Nat.le_of_ble_eq_true rfl) ?_
  intro p e s m args below meth c hnm F
  refine tt_iconst F dMO_rootOf_0 ?_
  refine tt_istore_n F [(1, .int (iZ 0)), (0, .int (iZ b))] rfl (by decide) rfl dMO_rootOf_1 ?_
  refine tt_sub [1, 0] rfl ?_
  refine lp_root F hb (fun k h => ?_) (b.toNat + 1) 0 (by omega) (by omega) (by omega)
  refine tt_iload_n F 1 rfl rfl dMO_rootOf_19 ?_
  exact tt_iret F rfl (Nat.le_of_ble_eq_true rfl) (Nat.le_of_ble_eq_true rfl) dMO_rootOf_20 ⟨h, rfl⟩
abbrev rmMO_distance : Room := { frames := 0, cells := 0, slots := 0, locals := 0 }
set_option maxHeartbeats 4000000 in
set_option maxRecDepth 100000 in
theorem o_distance {w0 : va_W} {b : Nat} {x y k : Int} (hk : 0 ≤ k ∧ k < 144) : CO l D vwCl cI cZ cJ SL yMO_distance wsMO_distance rmMO_distance [.ref b, .int (iZ x), .int (iZ y), .int (iZ k)] w0 (fun v => v = some (.int (iZ (dsM x y k)))) := by
  refine tt_startO (by decide) rfl (Nat.le_of_ble_eq_true rfl) ?_
  intro p e s m args below meth c hnm F
  refine tt_iload_n F 3 rfl rfl dMO_distance_0 ?_
  refine tt_bipush F (by decide) dMO_distance_1 ?_
  refine tt_irem F (by omega) (by omega) (by omega) (by omega) dMO_distance_3 ?_
  refine tt_iload_n F 1 rfl rfl dMO_distance_4 ?_
  refine tt_isub F dMO_distance_5 ?_
  refine tt_istore F [(4, .int (iZ ((k % 12) - x))), (0, .ref b), (1, .int (iZ x)), (2, .int (iZ y)), (3, .int (iZ k))] (by decide) rfl dMO_distance_6 ?_
  refine tt_iload_n F 4 rfl rfl dMO_distance_8 ?_
  refine tt_bipush F (by decide) dMO_distance_9 ?_
  refine tt_idiv F (by omega) (by omega) (by omega) (by omega) dMO_distance_11 ?_
  refine tt_iload_n F 3 rfl rfl dMO_distance_12 ?_
  refine tt_isub F dMO_distance_13 ?_
  refine tt_istore F [(5, .int (iZ ((k / 12) - y))), (4, .int (iZ ((k % 12) - x))), (0, .ref b), (1, .int (iZ x)), (2, .int (iZ y)), (3, .int (iZ k))] (by decide) rfl dMO_distance_14 ?_
  refine tt_iload F 1 rfl dMO_distance_16 ?_
  refine tt_iload F 1 rfl dMO_distance_18 ?_
  refine tt_imul F dMO_distance_20 ?_
  refine tt_iload F 0 rfl dMO_distance_21 ?_
  refine tt_iload F 0 rfl dMO_distance_23 ?_
  refine tt_imul F dMO_distance_25 ?_
  refine tt_iadd F dMO_distance_26 ?_
  exact tt_iretO F rfl dMO_distance_27 (rfl)
theorem dsM_b {x y k : Int} (hx : -10 ≤ x ∧ x ≤ 22) (hy : -10 ≤ y ∧ y ≤ 22) (hk : 0 ≤ k ∧ k < 144) : 0 ≤ dsM x y k ∧ dsM x y k ≤ 968 := by
  have a := sqb (a := k % 12 - x) (r := 22) (by omega) (by omega)
  have b := sqb (a := k / 12 - y) (r := 22) (by omega) (by omega)
  have c := sq_0 (k % 12 - x)
  have e := sq_0 (k / 12 - y)
  simp only [dsM]
  omega
abbrev rmMO_isNear : Room := { frames := 2, cells := 0, slots := 0, locals := 44 }
set_option maxHeartbeats 4000000 in
set_option maxRecDepth 100000 in
theorem o_isNear {x y k : Int} (hg : 1 ≤ W ∧ W ≤ 12 ∧ 1 ≤ D_ ∧ D_ ≤ 12 ∧ 1 ≤ r ∧ r ≤ 10) (hpl : (-r ≤ x ∧ x < W + r) ∧ -r ≤ y ∧ y < D_ + r) (hk : 0 ≤ k ∧ k < 144) : CO l D vwCl cI cZ cJ SL yMO_isNear wsMO_isNear rmMO_isNear [.ref (ad 0), .int (iZ x), .int (iZ y), .int (iZ k)] (mW cI cZ ad W D_ r hM rM tM wM mp mk wh sM hi vS cd mn) (fun v => ∃ z, v = some (.int (iZ z)) ∧ ((z = 1 ∧ nrM W D_ r x y k = true) ∨ (z = 0 ∧ nrM W D_ r x y k = false))) := by
  refine tt_startO (by decide) rfl (Nat.le_of_ble_eq_true rfl) ?_
  intro p e s m args below meth c hnm F
  obtain ⟨hW1, hW2, hD1, hD2, hr1, hr2⟩ := id hg
  have hrr := rr_b hr1 hr2
  have hPL := pl_b hW1 hW2 hD1 hD2 hr1 hr2
  have hds := dsM_b (x := x) (y := y) (k := k) (by omega) (by omega) hk
  refine tt_aload_n F 0 rfl rfl dMO_isNear_0 ?_
  refine tt_iload_n F 3 rfl rfl dMO_isNear_1 ?_
  refine tt_bipush F (by decide) dMO_isNear_2 ?_
  refine tt_irem F (by omega) (by omega) (by omega) (by omega) dMO_isNear_4 ?_
  refine tt_iload_n F 3 rfl rfl dMO_isNear_5 ?_
  refine tt_bipush F (by decide) dMO_isNear_6 ?_
  refine tt_idiv F (by omega) (by omega) (by omega) (by omega) dMO_isNear_8 ?_
  refine tt_cOV F (As := [.int (iZ (k % 12)), .int (iZ (k / 12))]) [] 0 rfl rfl (o_isPoint (hM := hM) (rM := rM) (tM := tM) (wM := wM) (mp := mp) (mk := mk) (wh := wh) (sM := sM) (hi := hi) (vS := vS) (cd := cd) (mn := mn) hg (by omega) (by omega)) (cwV 2 F.1.2.2.2.2 (gw_V wd752 wd754 wd29 wd53 wd755) rfl rfl rfl (by decide +kernel) ⟨(Nat.le_of_ble_eq_true rfl), (Nat.le_of_ble_eq_true rfl)⟩) rfl rfl rfl (Nat.le_of_ble_eq_true rfl) ⟨(Nat.le_of_ble_eq_true rfl), (Nat.le_of_ble_eq_true rfl)⟩ dMO_isNear_9 (fun v9 hp => ?_)
  obtain ⟨z9, rfl, hz9⟩ := hp
  have hb9 := zb_b hz9
  refine tt_if_eq F 38 ⟨by omega, by omega⟩ dMO_isNear_12 (by decide) (fun c12 => ?_) (fun c12 => ?_)
  · skip
    have hq := zb_0 hz9 c12
    refine tt_iconst F dMO_isNear_38 ?_
    exact tt_zretO F rfl (by omega) dMO_isNear_39 (⟨_, rfl, Or.inr ⟨rfl, nrM_f.mpr (by omega)⟩⟩)
  · skip
    have hq := zb_1 hz9 c12
    refine tt_aload_n F 0 rfl rfl dMO_isNear_15 ?_
    refine tt_iload_n F 1 rfl rfl dMO_isNear_16 ?_
    refine tt_iload_n F 2 rfl rfl dMO_isNear_17 ?_
    refine tt_iload_n F 3 rfl rfl dMO_isNear_18 ?_
    refine tt_cOV F (As := [.int (iZ x), .int (iZ y), .int (iZ k)]) [] 0 rfl rfl (o_distance (w0 := (mW cI cZ ad W D_ r hM rM tM wM mp mk wh sM hi vS cd mn)) (by omega)) (cwV 3 F.1.2.2.2.2 (gw_V wd794 wd796 wd36 wd53 wd797) rfl rfl rfl (by decide +kernel) ⟨(Nat.le_of_ble_eq_true rfl), (Nat.le_of_ble_eq_true rfl)⟩) rfl rfl rfl (Nat.le_of_ble_eq_true rfl) ⟨(Nat.le_of_ble_eq_true rfl), (Nat.le_of_ble_eq_true rfl)⟩ dMO_isNear_19 (fun v19 hp => ?_)
    subst hp
    refine tt_aload_n F 0 rfl rfl dMO_isNear_22 ?_
    refine tt_get F inMO 0 rfl rfl 3 (by decide) we701 rfl dMO_isNear_23 ?_
    refine tt_aload_n F 0 rfl rfl dMO_isNear_26 ?_
    refine tt_get F inMO 0 rfl rfl 3 (by decide) we701 rfl dMO_isNear_27 ?_
    refine tt_imul F dMO_isNear_30 ?_
    refine tt_icmp_gt F 38 ⟨by omega, by omega⟩ ⟨by omega, by omega⟩ dMO_isNear_31 (by decide) (fun c31 => ?_) (fun c31 => ?_)
    · skip
      refine tt_iconst F dMO_isNear_38 ?_
      exact tt_zretO F rfl (by omega) dMO_isNear_39 (⟨_, rfl, Or.inr ⟨rfl, nrM_f.mpr (by omega)⟩⟩)
    · skip
      refine tt_iconst F dMO_isNear_34 ?_
      refine tt_goto F 39 (by decide) dMO_isNear_35 ?_
      exact tt_zretO F rfl (by omega) dMO_isNear_39 (⟨_, rfl, Or.inl ⟨rfl, nrM_t.mpr (by omega)⟩⟩)
abbrev rmMO_isTouched : Room := { frames := 3, cells := 0, slots := 0, locals := 67 }
set_option maxHeartbeats 4000000 in
set_option maxRecDepth 100000 in
theorem o_isTouched {x y k : Int} (hg : 1 ≤ W ∧ W ≤ 12 ∧ 1 ≤ D_ ∧ D_ ≤ 12 ∧ 1 ≤ r ∧ r ≤ 10) (hpl : (-r ≤ x ∧ x < W + r) ∧ -r ≤ y ∧ y < D_ + r) (hk : 0 ≤ k ∧ k < 144) (hT : 0 ≤ tM k ∧ tM k ≤ 250) (hwh : 0 ≤ wh ((y + r) * (W + 2 * r) + (x + r)) ∧ wh ((y + r) * (W + 2 * r) + (x + r)) ≤ 250) (hsM : 0 ≤ sM ((y + r) * (W + 2 * r) + (x + r)) ∧ sM ((y + r) * (W + 2 * r) + (x + r)) ≤ 100) : CO l D vwCl cI cZ cJ SL yMO_isTouched wsMO_isTouched rmMO_isTouched [.ref (ad 0), .int (iZ x), .int (iZ y), .int (iZ k)] (mW cI cZ ad W D_ r hM rM tM wM mp mk wh sM hi vS cd mn) (fun v => ∃ z, v = some (.int (iZ z)) ∧ ((z = 1 ∧ tcM W D_ r x y tM (LV wh sM ((y + r) * (W + 2 * r) + (x + r))) k = true) ∨ (z = 0 ∧ tcM W D_ r x y tM (LV wh sM ((y + r) * (W + 2 * r) + (x + r))) k = false))) := by
  refine tt_startO (by decide) rfl (Nat.le_of_ble_eq_true rfl) ?_
  intro p e s m args below meth c hnm F
  obtain ⟨hW1, hW2, hD1, hD2, hr1, hr2⟩ := id hg
  have hrr := rr_b hr1 hr2
  have hPL := pl_b hW1 hW2 hD1 hD2 hr1 hr2
  have hpi := pl_in (W := W) (D_ := D_) (r := r) hpl.1.1 hpl.1.2 hpl.2.1 hpl.2.2
  have hds := dsM_b (x := x) (y := y) (k := k) (by omega) (by omega) hk
  refine tt_aload_n F 0 rfl rfl dMO_isTouched_0 ?_
  refine tt_iload_n F 1 rfl rfl dMO_isTouched_1 ?_
  refine tt_iload_n F 2 rfl rfl dMO_isTouched_2 ?_
  refine tt_cOV F (As := [.int (iZ x), .int (iZ y)]) [] 0 rfl rfl (o_placeAt (hM := hM) (rM := rM) (tM := tM) (wM := wM) (mp := mp) (mk := mk) (wh := wh) (sM := sM) (hi := hi) (vS := vS) (cd := cd) (mn := mn)) (cwV 2 F.1.2.2.2.2 (gw_V wd782 wd784 wd33 wd53 wd785) rfl rfl rfl (by decide +kernel) ⟨(Nat.le_of_ble_eq_true rfl), (Nat.le_of_ble_eq_true rfl)⟩) rfl rfl rfl (Nat.le_of_ble_eq_true rfl) ⟨(Nat.le_of_ble_eq_true rfl), (Nat.le_of_ble_eq_true rfl)⟩ dMO_isTouched_3 (fun v3 hp => ?_)
  subst hp
  refine tt_istore F [(4, .int (iZ ((y + r) * (W + 2 * r) + (x + r)))), (0, .ref (ad 0)), (1, .int (iZ x)), (2, .int (iZ y)), (3, .int (iZ k))] (by decide) rfl dMO_isTouched_6 ?_
  refine tt_aload_n F 1 rfl rfl dMO_isTouched_8 ?_
  refine tt_iload_n F 2 rfl rfl dMO_isTouched_9 ?_
  refine tt_iload_n F 3 rfl rfl dMO_isTouched_10 ?_
  refine tt_iload_n F 4 rfl rfl dMO_isTouched_11 ?_
  refine tt_cOV F (As := [.int (iZ x), .int (iZ y), .int (iZ k)]) [] 0 rfl rfl (o_isNear (hM := hM) (rM := rM) (tM := tM) (wM := wM) (mp := mp) (mk := mk) (wh := wh) (sM := sM) (hi := hi) (vS := vS) (cd := cd) (mn := mn) hg (by omega) (by omega)) (cwV 3 F.1.2.2.2.2 (gw_V wd790 wd792 wd35 wd53 wd793) rfl rfl rfl (by decide +kernel) ⟨(Nat.le_of_ble_eq_true rfl), (Nat.le_of_ble_eq_true rfl)⟩) rfl rfl rfl (Nat.le_of_ble_eq_true rfl) ⟨(Nat.le_of_ble_eq_true rfl), (Nat.le_of_ble_eq_true rfl)⟩ dMO_isTouched_12 (fun v12 hp => ?_)
  obtain ⟨z12, rfl, hz12⟩ := hp
  have hb12 := zb_b hz12
  refine tt_if_eq F 65 ⟨by omega, by omega⟩ dMO_isTouched_15 (by decide) (fun c15 => ?_) (fun c15 => ?_)
  · skip
    have hq := zb_0 hz12 c15
    refine tt_iconst F dMO_isTouched_65 ?_
    exact tt_zretO F rfl (by omega) dMO_isTouched_66 (⟨_, rfl, Or.inr ⟨rfl, by rw [tcM, hq]; rfl⟩⟩)
  · skip
    have hq := zb_1 hz12 c15
    have hq2 := nrM_t.mp hq
    refine tt_aload_n F 1 rfl rfl dMO_isTouched_18 ?_
    refine tt_get F inMO 0 rfl rfl 6 (by decide) we704 rfl dMO_isTouched_19 ?_
    refine tt_iload_n F 4 rfl rfl dMO_isTouched_22 ?_
    refine tt_iald F 3 rfl (by omega) (by omega) (by omega) dMO_isTouched_23 ?_
    refine tt_aload_n F 1 rfl rfl dMO_isTouched_24 ?_
    refine tt_get F inMO 0 rfl rfl 3 (by decide) we701 rfl dMO_isTouched_25 ?_
    refine tt_aload_n F 1 rfl rfl dMO_isTouched_28 ?_
    refine tt_get F inMO 0 rfl rfl 3 (by decide) we701 rfl dMO_isTouched_29 ?_
    refine tt_imul F dMO_isTouched_32 ?_
    refine tt_aload_n F 1 rfl rfl dMO_isTouched_33 ?_
    refine tt_iload_n F 2 rfl rfl dMO_isTouched_34 ?_
    refine tt_iload_n F 3 rfl rfl dMO_isTouched_35 ?_
    refine tt_iload_n F 4 rfl rfl dMO_isTouched_36 ?_
    refine tt_cOV F (As := [.int (iZ x), .int (iZ y), .int (iZ k)]) [] 0 rfl rfl (o_distance (w0 := (mW cI cZ ad W D_ r hM rM tM wM mp mk wh sM hi vS cd mn)) (by omega)) (cwV 3 F.1.2.2.2.2 (gw_V wd794 wd796 wd36 wd53 wd797) rfl rfl rfl (by decide +kernel) ⟨(Nat.le_of_ble_eq_true rfl), (Nat.le_of_ble_eq_true rfl)⟩) rfl rfl rfl (Nat.le_of_ble_eq_true rfl) ⟨(Nat.le_of_ble_eq_true rfl), (Nat.le_of_ble_eq_true rfl)⟩ dMO_isTouched_37 (fun v37 hp => ?_)
    subst hp
    refine tt_isub F dMO_isTouched_40 ?_
    refine tt_aload_n F 1 rfl rfl dMO_isTouched_41 ?_
    refine tt_get F inMO 0 rfl rfl 11 (by decide) we709 rfl dMO_isTouched_42 ?_
    refine tt_iload F 0 rfl dMO_isTouched_45 ?_
    refine tt_iald F 7 rfl (by omega) (by omega) (by omega) dMO_isTouched_47 ?_
    refine tt_aload_n F 1 rfl rfl dMO_isTouched_48 ?_
    refine tt_get F inMO 0 rfl rfl 12 (by decide) we710 rfl dMO_isTouched_49 ?_
    refine tt_iload F 0 rfl dMO_isTouched_52 ?_
    refine tt_iald F 8 rfl (by omega) (by omega) (by omega) dMO_isTouched_54 ?_
    refine tt_cOS F (As := [.int (iZ (tM k)), .int (iZ ((r * r) - (dsM x y k))), .int (iZ (wh ((y + r) * (W + 2 * r) + (x + r)))), .int (iZ (sM ((y + r) * (W + 2 * r) + (x + r))))]) [] (o_cmp (by omega) (by omega) (by omega) (by omega) (by omega)) (va_cwS 4 F.1.2.2.2.2 (gw_S wd798 wd799 wd53 wd800) rfl rfl rfl (by decide +kernel) ⟨(Nat.le_of_ble_eq_true rfl), (Nat.le_of_ble_eq_true rfl)⟩) rfl rfl rfl (Nat.le_of_ble_eq_true rfl) ⟨(Nat.le_of_ble_eq_true rfl), (Nat.le_of_ble_eq_true rfl)⟩ dMO_isTouched_55 (fun v55 hp => ?_)
    obtain ⟨z55, rfl, hz55⟩ := hp
    refine tt_if_ne F 65 ⟨by omega, by omega⟩ dMO_isTouched_58 (by decide) (fun c58 => ?_) (fun c58 => ?_)
    · skip
      refine tt_iconst F dMO_isTouched_65 ?_
      exact tt_zretO F rfl (by omega) dMO_isTouched_66 (⟨_, rfl, Or.inr ⟨rfl, by rw [tcM, hq, Bool.true_and, decide_eq_false_iff_not, lvM, LV]; omega⟩⟩)
    · skip
      refine tt_iconst F dMO_isTouched_61 ?_
      refine tt_goto F 66 (by decide) dMO_isTouched_62 ?_
      exact tt_zretO F rfl (by omega) dMO_isTouched_66 (⟨_, rfl, Or.inl ⟨rfl, tcM_t.mpr ⟨hq, by rw [lvM, LV]; omega⟩⟩⟩)
abbrev rmMO_stand : Room := { frames := 0, cells := 0, slots := 0, locals := 0 }
set_option maxHeartbeats 4000000 in
set_option maxRecDepth 100000 in
theorem lp_stand  (F : FX p s m args meth c cMO_stand 2 none wsMO_stand RMO D vwCl cI cZ cJ SL A) 
    (k34 : ∀ (k : Int) (tM : Int → Int), (∀ j, 0 ≤ j → j < 144 → tM j = hM j + rM j) → TT p l e rmMO_stand s m args below meth c D vwCl A 2 False Q 34 [(0, .ref (ad 0))] [] (mW cI cZ ad W D_ r hM rM tM wM mp mk wh sM hi vS cd mn) 0 0) :
    ∀ (n : Nat) (k : Int) (tM : Int → Int), (144 - k).toNat < n → (0 ≤ k ∧ k ≤ 144) → (∀ j, 0 ≤ j → j < k → tM j = hM j + rM j) → TT p l e rmMO_stand s m args below meth c D vwCl A 2 False Q 2 [(0, .ref (ad 0)), (1, .int (iZ k))] [] (mW cI cZ ad W D_ r hM rM tM wM mp mk wh sM hi vS cd mn) 0 0 := by
  intro n
  induction n with
  | zero => intro k tM hn; omega
  | succ n ih =>
    intro k tM hn hk I
    refine tt_iload_n F 1 rfl rfl dMO_stand_2 ?_
    refine tt_sipush F (by decide) dMO_stand_3 ?_
    refine tt_icmp_ge F 34 ⟨by omega, by omega⟩ ⟨by omega, by omega⟩ dMO_stand_6 (by decide) (fun c6 => ?_) (fun c6 => ?_)
    · skip
      refine tt_sub [0] rfl ?_
      exact k34 k tM (fun j j0 j1 => I j j0 (by omega))
    · skip
      refine tt_aload_n F 0 rfl rfl dMO_stand_9 ?_
      refine tt_get F inMO 0 rfl rfl 6 (by decide) we704 rfl dMO_stand_10 ?_
      refine tt_iload_n F 1 rfl rfl dMO_stand_13 ?_
      refine tt_aload_n F 0 rfl rfl dMO_stand_14 ?_
      refine tt_get F inMO 0 rfl rfl 4 (by decide) we702 rfl dMO_stand_15 ?_
      refine tt_iload_n F 1 rfl rfl dMO_stand_18 ?_
      refine tt_iald F 1 rfl (by omega) (by omega) (by omega) dMO_stand_19 ?_
      refine tt_name (fun x19 hx19 => ?_)
      refine tt_aload_n F 0 rfl rfl dMO_stand_20 ?_
      refine tt_get F inMO 0 rfl rfl 5 (by decide) we703 rfl dMO_stand_21 ?_
      refine tt_iload_n F 1 rfl rfl dMO_stand_24 ?_
      refine tt_iald F 2 rfl (by omega) (by omega) (by omega) dMO_stand_25 ?_
      refine tt_name (fun x25 hx25 => ?_)
      refine tt_iadd F dMO_stand_26 ?_
      refine tt_iast F (fun h => h) 3 rfl (by omega) (by omega) (by omega) dMO_stand_27 ?_
      refine tt_iinc F 1 [(1, .int (iZ (k + 1))), (0, .ref (ad 0))] rfl (by decide) rfl dMO_stand_28 ?_
      refine tt_goto F 2 (by decide) dMO_stand_31 ?_
      refine tt_sub [1, 0] rfl ?_
      exact ih (k + 1) (zu tM k (x19 + x25)) (by omega) (⟨by omega, by omega⟩) (fun j j0 j1 => if e : j = k then (by subst e; rw [zu_s]; simp only [*]) else (by rw [zu_n _ _ e]; exact I j j0 (by omega)))
set_option maxHeartbeats 4000000 in
set_option maxRecDepth 100000 in
theorem c_stand   : CV l D vwCl cI cZ cJ SL yMO_stand wsMO_stand rmMO_stand [.ref (ad 0)] (mW cI cZ ad W D_ r hM rM tM wM mp mk wh sM hi vS cd mn) (fun w1 => ∃ tM', w1 = (mW cI cZ ad W D_ r hM rM tM' wM mp mk wh sM hi vS cd mn) ∧ ∀ j, 0 ≤ j → j < 144 → tM' j = hM j + rM j) := by
  refine tt_startV (by decide) rfl (Nat.le_of_ble_eq_true rfl) ?_
  intro p e s m args below meth c hnm F
  refine tt_iconst F dMO_stand_0 ?_
  refine tt_istore_n F [(1, .int (iZ 0)), (0, .ref (ad 0))] rfl (by decide) rfl dMO_stand_1 ?_
  refine tt_sub [1, 0] rfl ?_
  refine lp_stand F (fun k tM' h => ?_) 145 0 tM (by omega) (by omega) (fun j j0 j1 => by omega)
  exact tt_vret F rfl (Nat.le_of_ble_eq_true rfl) (Nat.le_of_ble_eq_true rfl) dMO_stand_34 ⟨tM', rfl, h⟩
end MOD1
