section MOD2
variable {p : Program} {l : Launch} {e : Env} {s : State} {m : MethodId} {args : Array Value} {below : List Frame} {meth : Method} {c : Code} {Q : State → Prop} {D : va_G} {cI cZ cJ : ClassId} {SL : List zS} {A : Nat → Prop} {ad : Nat → Nat} {W D_ r : Int} {hM rM tM wM mp mk wh sM hi vS : Int → Int} {cd mn : Int}
abbrev rmMO_restAt : Room := { frames := 3, cells := 0, slots := 0, locals := 67 }
set_option maxHeartbeats 4000000 in
set_option maxRecDepth 100000 in
theorem lp_restAt {x y : Int} {wh0 sM0 : Int → Int} (F : FX p s m args meth c cMO_restAt 6 none wsMO_restAt RMO D vwCl cI cZ cJ SL A) (hg : 1 ≤ W ∧ W ≤ 12 ∧ 1 ≤ D_ ∧ D_ ≤ 12 ∧ 1 ≤ r ∧ r ≤ 10) (hpl : (-r ≤ x ∧ x < W + r) ∧ -r ≤ y ∧ y < D_ + r) (hT : ∀ k, 0 ≤ k → k < 144 → 0 ≤ tM k ∧ tM k ≤ 250)
    (k125 : ∀ (k : Int) (wh : Int → Int) (sM : Int → Int), (RST W D_ r tM wh sM ((y + r) * (W + 2 * r) + (x + r))) → (∀ Q, Q ≠ ((y + r) * (W + 2 * r) + (x + r)) → wh Q = wh0 Q ∧ sM Q = sM0 Q) → TT p l e rmMO_restAt s m args below meth c D vwCl A 6 False Q 125 [] [] (mW cI cZ ad W D_ r hM rM tM wM mp mk wh sM hi vS cd mn) 0 0) :
    ∀ (n : Nat) (k : Int) (wh : Int → Int) (sM : Int → Int), (144 - k).toNat < n → (0 ≤ k ∧ k ≤ 144) → (0 ≤ wh ((y + r) * (W + 2 * r) + (x + r)) ∧ wh ((y + r) * (W + 2 * r) + (x + r)) ≤ 250) → (0 ≤ sM ((y + r) * (W + 2 * r) + (x + r)) ∧ sM ((y + r) * (W + 2 * r) + (x + r)) ≤ 100) → (mR W D_ r x y tM k (LV wh sM ((y + r) * (W + 2 * r) + (x + r)))) → (∀ Q, Q ≠ ((y + r) * (W + 2 * r) + (x + r)) → wh Q = wh0 Q ∧ sM Q = sM0 Q) → TT p l e rmMO_restAt s m args below meth c D vwCl A 6 False Q 32 [(0, .ref (ad 0)), (1, .int (iZ x)), (2, .int (iZ y)), (3, .int (iZ ((y + r) * (W + 2 * r) + (x + r)))), (4, .int (iZ k))] [] (mW cI cZ ad W D_ r hM rM tM wM mp mk wh sM hi vS cd mn) 0 0 := by
  intro n
  induction n with
  | zero => intro k wh sM hn; omega
  | succ n ih =>
    intro k wh sM hn hk hwb hsb I hO
    obtain ⟨hW1, hW2, hD1, hD2, hr1, hr2⟩ := id hg
    have hrr := rr_b hr1 hr2
    have hPL := pl_b hW1 hW2 hD1 hD2 hr1 hr2
    have hpi := pl_in (W := W) (D_ := D_) (r := r) hpl.1.1 hpl.1.2 hpl.2.1 hpl.2.2
    have hat := pl_at (W := W) (r := r) (x := x) (y := y) hpl.1.1 hpl.1.2
    refine tt_iload F 4 rfl dMO_restAt_32 ?_
    refine tt_sipush F (by decide) dMO_restAt_34 ?_
    refine tt_icmp_ge F 125 ⟨by omega, by omega⟩ ⟨by omega, by omega⟩ dMO_restAt_37 (by decide) (fun c37 => ?_) (fun c37 => ?_)
    · skip
      refine tt_sub [] rfl ?_
      exact k125 k wh sM (⟨hwb, hsb, by rw [hat.1, hat.2]; have e : k = 144 := (by omega); rw [e] at I; exact I⟩) (hO)
    · skip
      have hds := dsM_b (x := x) (y := y) (k := k) (by omega) (by omega) (by omega)
      have hTk := hT k (by omega) (by omega)
      refine tt_aload_n F 0 rfl rfl dMO_restAt_40 ?_
      refine tt_iload_n F 1 rfl rfl dMO_restAt_41 ?_
      refine tt_iload_n F 2 rfl rfl dMO_restAt_42 ?_
      refine tt_iload F 4 rfl dMO_restAt_43 ?_
      refine tt_cOV F (As := [.int (iZ x), .int (iZ y), .int (iZ k)]) [] 0 rfl rfl (o_isNear (hM := hM) (rM := rM) (tM := tM) (wM := wM) (mp := mp) (mk := mk) (wh := wh) (sM := sM) (hi := hi) (vS := vS) (cd := cd) (mn := mn) hg (by omega) (by omega)) (cwV 3 F.1.2.2.2.2 (gw_V wd790 wd792 wd35 wd53 wd793) rfl rfl rfl (by decide +kernel) ⟨(Nat.le_of_ble_eq_true rfl), (Nat.le_of_ble_eq_true rfl)⟩) rfl rfl rfl (Nat.le_of_ble_eq_true rfl) ⟨(Nat.le_of_ble_eq_true rfl), (Nat.le_of_ble_eq_true rfl)⟩ dMO_restAt_45 (fun v45 hp => ?_)
      obtain ⟨z45, rfl, hz45⟩ := hp
      have hb45 := zb_b hz45
      refine tt_if_eq F 119 ⟨by omega, by omega⟩ dMO_restAt_48 (by decide) (fun c48 => ?_) (fun c48 => ?_)
      · skip
        have hq := zb_0 hz45 c48
        refine tt_iinc F 4 [(4, .int (iZ (k + 1))), (0, .ref (ad 0)), (1, .int (iZ x)), (2, .int (iZ y)), (3, .int (iZ ((y + r) * (W + 2 * r) + (x + r))))] rfl (by decide) rfl dMO_restAt_119 ?_
        refine tt_goto F 32 (by decide) dMO_restAt_122 ?_
        refine tt_sub [1, 2, 3, 4, 0] rfl ?_
        exact ih (k + 1) wh sM (by omega) (⟨by omega, by omega⟩) (hwb) (hsb) (mR_far hq I) (hO)
      · skip
        have hq := zb_1 hz45 c48
        have hq2 := nrM_t.mp hq
        refine tt_aload_n F 0 rfl rfl dMO_restAt_51 ?_
        refine tt_get F inMO 0 rfl rfl 3 (by decide) we701 rfl dMO_restAt_52 ?_
        refine tt_aload_n F 0 rfl rfl dMO_restAt_55 ?_
        refine tt_get F inMO 0 rfl rfl 3 (by decide) we701 rfl dMO_restAt_56 ?_
        refine tt_imul F dMO_restAt_59 ?_
        refine tt_aload_n F 0 rfl rfl dMO_restAt_60 ?_
        refine tt_iload_n F 1 rfl rfl dMO_restAt_61 ?_
        refine tt_iload_n F 2 rfl rfl dMO_restAt_62 ?_
        refine tt_iload F 4 rfl dMO_restAt_63 ?_
        refine tt_cOV F (As := [.int (iZ x), .int (iZ y), .int (iZ k)]) [] 0 rfl rfl (o_distance (w0 := (mW cI cZ ad W D_ r hM rM tM wM mp mk wh sM hi vS cd mn)) (by omega)) (cwV 3 F.1.2.2.2.2 (gw_V wd794 wd796 wd36 wd53 wd797) rfl rfl rfl (by decide +kernel) ⟨(Nat.le_of_ble_eq_true rfl), (Nat.le_of_ble_eq_true rfl)⟩) rfl rfl rfl (Nat.le_of_ble_eq_true rfl) ⟨(Nat.le_of_ble_eq_true rfl), (Nat.le_of_ble_eq_true rfl)⟩ dMO_restAt_65 (fun v65 hp => ?_)
        subst hp
        refine tt_isub F dMO_restAt_68 ?_
        refine tt_name (fun b5 hb5 => ?_)
        refine tt_istore F [(5, .int (iZ b5)), (0, .ref (ad 0)), (1, .int (iZ x)), (2, .int (iZ y)), (3, .int (iZ ((y + r) * (W + 2 * r) + (x + r)))), (4, .int (iZ k))] (by decide) rfl dMO_restAt_69 ?_
        refine tt_aload_n F 1 rfl rfl dMO_restAt_71 ?_
        refine tt_get F inMO 0 rfl rfl 6 (by decide) we704 rfl dMO_restAt_72 ?_
        refine tt_iload F 5 rfl dMO_restAt_75 ?_
        refine tt_iald F 3 rfl (by omega) (by omega) (by omega) dMO_restAt_77 ?_
        refine tt_iload F 0 rfl dMO_restAt_78 ?_
        refine tt_aload_n F 1 rfl rfl dMO_restAt_80 ?_
        refine tt_get F inMO 0 rfl rfl 11 (by decide) we709 rfl dMO_restAt_81 ?_
        refine tt_iload_n F 4 rfl rfl dMO_restAt_84 ?_
        refine tt_iald F 7 rfl (by omega) (by omega) (by omega) dMO_restAt_85 ?_
        refine tt_aload_n F 1 rfl rfl dMO_restAt_86 ?_
        refine tt_get F inMO 0 rfl rfl 12 (by decide) we710 rfl dMO_restAt_87 ?_
        refine tt_iload_n F 4 rfl rfl dMO_restAt_90 ?_
        refine tt_iald F 8 rfl (by omega) (by omega) (by omega) dMO_restAt_91 ?_
        refine tt_cOS F (As := [.int (iZ (tM k)), .int (iZ b5), .int (iZ (wh ((y + r) * (W + 2 * r) + (x + r)))), .int (iZ (sM ((y + r) * (W + 2 * r) + (x + r))))]) [] (o_cmp (by omega) (by omega) (by omega) (by omega) (by omega)) (va_cwS 4 F.1.2.2.2.2 (gw_S wd798 wd799 wd53 wd800) rfl rfl rfl (by decide +kernel) ⟨(Nat.le_of_ble_eq_true rfl), (Nat.le_of_ble_eq_true rfl)⟩) rfl rfl rfl (Nat.le_of_ble_eq_true rfl) ⟨(Nat.le_of_ble_eq_true rfl), (Nat.le_of_ble_eq_true rfl)⟩ dMO_restAt_92 (fun v92 hp => ?_)
        obtain ⟨z92, rfl, hz92⟩ := hp
        have hlv : lvM r x y tM k = tM k * 1048576 + rt b5 := by rw [lvM, hb5]
        have hLV : LV wh sM ((y + r) * (W + 2 * r) + (x + r)) = wh ((y + r) * (W + 2 * r) + (x + r)) * 1048576 + rt (sM ((y + r) * (W + 2 * r) + (x + r))) := rfl
        refine tt_if_le F 119 ⟨by omega, by omega⟩ dMO_restAt_95 (by decide) (fun c95 => ?_) (fun c95 => ?_)
        · skip
          refine tt_iinc F 5 [(4, .int (iZ (k + 1))), (5, .int (iZ b5)), (0, .ref (ad 0)), (1, .int (iZ x)), (2, .int (iZ y)), (3, .int (iZ ((y + r) * (W + 2 * r) + (x + r))))] rfl (by decide) rfl dMO_restAt_119 ?_
          refine tt_goto F 32 (by decide) dMO_restAt_122 ?_
          refine tt_sub [2, 3, 4, 5, 0] rfl ?_
          exact ih (k + 1) wh sM (by omega) (⟨by omega, by omega⟩) (hwb) (hsb) (mR_low (by omega) I) (hO)
        · skip
          refine tt_aload_n F 1 rfl rfl dMO_restAt_98 ?_
          refine tt_get F inMO 0 rfl rfl 11 (by decide) we709 rfl dMO_restAt_99 ?_
          refine tt_iload_n F 4 rfl rfl dMO_restAt_102 ?_
          refine tt_aload_n F 1 rfl rfl dMO_restAt_103 ?_
          refine tt_get F inMO 0 rfl rfl 6 (by decide) we704 rfl dMO_restAt_104 ?_
          refine tt_iload F 5 rfl dMO_restAt_107 ?_
          refine tt_iald F 3 rfl (by omega) (by omega) (by omega) dMO_restAt_109 ?_
          refine tt_iast F (fun h => h) 7 rfl (by omega) (by omega) (by omega) dMO_restAt_110 ?_
          refine tt_aload_n F 1 rfl rfl dMO_restAt_111 ?_
          refine tt_get F inMO 0 rfl rfl 12 (by decide) we710 rfl dMO_restAt_112 ?_
          refine tt_iload_n F 4 rfl rfl dMO_restAt_115 ?_
          refine tt_iload F 0 rfl dMO_restAt_116 ?_
          refine tt_iast F (fun h => h) 8 rfl (by omega) (by omega) (by omega) dMO_restAt_118 ?_
          refine tt_iinc F 5 [(4, .int (iZ (k + 1))), (5, .int (iZ b5)), (0, .ref (ad 0)), (1, .int (iZ x)), (2, .int (iZ y)), (3, .int (iZ ((y + r) * (W + 2 * r) + (x + r))))] rfl (by decide) rfl dMO_restAt_119 ?_
          refine tt_goto F 32 (by decide) dMO_restAt_122 ?_
          refine tt_sub [2, 3, 4, 5, 0] rfl ?_
          exact ih (k + 1) (zu wh ((y + r) * (W + 2 * r) + (x + r)) (tM k)) (zu sM ((y + r) * (W + 2 * r) + (x + r)) b5) (by omega) (⟨by omega, by omega⟩) (by rw [zu_s]; exact hTk) (by rw [zu_s]; omega) (by rw [LV, zu_s, zu_s]; exact mR_up (by omega) (by omega) hq hlv (by omega) I) (fun Q hQ => by rw [zu_n _ _ hQ, zu_n _ _ hQ]; exact hO Q hQ)
set_option maxHeartbeats 4000000 in
set_option maxRecDepth 100000 in
theorem c_restAtM {x y : Int} (hg : 1 ≤ W ∧ W ≤ 12 ∧ 1 ≤ D_ ∧ D_ ≤ 12 ∧ 1 ≤ r ∧ r ≤ 10) (hpl : (-r ≤ x ∧ x < W + r) ∧ -r ≤ y ∧ y < D_ + r) (hT : ∀ k, 0 ≤ k → k < 144 → 0 ≤ tM k ∧ tM k ≤ 250) : CV l D vwCl cI cZ cJ SL yMO_restAt wsMO_restAt rmMO_restAt [.ref (ad 0), .int (iZ x), .int (iZ y)] (mW cI cZ ad W D_ r hM rM tM wM mp mk wh sM hi vS cd mn) (fun w1 => ∃ wh' sM', w1 = (mW cI cZ ad W D_ r hM rM tM wM mp mk wh' sM' hi vS cd mn) ∧ RST W D_ r tM wh' sM' ((y + r) * (W + 2 * r) + (x + r)) ∧ ∀ Q, Q ≠ ((y + r) * (W + 2 * r) + (x + r)) → wh' Q = wh Q ∧ sM' Q = sM Q) := by
  refine tt_startV (by decide) rfl (Nat.le_of_ble_eq_true rfl) ?_
  intro p e s m args below meth c hnm F
  obtain ⟨hW1, hW2, hD1, hD2, hr1, hr2⟩ := id hg
  have hrr := rr_b hr1 hr2
  have hPL := pl_b hW1 hW2 hD1 hD2 hr1 hr2
  have hpi := pl_in (W := W) (D_ := D_) (r := r) hpl.1.1 hpl.1.2 hpl.2.1 hpl.2.2
  have hat := pl_at (W := W) (r := r) (x := x) (y := y) hpl.1.1 hpl.1.2
  refine tt_aload_n F 0 rfl rfl dMO_restAt_0 ?_
  refine tt_iload_n F 1 rfl rfl dMO_restAt_1 ?_
  refine tt_iload_n F 2 rfl rfl dMO_restAt_2 ?_
  refine tt_cOV F (As := [.int (iZ x), .int (iZ y)]) [] 0 rfl rfl (o_placeAt (hM := hM) (rM := rM) (tM := tM) (wM := wM) (mp := mp) (mk := mk) (wh := wh) (sM := sM) (hi := hi) (vS := vS) (cd := cd) (mn := mn)) (cwV 2 F.1.2.2.2.2 (gw_V wd782 wd784 wd33 wd53 wd785) rfl rfl rfl (by decide +kernel) ⟨(Nat.le_of_ble_eq_true rfl), (Nat.le_of_ble_eq_true rfl)⟩) rfl rfl rfl (Nat.le_of_ble_eq_true rfl) ⟨(Nat.le_of_ble_eq_true rfl), (Nat.le_of_ble_eq_true rfl)⟩ dMO_restAt_3 (fun v3 hp => ?_)
  subst hp
  refine tt_istore_n F [(3, .int (iZ ((y + r) * (W + 2 * r) + (x + r)))), (0, .ref (ad 0)), (1, .int (iZ x)), (2, .int (iZ y))] rfl (by decide) rfl dMO_restAt_6 ?_
  refine tt_aload_n F 1 rfl rfl dMO_restAt_7 ?_
  refine tt_get F inMO 0 rfl rfl 11 (by decide) we709 rfl dMO_restAt_8 ?_
  refine tt_iload_n F 0 rfl rfl dMO_restAt_11 ?_
  refine tt_iconst F dMO_restAt_12 ?_
  refine tt_iast F (fun h => h) 7 rfl (by omega) (by omega) (by omega) dMO_restAt_13 ?_
  refine tt_aload_n F 1 rfl rfl dMO_restAt_14 ?_
  refine tt_get F inMO 0 rfl rfl 12 (by decide) we710 rfl dMO_restAt_15 ?_
  refine tt_iload_n F 0 rfl rfl dMO_restAt_18 ?_
  refine tt_aload_n F 1 rfl rfl dMO_restAt_19 ?_
  refine tt_get F inMO 0 rfl rfl 3 (by decide) we701 rfl dMO_restAt_20 ?_
  refine tt_aload_n F 1 rfl rfl dMO_restAt_23 ?_
  refine tt_get F inMO 0 rfl rfl 3 (by decide) we701 rfl dMO_restAt_24 ?_
  refine tt_imul F dMO_restAt_27 ?_
  refine tt_iast F (fun h => h) 8 rfl (by omega) (by omega) (by omega) dMO_restAt_28 ?_
  refine tt_iconst F dMO_restAt_29 ?_
  refine tt_istore F [(4, .int (iZ 0)), (3, .int (iZ ((y + r) * (W + 2 * r) + (x + r)))), (0, .ref (ad 0)), (1, .int (iZ x)), (2, .int (iZ y))] (by decide) rfl dMO_restAt_30 ?_
  refine tt_sub [2, 3, 4, 1, 0] rfl ?_
  refine lp_restAt (wh0 := wh) (sM0 := sM) F hg hpl hT (fun k wh' sM' h h2 => ?_) 145 0 (zu wh ((y + r) * (W + 2 * r) + (x + r)) 0) (zu sM ((y + r) * (W + 2 * r) + (x + r)) (r * r)) (by omega) (by omega) (by rw [zu_s]; omega) (by rw [zu_s]; omega) ?_ (fun Q hQ => by rw [zu_n _ _ hQ, zu_n _ _ hQ]; exact ⟨rfl, rfl⟩)
  · skip
    exact tt_vret F rfl (Nat.le_of_ble_eq_true rfl) (Nat.le_of_ble_eq_true rfl) dMO_restAt_125 ⟨wh', sM', rfl, h, h2⟩
  · skip
    have e1 : rt (r * r) = r * 1048576 := rt_sq (by omega) hr2
    have e2 : LV (zu wh ((y + r) * (W + 2 * r) + (x + r)) 0) (zu sM ((y + r) * (W + 2 * r) + (x + r)) (r * r)) ((y + r) * (W + 2 * r) + (x + r)) = r * 1048576 := by rw [LV, zu_s, zu_s, e1]; omega
    exact ⟨by omega, Or.inl e2, fun k k0 k1 => by omega⟩
abbrev rmMO_roll : Room := { frames := 4, cells := 0, slots := 0, locals := 92 }
set_option maxHeartbeats 4000000 in
set_option maxRecDepth 100000 in
theorem lp_roll0  (F : FX p s m args meth c cMO_roll 4 none wsMO_roll RMO D vwCl cI cZ cJ SL A) 
    (k22 : ∀ (k : Int) (hi : Int → Int), (∀ j, 0 ≤ j → j < 144 → hi j = 0) → TT p l e rmMO_roll s m args below meth c D vwCl A 4 False Q 22 [(0, .ref (ad 0))] [] (mW cI cZ ad W D_ r hM rM tM wM mp mk wh sM hi vS cd mn) 0 0) :
    ∀ (n : Nat) (k : Int) (hi : Int → Int), (144 - k).toNat < n → (0 ≤ k ∧ k ≤ 144) → (∀ j, 0 ≤ j → j < k → hi j = 0) → TT p l e rmMO_roll s m args below meth c D vwCl A 4 False Q 2 [(0, .ref (ad 0)), (1, .int (iZ k))] [] (mW cI cZ ad W D_ r hM rM tM wM mp mk wh sM hi vS cd mn) 0 0 := by
  intro n
  induction n with
  | zero => intro k hi hn; omega
  | succ n ih =>
    intro k hi hn hk I
    refine tt_iload_n F 1 rfl rfl dMO_roll_2 ?_
    refine tt_sipush F (by decide) dMO_roll_3 ?_
    refine tt_icmp_ge F 22 ⟨by omega, by omega⟩ ⟨by omega, by omega⟩ dMO_roll_6 (by decide) (fun c6 => ?_) (fun c6 => ?_)
    · skip
      refine tt_sub [0] rfl ?_
      exact k22 k hi (fun j j0 j1 => I j j0 (by omega))
    · skip
      refine tt_aload_n F 0 rfl rfl dMO_roll_9 ?_
      refine tt_get F inMO 0 rfl rfl 13 (by decide) we711 rfl dMO_roll_10 ?_
      refine tt_iload_n F 1 rfl rfl dMO_roll_13 ?_
      refine tt_iconst F dMO_roll_14 ?_
      refine tt_iast F (fun h => h) 9 rfl (by omega) (by omega) (by omega) dMO_roll_15 ?_
      refine tt_iinc F 1 [(1, .int (iZ (k + 1))), (0, .ref (ad 0))] rfl (by decide) rfl dMO_roll_16 ?_
      refine tt_goto F 2 (by decide) dMO_roll_19 ?_
      refine tt_sub [1, 0] rfl ?_
      exact ih (k + 1) (zu hi k 0) (by omega) (⟨by omega, by omega⟩) (fun j j0 j1 => if e : j = k then (by rw [e, zu_s]) else (by rw [zu_n _ _ e]; exact I j j0 (by omega)))
set_option maxHeartbeats 4000000 in
set_option maxRecDepth 100000 in
theorem lp_rollk {x y : Int} (F : FX p s m args meth c cMO_roll 4 none wsMO_roll RMO D vwCl cI cZ cJ SL A) (hg : 1 ≤ W ∧ W ≤ 12 ∧ 1 ≤ D_ ∧ D_ ≤ 12 ∧ 1 ≤ r ∧ r ≤ 10) (hpl : (-r ≤ x ∧ x < W + r) ∧ -r ≤ y ∧ y < D_ + r) (hT : ∀ k, 0 ≤ k → k < 144 → 0 ≤ tM k ∧ tM k ≤ 250)
    (k105 : ∀ (k : Int) (hi : Int → Int), (RLI W D_ r tM wh sM hi (((y + r) * (W + 2 * r) + (x + r)) + 1)) → TT p l e rmMO_roll s m args below meth c D vwCl A 4 False Q 105 [(0, .ref (ad 0)), (1, .int (iZ y)), (2, .int (iZ x))] [] (mW cI cZ ad W D_ r hM rM tM wM mp mk wh sM hi vS cd mn) 0 0) :
    ∀ (n : Nat) (k : Int) (hi : Int → Int), (144 - k).toNat < n → (0 ≤ k ∧ k ≤ 144) → (RLK W D_ r tM wh sM hi ((y + r) * (W + 2 * r) + (x + r)) k) → TT p l e rmMO_roll s m args below meth c D vwCl A 4 False Q 68 [(0, .ref (ad 0)), (1, .int (iZ y)), (2, .int (iZ x)), (3, .int (iZ k))] [] (mW cI cZ ad W D_ r hM rM tM wM mp mk wh sM hi vS cd mn) 0 0 := by
  intro n
  induction n with
  | zero => intro k hi hn; omega
  | succ n ih =>
    intro k hi hn hk I
    obtain ⟨hW1, hW2, hD1, hD2, hr1, hr2⟩ := id hg
    have hrr := rr_b hr1 hr2
    have hPL := pl_b hW1 hW2 hD1 hD2 hr1 hr2
    have hpi := pl_in (W := W) (D_ := D_) (r := r) hpl.1.1 hpl.1.2 hpl.2.1 hpl.2.2
    have hat := pl_at (W := W) (r := r) (x := x) (y := y) hpl.1.1 hpl.1.2
    refine tt_iload_n F 3 rfl rfl dMO_roll_68 ?_
    refine tt_sipush F (by decide) dMO_roll_69 ?_
    refine tt_icmp_ge F 105 ⟨by omega, by omega⟩ ⟨by omega, by omega⟩ dMO_roll_72 (by decide) (fun c72 => ?_) (fun c72 => ?_)
    · skip
      refine tt_sub [0, 1, 2] rfl ?_
      exact k105 k hi (by have e : k = 144 := (by omega); rw [e] at I; exact rl_kx hpi.1 I)
    · skip
      have hTk := hT k (by omega) (by omega)
      have hRn := I.1 ((y + r) * (W + 2 * r) + (x + r)) hpi.1 (by omega)
      refine tt_aload_n F 0 rfl rfl dMO_roll_75 ?_
      refine tt_get F inMO 0 rfl rfl 13 (by decide) we711 rfl dMO_roll_76 ?_
      refine tt_iload_n F 3 rfl rfl dMO_roll_79 ?_
      refine tt_dup2 F rfl rfl dMO_roll_80 ?_
      refine tt_iald F 9 rfl (by omega) (by omega) (by omega) dMO_roll_81 ?_
      refine tt_aload_n F 0 rfl rfl dMO_roll_82 ?_
      refine tt_iload_n F 2 rfl rfl dMO_roll_83 ?_
      refine tt_iload_n F 1 rfl rfl dMO_roll_84 ?_
      refine tt_iload_n F 3 rfl rfl dMO_roll_85 ?_
      refine tt_cOV F (As := [.int (iZ x), .int (iZ y), .int (iZ k)]) [] 0 rfl rfl (o_isTouched (hM := hM) (rM := rM) (tM := tM) (wM := wM) (mp := mp) (mk := mk) (wh := wh) (sM := sM) (hi := hi) (vS := vS) (cd := cd) (mn := mn) hg hpl (by omega) hTk hRn.1 hRn.2.1) (cwV 3 F.1.2.2.2.2 (gw_V wd804 wd806 wd37 wd53 wd807) rfl rfl rfl (by decide +kernel) ⟨(Nat.le_of_ble_eq_true rfl), (Nat.le_of_ble_eq_true rfl)⟩) rfl rfl rfl (Nat.le_of_ble_eq_true rfl) ⟨(Nat.le_of_ble_eq_true rfl), (Nat.le_of_ble_eq_true rfl)⟩ dMO_roll_86 (fun v86 hp => ?_)
      obtain ⟨z86, rfl, hz86⟩ := hp
      have hb86 := zb_b hz86
      have hzb : z86 = bi (HK W D_ r tM wh sM k ((y + r) * (W + 2 * r) + (x + r))) := by rw [HK, hat.1, hat.2]; exact zb_bi hz86
      refine tt_if_eq F 96 ⟨by omega, by omega⟩ dMO_roll_89 (by decide) (fun c89 => ?_) (fun c89 => ?_)
      · skip
        rw [c89] at hzb
        refine tt_iconst F dMO_roll_96 ?_
        refine tt_iadd F dMO_roll_97 ?_
        refine tt_iast F (fun h => h) 9 rfl (by omega) (by omega) (by omega) dMO_roll_98 ?_
        refine tt_iinc F 3 [(3, .int (iZ (k + 1))), (0, .ref (ad 0)), (1, .int (iZ y)), (2, .int (iZ x))] rfl (by decide) rfl dMO_roll_99 ?_
        refine tt_goto F 68 (by decide) dMO_roll_102 ?_
        refine tt_sub [1, 2, 3, 0] rfl ?_
        exact ih (k + 1) (zu hi k ((hi k) + 0)) (by omega) (⟨by omega, by omega⟩) (rl_ks (by omega) hzb I)
      · skip
        have hz1 : z86 = 1 := by omega
        rw [hz1] at hzb
        refine tt_iconst F dMO_roll_92 ?_
        refine tt_goto F 97 (by decide) dMO_roll_93 ?_
        refine tt_iadd F dMO_roll_97 ?_
        refine tt_iast F (fun h => h) 9 rfl (by omega) (by omega) (by omega) dMO_roll_98 ?_
        refine tt_iinc F 3 [(3, .int (iZ (k + 1))), (0, .ref (ad 0)), (1, .int (iZ y)), (2, .int (iZ x))] rfl (by decide) rfl dMO_roll_99 ?_
        refine tt_goto F 68 (by decide) dMO_roll_102 ?_
        refine tt_sub [1, 2, 3, 0] rfl ?_
        exact ih (k + 1) (zu hi k ((hi k) + 1)) (by omega) (⟨by omega, by omega⟩) (rl_ks (by omega) hzb I)
set_option maxHeartbeats 4000000 in
set_option maxRecDepth 100000 in
theorem lp_rollx {y : Int} (F : FX p s m args meth c cMO_roll 4 none wsMO_roll RMO D vwCl cI cZ cJ SL A) (hg : 1 ≤ W ∧ W ≤ 12 ∧ 1 ≤ D_ ∧ D_ ≤ 12 ∧ 1 ≤ r ∧ r ≤ 10) (hy : -r ≤ y ∧ y < D_ + r) (hT : ∀ k, 0 ≤ k → k < 144 → 0 ≤ tM k ∧ tM k ≤ 250)
    (k111 : ∀ (x : Int) (wh : Int → Int) (sM : Int → Int) (hi : Int → Int), (RLI W D_ r tM wh sM hi ((y + 1 + r) * (W + 2 * r) + (-r + r))) → TT p l e rmMO_roll s m args below meth c D vwCl A 4 False Q 111 [(0, .ref (ad 0)), (1, .int (iZ y))] [] (mW cI cZ ad W D_ r hM rM tM wM mp mk wh sM hi vS cd mn) 0 0) :
    ∀ (n : Nat) (x : Int) (wh : Int → Int) (sM : Int → Int) (hi : Int → Int), (W + r - x).toNat < n → (-r ≤ x ∧ x ≤ W + r) → (RLI W D_ r tM wh sM hi ((y + r) * (W + 2 * r) + (x + r))) → TT p l e rmMO_roll s m args below meth c D vwCl A 4 False Q 47 [(0, .ref (ad 0)), (1, .int (iZ y)), (2, .int (iZ x))] [] (mW cI cZ ad W D_ r hM rM tM wM mp mk wh sM hi vS cd mn) 0 0 := by
  intro n
  induction n with
  | zero => intro x wh sM hi hn; omega
  | succ n ih =>
    intro x wh sM hi hn hx I
    obtain ⟨hW1, hW2, hD1, hD2, hr1, hr2⟩ := id hg
    have hrr := rr_b hr1 hr2
    have hPL := pl_b hW1 hW2 hD1 hD2 hr1 hr2
    refine tt_iload_n F 2 rfl rfl dMO_roll_47 ?_
    refine tt_aload_n F 0 rfl rfl dMO_roll_48 ?_
    refine tt_get F inMO 0 rfl rfl 1 (by decide) we699 rfl dMO_roll_49 ?_
    refine tt_aload_n F 0 rfl rfl dMO_roll_52 ?_
    refine tt_get F inMO 0 rfl rfl 3 (by decide) we701 rfl dMO_roll_53 ?_
    refine tt_iadd F dMO_roll_56 ?_
    refine tt_icmp_ge F 111 ⟨by omega, by omega⟩ ⟨by omega, by omega⟩ dMO_roll_57 (by decide) (fun c57 => ?_) (fun c57 => ?_)
    · skip
      refine tt_sub [0, 1] rfl ?_
      exact k111 x wh sM hi (by have e1 : (y + 1 + r) * (W + 2 * r) + (-r + r) = ((y + r) * (W + 2 * r) + (x + r)) := (by rw [show y + 1 + r = (y + r) + 1 by omega, rw_s]; omega); rw [e1]; exact I)
    · skip
      refine tt_aload_n F 0 rfl rfl dMO_roll_60 ?_
      refine tt_iload_n F 2 rfl rfl dMO_roll_61 ?_
      refine tt_iload_n F 1 rfl rfl dMO_roll_62 ?_
      refine tt_cVV0 F (fun h => h) (As := [.int (iZ x), .int (iZ y)]) 0 rfl rfl (c_restAtM (hM := hM) (rM := rM) (tM := tM) (wM := wM) (mp := mp) (mk := mk) (wh := wh) (sM := sM) (hi := hi) (vS := vS) (cd := cd) (mn := mn) (x := x) (y := y) hg (by omega) hT) (cwV 2 F.1.2.2.2.2 (gw_V wd778 wd780 wd32 wd53 wd781) rfl rfl rfl (by decide +kernel) ⟨(Nat.le_of_ble_eq_true rfl), (Nat.le_of_ble_eq_true rfl)⟩) rfl rfl rfl (Nat.le_of_ble_eq_true rfl) ⟨(Nat.le_of_ble_eq_true rfl), (Nat.le_of_ble_eq_true rfl)⟩ dMO_roll_63 (fun w1 hp => ?_)
      obtain ⟨wh63, sM63, rfl, hR63, hO63⟩ := hp
      refine tt_iconst F dMO_roll_66 ?_
      refine tt_istore_n F [(3, .int (iZ 0)), (0, .ref (ad 0)), (1, .int (iZ y)), (2, .int (iZ x))] rfl (by decide) rfl dMO_roll_67 ?_
      refine tt_sub [1, 2, 3, 0] rfl ?_
      refine lp_rollk F hg (by omega) hT (fun k hi I2 => ?_) 145 0 hi (by omega) (by omega) (rl_k0 I hO63 hR63)
      refine tt_iinc F 2 [(2, .int (iZ (x + 1))), (0, .ref (ad 0)), (1, .int (iZ y))] rfl (by decide) rfl dMO_roll_105 ?_
      refine tt_goto F 47 (by decide) dMO_roll_108 ?_
      refine tt_sub [1, 2, 0] rfl ?_
      exact ih (x + 1) wh63 sM63 hi (by omega) (⟨by omega, by omega⟩) (by have e1 : (y + r) * (W + 2 * r) + (x + 1 + r) = ((y + r) * (W + 2 * r) + (x + r)) + 1 := (by omega); rw [e1]; exact I2)
set_option maxHeartbeats 4000000 in
set_option maxRecDepth 100000 in
theorem lp_rolly  (F : FX p s m args meth c cMO_roll 4 none wsMO_roll RMO D vwCl cI cZ cJ SL A) (hg : 1 ≤ W ∧ W ≤ 12 ∧ 1 ≤ D_ ∧ D_ ≤ 12 ∧ 1 ≤ r ∧ r ≤ 10) (hT : ∀ k, 0 ≤ k → k < 144 → 0 ≤ tM k ∧ tM k ≤ 250)
    (k117 : ∀ (y : Int) (wh : Int → Int) (sM : Int → Int) (hi : Int → Int), (RLI W D_ r tM wh sM hi ((W + 2 * r) * (D_ + 2 * r))) → TT p l e rmMO_roll s m args below meth c D vwCl A 4 False Q 117 [] [] (mW cI cZ ad W D_ r hM rM tM wM mp mk wh sM hi vS cd mn) 0 0) :
    ∀ (n : Nat) (y : Int) (wh : Int → Int) (sM : Int → Int) (hi : Int → Int), (D_ + r - y).toNat < n → (-r ≤ y ∧ y ≤ D_ + r) → (RLI W D_ r tM wh sM hi ((y + r) * (W + 2 * r) + (-r + r))) → TT p l e rmMO_roll s m args below meth c D vwCl A 4 False Q 28 [(0, .ref (ad 0)), (1, .int (iZ y))] [] (mW cI cZ ad W D_ r hM rM tM wM mp mk wh sM hi vS cd mn) 0 0 := by
  intro n
  induction n with
  | zero => intro y wh sM hi hn; omega
  | succ n ih =>
    intro y wh sM hi hn hy I
    obtain ⟨hW1, hW2, hD1, hD2, hr1, hr2⟩ := id hg
    have hrr := rr_b hr1 hr2
    have hPL := pl_b hW1 hW2 hD1 hD2 hr1 hr2
    refine tt_iload_n F 1 rfl rfl dMO_roll_28 ?_
    refine tt_aload_n F 0 rfl rfl dMO_roll_29 ?_
    refine tt_get F inMO 0 rfl rfl 2 (by decide) we700 rfl dMO_roll_30 ?_
    refine tt_aload_n F 0 rfl rfl dMO_roll_33 ?_
    refine tt_get F inMO 0 rfl rfl 3 (by decide) we701 rfl dMO_roll_34 ?_
    refine tt_iadd F dMO_roll_37 ?_
    refine tt_icmp_ge F 117 ⟨by omega, by omega⟩ ⟨by omega, by omega⟩ dMO_roll_38 (by decide) (fun c38 => ?_) (fun c38 => ?_)
    · skip
      refine tt_sub [] rfl ?_
      exact k117 y wh sM hi (by have e1 : (W + 2 * r) * (D_ + 2 * r) = (y + r) * (W + 2 * r) + (-r + r) := (by rw [show y + r = D_ + 2 * r by omega, Int.mul_comm]; omega); rw [e1]; exact I)
    · skip
      refine tt_aload_n F 0 rfl rfl dMO_roll_41 ?_
      refine tt_get F inMO 0 rfl rfl 3 (by decide) we701 rfl dMO_roll_42 ?_
      refine tt_ineg F dMO_roll_45 ?_
      refine tt_istore_n F [(2, .int (iZ (-r))), (0, .ref (ad 0)), (1, .int (iZ y))] rfl (by decide) rfl dMO_roll_46 ?_
      refine tt_sub [1, 2, 0] rfl ?_
      refine lp_rollx F hg (by omega) hT (fun x wh sM hi I2 => ?_) ((W + r - -r).toNat + 1) (-r) wh sM hi (by omega) (by omega) I
      refine tt_iinc F 1 [(1, .int (iZ (y + 1))), (0, .ref (ad 0))] rfl (by decide) rfl dMO_roll_111 ?_
      refine tt_goto F 28 (by decide) dMO_roll_114 ?_
      refine tt_sub [1, 0] rfl ?_
      exact ih (y + 1) wh sM hi (by omega) (⟨by omega, by omega⟩) (I2)
set_option maxHeartbeats 4000000 in
set_option maxRecDepth 100000 in
theorem c_roll  (hg : 1 ≤ W ∧ W ≤ 12 ∧ 1 ≤ D_ ∧ D_ ≤ 12 ∧ 1 ≤ r ∧ r ≤ 10) (hT : ∀ k, 0 ≤ k → k < 144 → 0 ≤ tM k ∧ tM k ≤ 250) : CV l D vwCl cI cZ cJ SL yMO_roll wsMO_roll rmMO_roll [.ref (ad 0)] (mW cI cZ ad W D_ r hM rM tM wM mp mk wh sM hi vS cd mn) (fun w1 => ∃ wh' sM' hi', w1 = (mW cI cZ ad W D_ r hM rM tM wM mp mk wh' sM' hi' vS cd mn) ∧ RLI W D_ r tM wh' sM' hi' ((W + 2 * r) * (D_ + 2 * r))) := by
  refine tt_startV (by decide) rfl (Nat.le_of_ble_eq_true rfl) ?_
  intro p e s m args below meth c hnm F
  obtain ⟨hW1, hW2, hD1, hD2, hr1, hr2⟩ := id hg
  have hrr := rr_b hr1 hr2
  have hPL := pl_b hW1 hW2 hD1 hD2 hr1 hr2
  refine tt_iconst F dMO_roll_0 ?_
  refine tt_istore_n F [(1, .int (iZ 0)), (0, .ref (ad 0))] rfl (by decide) rfl dMO_roll_1 ?_
  refine tt_sub [1, 0] rfl ?_
  refine lp_roll0 F (fun k hi h => ?_) 145 0 hi (by omega) (by omega) (fun j j0 j1 => by omega)
  refine tt_aload_n F 0 rfl rfl dMO_roll_22 ?_
  refine tt_get F inMO 0 rfl rfl 3 (by decide) we701 rfl dMO_roll_23 ?_
  refine tt_ineg F dMO_roll_26 ?_
  refine tt_istore_n F [(1, .int (iZ (-r))), (0, .ref (ad 0))] rfl (by decide) rfl dMO_roll_27 ?_
  refine tt_sub [1, 0] rfl ?_
  refine lp_rolly F hg hT (fun y wh' sM' hi' I => ?_) ((D_ + r - -r).toNat + 1) (-r) wh sM hi (by omega) (by omega) (by rw [show (-r + r) * (W + 2 * r) + (-r + r) = 0 by rw [show -r + r = 0 by omega]; omega]; exact rl_0 h)
  exact tt_vret F rfl (Nat.le_of_ble_eq_true rfl) (Nat.le_of_ble_eq_true rfl) dMO_roll_117 ⟨wh', sM', hi', rfl, I⟩
end MOD2
