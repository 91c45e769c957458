set_option maxHeartbeats 4000000 in
set_option maxRecDepth 100000 in
theorem lw_loop {p : Program} {l : Launch} {e : Env} {s : State} {m : MethodId} {below : List Frame} {meth : Method} {c : Code} {cq : Cond} {D : va_G} {cI cZ cJ : ClassId} {SL : List zS} {A : Nat → Prop} {b L o aS : Nat} {xs : Nat → Int32} {ad : Nat → Nat} {a : Nat → Nat} {W D_ r sz : Int} {co ro ho ac al sd lf sq : Int → Int} (F : FX p s m #[Value.ref b] meth c cLW_law 7 (some .boolean) (cq :: gT) RLW D vwCl cI cZ cJ SL A) (hst : l.stackTraces = false) (hX : va_X b L xs s s.heap) (hbl : b < s.heap.size) (hbA : ¬ A b) (hL : L ≤ 2563) (hsp : SRx RRB ssL s) (hAo : ∀ q, q < s.heap.size → ¬ A q) (hA : ∀ q, A q → s.heap.size ≤ q) (hG : GE W D_ r sz co ro ho ac al sd lf sq) (hsw : SL[1]? = some ("RollingBalls$Plan", "SETS_WITH", "[I", aS, 4, fun j : Nat => Value.int (iZ (SWv (j : Int))))) :
    ∀ (n : Nat) (i : Int) (ws : va_W), ((L : Int) + 6 - i).toNat < n → 3 ≤ i ∧ i ≤ 2600 → i ≤ (L : Int) + 3 → LI cI cZ cJ a ad o W D_ r sz co ro ho ac al sd lf sq ws → TT p l e room_1 s m #[Value.ref b] below meth c D vwCl A 7 False (lw_Z below #[Value.ref b] s) 53 [(0, .ref b), (1, .ref (a 0)), (2, .ref (ad 0)), (3, .ref o), (4, .int (iZ i))] [] ws (100 + i.toNat) (20000 + 6 * i.toNat) := by
  intro n
  induction n with
  | zero => intro i ws hn; omega
  | succ n ih =>
    intro i ws hn hi hiL hI
    refine tt_iload F 4 rfl dLW_law_53 ?_
    refine tt_aload_n F 0 rfl rfl dLW_law_55 ?_
    refine tt_slen F hX hbl hbA dLW_law_56 ?_
    refine tt_iconst F dLW_law_57 ?_
    refine tt_isub F dLW_law_58 ?_
    refine tt_icmp_gt F 997 ⟨by omega, by omega⟩ ⟨by omega, by omega⟩ dLW_law_59 (by decide) (fun c59 => ?_) (fun c59 => ?_)
    · skip
      refine tt_iconst F dLW_law_997 ?_
      exact tt_lend F hA (by omega) (by omega) dLW_law_998
    · skip
      refine tt_aload_n F 0 rfl rfl dLW_law_62 ?_
      refine tt_iload F 4 rfl dLW_law_63 ?_
      refine tt_sld F hX hbl hbA (by omega) (by omega) (by omega) dLW_law_65 ?_
      refine tt_bipush F (by decide) dLW_law_66 ?_
      refine tt_iand F dLW_law_68 ?_
      have K : ∀ ws, LI cI cZ cJ a ad o W D_ r sz co ro ho ac al sd lf sq ws → TT p l e room_1 s m #[Value.ref b] below meth c D vwCl A 7 False (lw_Z below #[Value.ref b] s) 991 [(0, .ref b), (1, .ref (a 0)), (2, .ref (ad 0)), (3, .ref o), (4, .int (iZ i))] [] ws (100 + i.toNat + 1) (20000 + 6 * i.toNat + 6) := by
        intro ws hI
        refine tt_iinc F 4 [(4, .int (iZ (i + 5))), (0, .ref b), (1, .ref (a 0)), (2, .ref (ad 0)), (3, .ref o)] rfl (by decide) rfl dLW_law_991 ?_
        refine tt_goto F 53 (by decide) dLW_law_994 ?_
        refine tt_sub [1, 2, 3, 4, 0] rfl ?_
        refine tt_wid (k := 100 + (i + 5).toNat) (n := 20000 + 6 * (i + 5).toNat) (by omega) (by omega) ?_
        exact ih (i + 5) ws (by omega) (by omega) (by omega) hI
      have h15 := zand15 (scv xs i)
      generalize zand (scv xs i) 15 = zq at h15 ⊢
      rcases (show zq = 0 ∨ zq = 1 ∨ zq = 2 ∨ zq = 3 ∨ zq = 4 ∨ zq = 5 ∨ zq = 6 ∨ zq = 7 ∨ zq = 8 ∨ zq = 9 ∨ zq = 10 ∨ zq = 11 ∨ zq = 12 ∨ zq = 13 ∨ 13 < zq by omega) with hw | hw | hw | hw | hw | hw | hw | hw | hw | hw | hw | hw | hw | hw | hw
      · skip
        refine tt_tsw F 140 ⟨by omega, by omega⟩ dLW_law_69 (by omega) (by omega) (by rw [hw]; rfl) (by decide) ?_
        exact cs_height F hst hX hbl hbA hL hsp hAo hG hsw (by omega) (by omega) (by omega) K ws hI
      · skip
        refine tt_tsw F 220 ⟨by omega, by omega⟩ dLW_law_69 (by omega) (by omega) (by rw [hw]; rfl) (by decide) ?_
        exact cs_rod F hst hX hbl hbA hL hsp hAo hG hsw (by omega) (by omega) (by omega) K ws hI
      · skip
        refine tt_tsw F 300 ⟨by omega, by omega⟩ dLW_law_69 (by omega) (by omega) (by rw [hw]; rfl) (by decide) ?_
        exact cs_rest F hst hX hbl hbA hL hsp hAo hG hsw (by omega) (by omega) (by omega) K ws hI
      · skip
        refine tt_tsw F 380 ⟨by omega, by omega⟩ dLW_law_69 (by omega) (by omega) (by rw [hw]; rfl) (by decide) ?_
        exact cs_touched F hst hX hbl hbA hL hsp hAo hG hsw (by omega) (by omega) (by omega) K ws hI
      · skip
        refine tt_tsw F 460 ⟨by omega, by omega⟩ dLW_law_69 (by omega) (by omega) (by rw [hw]; rfl) (by decide) ?_
        exact cs_higher F hst hX hbl hbA hL hsp hAo hG hsw (by omega) (by omega) (by omega) K ws hI
      · skip
        refine tt_tsw F 552 ⟨by omega, by omega⟩ dLW_law_69 (by omega) (by omega) (by rw [hw]; rfl) (by decide) ?_
        exact cs_tops F hst hX hbl hbA hL hsp hAo hG hsw (by omega) (by omega) (by omega) K ws hI
      · skip
        refine tt_tsw F 565 ⟨by omega, by omega⟩ dLW_law_69 (by omega) (by omega) (by rw [hw]; rfl) (by decide) ?_
        exact cs_hits F hst hX hbl hbA hL hsp hAo hG hsw (by omega) (by omega) (by omega) K ws hI
      · skip
        refine tt_tsw F 633 ⟨by omega, by omega⟩ dLW_law_69 (by omega) (by omega) (by rw [hw]; rfl) (by decide) ?_
        exact cs_safe F hst hX hbl hbA hL hsp hAo hG hsw (by omega) (by omega) (by omega) K ws hI
      · skip
        refine tt_tsw F 689 ⟨by omega, by omega⟩ dLW_law_69 (by omega) (by omega) (by rw [hw]; rfl) (by decide) ?_
        exact cs_cover F hst hX hbl hbA hL hsp hAo hG hsw (by omega) (by omega) (by omega) K ws hI
      · skip
        refine tt_tsw F 757 ⟨by omega, by omega⟩ dLW_law_69 (by omega) (by omega) (by rw [hw]; rfl) (by decide) ?_
        exact cs_may F hst hX hbl hbA hL hsp hAo hG hsw (by omega) (by omega) (by omega) K ws hI
      · skip
        refine tt_tsw F 837 ⟨by omega, by omega⟩ dLW_law_69 (by omega) (by omega) (by rw [hw]; rfl) (by decide) ?_
        exact cs_forget F hst hX hbl hbA hL hsp hAo hG hsw (by omega) (by omega) (by omega) K ws hI
      · skip
        refine tt_tsw F 850 ⟨by omega, by omega⟩ dLW_law_69 (by omega) (by omega) (by rw [hw]; rfl) (by decide) ?_
        exact cs_want F hst hX hbl hbA hL hsp hAo hG hsw (by omega) (by omega) (by omega) K ws hI
      · skip
        refine tt_tsw F 953 ⟨by omega, by omega⟩ dLW_law_69 (by omega) (by omega) (by rw [hw]; rfl) (by decide) ?_
        exact cs_choose F hst hX hbl hbA hL hsp hAo hG hsw (by omega) (by omega) (by omega) K ws hI
      · skip
        refine tt_tsw F 966 ⟨by omega, by omega⟩ dLW_law_69 (by omega) (by omega) (by rw [hw]; rfl) (by decide) ?_
        exact cs_put F hst hX hbl hbA hL hsp hAo hG hsw (by omega) (by omega) (by omega) K ws hI
      · skip
        refine tt_tswO F 991 ⟨by omega, by omega⟩ dLW_law_69 (Or.inr hw) (by decide) ?_
        exact tt_wid (by omega) (by omega) (K ws hI)
set_option maxHeartbeats 4000000 in
set_option maxRecDepth 100000 in
theorem lw_body {p : Program} {l : Launch} {e : Env} {s : State} {m : MethodId} {below : List Frame} {meth : Method} {c : Code} {cq : Cond} {D : va_G} {cI cZ cJ : ClassId} {SL : List zS} {A : Nat → Prop} {b L aS aR : Nat} {xs : Nat → Int32} (F : FX p s m #[Value.ref b] meth c cLW_law 7 (some .boolean) (cq :: gT) RLW D vwCl cI cZ cJ SL A) (hst : l.stackTraces = false) (hX : va_X b L xs s s.heap) (hbl : b < s.heap.size) (hbA : ¬ A b) (hL : L ≤ 2563) (hsp : SRx RRB ssL s) (hAo : ∀ q, q < s.heap.size → ¬ A q) (hA : ∀ q, A q → s.heap.size ≤ q) (hrt : SL[0]? = some ("RollingBalls$Level", "ROOTS", "[I", aR, 101, fun j : Nat => Value.int (iZ (rt (j : Int))))) (hsw : SL[1]? = some ("RollingBalls$Plan", "SETS_WITH", "[I", aS, 4, fun j : Nat => Value.int (iZ (SWv (j : Int))))) : TT p l e room_1 s m #[Value.ref b] below meth c D vwCl A 7 False (lw_Z below #[Value.ref b] s) 0 [(0, .ref b)] [] [] (0) (0) := by
  refine tt_new F (fun h => h) (fs := [.int (iZ 0), .int (iZ 0), .int (iZ 0), .null, .null, .null, .null]) (ci := 0) inRB tyRB tyRB_ok we61 we62 we45 rfl (fun j hj => match j, hj with | 0, _ => rfl | 1, _ => rfl | 2, _ => rfl | 3, _ => rfl | 4, _ => rfl | 5, _ => rfl | 6, _ => rfl | j + 7, h => absurd h (by omega)) (Nat.le_of_ble_eq_true rfl) (Nat.le_of_ble_eq_true rfl) dLW_law_0 (fun q0 => ?_)
  refine tt_nrm (k := 1) (n := 7) (ws' := [(q0, .inr (0, [.int (iZ 0), .int (iZ 0), .int (iZ 0), .null, .null, .null, .null]))]) (by omega) (by omega) rfl ?_
  refine tt_dup F rfl dLW_law_3 ?_
  refine tt_aload_n F 0 rfl rfl dLW_law_4 ?_
  refine tt_iconst F dLW_law_5 ?_
  refine tk_cS F hX hbl hbA (k_cell (k := 0) hL (by decide)) (va_cwS 2 F.1.2.2.2.2 (gw_S wd474 wd475 wd44 wd476) rfl rfl rfl (by decide +kernel) ⟨(Nat.le_of_ble_eq_true rfl), (Nat.le_of_ble_eq_true rfl)⟩) rfl rfl (Nat.le_of_ble_eq_true rfl) ⟨(Nat.le_of_ble_eq_true rfl), (Nat.le_of_ble_eq_true rfl)⟩ dLW_law_6 (fun v hv => ?_)
  subst hv
  refine tt_name (fun x0 hx0 => ?_)
  have ix0 : ir x0 := by rw [hx0]; split <;> first | exact scv_ir _ _ | exact ⟨by decide, by decide⟩
  refine tt_aload_n F 0 rfl rfl dLW_law_9 ?_
  refine tt_iconst F dLW_law_10 ?_
  refine tk_cS F hX hbl hbA (k_cell (k := 1) hL (by decide)) (va_cwS 2 F.1.2.2.2.2 (gw_S wd474 wd475 wd44 wd476) rfl rfl rfl (by decide +kernel) ⟨(Nat.le_of_ble_eq_true rfl), (Nat.le_of_ble_eq_true rfl)⟩) rfl rfl (Nat.le_of_ble_eq_true rfl) ⟨(Nat.le_of_ble_eq_true rfl), (Nat.le_of_ble_eq_true rfl)⟩ dLW_law_11 (fun v hv => ?_)
  subst hv
  refine tt_name (fun y0 hy0 => ?_)
  have iy0 : ir y0 := by rw [hy0]; split <;> first | exact scv_ir _ _ | exact ⟨by decide, by decide⟩
  refine tt_aload_n F 0 rfl rfl dLW_law_14 ?_
  refine tt_iconst F dLW_law_15 ?_
  refine tk_cS F hX hbl hbA (k_cell (k := 2) hL (by decide)) (va_cwS 2 F.1.2.2.2.2 (gw_S wd474 wd475 wd44 wd476) rfl rfl rfl (by decide +kernel) ⟨(Nat.le_of_ble_eq_true rfl), (Nat.le_of_ble_eq_true rfl)⟩) rfl rfl (Nat.le_of_ble_eq_true rfl) ⟨(Nat.le_of_ble_eq_true rfl), (Nat.le_of_ble_eq_true rfl)⟩ dLW_law_16 (fun v hv => ?_)
  subst hv
  refine tt_name (fun r0 hr0 => ?_)
  have ir0 : ir r0 := by rw [hr0]; split <;> first | exact scv_ir _ _ | exact ⟨by decide, by decide⟩
  refine tt_cVI F (fun h => h) (As := [.int (iZ x0), .int (iZ y0), .int (iZ r0)]) [] (c_new ix0 iy0 ir0 hrt) (cwI 3 F.1.2.2.2.2 (gw_I wd65) rfl rfl rfl (F.1.2.2.2.2 _ we45) (F.1.2.2.2.2 _ we63) (F.1.2.2.2.2 _ we64) rfl (by decide +kernel) ⟨(Nat.le_of_ble_eq_true rfl), (Nat.le_of_ble_eq_true rfl)⟩) rfl rfl rfl (Nat.le_of_ble_eq_true rfl) ⟨(Nat.le_of_ble_eq_true rfl), (Nat.le_of_ble_eq_true rfl)⟩ dLW_law_19 (fun w1 hp => ?_)
  obtain ⟨a, W, D_, r, sz, co, ro, ho, ac, al, sd, lf, sq, hc, re, ow, tc, rfl, rfl, hG, hU, hW_, hD__, hr_⟩ := hp
  refine tt_wid (k := 31) (n := 7107) (Nat.le_of_ble_eq_true rfl) (Nat.le_of_ble_eq_true rfl) ?_
  refine tt_nrm (ws' := (cW cI cZ a W D_ r sz co ro ho ac al sd lf sq (fun _ => 0) (fun _ => 0) (fun _ => 0) (fun _ => 0) hc (fun _ => 0) re ow tc (fun _ => 0) (fun _ => 0) (fun _ => 0) (fun _ => 0) (fun _ => 0) (fun _ => 0) (fun _ => 0) (fun _ => 0) 0 0 0 0)) (Nat.le_refl _) (Nat.le_refl _) rfl ?_
  refine tt_astore_n F [(1, .ref (a 0)), (0, .ref b)] rfl (by decide) rfl dLW_law_22 ?_
  refine tt_new F (fun h => h) (fs := [.int (iZ 0), .int (iZ 0), .int (iZ 0), .int (iZ 0), .null, .null, .null, .null, .int (iZ 0), .null, .null, .null, .null, .null, .null]) (ci := 5) inMO tyMO tyMO_ok we689 we690 we53 rfl (fun j hj => match j, hj with | 0, _ => rfl | 1, _ => rfl | 2, _ => rfl | 3, _ => rfl | 4, _ => rfl | 5, _ => rfl | 6, _ => rfl | 7, _ => rfl | 8, _ => rfl | 9, _ => rfl | 10, _ => rfl | 11, _ => rfl | 12, _ => rfl | 13, _ => rfl | 14, _ => rfl | j + 15, h => absurd h (by omega)) (Nat.le_of_ble_eq_true rfl) (Nat.le_of_ble_eq_true rfl) dLW_law_23 (fun q1 => ?_)
  refine tt_wid (k := 32) (n := 7122) (Nat.le_of_ble_eq_true rfl) (Nat.le_of_ble_eq_true rfl) ?_
  refine tt_dup F rfl dLW_law_26 ?_
  refine tt_aload_n F 1 rfl rfl dLW_law_27 ?_
  refine tt_iconst F dLW_law_28 ?_
  refine tk_cS F hX hbl hbA (k_cell (k := 0) hL (by decide)) (va_cwS 2 F.1.2.2.2.2 (gw_S wd474 wd475 wd44 wd476) rfl rfl rfl (by decide +kernel) ⟨(Nat.le_of_ble_eq_true rfl), (Nat.le_of_ble_eq_true rfl)⟩) rfl rfl (Nat.le_of_ble_eq_true rfl) ⟨(Nat.le_of_ble_eq_true rfl), (Nat.le_of_ble_eq_true rfl)⟩ dLW_law_29 (fun v hv => ?_)
  subst hv
  refine tt_name (fun x1 hx1 => ?_)
  have ix1 : ir x1 := by rw [hx1]; split <;> first | exact scv_ir _ _ | exact ⟨by decide, by decide⟩
  refine tt_aload_n F 1 rfl rfl dLW_law_32 ?_
  refine tt_iconst F dLW_law_33 ?_
  refine tk_cS F hX hbl hbA (k_cell (k := 1) hL (by decide)) (va_cwS 2 F.1.2.2.2.2 (gw_S wd474 wd475 wd44 wd476) rfl rfl rfl (by decide +kernel) ⟨(Nat.le_of_ble_eq_true rfl), (Nat.le_of_ble_eq_true rfl)⟩) rfl rfl (Nat.le_of_ble_eq_true rfl) ⟨(Nat.le_of_ble_eq_true rfl), (Nat.le_of_ble_eq_true rfl)⟩ dLW_law_34 (fun v hv => ?_)
  subst hv
  refine tt_name (fun y1 hy1 => ?_)
  have iy1 : ir y1 := by rw [hy1]; split <;> first | exact scv_ir _ _ | exact ⟨by decide, by decide⟩
  refine tt_aload_n F 1 rfl rfl dLW_law_37 ?_
  refine tt_iconst F dLW_law_38 ?_
  refine tk_cS F hX hbl hbA (k_cell (k := 2) hL (by decide)) (va_cwS 2 F.1.2.2.2.2 (gw_S wd474 wd475 wd44 wd476) rfl rfl rfl (by decide +kernel) ⟨(Nat.le_of_ble_eq_true rfl), (Nat.le_of_ble_eq_true rfl)⟩) rfl rfl (Nat.le_of_ble_eq_true rfl) ⟨(Nat.le_of_ble_eq_true rfl), (Nat.le_of_ble_eq_true rfl)⟩ dLW_law_39 (fun v hv => ?_)
  subst hv
  refine tt_name (fun r1 hr1 => ?_)
  have ir1 : ir r1 := by rw [hr1]; split <;> first | exact scv_ir _ _ | exact ⟨by decide, by decide⟩
  refine tt_cVI F (fun h => h) (As := [.int (iZ x1), .int (iZ y1), .int (iZ r1)]) (cW cI cZ a W D_ r sz co ro ho ac al sd lf sq (fun _ => 0) (fun _ => 0) (fun _ => 0) (fun _ => 0) hc (fun _ => 0) re ow tc (fun _ => 0) (fun _ => 0) (fun _ => 0) (fun _ => 0) (fun _ => 0) (fun _ => 0) (fun _ => 0) (fun _ => 0) 0 0 0 0) (c_newM ix1 iy1 ir1) (cwI 3 F.1.2.2.2.2 (gw_I wd693) rfl rfl rfl (F.1.2.2.2.2 _ we53) (F.1.2.2.2.2 _ we691) (F.1.2.2.2.2 _ we692) rfl (by decide +kernel) ⟨(Nat.le_of_ble_eq_true rfl), (Nat.le_of_ble_eq_true rfl)⟩) rfl rfl rfl (Nat.le_of_ble_eq_true rfl) ⟨(Nat.le_of_ble_eq_true rfl), (Nat.le_of_ble_eq_true rfl)⟩ dLW_law_42 (fun w1 hp => ?_)
  obtain ⟨ad, W2, D2, r2, rfl, rfl, hW2_, hD2_, hr2_⟩ := hp
  refine tt_wid (k := 42) (n := 10042) (Nat.le_of_ble_eq_true rfl) (Nat.le_of_ble_eq_true rfl) ?_
  have e1 : W2 = W := by have := hx0.trans hx1.symm; omega
  have e2 : D2 = D_ := by have := hy0.trans hy1.symm; omega
  have e3 : r2 = r := by have := hr0.trans hr1.symm; omega
  subst e1
  subst e2
  subst e3
  refine tt_astore_n F [(2, .ref (ad 0)), (1, .ref (a 0)), (0, .ref b)] rfl (by decide) rfl dLW_law_45 ?_
  refine tt_iconst F dLW_law_46 ?_
  refine tt_newJ F (fun h => h) we876 (by decide) (by decide) (Nat.le_of_ble_eq_true rfl) (Nat.le_of_ble_eq_true rfl) dLW_law_47 (fun o => ?_)
  refine tt_wid (k := 43) (n := 10043) (Nat.le_of_ble_eq_true rfl) (Nat.le_of_ble_eq_true rfl) ?_
  refine tt_astore_n F [(3, .ref o), (2, .ref (ad 0)), (1, .ref (a 0)), (0, .ref b)] rfl (by decide) rfl dLW_law_49 ?_
  refine tt_iconst F dLW_law_50 ?_
  refine tt_istore F [(4, .int (iZ 3)), (3, .ref o), (2, .ref (ad 0)), (1, .ref (a 0)), (0, .ref b)] (by decide) rfl dLW_law_51 ?_
  refine tt_sub [4, 3, 2, 1, 0] rfl ?_
  refine tt_comm ?_
  refine tt_nrm (k := 103) (n := 20018) (ws' := ((o, aJ cJ 1 (fun _ => 0)) :: (cW cI cZ a W2 D2 r2 sz co ro ho ac al sd lf sq (fun _ => 0) (fun _ => 0) (fun _ => 0) (fun _ => 0) hc (fun _ => 0) re ow tc (fun _ => 0) (fun _ => 0) (fun _ => 0) (fun _ => 0) (fun _ => 0) (fun _ => 0) (fun _ => 0) (fun _ => 0) 0 0 0 0)) ++ (mW cI cZ ad W2 D2 r2 (fun _ => 0) (fun _ => 0) (fun _ => 0) (fun _ => 0) (fun _ => 0) (fun _ => 0) (fun _ => 0) (fun _ => 0) (fun _ => 0) (fun _ => 0) 0 0)) (Nat.le_of_ble_eq_true rfl) (Nat.le_of_ble_eq_true rfl) rfl ?_
  refine tt_comm ?_
  exact lw_loop F hst hX hbl hbA hL hsp hAo hA hG hsw (((L : Int) + 6 - 3).toNat + 1) 3 _ (by omega) (by omega) (by omega) ⟨_, _, _, _, _, _, _, _, _, _, _, _, _, _, _, _, _, _, _, _, _, _, _, _, _, _, _, _, _, _, _, _, _, _, rfl, hU, rel_new _ _ _ _ _ _⟩
