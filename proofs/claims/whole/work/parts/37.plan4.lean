section CL
variable {p : Program} {l : Launch} {e : Env} {s : State} {m : MethodId} {args : Array Value} {below : List Frame} {meth : Method} {c : Code} {Q : State → Prop} {D : va_G} {cI cZ cJ : ClassId} {SL : List zS} {A : Nat → Prop} {a : Nat → Nat} {W D_ r sz : Int} {co ro ho ac al sd lf sq : Int → Int} {hs rs ts rt_ hc li re ow tc cp ck wa qp qt qs lo sb : Int → Int} {lc cn ch sk : Int}
abbrev rmJI_bitCount : Room := { frames := 0, cells := 0, slots := 0, locals := 0 }
def bcF (x : Int) : Int :=
  let a := x - zand (zushr x 1) 1431655765
  let b := zand a 858993459 + zand (zushr a 2) 858993459
  let c := zand (b + zushr b 4) 252645135
  let d := c + zushr c 8
  let e := d + zushr d 16
  zand e 63
theorem bc_d : ∀ x : Fin 16, bcF (x.val : Int) = pcS (x.val : Int) 4 := by decide +kernel
theorem bc_ok {x : Int} (h0 : 0 ≤ x) (h1 : x < 16) : bcF x = pcS x 4 := by
  have := bc_d ⟨x.toNat, by omega⟩
  simp only [Int.toNat_of_nonneg h0] at this
  exact this
theorem pc_b {x : Int} : 0 ≤ pcS x 4 ∧ pcS x 4 ≤ 4 := cz_b _ (by omega)
set_option maxHeartbeats 4000000 in
set_option maxRecDepth 100000 in
theorem c_bitCount {w0 : va_W} {x : Int} (hx : 0 ≤ x ∧ x < 16) : CI l D vwCl cI cZ cJ SL yJI_bitCount wsJI_bitCount rmJI_bitCount [.int (iZ x)] w0 (fun z w1 => z = pcS x 4 ∧ w1 = w0) := by
  refine tt_startI (by decide) rfl (Nat.le_of_ble_eq_true rfl) ?_
  intro p e s m args below meth c hnm F
  refine tt_iload_n F 0 rfl rfl dJI_bitCount_0 ?_
  refine tt_iload_n F 0 rfl rfl dJI_bitCount_1 ?_
  refine tt_iconst F dJI_bitCount_2 ?_
  refine tt_iushr F dJI_bitCount_3 ?_
  refine tt_ldcw F (n := 1431655765) we414 dJI_bitCount_4 ?_
  refine tt_iand F dJI_bitCount_7 ?_
  refine tt_isub F dJI_bitCount_8 ?_
  refine tt_name (fun x9 hx9 => ?_)
  refine tt_istore_n F [(0, .int (iZ x9))] rfl (by decide) rfl dJI_bitCount_9 ?_
  refine tt_iload_n F 0 rfl rfl dJI_bitCount_10 ?_
  refine tt_ldcw F (n := 858993459) we415 dJI_bitCount_11 ?_
  refine tt_iand F dJI_bitCount_14 ?_
  refine tt_iload_n F 0 rfl rfl dJI_bitCount_15 ?_
  refine tt_iconst F dJI_bitCount_16 ?_
  refine tt_iushr F dJI_bitCount_17 ?_
  refine tt_ldcw F (n := 858993459) we415 dJI_bitCount_18 ?_
  refine tt_iand F dJI_bitCount_21 ?_
  refine tt_iadd F dJI_bitCount_22 ?_
  refine tt_name (fun x23 hx23 => ?_)
  refine tt_istore_n F [(0, .int (iZ x23))] rfl (by decide) rfl dJI_bitCount_23 ?_
  refine tt_iload_n F 0 rfl rfl dJI_bitCount_24 ?_
  refine tt_iload_n F 0 rfl rfl dJI_bitCount_25 ?_
  refine tt_iconst F dJI_bitCount_26 ?_
  refine tt_iushr F dJI_bitCount_27 ?_
  refine tt_iadd F dJI_bitCount_28 ?_
  refine tt_ldcw F (n := 252645135) we416 dJI_bitCount_29 ?_
  refine tt_iand F dJI_bitCount_32 ?_
  refine tt_name (fun x33 hx33 => ?_)
  refine tt_istore_n F [(0, .int (iZ x33))] rfl (by decide) rfl dJI_bitCount_33 ?_
  refine tt_iload_n F 0 rfl rfl dJI_bitCount_34 ?_
  refine tt_iload_n F 0 rfl rfl dJI_bitCount_35 ?_
  refine tt_bipush F (by decide) dJI_bitCount_36 ?_
  refine tt_iushr F dJI_bitCount_38 ?_
  refine tt_iadd F dJI_bitCount_39 ?_
  refine tt_name (fun x40 hx40 => ?_)
  refine tt_istore_n F [(0, .int (iZ x40))] rfl (by decide) rfl dJI_bitCount_40 ?_
  refine tt_iload_n F 0 rfl rfl dJI_bitCount_41 ?_
  refine tt_iload_n F 0 rfl rfl dJI_bitCount_42 ?_
  refine tt_bipush F (by decide) dJI_bitCount_43 ?_
  refine tt_iushr F dJI_bitCount_45 ?_
  refine tt_iadd F dJI_bitCount_46 ?_
  refine tt_name (fun x47 hx47 => ?_)
  refine tt_istore_n F [(0, .int (iZ x47))] rfl (by decide) rfl dJI_bitCount_47 ?_
  refine tt_iload_n F 0 rfl rfl dJI_bitCount_48 ?_
  refine tt_bipush F (by decide) dJI_bitCount_49 ?_
  refine tt_iand F dJI_bitCount_51 ?_
  exact tt_iret F rfl (Nat.le_of_ble_eq_true rfl) (Nat.le_of_ble_eq_true rfl) dJI_bitCount_52 ⟨by rw [hx47, hx40, hx33, hx23, hx9]; exact bc_ok hx.1 hx.2, rfl⟩
abbrev rmPL_lengthOf : Room := { frames := 1, cells := 0, slots := 0, locals := 21 }
theorem lnS_s {ck : Int → Int} {S k : Int} (h : 0 ≤ k) : lnS ck S (k + 1).toNat = lnS ck S k.toNat + (if tb S k = true then ck k else 0) := by
  have e1 : (k + 1).toNat = k.toNat + 1 := by omega
  have e2 : ((k.toNat : Nat) : Int) = k := by omega
  rw [e1, lnS, e2]
set_option maxHeartbeats 4000000 in
set_option maxRecDepth 100000 in
theorem len_loop {S : Int} (F : FX p s m args meth c cPL_lengthOf 4 (some .int) wsPL_lengthOf RPL D vwCl cI cZ cJ SL A) (hcn : 0 ≤ cn ∧ cn ≤ 4)
    (k35 : ∀ (len : Int) (k : Int), (len = lnS ck S cn.toNat) → TT p l e rmPL_lengthOf s m args below meth c D vwCl A 4 False Q 35 [(0, .ref (a 21)), (1, .int (iZ S)), (2, .int (iZ len)), (3, .int (iZ k))] [] (cW cI cZ a W D_ r sz co ro ho ac al sd lf sq hs rs ts rt_ hc li re ow tc cp ck wa qp qt qs lo sb lc cn ch sk) 0 0) :
    ∀ (n : Nat) (len : Int) (k : Int), (cn - k).toNat < n → (0 ≤ k ∧ k ≤ cn) → (len = lnS ck S k.toNat) → TT p l e rmPL_lengthOf s m args below meth c D vwCl A 4 False Q 4 [(0, .ref (a 21)), (1, .int (iZ S)), (2, .int (iZ len)), (3, .int (iZ k))] [] (cW cI cZ a W D_ r sz co ro ho ac al sd lf sq hs rs ts rt_ hc li re ow tc cp ck wa qp qt qs lo sb lc cn ch sk) 0 0 := by
  intro n
  induction n with
  | zero => intro len k hn; omega
  | succ n ih =>
    intro len k hn I1 I2
    refine tt_iload_n F 3 rfl rfl dPL_lengthOf_4 ?_
    refine tt_aload_n F 0 rfl rfl dPL_lengthOf_5 ?_
    refine tt_get F inPL 21 rfl rfl 2 (by decide) we248 rfl dPL_lengthOf_6 ?_
    refine tt_icmp_ge F 35 ⟨by omega, by omega⟩ ⟨by omega, by omega⟩ dPL_lengthOf_9 (by decide) (fun c9 => ?_) (fun c9 => ?_)
    · skip
      refine tt_sub [0, 1, 2, 3] rfl ?_
      exact k35 len k (by rw [show cn = k by omega]; exact I2)
    · skip
      refine tt_iload_n F 1 rfl rfl dPL_lengthOf_12 ?_
      refine tt_iload_n F 3 rfl rfl dPL_lengthOf_13 ?_
      refine tt_cIS0 F (fun h => h) (As := [.int (iZ S), .int (iZ k)]) (c_holds (w0 := (cW cI cZ a W D_ r sz co ro ho ac al sd lf sq hs rs ts rt_ hc li re ow tc cp ck wa qp qt qs lo sb lc cn ch sk)) (s_ := S) (k := k) (by omega)) (va_cwS 2 F.1.2.2.2.2 (gw_S wd404 wd405 wd52 wd406) rfl rfl rfl (by decide +kernel) ⟨(Nat.le_of_ble_eq_true rfl), (Nat.le_of_ble_eq_true rfl)⟩) rfl rfl rfl (Nat.le_of_ble_eq_true rfl) ⟨(Nat.le_of_ble_eq_true rfl), (Nat.le_of_ble_eq_true rfl)⟩ dPL_lengthOf_14 (fun z14 w1 hp => ?_)
      obtain ⟨hz14, rfl⟩ := hp
      refine tt_if_eq F 29 (by rw [hz14]; have := bi_b (tb S k); exact ⟨by omega, by omega⟩) dPL_lengthOf_17 (by decide) (fun c17 => ?_) (fun c17 => ?_)
      · skip
        refine tt_iinc F 3 [(3, .int (iZ (k + 1))), (0, .ref (a 21)), (1, .int (iZ S)), (2, .int (iZ len))] rfl (by decide) rfl dPL_lengthOf_29 ?_
        refine tt_goto F 4 (by decide) dPL_lengthOf_32 ?_
        refine tt_sub [1, 2, 3, 0] rfl ?_
        exact ih len (k + 1) (by omega) (by omega) (by rw [lnS_s I1.1, ← I2, if_neg (fun e => by rw [hz14, bi_t e] at c17; omega)]; omega)
      · skip
        refine tt_iload_n F 2 rfl rfl dPL_lengthOf_20 ?_
        refine tt_aload_n F 0 rfl rfl dPL_lengthOf_21 ?_
        refine tt_get F inPL 21 rfl rfl 1 (by decide) we246 rfl dPL_lengthOf_22 ?_
        refine tt_iload_n F 3 rfl rfl dPL_lengthOf_25 ?_
        refine tt_iald F 23 rfl (by omega) (by omega) (by omega) dPL_lengthOf_26 ?_
        refine tt_name (fun x26 hx26 => ?_)
        refine tt_iadd F dPL_lengthOf_27 ?_
        refine tt_name (fun x28 hx28 => ?_)
        refine tt_istore_n F [(2, .int (iZ x28)), (0, .ref (a 21)), (1, .int (iZ S)), (3, .int (iZ k))] rfl (by decide) rfl dPL_lengthOf_28 ?_
        refine tt_iinc F 3 [(3, .int (iZ (k + 1))), (2, .int (iZ x28)), (0, .ref (a 21)), (1, .int (iZ S))] rfl (by decide) rfl dPL_lengthOf_29 ?_
        refine tt_goto F 4 (by decide) dPL_lengthOf_32 ?_
        refine tt_sub [2, 3, 1, 0] rfl ?_
        exact ih x28 (k + 1) (by omega) (by omega) (by rw [lnS_s I1.1, ← I2, if_pos (by cases e : tb S k with | true => rfl | false => rw [hz14, bi_f e] at c17; omega), hx28, hx26])
set_option maxHeartbeats 4000000 in
set_option maxRecDepth 100000 in
theorem c_lengthOf {S : Int} (hcn : 0 ≤ cn ∧ cn ≤ 4) : CI l D vwCl cI cZ cJ SL yPL_lengthOf wsPL_lengthOf rmPL_lengthOf [.ref (a 21), .int (iZ S)] (cW cI cZ a W D_ r sz co ro ho ac al sd lf sq hs rs ts rt_ hc li re ow tc cp ck wa qp qt qs lo sb lc cn ch sk) (fun z w1 => z = lnS ck S cn.toNat ∧ w1 = (cW cI cZ a W D_ r sz co ro ho ac al sd lf sq hs rs ts rt_ hc li re ow tc cp ck wa qp qt qs lo sb lc cn ch sk)) := by
  refine tt_startI (by decide) rfl (Nat.le_of_ble_eq_true rfl) ?_
  intro p e s m args below meth c hnm F
  refine tt_iconst F dPL_lengthOf_0 ?_
  refine tt_istore_n F [(2, .int (iZ 0)), (0, .ref (a 21)), (1, .int (iZ S))] rfl (by decide) rfl dPL_lengthOf_1 ?_
  refine tt_iconst F dPL_lengthOf_2 ?_
  refine tt_istore_n F [(3, .int (iZ 0)), (2, .int (iZ 0)), (0, .ref (a 21)), (1, .int (iZ S))] rfl (by decide) rfl dPL_lengthOf_3 ?_
  refine tt_sub [2, 3, 1, 0] rfl ?_
  refine len_loop F hcn (fun len k hz => ?_) (cn.toNat + 1) 0 0 (by omega) (by omega) rfl
  refine tt_iload_n F 2 rfl rfl dPL_lengthOf_35 ?_
  exact tt_iret F rfl (Nat.le_of_ble_eq_true rfl) (Nat.le_of_ble_eq_true rfl) dPL_lengthOf_36 ⟨hz, rfl⟩
abbrev rmPL_isBetter : Room := { frames := 2, cells := 0, slots := 0, locals := 44 }
set_option maxHeartbeats 4000000 in
set_option maxRecDepth 100000 in
theorem c_isBetter {S T : Int} (hcn : 0 ≤ cn ∧ cn ≤ 4) (hck : ∀ j : Int, 0 ≤ j → j < cn.toNat → 1 ≤ ck j ∧ ck j ≤ 50) (hS : 0 ≤ S ∧ S < 16) (hT : -1 ≤ T ∧ T < 16) : CI l D vwCl cI cZ cJ SL yPL_isBetter wsPL_isBetter rmPL_isBetter [.ref (a 21), .int (iZ S), .int (iZ T)] (cW cI cZ a W D_ r sz co ro ho ac al sd lf sq hs rs ts rt_ hc li re ow tc cp ck wa qp qt qs lo sb lc cn ch sk) (fun z w1 => ((z = 1 ∧ (T = -1 ∨ btr ck cn S T)) ∨ (z = 0 ∧ T ≠ -1 ∧ ¬ btr ck cn S T)) ∧ w1 = (cW cI cZ a W D_ r sz co ro ho ac al sd lf sq hs rs ts rt_ hc li re ow tc cp ck wa qp qt qs lo sb lc cn ch sk)) := by
  refine tt_startI (by decide) rfl (Nat.le_of_ble_eq_true rfl) ?_
  intro p e s m args below meth c hnm F
  have p1 := pc_b (x := S)
  have p2 := pc_b (x := T)
  have l1 := lnS_b (S := S) hck
  have l2 := lnS_b (S := T) hck
  refine tt_iload_n F 2 rfl rfl dPL_isBetter_0 ?_
  refine tt_iconst F dPL_isBetter_1 ?_
  refine tt_icmp_ne F 7 ⟨by omega, by omega⟩ ⟨by omega, by omega⟩ dPL_isBetter_2 (by decide) (fun c2 => ?_) (fun c2 => ?_)
  · skip
    refine tt_iload_n F 2 rfl rfl dPL_isBetter_7 ?_
    refine tt_cIS0 F (fun h => h) (As := [.int (iZ T)]) (c_bitCount (w0 := (cW cI cZ a W D_ r sz co ro ho ac al sd lf sq hs rs ts rt_ hc li re ow tc cp ck wa qp qt qs lo sb lc cn ch sk)) (x := T) (by omega)) (va_cwS 1 F.1.2.2.2.2 (gw_S wd411 wd412 wd58 wd413) rfl rfl rfl (by decide +kernel) ⟨(Nat.le_of_ble_eq_true rfl), (Nat.le_of_ble_eq_true rfl)⟩) rfl rfl rfl (Nat.le_of_ble_eq_true rfl) ⟨(Nat.le_of_ble_eq_true rfl), (Nat.le_of_ble_eq_true rfl)⟩ dPL_isBetter_8 (fun z8 w1 hp => ?_)
    obtain ⟨hz8, rfl⟩ := hp
    refine tt_iload_n F 1 rfl rfl dPL_isBetter_11 ?_
    refine tt_cIS0 F (fun h => h) (As := [.int (iZ S)]) (c_bitCount (w0 := (cW cI cZ a W D_ r sz co ro ho ac al sd lf sq hs rs ts rt_ hc li re ow tc cp ck wa qp qt qs lo sb lc cn ch sk)) (x := S) (by omega)) (va_cwS 1 F.1.2.2.2.2 (gw_S wd411 wd412 wd58 wd413) rfl rfl rfl (by decide +kernel) ⟨(Nat.le_of_ble_eq_true rfl), (Nat.le_of_ble_eq_true rfl)⟩) rfl rfl rfl (Nat.le_of_ble_eq_true rfl) ⟨(Nat.le_of_ble_eq_true rfl), (Nat.le_of_ble_eq_true rfl)⟩ dPL_isBetter_12 (fun z12 w1 hp => ?_)
    obtain ⟨hz12, rfl⟩ := hp
    refine tt_isub F dPL_isBetter_15 ?_
    refine tt_name (fun x16 hx16 => ?_)
    refine tt_istore_n F [(3, .int (iZ x16)), (0, .ref (a 21)), (1, .int (iZ S)), (2, .int (iZ T))] rfl (by decide) rfl dPL_isBetter_16 ?_
    refine tt_iload_n F 0 rfl rfl dPL_isBetter_17 ?_
    refine tt_if_eq F 31 ⟨by omega, by omega⟩ dPL_isBetter_18 (by decide) (fun c18 => ?_) (fun c18 => ?_)
    · skip
      refine tt_aload_n F 1 rfl rfl dPL_isBetter_31 ?_
      refine tt_iload_n F 3 rfl rfl dPL_isBetter_32 ?_
      refine tt_cIV0 F (fun h => h) (As := [.int (iZ T)]) 21 rfl rfl (c_lengthOf (hs := hs) (rs := rs) (ts := ts) (rt_ := rt_) (hc := hc) (li := li) (re := re) (ow := ow) (tc := tc) (cp := cp) (ck := ck) (wa := wa) (qp := qp) (qt := qt) (qs := qs) (lo := lo) (sb := sb) (lc := lc) (cn := cn) (ch := ch) (sk := sk) (S := T) hcn) (cwV 1 F.1.2.2.2.2 (gw_V wd417 wd419 wd15 wd52 wd420) rfl rfl rfl (by decide +kernel) ⟨(Nat.le_of_ble_eq_true rfl), (Nat.le_of_ble_eq_true rfl)⟩) rfl rfl rfl (Nat.le_of_ble_eq_true rfl) ⟨(Nat.le_of_ble_eq_true rfl), (Nat.le_of_ble_eq_true rfl)⟩ dPL_isBetter_33 (fun z33 w1 hp => ?_)
      obtain ⟨hz33, rfl⟩ := hp
      refine tt_aload_n F 1 rfl rfl dPL_isBetter_36 ?_
      refine tt_iload_n F 2 rfl rfl dPL_isBetter_37 ?_
      refine tt_cIV0 F (fun h => h) (As := [.int (iZ S)]) 21 rfl rfl (c_lengthOf (hs := hs) (rs := rs) (ts := ts) (rt_ := rt_) (hc := hc) (li := li) (re := re) (ow := ow) (tc := tc) (cp := cp) (ck := ck) (wa := wa) (qp := qp) (qt := qt) (qs := qs) (lo := lo) (sb := sb) (lc := lc) (cn := cn) (ch := ch) (sk := sk) (S := S) hcn) (cwV 1 F.1.2.2.2.2 (gw_V wd417 wd419 wd15 wd52 wd420) rfl rfl rfl (by decide +kernel) ⟨(Nat.le_of_ble_eq_true rfl), (Nat.le_of_ble_eq_true rfl)⟩) rfl rfl rfl (Nat.le_of_ble_eq_true rfl) ⟨(Nat.le_of_ble_eq_true rfl), (Nat.le_of_ble_eq_true rfl)⟩ dPL_isBetter_38 (fun z38 w1 hp => ?_)
      obtain ⟨hz38, rfl⟩ := hp
      refine tt_isub F dPL_isBetter_41 ?_
      refine tt_name (fun x42 hx42 => ?_)
      refine tt_istore F [(4, .int (iZ x42)), (3, .int (iZ x16)), (0, .ref (a 21)), (1, .int (iZ S)), (2, .int (iZ T))] (by decide) rfl dPL_isBetter_42 ?_
      refine tt_iload F 0 rfl dPL_isBetter_44 ?_
      refine tt_if_gt F 59 ⟨by omega, by omega⟩ dPL_isBetter_46 (by decide) (fun c46 => ?_) (fun c46 => ?_)
      · skip
        refine tt_iconst F dPL_isBetter_59 ?_
        refine tt_goto F 64 (by decide) dPL_isBetter_60 ?_
        exact tt_zret F rfl (by omega) (Nat.le_of_ble_eq_true rfl) (Nat.le_of_ble_eq_true rfl) dPL_isBetter_64 ⟨Or.inl ⟨rfl, Or.inr (by unfold btr; omega)⟩, rfl⟩
      · skip
        refine tt_iload F 0 rfl dPL_isBetter_49 ?_
        refine tt_if_ne F 63 ⟨by omega, by omega⟩ dPL_isBetter_51 (by decide) (fun c51 => ?_) (fun c51 => ?_)
        · skip
          refine tt_iconst F dPL_isBetter_63 ?_
          exact tt_zret F rfl (by omega) (Nat.le_of_ble_eq_true rfl) (Nat.le_of_ble_eq_true rfl) dPL_isBetter_64 ⟨Or.inr ⟨rfl, by omega, by unfold btr; omega⟩, rfl⟩
        · skip
          refine tt_iload_n F 3 rfl rfl dPL_isBetter_54 ?_
          refine tt_iload_n F 4 rfl rfl dPL_isBetter_55 ?_
          refine tt_icmp_ge F 63 ⟨by omega, by omega⟩ ⟨by omega, by omega⟩ dPL_isBetter_56 (by decide) (fun c56 => ?_) (fun c56 => ?_)
          · skip
            refine tt_iconst F dPL_isBetter_63 ?_
            exact tt_zret F rfl (by omega) (Nat.le_of_ble_eq_true rfl) (Nat.le_of_ble_eq_true rfl) dPL_isBetter_64 ⟨Or.inr ⟨rfl, by omega, by unfold btr; omega⟩, rfl⟩
          · skip
            refine tt_iconst F dPL_isBetter_59 ?_
            refine tt_goto F 64 (by decide) dPL_isBetter_60 ?_
            exact tt_zret F rfl (by omega) (Nat.le_of_ble_eq_true rfl) (Nat.le_of_ble_eq_true rfl) dPL_isBetter_64 ⟨Or.inl ⟨rfl, Or.inr (by unfold btr; omega)⟩, rfl⟩
    · skip
      refine tt_iload_n F 0 rfl rfl dPL_isBetter_21 ?_
      refine tt_if_le F 29 ⟨by omega, by omega⟩ dPL_isBetter_22 (by decide) (fun c22 => ?_) (fun c22 => ?_)
      · skip
        refine tt_iconst F dPL_isBetter_29 ?_
        exact tt_zret F rfl (by omega) (Nat.le_of_ble_eq_true rfl) (Nat.le_of_ble_eq_true rfl) dPL_isBetter_30 ⟨Or.inr ⟨rfl, by omega, by unfold btr; omega⟩, rfl⟩
      · skip
        refine tt_iconst F dPL_isBetter_25 ?_
        refine tt_goto F 30 (by decide) dPL_isBetter_26 ?_
        exact tt_zret F rfl (by omega) (Nat.le_of_ble_eq_true rfl) (Nat.le_of_ble_eq_true rfl) dPL_isBetter_30 ⟨Or.inl ⟨rfl, Or.inr (by unfold btr; omega)⟩, rfl⟩
  · skip
    refine tt_iconst F dPL_isBetter_5 ?_
    exact tt_zret F rfl (Or.inr rfl) (Nat.le_of_ble_eq_true rfl) (Nat.le_of_ble_eq_true rfl) dPL_isBetter_6 ⟨Or.inl ⟨rfl, Or.inl (by omega)⟩, rfl⟩
abbrev rmPL_bestOf : Room := { frames := 3, cells := 0, slots := 0, locals := 68 }
theorem pw_d : ∀ c : Fin 5, 1 ≤ zshl 1 (c.val : Int) ∧ zshl 1 (c.val : Int) ≤ 16 := by decide +kernel
theorem pw_b {cn : Int} (h : 0 ≤ cn ∧ cn ≤ 4) : 1 ≤ zshl 1 cn ∧ zshl 1 cn ≤ 16 := by
  have := pw_d ⟨cn.toNat, by omega⟩
  simp only [Int.toNat_of_nonneg h.1] at this
  exact this
def boI (ck : Int → Int) (cn sets s b : Int) : Prop := (b = -1 ∧ ∀ T, 0 ≤ T → T < s → tb sets T = false) ∨ (0 ≤ b ∧ b < s ∧ tb sets b = true ∧ ∀ T, 0 ≤ T → T < s → tb sets T = true → T = b ∨ btr ck cn b T)
theorem boI_b {ck : Int → Int} {cn sets s b : Int} (h : boI ck cn sets s b) (hs : 0 ≤ s) : -1 ≤ b ∧ (b < s ∨ b = -1) := by
  rcases h with ⟨a, -⟩ | ⟨a, b, -⟩ <;> omega
theorem boI_no {ck : Int → Int} {cn sets s b : Int} (h : boI ck cn sets s b) (hn : tb sets s = false) : boI ck cn sets (s + 1) b := by
  rcases h with ⟨a, c⟩ | ⟨a, c, d, e⟩
  · exact Or.inl ⟨a, fun T t0 t1 => if q : T = s then q ▸ hn else c T t0 (by omega)⟩
  · exact Or.inr ⟨a, by omega, d, fun T t0 t1 t2 => if q : T = s then (by rw [q, hn] at t2; cases t2) else e T t0 (by omega) t2⟩
theorem boI_keep {ck : Int → Int} {cn sets s b : Int} (h : boI ck cn sets s b) (hb : b ≠ -1) (hn : ¬ btr ck cn s b) : boI ck cn sets (s + 1) b := by
  rcases h with ⟨a, c⟩ | ⟨a, c, d, e⟩
  · exact absurd a hb
  · exact Or.inr ⟨a, by omega, d, fun T t0 t1 t2 => if q : T = s then (by subst q; exact Or.inr ((btr_tot (by omega)).elim id (fun z => absurd z hn))) else e T t0 (by omega) t2⟩
theorem boI_take {ck : Int → Int} {cn sets s b : Int} (hs : 0 ≤ s) (h : boI ck cn sets s b) (ht : tb sets s = true) (hn : b = -1 ∨ btr ck cn s b) : boI ck cn sets (s + 1) s := by
  refine Or.inr ⟨hs, by omega, ht, fun T t0 t1 t2 => if q : T = s then Or.inl q else Or.inr ?_⟩
  rcases h with ⟨a, c⟩ | ⟨a, c, d, e⟩
  · have := c T t0 (by omega)
    rw [this] at t2
    cases t2
  · rcases hn with z | z
    · omega
    · rcases e T t0 (by omega) t2 with u | u
      · rw [u]; exact z
      · exact btr_tr z u
set_option maxHeartbeats 4000000 in
set_option maxRecDepth 100000 in
theorem bo_loop {sets : Int} (F : FX p s m args meth c cPL_bestOf 4 (some .int) wsPL_bestOf RPL D vwCl cI cZ cJ SL A) (hcn : 0 ≤ cn ∧ cn ≤ 4) (hck : ∀ j : Int, 0 ≤ j → j < cn.toNat → 1 ≤ ck j ∧ ck j ≤ 50)
    (k39 : ∀ (b : Int) (s_ : Int), (boI ck cn sets (zshl 1 cn) b) → TT p l e rmPL_bestOf s m args below meth c D vwCl A 4 False Q 39 [(0, .ref (a 21)), (1, .int (iZ sets)), (2, .int (iZ b)), (3, .int (iZ s_))] [] (cW cI cZ a W D_ r sz co ro ho ac al sd lf sq hs rs ts rt_ hc li re ow tc cp ck wa qp qt qs lo sb lc cn ch sk) 0 0) :
    ∀ (n : Nat) (b : Int) (s_ : Int), (zshl 1 cn - s_).toNat < n → (0 ≤ s_ ∧ s_ ≤ zshl 1 cn) → (boI ck cn sets s_ b) → TT p l e rmPL_bestOf s m args below meth c D vwCl A 4 False Q 4 [(0, .ref (a 21)), (1, .int (iZ sets)), (2, .int (iZ b)), (3, .int (iZ s_))] [] (cW cI cZ a W D_ r sz co ro ho ac al sd lf sq hs rs ts rt_ hc li re ow tc cp ck wa qp qt qs lo sb lc cn ch sk) 0 0 := by
  intro n
  induction n with
  | zero => intro b s_ hn; omega
  | succ n ih =>
    intro b s_ hn I1 I2
    have hpw := pw_b hcn
    have hbb := boI_b I2 I1.1
    refine tt_iload_n F 3 rfl rfl dPL_bestOf_4 ?_
    refine tt_iconst F dPL_bestOf_5 ?_
    refine tt_aload_n F 0 rfl rfl dPL_bestOf_6 ?_
    refine tt_get F inPL 21 rfl rfl 2 (by decide) we248 rfl dPL_bestOf_7 ?_
    refine tt_ishl F dPL_bestOf_10 ?_
    refine tt_icmp_ge F 39 ⟨by omega, by omega⟩ ⟨by omega, by omega⟩ dPL_bestOf_11 (by decide) (fun c11 => ?_) (fun c11 => ?_)
    · skip
      refine tt_sub [0, 1, 2, 3] rfl ?_
      exact k39 b s_ (by rw [show zshl 1 cn = s_ by omega]; exact I2)
    · skip
      refine tt_iload_n F 1 rfl rfl dPL_bestOf_14 ?_
      refine tt_iload_n F 3 rfl rfl dPL_bestOf_15 ?_
      refine tt_cIS0 F (fun h => h) (As := [.int (iZ sets), .int (iZ s_)]) (c_holds (w0 := (cW cI cZ a W D_ r sz co ro ho ac al sd lf sq hs rs ts rt_ hc li re ow tc cp ck wa qp qt qs lo sb lc cn ch sk)) (s_ := sets) (k := s_) (by omega)) (va_cwS 2 F.1.2.2.2.2 (gw_S wd404 wd405 wd52 wd406) rfl rfl rfl (by decide +kernel) ⟨(Nat.le_of_ble_eq_true rfl), (Nat.le_of_ble_eq_true rfl)⟩) rfl rfl rfl (Nat.le_of_ble_eq_true rfl) ⟨(Nat.le_of_ble_eq_true rfl), (Nat.le_of_ble_eq_true rfl)⟩ dPL_bestOf_16 (fun z16 w1 hp => ?_)
      obtain ⟨hz16, rfl⟩ := hp
      refine tt_if_eq F 33 (by rw [hz16]; have := bi_b (tb sets s_); exact ⟨by omega, by omega⟩) dPL_bestOf_19 (by decide) (fun c19 => ?_) (fun c19 => ?_)
      · skip
        refine tt_iinc F 3 [(3, .int (iZ (s_ + 1))), (0, .ref (a 21)), (1, .int (iZ sets)), (2, .int (iZ b))] rfl (by decide) rfl dPL_bestOf_33 ?_
        refine tt_goto F 4 (by decide) dPL_bestOf_36 ?_
        refine tt_sub [1, 2, 3, 0] rfl ?_
        exact ih b (s_ + 1) (by omega) (by omega) (boI_no I2 (by cases e : tb sets s_ with | false => rfl | true => rw [hz16, bi_t e] at c19; omega))
      · skip
        refine tt_aload_n F 0 rfl rfl dPL_bestOf_22 ?_
        refine tt_iload_n F 3 rfl rfl dPL_bestOf_23 ?_
        refine tt_iload_n F 2 rfl rfl dPL_bestOf_24 ?_
        refine tt_cIV0 F (fun h => h) (As := [.int (iZ s_), .int (iZ b)]) 21 rfl rfl (c_isBetter (hs := hs) (rs := rs) (ts := ts) (rt_ := rt_) (hc := hc) (li := li) (re := re) (ow := ow) (tc := tc) (cp := cp) (ck := ck) (wa := wa) (qp := qp) (qt := qt) (qs := qs) (lo := lo) (sb := sb) (lc := lc) (cn := cn) (ch := ch) (sk := sk) (S := s_) (T := b) hcn hck (by omega) (by omega)) (cwV 2 F.1.2.2.2.2 (gw_V wd407 wd409 wd14 wd52 wd410) rfl rfl rfl (by decide +kernel) ⟨(Nat.le_of_ble_eq_true rfl), (Nat.le_of_ble_eq_true rfl)⟩) rfl rfl rfl (Nat.le_of_ble_eq_true rfl) ⟨(Nat.le_of_ble_eq_true rfl), (Nat.le_of_ble_eq_true rfl)⟩ dPL_bestOf_25 (fun z25 w1 hp => ?_)
        obtain ⟨hz25, rfl⟩ := hp
        refine tt_if_eq F 33 (by rcases hz25 with h | h <;> exact ⟨by omega, by omega⟩) dPL_bestOf_28 (by decide) (fun c28 => ?_) (fun c28 => ?_)
        · skip
          refine tt_iinc F 3 [(3, .int (iZ (s_ + 1))), (0, .ref (a 21)), (1, .int (iZ sets)), (2, .int (iZ b))] rfl (by decide) rfl dPL_bestOf_33 ?_
          refine tt_goto F 4 (by decide) dPL_bestOf_36 ?_
          refine tt_sub [1, 2, 3, 0] rfl ?_
          exact ih b (s_ + 1) (by omega) (by omega) (hz25.elim (fun q => absurd c28 (by omega)) (fun q => boI_keep I2 q.2.1 q.2.2))
        · skip
          refine tt_iload_n F 3 rfl rfl dPL_bestOf_31 ?_
          refine tt_istore_n F [(2, .int (iZ s_)), (0, .ref (a 21)), (1, .int (iZ sets)), (3, .int (iZ s_))] rfl (by decide) rfl dPL_bestOf_32 ?_
          refine tt_iinc F 3 [(3, .int (iZ (s_ + 1))), (2, .int (iZ s_)), (0, .ref (a 21)), (1, .int (iZ sets))] rfl (by decide) rfl dPL_bestOf_33 ?_
          refine tt_goto F 4 (by decide) dPL_bestOf_36 ?_
          refine tt_sub [2, 3, 1, 0] rfl ?_
          exact ih s_ (s_ + 1) (by omega) (by omega) (boI_take I1.1 I2 (by cases e : tb sets s_ with | true => rfl | false => rw [hz16, bi_f e] at c19; omega) (hz25.elim (fun q => q.2) (fun q => absurd q.1 c28)))
set_option maxHeartbeats 4000000 in
set_option maxRecDepth 100000 in
theorem c_bestOf {sets : Int} (hcn : 0 ≤ cn ∧ cn ≤ 4) (hck : ∀ j : Int, 0 ≤ j → j < cn.toNat → 1 ≤ ck j ∧ ck j ≤ 50) : CI l D vwCl cI cZ cJ SL yPL_bestOf wsPL_bestOf rmPL_bestOf [.ref (a 21), .int (iZ sets)] (cW cI cZ a W D_ r sz co ro ho ac al sd lf sq hs rs ts rt_ hc li re ow tc cp ck wa qp qt qs lo sb lc cn ch sk) (fun z w1 => boI ck cn sets (zshl 1 cn) z ∧ w1 = (cW cI cZ a W D_ r sz co ro ho ac al sd lf sq hs rs ts rt_ hc li re ow tc cp ck wa qp qt qs lo sb lc cn ch sk)) := by
  refine tt_startI (by decide) rfl (Nat.le_of_ble_eq_true rfl) ?_
  intro p e s m args below meth c hnm F
  have hpw := pw_b hcn
  refine tt_iconst F dPL_bestOf_0 ?_
  refine tt_istore_n F [(2, .int (iZ (-1))), (0, .ref (a 21)), (1, .int (iZ sets))] rfl (by decide) rfl dPL_bestOf_1 ?_
  refine tt_iconst F dPL_bestOf_2 ?_
  refine tt_istore_n F [(3, .int (iZ 0)), (2, .int (iZ (-1))), (0, .ref (a 21)), (1, .int (iZ sets))] rfl (by decide) rfl dPL_bestOf_3 ?_
  refine tt_sub [2, 3, 1, 0] rfl ?_
  refine bo_loop F hcn hck (fun b s_ hz => ?_) (17) (-1) 0 (by omega) (by omega) (Or.inl ⟨rfl, fun T t0 t1 => by omega⟩)
  refine tt_iload_n F 2 rfl rfl dPL_bestOf_39 ?_
  exact tt_iret F rfl (Nat.le_of_ble_eq_true rfl) (Nat.le_of_ble_eq_true rfl) dPL_bestOf_40 ⟨hz, rfl⟩
abbrev rmPL_setsBetterThan : Room := { frames := 3, cells := 0, slots := 0, locals := 68 }
set_option maxHeartbeats 4000000 in
set_option maxRecDepth 100000 in
theorem sb_loop {b sets : Int} (F : FX p s m args meth c cPL_setsBetterThan 5 (some .int) wsPL_setsBetterThan RPL D vwCl cI cZ cJ SL A) (hcn : 0 ≤ cn ∧ cn ≤ 4) (hck : ∀ j : Int, 0 ≤ j → j < cn.toNat → 1 ≤ ck j ∧ ck j ≤ 50) (hb : -1 ≤ b ∧ b < 16)
    (k48 : ∀ (bt_ : Int) (s_ : Int), (ir bt_) → (∀ T, 0 ≤ T → T < 32 → (tb bt_ T = true ↔ T < zshl 1 cn ∧ tb sets T = true ∧ (b = -1 ∨ btr ck cn T b))) → TT p l e rmPL_setsBetterThan s m args below meth c D vwCl A 5 False Q 48 [(0, .ref (a 21)), (1, .int (iZ b)), (2, .int (iZ sets)), (3, .int (iZ bt_)), (4, .int (iZ s_))] [] (cW cI cZ a W D_ r sz co ro ho ac al sd lf sq hs rs ts rt_ hc li re ow tc cp ck wa qp qt qs lo sb lc cn ch sk) 0 0) :
    ∀ (n : Nat) (bt_ : Int) (s_ : Int), (zshl 1 cn - s_).toNat < n → (0 ≤ s_ ∧ s_ ≤ zshl 1 cn) → (ir bt_) → (∀ T, 0 ≤ T → T < 32 → (tb bt_ T = true ↔ T < s_ ∧ tb sets T = true ∧ (b = -1 ∨ btr ck cn T b))) → TT p l e rmPL_setsBetterThan s m args below meth c D vwCl A 5 False Q 5 [(0, .ref (a 21)), (1, .int (iZ b)), (2, .int (iZ sets)), (3, .int (iZ bt_)), (4, .int (iZ s_))] [] (cW cI cZ a W D_ r sz co ro ho ac al sd lf sq hs rs ts rt_ hc li re ow tc cp ck wa qp qt qs lo sb lc cn ch sk) 0 0 := by
  intro n
  induction n with
  | zero => intro bt_ s_ hn; omega
  | succ n ih =>
    intro bt_ s_ hn I1 I2 I3
    have hpw := pw_b hcn
    refine tt_iload F 4 rfl dPL_setsBetterThan_5 ?_
    refine tt_iconst F dPL_setsBetterThan_7 ?_
    refine tt_aload_n F 0 rfl rfl dPL_setsBetterThan_8 ?_
    refine tt_get F inPL 21 rfl rfl 2 (by decide) we248 rfl dPL_setsBetterThan_9 ?_
    refine tt_ishl F dPL_setsBetterThan_12 ?_
    refine tt_icmp_ge F 48 ⟨by omega, by omega⟩ ⟨by omega, by omega⟩ dPL_setsBetterThan_13 (by decide) (fun c13 => ?_) (fun c13 => ?_)
    · skip
      refine tt_sub [0, 1, 2, 3, 4] rfl ?_
      exact k48 bt_ s_ (I2) (by rw [show zshl 1 cn = s_ by omega]; exact I3)
    · skip
      refine tt_iload_n F 2 rfl rfl dPL_setsBetterThan_16 ?_
      refine tt_iload F 4 rfl dPL_setsBetterThan_17 ?_
      refine tt_cIS0 F (fun h => h) (As := [.int (iZ sets), .int (iZ s_)]) (c_holds (w0 := (cW cI cZ a W D_ r sz co ro ho ac al sd lf sq hs rs ts rt_ hc li re ow tc cp ck wa qp qt qs lo sb lc cn ch sk)) (s_ := sets) (k := s_) (by omega)) (va_cwS 2 F.1.2.2.2.2 (gw_S wd404 wd405 wd52 wd406) rfl rfl rfl (by decide +kernel) ⟨(Nat.le_of_ble_eq_true rfl), (Nat.le_of_ble_eq_true rfl)⟩) rfl rfl rfl (Nat.le_of_ble_eq_true rfl) ⟨(Nat.le_of_ble_eq_true rfl), (Nat.le_of_ble_eq_true rfl)⟩ dPL_setsBetterThan_19 (fun z19 w1 hp => ?_)
      obtain ⟨hz19, rfl⟩ := hp
      refine tt_if_eq F 42 (by rw [hz19]; have := bi_b (tb sets s_); exact ⟨by omega, by omega⟩) dPL_setsBetterThan_22 (by decide) (fun c22 => ?_) (fun c22 => ?_)
      · skip
        refine tt_iinc F 4 [(4, .int (iZ (s_ + 1))), (0, .ref (a 21)), (1, .int (iZ b)), (2, .int (iZ sets)), (3, .int (iZ bt_))] rfl (by decide) rfl dPL_setsBetterThan_42 ?_
        refine tt_goto F 5 (by decide) dPL_setsBetterThan_45 ?_
        refine tt_sub [1, 2, 3, 4, 0] rfl ?_
        exact ih bt_ (s_ + 1) (by omega) (by omega) (I2) (fun T t0 t1 => by rw [I3 T t0 t1]; exact ⟨fun h => ⟨by omega, h.2⟩, fun h => ⟨if e : T = s_ then (by rw [e] at h; rw [hz19, bi_t h.2.1] at c22; omega) else (by omega), h.2⟩⟩)
      · skip
        refine tt_aload_n F 0 rfl rfl dPL_setsBetterThan_25 ?_
        refine tt_iload F 4 rfl dPL_setsBetterThan_26 ?_
        refine tt_iload_n F 1 rfl rfl dPL_setsBetterThan_28 ?_
        refine tt_cIV0 F (fun h => h) (As := [.int (iZ s_), .int (iZ b)]) 21 rfl rfl (c_isBetter (hs := hs) (rs := rs) (ts := ts) (rt_ := rt_) (hc := hc) (li := li) (re := re) (ow := ow) (tc := tc) (cp := cp) (ck := ck) (wa := wa) (qp := qp) (qt := qt) (qs := qs) (lo := lo) (sb := sb) (lc := lc) (cn := cn) (ch := ch) (sk := sk) (S := s_) (T := b) hcn hck (by omega) (by omega)) (cwV 2 F.1.2.2.2.2 (gw_V wd407 wd409 wd14 wd52 wd410) rfl rfl rfl (by decide +kernel) ⟨(Nat.le_of_ble_eq_true rfl), (Nat.le_of_ble_eq_true rfl)⟩) rfl rfl rfl (Nat.le_of_ble_eq_true rfl) ⟨(Nat.le_of_ble_eq_true rfl), (Nat.le_of_ble_eq_true rfl)⟩ dPL_setsBetterThan_29 (fun z29 w1 hp => ?_)
        obtain ⟨hz29, rfl⟩ := hp
        refine tt_if_eq F 42 (by rcases hz29 with h | h <;> exact ⟨by omega, by omega⟩) dPL_setsBetterThan_32 (by decide) (fun c32 => ?_) (fun c32 => ?_)
        · skip
          refine tt_iinc F 4 [(4, .int (iZ (s_ + 1))), (0, .ref (a 21)), (1, .int (iZ b)), (2, .int (iZ sets)), (3, .int (iZ bt_))] rfl (by decide) rfl dPL_setsBetterThan_42 ?_
          refine tt_goto F 5 (by decide) dPL_setsBetterThan_45 ?_
          refine tt_sub [1, 2, 3, 4, 0] rfl ?_
          exact ih bt_ (s_ + 1) (by omega) (by omega) (I2) (fun T t0 t1 => by rw [I3 T t0 t1]; exact ⟨fun h => ⟨by omega, h.2⟩, fun h => ⟨if e : T = s_ then (by rw [e] at h; exact hz29.elim (fun q => absurd c32 (by omega)) (fun q => absurd h.2.2 (fun u => u.elim q.2.1 q.2.2))) else (by omega), h.2⟩⟩)
        · skip
          refine tt_iload_n F 3 rfl rfl dPL_setsBetterThan_35 ?_
          refine tt_iconst F dPL_setsBetterThan_36 ?_
          refine tt_iload F 4 rfl dPL_setsBetterThan_37 ?_
          refine tt_ishl F dPL_setsBetterThan_39 ?_
          refine tt_ior F dPL_setsBetterThan_40 ?_
          refine tt_name (fun x41 hx41 => ?_)
          refine tt_istore_n F [(3, .int (iZ x41)), (0, .ref (a 21)), (1, .int (iZ b)), (2, .int (iZ sets)), (4, .int (iZ s_))] rfl (by decide) rfl dPL_setsBetterThan_41 ?_
          refine tt_iinc F 4 [(4, .int (iZ (s_ + 1))), (3, .int (iZ x41)), (0, .ref (a 21)), (1, .int (iZ b)), (2, .int (iZ sets))] rfl (by decide) rfl dPL_setsBetterThan_42 ?_
          refine tt_goto F 5 (by decide) dPL_setsBetterThan_45 ?_
          refine tt_sub [2, 3, 4, 1, 0] rfl ?_
          exact ih x41 (s_ + 1) (by omega) (by omega) (by rw [hx41]; exact zor_ir _ _) (fun T t0 t1 => by rw [hx41, tb_or, Bool.or_eq_true, I3 T t0 t1, tb_one I1.1 (by omega) t0 (by omega), decide_eq_true_eq]; exact ⟨fun h => h.elim (fun h => ⟨by omega, h.2⟩) (fun h => ⟨by omega, by rw [h]; cases e : tb sets s_ with | true => rfl | false => rw [hz19, bi_f e] at c22; omega, by rw [h]; exact hz29.elim (fun q => q.2) (fun q => absurd q.1 c32)⟩), fun h => if e : T = s_ then Or.inr e else Or.inl ⟨by omega, h.2⟩⟩)
set_option maxHeartbeats 4000000 in
set_option maxRecDepth 100000 in
theorem c_setsBetterThan {b sets : Int} (hcn : 0 ≤ cn ∧ cn ≤ 4) (hck : ∀ j : Int, 0 ≤ j → j < cn.toNat → 1 ≤ ck j ∧ ck j ≤ 50) (hb : -1 ≤ b ∧ b < 16) : CI l D vwCl cI cZ cJ SL yPL_setsBetterThan wsPL_setsBetterThan rmPL_setsBetterThan [.ref (a 21), .int (iZ b), .int (iZ sets)] (cW cI cZ a W D_ r sz co ro ho ac al sd lf sq hs rs ts rt_ hc li re ow tc cp ck wa qp qt qs lo sb lc cn ch sk) (fun z w1 => (ir z ∧ ∀ T, 0 ≤ T → T < 32 → (tb z T = true ↔ T < zshl 1 cn ∧ tb sets T = true ∧ (b = -1 ∨ btr ck cn T b))) ∧ w1 = (cW cI cZ a W D_ r sz co ro ho ac al sd lf sq hs rs ts rt_ hc li re ow tc cp ck wa qp qt qs lo sb lc cn ch sk)) := by
  refine tt_startI (by decide) rfl (Nat.le_of_ble_eq_true rfl) ?_
  intro p e s m args below meth c hnm F
  have hpw := pw_b hcn
  refine tt_iconst F dPL_setsBetterThan_0 ?_
  refine tt_istore_n F [(3, .int (iZ 0)), (0, .ref (a 21)), (1, .int (iZ b)), (2, .int (iZ sets))] rfl (by decide) rfl dPL_setsBetterThan_1 ?_
  refine tt_iconst F dPL_setsBetterThan_2 ?_
  refine tt_istore F [(4, .int (iZ 0)), (3, .int (iZ 0)), (0, .ref (a 21)), (1, .int (iZ b)), (2, .int (iZ sets))] (by decide) rfl dPL_setsBetterThan_3 ?_
  refine tt_sub [2, 3, 4, 1, 0] rfl ?_
  refine sb_loop F hcn hck hb (fun bt_ s_ h1 hz => ?_) (17) 0 0 (by omega) (by omega) ⟨by omega, by omega⟩ (fun T t0 t1 => by rw [tb_0]; exact ⟨fun h => (by cases h), fun h => by omega⟩)
  refine tt_iload_n F 3 rfl rfl dPL_setsBetterThan_48 ?_
  exact tt_iret F rfl (Nat.le_of_ble_eq_true rfl) (Nat.le_of_ble_eq_true rfl) dPL_setsBetterThan_49 ⟨⟨h1, hz⟩, rfl⟩
end CL
