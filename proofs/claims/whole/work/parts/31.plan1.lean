section CL
variable {p : Program} {l : Launch} {e : Env} {s : State} {m : MethodId} {args : Array Value} {below : List Frame} {meth : Method} {c : Code} {Q : State → Prop} {D : va_G} {cI cZ cJ : ClassId} {SL : List zS} {A : Nat → Prop} {a : Nat → Nat} {W D_ r sz : Int} {co ro ho ac al sd lf sq : Int → Int} {hs rs ts rt_ hc li re ow tc cp ck wa qp qt qs lo sb : Int → Int} {lc cn ch sk : Int}
abbrev rmPL_holds : Room := { frames := 0, cells := 0, slots := 0, locals := 0 }
set_option maxHeartbeats 4000000 in
set_option maxRecDepth 100000 in
theorem c_holds {w0 : va_W} {s_ k : Int} (hk : 0 ≤ k ∧ k < 32) : CI l D vwCl cI cZ cJ SL yPL_holds wsPL_holds rmPL_holds [.int (iZ s_), .int (iZ k)] w0 (fun z w1 => z = bi (tb s_ k) ∧ w1 = w0) := by
  refine tt_startI (by decide) rfl (Nat.le_of_ble_eq_true rfl) ?_
  intro p e s m args below meth c hnm F
  have hb := bi_b (tb s_ k)
  refine tt_iload_n F 0 rfl rfl dPL_holds_0 ?_
  refine tt_iload_n F 1 rfl rfl dPL_holds_1 ?_
  refine tt_ishr F dPL_holds_2 ?_
  refine tt_iconst F dPL_holds_3 ?_
  refine tt_iand F dPL_holds_4 ?_
  refine tt_top (zbit s_ hk.1 hk.2) ?_
  refine tt_iconst F dPL_holds_5 ?_
  refine tt_icmp_ne F 13 ⟨by omega, by omega⟩ ⟨by omega, by omega⟩ dPL_holds_6 (by decide) (fun c6 => ?_) (fun c6 => ?_)
  · skip
    refine tt_iconst F dPL_holds_13 ?_
    exact tt_zret F rfl (by omega) (Nat.le_of_ble_eq_true rfl) (Nat.le_of_ble_eq_true rfl) dPL_holds_14 ⟨by omega, rfl⟩
  · skip
    refine tt_iconst F dPL_holds_9 ?_
    refine tt_goto F 14 (by decide) dPL_holds_10 ?_
    exact tt_zret F rfl (by omega) (Nat.le_of_ble_eq_true rfl) (Nat.le_of_ble_eq_true rfl) dPL_holds_14 ⟨by omega, rfl⟩
abbrev rmPL_add : Room := { frames := 0, cells := 0, slots := 0, locals := 0 }
set_option maxHeartbeats 4000000 in
set_option maxRecDepth 100000 in
theorem c_add {q v : Int} (hcn : 0 ≤ cn ∧ cn ≤ 4) (hc4 : cn < 4) : CV l D vwCl cI cZ cJ SL yPL_add wsPL_add rmPL_add [.ref (a 21), .int (iZ q), .int (iZ v)] (cW cI cZ a W D_ r sz co ro ho ac al sd lf sq hs rs ts rt_ hc li re ow tc cp ck wa qp qt qs lo sb lc cn ch sk) (fun w1 => w1 = (cW cI cZ a W D_ r sz co ro ho ac al sd lf sq hs rs ts rt_ hc li re ow tc (zu cp cn q) (zu ck cn v) wa qp qt qs lo sb lc (cn + 1) ch sk)) := by
  refine tt_startV (by decide) rfl (Nat.le_of_ble_eq_true rfl) ?_
  intro p e s m args below meth c hnm F
  refine tt_aload_n F 0 rfl rfl dPL_add_0 ?_
  refine tt_get F inPL 21 rfl rfl 0 (by decide) we244 rfl dPL_add_1 ?_
  refine tt_aload_n F 0 rfl rfl dPL_add_4 ?_
  refine tt_get F inPL 21 rfl rfl 2 (by decide) we248 rfl dPL_add_5 ?_
  refine tt_iload_n F 1 rfl rfl dPL_add_8 ?_
  refine tt_iast F (fun h => h) 22 rfl (by omega) (by omega) (by omega) dPL_add_9 ?_
  refine tt_aload_n F 0 rfl rfl dPL_add_10 ?_
  refine tt_get F inPL 21 rfl rfl 1 (by decide) we246 rfl dPL_add_11 ?_
  refine tt_aload_n F 0 rfl rfl dPL_add_14 ?_
  refine tt_get F inPL 21 rfl rfl 2 (by decide) we248 rfl dPL_add_15 ?_
  refine tt_iload_n F 2 rfl rfl dPL_add_18 ?_
  refine tt_iast F (fun h => h) 23 rfl (by omega) (by omega) (by omega) dPL_add_19 ?_
  refine tt_aload_n F 0 rfl rfl dPL_add_20 ?_
  refine tt_dup F rfl dPL_add_21 ?_
  refine tt_get F inPL 21 rfl rfl 2 (by decide) we248 rfl dPL_add_22 ?_
  refine tt_iconst F dPL_add_25 ?_
  refine tt_iadd F dPL_add_26 ?_
  refine tt_put F (fun h => h) inPL tyPL tyPL_ok nmPL 21 rfl rfl 2 (by decide) we248 rfl rfl rfl rfl (show (2 : Nat) + 1 ≤ _ from Nat.le_of_ble_eq_true rfl) dPL_add_27 ?_
  exact tt_vret F rfl (Nat.le_of_ble_eq_true rfl) (Nat.le_of_ble_eq_true rfl) dPL_add_30 rfl
abbrev rmPL_countCandidates : Room := { frames := 0, cells := 0, slots := 0, locals := 0 }
set_option maxHeartbeats 4000000 in
set_option maxRecDepth 100000 in
theorem cc_loop {q k : Int} (F : FX p s m args meth c cPL_countCandidates 5 (some .int) wsPL_countCandidates RPL D vwCl cI cZ cJ SL A) (hk : 0 ≤ k ∧ k ≤ 4) (hcq : ∀ j, 0 ≤ j → j < k → 0 ≤ cp j ∧ cp j ≤ 1000) (hq : 0 ≤ q ∧ q ≤ 1000)
    (k31 : ∀ (cnt_ : Int) (j : Int), (cnt_ = cz (fun j => decide (cp j = q)) k) → TT p l e rmPL_countCandidates s m args below meth c D vwCl A 5 False Q 31 [(0, .ref (a 21)), (1, .int (iZ q)), (2, .int (iZ k)), (3, .int (iZ cnt_)), (4, .int (iZ j))] [] (cW cI cZ a W D_ r sz co ro ho ac al sd lf sq hs rs ts rt_ hc li re ow tc cp ck wa qp qt qs lo sb lc cn ch sk) 0 0) :
    ∀ (n : Nat) (cnt_ : Int) (j : Int), (k - j).toNat < n → (0 ≤ j ∧ j ≤ k) → (cnt_ = cz (fun j => decide (cp j = q)) j) → TT p l e rmPL_countCandidates s m args below meth c D vwCl A 5 False Q 5 [(0, .ref (a 21)), (1, .int (iZ q)), (2, .int (iZ k)), (3, .int (iZ cnt_)), (4, .int (iZ j))] [] (cW cI cZ a W D_ r sz co ro ho ac al sd lf sq hs rs ts rt_ hc li re ow tc cp ck wa qp qt qs lo sb lc cn ch sk) 0 0 := by
  intro n
  induction n with
  | zero => intro cnt_ j hn; omega
  | succ n ih =>
    intro cnt_ j hn I1 I2
    refine tt_iload F 4 rfl dPL_countCandidates_5 ?_
    refine tt_iload_n F 2 rfl rfl dPL_countCandidates_7 ?_
    refine tt_icmp_ge F 31 ⟨by omega, by omega⟩ ⟨by omega, by omega⟩ dPL_countCandidates_8 (by decide) (fun c8 => ?_) (fun c8 => ?_)
    · skip
      refine tt_sub [0, 1, 2, 3, 4] rfl ?_
      exact k31 cnt_ j (by rw [I2, show j = k by omega])
    · skip
      have hj := hcq j (by omega) (by omega)
      refine tt_aload_n F 0 rfl rfl dPL_countCandidates_11 ?_
      refine tt_get F inPL 21 rfl rfl 0 (by decide) we244 rfl dPL_countCandidates_12 ?_
      refine tt_iload F 4 rfl dPL_countCandidates_15 ?_
      refine tt_iald F 22 rfl (by omega) (by omega) (by omega) dPL_countCandidates_17 ?_
      refine tt_name (fun cv hcv => ?_)
      refine tt_iload_n F 1 rfl rfl dPL_countCandidates_18 ?_
      refine tt_icmp_ne F 25 ⟨by omega, by omega⟩ ⟨by omega, by omega⟩ dPL_countCandidates_19 (by decide) (fun c19 => ?_) (fun c19 => ?_)
      · skip
        refine tt_iinc F 4 [(4, .int (iZ (j + 1))), (0, .ref (a 21)), (1, .int (iZ q)), (2, .int (iZ k)), (3, .int (iZ cnt_))] rfl (by decide) rfl dPL_countCandidates_25 ?_
        refine tt_goto F 5 (by decide) dPL_countCandidates_28 ?_
        refine tt_sub [1, 2, 3, 4, 0] rfl ?_
        exact ih cnt_ (j + 1) (by omega) (by omega) (by rw [cz_s _ I1.1, ← I2, bi_f (by simp; omega)]; omega)
      · skip
        refine tt_iinc F 3 [(3, .int (iZ (cnt_ + 1))), (0, .ref (a 21)), (1, .int (iZ q)), (2, .int (iZ k)), (4, .int (iZ j))] rfl (by decide) rfl dPL_countCandidates_22 ?_
        refine tt_iinc F 4 [(4, .int (iZ (j + 1))), (3, .int (iZ (cnt_ + 1))), (0, .ref (a 21)), (1, .int (iZ q)), (2, .int (iZ k))] rfl (by decide) rfl dPL_countCandidates_25 ?_
        refine tt_goto F 5 (by decide) dPL_countCandidates_28 ?_
        refine tt_sub [2, 3, 4, 1, 0] rfl ?_
        exact ih (cnt_ + 1) (j + 1) (by omega) (by omega) (by rw [cz_s _ I1.1, ← I2, bi_t (by simp; omega)])
set_option maxHeartbeats 4000000 in
set_option maxRecDepth 100000 in
theorem c_countCandidates {q k : Int} (hk : 0 ≤ k ∧ k ≤ 4) (hcq : ∀ j, 0 ≤ j → j < k → 0 ≤ cp j ∧ cp j ≤ 1000) (hq : 0 ≤ q ∧ q ≤ 1000) : CI l D vwCl cI cZ cJ SL yPL_countCandidates wsPL_countCandidates rmPL_countCandidates [.ref (a 21), .int (iZ q), .int (iZ k)] (cW cI cZ a W D_ r sz co ro ho ac al sd lf sq hs rs ts rt_ hc li re ow tc cp ck wa qp qt qs lo sb lc cn ch sk) (fun z w1 => z = cz (fun j => decide (cp j = q)) k ∧ w1 = (cW cI cZ a W D_ r sz co ro ho ac al sd lf sq hs rs ts rt_ hc li re ow tc cp ck wa qp qt qs lo sb lc cn ch sk)) := by
  refine tt_startI (by decide) rfl (Nat.le_of_ble_eq_true rfl) ?_
  intro p e s m args below meth c hnm F
  refine tt_iconst F dPL_countCandidates_0 ?_
  refine tt_istore_n F [(3, .int (iZ 0)), (0, .ref (a 21)), (1, .int (iZ q)), (2, .int (iZ k))] rfl (by decide) rfl dPL_countCandidates_1 ?_
  refine tt_iconst F dPL_countCandidates_2 ?_
  refine tt_istore F [(4, .int (iZ 0)), (3, .int (iZ 0)), (0, .ref (a 21)), (1, .int (iZ q)), (2, .int (iZ k))] (by decide) rfl dPL_countCandidates_3 ?_
  refine tt_sub [2, 3, 4, 1, 0] rfl ?_
  refine cc_loop F hk hcq hq (fun cnt_ j hz => ?_) (k.toNat + 1) 0 0 (by omega) (by omega) (cz_0 _ (Int.le_refl 0)).symm
  refine tt_iload_n F 3 rfl rfl dPL_countCandidates_31 ?_
  exact tt_iret F rfl (Nat.le_of_ble_eq_true rfl) (Nat.le_of_ble_eq_true rfl) dPL_countCandidates_32 ⟨hz, rfl⟩
abbrev rmPL_isCandidate : Room := { frames := 1, cells := 0, slots := 0, locals := 24 }
set_option maxHeartbeats 4000000 in
set_option maxRecDepth 100000 in
theorem c_isCandidate {q : Int} (hcn : 0 ≤ cn ∧ cn ≤ 4) (hcq : ∀ j, 0 ≤ j → j < cn → 0 ≤ cp j ∧ cp j ≤ 1000) (hq : 0 ≤ q ∧ q ≤ 1000) : CI l D vwCl cI cZ cJ SL yPL_isCandidate wsPL_isCandidate rmPL_isCandidate [.ref (a 21), .int (iZ q)] (cW cI cZ a W D_ r sz co ro ho ac al sd lf sq hs rs ts rt_ hc li re ow tc cp ck wa qp qt qs lo sb lc cn ch sk) (fun z w1 => z = bi (decide (0 < cz (fun j => decide (cp j = q)) cn)) ∧ w1 = (cW cI cZ a W D_ r sz co ro ho ac al sd lf sq hs rs ts rt_ hc li re ow tc cp ck wa qp qt qs lo sb lc cn ch sk)) := by
  refine tt_startI (by decide) rfl (Nat.le_of_ble_eq_true rfl) ?_
  intro p e s m args below meth c hnm F
  have hb := cz_b (fun j => decide (cp j = q)) hcn.1
  refine tt_aload_n F 0 rfl rfl dPL_isCandidate_0 ?_
  refine tt_iload_n F 1 rfl rfl dPL_isCandidate_1 ?_
  refine tt_aload_n F 0 rfl rfl dPL_isCandidate_2 ?_
  refine tt_get F inPL 21 rfl rfl 2 (by decide) we248 rfl dPL_isCandidate_3 ?_
  refine tt_cIV0 F (fun h => h) (As := [.int (iZ q), .int (iZ cn)]) 21 rfl rfl (c_countCandidates (hs := hs) (rs := rs) (ts := ts) (rt_ := rt_) (hc := hc) (li := li) (re := re) (ow := ow) (tc := tc) (cp := cp) (ck := ck) (wa := wa) (qp := qp) (qt := qt) (qs := qs) (lo := lo) (sb := sb) (lc := lc) (cn := cn) (ch := ch) (sk := sk) (q := q) (k := cn) (by omega) hcq (by omega)) (cwV 2 F.1.2.2.2.2 (gw_V wd351 wd353 wd4 wd52 wd354) rfl rfl rfl (by decide +kernel) ⟨(Nat.le_of_ble_eq_true rfl), (Nat.le_of_ble_eq_true rfl)⟩) rfl rfl rfl (Nat.le_of_ble_eq_true rfl) ⟨(Nat.le_of_ble_eq_true rfl), (Nat.le_of_ble_eq_true rfl)⟩ dPL_isCandidate_6 (fun z6 w1 hp => ?_)
  obtain ⟨hz6, rfl⟩ := hp
  refine tt_if_le F 16 ⟨by omega, by omega⟩ dPL_isCandidate_9 (by decide) (fun c9 => ?_) (fun c9 => ?_)
  · skip
    refine tt_iconst F dPL_isCandidate_16 ?_
    exact tt_zret F rfl (by omega) (Nat.le_of_ble_eq_true rfl) (Nat.le_of_ble_eq_true rfl) dPL_isCandidate_17 ⟨by simp [bi]; omega, rfl⟩
  · skip
    refine tt_iconst F dPL_isCandidate_12 ?_
    refine tt_goto F 17 (by decide) dPL_isCandidate_13 ?_
    exact tt_zret F rfl (by omega) (Nat.le_of_ble_eq_true rfl) (Nat.le_of_ble_eq_true rfl) dPL_isCandidate_17 ⟨by simp [bi]; omega, rfl⟩
abbrev rmPL_areWantedSafe : Room := { frames := 1, cells := 0, slots := 0, locals := 21 }
set_option maxHeartbeats 4000000 in
set_option maxRecDepth 100000 in
theorem aws_loop  (F : FX p s m args meth c cPL_areWantedSafe 2 (some .boolean) wsPL_areWantedSafe RPL D vwCl cI cZ cJ SL A) (hG : GE W D_ r sz co ro ho ac al sd lf sq) (hwa : ∀ p, 0 ≤ p → p < W * D_ → wa p = 0 ∨ wa p = 1) (hhc : ∀ p, 0 ≤ p → p < W * D_ → 0 ≤ hc p ∧ hc p ≤ 1024)
    (k33 : ∀ (p_ : Int), (∃ p, 0 ≤ p ∧ p < W * D_ ∧ wa p = 1 ∧ ¬ hc p = 0) → TT p l e rmPL_areWantedSafe s m args below meth c D vwCl A 2 False Q 33 [(0, .ref (a 21)), (1, .int (iZ p_))] [] (cW cI cZ a W D_ r sz co ro ho ac al sd lf sq hs rs ts rt_ hc li re ow tc cp ck wa qp qt qs lo sb lc cn ch sk) 0 0)
    (k41 : ∀ (p_ : Int), (∀ p, 0 ≤ p → p < W * D_ → wa p = 0 ∨ hc p = 0) → TT p l e rmPL_areWantedSafe s m args below meth c D vwCl A 2 False Q 41 [(0, .ref (a 21)), (1, .int (iZ p_))] [] (cW cI cZ a W D_ r sz co ro ho ac al sd lf sq hs rs ts rt_ hc li re ow tc cp ck wa qp qt qs lo sb lc cn ch sk) 0 0) :
    ∀ (n : Nat) (p_ : Int), (W * D_ - p_).toNat < n → (0 ≤ p_ ∧ p_ ≤ W * D_) → (∀ p, 0 ≤ p → p < p_ → wa p = 0 ∨ hc p = 0) → TT p l e rmPL_areWantedSafe s m args below meth c D vwCl A 2 False Q 2 [(0, .ref (a 21)), (1, .int (iZ p_))] [] (cW cI cZ a W D_ r sz co ro ho ac al sd lf sq hs rs ts rt_ hc li re ow tc cp ck wa qp qt qs lo sb lc cn ch sk) 0 0 := by
  intro n
  induction n with
  | zero => intro p_ hn; omega
  | succ n ih =>
    intro p_ hn I1 I2
    obtain ⟨⟨hW1, hW2, hD1, hD2, hr1, hr2⟩, hGp, hGs, hGk, hGx, hGi, hGm, hGq⟩ := id hG
    have hWD := wd_b hW1 hW2 hD1 hD2
    have hPL := pl_b hW1 hW2 hD1 hD2 hr1 hr2
    have hSQ := sd_b hr1 hr2
    refine tt_iload_n F 1 rfl rfl dPL_areWantedSafe_2 ?_
    refine tt_aload_n F 0 rfl rfl dPL_areWantedSafe_3 ?_
    refine tt_get F inPL 21 rfl rfl 4 (by decide) we252 rfl dPL_areWantedSafe_4 ?_
    refine tt_get F inHO 1 rfl rfl 2 (by decide) we90 rfl dPL_areWantedSafe_7 ?_
    refine tt_icmp_ge F 41 ⟨by omega, by omega⟩ ⟨by omega, by omega⟩ dPL_areWantedSafe_10 (by decide) (fun c10 => ?_) (fun c10 => ?_)
    · skip
      refine tt_sub [0, 1] rfl ?_
      exact k41 p_ (fun p h1 h2 => I2 p h1 (by omega))
    · skip
      have hp1 := hwa p_ (by omega) (by omega)
      have hp2 := hhc p_ (by omega) (by omega)
      have hp3 : ir (hc p_) := ⟨by omega, by omega⟩
      refine tt_aload_n F 0 rfl rfl dPL_areWantedSafe_13 ?_
      refine tt_get F inPL 21 rfl rfl 3 (by decide) we250 rfl dPL_areWantedSafe_14 ?_
      refine tt_iload_n F 1 rfl rfl dPL_areWantedSafe_17 ?_
      refine tt_zald F 24 rfl (by omega) (by omega) (by omega) dPL_areWantedSafe_18 ?_
      refine tt_name (fun wv hwv => ?_)
      refine tt_if_eq F 35 ⟨by omega, by omega⟩ dPL_areWantedSafe_19 (by decide) (fun c19 => ?_) (fun c19 => ?_)
      · skip
        refine tt_iinc F 1 [(1, .int (iZ (p_ + 1))), (0, .ref (a 21))] rfl (by decide) rfl dPL_areWantedSafe_35 ?_
        refine tt_goto F 2 (by decide) dPL_areWantedSafe_38 ?_
        refine tt_sub [1, 0] rfl ?_
        exact ih (p_ + 1) (by omega) (by omega) (fun p h1 h2 => if e : p = p_ then (by rw [e]; left; omega) else I2 p h1 (by omega))
      · skip
        refine tt_aload_n F 0 rfl rfl dPL_areWantedSafe_22 ?_
        refine tt_get F inPL 21 rfl rfl 5 (by decide) we253 rfl dPL_areWantedSafe_23 ?_
        refine tt_iload_n F 1 rfl rfl dPL_areWantedSafe_26 ?_
        refine tt_cIV0 F (fun h => h) (As := [.int (iZ p_)]) 14 rfl rfl (c_isSafe (hs := hs) (rs := rs) (ts := ts) (rt_ := rt_) (hc := hc) (li := li) (re := re) (ow := ow) (tc := tc) (cp := cp) (ck := ck) (wa := wa) (qp := qp) (qt := qt) (qs := qs) (lo := lo) (sb := sb) (lc := lc) (cn := cn) (ch := ch) (sk := sk) (q := p_) hG (by omega) (by assumption)) (cwV 1 F.1.2.2.2.2 (gw_V wd332 wd333 wd334 wd48 wd335) rfl rfl rfl (by decide +kernel) ⟨(Nat.le_of_ble_eq_true rfl), (Nat.le_of_ble_eq_true rfl)⟩) rfl rfl rfl (Nat.le_of_ble_eq_true rfl) ⟨(Nat.le_of_ble_eq_true rfl), (Nat.le_of_ble_eq_true rfl)⟩ dPL_areWantedSafe_27 (fun z27 w1 hp => ?_)
        obtain ⟨hz27, rfl⟩ := hp
        refine tt_if_ne F 35 (by rw [hz27]; have := bi_b (decide (hc p_ = 0)); exact ⟨by omega, by omega⟩) dPL_areWantedSafe_30 (by decide) (fun c30 => ?_) (fun c30 => ?_)
        · skip
          refine tt_iinc F 1 [(1, .int (iZ (p_ + 1))), (0, .ref (a 21))] rfl (by decide) rfl dPL_areWantedSafe_35 ?_
          refine tt_goto F 2 (by decide) dPL_areWantedSafe_38 ?_
          refine tt_sub [1, 0] rfl ?_
          exact ih (p_ + 1) (by omega) (by omega) (fun p h1 h2 => if e : p = p_ then (by rw [e]; right; by_cases q : hc p_ = 0; exact q; simp [bi, q] at hz27; omega) else I2 p h1 (by omega))
        · skip
          refine tt_sub [0, 1] rfl ?_
          exact k33 p_ (⟨p_, by omega, by omega, by omega, fun q => by rw [q] at hz27; simp [bi] at hz27; omega⟩)
set_option maxHeartbeats 4000000 in
set_option maxRecDepth 100000 in
theorem c_areWantedSafe  (hG : GE W D_ r sz co ro ho ac al sd lf sq) (hwa : ∀ p, 0 ≤ p → p < W * D_ → wa p = 0 ∨ wa p = 1) (hhc : ∀ p, 0 ≤ p → p < W * D_ → 0 ≤ hc p ∧ hc p ≤ 1024) : CI l D vwCl cI cZ cJ SL yPL_areWantedSafe wsPL_areWantedSafe rmPL_areWantedSafe [.ref (a 21)] (cW cI cZ a W D_ r sz co ro ho ac al sd lf sq hs rs ts rt_ hc li re ow tc cp ck wa qp qt qs lo sb lc cn ch sk) (fun z w1 => ((z = 1 ∧ ∀ p, 0 ≤ p → p < W * D_ → wa p = 0 ∨ hc p = 0) ∨ (z = 0 ∧ ∃ p, 0 ≤ p ∧ p < W * D_ ∧ wa p = 1 ∧ ¬ hc p = 0)) ∧ w1 = (cW cI cZ a W D_ r sz co ro ho ac al sd lf sq hs rs ts rt_ hc li re ow tc cp ck wa qp qt qs lo sb lc cn ch sk)) := by
  refine tt_startI (by decide) rfl (Nat.le_of_ble_eq_true rfl) ?_
  intro p e s m args below meth c hnm F
  obtain ⟨⟨hW1, hW2, hD1, hD2, hr1, hr2⟩, hGp, hGs, hGk, hGx, hGi, hGm, hGq⟩ := id hG
  have hWD := wd_b hW1 hW2 hD1 hD2
  have hPL := pl_b hW1 hW2 hD1 hD2 hr1 hr2
  have hSQ := sd_b hr1 hr2
  refine tt_iconst F dPL_areWantedSafe_0 ?_
  refine tt_istore_n F [(1, .int (iZ 0)), (0, .ref (a 21))] rfl (by decide) rfl dPL_areWantedSafe_1 ?_
  refine tt_sub [1, 0] rfl ?_
  refine aws_loop F hG hwa hhc (fun p_ hn_ => ?_) (fun p_ ha => ?_) ((W * D_).toNat + 1) 0 (by omega) (by omega) (fun p h1 h2 => by omega)
  · skip
    refine tt_iconst F dPL_areWantedSafe_33 ?_
    exact tt_zret F rfl (Or.inl rfl) (Nat.le_of_ble_eq_true rfl) (Nat.le_of_ble_eq_true rfl) dPL_areWantedSafe_34 ⟨Or.inr ⟨rfl, hn_⟩, rfl⟩
  · skip
    refine tt_iconst F dPL_areWantedSafe_41 ?_
    exact tt_zret F rfl (Or.inr rfl) (Nat.le_of_ble_eq_true rfl) (Nat.le_of_ble_eq_true rfl) dPL_areWantedSafe_42 ⟨Or.inl ⟨rfl, ha⟩, rfl⟩
abbrev rmPL_addChoice : Room := { frames := 0, cells := 0, slots := 0, locals := 0 }
set_option maxHeartbeats 4000000 in
set_option maxRecDepth 100000 in
theorem c_addChoice {q t v : Int} (hG : GE W D_ r sz co ro ho ac al sd lf sq) (hq : 0 ≤ q ∧ q < W * D_) (hch : 0 ≤ ch ∧ ch < 8) (htq : ir t) (hts0 : ir (ts q)) : CV l D vwCl cI cZ cJ SL yPL_addChoice wsPL_addChoice rmPL_addChoice [.ref (a 21), .int (iZ q), .int (iZ t), .int (iZ v)] (cW cI cZ a W D_ r sz co ro ho ac al sd lf sq hs rs ts rt_ hc li re ow tc cp ck wa qp qt qs lo sb lc cn ch sk) (fun w1 => ∃ sk', w1 = (cW cI cZ a W D_ r sz co ro ho ac al sd lf sq hs rs ts rt_ hc li re ow tc cp ck wa (zu qp ch q) (zu qt ch t) (zu qs ch v) lo sb lc cn (ch + 1) sk') ∧ ((ts q ≤ t ∧ sk' = sk) ∨ (t < ts q ∧ sk' = zor sk v))) := by
  refine tt_startV (by decide) rfl (Nat.le_of_ble_eq_true rfl) ?_
  intro p e s m args below meth c hnm F
  obtain ⟨⟨hW1, hW2, hD1, hD2, hr1, hr2⟩, hGp, hGs, hGk, hGx, hGi, hGm, hGq⟩ := id hG
  have hWD := wd_b hW1 hW2 hD1 hD2
  have hPL := pl_b hW1 hW2 hD1 hD2 hr1 hr2
  have hSQ := sd_b hr1 hr2
  refine tt_aload_n F 0 rfl rfl dPL_addChoice_0 ?_
  refine tt_get F inPL 21 rfl rfl 6 (by decide) we254 rfl dPL_addChoice_1 ?_
  refine tt_aload_n F 0 rfl rfl dPL_addChoice_4 ?_
  refine tt_get F inPL 21 rfl rfl 9 (by decide) we257 rfl dPL_addChoice_5 ?_
  refine tt_iload_n F 1 rfl rfl dPL_addChoice_8 ?_
  refine tt_iast F (fun h => h) 25 rfl (by omega) (by omega) (by omega) dPL_addChoice_9 ?_
  refine tt_aload_n F 0 rfl rfl dPL_addChoice_10 ?_
  refine tt_get F inPL 21 rfl rfl 7 (by decide) we255 rfl dPL_addChoice_11 ?_
  refine tt_aload_n F 0 rfl rfl dPL_addChoice_14 ?_
  refine tt_get F inPL 21 rfl rfl 9 (by decide) we257 rfl dPL_addChoice_15 ?_
  refine tt_iload_n F 2 rfl rfl dPL_addChoice_18 ?_
  refine tt_iast F (fun h => h) 26 rfl (by omega) (by omega) (by omega) dPL_addChoice_19 ?_
  refine tt_aload_n F 0 rfl rfl dPL_addChoice_20 ?_
  refine tt_get F inPL 21 rfl rfl 8 (by decide) we256 rfl dPL_addChoice_21 ?_
  refine tt_aload_n F 0 rfl rfl dPL_addChoice_24 ?_
  refine tt_get F inPL 21 rfl rfl 9 (by decide) we257 rfl dPL_addChoice_25 ?_
  refine tt_iload_n F 3 rfl rfl dPL_addChoice_28 ?_
  refine tt_iast F (fun h => h) 27 rfl (by omega) (by omega) (by omega) dPL_addChoice_29 ?_
  refine tt_aload_n F 0 rfl rfl dPL_addChoice_30 ?_
  refine tt_dup F rfl dPL_addChoice_31 ?_
  refine tt_get F inPL 21 rfl rfl 9 (by decide) we257 rfl dPL_addChoice_32 ?_
  refine tt_iconst F dPL_addChoice_35 ?_
  refine tt_iadd F dPL_addChoice_36 ?_
  refine tt_put F (fun h => h) inPL tyPL tyPL_ok nmPL 21 rfl rfl 9 (by decide) we257 rfl rfl rfl rfl (show (9 : Nat) + 1 ≤ _ from Nat.le_of_ble_eq_true rfl) dPL_addChoice_37 ?_
  refine tt_iload_n F 2 rfl rfl dPL_addChoice_40 ?_
  refine tt_aload_n F 0 rfl rfl dPL_addChoice_41 ?_
  refine tt_get F inPL 21 rfl rfl 4 (by decide) we252 rfl dPL_addChoice_42 ?_
  refine tt_get F inHO 1 rfl rfl 7 (by decide) we106 rfl dPL_addChoice_45 ?_
  refine tt_iload_n F 1 rfl rfl dPL_addChoice_48 ?_
  refine tt_iald F 6 rfl (by omega) (by omega) (by omega) dPL_addChoice_49 ?_
  refine tt_name (fun tv htv => ?_)
  refine tt_icmp_ge F 63 (htq) (by rw [htv]; exact hts0) dPL_addChoice_50 (by decide) (fun c50 => ?_) (fun c50 => ?_)
  · skip
    exact tt_vret F rfl (Nat.le_of_ble_eq_true rfl) (Nat.le_of_ble_eq_true rfl) dPL_addChoice_63 ⟨sk, rfl, Or.inl ⟨by omega, rfl⟩⟩
  · skip
    refine tt_aload_n F 0 rfl rfl dPL_addChoice_53 ?_
    refine tt_dup F rfl dPL_addChoice_54 ?_
    refine tt_get F inPL 21 rfl rfl 10 (by decide) we258 rfl dPL_addChoice_55 ?_
    refine tt_iload_n F 3 rfl rfl dPL_addChoice_58 ?_
    refine tt_ior F dPL_addChoice_59 ?_
    refine tt_put F (fun h => h) inPL tyPL tyPL_ok nmPL 21 rfl rfl 10 (by decide) we258 rfl rfl rfl rfl (show (10 : Nat) + 1 ≤ _ from Nat.le_of_ble_eq_true rfl) dPL_addChoice_60 ?_
    exact tt_vret F rfl (Nat.le_of_ble_eq_true rfl) (Nat.le_of_ble_eq_true rfl) dPL_addChoice_63 ⟨_, rfl, Or.inr ⟨by omega, rfl⟩⟩
abbrev rmPL_maySink : Room := { frames := 0, cells := 0, slots := 0, locals := 0 }
set_option maxHeartbeats 4000000 in
set_option maxRecDepth 100000 in
theorem c_maySink {P0 : Int} (hG : GE W D_ r sz co ro ho ac al sd lf sq) (hP0 : 0 ≤ P0 ∧ P0 < (W + 2 * r) * (D_ + 2 * r)) (how : ow P0 = -1 ∨ (0 ≤ ow P0 ∧ ow P0 < W * D_)) (hlo : ∀ p, 0 ≤ p → p < W * D_ → ir (lo p) ∧ ir (ts p)) : CI l D vwCl cI cZ cJ SL yPL_maySink wsPL_maySink rmPL_maySink [.ref (a 21), .int (iZ P0)] (cW cI cZ a W D_ r sz co ro ho ac al sd lf sq hs rs ts rt_ hc li re ow tc cp ck wa qp qt qs lo sb lc cn ch sk) (fun z w1 => ((z = 1 ∧ ow P0 ≠ -1 ∧ lo (ow P0) < ts (ow P0)) ∨ (z = 0 ∧ (ow P0 = -1 ∨ ts (ow P0) ≤ lo (ow P0)))) ∧ w1 = (cW cI cZ a W D_ r sz co ro ho ac al sd lf sq hs rs ts rt_ hc li re ow tc cp ck wa qp qt qs lo sb lc cn ch sk)) := by
  refine tt_startI (by decide) rfl (Nat.le_of_ble_eq_true rfl) ?_
  intro p e s m args below meth c hnm F
  obtain ⟨⟨hW1, hW2, hD1, hD2, hr1, hr2⟩, hGp, hGs, hGk, hGx, hGi, hGm, hGq⟩ := id hG
  have hWD := wd_b hW1 hW2 hD1 hD2
  have hPL := pl_b hW1 hW2 hD1 hD2 hr1 hr2
  have hSQ := sd_b hr1 hr2
  refine tt_aload_n F 0 rfl rfl dPL_maySink_0 ?_
  refine tt_get F inPL 21 rfl rfl 5 (by decide) we253 rfl dPL_maySink_1 ?_
  refine tt_get F inBA 14 rfl rfl 4 (by decide) we199 rfl dPL_maySink_4 ?_
  refine tt_iload_n F 1 rfl rfl dPL_maySink_7 ?_
  refine tt_iald F 19 rfl (by omega) (by omega) (by omega) dPL_maySink_8 ?_
  refine tt_name (fun own hown => ?_)
  refine tt_istore_n F [(2, .int (iZ own)), (0, .ref (a 21)), (1, .int (iZ P0))] rfl (by decide) rfl dPL_maySink_9 ?_
  refine tt_iload_n F 0 rfl rfl dPL_maySink_10 ?_
  refine tt_iconst F dPL_maySink_11 ?_
  refine tt_icmp_eq F 37 ⟨by omega, by omega⟩ ⟨by omega, by omega⟩ dPL_maySink_12 (by decide) (fun c12 => ?_) (fun c12 => ?_)
  · skip
    refine tt_iconst F dPL_maySink_37 ?_
    exact tt_zret F rfl (by omega) (Nat.le_of_ble_eq_true rfl) (Nat.le_of_ble_eq_true rfl) dPL_maySink_38 ⟨Or.inr ⟨rfl, Or.inl (by omega)⟩, rfl⟩
  · skip
    have hl0 := hlo own (by omega) (by omega)
    refine tt_aload_n F 1 rfl rfl dPL_maySink_15 ?_
    refine tt_get F inPL 21 rfl rfl 11 (by decide) we259 rfl dPL_maySink_16 ?_
    refine tt_iload_n F 0 rfl rfl dPL_maySink_19 ?_
    refine tt_iald F 28 rfl (by omega) (by omega) (by omega) dPL_maySink_20 ?_
    refine tt_name (fun lv_ hlv_ => ?_)
    refine tt_aload_n F 1 rfl rfl dPL_maySink_21 ?_
    refine tt_get F inPL 21 rfl rfl 4 (by decide) we252 rfl dPL_maySink_22 ?_
    refine tt_get F inHO 1 rfl rfl 7 (by decide) we106 rfl dPL_maySink_25 ?_
    refine tt_iload_n F 0 rfl rfl dPL_maySink_28 ?_
    refine tt_iald F 6 rfl (by omega) (by omega) (by omega) dPL_maySink_29 ?_
    refine tt_name (fun tv htv => ?_)
    refine tt_icmp_ge F 37 (by rw [hlv_]; exact hl0.1) (by rw [htv]; exact hl0.2) dPL_maySink_30 (by decide) (fun c30 => ?_) (fun c30 => ?_)
    · skip
      refine tt_iconst F dPL_maySink_37 ?_
      exact tt_zret F rfl (by omega) (Nat.le_of_ble_eq_true rfl) (Nat.le_of_ble_eq_true rfl) dPL_maySink_38 ⟨Or.inr ⟨rfl, Or.inr (by rw [← hown]; omega)⟩, rfl⟩
    · skip
      refine tt_iconst F dPL_maySink_33 ?_
      refine tt_goto F 38 (by decide) dPL_maySink_34 ?_
      exact tt_zret F rfl (by omega) (Nat.le_of_ble_eq_true rfl) (Nat.le_of_ble_eq_true rfl) dPL_maySink_38 ⟨Or.inl ⟨rfl, by omega, by rw [← hown]; omega⟩, rfl⟩
abbrev rmPL_lowRest : Room := { frames := 1, cells := 0, slots := 0, locals := 41 }
set_option maxHeartbeats 4000000 in
set_option maxRecDepth 100000 in
theorem c_lowRest {x y : Int} (hG : GE W D_ r sz co ro ho ac al sd lf sq) (hlo : ∀ p, 0 ≤ p → p < W * D_ → 0 ≤ lo p ∧ lo p ≤ ts p ∧ ts p ≤ 262144000) (hrt : ∀ i j, 0 ≤ i → i < W → 0 ≤ j → j < D_ → ts (j * W + i) ≤ rt_ j ∧ rt_ j ≤ 262144000) (hx : -r ≤ x ∧ x < W + r) (hy : -r ≤ y ∧ y < D_ + r) : CI l D vwCl cI cZ cJ SL yPL_lowRest wsPL_lowRest rmPL_lowRest [.ref (a 21), .int (iZ x), .int (iZ y)] (cW cI cZ a W D_ r sz co ro ho ac al sd lf sq hs rs ts rt_ hc li re ow tc cp ck wa qp qt qs lo sb lc cn ch sk) (fun z w1 => ∃ (li' : Int → Int) (lc' : Int), w1 = (cW cI cZ a W D_ r sz co ro ho ac al sd lf sq hs rs ts rt_ hc li' re ow tc cp ck wa qp qt qs lo sb lc' cn ch sk) ∧ clI W r x y (r * 1048576) (W * D_) lo (W * D_) z lc' li') := by
  refine tt_startI (by decide) rfl (Nat.le_of_ble_eq_true rfl) ?_
  intro p e s m args below meth c hnm F
  obtain ⟨⟨hW1, hW2, hD1, hD2, hr1, hr2⟩, hGp, hGs, hGk, hGx, hGi, hGm, hGq⟩ := id hG
  have hWD := wd_b hW1 hW2 hD1 hD2
  have hPL := pl_b hW1 hW2 hD1 hD2 hr1 hr2
  have hSQ := sd_b hr1 hr2
  refine tt_aload_n F 0 rfl rfl dPL_lowRest_0 ?_
  refine tt_get F inPL 21 rfl rfl 5 (by decide) we253 rfl dPL_lowRest_1 ?_
  refine tt_aload_n F 0 rfl rfl dPL_lowRest_4 ?_
  refine tt_get F inPL 21 rfl rfl 11 (by decide) we259 rfl dPL_lowRest_5 ?_
  refine tt_iload_n F 1 rfl rfl dPL_lowRest_8 ?_
  refine tt_iload_n F 2 rfl rfl dPL_lowRest_9 ?_
  refine tt_aload_n F 0 rfl rfl dPL_lowRest_10 ?_
  refine tt_get F inPL 21 rfl rfl 5 (by decide) we253 rfl dPL_lowRest_11 ?_
  refine tt_get F inBA 14 rfl rfl 3 (by decide) we197 rfl dPL_lowRest_14 ?_
  refine tt_cIV0 F (fun h => h) (As := [.ref (a 28), .int (iZ x), .int (iZ y), .int (iZ (r * 1048576))]) 14 rfl rfl (c_climb (hs := hs) (rs := rs) (ts := ts) (rt_ := rt_) (hc := hc) (li := li) (re := re) (ow := ow) (tc := tc) (cp := cp) (ck := ck) (wa := wa) (qp := qp) (qt := qt) (qs := qs) (lo := lo) (sb := sb) (lc := lc) (cn := cn) (ch := ch) (sk := sk) (q0 := 28) (b := a 28) (tq := lo) (x := x) (y := y) (at_ := r * 1048576) hG (fun _ _ => rfl) hlo hrt (by omega) (by omega) (by omega)) (cwV 4 F.1.2.2.2.2 (gw_V wd383 wd384 wd385 wd48 wd386) rfl rfl rfl (by decide +kernel) ⟨(Nat.le_of_ble_eq_true rfl), (Nat.le_of_ble_eq_true rfl)⟩) rfl rfl rfl (Nat.le_of_ble_eq_true rfl) ⟨(Nat.le_of_ble_eq_true rfl), (Nat.le_of_ble_eq_true rfl)⟩ dPL_lowRest_17 (fun z17 w1 hp => ?_)
  obtain ⟨li17, lc17, rfl, I17⟩ := hp
  exact tt_iret F rfl (Nat.le_of_ble_eq_true rfl) (Nat.le_of_ble_eq_true rfl) dPL_lowRest_20 ⟨_, _, rfl, I17⟩
abbrev rmPL_isWantedListed : Room := { frames := 0, cells := 0, slots := 0, locals := 0 }
set_option maxHeartbeats 4000000 in
set_option maxRecDepth 100000 in
theorem iwl_loop  (F : FX p s m args meth c cPL_isWantedListed 2 (some .boolean) wsPL_isWantedListed RPL D vwCl cI cZ cJ SL A) (hG : GE W D_ r sz co ro ho ac al sd lf sq) (hwa : ∀ p, 0 ≤ p → p < W * D_ → wa p = 0 ∨ wa p = 1) (hlc : 0 ≤ lc ∧ lc ≤ W * D_) (hli : ∀ k, 0 ≤ k → k < lc → 0 ≤ li k ∧ li k < W * D_)
    (k30 : ∀ (n_ : Int), (∃ k, 0 ≤ k ∧ k < lc ∧ wa (li k) = 1) → TT p l e rmPL_isWantedListed s m args below meth c D vwCl A 2 False Q 30 [(0, .ref (a 21)), (1, .int (iZ n_))] [] (cW cI cZ a W D_ r sz co ro ho ac al sd lf sq hs rs ts rt_ hc li re ow tc cp ck wa qp qt qs lo sb lc cn ch sk) 0 0)
    (k38 : ∀ (n_ : Int), (∀ k, 0 ≤ k → k < lc → wa (li k) = 0) → TT p l e rmPL_isWantedListed s m args below meth c D vwCl A 2 False Q 38 [(0, .ref (a 21)), (1, .int (iZ n_))] [] (cW cI cZ a W D_ r sz co ro ho ac al sd lf sq hs rs ts rt_ hc li re ow tc cp ck wa qp qt qs lo sb lc cn ch sk) 0 0) :
    ∀ (n : Nat) (n_ : Int), (lc - n_).toNat < n → (0 ≤ n_ ∧ n_ ≤ lc) → (∀ k, 0 ≤ k → k < n_ → wa (li k) = 0) → TT p l e rmPL_isWantedListed s m args below meth c D vwCl A 2 False Q 2 [(0, .ref (a 21)), (1, .int (iZ n_))] [] (cW cI cZ a W D_ r sz co ro ho ac al sd lf sq hs rs ts rt_ hc li re ow tc cp ck wa qp qt qs lo sb lc cn ch sk) 0 0 := by
  intro n
  induction n with
  | zero => intro n_ hn; omega
  | succ n ih =>
    intro n_ hn I1 I2
    obtain ⟨⟨hW1, hW2, hD1, hD2, hr1, hr2⟩, hGp, hGs, hGk, hGx, hGi, hGm, hGq⟩ := id hG
    have hWD := wd_b hW1 hW2 hD1 hD2
    have hPL := pl_b hW1 hW2 hD1 hD2 hr1 hr2
    have hSQ := sd_b hr1 hr2
    refine tt_iload_n F 1 rfl rfl dPL_isWantedListed_2 ?_
    refine tt_aload_n F 0 rfl rfl dPL_isWantedListed_3 ?_
    refine tt_get F inPL 21 rfl rfl 5 (by decide) we253 rfl dPL_isWantedListed_4 ?_
    refine tt_get F inBA 14 rfl rfl 7 (by decide) we208 rfl dPL_isWantedListed_7 ?_
    refine tt_icmp_ge F 38 ⟨by omega, by omega⟩ ⟨by omega, by omega⟩ dPL_isWantedListed_10 (by decide) (fun c10 => ?_) (fun c10 => ?_)
    · skip
      refine tt_sub [0, 1] rfl ?_
      exact k38 n_ (fun k h1 h2 => I2 k h1 (by omega))
    · skip
      have hl0 := hli n_ (by omega) (by omega)
      refine tt_aload_n F 0 rfl rfl dPL_isWantedListed_13 ?_
      refine tt_get F inPL 21 rfl rfl 3 (by decide) we250 rfl dPL_isWantedListed_14 ?_
      refine tt_aload_n F 0 rfl rfl dPL_isWantedListed_17 ?_
      refine tt_get F inPL 21 rfl rfl 5 (by decide) we253 rfl dPL_isWantedListed_18 ?_
      refine tt_get F inBA 14 rfl rfl 6 (by decide) we205 rfl dPL_isWantedListed_21 ?_
      refine tt_iload_n F 1 rfl rfl dPL_isWantedListed_24 ?_
      refine tt_iald F 17 rfl (by omega) (by omega) (by omega) dPL_isWantedListed_25 ?_
      refine tt_name (fun lv_ hlv_ => ?_)
      have hw0 := hwa lv_ (by omega) (by omega)
      refine tt_zald F 24 rfl (by omega) (by omega) (by omega) dPL_isWantedListed_26 ?_
      refine tt_name (fun wv hwv => ?_)
      refine tt_if_eq F 32 ⟨by omega, by omega⟩ dPL_isWantedListed_27 (by decide) (fun c27 => ?_) (fun c27 => ?_)
      · skip
        refine tt_iinc F 1 [(1, .int (iZ (n_ + 1))), (0, .ref (a 21))] rfl (by decide) rfl dPL_isWantedListed_32 ?_
        refine tt_goto F 2 (by decide) dPL_isWantedListed_35 ?_
        refine tt_sub [1, 0] rfl ?_
        exact ih (n_ + 1) (by omega) (by omega) (fun k h1 h2 => if e : k = n_ then (by rw [e, ← hlv_]; omega) else I2 k h1 (by omega))
      · skip
        refine tt_sub [0, 1] rfl ?_
        exact k30 n_ (⟨n_, by omega, by omega, by rw [← hlv_]; omega⟩)
set_option maxHeartbeats 4000000 in
set_option maxRecDepth 100000 in
theorem c_isWantedListed  (hG : GE W D_ r sz co ro ho ac al sd lf sq) (hwa : ∀ p, 0 ≤ p → p < W * D_ → wa p = 0 ∨ wa p = 1) (hlc : 0 ≤ lc ∧ lc ≤ W * D_) (hli : ∀ k, 0 ≤ k → k < lc → 0 ≤ li k ∧ li k < W * D_) : CI l D vwCl cI cZ cJ SL yPL_isWantedListed wsPL_isWantedListed rmPL_isWantedListed [.ref (a 21)] (cW cI cZ a W D_ r sz co ro ho ac al sd lf sq hs rs ts rt_ hc li re ow tc cp ck wa qp qt qs lo sb lc cn ch sk) (fun z w1 => ((z = 1 ∧ ∃ k, 0 ≤ k ∧ k < lc ∧ wa (li k) = 1) ∨ (z = 0 ∧ ∀ k, 0 ≤ k → k < lc → wa (li k) = 0)) ∧ w1 = (cW cI cZ a W D_ r sz co ro ho ac al sd lf sq hs rs ts rt_ hc li re ow tc cp ck wa qp qt qs lo sb lc cn ch sk)) := by
  refine tt_startI (by decide) rfl (Nat.le_of_ble_eq_true rfl) ?_
  intro p e s m args below meth c hnm F
  obtain ⟨⟨hW1, hW2, hD1, hD2, hr1, hr2⟩, hGp, hGs, hGk, hGx, hGi, hGm, hGq⟩ := id hG
  have hWD := wd_b hW1 hW2 hD1 hD2
  have hPL := pl_b hW1 hW2 hD1 hD2 hr1 hr2
  have hSQ := sd_b hr1 hr2
  refine tt_iconst F dPL_isWantedListed_0 ?_
  refine tt_istore_n F [(1, .int (iZ 0)), (0, .ref (a 21))] rfl (by decide) rfl dPL_isWantedListed_1 ?_
  refine tt_sub [1, 0] rfl ?_
  refine iwl_loop F hG hwa hlc hli (fun n_ he => ?_) (fun n_ ha => ?_) (lc.toNat + 1) 0 (by omega) (by omega) (fun k h1 h2 => by omega)
  · skip
    refine tt_iconst F dPL_isWantedListed_30 ?_
    exact tt_zret F rfl (Or.inr rfl) (Nat.le_of_ble_eq_true rfl) (Nat.le_of_ble_eq_true rfl) dPL_isWantedListed_31 ⟨Or.inl ⟨rfl, he⟩, rfl⟩
  · skip
    refine tt_iconst F dPL_isWantedListed_38 ?_
    exact tt_zret F rfl (Or.inl rfl) (Nat.le_of_ble_eq_true rfl) (Nat.le_of_ble_eq_true rfl) dPL_isWantedListed_39 ⟨Or.inr ⟨rfl, ha⟩, rfl⟩
abbrev rmPL_setsAbove : Room := { frames := 1, cells := 0, slots := 0, locals := 26 }
theorem abv_s {r ch : Int} {co ro qp qt qs : Int → Int} {lev x y S : Int} (h0 : 0 ≤ ch) : abv r (ch + 1) co ro qp qt qs lev x y S ↔ abv r ch co ro qp qt qs lev x y S ∨ (lev < qt ch + lift r (co (qp ch) - x) (ro (qp ch) - y) ∧ tb (qs ch) S = true) := by
  constructor
  · rintro ⟨n, n0, n1, n2, n3⟩
    by_cases e : n = ch
    · subst e; exact Or.inr ⟨n2, n3⟩
    · exact Or.inl ⟨n, n0, by omega, n2, n3⟩
  · rintro (⟨n, n0, n1, n2, n3⟩ | ⟨n2, n3⟩)
    · exact ⟨n, n0, by omega, n2, n3⟩
    · exact ⟨ch, h0, by omega, n2, n3⟩
theorem abv_0 {r : Int} {co ro qp qt qs : Int → Int} {lev x y S : Int} : ¬ abv r 0 co ro qp qt qs lev x y S := by
  rintro ⟨n, n0, n1, -, -⟩
  omega
set_option maxHeartbeats 4000000 in
set_option maxRecDepth 100000 in
theorem sab_loop {lev x y : Int} (F : FX p s m args meth c cPL_setsAbove 6 (some .int) wsPL_setsAbove RPL D vwCl cI cZ cJ SL A) (hG : GE W D_ r sz co ro ho ac al sd lf sq) (hch : 0 ≤ ch ∧ ch ≤ 8) (hqc : ∀ n, 0 ≤ n → n < ch → 0 ≤ qp n ∧ qp n < W * D_ ∧ 0 ≤ qt n ∧ qt n ≤ 262144000) (hx : -100 ≤ x ∧ x ≤ 100) (hy : -100 ≤ y ∧ y ≤ 100) (hlev : ir lev)
    (k61 : ∀ (s_ : Int) (n_ : Int), (ir s_) → (∀ S, tb s_ S = true ↔ abv r ch co ro qp qt qs lev x y S) → TT p l e rmPL_setsAbove s m args below meth c D vwCl A 6 False Q 61 [(0, .ref (a 21)), (1, .int (iZ lev)), (2, .int (iZ x)), (3, .int (iZ y)), (4, .int (iZ s_)), (5, .int (iZ n_))] [] (cW cI cZ a W D_ r sz co ro ho ac al sd lf sq hs rs ts rt_ hc li re ow tc cp ck wa qp qt qs lo sb lc cn ch sk) 0 0) :
    ∀ (n : Nat) (s_ : Int) (n_ : Int), (ch - n_).toNat < n → (0 ≤ n_ ∧ n_ ≤ ch) → (ir s_) → (∀ S, tb s_ S = true ↔ abv r n_ co ro qp qt qs lev x y S) → TT p l e rmPL_setsAbove s m args below meth c D vwCl A 6 False Q 6 [(0, .ref (a 21)), (1, .int (iZ lev)), (2, .int (iZ x)), (3, .int (iZ y)), (4, .int (iZ s_)), (5, .int (iZ n_))] [] (cW cI cZ a W D_ r sz co ro ho ac al sd lf sq hs rs ts rt_ hc li re ow tc cp ck wa qp qt qs lo sb lc cn ch sk) 0 0 := by
  intro n
  induction n with
  | zero => intro s_ n_ hn; omega
  | succ n ih =>
    intro s_ n_ hn I1 I2 I3
    obtain ⟨⟨hW1, hW2, hD1, hD2, hr1, hr2⟩, hGp, hGs, hGk, hGx, hGi, hGm, hGq⟩ := id hG
    have hWD := wd_b hW1 hW2 hD1 hD2
    have hPL := pl_b hW1 hW2 hD1 hD2 hr1 hr2
    have hSQ := sd_b hr1 hr2
    refine tt_iload F 5 rfl dPL_setsAbove_6 ?_
    refine tt_aload_n F 0 rfl rfl dPL_setsAbove_8 ?_
    refine tt_get F inPL 21 rfl rfl 9 (by decide) we257 rfl dPL_setsAbove_9 ?_
    refine tt_icmp_ge F 61 ⟨by omega, by omega⟩ ⟨by omega, by omega⟩ dPL_setsAbove_12 (by decide) (fun c12 => ?_) (fun c12 => ?_)
    · skip
      refine tt_sub [0, 1, 2, 3, 4, 5] rfl ?_
      exact k61 s_ n_ (I2) (by rw [show ch = n_ by omega]; exact I3)
    · skip
      have hq0 := hqc n_ (by omega) (by omega)
      refine tt_aload_n F 0 rfl rfl dPL_setsAbove_15 ?_
      refine tt_get F inPL 21 rfl rfl 7 (by decide) we255 rfl dPL_setsAbove_16 ?_
      refine tt_iload F 5 rfl dPL_setsAbove_19 ?_
      refine tt_iald F 26 rfl (by omega) (by omega) (by omega) dPL_setsAbove_21 ?_
      refine tt_name (fun tv htv => ?_)
      refine tt_aload_n F 0 rfl rfl dPL_setsAbove_22 ?_
      refine tt_get F inPL 21 rfl rfl 5 (by decide) we253 rfl dPL_setsAbove_23 ?_
      refine tt_aload_n F 0 rfl rfl dPL_setsAbove_26 ?_
      refine tt_get F inPL 21 rfl rfl 6 (by decide) we254 rfl dPL_setsAbove_27 ?_
      refine tt_iload F 5 rfl dPL_setsAbove_30 ?_
      refine tt_iald F 25 rfl (by omega) (by omega) (by omega) dPL_setsAbove_32 ?_
      refine tt_name (fun pv hpv => ?_)
      refine tt_iload_n F 2 rfl rfl dPL_setsAbove_33 ?_
      refine tt_iload_n F 3 rfl rfl dPL_setsAbove_34 ?_
      refine tt_cIV0 F (fun h => h) (As := [.int (iZ pv), .int (iZ x), .int (iZ y)]) 14 rfl rfl (c_liftOver (hs := hs) (rs := rs) (ts := ts) (rt_ := rt_) (hc := hc) (li := li) (re := re) (ow := ow) (tc := tc) (cp := cp) (ck := ck) (wa := wa) (qp := qp) (qt := qt) (qs := qs) (lo := lo) (sb := sb) (lc := lc) (cn := cn) (ch := ch) (sk := sk) (q := pv) (x := x) (y := y) hG (by omega) (by omega) (by omega)) (cwV 3 F.1.2.2.2.2 (gw_V wd391 wd392 wd393 wd48 wd394) rfl rfl rfl (by decide +kernel) ⟨(Nat.le_of_ble_eq_true rfl), (Nat.le_of_ble_eq_true rfl)⟩) rfl rfl rfl (Nat.le_of_ble_eq_true rfl) ⟨(Nat.le_of_ble_eq_true rfl), (Nat.le_of_ble_eq_true rfl)⟩ dPL_setsAbove_35 (fun z35 w1 hp => ?_)
      obtain ⟨hz35, rfl⟩ := hp
      have hlb := lift_b (dx := co pv - x) (dy := ro pv - y) hr1 hr2
      rw [hpv] at hz35 hlb
      refine tt_iadd F dPL_setsAbove_38 ?_
      refine tt_iload_n F 1 rfl rfl dPL_setsAbove_39 ?_
      refine tt_icmp_le F 55 ⟨by omega, by omega⟩ (hlev) dPL_setsAbove_40 (by decide) (fun c40 => ?_) (fun c40 => ?_)
      · skip
        refine tt_iinc F 5 [(5, .int (iZ (n_ + 1))), (0, .ref (a 21)), (1, .int (iZ lev)), (2, .int (iZ x)), (3, .int (iZ y)), (4, .int (iZ s_))] rfl (by decide) rfl dPL_setsAbove_55 ?_
        refine tt_goto F 6 (by decide) dPL_setsAbove_58 ?_
        refine tt_sub [1, 2, 3, 4, 5, 0] rfl ?_
        exact ih s_ (n_ + 1) (by omega) (by omega) (I2) (fun S => by rw [abv_s I1.1, I3 S]; exact ⟨Or.inl, fun q => q.elim id (fun q => absurd q.1 (by omega))⟩)
      · skip
        refine tt_iload F 4 rfl dPL_setsAbove_43 ?_
        refine tt_aload_n F 0 rfl rfl dPL_setsAbove_45 ?_
        refine tt_get F inPL 21 rfl rfl 8 (by decide) we256 rfl dPL_setsAbove_46 ?_
        refine tt_iload F 5 rfl dPL_setsAbove_49 ?_
        refine tt_iald F 27 rfl (by omega) (by omega) (by omega) dPL_setsAbove_51 ?_
        refine tt_name (fun sv hsv => ?_)
        refine tt_ior F dPL_setsAbove_52 ?_
        refine tt_name (fun x53 hx53 => ?_)
        refine tt_istore F [(4, .int (iZ x53)), (0, .ref (a 21)), (1, .int (iZ lev)), (2, .int (iZ x)), (3, .int (iZ y)), (5, .int (iZ n_))] (by decide) rfl dPL_setsAbove_53 ?_
        refine tt_iinc F 5 [(5, .int (iZ (n_ + 1))), (4, .int (iZ x53)), (0, .ref (a 21)), (1, .int (iZ lev)), (2, .int (iZ x)), (3, .int (iZ y))] rfl (by decide) rfl dPL_setsAbove_55 ?_
        refine tt_goto F 6 (by decide) dPL_setsAbove_58 ?_
        refine tt_sub [2, 3, 4, 5, 1, 0] rfl ?_
        exact ih x53 (n_ + 1) (by omega) (by omega) (by rw [hx53]; exact zor_ir _ _) (fun S => by rw [hx53, tb_or, abv_s I1.1, ← I3 S, hsv, Bool.or_eq_true]; exact ⟨fun q => q.imp id (fun q => ⟨by omega, q⟩), fun q => q.imp id (fun q => q.2)⟩)
set_option maxHeartbeats 4000000 in
set_option maxRecDepth 100000 in
theorem c_setsAbove {lev x y : Int} (hG : GE W D_ r sz co ro ho ac al sd lf sq) (hch : 0 ≤ ch ∧ ch ≤ 8) (hqc : ∀ n, 0 ≤ n → n < ch → 0 ≤ qp n ∧ qp n < W * D_ ∧ 0 ≤ qt n ∧ qt n ≤ 262144000) (hx : -100 ≤ x ∧ x ≤ 100) (hy : -100 ≤ y ∧ y ≤ 100) (hlev : ir lev) : CI l D vwCl cI cZ cJ SL yPL_setsAbove wsPL_setsAbove rmPL_setsAbove [.ref (a 21), .int (iZ lev), .int (iZ x), .int (iZ y)] (cW cI cZ a W D_ r sz co ro ho ac al sd lf sq hs rs ts rt_ hc li re ow tc cp ck wa qp qt qs lo sb lc cn ch sk) (fun z w1 => (ir z ∧ ∀ S, tb z S = true ↔ abv r ch co ro qp qt qs lev x y S) ∧ w1 = (cW cI cZ a W D_ r sz co ro ho ac al sd lf sq hs rs ts rt_ hc li re ow tc cp ck wa qp qt qs lo sb lc cn ch sk)) := by
  refine tt_startI (by decide) rfl (Nat.le_of_ble_eq_true rfl) ?_
  intro p e s m args below meth c hnm F
  obtain ⟨⟨hW1, hW2, hD1, hD2, hr1, hr2⟩, hGp, hGs, hGk, hGx, hGi, hGm, hGq⟩ := id hG
  have hWD := wd_b hW1 hW2 hD1 hD2
  have hPL := pl_b hW1 hW2 hD1 hD2 hr1 hr2
  have hSQ := sd_b hr1 hr2
  refine tt_iconst F dPL_setsAbove_0 ?_
  refine tt_istore F [(4, .int (iZ 0)), (0, .ref (a 21)), (1, .int (iZ lev)), (2, .int (iZ x)), (3, .int (iZ y))] (by decide) rfl dPL_setsAbove_1 ?_
  refine tt_iconst F dPL_setsAbove_3 ?_
  refine tt_istore F [(5, .int (iZ 0)), (4, .int (iZ 0)), (0, .ref (a 21)), (1, .int (iZ lev)), (2, .int (iZ x)), (3, .int (iZ y))] (by decide) rfl dPL_setsAbove_4 ?_
  refine tt_sub [2, 3, 4, 5, 1, 0] rfl ?_
  refine sab_loop F hG hch hqc hx hy hlev (fun s_ n_ J1 J2 => ?_) (ch.toNat + 1) 0 0 (by omega) (by omega) ⟨by omega, by omega⟩ (fun S => by rw [tb_0]; exact ⟨fun q => (by cases q), fun q => absurd q abv_0⟩)
  refine tt_iload F 4 rfl dPL_setsAbove_61 ?_
  exact tt_iret F rfl (Nat.le_of_ble_eq_true rfl) (Nat.le_of_ble_eq_true rfl) dPL_setsAbove_63 ⟨⟨J1, J2⟩, rfl⟩
end CL
