section CL
variable {p : Program} {l : Launch} {e : Env} {s : State} {m : MethodId} {args : Array Value} {below : List Frame} {meth : Method} {c : Code} {Q : State → Prop} {D : va_G} {cI cZ cJ : ClassId} {SL : List zS} {A : Nat → Prop} {a : Nat → Nat} {W D_ r sz : Int} {co ro ho ac al sd lf sq : Int → Int} {hs rs ts rt_ hc li re ow tc cp ck wa qp qt qs lo sb : Int → Int} {lc cn ch sk : Int}
abbrev rmBA_countListed : Room := { frames := 0, cells := 0, slots := 0, locals := 0 }
set_option maxHeartbeats 4000000 in
set_option maxRecDepth 100000 in
theorem countListed_loop {step : Int} {Pr : Int → Bool} (F : FX p s m args meth c cBA_countListed 3 none wsBA_countListed RBA D vwCl cI cZ cJ SL A) (hG : GE W D_ r sz co ro ho ac al sd lf sq) (hl : lsts Pr (W * D_) li lc)
    (k : ∀ (n_ : Int) (hc' : Int → Int), (∀ p, 0 ≤ p → p < W * D_ → hc' p = hc p + (if Pr p = true then step else 0)) → TT p l e rmBA_countListed s m args below meth c D vwCl A 3 False Q 31 [(0, .ref (a 14)), (1, .int (iZ step)), (2, .int (iZ n_))] [] (cW cI cZ a W D_ r sz co ro ho ac al sd lf sq hs rs ts rt_ hc' li re ow tc cp ck wa qp qt qs lo sb lc cn ch sk) 0 0) :
    ∀ (n : Nat) (n_ : Int) (hc' : Int → Int), (lc - n_).toNat < n → 0 ≤ n_ ∧ n_ ≤ lc → (∀ p, 0 ≤ p → p < W * D_ → hc' p = hc p + (if Pr p = true ∧ cz Pr p < n_ then step else 0)) → TT p l e rmBA_countListed s m args below meth c D vwCl A 3 False Q 2 [(0, .ref (a 14)), (1, .int (iZ step)), (2, .int (iZ n_))] [] (cW cI cZ a W D_ r sz co ro ho ac al sd lf sq hs rs ts rt_ hc' li re ow tc cp ck wa qp qt qs lo sb lc cn ch sk) 0 0 := by
  intro n
  induction n with
  | zero => intro n_ hc' hn; omega
  | succ n ih =>
    intro n_ hc' hn h_ I
    obtain ⟨⟨hW1, hW2, hD1, hD2, hr1, hr2⟩, hGp, hGs, hGk, hGx, hGi, hGm, hGq⟩ := id hG
    have hWD := wd_b hW1 hW2 hD1 hD2
    have hPL := pl_b hW1 hW2 hD1 hD2 hr1 hr2
    have hSQ := sd_b hr1 hr2
    have hlb := lsts_b (by omega) hl
    refine tt_iload_n F 2 rfl rfl dBA_countListed_2 ?_
    refine tt_aload_n F 0 rfl rfl dBA_countListed_3 ?_
    refine tt_get F inBA 14 rfl rfl 7 (by decide) we206 rfl dBA_countListed_4 ?_
    refine tt_icmp_ge F 31 ⟨by omega, by omega⟩ ⟨by omega, by omega⟩ dBA_countListed_7 (by decide) (fun c7 => ?_) (fun c7 => ?_)
    · skip
      refine tt_sub [0, 1, 2] rfl ?_
      refine k n_ hc' (fun p h1 h2 => ?_)
      have h3 := I p h1 h2
      by_cases e : Pr p = true
      · have h4 := cz_lt h1 h2 e
        have h5 := hl.1
        rw [if_pos ⟨e, by omega⟩] at h3
        rw [if_pos e]; exact h3
      · rw [if_neg (fun q => e q.1)] at h3
        rw [if_neg e]; exact h3
    · skip
      have hg := lsts_get (by omega) hl h_.1 (show n_ < lc by omega)
      refine tt_aload_n F 0 rfl rfl dBA_countListed_10 ?_
      refine tt_get F inBA 14 rfl rfl 5 (by decide) we200 rfl dBA_countListed_11 ?_
      refine tt_aload_n F 0 rfl rfl dBA_countListed_14 ?_
      refine tt_get F inBA 14 rfl rfl 6 (by decide) we203 rfl dBA_countListed_15 ?_
      refine tt_iload_n F 2 rfl rfl dBA_countListed_18 ?_
      refine tt_iald F 17 rfl (by omega) (by omega) (by omega) dBA_countListed_19 ?_
      refine tt_name (fun pt hpt => ?_)
      refine tt_dup2 F rfl rfl dBA_countListed_20 ?_
      refine tt_iald F 16 rfl (by omega) (by omega) (by omega) dBA_countListed_21 ?_
      refine tt_name (fun old hold => ?_)
      refine tt_iload_n F 1 rfl rfl dBA_countListed_22 ?_
      refine tt_iadd F dBA_countListed_23 ?_
      refine tt_iast F (fun h => h) 16 rfl (by omega) (by omega) (by omega) dBA_countListed_24 ?_
      refine tt_iinc F 2 [(2, .int (iZ (n_ + 1))), (0, .ref (a 14)), (1, .int (iZ step))] rfl (by decide) rfl dBA_countListed_25 ?_
      refine tt_goto F 2 (by decide) dBA_countListed_28 ?_
      refine tt_sub [1, 2, 0] rfl ?_
      refine ih (n_ + 1) (zu hc' pt (old + step)) (by omega) (by omega) (fun p h1 h2 => ?_)
      have h3 := I p h1 h2
      rw [← hpt] at hg
      by_cases e : p = pt
      · subst e
        rw [zu_s, hold, h3, if_neg (fun q => by have := q.2; omega), if_pos ⟨hg.2.2.1, by omega⟩]; omega
      · rw [zu_n _ _ e, h3]
        by_cases e2 : Pr p = true ∧ cz Pr p < n_
        · rw [if_pos e2, if_pos ⟨e2.1, by omega⟩]
        · rw [if_neg e2, if_neg (fun q => e2 ⟨q.1, by have h4 : cz Pr p ≠ n_ := fun h5 => e (cz_inj h1 hg.1 q.1 hg.2.2.1 (by omega)); have := q.2; omega⟩)]
set_option maxHeartbeats 4000000 in
set_option maxRecDepth 100000 in
theorem c_countListed {step : Int} {Pr : Int → Bool} (hG : GE W D_ r sz co ro ho ac al sd lf sq) (hl : lsts Pr (W * D_) li lc) : CV l D vwCl cI cZ cJ SL yBA_countListed wsBA_countListed rmBA_countListed [.ref (a 14), .int (iZ step)] (cW cI cZ a W D_ r sz co ro ho ac al sd lf sq hs rs ts rt_ hc li re ow tc cp ck wa qp qt qs lo sb lc cn ch sk) (fun w1 => ∃ hc' : Int → Int, w1 = (cW cI cZ a W D_ r sz co ro ho ac al sd lf sq hs rs ts rt_ hc' li re ow tc cp ck wa qp qt qs lo sb lc cn ch sk) ∧ ∀ p, 0 ≤ p → p < W * D_ → hc' p = hc p + (if Pr p = true then step else 0)) := by
  refine tt_startV (by decide) rfl (Nat.le_of_ble_eq_true rfl) ?_
  intro p e s m args below meth c hnm F
  obtain ⟨⟨hW1, hW2, hD1, hD2, hr1, hr2⟩, hGp, hGs, hGk, hGx, hGi, hGm, hGq⟩ := id hG
  have hWD := wd_b hW1 hW2 hD1 hD2
  have hPL := pl_b hW1 hW2 hD1 hD2 hr1 hr2
  have hSQ := sd_b hr1 hr2
  have hlb := lsts_b (by omega) hl
  refine tt_iconst F dBA_countListed_0 ?_
  refine tt_istore_n F [(2, .int (iZ 0)), (0, .ref (a 14)), (1, .int (iZ step))] rfl (by decide) rfl dBA_countListed_1 ?_
  refine tt_sub [1, 2, 0] rfl ?_
  refine countListed_loop (hc := hc) F hG hl (fun n_ hc' I => ?_) (lc.toNat + 1) 0 hc (by omega) (by omega) (fun p h1 h2 => by rw [if_neg (fun q => by have := (cz_b Pr h1).1; have := q.2; omega)]; omega)
  exact tt_vret F rfl (Nat.le_of_ble_eq_true rfl) (Nat.le_of_ble_eq_true rfl) dBA_countListed_31 ⟨hc', rfl, I⟩
abbrev rmBA_leave : Room := { frames := 1, cells := 0, slots := 0, locals := 41 }
theorem leave_one {W N r x y R T O own old : Int} {ts hc : Int → Int} (h : PLv W N r x y ts R T O) (hT : T = 1) (hO : O ≠ -1) (hold : old = hc own) (hown : own = O) : ∀ p, 0 ≤ p → p < N → zu hc own (old - 1) p = hc p - bi (tch W r x y ts R p) := by
  intro p h1 h2
  obtain ⟨q1, q2, q3, q4⟩ := (PLv_T h).2 hO
  have h4 := h.2.2.2.1
  have k1 : tch W r x y ts R O = true := tch_t.mpr q3
  subst hown
  by_cases e : p = own
  · rw [e, zu_s, hold, bi_t k1]
  · rw [zu_n _ _ e]
    have k2 : tch W r x y ts R p = false := by
      cases hp : tch W r x y ts R p with
      | false => rfl
      | true =>
        by_cases c : p < own
        · have a1 := cz_lt h1 c hp
          have a2 := cz_lt q1 q2 k1
          have a3 := cz_b (tch W r x y ts R) h1
          omega
        · have a1 := cz_lt q1 (show own < p by omega) k1
          have a2 := cz_lt h1 h2 hp
          have a3 := cz_b (tch W r x y ts R) q1
          omega
    rw [bi_f k2]; omega
theorem cl_same {W N r x y R z c : Int} {ts li : Int → Int} (I : clI W r x y R N ts N z c li) (hm : ∀ p, 0 ≤ p → p < N → rch W r x y ts p ≤ R) : z = R := by
  obtain ⟨h1, h2, h3, h4⟩ := I
  rcases h2 with q | ⟨p, q1, q2, q3⟩
  · exact q
  · have := hm p q1 q2; omega
theorem leave_many {W N r x y R T O rest z c : Int} {ts li hc : Int → Int} (h : PLv W N r x y ts R T O) (I : clI W r x y rest N ts N z c li) (hr : rest = R) (hu : True) : ∀ p, 0 ≤ p → p < N → hc p + (if (fun p => decide (rch W r x y ts p = z)) p = true then (-1) else 0) = hc p - bi (tch W r x y ts R p) := by
  intro p h1 h2
  subst hr
  have hz := cl_same I h.2.2.1
  subst hz
  show hc p + (if decide (rch W r x y ts p = z) = true then (-1) else 0) = hc p - bi (decide (rch W r x y ts p = z))
  cases decide (rch W r x y ts p = z) with
  | false => rw [if_neg (by decide), bi_f rfl]; omega
  | true => rw [if_pos rfl, bi_t rfl]; omega
set_option maxHeartbeats 4000000 in
set_option maxRecDepth 100000 in
theorem c_leave {x y P0 : Int} (hG : GE W D_ r sz co ro ho ac al sd lf sq) (hts : ∀ p, 0 ≤ p → p < W * D_ → 0 ≤ ts p ∧ ts p ≤ 262144000) (hrt : ∀ i j, 0 ≤ i → i < W → 0 ≤ j → j < D_ → ts (j * W + i) ≤ rt_ j ∧ rt_ j ≤ 262144000) (hx : -r ≤ x ∧ x < W + r) (hy : -r ≤ y ∧ y < D_ + r) (hP0 : P0 = ((y + r) * (W + 2 * r) + (x + r))) (hpl : PLv W (W * D_) r x y ts (re P0) (tc P0) (ow P0)) : CV l D vwCl cI cZ cJ SL yBA_leave wsBA_leave rmBA_leave [.ref (a 14), .int (iZ P0), .int (iZ x), .int (iZ y)] (cW cI cZ a W D_ r sz co ro ho ac al sd lf sq hs rs ts rt_ hc li re ow tc cp ck wa qp qt qs lo sb lc cn ch sk) (fun w1 => ∃ (hc' li' : Int → Int) (lc' : Int), w1 = (cW cI cZ a W D_ r sz co ro ho ac al sd lf sq hs rs ts rt_ hc' li' re ow (zu tc P0 0) cp ck wa qp qt qs lo sb lc' cn ch sk) ∧ ∀ p, 0 ≤ p → p < W * D_ → hc' p = hc p - bi (tch W r x y ts (re P0) p)) := by
  refine tt_startV (by decide) rfl (Nat.le_of_ble_eq_true rfl) ?_
  intro p e s m args below meth c hnm F
  obtain ⟨⟨hW1, hW2, hD1, hD2, hr1, hr2⟩, hGp, hGs, hGk, hGx, hGi, hGm, hGq⟩ := id hG
  have hWD := wd_b hW1 hW2 hD1 hD2
  have hPL := pl_b hW1 hW2 hD1 hD2 hr1 hr2
  have hSQ := sd_b hr1 hr2
  have hpi := pl_in (W := W) (D_ := D_) (r := r) hx.1 hx.2 hy.1 hy.2
  rw [← hP0] at hpi
  have hb := PLv_b hr1 hr2 (by omega) hpl (fun p h1 h2 => (hts p h1 h2).2)
  have hT := PLv_T hpl
  have h4 := hpl.2.2.2.1
  refine tt_aload_n F 0 rfl rfl dBA_leave_0 ?_
  refine tt_get F inBA 14 rfl rfl 4 (by decide) we198 rfl dBA_leave_1 ?_
  refine tt_iload_n F 1 rfl rfl dBA_leave_4 ?_
  refine tt_iald F 19 rfl (by omega) (by omega) (by omega) dBA_leave_5 ?_
  refine tt_name (fun own hown => ?_)
  have hob : own = -1 ∨ (0 ≤ own ∧ own < W * D_) := by rw [hown]; exact (hpl.2.2.2.2).elim (fun q => Or.inl q.1) (fun q => Or.inr ⟨q.1, q.2.1⟩)
  refine tt_istore F [(4, .int (iZ own)), (0, .ref (a 14)), (1, .int (iZ P0)), (2, .int (iZ x)), (3, .int (iZ y))] (by decide) rfl dBA_leave_6 ?_
  refine tt_iload F 0 rfl dBA_leave_8 ?_
  refine tt_iconst F dBA_leave_10 ?_
  refine tt_icmp_ne F 15 ⟨by omega, by omega⟩ ⟨by omega, by omega⟩ dBA_leave_11 (by decide) (fun c11 => ?_) (fun c11 => ?_)
  · skip
    refine tt_aload_n F 1 rfl rfl dBA_leave_15 ?_
    refine tt_get F inBA 14 rfl rfl 11 (by decide) we212 rfl dBA_leave_16 ?_
    refine tt_iload_n F 2 rfl rfl dBA_leave_19 ?_
    refine tt_iald F 20 rfl (by omega) (by omega) (by omega) dBA_leave_20 ?_
    refine tt_name (fun tcv htcv => ?_)
    refine tt_iconst F dBA_leave_21 ?_
    refine tt_icmp_ne F 39 ⟨by omega, by omega⟩ ⟨by omega, by omega⟩ dBA_leave_22 (by decide) (fun c22 => ?_) (fun c22 => ?_)
    · skip
      refine tt_aload_n F 1 rfl rfl dBA_leave_39 ?_
      refine tt_aload_n F 1 rfl rfl dBA_leave_40 ?_
      refine tt_get F inBA 14 rfl rfl 8 (by decide) we209 rfl dBA_leave_41 ?_
      refine tt_get F inHO 1 rfl rfl 7 (by decide) we105 rfl dBA_leave_44 ?_
      refine tt_iload_n F 3 rfl rfl dBA_leave_47 ?_
      refine tt_iload_n F 4 rfl rfl dBA_leave_48 ?_
      refine tt_aload_n F 1 rfl rfl dBA_leave_49 ?_
      refine tt_get F inBA 14 rfl rfl 2 (by decide) we193 rfl dBA_leave_50 ?_
      refine tt_iload_n F 2 rfl rfl dBA_leave_53 ?_
      refine tt_iald F 18 rfl (by omega) (by omega) (by omega) dBA_leave_54 ?_
      refine tt_name (fun rest hrest => ?_)
      refine tt_cIV0 F (fun h => h) (As := [.ref (a 6), .int (iZ x), .int (iZ y), .int (iZ rest)]) 14 rfl rfl (c_climb (hs := hs) (rs := rs) (ts := ts) (rt_ := rt_) (hc := hc) (li := li) (re := re) (ow := ow) (tc := tc) (cp := cp) (ck := ck) (wa := wa) (qp := qp) (qt := qt) (qs := qs) (lo := lo) (sb := sb) (lc := lc) (cn := cn) (ch := ch) (sk := sk) (q0 := 6) (b := a 6) (tq := ts) (x := x) (y := y) (at_ := rest) hG (fun _ _ => rfl) (fun p h1 h2 => ⟨(hts p h1 h2).1, Int.le_refl _, (hts p h1 h2).2⟩) hrt (by omega) (by omega) (by omega)) (cwV 4 F.1.2.2.2.2 (gw_V wd456 wd384 wd385 wd48 wd386) rfl rfl rfl (by decide +kernel) ⟨(Nat.le_of_ble_eq_true rfl), (Nat.le_of_ble_eq_true rfl)⟩) rfl rfl rfl (Nat.le_of_ble_eq_true rfl) ⟨(Nat.le_of_ble_eq_true rfl), (Nat.le_of_ble_eq_true rfl)⟩ dBA_leave_55 (fun z55 w1 hp => ?_)
      obtain ⟨li55, lc55, rfl, I55⟩ := hp
      refine tt_pop F rfl dBA_leave_58 ?_
      refine tt_aload_n F 1 rfl rfl dBA_leave_59 ?_
      refine tt_iconst F dBA_leave_60 ?_
      refine tt_cVV0 F (fun h => h) (As := [.int (iZ (-1))]) 14 rfl rfl (c_countListed (hs := hs) (rs := rs) (ts := ts) (rt_ := rt_) (hc := hc) (li := li55) (re := re) (ow := ow) (tc := tc) (cp := cp) (ck := ck) (wa := wa) (qp := qp) (qt := qt) (qs := qs) (lo := lo) (sb := sb) (lc := lc55) (cn := cn) (ch := ch) (sk := sk) (step := (-1)) hG I55.2.2.2) (cwV 1 F.1.2.2.2.2 (gw_V wd457 wd459 wd22 wd48 wd460) rfl rfl rfl (by decide +kernel) ⟨(Nat.le_of_ble_eq_true rfl), (Nat.le_of_ble_eq_true rfl)⟩) rfl rfl rfl (Nat.le_of_ble_eq_true rfl) ⟨(Nat.le_of_ble_eq_true rfl), (Nat.le_of_ble_eq_true rfl)⟩ dBA_leave_61 (fun w1 hp => ?_)
      obtain ⟨hc61, rfl, Ih61⟩ := hp
      refine tt_aload_n F 1 rfl rfl dBA_leave_64 ?_
      refine tt_get F inBA 14 rfl rfl 11 (by decide) we212 rfl dBA_leave_65 ?_
      refine tt_iload_n F 2 rfl rfl dBA_leave_68 ?_
      refine tt_iconst F dBA_leave_69 ?_
      refine tt_iast F (fun h => h) 20 rfl (by omega) (by omega) (by omega) dBA_leave_70 ?_
      exact tt_vret F rfl (Nat.le_of_ble_eq_true rfl) (Nat.le_of_ble_eq_true rfl) dBA_leave_71 ⟨_, _, _, rfl, fun p h1 h2 => by rw [Ih61 p h1 h2]; exact leave_many hpl I55 (by omega) trivial p h1 h2⟩
    · skip
      refine tt_aload_n F 1 rfl rfl dBA_leave_25 ?_
      refine tt_get F inBA 14 rfl rfl 5 (by decide) we200 rfl dBA_leave_26 ?_
      refine tt_iload F 0 rfl dBA_leave_29 ?_
      refine tt_dup2 F rfl rfl dBA_leave_31 ?_
      refine tt_iald F 16 rfl (by omega) (by omega) (by omega) dBA_leave_32 ?_
      refine tt_name (fun old hold => ?_)
      refine tt_iconst F dBA_leave_33 ?_
      refine tt_isub F dBA_leave_34 ?_
      refine tt_iast F (fun h => h) 16 rfl (by omega) (by omega) (by omega) dBA_leave_35 ?_
      refine tt_goto F 64 (by decide) dBA_leave_36 ?_
      refine tt_aload_n F 1 rfl rfl dBA_leave_64 ?_
      refine tt_get F inBA 14 rfl rfl 11 (by decide) we212 rfl dBA_leave_65 ?_
      refine tt_iload_n F 2 rfl rfl dBA_leave_68 ?_
      refine tt_iconst F dBA_leave_69 ?_
      refine tt_iast F (fun h => h) 20 rfl (by omega) (by omega) (by omega) dBA_leave_70 ?_
      exact tt_vret F rfl (Nat.le_of_ble_eq_true rfl) (Nat.le_of_ble_eq_true rfl) dBA_leave_71 ⟨_, _, _, rfl, fun p h1 h2 => leave_one hpl (by omega) (by omega) hold hown p h1 h2⟩
  · skip
    exact tt_vret F rfl (Nat.le_of_ble_eq_true rfl) (Nat.le_of_ble_eq_true rfl) dBA_leave_14 ⟨hc, li, lc, by rw [zu_id (hT.1 (by omega))], fun p h1 h2 => by rw [bi_f (cz_none (by rw [← h4]; exact hT.1 (by omega)) p h1 h2)]; omega⟩
end CL
