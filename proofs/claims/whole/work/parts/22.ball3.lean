section CL
variable {p : Program} {l : Launch} {e : Env} {s : State} {m : MethodId} {args : Array Value} {below : List Frame} {meth : Method} {c : Code} {Q : State → Prop} {D : va_G} {cI cZ cJ : ClassId} {SL : List zS} {A : Nat → Prop} {a : Nat → Nat} {W D_ r sz : Int} {co ro ho ac al sd lf sq : Int → Int} {hs rs ts rt_ hc li re ow tc cp ck wa qp qt qs lo sb : Int → Int} {lc cn ch sk : Int}
abbrev rmBA_settle : Room := { frames := 1, cells := 0, slots := 0, locals := 41 }
theorem settle_c (h d : Int) (b : Bool) : h + (if b = true then 1 else 0) = h + bi b - d + d := by
  cases b with
  | false => rw [if_neg (by decide), bi_f rfl]; omega
  | true => rw [if_pos rfl, bi_t rfl]; omega
theorem settle_up {W N r x y R T O p0 v z c : Int} {to li : Int → Int} (hN : 0 ≤ N) (h : PLv W N r x y to R T O) (hp0 : 0 ≤ p0) (hp1 : p0 < N) (ht : rch W r x y to p0 = R) (hv : v < to p0) (hT : 1 < T) (I : clI W r x y R N (zu to p0 v) N z c li) :
    z = R ∧ PLv W N r x y (zu to p0 v) R c (if 0 < c then li 0 else -1) ∧ ∀ p, 0 ≤ p → p < N → bi (tch W r x y (zu to p0 v) R p) - bi (tch W r x y to R p) + bi (decide (p = p0)) = 0 := by
  have hlow : rch W r x y (zu to p0 v) p0 < R := by rw [rch_zs]; rw [rch] at ht; omega
  have hm : ∀ p, 0 ≤ p → p < N → rch W r x y (zu to p0 v) p ≤ R := fun p a b => by
    by_cases e : p = p0
    · subst e; omega
    · rw [rch_zu e]; exact h.2.2.1 p a b
  have hz := cl_same I hm
  subst hz
  have key : ∀ p, 0 ≤ p → p < N → bi (tch W r x y (zu to p0 v) z p) = bi (tch W r x y to z p) - bi (decide (p = p0)) := fun p a b => by
    by_cases e : p = p0
    · subst e
      rw [bi_f (tch_f.mpr (by omega)), bi_t (tch_t.mpr ht)]; simp [bi]
    · simp only [tch, rch_zu e]; simp [bi, e]
  have hc : c = T - 1 := by
    have e1 := I.2.2.2.1
    have e2 := h.2.2.2.1
    have e3 := cz_up (P := tch W r x y to z) (Q := tch W r x y (zu to p0 v) z) (z := N) hp0 hp1 (fun q _ _ e => by simp only [tch, rch_zu e])
    rw [bi_f (tch_f.mpr (by omega)), bi_t (tch_t.mpr ht)] at e3
    have e4 : (fun p => decide (rch W r x y (zu to p0 v) p = z)) = tch W r x y (zu to p0 v) z := rfl
    rw [e4] at e1
    omega
  refine ⟨rfl, PLv_cl hN I h.1 (Or.inr (Or.inr (by omega))), fun p a b => by rw [key p a b]; omega⟩
theorem settle_dn {W N r x y R T O p0 v z c : Int} {to li : Int → Int} (hN : 0 ≤ N) (h : PLv W N r x y to R T O) (hp0 : 0 ≤ p0) (hp1 : p0 < N) (ht : rch W r x y to p0 = R) (hT : T ≤ 1) (I : clI W r x y (r * 1048576) N (zu to p0 v) N z c li) :
    PLv W N r x y (zu to p0 v) z c (if 0 < c then li 0 else -1) ∧ ∀ p, 0 ≤ p → p < N → bi (tch W r x y to R p) = bi (decide (p = p0)) := by
  refine ⟨PLv_cl hN I (Int.le_refl _) (Or.inl rfl), fun p a b => ?_⟩
  have e2 := h.2.2.2.1
  by_cases e : p = p0
  · subst e
    rw [bi_t (tch_t.mpr ht)]; simp [bi]
  · have k2 : tch W r x y to R p = false := by
      have k1 : tch W r x y to R p0 = true := tch_t.mpr ht
      cases hp : tch W r x y to R p with
      | false => rfl
      | true =>
        by_cases c : p < p0
        · have a1 := cz_lt a c hp
          have a2 := cz_lt hp0 hp1 k1
          have a3 := cz_b (tch W r x y to R) a
          omega
        · have a1 := cz_lt hp0 (show p0 < p by omega) k1
          have a2 := cz_lt a b hp
          have a3 := cz_b (tch W r x y to R) hp0
          omega
    rw [k2]; simp [bi, e]
set_option maxHeartbeats 4000000 in
set_option maxRecDepth 100000 in
theorem c_settle {x y P0 p0 v : Int} {to : Int → Int} (hG : GE W D_ r sz co ro ho ac al sd lf sq) (hts : ∀ p, 0 ≤ p → p < W * D_ → 0 ≤ ts p ∧ ts p ≤ 262144000) (hrt : ∀ i j, 0 ≤ i → i < W → 0 ≤ j → j < D_ → ts (j * W + i) ≤ rt_ j ∧ rt_ j ≤ 262144000) (hx : -r ≤ x ∧ x < W + r) (hy : -r ≤ y ∧ y < D_ + r) (hP0 : P0 = ((y + r) * (W + 2 * r) + (x + r))) (hpl : PLv W (W * D_) r x y to (re P0) (tc P0) (ow P0)) (hto : ts = zu to p0 v) (hv : v < to p0) (hp0 : 0 ≤ p0 ∧ p0 < W * D_) (ht0 : rch W r x y to p0 = re P0) (htb : ∀ p, 0 ≤ p → p < W * D_ → to p ≤ 262144000) : CV l D vwCl cI cZ cJ SL yBA_settle wsBA_settle rmBA_settle [.ref (a 14), .int (iZ P0), .int (iZ x), .int (iZ y)] (cW cI cZ a W D_ r sz co ro ho ac al sd lf sq hs rs ts rt_ hc li re ow tc cp ck wa qp qt qs lo sb lc cn ch sk) (fun w1 => ∃ (hc' li' : Int → Int) (lc' R T O : Int), w1 = (cW cI cZ a W D_ r sz co ro ho ac al sd lf sq hs rs ts rt_ hc' li' (zu re P0 R) (zu ow P0 O) (zu tc P0 T) cp ck wa qp qt qs lo sb lc' cn ch sk) ∧ PLv W (W * D_) r x y ts R T O ∧ ∀ p, 0 ≤ p → p < W * D_ → hc' p = hc p + bi (tch W r x y ts R p) - bi (tch W r x y to (re P0) p) + bi (decide (p = p0))) := by
  refine tt_startV (by decide) rfl (Nat.le_of_ble_eq_true rfl) ?_
  intro p e s m args below meth c hnm F
  obtain ⟨⟨hW1, hW2, hD1, hD2, hr1, hr2⟩, hGp, hGs, hGk, hGx, hGi, hGm, hGq⟩ := id hG
  have hWD := wd_b hW1 hW2 hD1 hD2
  have hPL := pl_b hW1 hW2 hD1 hD2 hr1 hr2
  have hSQ := sd_b hr1 hr2
  have hpi := pl_in (W := W) (D_ := D_) (r := r) hx.1 hx.2 hy.1 hy.2
  rw [← hP0] at hpi
  have hb := PLv_b hr1 hr2 (by omega) hpl htb
  refine tt_aload_n F 0 rfl rfl dBA_settle_0 ?_
  refine tt_get F inBA 14 rfl rfl 11 (by decide) we212 rfl dBA_settle_1 ?_
  refine tt_iload_n F 1 rfl rfl dBA_settle_4 ?_
  refine tt_iald F 20 rfl (by omega) (by omega) (by omega) dBA_settle_5 ?_
  refine tt_name (fun tcv htcv => ?_)
  refine tt_iconst F dBA_settle_6 ?_
  refine tt_icmp_le F 33 ⟨by omega, by omega⟩ ⟨by omega, by omega⟩ dBA_settle_7 (by decide) (fun c7 => ?_) (fun c7 => ?_)
  · skip
    refine tt_aload_n F 0 rfl rfl dBA_settle_33 ?_
    refine tt_get F inBA 14 rfl rfl 2 (by decide) we193 rfl dBA_settle_34 ?_
    refine tt_iload_n F 1 rfl rfl dBA_settle_37 ?_
    refine tt_aload_n F 0 rfl rfl dBA_settle_38 ?_
    refine tt_aload_n F 0 rfl rfl dBA_settle_39 ?_
    refine tt_get F inBA 14 rfl rfl 8 (by decide) we209 rfl dBA_settle_40 ?_
    refine tt_get F inHO 1 rfl rfl 7 (by decide) we105 rfl dBA_settle_43 ?_
    refine tt_iload_n F 2 rfl rfl dBA_settle_46 ?_
    refine tt_iload_n F 3 rfl rfl dBA_settle_47 ?_
    refine tt_aload_n F 0 rfl rfl dBA_settle_48 ?_
    refine tt_get F inBA 14 rfl rfl 3 (by decide) we195 rfl dBA_settle_49 ?_
    refine tt_cIV0 F (fun h => h) (As := [.ref (a 6), .int (iZ x), .int (iZ y), .int (iZ (r * 1048576))]) 14 rfl rfl (c_climb (hs := hs) (rs := rs) (ts := ts) (rt_ := rt_) (hc := hc) (li := li) (re := re) (ow := ow) (tc := tc) (cp := cp) (ck := ck) (wa := wa) (qp := qp) (qt := qt) (qs := qs) (lo := lo) (sb := sb) (lc := lc) (cn := cn) (ch := ch) (sk := sk) (q0 := 6) (b := a 6) (tq := ts) (x := x) (y := y) (at_ := r * 1048576) hG (fun _ _ => rfl) (fun p h1 h2 => ⟨(hts p h1 h2).1, Int.le_refl _, (hts p h1 h2).2⟩) hrt (by omega) (by omega) (by omega)) (cwV 4 F.1.2.2.2.2 (gw_V wd456 wd384 wd385 wd48 wd386) rfl rfl rfl (by decide +kernel) ⟨(Nat.le_of_ble_eq_true rfl), (Nat.le_of_ble_eq_true rfl)⟩) rfl rfl rfl (Nat.le_of_ble_eq_true rfl) ⟨(Nat.le_of_ble_eq_true rfl), (Nat.le_of_ble_eq_true rfl)⟩ dBA_settle_52 (fun z52 w1 hp => ?_)
    obtain ⟨li52, lc52, rfl, I52⟩ := hp
    refine tt_iast F (fun h => h) 18 rfl (by omega) (by omega) (by omega) dBA_settle_55 ?_
    refine tt_aload_n F 0 rfl rfl dBA_settle_56 ?_
    refine tt_iconst F dBA_settle_57 ?_
    refine tt_cVV0 F (fun h => h) (As := [.int (iZ 1)]) 14 rfl rfl (c_countListed (hs := hs) (rs := rs) (ts := ts) (rt_ := rt_) (hc := hc) (li := li52) (re := zu re P0 z52) (ow := ow) (tc := tc) (cp := cp) (ck := ck) (wa := wa) (qp := qp) (qt := qt) (qs := qs) (lo := lo) (sb := sb) (lc := lc52) (cn := cn) (ch := ch) (sk := sk) (step := 1) hG I52.2.2.2) (cwV 1 F.1.2.2.2.2 (gw_V wd457 wd459 wd22 wd48 wd460) rfl rfl rfl (by decide +kernel) ⟨(Nat.le_of_ble_eq_true rfl), (Nat.le_of_ble_eq_true rfl)⟩) rfl rfl rfl (Nat.le_of_ble_eq_true rfl) ⟨(Nat.le_of_ble_eq_true rfl), (Nat.le_of_ble_eq_true rfl)⟩ dBA_settle_58 (fun w1 hp => ?_)
    obtain ⟨hc58, rfl, Ih58⟩ := hp
    rw [hto] at I52
    have hU := settle_dn (by omega) hpl hp0.1 hp0.2 ht0 (by omega) I52
    have hlb := lsts_b (by omega) I52.2.2.2
    refine tt_aload_n F 0 rfl rfl dBA_settle_61 ?_
    refine tt_get F inBA 14 rfl rfl 11 (by decide) we212 rfl dBA_settle_62 ?_
    refine tt_iload_n F 1 rfl rfl dBA_settle_65 ?_
    refine tt_aload_n F 0 rfl rfl dBA_settle_66 ?_
    refine tt_get F inBA 14 rfl rfl 7 (by decide) we206 rfl dBA_settle_67 ?_
    refine tt_iast F (fun h => h) 20 rfl (by omega) (by omega) (by omega) dBA_settle_70 ?_
    refine tt_aload_n F 0 rfl rfl dBA_settle_71 ?_
    refine tt_get F inBA 14 rfl rfl 4 (by decide) we198 rfl dBA_settle_72 ?_
    refine tt_iload_n F 1 rfl rfl dBA_settle_75 ?_
    refine tt_join (pc' := 93) (lv' := [(0, .ref (a 14)), (1, .int (iZ P0)), (2, .int (iZ x)), (3, .int (iZ y))]) (st' := [.int (iZ P0), .ref (a 19)]) (fun v => (0 < lc52 ∧ v = li52 0) ∨ (lc52 ≤ 0 ∧ v = -1)) (fun own hown => ?_) (fun J76 => ?_)
    · skip
      have hown2 : own = if 0 < lc52 then li52 0 else -1 := by split <;> omega
      refine tt_iast F (fun h => h) 19 rfl (by omega) (by omega) (by omega) dBA_settle_93 ?_
      exact tt_vret F rfl (Nat.le_of_ble_eq_true rfl) (Nat.le_of_ble_eq_true rfl) dBA_settle_94 ⟨hc58, li52, lc52, z52, lc52, own, rfl, by rw [hown2, hto]; exact hU.1, fun p h1 h2 => by rw [Ih58 p h1 h2, hU.2 p h1 h2, hto]; exact settle_c _ _ _⟩
    · skip
      refine tt_aload_n F 0 rfl rfl dBA_settle_76 ?_
      refine tt_get F inBA 14 rfl rfl 7 (by decide) we206 rfl dBA_settle_77 ?_
      refine tt_if_le F 92 ⟨by omega, by omega⟩ dBA_settle_80 (by decide) (fun c80 => ?_) (fun c80 => ?_)
      · skip
        refine tt_iconst F dBA_settle_92 ?_
        exact J76 _ (by omega)
      · skip
        refine tt_aload_n F 0 rfl rfl dBA_settle_83 ?_
        refine tt_get F inBA 14 rfl rfl 6 (by decide) we203 rfl dBA_settle_84 ?_
        refine tt_iconst F dBA_settle_87 ?_
        refine tt_iald F 17 rfl (by omega) (by omega) (by omega) dBA_settle_88 ?_
        refine tt_name (fun l0 hl0 => ?_)
        refine tt_goto F 93 (by decide) dBA_settle_89 ?_
        exact J76 _ (by omega)
  · skip
    refine tt_aload_n F 0 rfl rfl dBA_settle_10 ?_
    refine tt_aload_n F 0 rfl rfl dBA_settle_11 ?_
    refine tt_get F inBA 14 rfl rfl 8 (by decide) we209 rfl dBA_settle_12 ?_
    refine tt_get F inHO 1 rfl rfl 7 (by decide) we105 rfl dBA_settle_15 ?_
    refine tt_iload_n F 2 rfl rfl dBA_settle_18 ?_
    refine tt_iload_n F 3 rfl rfl dBA_settle_19 ?_
    refine tt_aload_n F 0 rfl rfl dBA_settle_20 ?_
    refine tt_get F inBA 14 rfl rfl 2 (by decide) we193 rfl dBA_settle_21 ?_
    refine tt_iload_n F 1 rfl rfl dBA_settle_24 ?_
    refine tt_iald F 18 rfl (by omega) (by omega) (by omega) dBA_settle_25 ?_
    refine tt_name (fun rest hrest => ?_)
    refine tt_cIV0 F (fun h => h) (As := [.ref (a 6), .int (iZ x), .int (iZ y), .int (iZ rest)]) 14 rfl rfl (c_climb (hs := hs) (rs := rs) (ts := ts) (rt_ := rt_) (hc := hc) (li := li) (re := re) (ow := ow) (tc := tc) (cp := cp) (ck := ck) (wa := wa) (qp := qp) (qt := qt) (qs := qs) (lo := lo) (sb := sb) (lc := lc) (cn := cn) (ch := ch) (sk := sk) (q0 := 6) (b := a 6) (tq := ts) (x := x) (y := y) (at_ := rest) hG (fun _ _ => rfl) (fun p h1 h2 => ⟨(hts p h1 h2).1, Int.le_refl _, (hts p h1 h2).2⟩) hrt (by omega) (by omega) (by omega)) (cwV 4 F.1.2.2.2.2 (gw_V wd456 wd384 wd385 wd48 wd386) rfl rfl rfl (by decide +kernel) ⟨(Nat.le_of_ble_eq_true rfl), (Nat.le_of_ble_eq_true rfl)⟩) rfl rfl rfl (Nat.le_of_ble_eq_true rfl) ⟨(Nat.le_of_ble_eq_true rfl), (Nat.le_of_ble_eq_true rfl)⟩ dBA_settle_26 (fun z26 w1 hp => ?_)
    obtain ⟨li26, lc26, rfl, I26⟩ := hp
    refine tt_pop F rfl dBA_settle_29 ?_
    refine tt_goto F 61 (by decide) dBA_settle_30 ?_
    rw [hto, hrest] at I26
    have hU := settle_up (by omega) hpl hp0.1 hp0.2 ht0 hv (by omega) I26
    have hlb := lsts_b (by omega) I26.2.2.2
    refine tt_aload_n F 0 rfl rfl dBA_settle_61 ?_
    refine tt_get F inBA 14 rfl rfl 11 (by decide) we212 rfl dBA_settle_62 ?_
    refine tt_iload_n F 1 rfl rfl dBA_settle_65 ?_
    refine tt_aload_n F 0 rfl rfl dBA_settle_66 ?_
    refine tt_get F inBA 14 rfl rfl 7 (by decide) we206 rfl dBA_settle_67 ?_
    refine tt_iast F (fun h => h) 20 rfl (by omega) (by omega) (by omega) dBA_settle_70 ?_
    refine tt_aload_n F 0 rfl rfl dBA_settle_71 ?_
    refine tt_get F inBA 14 rfl rfl 4 (by decide) we198 rfl dBA_settle_72 ?_
    refine tt_iload_n F 1 rfl rfl dBA_settle_75 ?_
    refine tt_join (pc' := 93) (lv' := [(0, .ref (a 14)), (1, .int (iZ P0)), (2, .int (iZ x)), (3, .int (iZ y))]) (st' := [.int (iZ P0), .ref (a 19)]) (fun v => (0 < lc26 ∧ v = li26 0) ∨ (lc26 ≤ 0 ∧ v = -1)) (fun own hown => ?_) (fun J76 => ?_)
    · skip
      have hown2 : own = if 0 < lc26 then li26 0 else -1 := by split <;> omega
      refine tt_iast F (fun h => h) 19 rfl (by omega) (by omega) (by omega) dBA_settle_93 ?_
      exact tt_vret F rfl (Nat.le_of_ble_eq_true rfl) (Nat.le_of_ble_eq_true rfl) dBA_settle_94 ⟨hc, li26, lc26, re P0, lc26, own, by rw [zu_id rfl]; rfl, by rw [hown2, hto]; exact hU.2.1, fun p h1 h2 => by have := hU.2.2 p h1 h2; rw [hto]; omega⟩
    · skip
      refine tt_aload_n F 0 rfl rfl dBA_settle_76 ?_
      refine tt_get F inBA 14 rfl rfl 7 (by decide) we206 rfl dBA_settle_77 ?_
      refine tt_if_le F 92 ⟨by omega, by omega⟩ dBA_settle_80 (by decide) (fun c80 => ?_) (fun c80 => ?_)
      · skip
        refine tt_iconst F dBA_settle_92 ?_
        exact J76 _ (by omega)
      · skip
        refine tt_aload_n F 0 rfl rfl dBA_settle_83 ?_
        refine tt_get F inBA 14 rfl rfl 6 (by decide) we203 rfl dBA_settle_84 ?_
        refine tt_iconst F dBA_settle_87 ?_
        refine tt_iald F 17 rfl (by omega) (by omega) (by omega) dBA_settle_88 ?_
        refine tt_name (fun l0 hl0 => ?_)
        refine tt_goto F 93 (by decide) dBA_settle_89 ?_
        exact J76 _ (by omega)
abbrev rmBA_raiseTip : Room := { frames := 2, cells := 0, slots := 0, locals := 65 }
set_option maxHeartbeats 4000000 in
set_option maxRecDepth 100000 in
theorem raise_loop {p0 v : Int} (F : FX p s m args meth c cBA_raiseTip 9 none wsBA_raiseTip RBA D vwCl cI cZ cJ SL A) (hG : GE W D_ r sz co ro ho ac al sd lf sq) (hts : ∀ p, 0 ≤ p → p < W * D_ → 0 ≤ ts p ∧ ts p ≤ 262144000) (hrt : ∀ i j, 0 ≤ i → i < W → 0 ≤ j → j < D_ → ts (j * W + i) ≤ rt_ j ∧ rt_ j ≤ 262144000) (hp0 : 0 ≤ p0 ∧ p0 < W * D_) (hv : ts p0 < v ∧ v ≤ 262144000)
    (k : ∀ (i : Int) (hc li re ow tc : Int → Int) (lc : Int) (tm : Int → Int → Int), BI W D_ r (zu ts p0 v) re tc ow hc → TT p l e rmBA_raiseTip s m args below meth c D vwCl A 9 False Q 189 [(0, .ref (a 14)), (1, .int (iZ p0)), (2, .int (iZ v)), (3, .ref (a 11)), (4, .ref (a 12)), (5, .int (iZ (ho p0))), (6, .int (iZ i))] [] (cW cI cZ a W D_ r sz co ro ho ac al sd lf sq hs rs ts rt_ hc li re ow tc cp ck wa qp qt qs lo sb lc cn ch sk) 0 0) :
    ∀ (n : Nat) (i : Int) (hc li re ow tc : Int → Int) (lc : Int) (tm : Int → Int → Int), (sz - i).toNat < n → 0 ≤ i ∧ i ≤ sz → RIv W D_ r ho sd p0 ts (zu ts p0 v) i tm re tc ow hc → TT p l e rmBA_raiseTip s m args below meth c D vwCl A 9 False Q 28 [(0, .ref (a 14)), (1, .int (iZ p0)), (2, .int (iZ v)), (3, .ref (a 11)), (4, .ref (a 12)), (5, .int (iZ (ho p0))), (6, .int (iZ i))] [] (cW cI cZ a W D_ r sz co ro ho ac al sd lf sq hs rs ts rt_ hc li re ow tc cp ck wa qp qt qs lo sb lc cn ch sk) 0 0 := by
  intro n
  induction n with
  | zero => intro i hc li re ow tc lc tm hn; omega
  | succ n ih =>
    intro i hc li re ow tc lc tm hn hi I
    obtain ⟨⟨hW1, hW2, hD1, hD2, hr1, hr2⟩, hGp, hGs, hGk, hGx, hGi, hGm, hGq⟩ := id hG
    have hWD := wd_b hW1 hW2 hD1 hD2
    have hPL := pl_b hW1 hW2 hD1 hD2 hr1 hr2
    have hSQ := sd_b hr1 hr2
    have hpt := hts p0 hp0.1 hp0.2
    have hgp := ge_p hG hp0.1 hp0.2
    refine tt_iload F 6 rfl dBA_raiseTip_28 ?_
    refine tt_aload_n F 0 rfl rfl dBA_raiseTip_30 ?_
    refine tt_get F inBA 14 rfl rfl 0 (by decide) we189 rfl dBA_raiseTip_31 ?_
    refine tt_get F inSH 8 rfl rfl 0 (by decide) we149 rfl dBA_raiseTip_34 ?_
    refine tt_icmp_ge F 189 ⟨by omega, by omega⟩ ⟨by omega, by omega⟩ dBA_raiseTip_37 (by decide) (fun c37 => ?_) (fun c37 => ?_)
    · skip
      refine tt_sub [0, 1, 2, 3, 4, 5, 6] rfl ?_
      exact k i hc li re ow tc lc tm (RIv_end hG hp0.1 hp0.2 (by omega) hv.1 hv.2 I (by omega))
    · skip
      have hgk := ge_k hG hp0.1 hp0.2 hi.1 (show i < sz by omega)
      have hat := RIv_at hG hp0.1 hp0.2 hi.1 (show i < sz by omega) I
      have hb := PLv_b hr1 hr2 (by omega) hat.2 (fun p h1 h2 => (hts p h1 h2).2)
      refine tt_iload_n F 2 rfl rfl dBA_raiseTip_40 ?_
      refine tt_aload F 4 rfl dBA_raiseTip_41 ?_
      refine tt_iload F 6 rfl dBA_raiseTip_43 ?_
      refine tt_iald F 12 rfl (by omega) (by omega) (by omega) dBA_raiseTip_45 ?_
      refine tt_name (fun l1 hl1 => ?_)
      refine tt_iadd F dBA_raiseTip_46 ?_
      refine tt_aload_n F 0 rfl rfl dBA_raiseTip_47 ?_
      refine tt_get F inBA 14 rfl rfl 3 (by decide) we195 rfl dBA_raiseTip_48 ?_
      refine tt_icmp_lt F 189 ⟨by omega, by omega⟩ ⟨by omega, by omega⟩ dBA_raiseTip_51 (by decide) (fun c51 => ?_) (fun c51 => ?_)
      · skip
        refine tt_sub [0, 1, 2, 3, 4, 5, 6] rfl ?_
        exact k i hc li re ow tc lc tm (RIv_end hG hp0.1 hp0.2 (by omega) hv.1 hv.2 I (by omega))
      · skip
        refine tt_iload F 5 rfl dBA_raiseTip_54 ?_
        refine tt_aload_n F 3 rfl rfl dBA_raiseTip_56 ?_
        refine tt_iload F 6 rfl dBA_raiseTip_57 ?_
        refine tt_iald F 11 rfl (by omega) (by omega) (by omega) dBA_raiseTip_59 ?_
        refine tt_name (fun s1 hs1 => ?_)
        refine tt_iadd F dBA_raiseTip_60 ?_
        refine tt_name (fun P0 hP0 => ?_)
        have hP0' : P0 = ho p0 + sd i := by rw [hP0, hs1]
        rw [← hP0'] at hb hgk
        refine tt_istore F [(7, .int (iZ P0)), (0, .ref (a 14)), (1, .int (iZ p0)), (2, .int (iZ v)), (3, .ref (a 11)), (4, .ref (a 12)), (5, .int (iZ (ho p0))), (6, .int (iZ i))] (by decide) rfl dBA_raiseTip_61 ?_
        refine tt_iload_n F 3 rfl rfl dBA_raiseTip_63 ?_
        refine tt_aload F 5 rfl dBA_raiseTip_64 ?_
        refine tt_iload F 7 rfl dBA_raiseTip_66 ?_
        refine tt_iald F 12 rfl (by omega) (by omega) (by omega) dBA_raiseTip_68 ?_
        refine tt_name (fun l2 hl2 => ?_)
        refine tt_iadd F dBA_raiseTip_69 ?_
        refine tt_name (fun lev hlev => ?_)
        refine tt_istore F [(8, .int (iZ lev)), (7, .int (iZ P0)), (0, .ref (a 14)), (1, .int (iZ p0)), (2, .int (iZ v)), (3, .ref (a 11)), (4, .ref (a 12)), (5, .int (iZ (ho p0))), (6, .int (iZ i))] (by decide) rfl dBA_raiseTip_70 ?_
        refine tt_iload F 0 rfl dBA_raiseTip_72 ?_
        refine tt_aload_n F 2 rfl rfl dBA_raiseTip_74 ?_
        refine tt_get F inBA 14 rfl rfl 2 (by decide) we193 rfl dBA_raiseTip_75 ?_
        refine tt_iload F 1 rfl dBA_raiseTip_78 ?_
        refine tt_iald F 18 rfl (by omega) (by omega) (by omega) dBA_raiseTip_80 ?_
        refine tt_name (fun r1 hr1 => ?_)
        refine tt_icmp_ge F 87 ⟨by omega, by omega⟩ ⟨by omega, by omega⟩ dBA_raiseTip_81 (by decide) (fun c81 => ?_) (fun c81 => ?_)
        · skip
          refine tt_iload F 0 rfl dBA_raiseTip_87 ?_
          refine tt_aload_n F 2 rfl rfl dBA_raiseTip_89 ?_
          refine tt_get F inBA 14 rfl rfl 2 (by decide) we193 rfl dBA_raiseTip_90 ?_
          refine tt_iload F 1 rfl dBA_raiseTip_93 ?_
          refine tt_iald F 18 rfl (by omega) (by omega) (by omega) dBA_raiseTip_95 ?_
          refine tt_name (fun r2 hr2 => ?_)
          refine tt_icmp_le F 154 ⟨by omega, by omega⟩ ⟨by omega, by omega⟩ dBA_raiseTip_96 (by decide) (fun c96 => ?_) (fun c96 => ?_)
          · skip
            refine tt_aload_n F 2 rfl rfl dBA_raiseTip_154 ?_
            refine tt_get F inBA 14 rfl rfl 4 (by decide) we198 rfl dBA_raiseTip_155 ?_
            refine tt_iload F 1 rfl dBA_raiseTip_158 ?_
            refine tt_iload_n F 3 rfl rfl dBA_raiseTip_160 ?_
            refine tt_iast F (fun h => h) 19 rfl (by omega) (by omega) (by omega) dBA_raiseTip_161 ?_
            refine tt_aload_n F 2 rfl rfl dBA_raiseTip_162 ?_
            refine tt_get F inBA 14 rfl rfl 11 (by decide) we212 rfl dBA_raiseTip_163 ?_
            refine tt_iload F 1 rfl dBA_raiseTip_166 ?_
            refine tt_dup2 F rfl rfl dBA_raiseTip_168 ?_
            refine tt_iald F 20 rfl (by omega) (by omega) (by omega) dBA_raiseTip_169 ?_
            refine tt_name (fun t1 ht1 => ?_)
            refine tt_iconst F dBA_raiseTip_170 ?_
            refine tt_iadd F dBA_raiseTip_171 ?_
            refine tt_iast F (fun h => h) 20 rfl (by omega) (by omega) (by omega) dBA_raiseTip_172 ?_
            refine tt_aload_n F 2 rfl rfl dBA_raiseTip_173 ?_
            refine tt_get F inBA 14 rfl rfl 5 (by decide) we200 rfl dBA_raiseTip_174 ?_
            refine tt_iload_n F 3 rfl rfl dBA_raiseTip_177 ?_
            refine tt_dup2 F rfl rfl dBA_raiseTip_178 ?_
            refine tt_iald F 16 rfl (by omega) (by omega) (by omega) dBA_raiseTip_179 ?_
            refine tt_name (fun h1 hh1 => ?_)
            refine tt_iconst F dBA_raiseTip_180 ?_
            refine tt_iadd F dBA_raiseTip_181 ?_
            refine tt_iast F (fun h => h) 16 rfl (by omega) (by omega) (by omega) dBA_raiseTip_182 ?_
            refine tt_iinc F 8 [(6, .int (iZ (i + 1))), (8, .int (iZ lev)), (7, .int (iZ P0)), (0, .ref (a 14)), (1, .int (iZ p0)), (2, .int (iZ v)), (3, .ref (a 11)), (4, .ref (a 12)), (5, .int (iZ (ho p0)))] rfl (by decide) rfl dBA_raiseTip_183 ?_
            refine tt_goto F 28 (by decide) dBA_raiseTip_186 ?_
            refine tt_sub [3, 4, 5, 6, 7, 8, 0] rfl ?_
            exact ih (i + 1) (zu hc p0 (h1 + 1)) li re (zu ow P0 p0) (zu tc P0 (t1 + 1)) lc (zu tm P0 (zu ts p0 v)) (by omega) (by omega) (by rw [ht1, hh1, hP0']; exact RIv_eq hG hp0.1 hp0.2 hi.1 (by omega) hv.1 I (by rw [← hP0']; omega))
          · skip
            refine tt_aload_n F 2 rfl rfl dBA_raiseTip_99 ?_
            refine tt_iload F 1 rfl dBA_raiseTip_100 ?_
            refine tt_aload_n F 2 rfl rfl dBA_raiseTip_102 ?_
            refine tt_get F inBA 14 rfl rfl 8 (by decide) we209 rfl dBA_raiseTip_103 ?_
            refine tt_get F inHO 1 rfl rfl 3 (by decide) we93 rfl dBA_raiseTip_106 ?_
            refine tt_iload_n F 3 rfl rfl dBA_raiseTip_109 ?_
            refine tt_iald F 2 rfl (by omega) (by omega) (by omega) dBA_raiseTip_110 ?_
            refine tt_name (fun c1 hc1 => ?_)
            refine tt_aload_n F 2 rfl rfl dBA_raiseTip_111 ?_
            refine tt_get F inBA 14 rfl rfl 0 (by decide) we189 rfl dBA_raiseTip_112 ?_
            refine tt_get F inSH 8 rfl rfl 1 (by decide) we152 rfl dBA_raiseTip_115 ?_
            refine tt_iload F 8 rfl dBA_raiseTip_118 ?_
            refine tt_iald F 9 rfl (by omega) (by omega) (by omega) dBA_raiseTip_120 ?_
            refine tt_name (fun a1 ha1 => ?_)
            refine tt_iadd F dBA_raiseTip_121 ?_
            refine tt_aload_n F 2 rfl rfl dBA_raiseTip_122 ?_
            refine tt_get F inBA 14 rfl rfl 8 (by decide) we209 rfl dBA_raiseTip_123 ?_
            refine tt_get F inHO 1 rfl rfl 4 (by decide) we97 rfl dBA_raiseTip_126 ?_
            refine tt_iload_n F 3 rfl rfl dBA_raiseTip_129 ?_
            refine tt_iald F 3 rfl (by omega) (by omega) (by omega) dBA_raiseTip_130 ?_
            refine tt_name (fun c2 hc2 => ?_)
            refine tt_aload_n F 2 rfl rfl dBA_raiseTip_131 ?_
            refine tt_get F inBA 14 rfl rfl 0 (by decide) we189 rfl dBA_raiseTip_132 ?_
            refine tt_get F inSH 8 rfl rfl 2 (by decide) we155 rfl dBA_raiseTip_135 ?_
            refine tt_iload F 8 rfl dBA_raiseTip_138 ?_
            refine tt_iald F 10 rfl (by omega) (by omega) (by omega) dBA_raiseTip_140 ?_
            refine tt_name (fun a2 ha2 => ?_)
            refine tt_iadd F dBA_raiseTip_141 ?_
            refine tt_cVV0 F (fun h => h) (As := [.int (iZ P0), .int (iZ (c1 + a1)), .int (iZ (c2 + a2))]) 14 rfl rfl (c_leave (hs := hs) (rs := rs) (ts := ts) (rt_ := rt_) (hc := hc) (li := li) (re := re) (ow := ow) (tc := tc) (cp := cp) (ck := ck) (wa := wa) (qp := qp) (qt := qt) (qs := qs) (lo := lo) (sb := sb) (lc := lc) (cn := cn) (ch := ch) (sk := sk) (P0 := P0) (x := c1 + a1) (y := c2 + a2) hG hts hrt (by rw [hc1, ha1]; exact hgk.2.1) (by rw [hc2, ha2]; exact hgk.2.2.1) (by rw [hc1, ha1, hc2, ha2]; exact hgk.1) (by rw [hP0', hc1, ha1, hc2, ha2]; exact hat.2)) (cwV 3 F.1.2.2.2.2 (gw_V wd452 wd454 wd21 wd48 wd455) rfl rfl rfl (by decide +kernel) ⟨(Nat.le_of_ble_eq_true rfl), (Nat.le_of_ble_eq_true rfl)⟩) rfl rfl rfl (Nat.le_of_ble_eq_true rfl) ⟨(Nat.le_of_ble_eq_true rfl), (Nat.le_of_ble_eq_true rfl)⟩ dBA_raiseTip_142 (fun w1 hp => ?_)
            obtain ⟨hc142, li142, lc142, rfl, Ih142⟩ := hp
            refine tt_aload_n F 2 rfl rfl dBA_raiseTip_145 ?_
            refine tt_get F inBA 14 rfl rfl 2 (by decide) we193 rfl dBA_raiseTip_146 ?_
            refine tt_iload F 1 rfl dBA_raiseTip_149 ?_
            refine tt_iload F 0 rfl dBA_raiseTip_151 ?_
            refine tt_iast F (fun h => h) 18 rfl (by omega) (by omega) (by omega) dBA_raiseTip_153 ?_
            refine tt_aload_n F 2 rfl rfl dBA_raiseTip_154 ?_
            refine tt_get F inBA 14 rfl rfl 4 (by decide) we198 rfl dBA_raiseTip_155 ?_
            refine tt_iload F 1 rfl dBA_raiseTip_158 ?_
            refine tt_iload_n F 3 rfl rfl dBA_raiseTip_160 ?_
            refine tt_iast F (fun h => h) 19 rfl (by omega) (by omega) (by omega) dBA_raiseTip_161 ?_
            refine tt_aload_n F 2 rfl rfl dBA_raiseTip_162 ?_
            refine tt_get F inBA 14 rfl rfl 11 (by decide) we212 rfl dBA_raiseTip_163 ?_
            refine tt_iload F 1 rfl dBA_raiseTip_166 ?_
            refine tt_dup2 F rfl rfl dBA_raiseTip_168 ?_
            refine tt_iald F 20 rfl (by omega) (by omega) (by omega) dBA_raiseTip_169 ?_
            refine tt_name (fun t1 ht1 => ?_)
            refine tt_iconst F dBA_raiseTip_170 ?_
            refine tt_iadd F dBA_raiseTip_171 ?_
            refine tt_iast F (fun h => h) 20 rfl (by omega) (by omega) (by omega) dBA_raiseTip_172 ?_
            refine tt_aload_n F 2 rfl rfl dBA_raiseTip_173 ?_
            refine tt_get F inBA 14 rfl rfl 5 (by decide) we200 rfl dBA_raiseTip_174 ?_
            refine tt_iload_n F 3 rfl rfl dBA_raiseTip_177 ?_
            refine tt_dup2 F rfl rfl dBA_raiseTip_178 ?_
            refine tt_iald F 16 rfl (by omega) (by omega) (by omega) dBA_raiseTip_179 ?_
            refine tt_name (fun h1 hh1 => ?_)
            refine tt_iconst F dBA_raiseTip_180 ?_
            refine tt_iadd F dBA_raiseTip_181 ?_
            refine tt_iast F (fun h => h) 16 rfl (by omega) (by omega) (by omega) dBA_raiseTip_182 ?_
            refine tt_iinc F 8 [(6, .int (iZ (i + 1))), (8, .int (iZ lev)), (7, .int (iZ P0)), (0, .ref (a 14)), (1, .int (iZ p0)), (2, .int (iZ v)), (3, .ref (a 11)), (4, .ref (a 12)), (5, .int (iZ (ho p0)))] rfl (by decide) rfl dBA_raiseTip_183 ?_
            refine tt_goto F 28 (by decide) dBA_raiseTip_186 ?_
            refine tt_sub [3, 4, 5, 6, 7, 8, 0] rfl ?_
            exact ih (i + 1) (zu hc142 p0 (h1 + 1)) li142 (zu re P0 lev) (zu ow P0 p0) (zu (zu tc P0 0) P0 (t1 + 1)) lc142 (zu tm P0 (zu ts p0 v)) (by omega) (by omega) (by have hR := RIv_gt hG hp0.1 hp0.2 hi.1 (show i < sz by omega) I (lev := lev) (hc' := hc142) (by omega) (by rw [← hP0']; omega) (fun p h1 h2 => by have h3 := Ih142 p h1 h2; rw [hc1, ha1, hc2, ha2, hP0'] at h3; exact h3); rw [ht1, hh1, zu_s, zu_zu, hP0']; exact hR)
        · skip
          refine tt_goto F 183 (by decide) dBA_raiseTip_84 ?_
          refine tt_iinc F 8 [(6, .int (iZ (i + 1))), (8, .int (iZ lev)), (7, .int (iZ P0)), (0, .ref (a 14)), (1, .int (iZ p0)), (2, .int (iZ v)), (3, .ref (a 11)), (4, .ref (a 12)), (5, .int (iZ (ho p0)))] rfl (by decide) rfl dBA_raiseTip_183 ?_
          refine tt_goto F 28 (by decide) dBA_raiseTip_186 ?_
          refine tt_sub [3, 4, 5, 6, 7, 8, 0] rfl ?_
          exact ih (i + 1) hc li re ow tc lc (zu tm P0 (zu ts p0 v)) (by omega) (by omega) (by rw [hP0']; exact RIv_lt hG hp0.1 hp0.2 hi.1 (by omega) hv.1 I (by rw [← hP0']; omega))
theorem top_ok {W D_ r sz : Int} {co ro ho ac al sd lf sq ts rt_ : Int → Int} (hG : GE W D_ r sz co ro ho ac al sd lf sq) {q t top : Int} (hq : 0 ≤ q ∧ q < W * D_) (hrt : ∀ i j, 0 ≤ i → i < W → 0 ≤ j → j < D_ → ts (j * W + i) ≤ rt_ j ∧ rt_ j ≤ 262144000) (h1 : 0 ≤ top ∧ top ≤ 262144000) (h2 : ∀ p, ro q * W ≤ p → p < ro q * W + W → zu ts q t p ≤ top) :
    ∀ i j, 0 ≤ i → i < W → 0 ≤ j → j < D_ → (zu ts q t) (j * W + i) ≤ zu rt_ (ro q) top j ∧ zu rt_ (ro q) top j ≤ 262144000 := by
  intro i j i0 i1 j0 j1
  by_cases e : j = ro q
  · rw [e, zu_s]
    exact ⟨h2 _ (by omega) (by omega), h1.2⟩
  · rw [zu_n _ _ e, zu_n _ _ (fun z => e (by
      have a := ge_p hG hq.1 hq.2
      have b := a.2.2.2.2.2.2.2
      exact (ix_inj i0 i1 a.2.2.2.1 a.2.2.2.2.1 (z.trans b)).2))]
    exact hrt i j i0 i1 j0 j1
set_option maxHeartbeats 4000000 in
set_option maxRecDepth 100000 in
theorem c_raiseTip {p0 v : Int} (hG : GE W D_ r sz co ro ho ac al sd lf sq) (hts : ∀ p, 0 ≤ p → p < W * D_ → 0 ≤ ts p ∧ ts p ≤ 262144000) (hrt : ∀ i j, 0 ≤ i → i < W → 0 ≤ j → j < D_ → ts (j * W + i) ≤ rt_ j ∧ rt_ j ≤ 262144000) (hp0 : 0 ≤ p0 ∧ p0 < W * D_) (hv : ts p0 < v ∧ v ≤ 262144000) (hB : BI W D_ r ts re tc ow hc) : CV l D vwCl cI cZ cJ SL yBA_raiseTip wsBA_raiseTip rmBA_raiseTip [.ref (a 14), .int (iZ p0), .int (iZ v)] (cW cI cZ a W D_ r sz co ro ho ac al sd lf sq hs rs ts rt_ hc li re ow tc cp ck wa qp qt qs lo sb lc cn ch sk) (fun w1 => ∃ (rt' hc' li' re' ow' tc' : Int → Int) (lc' : Int), w1 = (cW cI cZ a W D_ r sz co ro ho ac al sd lf sq hs rs (zu ts p0 v) rt' hc' li' re' ow' tc' cp ck wa qp qt qs lo sb lc' cn ch sk) ∧ BI W D_ r (zu ts p0 v) re' tc' ow' hc' ∧ ∀ i j, 0 ≤ i → i < W → 0 ≤ j → j < D_ → (zu ts p0 v) (j * W + i) ≤ rt' j ∧ rt' j ≤ 262144000) := by
  refine tt_startV (by decide) rfl (Nat.le_of_ble_eq_true rfl) ?_
  intro p e s m args below meth c hnm F
  obtain ⟨⟨hW1, hW2, hD1, hD2, hr1, hr2⟩, hGp, hGs, hGk, hGx, hGi, hGm, hGq⟩ := id hG
  have hWD := wd_b hW1 hW2 hD1 hD2
  have hPL := pl_b hW1 hW2 hD1 hD2 hr1 hr2
  have hSQ := sd_b hr1 hr2
  have hpt := hts p0 hp0.1 hp0.2
  refine tt_aload_n F 0 rfl rfl dBA_raiseTip_0 ?_
  refine tt_get F inBA 14 rfl rfl 0 (by decide) we189 rfl dBA_raiseTip_1 ?_
  refine tt_get F inSH 8 rfl rfl 3 (by decide) we158 rfl dBA_raiseTip_4 ?_
  refine tt_astore_n F [(3, .ref (a 11)), (0, .ref (a 14)), (1, .int (iZ p0)), (2, .int (iZ v))] rfl (by decide) rfl dBA_raiseTip_7 ?_
  refine tt_aload_n F 1 rfl rfl dBA_raiseTip_8 ?_
  refine tt_get F inBA 14 rfl rfl 0 (by decide) we189 rfl dBA_raiseTip_9 ?_
  refine tt_get F inSH 8 rfl rfl 4 (by decide) we161 rfl dBA_raiseTip_12 ?_
  refine tt_astore F [(4, .ref (a 12)), (3, .ref (a 11)), (0, .ref (a 14)), (1, .int (iZ p0)), (2, .int (iZ v))] (by decide) rfl dBA_raiseTip_15 ?_
  refine tt_aload_n F 2 rfl rfl dBA_raiseTip_17 ?_
  refine tt_get F inBA 14 rfl rfl 1 (by decide) we191 rfl dBA_raiseTip_18 ?_
  refine tt_iload_n F 3 rfl rfl dBA_raiseTip_21 ?_
  refine tt_iald F 15 rfl (by omega) (by omega) (by omega) dBA_raiseTip_22 ?_
  refine tt_name (fun home hhome => ?_)
  refine tt_istore F [(5, .int (iZ home)), (4, .ref (a 12)), (3, .ref (a 11)), (0, .ref (a 14)), (1, .int (iZ p0)), (2, .int (iZ v))] (by decide) rfl dBA_raiseTip_23 ?_
  refine tt_iconst F dBA_raiseTip_25 ?_
  refine tt_istore F [(6, .int (iZ 0)), (5, .int (iZ home)), (4, .ref (a 12)), (3, .ref (a 11)), (0, .ref (a 14)), (1, .int (iZ p0)), (2, .int (iZ v))] (by decide) rfl dBA_raiseTip_26 ?_
  refine tt_sub [4, 5, 6, 3, 2, 1, 0] rfl ?_
  rw [hhome]
  refine raise_loop F hG hts hrt hp0 hv (fun i hc li re ow tc lc tm hB2 => ?_) (sz.toNat + 1) 0 hc li re ow tc lc (fun _ => ts) (by omega) (by omega) (RIv_0 hB)
  refine tt_aload_n F 0 rfl rfl dBA_raiseTip_189 ?_
  refine tt_get F inBA 14 rfl rfl 8 (by decide) we209 rfl dBA_raiseTip_190 ?_
  refine tt_iload_n F 1 rfl rfl dBA_raiseTip_193 ?_
  refine tt_iload_n F 2 rfl rfl dBA_raiseTip_194 ?_
  refine tt_cVV0 F (fun h => h) (As := [.int (iZ p0), .int (iZ v)]) 1 rfl rfl (c_setTip (hs := hs) (rs := rs) (ts := ts) (rt_ := rt_) (hc := hc) (li := li) (re := re) (ow := ow) (tc := tc) (cp := cp) (ck := ck) (wa := wa) (qp := qp) (qt := qt) (qs := qs) (lo := lo) (sb := sb) (lc := lc) (cn := cn) (ch := ch) (sk := sk) (q := p0) (t := v) hG (by omega) (by omega) hts) (cwV 2 F.1.2.2.2.2 (gw_V wd461 wd462 wd463 wd47 wd464) rfl rfl rfl (by decide +kernel) ⟨(Nat.le_of_ble_eq_true rfl), (Nat.le_of_ble_eq_true rfl)⟩) rfl rfl rfl (Nat.le_of_ble_eq_true rfl) ⟨(Nat.le_of_ble_eq_true rfl), (Nat.le_of_ble_eq_true rfl)⟩ dBA_raiseTip_195 (fun w1 hp => ?_)
  obtain ⟨top195, rfl, hto195, Ito195⟩ := hp
  exact tt_vret F rfl (Nat.le_of_ble_eq_true rfl) (Nat.le_of_ble_eq_true rfl) dBA_raiseTip_198 ⟨_, _, _, _, _, _, _, rfl, hB2, top_ok hG hp0 hrt hto195 Ito195⟩
abbrev rmBA_lowerTip : Room := { frames := 2, cells := 0, slots := 0, locals := 64 }
set_option maxHeartbeats 4000000 in
set_option maxRecDepth 100000 in
theorem lower_loop {p0 v : Int} {to : Int → Int} (F : FX p s m args meth c cBA_lowerTip 10 none wsBA_lowerTip RBA D vwCl cI cZ cJ SL A) (hG : GE W D_ r sz co ro ho ac al sd lf sq) (hts : ∀ p, 0 ≤ p → p < W * D_ → 0 ≤ ts p ∧ ts p ≤ 262144000) (hrt : ∀ i j, 0 ≤ i → i < W → 0 ≤ j → j < D_ → ts (j * W + i) ≤ rt_ j ∧ rt_ j ≤ 262144000) (hto : ts = zu to p0 v) (hv : v < to p0) (htb : ∀ p, 0 ≤ p → p < W * D_ → 0 ≤ to p ∧ to p ≤ 262144000) (hp0 : 0 ≤ p0 ∧ p0 < W * D_)
    (k : ∀ (i tou : Int) (hc li re ow tc : Int → Int) (lc : Int) (vis : Int → Bool), BI W D_ r ts re tc ow hc → TT p l e rmBA_lowerTip s m args below meth c D vwCl A 10 False Q 165 [(0, .ref (a 14)), (1, .int (iZ p0)), (3, .ref (a 11)), (4, .ref (a 12)), (5, .int (iZ (to p0))), (6, .int (iZ (ho p0))), (7, .int (iZ tou)), (8, .int (iZ i))] [] (cW cI cZ a W D_ r sz co ro ho ac al sd lf sq hs rs ts rt_ hc li re ow tc cp ck wa qp qt qs lo sb lc cn ch sk) 0 0) :
    ∀ (n : Nat) (i tou : Int) (hc li re ow tc : Int → Int) (lc : Int) (vis : Int → Bool), (sz - i).toNat < n → 0 ≤ i ∧ i ≤ sz → LIv W D_ r ho sd p0 to ts i tou vis re tc ow hc → TT p l e rmBA_lowerTip s m args below meth c D vwCl A 10 False Q 56 [(0, .ref (a 14)), (1, .int (iZ p0)), (3, .ref (a 11)), (4, .ref (a 12)), (5, .int (iZ (to p0))), (6, .int (iZ (ho p0))), (7, .int (iZ tou)), (8, .int (iZ i))] [] (cW cI cZ a W D_ r sz co ro ho ac al sd lf sq hs rs ts rt_ hc li re ow tc cp ck wa qp qt qs lo sb lc cn ch sk) 0 0 := by
  intro n
  induction n with
  | zero => intro i tou hc li re ow tc lc vis hn; omega
  | succ n ih =>
    intro i tou hc li re ow tc lc vis hn hi I
    obtain ⟨⟨hW1, hW2, hD1, hD2, hr1, hr2⟩, hGp, hGs, hGk, hGx, hGi, hGm, hGq⟩ := id hG
    have hWD := wd_b hW1 hW2 hD1 hD2
    have hPL := pl_b hW1 hW2 hD1 hD2 hr1 hr2
    have hSQ := sd_b hr1 hr2
    have hpt := htb p0 hp0.1 hp0.2
    have hgp := ge_p hG hp0.1 hp0.2
    have htou := cz_b (fun P => !vis P && tch W r (plx W r P) (ply W r P) to (re P) p0) (z := (W + 2 * r) * (D_ + 2 * r)) (by omega)
    rw [← I.2.1] at htou
    refine tt_iload F 7 rfl dBA_lowerTip_56 ?_
    refine tt_aload_n F 0 rfl rfl dBA_lowerTip_58 ?_
    refine tt_get F inBA 14 rfl rfl 0 (by decide) we189 rfl dBA_lowerTip_59 ?_
    refine tt_get F inSH 8 rfl rfl 0 (by decide) we149 rfl dBA_lowerTip_62 ?_
    refine tt_icmp_ge F 165 ⟨by omega, by omega⟩ ⟨by omega, by omega⟩ dBA_lowerTip_65 (by decide) (fun c65 => ?_) (fun c65 => ?_)
    · skip
      refine tt_sub [0, 1, 2, 3, 4, 5, 6, 7] rfl ?_
      exact k i tou hc li re ow tc lc vis (by rw [hto] at I ⊢; exact LIv_end hG hp0.1 hp0.2 hv I (by omega) hpt.2)
    · skip
      have hgk := ge_k hG hp0.1 hp0.2 hi.1 (show i < sz by omega)
      have hat := LIv_at hG hp0.1 hp0.2 hi.1 (show i < sz by omega) I
      have hb := PLv_b hr1 hr2 (by omega) hat.2 (fun p h1 h2 => (htb p h1 h2).2)
      refine tt_iload F 6 rfl dBA_lowerTip_68 ?_
      refine tt_if_le F 165 ⟨by omega, by omega⟩ dBA_lowerTip_70 (by decide) (fun c70 => ?_) (fun c70 => ?_)
      · skip
        refine tt_sub [0, 1, 2, 3, 4, 5, 6, 7] rfl ?_
        exact k i tou hc li re ow tc lc vis (by rw [hto] at I ⊢; exact LIv_end hG hp0.1 hp0.2 hv I (by omega) hpt.2)
      · skip
        refine tt_iload F 5 rfl dBA_lowerTip_73 ?_
        refine tt_aload_n F 2 rfl rfl dBA_lowerTip_75 ?_
        refine tt_iload F 7 rfl dBA_lowerTip_76 ?_
        refine tt_iald F 11 rfl (by omega) (by omega) (by omega) dBA_lowerTip_78 ?_
        refine tt_name (fun s1 hs1 => ?_)
        refine tt_iadd F dBA_lowerTip_79 ?_
        refine tt_name (fun P0 hP0 => ?_)
        have hP0' : P0 = ho p0 + sd i := by rw [hP0, hs1]
        rw [← hP0'] at hb hgk
        refine tt_istore F [(9, .int (iZ P0)), (0, .ref (a 14)), (1, .int (iZ p0)), (3, .ref (a 11)), (4, .ref (a 12)), (5, .int (iZ (to p0))), (6, .int (iZ (ho p0))), (7, .int (iZ tou)), (8, .int (iZ i))] (by decide) rfl dBA_lowerTip_80 ?_
        refine tt_iload F 5 rfl dBA_lowerTip_82 ?_
        refine tt_aload F 4 rfl dBA_lowerTip_84 ?_
        refine tt_iload F 8 rfl dBA_lowerTip_86 ?_
        refine tt_iald F 12 rfl (by omega) (by omega) (by omega) dBA_lowerTip_88 ?_
        refine tt_name (fun l1 hl1 => ?_)
        refine tt_iadd F dBA_lowerTip_89 ?_
        refine tt_aload_n F 1 rfl rfl dBA_lowerTip_90 ?_
        refine tt_get F inBA 14 rfl rfl 2 (by decide) we193 rfl dBA_lowerTip_91 ?_
        refine tt_iload F 0 rfl dBA_lowerTip_94 ?_
        refine tt_iald F 18 rfl (by omega) (by omega) (by omega) dBA_lowerTip_96 ?_
        refine tt_name (fun r1 hr1 => ?_)
        refine tt_icmp_ne F 159 ⟨by omega, by omega⟩ ⟨by omega, by omega⟩ dBA_lowerTip_97 (by decide) (fun c97 => ?_) (fun c97 => ?_)
        · skip
          refine tt_iinc F 8 [(8, .int (iZ (i + 1))), (9, .int (iZ P0)), (0, .ref (a 14)), (1, .int (iZ p0)), (3, .ref (a 11)), (4, .ref (a 12)), (5, .int (iZ (to p0))), (6, .int (iZ (ho p0))), (7, .int (iZ tou))] rfl (by decide) rfl dBA_lowerTip_159 ?_
          refine tt_goto F 56 (by decide) dBA_lowerTip_162 ?_
          refine tt_sub [2, 3, 4, 5, 6, 7, 8, 0] rfl ?_
          exact ih (i + 1) tou hc li re ow tc lc vis (by omega) (by omega) (LIv_no hG hp0.1 hp0.2 hi.1 (by omega) I (by rw [← hP0']; omega))
        · skip
          refine tt_iinc F 7 [(7, .int (iZ (tou + (-1)))), (9, .int (iZ P0)), (0, .ref (a 14)), (1, .int (iZ p0)), (3, .ref (a 11)), (4, .ref (a 12)), (5, .int (iZ (to p0))), (6, .int (iZ (ho p0))), (8, .int (iZ i))] rfl (by decide) rfl dBA_lowerTip_100 ?_
          refine tt_aload_n F 2 rfl rfl dBA_lowerTip_103 ?_
          refine tt_get F inBA 14 rfl rfl 5 (by decide) we200 rfl dBA_lowerTip_104 ?_
          refine tt_iload_n F 3 rfl rfl dBA_lowerTip_107 ?_
          refine tt_dup2 F rfl rfl dBA_lowerTip_108 ?_
          refine tt_iald F 16 rfl (by omega) (by omega) (by omega) dBA_lowerTip_109 ?_
          refine tt_name (fun h1 hh1 => ?_)
          refine tt_iconst F dBA_lowerTip_110 ?_
          refine tt_isub F dBA_lowerTip_111 ?_
          refine tt_iast F (fun h => h) 16 rfl (by omega) (by omega) (by omega) dBA_lowerTip_112 ?_
          refine tt_aload_n F 2 rfl rfl dBA_lowerTip_113 ?_
          refine tt_iload F 1 rfl dBA_lowerTip_114 ?_
          refine tt_aload_n F 2 rfl rfl dBA_lowerTip_116 ?_
          refine tt_get F inBA 14 rfl rfl 8 (by decide) we209 rfl dBA_lowerTip_117 ?_
          refine tt_get F inHO 1 rfl rfl 3 (by decide) we93 rfl dBA_lowerTip_120 ?_
          refine tt_iload_n F 3 rfl rfl dBA_lowerTip_123 ?_
          refine tt_iald F 2 rfl (by omega) (by omega) (by omega) dBA_lowerTip_124 ?_
          refine tt_name (fun c1 hc1 => ?_)
          refine tt_aload_n F 2 rfl rfl dBA_lowerTip_125 ?_
          refine tt_get F inBA 14 rfl rfl 0 (by decide) we189 rfl dBA_lowerTip_126 ?_
          refine tt_get F inSH 8 rfl rfl 1 (by decide) we152 rfl dBA_lowerTip_129 ?_
          refine tt_iload F 8 rfl dBA_lowerTip_132 ?_
          refine tt_iald F 9 rfl (by omega) (by omega) (by omega) dBA_lowerTip_134 ?_
          refine tt_name (fun a1 ha1 => ?_)
          refine tt_iadd F dBA_lowerTip_135 ?_
          refine tt_aload_n F 2 rfl rfl dBA_lowerTip_136 ?_
          refine tt_get F inBA 14 rfl rfl 8 (by decide) we209 rfl dBA_lowerTip_137 ?_
          refine tt_get F inHO 1 rfl rfl 4 (by decide) we97 rfl dBA_lowerTip_140 ?_
          refine tt_iload_n F 3 rfl rfl dBA_lowerTip_143 ?_
          refine tt_iald F 3 rfl (by omega) (by omega) (by omega) dBA_lowerTip_144 ?_
          refine tt_name (fun c2 hc2 => ?_)
          refine tt_aload_n F 2 rfl rfl dBA_lowerTip_145 ?_
          refine tt_get F inBA 14 rfl rfl 0 (by decide) we189 rfl dBA_lowerTip_146 ?_
          refine tt_get F inSH 8 rfl rfl 2 (by decide) we155 rfl dBA_lowerTip_149 ?_
          refine tt_iload F 8 rfl dBA_lowerTip_152 ?_
          refine tt_iald F 10 rfl (by omega) (by omega) (by omega) dBA_lowerTip_154 ?_
          refine tt_name (fun a2 ha2 => ?_)
          refine tt_iadd F dBA_lowerTip_155 ?_
          refine tt_cVV0 F (fun h => h) (As := [.int (iZ P0), .int (iZ (c1 + a1)), .int (iZ (c2 + a2))]) 14 rfl rfl (c_settle (hs := hs) (rs := rs) (ts := ts) (rt_ := rt_) (hc := zu hc p0 (h1 - 1)) (li := li) (re := re) (ow := ow) (tc := tc) (cp := cp) (ck := ck) (wa := wa) (qp := qp) (qt := qt) (qs := qs) (lo := lo) (sb := sb) (lc := lc) (cn := cn) (ch := ch) (sk := sk) (P0 := P0) (x := c1 + a1) (y := c2 + a2) hG hts hrt (by rw [hc1, ha1]; exact hgk.2.1) (by rw [hc2, ha2]; exact hgk.2.2.1) (by rw [hc1, ha1, hc2, ha2]; exact hgk.1) (by rw [hP0', hc1, ha1, hc2, ha2]; exact hat.2) hto hv hp0 (by rw [hc1, ha1, hc2, ha2, hgk.2.2.2.2.2.2.2.2.2 to]; omega) (fun p h1 h2 => (htb p h1 h2).2)) (cwV 3 F.1.2.2.2.2 (gw_V wd470 wd472 wd24 wd48 wd473) rfl rfl rfl (by decide +kernel) ⟨(Nat.le_of_ble_eq_true rfl), (Nat.le_of_ble_eq_true rfl)⟩) rfl rfl rfl (Nat.le_of_ble_eq_true rfl) ⟨(Nat.le_of_ble_eq_true rfl), (Nat.le_of_ble_eq_true rfl)⟩ dBA_lowerTip_156 (fun w1 hp => ?_)
          obtain ⟨hc156, li156, lc156, R156, T156, O156, rfl, Ip156, Ih156⟩ := hp
          refine tt_iinc F 8 [(8, .int (iZ (i + 1))), (7, .int (iZ (tou + (-1)))), (9, .int (iZ P0)), (0, .ref (a 14)), (1, .int (iZ p0)), (3, .ref (a 11)), (4, .ref (a 12)), (5, .int (iZ (to p0))), (6, .int (iZ (ho p0)))] rfl (by decide) rfl dBA_lowerTip_159 ?_
          refine tt_goto F 56 (by decide) dBA_lowerTip_162 ?_
          refine tt_sub [3, 4, 5, 6, 7, 8, 1, 0] rfl ?_
          exact ih (i + 1) (tou + (-1)) hc156 li156 (zu re P0 R156) (zu ow P0 O156) (zu tc P0 T156) lc156 (zu vis P0 true) (by omega) (by omega) (by have hU := LIv_up hG hp0.1 hp0.2 hi.1 (show i < sz by omega) I (by rw [← hP0']; omega) (by rw [hc1, ha1, hc2, ha2] at Ip156; exact Ip156) (hc' := hc156) (fun p h1 h2 => by have h3 := Ih156 p h1 h2; rw [hc1, ha1, hc2, ha2, hP0'] at h3; rw [h3]; exact if e : p = p0 then (by subst e; rw [zu_s, hh1]; simp [bi]; omega) else (by rw [zu_n _ _ e]; simp [bi, e])); rw [hP0']; exact hU)
set_option maxHeartbeats 4000000 in
set_option maxRecDepth 100000 in
theorem c_lowerTip {p0 v : Int} (hG : GE W D_ r sz co ro ho ac al sd lf sq) (hts : ∀ p, 0 ≤ p → p < W * D_ → 0 ≤ ts p ∧ ts p ≤ 262144000) (hrt : ∀ i j, 0 ≤ i → i < W → 0 ≤ j → j < D_ → ts (j * W + i) ≤ rt_ j ∧ rt_ j ≤ 262144000) (hp0 : 0 ≤ p0 ∧ p0 < W * D_) (hv : v < ts p0 ∧ 0 ≤ v) (hB : BI W D_ r ts re tc ow hc) : CV l D vwCl cI cZ cJ SL yBA_lowerTip wsBA_lowerTip rmBA_lowerTip [.ref (a 14), .int (iZ p0), .int (iZ v)] (cW cI cZ a W D_ r sz co ro ho ac al sd lf sq hs rs ts rt_ hc li re ow tc cp ck wa qp qt qs lo sb lc cn ch sk) (fun w1 => ∃ (rt' hc' li' re' ow' tc' : Int → Int) (lc' : Int), w1 = (cW cI cZ a W D_ r sz co ro ho ac al sd lf sq hs rs (zu ts p0 v) rt' hc' li' re' ow' tc' cp ck wa qp qt qs lo sb lc' cn ch sk) ∧ BI W D_ r (zu ts p0 v) re' tc' ow' hc' ∧ ∀ i j, 0 ≤ i → i < W → 0 ≤ j → j < D_ → (zu ts p0 v) (j * W + i) ≤ rt' j ∧ rt' j ≤ 262144000) := by
  refine tt_startV (by decide) rfl (Nat.le_of_ble_eq_true rfl) ?_
  intro p e s m args below meth c hnm F
  obtain ⟨⟨hW1, hW2, hD1, hD2, hr1, hr2⟩, hGp, hGs, hGk, hGx, hGi, hGm, hGq⟩ := id hG
  have hWD := wd_b hW1 hW2 hD1 hD2
  have hPL := pl_b hW1 hW2 hD1 hD2 hr1 hr2
  have hSQ := sd_b hr1 hr2
  have hpt := hts p0 hp0.1 hp0.2
  refine tt_aload_n F 0 rfl rfl dBA_lowerTip_0 ?_
  refine tt_get F inBA 14 rfl rfl 0 (by decide) we189 rfl dBA_lowerTip_1 ?_
  refine tt_get F inSH 8 rfl rfl 3 (by decide) we158 rfl dBA_lowerTip_4 ?_
  refine tt_astore_n F [(3, .ref (a 11)), (0, .ref (a 14)), (1, .int (iZ p0)), (2, .int (iZ v))] rfl (by decide) rfl dBA_lowerTip_7 ?_
  refine tt_aload_n F 1 rfl rfl dBA_lowerTip_8 ?_
  refine tt_get F inBA 14 rfl rfl 0 (by decide) we189 rfl dBA_lowerTip_9 ?_
  refine tt_get F inSH 8 rfl rfl 4 (by decide) we161 rfl dBA_lowerTip_12 ?_
  refine tt_astore F [(4, .ref (a 12)), (3, .ref (a 11)), (0, .ref (a 14)), (1, .int (iZ p0)), (2, .int (iZ v))] (by decide) rfl dBA_lowerTip_15 ?_
  refine tt_aload_n F 2 rfl rfl dBA_lowerTip_17 ?_
  refine tt_get F inBA 14 rfl rfl 8 (by decide) we209 rfl dBA_lowerTip_18 ?_
  refine tt_get F inHO 1 rfl rfl 7 (by decide) we105 rfl dBA_lowerTip_21 ?_
  refine tt_iload_n F 3 rfl rfl dBA_lowerTip_24 ?_
  refine tt_iald F 6 rfl (by omega) (by omega) (by omega) dBA_lowerTip_25 ?_
  refine tt_name (fun was hwas => ?_)
  refine tt_istore F [(5, .int (iZ was)), (4, .ref (a 12)), (3, .ref (a 11)), (0, .ref (a 14)), (1, .int (iZ p0)), (2, .int (iZ v))] (by decide) rfl dBA_lowerTip_26 ?_
  refine tt_aload_n F 3 rfl rfl dBA_lowerTip_28 ?_
  refine tt_get F inBA 14 rfl rfl 1 (by decide) we191 rfl dBA_lowerTip_29 ?_
  refine tt_iload_n F 4 rfl rfl dBA_lowerTip_32 ?_
  refine tt_iald F 15 rfl (by omega) (by omega) (by omega) dBA_lowerTip_33 ?_
  refine tt_name (fun home hhome => ?_)
  refine tt_istore F [(6, .int (iZ home)), (5, .int (iZ was)), (4, .ref (a 12)), (3, .ref (a 11)), (0, .ref (a 14)), (1, .int (iZ p0)), (2, .int (iZ v))] (by decide) rfl dBA_lowerTip_34 ?_
  refine tt_aload_n F 4 rfl rfl dBA_lowerTip_36 ?_
  refine tt_get F inBA 14 rfl rfl 5 (by decide) we200 rfl dBA_lowerTip_37 ?_
  refine tt_iload_n F 5 rfl rfl dBA_lowerTip_40 ?_
  refine tt_iald F 16 rfl (by omega) (by omega) (by omega) dBA_lowerTip_41 ?_
  refine tt_name (fun tou htou => ?_)
  refine tt_istore F [(7, .int (iZ tou)), (6, .int (iZ home)), (5, .int (iZ was)), (4, .ref (a 12)), (3, .ref (a 11)), (0, .ref (a 14)), (1, .int (iZ p0)), (2, .int (iZ v))] (by decide) rfl dBA_lowerTip_42 ?_
  refine tt_aload_n F 5 rfl rfl dBA_lowerTip_44 ?_
  refine tt_get F inBA 14 rfl rfl 8 (by decide) we209 rfl dBA_lowerTip_45 ?_
  refine tt_iload_n F 6 rfl rfl dBA_lowerTip_48 ?_
  refine tt_iload_n F 7 rfl rfl dBA_lowerTip_49 ?_
  refine tt_cVV0 F (fun h => h) (As := [.int (iZ p0), .int (iZ v)]) 1 rfl rfl (c_setTip (hs := hs) (rs := rs) (ts := ts) (rt_ := rt_) (hc := hc) (li := li) (re := re) (ow := ow) (tc := tc) (cp := cp) (ck := ck) (wa := wa) (qp := qp) (qt := qt) (qs := qs) (lo := lo) (sb := sb) (lc := lc) (cn := cn) (ch := ch) (sk := sk) (q := p0) (t := v) hG (by omega) (by omega) hts) (cwV 2 F.1.2.2.2.2 (gw_V wd461 wd462 wd463 wd47 wd464) rfl rfl rfl (by decide +kernel) ⟨(Nat.le_of_ble_eq_true rfl), (Nat.le_of_ble_eq_true rfl)⟩) rfl rfl rfl (Nat.le_of_ble_eq_true rfl) ⟨(Nat.le_of_ble_eq_true rfl), (Nat.le_of_ble_eq_true rfl)⟩ dBA_lowerTip_50 (fun w1 hp => ?_)
  obtain ⟨top50, rfl, hto50, Ito50⟩ := hp
  refine tt_iconst F dBA_lowerTip_53 ?_
  refine tt_istore F [(8, .int (iZ 0)), (7, .int (iZ tou)), (6, .int (iZ home)), (5, .int (iZ was)), (4, .ref (a 12)), (3, .ref (a 11)), (0, .ref (a 14)), (1, .int (iZ p0)), (2, .int (iZ v))] (by decide) rfl dBA_lowerTip_54 ?_
  refine tt_sub [6, 7, 5, 4, 3, 2, 1, 0] rfl ?_
  rw [hwas, hhome]
  refine lower_loop (to := ts) (ts := zu ts p0 v) (rt_ := zu rt_ (ro p0) top50) F hG (fun p h1 h2 => if e : p = p0 then (by rw [e, zu_s]; omega) else (by rw [zu_n _ _ e]; exact hts p h1 h2)) (top_ok hG hp0 hrt hto50 Ito50) rfl hv.1 hts hp0 (fun i tou hc li re ow tc lc vis hB2 => ?_) (sz.toNat + 1) 0 tou hc li re ow tc lc (fun _ => false) (by omega) (by omega) (by rw [htou]; exact LIv_0 hp0.1 hp0.2 hB)
  exact tt_vret F rfl (Nat.le_of_ble_eq_true rfl) (Nat.le_of_ble_eq_true rfl) dBA_lowerTip_165 ⟨_, _, _, _, _, _, _, rfl, hB2, top_ok hG hp0 hrt hto50 Ito50⟩
abbrev rmBA_moveTip : Room := { frames := 3, cells := 0, slots := 0, locals := 93 }
set_option maxHeartbeats 4000000 in
set_option maxRecDepth 100000 in
theorem c_moveTip {p0 v : Int} (hG : GE W D_ r sz co ro ho ac al sd lf sq) (hts : ∀ p, 0 ≤ p → p < W * D_ → 0 ≤ ts p ∧ ts p ≤ 262144000) (hrt : ∀ i j, 0 ≤ i → i < W → 0 ≤ j → j < D_ → ts (j * W + i) ≤ rt_ j ∧ rt_ j ≤ 262144000) (hp0 : 0 ≤ p0 ∧ p0 < W * D_) (hv : 0 ≤ v ∧ v ≤ 262144000) (hB : BI W D_ r ts re tc ow hc) : CV l D vwCl cI cZ cJ SL yBA_moveTip wsBA_moveTip rmBA_moveTip [.ref (a 14), .int (iZ p0), .int (iZ v)] (cW cI cZ a W D_ r sz co ro ho ac al sd lf sq hs rs ts rt_ hc li re ow tc cp ck wa qp qt qs lo sb lc cn ch sk) (fun w1 => ∃ (rt' hc' li' re' ow' tc' : Int → Int) (lc' : Int), w1 = (cW cI cZ a W D_ r sz co ro ho ac al sd lf sq hs rs (zu ts p0 v) rt' hc' li' re' ow' tc' cp ck wa qp qt qs lo sb lc' cn ch sk) ∧ BI W D_ r (zu ts p0 v) re' tc' ow' hc' ∧ ∀ i j, 0 ≤ i → i < W → 0 ≤ j → j < D_ → (zu ts p0 v) (j * W + i) ≤ rt' j ∧ rt' j ≤ 262144000) := by
  refine tt_startV (by decide) rfl (Nat.le_of_ble_eq_true rfl) ?_
  intro p e s m args below meth c hnm F
  obtain ⟨⟨hW1, hW2, hD1, hD2, hr1, hr2⟩, hGp, hGs, hGk, hGx, hGi, hGm, hGq⟩ := id hG
  have hWD := wd_b hW1 hW2 hD1 hD2
  have hPL := pl_b hW1 hW2 hD1 hD2 hr1 hr2
  have hSQ := sd_b hr1 hr2
  have hpt := hts p0 hp0.1 hp0.2
  refine tt_aload_n F 0 rfl rfl dBA_moveTip_0 ?_
  refine tt_get F inBA 14 rfl rfl 8 (by decide) we209 rfl dBA_moveTip_1 ?_
  refine tt_get F inHO 1 rfl rfl 7 (by decide) we105 rfl dBA_moveTip_4 ?_
  refine tt_iload_n F 1 rfl rfl dBA_moveTip_7 ?_
  refine tt_iald F 6 rfl (by omega) (by omega) (by omega) dBA_moveTip_8 ?_
  refine tt_name (fun was hwas => ?_)
  refine tt_istore_n F [(3, .int (iZ was)), (0, .ref (a 14)), (1, .int (iZ p0)), (2, .int (iZ v))] rfl (by decide) rfl dBA_moveTip_9 ?_
  refine tt_iload_n F 3 rfl rfl dBA_moveTip_10 ?_
  refine tt_iload_n F 0 rfl rfl dBA_moveTip_11 ?_
  refine tt_icmp_le F 21 ⟨by omega, by omega⟩ ⟨by omega, by omega⟩ dBA_moveTip_12 (by decide) (fun c12 => ?_) (fun c12 => ?_)
  · skip
    refine tt_iload_n F 3 rfl rfl dBA_moveTip_21 ?_
    refine tt_iload_n F 0 rfl rfl dBA_moveTip_22 ?_
    refine tt_icmp_ge F 32 ⟨by omega, by omega⟩ ⟨by omega, by omega⟩ dBA_moveTip_23 (by decide) (fun c23 => ?_) (fun c23 => ?_)
    · skip
      exact tt_vret F rfl (Nat.le_of_ble_eq_true rfl) (Nat.le_of_ble_eq_true rfl) dBA_moveTip_32 ⟨rt_, hc, li, re, ow, tc, lc, by rw [zu_id (by omega)], by rw [zu_id (by omega)]; exact hB, by rw [zu_id (by omega)]; exact hrt⟩
    · skip
      refine tt_aload_n F 1 rfl rfl dBA_moveTip_26 ?_
      refine tt_iload_n F 2 rfl rfl dBA_moveTip_27 ?_
      refine tt_iload_n F 3 rfl rfl dBA_moveTip_28 ?_
      refine tt_cVV0 F (fun h => h) (As := [.int (iZ p0), .int (iZ v)]) 14 rfl rfl (c_lowerTip (hs := hs) (rs := rs) (ts := ts) (rt_ := rt_) (hc := hc) (li := li) (re := re) (ow := ow) (tc := tc) (cp := cp) (ck := ck) (wa := wa) (qp := qp) (qt := qt) (qs := qs) (lo := lo) (sb := sb) (lc := lc) (cn := cn) (ch := ch) (sk := sk) (p0 := p0) (v := v) hG hts hrt (by omega) (by omega) hB) (cwV 2 F.1.2.2.2.2 (gw_V wd466 wd468 wd23 wd48 wd469) rfl rfl rfl (by decide +kernel) ⟨(Nat.le_of_ble_eq_true rfl), (Nat.le_of_ble_eq_true rfl)⟩) rfl rfl rfl (Nat.le_of_ble_eq_true rfl) ⟨(Nat.le_of_ble_eq_true rfl), (Nat.le_of_ble_eq_true rfl)⟩ dBA_moveTip_29 (fun w1 hp => ?_)
      obtain ⟨rt29, hc29, li29, re29, ow29, tc29, lc29, rfl, Ib29, It29⟩ := hp
      exact tt_vret F rfl (Nat.le_of_ble_eq_true rfl) (Nat.le_of_ble_eq_true rfl) dBA_moveTip_32 ⟨_, _, _, _, _, _, _, rfl, Ib29, It29⟩
  · skip
    refine tt_aload_n F 1 rfl rfl dBA_moveTip_15 ?_
    refine tt_iload_n F 2 rfl rfl dBA_moveTip_16 ?_
    refine tt_iload_n F 3 rfl rfl dBA_moveTip_17 ?_
    refine tt_cVV0 F (fun h => h) (As := [.int (iZ p0), .int (iZ v)]) 14 rfl rfl (c_raiseTip (hs := hs) (rs := rs) (ts := ts) (rt_ := rt_) (hc := hc) (li := li) (re := re) (ow := ow) (tc := tc) (cp := cp) (ck := ck) (wa := wa) (qp := qp) (qt := qt) (qs := qs) (lo := lo) (sb := sb) (lc := lc) (cn := cn) (ch := ch) (sk := sk) (p0 := p0) (v := v) hG hts hrt (by omega) (by omega) hB) (cwV 2 F.1.2.2.2.2 (gw_V wd448 wd450 wd20 wd48 wd451) rfl rfl rfl (by decide +kernel) ⟨(Nat.le_of_ble_eq_true rfl), (Nat.le_of_ble_eq_true rfl)⟩) rfl rfl rfl (Nat.le_of_ble_eq_true rfl) ⟨(Nat.le_of_ble_eq_true rfl), (Nat.le_of_ble_eq_true rfl)⟩ dBA_moveTip_18 (fun w1 hp => ?_)
    obtain ⟨rt18, hc18, li18, re18, ow18, tc18, lc18, rfl, Ib18, It18⟩ := hp
    refine tt_iload_n F 3 rfl rfl dBA_moveTip_21 ?_
    refine tt_iload_n F 0 rfl rfl dBA_moveTip_22 ?_
    refine tt_icmp_ge F 32 ⟨by omega, by omega⟩ ⟨by omega, by omega⟩ dBA_moveTip_23 (by decide) (fun c23 => ?_) (fun c23 => ?_)
    · skip
      exact tt_vret F rfl (Nat.le_of_ble_eq_true rfl) (Nat.le_of_ble_eq_true rfl) dBA_moveTip_32 ⟨_, _, _, _, _, _, _, rfl, Ib18, It18⟩
    · skip
      omega
end CL
