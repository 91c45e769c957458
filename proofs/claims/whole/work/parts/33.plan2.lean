section CL
variable {p : Program} {l : Launch} {e : Env} {s : State} {m : MethodId} {args : Array Value} {below : List Frame} {meth : Method} {c : Code} {Q : State → Prop} {D : va_G} {cI cZ cJ : ClassId} {SL : List zS} {A : Nat → Prop} {a : Nat → Nat} {W D_ r sz : Int} {co ro ho ac al sd lf sq : Int → Int} {hs rs ts rt_ hc li re ow tc cp ck wa qp qt qs lo sb : Int → Int} {lc cn ch sk : Int}
abbrev rmPL_listChoices : Room := { frames := 1, cells := 0, slots := 0, locals := 24 }
def ovI (cp : Int → Int) (k later over : Int) : Prop := ∀ S, 0 ≤ S → S < 16 → (tb over S = true ↔ ∃ i, k < i ∧ i < later ∧ cp i = cp k ∧ tb S i = true)
theorem ovI_0 {cp : Int → Int} {k : Int} : ovI cp k (k + 1) 0 := fun S _ _ => ⟨fun q => (by rw [tb_0] at q; cases q), fun ⟨i, a, b, _⟩ => by omega⟩
theorem ovI_y {cp : Int → Int} {k later over : Int} (hk : 0 ≤ k ∧ k < later ∧ later < 4) (h : ovI cp k later over) (he : cp later = cp k) : ovI cp k (later + 1) (zor over (SWv later)) := fun S s0 s1 => by
  rw [tb_or, Bool.or_eq_true, h S s0 s1, SWv_tb (by omega) (by omega) s0 s1]
  constructor
  · rintro (⟨i, a, b, c, d⟩ | q)
    · exact ⟨i, a, by omega, c, d⟩
    · exact ⟨later, by omega, by omega, he, q⟩
  · rintro ⟨i, a, b, c, d⟩
    by_cases e : i = later
    · subst e; exact Or.inr d
    · exact Or.inl ⟨i, a, by omega, c, d⟩
theorem ovI_n {cp : Int → Int} {k later over : Int} (h : ovI cp k later over) (he : ¬ cp later = cp k) : ovI cp k (later + 1) over := fun S s0 s1 => by
  rw [h S s0 s1]
  constructor
  · rintro ⟨i, a, b, c, d⟩
    exact ⟨i, a, by omega, c, d⟩
  · rintro ⟨i, a, b, c, d⟩
    by_cases e : i = later
    · subst e; exact absurd c he
    · exact ⟨i, a, by omega, c, d⟩
theorem ov_A {cp : Int → Int} {k cn over : Int} (hk : 0 ≤ k ∧ k < 4) (h : ovI cp k cn over) : chA cp cn k (zand (SWv k) (zxor over (-1))) := fun S s0 s1 => by
  rw [tb_and, tb_not over (by omega), Bool.and_eq_true, SWv_tb hk.1 hk.2 s0 s1, Bool.not_eq_true', ← Bool.not_eq_true, h S s0 s1]
  constructor
  · rintro ⟨a, b⟩
    refine ⟨a, fun i c d e => ?_⟩
    cases hb : tb S i with
    | false => rfl
    | true => exact absurd ⟨i, c, d, e, hb⟩ b
  · rintro ⟨a, b⟩
    refine ⟨a, fun ⟨i, c, d, e, f⟩ => ?_⟩
    rw [b i c d e] at f
    cases f
theorem ov_B {cp : Int → Int} {k cn over : Int} (hk : 0 ≤ k ∧ k < 4) (h : ovI cp k cn over) : chB cp cn k (zxor (zor (SWv k) over) (-1)) := fun S s0 s1 => by
  rw [tb_not _ (by omega), Bool.not_eq_true', tb_or, Bool.or_eq_false_iff, SWv_tb hk.1 hk.2 s0 s1, ← Bool.not_eq_true (tb over S), h S s0 s1]
  constructor
  · rintro ⟨a, b⟩
    refine ⟨a, fun i c d e => ?_⟩
    cases hb : tb S i with
    | false => rfl
    | true => exact absurd ⟨i, c, d, e, hb⟩ b
  · rintro ⟨a, b⟩
    refine ⟨a, fun ⟨i, c, d, e, f⟩ => ?_⟩
    rw [b i c d e] at f
    cases f
set_option maxHeartbeats 4000000 in
set_option maxRecDepth 100000 in
theorem lc_in {aS : Nat} {k : Int} (F : FX p s m args meth c cPL_listChoices 5 none wsPL_listChoices RPL D vwCl cI cZ cJ SL A) (hG : GE W D_ r sz co ro ho ac al sd lf sq) (hcn : 0 ≤ cn ∧ cn ≤ 4) (hcp : ∀ j, 0 ≤ j → j < cn → 0 ≤ cp j ∧ cp j < W * D_ ∧ 1 ≤ ck j ∧ ck j ≤ 50) (hhs : ∀ p, 0 ≤ p → p < W * D_ → 0 ≤ hs p ∧ hs p ≤ 200) (hts : ∀ p, 0 ≤ p → p < W * D_ → 0 ≤ ts p ∧ ts p ≤ 262144000) (hsw : SL[1]? = some ("RollingBalls$Plan", "SETS_WITH", "[I", aS, 4, fun j : Nat => Value.int (iZ (SWv (j : Int))))) (hk : 0 ≤ k ∧ k < cn)
    (k69 : ∀ (over : Int) (later : Int), (ovI cp k cn over) → TT p l e rmPL_listChoices s m args below meth c D vwCl A 5 False Q 69 [(0, .ref (a 21)), (1, .int (iZ k)), (2, .int (iZ (cp k))), (3, .int (iZ over)), (4, .int (iZ later))] [] (cW cI cZ a W D_ r sz co ro ho ac al sd lf sq hs rs ts rt_ hc li re ow tc cp ck wa qp qt qs lo sb lc cn ch sk) 0 0) :
    ∀ (n : Nat) (over : Int) (later : Int), (cn - later).toNat < n → (k < later ∧ later ≤ cn) → (ovI cp k later over) → TT p l e rmPL_listChoices s m args below meth c D vwCl A 5 False Q 34 [(0, .ref (a 21)), (1, .int (iZ k)), (2, .int (iZ (cp k))), (3, .int (iZ over)), (4, .int (iZ later))] [] (cW cI cZ a W D_ r sz co ro ho ac al sd lf sq hs rs ts rt_ hc li re ow tc cp ck wa qp qt qs lo sb lc cn ch sk) 0 0 := by
  intro n
  induction n with
  | zero => intro over later hn; omega
  | succ n ih =>
    intro over later hn I1 I2
    obtain ⟨⟨hW1, hW2, hD1, hD2, hr1, hr2⟩, hGp, hGs, hGk, hGx, hGi, hGm, hGq⟩ := id hG
    have hWD := wd_b hW1 hW2 hD1 hD2
    have hPL := pl_b hW1 hW2 hD1 hD2 hr1 hr2
    have hSQ := sd_b hr1 hr2
    refine tt_iload F 4 rfl dPL_listChoices_34 ?_
    refine tt_aload_n F 0 rfl rfl dPL_listChoices_36 ?_
    refine tt_get F inPL 21 rfl rfl 2 (by decide) we248 rfl dPL_listChoices_37 ?_
    refine tt_icmp_ge F 69 ⟨by omega, by omega⟩ ⟨by omega, by omega⟩ dPL_listChoices_40 (by decide) (fun c40 => ?_) (fun c40 => ?_)
    · skip
      refine tt_sub [0, 1, 2, 3, 4] rfl ?_
      exact k69 over later (by rw [show cn = later by omega]; exact I2)
    · skip
      have hl0 := hcp later (by omega) (by omega)
      have hk0 := hcp k hk.1 hk.2
      refine tt_aload_n F 0 rfl rfl dPL_listChoices_43 ?_
      refine tt_get F inPL 21 rfl rfl 0 (by decide) we244 rfl dPL_listChoices_44 ?_
      refine tt_iload F 4 rfl dPL_listChoices_47 ?_
      refine tt_iald F 22 rfl (by omega) (by omega) (by omega) dPL_listChoices_49 ?_
      refine tt_name (fun cv hcv => ?_)
      refine tt_iload_n F 2 rfl rfl dPL_listChoices_50 ?_
      refine tt_icmp_ne F 63 ⟨by omega, by omega⟩ ⟨by omega, by omega⟩ dPL_listChoices_51 (by decide) (fun c51 => ?_) (fun c51 => ?_)
      · skip
        refine tt_iinc F 4 [(4, .int (iZ (later + 1))), (0, .ref (a 21)), (1, .int (iZ k)), (2, .int (iZ (cp k))), (3, .int (iZ over))] rfl (by decide) rfl dPL_listChoices_63 ?_
        refine tt_goto F 34 (by decide) dPL_listChoices_66 ?_
        refine tt_sub [1, 2, 3, 4, 0] rfl ?_
        exact ih over (later + 1) (by omega) (by omega) (ovI_n I2 (by omega))
      · skip
        refine tt_iload_n F 3 rfl rfl dPL_listChoices_54 ?_
        refine tt_gets F 1 hsw we340 dPL_listChoices_55 ?_
        refine tt_iload F 4 rfl dPL_listChoices_58 ?_
        refine tt_tald F 1 hsw (by omega) (by omega) (by decide) (show Value.int (iZ (SWv ((later.toNat : Nat) : Int))) = Value.int (iZ (SWv later)) from by rw [Int.toNat_of_nonneg (by omega)]) dPL_listChoices_60 ?_
        refine tt_name (fun sv hsv => ?_)
        refine tt_ior F dPL_listChoices_61 ?_
        refine tt_name (fun ov2 hov2 => ?_)
        refine tt_istore_n F [(3, .int (iZ ov2)), (0, .ref (a 21)), (1, .int (iZ k)), (2, .int (iZ (cp k))), (4, .int (iZ later))] rfl (by decide) rfl dPL_listChoices_62 ?_
        refine tt_iinc F 4 [(4, .int (iZ (later + 1))), (3, .int (iZ ov2)), (0, .ref (a 21)), (1, .int (iZ k)), (2, .int (iZ (cp k)))] rfl (by decide) rfl dPL_listChoices_63 ?_
        refine tt_goto F 34 (by decide) dPL_listChoices_66 ?_
        refine tt_sub [2, 3, 4, 1, 0] rfl ?_
        exact ih ov2 (later + 1) (by omega) (by omega) (by rw [hov2, hsv]; exact ovI_y (by omega) I2 (by omega))
set_option maxHeartbeats 4000000 in
set_option maxRecDepth 100000 in
theorem lc_out {aS : Nat} (F : FX p s m args meth c cPL_listChoices 5 none wsPL_listChoices RPL D vwCl cI cZ cJ SL A) (hG : GE W D_ r sz co ro ho ac al sd lf sq) (hcn : 0 ≤ cn ∧ cn ≤ 4) (hcp : ∀ j, 0 ≤ j → j < cn → 0 ≤ cp j ∧ cp j < W * D_ ∧ 1 ≤ ck j ∧ ck j ≤ 50) (hhs : ∀ p, 0 ≤ p → p < W * D_ → 0 ≤ hs p ∧ hs p ≤ 200) (hts : ∀ p, 0 ≤ p → p < W * D_ → 0 ≤ ts p ∧ ts p ≤ 262144000) (hsw : SL[1]? = some ("RollingBalls$Plan", "SETS_WITH", "[I", aS, 4, fun j : Nat => Value.int (iZ (SWv (j : Int)))))
    (k135 : ∀ (k : Int) (qp : Int → Int) (qt : Int → Int) (qs : Int → Int) (ch : Int) (sk : Int), (CHI ts hs cp ck cn cn ch qp qt qs sk) → TT p l e rmPL_listChoices s m args below meth c D vwCl A 5 False Q 135 [(0, .ref (a 21)), (1, .int (iZ k))] [] (cW cI cZ a W D_ r sz co ro ho ac al sd lf sq hs rs ts rt_ hc li re ow tc cp ck wa qp qt qs lo sb lc cn ch sk) 0 0) :
    ∀ (n : Nat) (k : Int) (qp : Int → Int) (qt : Int → Int) (qs : Int → Int) (ch : Int) (sk : Int), (cn - k).toNat < n → (0 ≤ k ∧ k ≤ cn) → (CHI ts hs cp ck cn k ch qp qt qs sk) → TT p l e rmPL_listChoices s m args below meth c D vwCl A 5 False Q 12 [(0, .ref (a 21)), (1, .int (iZ k))] [] (cW cI cZ a W D_ r sz co ro ho ac al sd lf sq hs rs ts rt_ hc li re ow tc cp ck wa qp qt qs lo sb lc cn ch sk) 0 0 := by
  intro n
  induction n with
  | zero => intro k qp qt qs ch sk hn; omega
  | succ n ih =>
    intro k qp qt qs ch sk hn I1 I2
    obtain ⟨⟨hW1, hW2, hD1, hD2, hr1, hr2⟩, hGp, hGs, hGk, hGx, hGi, hGm, hGq⟩ := id hG
    have hWD := wd_b hW1 hW2 hD1 hD2
    have hPL := pl_b hW1 hW2 hD1 hD2 hr1 hr2
    have hSQ := sd_b hr1 hr2
    refine tt_iload_n F 1 rfl rfl dPL_listChoices_12 ?_
    refine tt_aload_n F 0 rfl rfl dPL_listChoices_13 ?_
    refine tt_get F inPL 21 rfl rfl 2 (by decide) we248 rfl dPL_listChoices_14 ?_
    refine tt_icmp_ge F 135 ⟨by omega, by omega⟩ ⟨by omega, by omega⟩ dPL_listChoices_17 (by decide) (fun c17 => ?_) (fun c17 => ?_)
    · skip
      refine tt_sub [0, 1] rfl ?_
      exact k135 k qp qt qs ch sk (by rw [show k = cn by omega] at I2; exact I2)
    · skip
      have hk0 := hcp k I1.1 (by omega)
      have hh0 := hhs (cp k) hk0.1 hk0.2.1
      have ht0 := hts (cp k) hk0.1 hk0.2.1
      have hchb := I2.2.2.2.2.2
      refine tt_aload_n F 0 rfl rfl dPL_listChoices_20 ?_
      refine tt_get F inPL 21 rfl rfl 0 (by decide) we244 rfl dPL_listChoices_21 ?_
      refine tt_iload_n F 1 rfl rfl dPL_listChoices_24 ?_
      refine tt_iald F 22 rfl (by omega) (by omega) (by omega) dPL_listChoices_25 ?_
      refine tt_name (fun pt hpt => ?_)
      refine tt_istore_n F [(2, .int (iZ pt)), (0, .ref (a 21)), (1, .int (iZ k))] rfl (by decide) rfl dPL_listChoices_26 ?_
      refine tt_iconst F dPL_listChoices_27 ?_
      refine tt_istore_n F [(3, .int (iZ 0)), (2, .int (iZ pt)), (0, .ref (a 21)), (1, .int (iZ k))] rfl (by decide) rfl dPL_listChoices_28 ?_
      refine tt_iload_n F 3 rfl rfl dPL_listChoices_29 ?_
      refine tt_iconst F dPL_listChoices_30 ?_
      refine tt_iadd F dPL_listChoices_31 ?_
      refine tt_name (fun x32 hx32 => ?_)
      refine tt_istore F [(4, .int (iZ x32)), (3, .int (iZ 0)), (2, .int (iZ pt)), (0, .ref (a 21)), (1, .int (iZ k))] (by decide) rfl dPL_listChoices_32 ?_
      refine tt_sub [3, 4, 2, 1, 0] rfl ?_
      rw [hpt]
      refine lc_in F hG hcn hcp hhs hts hsw ⟨I1.1, by omega⟩ (fun over later hov => ?_) ((cn - (k + 1)).toNat + 1) 0 _ (by omega) (by omega) (by rw [hx32]; exact ovI_0)
      refine tt_aload_n F 0 rfl rfl dPL_listChoices_69 ?_
      refine tt_iload_n F 2 rfl rfl dPL_listChoices_70 ?_
      refine tt_aload_n F 0 rfl rfl dPL_listChoices_71 ?_
      refine tt_get F inPL 21 rfl rfl 4 (by decide) we252 rfl dPL_listChoices_72 ?_
      refine tt_iload_n F 2 rfl rfl dPL_listChoices_75 ?_
      refine tt_aload_n F 0 rfl rfl dPL_listChoices_76 ?_
      refine tt_get F inPL 21 rfl rfl 1 (by decide) we246 rfl dPL_listChoices_77 ?_
      refine tt_iload_n F 1 rfl rfl dPL_listChoices_80 ?_
      refine tt_iald F 23 rfl (by omega) (by omega) (by omega) dPL_listChoices_81 ?_
      refine tt_name (fun lv_ hlv_ => ?_)
      refine tt_cIV0 F (fun h => h) (As := [.int (iZ (cp k)), .int (iZ lv_)]) 1 rfl rfl (c_tipWith (hs := hs) (rs := rs) (ts := ts) (rt_ := rt_) (hc := hc) (li := li) (re := re) (ow := ow) (tc := tc) (cp := cp) (ck := ck) (wa := wa) (qp := qp) (qt := qt) (qs := qs) (lo := lo) (sb := sb) (lc := lc) (cn := cn) (ch := ch) (sk := sk) (q := cp k) (v := lv_) hG (by omega)) (cwV 2 F.1.2.2.2.2 (gw_V wd342 wd343 wd344 wd47 wd345) rfl rfl rfl (by decide +kernel) ⟨(Nat.le_of_ble_eq_true rfl), (Nat.le_of_ble_eq_true rfl)⟩) rfl rfl rfl (Nat.le_of_ble_eq_true rfl) ⟨(Nat.le_of_ble_eq_true rfl), (Nat.le_of_ble_eq_true rfl)⟩ dPL_listChoices_82 (fun z82 w1 hp => ?_)
      obtain ⟨hz82, rfl⟩ := hp
      have hz82' : z82 = (hs (cp k) + ck k) * 1048576 := by rw [hz82, hlv_]
      refine tt_gets F 1 hsw we340 dPL_listChoices_85 ?_
      refine tt_iload_n F 1 rfl rfl dPL_listChoices_88 ?_
      refine tt_tald F 1 hsw (by omega) (by omega) (by decide) (show Value.int (iZ (SWv ((k.toNat : Nat) : Int))) = Value.int (iZ (SWv k)) from by rw [Int.toNat_of_nonneg (by omega)]) dPL_listChoices_89 ?_
      refine tt_name (fun s89 hs89 => ?_)
      refine tt_iload_n F 3 rfl rfl dPL_listChoices_90 ?_
      refine tt_iconst F dPL_listChoices_91 ?_
      refine tt_ixor F dPL_listChoices_92 ?_
      refine tt_iand F dPL_listChoices_93 ?_
      refine tt_cVV0 F (fun h => h) (As := [.int (iZ (cp k)), .int (iZ z82), .int (iZ (zand s89 (zxor over (-1))))]) 21 rfl rfl (c_addChoice (hs := hs) (rs := rs) (ts := ts) (rt_ := rt_) (hc := hc) (li := li) (re := re) (ow := ow) (tc := tc) (cp := cp) (ck := ck) (wa := wa) (qp := qp) (qt := qt) (qs := qs) (lo := lo) (sb := sb) (lc := lc) (cn := cn) (ch := ch) (sk := sk) (q := cp k) (t := z82) (v := zand s89 (zxor over (-1))) hG (by omega) (by omega) ⟨by omega, by omega⟩ ⟨by omega, by omega⟩) (cwV 3 F.1.2.2.2.2 (gw_V wd347 wd349 wd3 wd52 wd350) rfl rfl rfl (by decide +kernel) ⟨(Nat.le_of_ble_eq_true rfl), (Nat.le_of_ble_eq_true rfl)⟩) rfl rfl rfl (Nat.le_of_ble_eq_true rfl) ⟨(Nat.le_of_ble_eq_true rfl), (Nat.le_of_ble_eq_true rfl)⟩ dPL_listChoices_94 (fun w1 hp => ?_)
      obtain ⟨sk94, rfl, Isk94⟩ := hp
      refine tt_aload_n F 0 rfl rfl dPL_listChoices_97 ?_
      refine tt_iload_n F 2 rfl rfl dPL_listChoices_98 ?_
      refine tt_iload_n F 1 rfl rfl dPL_listChoices_99 ?_
      refine tt_cIV0 F (fun h => h) (As := [.int (iZ (cp k)), .int (iZ k)]) 21 rfl rfl (c_countCandidates (hs := hs) (rs := rs) (ts := ts) (rt_ := rt_) (hc := hc) (li := li) (re := re) (ow := ow) (tc := tc) (cp := cp) (ck := ck) (wa := wa) (qp := zu qp ch (cp k)) (qt := zu qt ch z82) (qs := zu qs ch (zand s89 (zxor over (-1)))) (lo := lo) (sb := sb) (lc := lc) (cn := cn) (ch := ch + 1) (sk := sk94) (q := cp k) (k := k) (by omega) (fun j h1 h2 => by have := hcp j h1 (by omega); omega) (by omega)) (cwV 2 F.1.2.2.2.2 (gw_V wd351 wd353 wd4 wd52 wd354) rfl rfl rfl (by decide +kernel) ⟨(Nat.le_of_ble_eq_true rfl), (Nat.le_of_ble_eq_true rfl)⟩) rfl rfl rfl (Nat.le_of_ble_eq_true rfl) ⟨(Nat.le_of_ble_eq_true rfl), (Nat.le_of_ble_eq_true rfl)⟩ dPL_listChoices_100 (fun z100 w1 hp => ?_)
      obtain ⟨hz100, rfl⟩ := hp
      refine tt_if_ne F 129 (by rw [hz100]; have := cz_b (fun j => decide (cp j = cp k)) I1.1; exact ⟨by omega, by omega⟩) dPL_listChoices_103 (by decide) (fun c103 => ?_) (fun c103 => ?_)
      · skip
        rw [hz100] at c103
        have hczb := cz_b (fun j => decide (cp j = cp k)) I1.1
        refine tt_iinc F 1 [(1, .int (iZ (k + 1))), (0, .ref (a 21)), (2, .int (iZ (cp k))), (3, .int (iZ over)), (4, .int (iZ later))] rfl (by decide) rfl dPL_listChoices_129 ?_
        refine tt_goto F 12 (by decide) dPL_listChoices_132 ?_
        refine tt_sub [1, 0] rfl ?_
        exact ih (k + 1) (zu qp ch (cp k)) (zu qt ch z82) (zu qs ch (zand s89 (zxor over (-1)))) (ch + 1) sk94 (by omega) (by omega) (by obtain ⟨i0, i1, i2, i3⟩ := cz_ex (show 0 < cz (fun j => decide (cp j = cp k)) k by omega); have hR := CHI_one ⟨I1.1, by omega⟩ I2 (by omega) (ov_A ⟨I1.1, by omega⟩ hov) ⟨i1, i2, by simpa using i3⟩ (sk1 := sk94) (by rw [← hz82', ← hs89]; exact Isk94); rw [hz82', hs89]; exact hR)
      · skip
        rw [hz100] at c103
        refine tt_aload_n F 0 rfl rfl dPL_listChoices_106 ?_
        refine tt_iload_n F 2 rfl rfl dPL_listChoices_107 ?_
        refine tt_aload_n F 0 rfl rfl dPL_listChoices_108 ?_
        refine tt_get F inPL 21 rfl rfl 4 (by decide) we252 rfl dPL_listChoices_109 ?_
        refine tt_get F inHO 1 rfl rfl 7 (by decide) we106 rfl dPL_listChoices_112 ?_
        refine tt_iload_n F 2 rfl rfl dPL_listChoices_115 ?_
        refine tt_iald F 6 rfl (by omega) (by omega) (by omega) dPL_listChoices_116 ?_
        refine tt_name (fun tv htv => ?_)
        refine tt_gets F 1 hsw we340 dPL_listChoices_117 ?_
        refine tt_iload_n F 1 rfl rfl dPL_listChoices_120 ?_
        refine tt_tald F 1 hsw (by omega) (by omega) (by decide) (show Value.int (iZ (SWv ((k.toNat : Nat) : Int))) = Value.int (iZ (SWv k)) from by rw [Int.toNat_of_nonneg (by omega)]) dPL_listChoices_121 ?_
        refine tt_name (fun s121 hs121 => ?_)
        refine tt_iload_n F 3 rfl rfl dPL_listChoices_122 ?_
        refine tt_ior F dPL_listChoices_123 ?_
        refine tt_iconst F dPL_listChoices_124 ?_
        refine tt_ixor F dPL_listChoices_125 ?_
        refine tt_cVV0 F (fun h => h) (As := [.int (iZ (cp k)), .int (iZ tv), .int (iZ (zxor (zor s121 over) (-1)))]) 21 rfl rfl (c_addChoice (hs := hs) (rs := rs) (ts := ts) (rt_ := rt_) (hc := hc) (li := li) (re := re) (ow := ow) (tc := tc) (cp := cp) (ck := ck) (wa := wa) (qp := zu qp ch (cp k)) (qt := zu qt ch z82) (qs := zu qs ch (zand s89 (zxor over (-1)))) (lo := lo) (sb := sb) (lc := lc) (cn := cn) (ch := ch + 1) (sk := sk94) (q := cp k) (t := tv) (v := zxor (zor s121 over) (-1)) hG (by omega) (by omega) ⟨by omega, by omega⟩ ⟨by omega, by omega⟩) (cwV 3 F.1.2.2.2.2 (gw_V wd347 wd349 wd3 wd52 wd350) rfl rfl rfl (by decide +kernel) ⟨(Nat.le_of_ble_eq_true rfl), (Nat.le_of_ble_eq_true rfl)⟩) rfl rfl rfl (Nat.le_of_ble_eq_true rfl) ⟨(Nat.le_of_ble_eq_true rfl), (Nat.le_of_ble_eq_true rfl)⟩ dPL_listChoices_126 (fun w1 hp => ?_)
        obtain ⟨sk126, rfl, Isk126⟩ := hp
        refine tt_iinc F 1 [(1, .int (iZ (k + 1))), (0, .ref (a 21)), (2, .int (iZ (cp k))), (3, .int (iZ over)), (4, .int (iZ later))] rfl (by decide) rfl dPL_listChoices_129 ?_
        refine tt_goto F 12 (by decide) dPL_listChoices_132 ?_
        refine tt_sub [1, 0] rfl ?_
        exact ih (k + 1) (zu (zu qp ch (cp k)) (ch + 1) (cp k)) (zu (zu qt ch z82) (ch + 1) tv) (zu (zu qs ch (zand s89 (zxor over (-1)))) (ch + 1) (zxor (zor s121 over) (-1))) ((ch + 1) + 1) sk126 (by omega) (by omega) (by have hno : ∀ i, 0 ≤ i → i < k → cp i ≠ cp k := fun i a b q => by { have h9 := cz_none (show cz (fun j => decide (cp j = cp k)) k = 0 by omega) i a b; simp [q] at h9 }; have hR := CHI_two ⟨I1.1, by omega⟩ I2 (by omega) (by omega) (ov_A ⟨I1.1, by omega⟩ hov) (ov_B ⟨I1.1, by omega⟩ hov) hno (sk1 := sk94) (sk2 := sk126) (by rw [← hz82', ← hs89]; exact Isk94) (by have h8 := Isk126; rw [hs121, htv] at h8; exact h8); rw [hz82', hs89, hs121, htv]; exact hR)
set_option maxHeartbeats 4000000 in
set_option maxRecDepth 100000 in
theorem c_listChoices {aS : Nat} (hG : GE W D_ r sz co ro ho ac al sd lf sq) (hcn : 0 ≤ cn ∧ cn ≤ 4) (hcp : ∀ j, 0 ≤ j → j < cn → 0 ≤ cp j ∧ cp j < W * D_ ∧ 1 ≤ ck j ∧ ck j ≤ 50) (hhs : ∀ p, 0 ≤ p → p < W * D_ → 0 ≤ hs p ∧ hs p ≤ 200) (hts : ∀ p, 0 ≤ p → p < W * D_ → 0 ≤ ts p ∧ ts p ≤ 262144000) (hsw : SL[1]? = some ("RollingBalls$Plan", "SETS_WITH", "[I", aS, 4, fun j : Nat => Value.int (iZ (SWv (j : Int))))) : CV l D vwCl cI cZ cJ SL yPL_listChoices wsPL_listChoices rmPL_listChoices [.ref (a 21)] (cW cI cZ a W D_ r sz co ro ho ac al sd lf sq hs rs ts rt_ hc li re ow tc cp ck wa qp qt qs lo sb lc cn ch sk) (fun w1 => ∃ (qp' qt' qs' : Int → Int) (ch' sk' : Int), w1 = (cW cI cZ a W D_ r sz co ro ho ac al sd lf sq hs rs ts rt_ hc li re ow tc cp ck wa qp' qt' qs' lo sb lc cn ch' sk') ∧ CHI ts hs cp ck cn cn ch' qp' qt' qs' sk') := by
  refine tt_startV (by decide) rfl (Nat.le_of_ble_eq_true rfl) ?_
  intro p e s m args below meth c hnm F
  obtain ⟨⟨hW1, hW2, hD1, hD2, hr1, hr2⟩, hGp, hGs, hGk, hGx, hGi, hGm, hGq⟩ := id hG
  have hWD := wd_b hW1 hW2 hD1 hD2
  have hPL := pl_b hW1 hW2 hD1 hD2 hr1 hr2
  have hSQ := sd_b hr1 hr2
  refine tt_aload_n F 0 rfl rfl dPL_listChoices_0 ?_
  refine tt_iconst F dPL_listChoices_1 ?_
  refine tt_put F (fun h => h) inPL tyPL tyPL_ok nmPL 21 rfl rfl 9 (by decide) we257 rfl rfl rfl rfl (show (9 : Nat) + 1 ≤ _ from Nat.le_of_ble_eq_true rfl) dPL_listChoices_2 ?_
  refine tt_aload_n F 0 rfl rfl dPL_listChoices_5 ?_
  refine tt_iconst F dPL_listChoices_6 ?_
  refine tt_put F (fun h => h) inPL tyPL tyPL_ok nmPL 21 rfl rfl 10 (by decide) we258 rfl rfl rfl rfl (show (10 : Nat) + 1 ≤ _ from Nat.le_of_ble_eq_true rfl) dPL_listChoices_7 ?_
  refine tt_iconst F dPL_listChoices_10 ?_
  refine tt_istore_n F [(1, .int (iZ 0)), (0, .ref (a 21))] rfl (by decide) rfl dPL_listChoices_11 ?_
  refine tt_sub [1, 0] rfl ?_
  refine lc_out F hG hcn hcp hhs hts hsw (fun k qp qt qs ch sk hR => ?_) (cn.toNat + 1) 0 qp qt qs 0 0 (by omega) (by omega) CHI_0
  exact tt_vret F rfl (Nat.le_of_ble_eq_true rfl) (Nat.le_of_ble_eq_true rfl) dPL_listChoices_135 ⟨_, _, _, _, _, rfl, hR⟩
abbrev rmPL_findLowTips : Room := { frames := 1, cells := 0, slots := 0, locals := 60 }
set_option maxHeartbeats 4000000 in
set_option maxRecDepth 100000 in
theorem fl_loop  (F : FX p s m args meth c cPL_findLowTips 2 none wsPL_findLowTips RPL D vwCl cI cZ cJ SL A) (hG : GE W D_ r sz co ro ho ac al sd lf sq) (hch : 0 ≤ ch ∧ ch ≤ 8) (hqc : ∀ n, 0 ≤ n → n < ch → 0 ≤ qp n ∧ qp n < W * D_ ∧ 0 ≤ qt n ∧ qt n ≤ 262144000)
    (k68 : ∀ (n_ : Int) (lo : Int → Int), (LOI (W * D_) ch ts qp qt lo) → (∀ p, 0 ≤ p → p < W * D_ → 0 ≤ lo p ∧ lo p ≤ 262144000) → TT p l e rmPL_findLowTips s m args below meth c D vwCl A 2 False Q 68 [(0, .ref (a 21)), (1, .int (iZ n_))] [] (cW cI cZ a W D_ r sz co ro ho ac al sd lf sq hs rs ts rt_ hc li re ow tc cp ck wa qp qt qs lo sb lc cn ch sk) 0 0) :
    ∀ (n : Nat) (n_ : Int) (lo : Int → Int), (ch - n_).toNat < n → (0 ≤ n_ ∧ n_ ≤ ch) → (LOI (W * D_) n_ ts qp qt lo) → (∀ p, 0 ≤ p → p < W * D_ → 0 ≤ lo p ∧ lo p ≤ 262144000) → TT p l e rmPL_findLowTips s m args below meth c D vwCl A 2 False Q 23 [(0, .ref (a 21)), (1, .int (iZ n_))] [] (cW cI cZ a W D_ r sz co ro ho ac al sd lf sq hs rs ts rt_ hc li re ow tc cp ck wa qp qt qs lo sb lc cn ch sk) 0 0 := by
  intro n
  induction n with
  | zero => intro n_ lo hn; omega
  | succ n ih =>
    intro n_ lo hn I1 I2 I3
    obtain ⟨⟨hW1, hW2, hD1, hD2, hr1, hr2⟩, hGp, hGs, hGk, hGx, hGi, hGm, hGq⟩ := id hG
    have hWD := wd_b hW1 hW2 hD1 hD2
    have hPL := pl_b hW1 hW2 hD1 hD2 hr1 hr2
    have hSQ := sd_b hr1 hr2
    refine tt_iload_n F 1 rfl rfl dPL_findLowTips_23 ?_
    refine tt_aload_n F 0 rfl rfl dPL_findLowTips_24 ?_
    refine tt_get F inPL 21 rfl rfl 9 (by decide) we257 rfl dPL_findLowTips_25 ?_
    refine tt_icmp_ge F 68 ⟨by omega, by omega⟩ ⟨by omega, by omega⟩ dPL_findLowTips_28 (by decide) (fun c28 => ?_) (fun c28 => ?_)
    · skip
      refine tt_sub [0, 1] rfl ?_
      exact k68 n_ lo (by rw [show ch = n_ by omega]; exact I2) (I3)
    · skip
      have hq0 := hqc n_ (by omega) (by omega)
      have hl0 := I3 (qp n_) hq0.1 hq0.2.1
      refine tt_aload_n F 0 rfl rfl dPL_findLowTips_31 ?_
      refine tt_get F inPL 21 rfl rfl 11 (by decide) we259 rfl dPL_findLowTips_32 ?_
      refine tt_aload_n F 0 rfl rfl dPL_findLowTips_35 ?_
      refine tt_get F inPL 21 rfl rfl 6 (by decide) we254 rfl dPL_findLowTips_36 ?_
      refine tt_iload_n F 1 rfl rfl dPL_findLowTips_39 ?_
      refine tt_iald F 25 rfl (by omega) (by omega) (by omega) dPL_findLowTips_40 ?_
      refine tt_name (fun p1 hp1 => ?_)
      refine tt_aload_n F 0 rfl rfl dPL_findLowTips_41 ?_
      refine tt_get F inPL 21 rfl rfl 11 (by decide) we259 rfl dPL_findLowTips_42 ?_
      refine tt_aload_n F 0 rfl rfl dPL_findLowTips_45 ?_
      refine tt_get F inPL 21 rfl rfl 6 (by decide) we254 rfl dPL_findLowTips_46 ?_
      refine tt_iload_n F 1 rfl rfl dPL_findLowTips_49 ?_
      refine tt_iald F 25 rfl (by omega) (by omega) (by omega) dPL_findLowTips_50 ?_
      refine tt_name (fun p2 hp2 => ?_)
      refine tt_iald F 28 rfl (by omega) (by omega) (by omega) dPL_findLowTips_51 ?_
      refine tt_name (fun lv_ hlv_ => ?_)
      refine tt_aload_n F 0 rfl rfl dPL_findLowTips_52 ?_
      refine tt_get F inPL 21 rfl rfl 7 (by decide) we255 rfl dPL_findLowTips_53 ?_
      refine tt_iload_n F 1 rfl rfl dPL_findLowTips_56 ?_
      refine tt_iald F 26 rfl (by omega) (by omega) (by omega) dPL_findLowTips_57 ?_
      refine tt_name (fun tv htv => ?_)
      refine tt_mmin F ⟨by rw [hlv_, hp2]; omega, by rw [hlv_, hp2]; omega⟩ ⟨by omega, by omega⟩ we362 we73 we46 we74 (Nat.le_of_ble_eq_true rfl) (Nat.le_of_ble_eq_true rfl) (Nat.le_of_ble_eq_true rfl) (Nat.le_of_ble_eq_true rfl) dPL_findLowTips_58 ?_
      refine tt_name (fun mn hmn => ?_)
      have hbmn : (tv < lv_ ∧ mn = tv) ∨ (lv_ ≤ tv ∧ mn = lv_) := by rw [hmn]; split <;> omega
      refine tt_iast F (fun h => h) 28 rfl (by omega) (by omega) (by omega) dPL_findLowTips_61 ?_
      refine tt_iinc F 1 [(1, .int (iZ (n_ + 1))), (0, .ref (a 21))] rfl (by decide) rfl dPL_findLowTips_62 ?_
      refine tt_goto F 23 (by decide) dPL_findLowTips_65 ?_
      refine tt_sub [1, 0] rfl ?_
      exact ih (n_ + 1) (zu lo p1 mn) (by omega) (by omega) (by rw [hp1]; exact LOI_s I2 I1.1 (by rw [hlv_, hp2, htv] at hbmn; exact hbmn)) (fun p h1 h2 => if e : p = p1 then (by rw [e, zu_s]; rw [hlv_, hp2] at hbmn; omega) else (by rw [zu_n _ _ e]; exact I3 p h1 h2))
set_option maxHeartbeats 4000000 in
set_option maxRecDepth 100000 in
theorem c_findLowTips  (hG : GE W D_ r sz co ro ho ac al sd lf sq) (hch : 0 ≤ ch ∧ ch ≤ 8) (hqc : ∀ n, 0 ≤ n → n < ch → 0 ≤ qp n ∧ qp n < W * D_ ∧ 0 ≤ qt n ∧ qt n ≤ 262144000) (hts : ∀ p, 0 ≤ p → p < W * D_ → 0 ≤ ts p ∧ ts p ≤ 262144000) : CV l D vwCl cI cZ cJ SL yPL_findLowTips wsPL_findLowTips rmPL_findLowTips [.ref (a 21)] (cW cI cZ a W D_ r sz co ro ho ac al sd lf sq hs rs ts rt_ hc li re ow tc cp ck wa qp qt qs lo sb lc cn ch sk) (fun w1 => ∃ (lo' : Int → Int), w1 = (cW cI cZ a W D_ r sz co ro ho ac al sd lf sq hs rs ts rt_ hc li re ow tc cp ck wa qp qt qs lo' sb lc cn ch sk) ∧ LOI (W * D_) ch ts qp qt lo' ∧ ∀ p, 0 ≤ p → p < W * D_ → 0 ≤ lo' p ∧ lo' p ≤ 262144000) := by
  refine tt_startV (by decide) rfl (Nat.le_of_ble_eq_true rfl) ?_
  intro p e s m args below meth c hnm F
  obtain ⟨⟨hW1, hW2, hD1, hD2, hr1, hr2⟩, hGp, hGs, hGk, hGx, hGi, hGm, hGq⟩ := id hG
  have hWD := wd_b hW1 hW2 hD1 hD2
  have hPL := pl_b hW1 hW2 hD1 hD2 hr1 hr2
  have hSQ := sd_b hr1 hr2
  refine tt_aload_n F 0 rfl rfl dPL_findLowTips_0 ?_
  refine tt_get F inPL 21 rfl rfl 4 (by decide) we252 rfl dPL_findLowTips_1 ?_
  refine tt_get F inHO 1 rfl rfl 7 (by decide) we106 rfl dPL_findLowTips_4 ?_
  refine tt_iconst F dPL_findLowTips_7 ?_
  refine tt_aload_n F 0 rfl rfl dPL_findLowTips_8 ?_
  refine tt_get F inPL 21 rfl rfl 11 (by decide) we259 rfl dPL_findLowTips_9 ?_
  refine tt_iconst F dPL_findLowTips_12 ?_
  refine tt_aload_n F 0 rfl rfl dPL_findLowTips_13 ?_
  refine tt_get F inPL 21 rfl rfl 11 (by decide) we259 rfl dPL_findLowTips_14 ?_
  refine tt_alen F 28 rfl (by omega) dPL_findLowTips_17 ?_
  refine tt_copy F (fun h => h) 6 28 rfl rfl (by omega) (by omega) (by omega) (by omega) we359 we361 we360 we60 (Nat.le_of_ble_eq_true rfl) (Nat.le_of_ble_eq_true rfl) dPL_findLowTips_18 ?_
  refine tt_iconst F dPL_findLowTips_21 ?_
  refine tt_istore_n F [(1, .int (iZ 0)), (0, .ref (a 21))] rfl (by decide) rfl dPL_findLowTips_22 ?_
  refine tt_sub [1, 0] rfl ?_
  refine fl_loop F hG hch hqc (fun n_ lo hR hR2 => ?_) (ch.toNat + 1) 0 (zcp ts lo (W * D_)) (by omega) (by omega) LOI_0 (fun p h1 h2 => by rw [zcp, if_pos ⟨h1, h2⟩]; exact hts p h1 h2)
  exact tt_vret F rfl (Nat.le_of_ble_eq_true rfl) (Nat.le_of_ble_eq_true rfl) dPL_findLowTips_68 ⟨lo, rfl, hR, hR2⟩
end CL
