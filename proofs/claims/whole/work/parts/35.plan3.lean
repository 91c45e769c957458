section CL
variable {p : Program} {l : Launch} {e : Env} {s : State} {m : MethodId} {args : Array Value} {below : List Frame} {meth : Method} {c : Code} {Q : State → Prop} {D : va_G} {cI cZ cJ : ClassId} {SL : List zS} {A : Nat → Prop} {a : Nat → Nat} {W D_ r sz : Int} {co ro ho ac al sd lf sq : Int → Int} {hs rs ts rt_ hc li re ow tc cp ck wa qp qt qs lo sb : Int → Int} {lc cn ch sk : Int}
abbrev rmPL_setsThatFree : Room := { frames := 2, cells := 0, slots := 0, locals := 51 }
set_option maxHeartbeats 4000000 in
set_option maxRecDepth 100000 in
theorem stf_loop {q sets : Int} (F : FX p s m args meth c cPL_setsThatFree 10 (some .int) wsPL_setsThatFree RPL D vwCl cI cZ cJ SL A) (hG : GE W D_ r sz co ro ho ac al sd lf sq) (hts : ∀ p, 0 ≤ p → p < W * D_ → 0 ≤ ts p ∧ ts p ≤ 262144000) (hch : 0 ≤ ch ∧ ch ≤ 8) (hqc : ∀ n, 0 ≤ n → n < ch → 0 ≤ qp n ∧ qp n < W * D_ ∧ 0 ≤ qt n ∧ qt n ≤ 262144000) (hB : BI W D_ r ts re tc ow hc) (hq : 0 ≤ q ∧ q < W * D_)
    (k155 : ∀ (tou : Int) (left : Int) (i : Int) (vis : Int → Bool), (ir left) → (∀ S, tb left S = true ↔ tb sets S = true ∧ frA W D_ r ch co ro ts re qp qt qs q S) → TT p l e rmPL_setsThatFree s m args below meth c D vwCl A 10 False Q 155 [(0, .ref (a 21)), (1, .int (iZ q)), (3, .ref (a 8)), (4, .int (iZ (ho q))), (5, .int (iZ (ts q))), (6, .int (iZ tou)), (7, .int (iZ left)), (8, .int (iZ i))] [] (cW cI cZ a W D_ r sz co ro ho ac al sd lf sq hs rs ts rt_ hc li re ow tc cp ck wa qp qt qs lo sb lc cn ch sk) 0 0) :
    ∀ (n : Nat) (tou : Int) (left : Int) (i : Int) (vis : Int → Bool), (sz - i).toNat < n → (0 ≤ i ∧ i ≤ sz) → (ir left) → (FRv W D_ r ho sd ts re q i tou vis) → (∀ S, tb left S = true ↔ frL r sz ch co ro ho ac al sd lf ts re qp qt qs q i sets S) → TT p l e rmPL_setsThatFree s m args below meth c D vwCl A 10 False Q 47 [(0, .ref (a 21)), (1, .int (iZ q)), (3, .ref (a 8)), (4, .int (iZ (ho q))), (5, .int (iZ (ts q))), (6, .int (iZ tou)), (7, .int (iZ left)), (8, .int (iZ i))] [] (cW cI cZ a W D_ r sz co ro ho ac al sd lf sq hs rs ts rt_ hc li re ow tc cp ck wa qp qt qs lo sb lc cn ch sk) 0 0 := by
  intro n
  induction n with
  | zero => intro tou left i vis hn; omega
  | succ n ih =>
    intro tou left i vis hn I1 I2 I3 I4
    obtain ⟨⟨hW1, hW2, hD1, hD2, hr1, hr2⟩, hGp, hGs, hGk, hGx, hGi, hGm, hGq⟩ := id hG
    have hWD := wd_b hW1 hW2 hD1 hD2
    have hPL := pl_b hW1 hW2 hD1 hD2 hr1 hr2
    have hSQ := sd_b hr1 hr2
    have htq := hts q hq.1 hq.2
    have htou := cz_b (fun P => !vis P && tch W r (plx W r P) (ply W r P) ts (re P) q) (z := (W + 2 * r) * (D_ + 2 * r)) (by omega)
    rw [← I3.1] at htou
    refine tt_iload F 7 rfl dPL_setsThatFree_47 ?_
    refine tt_aload_n F 2 rfl rfl dPL_setsThatFree_49 ?_
    refine tt_get F inSH 8 rfl rfl 0 (by decide) we150 rfl dPL_setsThatFree_50 ?_
    refine tt_icmp_ge F 155 ⟨by omega, by omega⟩ ⟨by omega, by omega⟩ dPL_setsThatFree_53 (by decide) (fun c53 => ?_) (fun c53 => ?_)
    · skip
      refine tt_sub [0, 1, 2, 3, 4, 5, 6, 7] rfl ?_
      exact k155 tou left i vis (I2) (fr_end hG hq.1 hq.2 hB htq.2 I1 I3 I4 (by omega))
    · skip
      have hgk := ge_k hG hq.1 hq.2 I1.1 (show i < sz by omega)
      have hbp := hB.1 _ hgk.2.2.2.1 hgk.2.2.2.2.1
      have hb := PLv_b hr1 hr2 (by omega) hbp (fun p h1 h2 => (hts p h1 h2).2)
      refine tt_iload F 5 rfl dPL_setsThatFree_56 ?_
      refine tt_if_le F 155 ⟨by omega, by omega⟩ dPL_setsThatFree_58 (by decide) (fun c58 => ?_) (fun c58 => ?_)
      · skip
        refine tt_sub [0, 1, 2, 3, 4, 5, 6, 7] rfl ?_
        exact k155 tou left i vis (I2) (fr_end hG hq.1 hq.2 hB htq.2 I1 I3 I4 (by omega))
      · skip
        refine tt_iload F 6 rfl dPL_setsThatFree_61 ?_
        refine tt_if_eq F 155 (I2) dPL_setsThatFree_63 (by decide) (fun c63 => ?_) (fun c63 => ?_)
        · skip
          refine tt_sub [0, 1, 2, 3, 4, 5, 6, 7] rfl ?_
          exact k155 tou left i vis (I2) (fr_end hG hq.1 hq.2 hB htq.2 I1 I3 I4 (by omega))
        · skip
          refine tt_iload F 4 rfl dPL_setsThatFree_66 ?_
          refine tt_aload_n F 2 rfl rfl dPL_setsThatFree_68 ?_
          refine tt_get F inSH 8 rfl rfl 4 (by decide) we162 rfl dPL_setsThatFree_69 ?_
          refine tt_iload F 7 rfl dPL_setsThatFree_72 ?_
          refine tt_iald F 12 rfl (by omega) (by omega) (by omega) dPL_setsThatFree_74 ?_
          refine tt_name (fun lv_ hlv_ => ?_)
          refine tt_iadd F dPL_setsThatFree_75 ?_
          refine tt_name (fun lev hlev => ?_)
          have hlev2 : lev = ts q + lf i := by rw [hlev, hlv_]
          refine tt_istore F [(9, .int (iZ lev)), (0, .ref (a 21)), (1, .int (iZ q)), (3, .ref (a 8)), (4, .int (iZ (ho q))), (5, .int (iZ (ts q))), (6, .int (iZ tou)), (7, .int (iZ left)), (8, .int (iZ i))] (by decide) rfl dPL_setsThatFree_76 ?_
          refine tt_aload_n F 1 rfl rfl dPL_setsThatFree_78 ?_
          refine tt_get F inPL 21 rfl rfl 5 (by decide) we253 rfl dPL_setsThatFree_79 ?_
          refine tt_get F inBA 14 rfl rfl 2 (by decide) we194 rfl dPL_setsThatFree_82 ?_
          refine tt_iload F 4 rfl dPL_setsThatFree_85 ?_
          refine tt_aload_n F 3 rfl rfl dPL_setsThatFree_87 ?_
          refine tt_get F inSH 8 rfl rfl 3 (by decide) we159 rfl dPL_setsThatFree_88 ?_
          refine tt_iload F 8 rfl dPL_setsThatFree_91 ?_
          refine tt_iald F 11 rfl (by omega) (by omega) (by omega) dPL_setsThatFree_93 ?_
          refine tt_name (fun sv hsv => ?_)
          refine tt_iadd F dPL_setsThatFree_94 ?_
          refine tt_iald F 18 rfl (by rw [hsv]; omega) (by rw [hsv]; omega) (by omega) dPL_setsThatFree_95 ?_
          refine tt_name (fun rv hrv => ?_)
          have hrv2 : rv = re (ho q + sd i) := by rw [hrv, hsv]
          refine tt_iload F 0 rfl dPL_setsThatFree_96 ?_
          refine tt_icmp_ne F 149 ⟨by rw [hrv2]; omega, by rw [hrv2]; omega⟩ ⟨by omega, by omega⟩ dPL_setsThatFree_98 (by decide) (fun c98 => ?_) (fun c98 => ?_)
          · skip
            refine tt_iinc F 8 [(8, .int (iZ (i + 1))), (9, .int (iZ lev)), (0, .ref (a 21)), (1, .int (iZ q)), (3, .ref (a 8)), (4, .int (iZ (ho q))), (5, .int (iZ (ts q))), (6, .int (iZ tou)), (7, .int (iZ left))] rfl (by decide) rfl dPL_setsThatFree_149 ?_
            refine tt_goto F 47 (by decide) dPL_setsThatFree_152 ?_
            refine tt_sub [2, 3, 4, 5, 6, 7, 8, 0] rfl ?_
            exact ih tou left (i + 1) vis (by omega) (by omega) (I2) (FRv_no hG hq.1 hq.2 I1.1 (by omega) I3 (by rw [hrv2] at c98; omega)) (fun S => (I4 S).trans (fr_no (by rw [hrv2] at c98; omega)))
          · skip
            refine tt_iinc F 6 [(6, .int (iZ (tou + (-1)))), (9, .int (iZ lev)), (0, .ref (a 21)), (1, .int (iZ q)), (3, .ref (a 8)), (4, .int (iZ (ho q))), (5, .int (iZ (ts q))), (7, .int (iZ left)), (8, .int (iZ i))] rfl (by decide) rfl dPL_setsThatFree_101 ?_
            refine tt_iload F 7 rfl dPL_setsThatFree_104 ?_
            refine tt_aload_n F 2 rfl rfl dPL_setsThatFree_106 ?_
            refine tt_iload F 1 rfl dPL_setsThatFree_107 ?_
            refine tt_aload_n F 2 rfl rfl dPL_setsThatFree_109 ?_
            refine tt_get F inPL 21 rfl rfl 4 (by decide) we252 rfl dPL_setsThatFree_110 ?_
            refine tt_get F inHO 1 rfl rfl 3 (by decide) we94 rfl dPL_setsThatFree_113 ?_
            refine tt_iload_n F 3 rfl rfl dPL_setsThatFree_116 ?_
            refine tt_iald F 2 rfl (by omega) (by omega) (by omega) dPL_setsThatFree_117 ?_
            refine tt_name (fun c1 hc1 => ?_)
            refine tt_aload_n F 4 rfl rfl dPL_setsThatFree_118 ?_
            refine tt_get F inSH 8 rfl rfl 1 (by decide) we153 rfl dPL_setsThatFree_119 ?_
            refine tt_iload F 8 rfl dPL_setsThatFree_122 ?_
            refine tt_iald F 9 rfl (by omega) (by omega) (by omega) dPL_setsThatFree_124 ?_
            refine tt_name (fun a1 ha1 => ?_)
            refine tt_iadd F dPL_setsThatFree_125 ?_
            refine tt_aload_n F 2 rfl rfl dPL_setsThatFree_126 ?_
            refine tt_get F inPL 21 rfl rfl 4 (by decide) we252 rfl dPL_setsThatFree_127 ?_
            refine tt_get F inHO 1 rfl rfl 4 (by decide) we98 rfl dPL_setsThatFree_130 ?_
            refine tt_iload_n F 3 rfl rfl dPL_setsThatFree_133 ?_
            refine tt_iald F 3 rfl (by omega) (by omega) (by omega) dPL_setsThatFree_134 ?_
            refine tt_name (fun c2 hc2 => ?_)
            refine tt_aload_n F 4 rfl rfl dPL_setsThatFree_135 ?_
            refine tt_get F inSH 8 rfl rfl 2 (by decide) we156 rfl dPL_setsThatFree_136 ?_
            refine tt_iload F 8 rfl dPL_setsThatFree_139 ?_
            refine tt_iald F 10 rfl (by omega) (by omega) (by omega) dPL_setsThatFree_141 ?_
            refine tt_name (fun a2 ha2 => ?_)
            have hca : c1 + a1 = co q + ac i := by rw [hc1, ha1]
            have hra : c2 + a2 = ro q + al i := by rw [hc2, ha2]
            refine tt_iadd F dPL_setsThatFree_142 ?_
            refine tt_cIV0 F (fun h => h) (As := [.int (iZ lev), .int (iZ (c1 + a1)), .int (iZ (c2 + a2))]) 21 rfl rfl (c_setsAbove (hs := hs) (rs := rs) (ts := ts) (rt_ := rt_) (hc := hc) (li := li) (re := re) (ow := ow) (tc := tc) (cp := cp) (ck := ck) (wa := wa) (qp := qp) (qt := qt) (qs := qs) (lo := lo) (sb := sb) (lc := lc) (cn := cn) (ch := ch) (sk := sk) (lev := lev) (x := c1 + a1) (y := c2 + a2) hG hch hqc (by omega) (by omega) ⟨by omega, by omega⟩) (cwV 3 F.1.2.2.2.2 (gw_V wd387 wd389 wd11 wd52 wd390) rfl rfl rfl (by decide +kernel) ⟨(Nat.le_of_ble_eq_true rfl), (Nat.le_of_ble_eq_true rfl)⟩) rfl rfl rfl (Nat.le_of_ble_eq_true rfl) ⟨(Nat.le_of_ble_eq_true rfl), (Nat.le_of_ble_eq_true rfl)⟩ dPL_setsThatFree_143 (fun z143 w1 hp => ?_)
            obtain ⟨hz143, rfl⟩ := hp
            refine tt_iand F dPL_setsThatFree_146 ?_
            refine tt_name (fun x147 hx147 => ?_)
            refine tt_istore F [(7, .int (iZ x147)), (6, .int (iZ (tou + (-1)))), (9, .int (iZ lev)), (0, .ref (a 21)), (1, .int (iZ q)), (3, .ref (a 8)), (4, .int (iZ (ho q))), (5, .int (iZ (ts q))), (8, .int (iZ i))] (by decide) rfl dPL_setsThatFree_147 ?_
            refine tt_iinc F 8 [(8, .int (iZ (i + 1))), (7, .int (iZ x147)), (6, .int (iZ (tou + (-1)))), (9, .int (iZ lev)), (0, .ref (a 21)), (1, .int (iZ q)), (3, .ref (a 8)), (4, .int (iZ (ho q))), (5, .int (iZ (ts q)))] rfl (by decide) rfl dPL_setsThatFree_149 ?_
            refine tt_goto F 47 (by decide) dPL_setsThatFree_152 ?_
            refine tt_sub [4, 5, 6, 7, 8, 2, 1, 0] rfl ?_
            exact ih (tou + (-1)) x147 (i + 1) (zu vis (ho q + sd i) true) (by omega) (by omega) (by rw [hx147]; exact zand_ir _ _) (by have hR := FRv_yes hG hq.1 hq.2 I1.1 (show i < sz by omega) I3 (by rw [hrv2] at c98; omega); exact hR) (fun S => by rw [hx147, tb_and, Bool.and_eq_true, I4 S, hz143.2 S, hlev2, hca, hra]; exact fr_yes I1.1 (by rw [hrv2] at c98; omega))
set_option maxHeartbeats 4000000 in
set_option maxRecDepth 100000 in
theorem c_setsThatFree {q sets : Int} (hG : GE W D_ r sz co ro ho ac al sd lf sq) (hts : ∀ p, 0 ≤ p → p < W * D_ → 0 ≤ ts p ∧ ts p ≤ 262144000) (hch : 0 ≤ ch ∧ ch ≤ 8) (hqc : ∀ n, 0 ≤ n → n < ch → 0 ≤ qp n ∧ qp n < W * D_ ∧ 0 ≤ qt n ∧ qt n ≤ 262144000) (hB : BI W D_ r ts re tc ow hc) (hq : 0 ≤ q ∧ q < W * D_) (hs_ : ir sets) : CI l D vwCl cI cZ cJ SL yPL_setsThatFree wsPL_setsThatFree rmPL_setsThatFree [.ref (a 21), .int (iZ q), .int (iZ sets)] (cW cI cZ a W D_ r sz co ro ho ac al sd lf sq hs rs ts rt_ hc li re ow tc cp ck wa qp qt qs lo sb lc cn ch sk) (fun z w1 => (ir z ∧ ∀ S, tb z S = true ↔ tb sets S = true ∧ frA W D_ r ch co ro ts re qp qt qs q S) ∧ w1 = (cW cI cZ a W D_ r sz co ro ho ac al sd lf sq hs rs ts rt_ hc li re ow tc cp ck wa qp qt qs lo sb lc cn ch sk)) := by
  refine tt_startI (by decide) rfl (Nat.le_of_ble_eq_true rfl) ?_
  intro p e s m args below meth c hnm F
  obtain ⟨⟨hW1, hW2, hD1, hD2, hr1, hr2⟩, hGp, hGs, hGk, hGx, hGi, hGm, hGq⟩ := id hG
  have hWD := wd_b hW1 hW2 hD1 hD2
  have hPL := pl_b hW1 hW2 hD1 hD2 hr1 hr2
  have hSQ := sd_b hr1 hr2
  refine tt_aload_n F 0 rfl rfl dPL_setsThatFree_0 ?_
  refine tt_get F inPL 21 rfl rfl 5 (by decide) we253 rfl dPL_setsThatFree_1 ?_
  refine tt_get F inBA 14 rfl rfl 0 (by decide) we190 rfl dPL_setsThatFree_4 ?_
  refine tt_astore_n F [(3, .ref (a 8)), (0, .ref (a 21)), (1, .int (iZ q)), (2, .int (iZ sets))] rfl (by decide) rfl dPL_setsThatFree_7 ?_
  refine tt_aload_n F 1 rfl rfl dPL_setsThatFree_8 ?_
  refine tt_get F inPL 21 rfl rfl 5 (by decide) we253 rfl dPL_setsThatFree_9 ?_
  refine tt_get F inBA 14 rfl rfl 1 (by decide) we192 rfl dPL_setsThatFree_12 ?_
  refine tt_iload_n F 2 rfl rfl dPL_setsThatFree_15 ?_
  refine tt_iald F 15 rfl (by omega) (by omega) (by omega) dPL_setsThatFree_16 ?_
  refine tt_name (fun home hhome => ?_)
  refine tt_istore F [(4, .int (iZ home)), (3, .ref (a 8)), (0, .ref (a 21)), (1, .int (iZ q)), (2, .int (iZ sets))] (by decide) rfl dPL_setsThatFree_17 ?_
  refine tt_aload_n F 2 rfl rfl dPL_setsThatFree_19 ?_
  refine tt_get F inPL 21 rfl rfl 4 (by decide) we252 rfl dPL_setsThatFree_20 ?_
  refine tt_get F inHO 1 rfl rfl 7 (by decide) we106 rfl dPL_setsThatFree_23 ?_
  refine tt_iload_n F 3 rfl rfl dPL_setsThatFree_26 ?_
  refine tt_iald F 6 rfl (by omega) (by omega) (by omega) dPL_setsThatFree_27 ?_
  refine tt_name (fun tipv htipv => ?_)
  refine tt_istore F [(5, .int (iZ tipv)), (4, .int (iZ home)), (3, .ref (a 8)), (0, .ref (a 21)), (1, .int (iZ q)), (2, .int (iZ sets))] (by decide) rfl dPL_setsThatFree_28 ?_
  refine tt_aload_n F 3 rfl rfl dPL_setsThatFree_30 ?_
  refine tt_get F inPL 21 rfl rfl 5 (by decide) we253 rfl dPL_setsThatFree_31 ?_
  refine tt_get F inBA 14 rfl rfl 5 (by decide) we202 rfl dPL_setsThatFree_34 ?_
  refine tt_iload_n F 4 rfl rfl dPL_setsThatFree_37 ?_
  refine tt_iald F 16 rfl (by omega) (by omega) (by omega) dPL_setsThatFree_38 ?_
  refine tt_name (fun tou0 htou0 => ?_)
  refine tt_istore F [(6, .int (iZ tou0)), (5, .int (iZ tipv)), (4, .int (iZ home)), (3, .ref (a 8)), (0, .ref (a 21)), (1, .int (iZ q)), (2, .int (iZ sets))] (by decide) rfl dPL_setsThatFree_39 ?_
  refine tt_iload_n F 6 rfl rfl dPL_setsThatFree_41 ?_
  refine tt_istore F [(7, .int (iZ sets)), (6, .int (iZ tou0)), (5, .int (iZ tipv)), (4, .int (iZ home)), (3, .ref (a 8)), (0, .ref (a 21)), (1, .int (iZ q)), (2, .int (iZ sets))] (by decide) rfl dPL_setsThatFree_42 ?_
  refine tt_iconst F dPL_setsThatFree_44 ?_
  refine tt_istore F [(8, .int (iZ 0)), (7, .int (iZ sets)), (6, .int (iZ tou0)), (5, .int (iZ tipv)), (4, .int (iZ home)), (3, .ref (a 8)), (0, .ref (a 21)), (1, .int (iZ q)), (2, .int (iZ sets))] (by decide) rfl dPL_setsThatFree_45 ?_
  refine tt_sub [6, 7, 5, 4, 3, 2, 1, 0] rfl ?_
  rw [hhome, htipv]
  refine stf_loop F hG hts hch hqc hB hq (fun tou left i vis J1 J2 => ?_) (sz.toNat + 1) tou0 sets 0 (fun _ => false) (by omega) (by omega) hs_ (by rw [htou0]; exact FRv_0 hq.1 hq.2 hB) (fun S => fr_0)
  refine tt_iload F 6 rfl dPL_setsThatFree_155 ?_
  exact tt_iret F rfl (Nat.le_of_ble_eq_true rfl) (Nat.le_of_ble_eq_true rfl) dPL_setsThatFree_157 ⟨⟨J1, J2⟩, rfl⟩
abbrev rmPL_setsThatCover : Room := { frames := 2, cells := 0, slots := 0, locals := 63 }
set_option maxHeartbeats 4000000 in
set_option maxRecDepth 100000 in
theorem stc_loop {q t sets : Int} (F : FX p s m args meth c cPL_setsThatCover 12 (some .int) wsPL_setsThatCover RPL D vwCl cI cZ cJ SL A) (hG : GE W D_ r sz co ro ho ac al sd lf sq) (hts : ∀ p, 0 ≤ p → p < W * D_ → 0 ≤ ts p ∧ ts p ≤ 262144000) (hlo : ∀ p, 0 ≤ p → p < W * D_ → 0 ≤ lo p ∧ lo p ≤ ts p ∧ ts p ≤ 262144000) (hrt : ∀ i j, 0 ≤ i → i < W → 0 ≤ j → j < D_ → ts (j * W + i) ≤ rt_ j ∧ rt_ j ≤ 262144000) (hch : 0 ≤ ch ∧ ch ≤ 8) (hqc : ∀ n, 0 ≤ n → n < ch → 0 ≤ qp n ∧ qp n < W * D_ ∧ 0 ≤ qt n ∧ qt n ≤ 262144000) (hB : BI W D_ r ts re tc ow hc) (hq : 0 ≤ q ∧ q < W * D_) (ht : 0 ≤ t ∧ t ≤ 262144000)
    (k184 : ∀ (left : Int) (i : Int) (li : Int → Int) (lc : Int), (ir left) → (∀ S, tb left S = true ↔ tb sets S = true ∧ cvL W (W * D_) r ch co ro ho ac al sd lf ts re ow lo qp qt qs q t sz S) → TT p l e rmPL_setsThatCover s m args below meth c D vwCl A 12 False Q 184 [(0, .ref (a 21)), (1, .int (iZ q)), (2, .int (iZ t)), (4, .ref (a 8)), (5, .int (iZ (ho q))), (6, .int (iZ left)), (7, .int (iZ i))] [] (cW cI cZ a W D_ r sz co ro ho ac al sd lf sq hs rs ts rt_ hc li re ow tc cp ck wa qp qt qs lo sb lc cn ch sk) 0 0) :
    ∀ (n : Nat) (left : Int) (i : Int) (li : Int → Int) (lc : Int), (sz - i).toNat < n → (0 ≤ i ∧ i ≤ sz) → (ir left) → (∀ S, tb left S = true ↔ tb sets S = true ∧ cvL W (W * D_) r ch co ro ho ac al sd lf ts re ow lo qp qt qs q t i S) → TT p l e rmPL_setsThatCover s m args below meth c D vwCl A 12 False Q 26 [(0, .ref (a 21)), (1, .int (iZ q)), (2, .int (iZ t)), (4, .ref (a 8)), (5, .int (iZ (ho q))), (6, .int (iZ left)), (7, .int (iZ i))] [] (cW cI cZ a W D_ r sz co ro ho ac al sd lf sq hs rs ts rt_ hc li re ow tc cp ck wa qp qt qs lo sb lc cn ch sk) 0 0 := by
  intro n
  induction n with
  | zero => intro left i li lc hn; omega
  | succ n ih =>
    intro left i li lc hn I1 I2 I4
    obtain ⟨⟨hW1, hW2, hD1, hD2, hr1, hr2⟩, hGp, hGs, hGk, hGx, hGi, hGm, hGq⟩ := id hG
    have hWD := wd_b hW1 hW2 hD1 hD2
    have hPL := pl_b hW1 hW2 hD1 hD2 hr1 hr2
    have hSQ := sd_b hr1 hr2
    refine tt_iload F 6 rfl dPL_setsThatCover_26 ?_
    refine tt_aload F 3 rfl dPL_setsThatCover_28 ?_
    refine tt_get F inSH 8 rfl rfl 0 (by decide) we150 rfl dPL_setsThatCover_30 ?_
    refine tt_icmp_ge F 184 ⟨by omega, by omega⟩ ⟨by omega, by omega⟩ dPL_setsThatCover_33 (by decide) (fun c33 => ?_) (fun c33 => ?_)
    · skip
      refine tt_sub [0, 1, 2, 3, 4, 5, 6] rfl ?_
      exact k184 left i li lc (I2) (cv_end hG I1 I4 (by omega))
    · skip
      have hgk := ge_k hG hq.1 hq.2 I1.1 (show i < sz by omega)
      have hbp := hB.1 _ hgk.2.2.2.1 hgk.2.2.2.2.1
      have hb := PLv_b hr1 hr2 (by omega) hbp (fun p h1 h2 => (hts p h1 h2).2)
      have hgm := hgk.2.2.2.2.2.2.2
      refine tt_iload_n F 2 rfl rfl dPL_setsThatCover_36 ?_
      refine tt_aload F 3 rfl dPL_setsThatCover_37 ?_
      refine tt_get F inSH 8 rfl rfl 4 (by decide) we162 rfl dPL_setsThatCover_39 ?_
      refine tt_iload F 6 rfl dPL_setsThatCover_42 ?_
      refine tt_iald F 12 rfl (by omega) (by omega) (by omega) dPL_setsThatCover_44 ?_
      refine tt_name (fun l0 hl0 => ?_)
      refine tt_iadd F dPL_setsThatCover_45 ?_
      refine tt_aload_n F 0 rfl rfl dPL_setsThatCover_46 ?_
      refine tt_get F inPL 21 rfl rfl 5 (by decide) we253 rfl dPL_setsThatCover_47 ?_
      refine tt_get F inBA 14 rfl rfl 3 (by decide) we197 rfl dPL_setsThatCover_50 ?_
      refine tt_icmp_lt F 184 ⟨by omega, by omega⟩ ⟨by omega, by omega⟩ dPL_setsThatCover_53 (by decide) (fun c53 => ?_) (fun c53 => ?_)
      · skip
        refine tt_sub [0, 1, 2, 3, 4, 5, 6] rfl ?_
        exact k184 left i li lc (I2) (cv_end hG I1 I4 (by omega))
      · skip
        refine tt_iload F 5 rfl dPL_setsThatCover_56 ?_
        refine tt_if_eq F 184 (I2) dPL_setsThatCover_58 (by decide) (fun c58 => ?_) (fun c58 => ?_)
        · skip
          refine tt_sub [0, 1, 2, 3, 4, 5, 6] rfl ?_
          exact k184 left i li lc (I2) (cv_end hG I1 I4 (by omega))
        · skip
          refine tt_iload_n F 2 rfl rfl dPL_setsThatCover_61 ?_
          refine tt_aload F 3 rfl dPL_setsThatCover_62 ?_
          refine tt_get F inSH 8 rfl rfl 4 (by decide) we162 rfl dPL_setsThatCover_64 ?_
          refine tt_iload F 6 rfl dPL_setsThatCover_67 ?_
          refine tt_iald F 12 rfl (by omega) (by omega) (by omega) dPL_setsThatCover_69 ?_
          refine tt_name (fun l1 hl1 => ?_)
          refine tt_iadd F dPL_setsThatCover_70 ?_
          refine tt_name (fun lev hlev => ?_)
          have hlev2 : lev = t + lf i := by rw [hlev, hl1]
          refine tt_istore F [(8, .int (iZ lev)), (0, .ref (a 21)), (1, .int (iZ q)), (2, .int (iZ t)), (4, .ref (a 8)), (5, .int (iZ (ho q))), (6, .int (iZ left)), (7, .int (iZ i))] (by decide) rfl dPL_setsThatCover_71 ?_
          refine tt_iload F 5 rfl dPL_setsThatCover_73 ?_
          refine tt_aload F 4 rfl dPL_setsThatCover_75 ?_
          refine tt_get F inSH 8 rfl rfl 3 (by decide) we159 rfl dPL_setsThatCover_77 ?_
          refine tt_iload F 7 rfl dPL_setsThatCover_80 ?_
          refine tt_iald F 11 rfl (by omega) (by omega) (by omega) dPL_setsThatCover_82 ?_
          refine tt_name (fun sv hsv => ?_)
          refine tt_iadd F dPL_setsThatCover_83 ?_
          refine tt_name (fun P0 hP0 => ?_)
          have hP0' : P0 = ho q + sd i := by rw [hP0, hsv]
          refine tt_istore F [(9, .int (iZ P0)), (8, .int (iZ lev)), (0, .ref (a 21)), (1, .int (iZ q)), (2, .int (iZ t)), (4, .ref (a 8)), (5, .int (iZ (ho q))), (6, .int (iZ left)), (7, .int (iZ i))] (by decide) rfl dPL_setsThatCover_84 ?_
          refine tt_aload_n F 2 rfl rfl dPL_setsThatCover_86 ?_
          refine tt_get F inPL 21 rfl rfl 4 (by decide) we252 rfl dPL_setsThatCover_87 ?_
          refine tt_get F inHO 1 rfl rfl 3 (by decide) we94 rfl dPL_setsThatCover_90 ?_
          refine tt_iload_n F 3 rfl rfl dPL_setsThatCover_93 ?_
          refine tt_iald F 2 rfl (by omega) (by omega) (by omega) dPL_setsThatCover_94 ?_
          refine tt_name (fun c1 hc1 => ?_)
          refine tt_aload F 5 rfl dPL_setsThatCover_95 ?_
          refine tt_get F inSH 8 rfl rfl 1 (by decide) we153 rfl dPL_setsThatCover_97 ?_
          refine tt_iload F 8 rfl dPL_setsThatCover_100 ?_
          refine tt_iald F 9 rfl (by omega) (by omega) (by omega) dPL_setsThatCover_102 ?_
          refine tt_name (fun a1 ha1 => ?_)
          refine tt_iadd F dPL_setsThatCover_103 ?_
          refine tt_name (fun xx hxx => ?_)
          have hxx2 : xx = co q + ac i := by rw [hxx, hc1, ha1]
          refine tt_istore F [(10, .int (iZ xx)), (9, .int (iZ P0)), (8, .int (iZ lev)), (0, .ref (a 21)), (1, .int (iZ q)), (2, .int (iZ t)), (4, .ref (a 8)), (5, .int (iZ (ho q))), (6, .int (iZ left)), (7, .int (iZ i))] (by decide) rfl dPL_setsThatCover_104 ?_
          refine tt_aload_n F 3 rfl rfl dPL_setsThatCover_106 ?_
          refine tt_get F inPL 21 rfl rfl 4 (by decide) we252 rfl dPL_setsThatCover_107 ?_
          refine tt_get F inHO 1 rfl rfl 4 (by decide) we98 rfl dPL_setsThatCover_110 ?_
          refine tt_iload_n F 4 rfl rfl dPL_setsThatCover_113 ?_
          refine tt_iald F 3 rfl (by omega) (by omega) (by omega) dPL_setsThatCover_114 ?_
          refine tt_name (fun c2 hc2 => ?_)
          refine tt_aload F 6 rfl dPL_setsThatCover_115 ?_
          refine tt_get F inSH 8 rfl rfl 2 (by decide) we156 rfl dPL_setsThatCover_117 ?_
          refine tt_iload F 9 rfl dPL_setsThatCover_120 ?_
          refine tt_iald F 10 rfl (by omega) (by omega) (by omega) dPL_setsThatCover_122 ?_
          refine tt_name (fun a2 ha2 => ?_)
          refine tt_iadd F dPL_setsThatCover_123 ?_
          refine tt_name (fun yy hyy => ?_)
          have hyy2 : yy = ro q + al i := by rw [hyy, hc2, ha2]
          refine tt_istore F [(11, .int (iZ yy)), (10, .int (iZ xx)), (9, .int (iZ P0)), (8, .int (iZ lev)), (0, .ref (a 21)), (1, .int (iZ q)), (2, .int (iZ t)), (4, .ref (a 8)), (5, .int (iZ (ho q))), (6, .int (iZ left)), (7, .int (iZ i))] (by decide) rfl dPL_setsThatCover_124 ?_
          refine tt_aload_n F 4 rfl rfl dPL_setsThatCover_126 ?_
          refine tt_get F inPL 21 rfl rfl 5 (by decide) we253 rfl dPL_setsThatCover_127 ?_
          refine tt_get F inBA 14 rfl rfl 2 (by decide) we194 rfl dPL_setsThatCover_130 ?_
          refine tt_iload F 2 rfl dPL_setsThatCover_133 ?_
          refine tt_iald F 18 rfl (by rw [hP0']; omega) (by rw [hP0']; omega) (by omega) dPL_setsThatCover_135 ?_
          refine tt_name (fun rv hrv => ?_)
          have hrv2 : rv = re (ho q + sd i) := by rw [hrv, hP0']
          refine tt_iload F 3 rfl dPL_setsThatCover_136 ?_
          refine tt_icmp_le F 163 ⟨by rw [hrv2]; omega, by rw [hrv2]; omega⟩ ⟨by omega, by omega⟩ dPL_setsThatCover_138 (by decide) (fun c138 => ?_) (fun c138 => ?_)
          · skip
            refine tt_iload F 9 rfl dPL_setsThatCover_163 ?_
            refine tt_aload_n F 4 rfl rfl dPL_setsThatCover_165 ?_
            refine tt_iload F 3 rfl dPL_setsThatCover_166 ?_
            refine tt_iload F 1 rfl dPL_setsThatCover_168 ?_
            refine tt_iload F 0 rfl dPL_setsThatCover_170 ?_
            refine tt_cIV0 F (fun h => h) (As := [.int (iZ lev), .int (iZ xx), .int (iZ yy)]) 21 rfl rfl (c_setsAbove (hs := hs) (rs := rs) (ts := ts) (rt_ := rt_) (hc := hc) (li := li) (re := re) (ow := ow) (tc := tc) (cp := cp) (ck := ck) (wa := wa) (qp := qp) (qt := qt) (qs := qs) (lo := lo) (sb := sb) (lc := lc) (cn := cn) (ch := ch) (sk := sk) (lev := lev) (x := xx) (y := yy) hG hch hqc (by omega) (by omega) ⟨by omega, by omega⟩) (cwV 3 F.1.2.2.2.2 (gw_V wd387 wd389 wd11 wd52 wd390) rfl rfl rfl (by decide +kernel) ⟨(Nat.le_of_ble_eq_true rfl), (Nat.le_of_ble_eq_true rfl)⟩) rfl rfl rfl (Nat.le_of_ble_eq_true rfl) ⟨(Nat.le_of_ble_eq_true rfl), (Nat.le_of_ble_eq_true rfl)⟩ dPL_setsThatCover_172 (fun z172 w1 hp => ?_)
            obtain ⟨hz172, rfl⟩ := hp
            refine tt_iand F dPL_setsThatCover_175 ?_
            refine tt_name (fun x176 hx176 => ?_)
            refine tt_istore F [(6, .int (iZ x176)), (11, .int (iZ yy)), (10, .int (iZ xx)), (9, .int (iZ P0)), (8, .int (iZ lev)), (0, .ref (a 21)), (1, .int (iZ q)), (2, .int (iZ t)), (4, .ref (a 8)), (5, .int (iZ (ho q))), (7, .int (iZ i))] (by decide) rfl dPL_setsThatCover_176 ?_
            refine tt_iinc F 10 [(7, .int (iZ (i + 1))), (6, .int (iZ x176)), (11, .int (iZ yy)), (10, .int (iZ xx)), (9, .int (iZ P0)), (8, .int (iZ lev)), (0, .ref (a 21)), (1, .int (iZ q)), (2, .int (iZ t)), (4, .ref (a 8)), (5, .int (iZ (ho q)))] rfl (by decide) rfl dPL_setsThatCover_178 ?_
            refine tt_goto F 26 (by decide) dPL_setsThatCover_181 ?_
            refine tt_sub [6, 7, 8, 9, 10, 1, 0] rfl ?_
            exact ih x176 (i + 1) li lc (by omega) (by omega) (by rw [hx176]; exact zand_ir _ _) (fun S => by rw [hx176, tb_and, Bool.and_eq_true, I4 S, hz172.2 S, hlev2, hxx2, hyy2, and_assoc, cv_yes I1.1 (by omega) (Or.inl (by rw [hrv2] at c138; omega))])
          · skip
            refine tt_aload_n F 4 rfl rfl dPL_setsThatCover_141 ?_
            refine tt_iload F 2 rfl dPL_setsThatCover_142 ?_
            refine tt_cIV0 F (fun h => h) (As := [.int (iZ P0)]) 21 rfl rfl (c_maySink (hs := hs) (rs := rs) (ts := ts) (rt_ := rt_) (hc := hc) (li := li) (re := re) (ow := ow) (tc := tc) (cp := cp) (ck := ck) (wa := wa) (qp := qp) (qt := qt) (qs := qs) (lo := lo) (sb := sb) (lc := lc) (cn := cn) (ch := ch) (sk := sk) (P0 := P0) hG (by rw [hP0']; omega) (by rw [hP0']; exact hbp.2.2.2.2.elim (fun q => Or.inl q.1) (fun q => Or.inr ⟨q.1, q.2.1⟩)) (fun p h1 h2 => by have := hlo p h1 h2; exact ⟨⟨by omega, by omega⟩, ⟨by omega, by omega⟩⟩)) (cwV 1 F.1.2.2.2.2 (gw_V wd375 wd377 wd9 wd52 wd378) rfl rfl rfl (by decide +kernel) ⟨(Nat.le_of_ble_eq_true rfl), (Nat.le_of_ble_eq_true rfl)⟩) rfl rfl rfl (Nat.le_of_ble_eq_true rfl) ⟨(Nat.le_of_ble_eq_true rfl), (Nat.le_of_ble_eq_true rfl)⟩ dPL_setsThatCover_144 (fun z144 w1 hp => ?_)
            obtain ⟨hz144, rfl⟩ := hp
            rw [hP0'] at hz144
            refine tt_if_eq F 178 (by rcases hz144 with h | h <;> exact ⟨by omega, by omega⟩) dPL_setsThatCover_147 (by decide) (fun c147 => ?_) (fun c147 => ?_)
            · skip
              refine tt_iinc F 10 [(7, .int (iZ (i + 1))), (11, .int (iZ yy)), (10, .int (iZ xx)), (9, .int (iZ P0)), (8, .int (iZ lev)), (0, .ref (a 21)), (1, .int (iZ q)), (2, .int (iZ t)), (4, .ref (a 8)), (5, .int (iZ (ho q))), (6, .int (iZ left))] rfl (by decide) rfl dPL_setsThatCover_178 ?_
              refine tt_goto F 26 (by decide) dPL_setsThatCover_181 ?_
              refine tt_sub [5, 6, 7, 8, 9, 10, 0] rfl ?_
              exact ih left (i + 1) li lc (by omega) (by omega) (I2) (fun S => by rw [I4 S, cv_no (fun h => h.elim (fun h => by rw [hrv2] at c138; omega) (fun h => by have := h.1; omega))])
            · skip
              refine tt_aload_n F 4 rfl rfl dPL_setsThatCover_150 ?_
              refine tt_iload F 1 rfl dPL_setsThatCover_151 ?_
              refine tt_iload F 0 rfl dPL_setsThatCover_153 ?_
              refine tt_cIV0 F (fun h => h) (As := [.int (iZ xx), .int (iZ yy)]) 21 rfl rfl (c_lowRest (hs := hs) (rs := rs) (ts := ts) (rt_ := rt_) (hc := hc) (li := li) (re := re) (ow := ow) (tc := tc) (cp := cp) (ck := ck) (wa := wa) (qp := qp) (qt := qt) (qs := qs) (lo := lo) (sb := sb) (lc := lc) (cn := cn) (ch := ch) (sk := sk) (x := xx) (y := yy) hG hlo hrt (by omega) (by omega)) (cwV 2 F.1.2.2.2.2 (gw_V wd379 wd381 wd10 wd52 wd382) rfl rfl rfl (by decide +kernel) ⟨(Nat.le_of_ble_eq_true rfl), (Nat.le_of_ble_eq_true rfl)⟩) rfl rfl rfl (Nat.le_of_ble_eq_true rfl) ⟨(Nat.le_of_ble_eq_true rfl), (Nat.le_of_ble_eq_true rfl)⟩ dPL_setsThatCover_155 (fun z155 w1 hp => ?_)
              obtain ⟨li155, lc155, rfl, I155⟩ := hp
              have hzb := cl_b hr1 hr2 (fun p h1 h2 => by have := hlo p h1 h2; omega) (by omega) I155
              have hzb2 := I155.1
              refine tt_iload F 3 rfl dPL_setsThatCover_158 ?_
              refine tt_icmp_gt F 178 ⟨by omega, by omega⟩ ⟨by omega, by omega⟩ dPL_setsThatCover_160 (by decide) (fun c160 => ?_) (fun c160 => ?_)
              · skip
                refine tt_iinc F 10 [(7, .int (iZ (i + 1))), (11, .int (iZ yy)), (10, .int (iZ xx)), (9, .int (iZ P0)), (8, .int (iZ lev)), (0, .ref (a 21)), (1, .int (iZ q)), (2, .int (iZ t)), (4, .ref (a 8)), (5, .int (iZ (ho q))), (6, .int (iZ left))] rfl (by decide) rfl dPL_setsThatCover_178 ?_
                refine tt_goto F 26 (by decide) dPL_setsThatCover_181 ?_
                refine tt_sub [5, 6, 7, 8, 9, 10, 0] rfl ?_
                exact ih left (i + 1) li155 lc155 (by omega) (by omega) (I2) (fun S => by rw [I4 S, cv_no (fun h => h.elim (fun h => by rw [hrv2] at c138; omega) (fun h => by have h9 := (low_le (level := t + lf i) I155 (by omega)).mpr (by rw [hxx2, hyy2]; exact h.2); omega))])
              · skip
                refine tt_iload F 9 rfl dPL_setsThatCover_163 ?_
                refine tt_aload_n F 4 rfl rfl dPL_setsThatCover_165 ?_
                refine tt_iload F 3 rfl dPL_setsThatCover_166 ?_
                refine tt_iload F 1 rfl dPL_setsThatCover_168 ?_
                refine tt_iload F 0 rfl dPL_setsThatCover_170 ?_
                refine tt_cIV0 F (fun h => h) (As := [.int (iZ lev), .int (iZ xx), .int (iZ yy)]) 21 rfl rfl (c_setsAbove (hs := hs) (rs := rs) (ts := ts) (rt_ := rt_) (hc := hc) (li := li155) (re := re) (ow := ow) (tc := tc) (cp := cp) (ck := ck) (wa := wa) (qp := qp) (qt := qt) (qs := qs) (lo := lo) (sb := sb) (lc := lc155) (cn := cn) (ch := ch) (sk := sk) (lev := lev) (x := xx) (y := yy) hG hch hqc (by omega) (by omega) ⟨by omega, by omega⟩) (cwV 3 F.1.2.2.2.2 (gw_V wd387 wd389 wd11 wd52 wd390) rfl rfl rfl (by decide +kernel) ⟨(Nat.le_of_ble_eq_true rfl), (Nat.le_of_ble_eq_true rfl)⟩) rfl rfl rfl (Nat.le_of_ble_eq_true rfl) ⟨(Nat.le_of_ble_eq_true rfl), (Nat.le_of_ble_eq_true rfl)⟩ dPL_setsThatCover_172 (fun z172 w1 hp => ?_)
                obtain ⟨hz172, rfl⟩ := hp
                refine tt_iand F dPL_setsThatCover_175 ?_
                refine tt_name (fun x176 hx176 => ?_)
                refine tt_istore F [(6, .int (iZ x176)), (11, .int (iZ yy)), (10, .int (iZ xx)), (9, .int (iZ P0)), (8, .int (iZ lev)), (0, .ref (a 21)), (1, .int (iZ q)), (2, .int (iZ t)), (4, .ref (a 8)), (5, .int (iZ (ho q))), (7, .int (iZ i))] (by decide) rfl dPL_setsThatCover_176 ?_
                refine tt_iinc F 10 [(7, .int (iZ (i + 1))), (6, .int (iZ x176)), (11, .int (iZ yy)), (10, .int (iZ xx)), (9, .int (iZ P0)), (8, .int (iZ lev)), (0, .ref (a 21)), (1, .int (iZ q)), (2, .int (iZ t)), (4, .ref (a 8)), (5, .int (iZ (ho q)))] rfl (by decide) rfl dPL_setsThatCover_178 ?_
                refine tt_goto F 26 (by decide) dPL_setsThatCover_181 ?_
                refine tt_sub [6, 7, 8, 9, 10, 1, 0] rfl ?_
                exact ih x176 (i + 1) li155 lc155 (by omega) (by omega) (by rw [hx176]; exact zand_ir _ _) (fun S => by rw [hx176, tb_and, Bool.and_eq_true, I4 S, hz172.2 S, hlev2, hxx2, hyy2, and_assoc, cv_yes I1.1 (by omega) (Or.inr ⟨⟨by omega, by omega⟩, by have h9 := (low_le (level := t + lf i) I155 (by omega)).mp (by omega); rw [hxx2, hyy2] at h9; exact h9⟩)])
set_option maxHeartbeats 4000000 in
set_option maxRecDepth 100000 in
theorem c_setsThatCover {q t sets : Int} (hG : GE W D_ r sz co ro ho ac al sd lf sq) (hts : ∀ p, 0 ≤ p → p < W * D_ → 0 ≤ ts p ∧ ts p ≤ 262144000) (hlo : ∀ p, 0 ≤ p → p < W * D_ → 0 ≤ lo p ∧ lo p ≤ ts p ∧ ts p ≤ 262144000) (hrt : ∀ i j, 0 ≤ i → i < W → 0 ≤ j → j < D_ → ts (j * W + i) ≤ rt_ j ∧ rt_ j ≤ 262144000) (hch : 0 ≤ ch ∧ ch ≤ 8) (hqc : ∀ n, 0 ≤ n → n < ch → 0 ≤ qp n ∧ qp n < W * D_ ∧ 0 ≤ qt n ∧ qt n ≤ 262144000) (hB : BI W D_ r ts re tc ow hc) (hq : 0 ≤ q ∧ q < W * D_) (ht : 0 ≤ t ∧ t ≤ 262144000) (hs_ : ir sets) : CI l D vwCl cI cZ cJ SL yPL_setsThatCover wsPL_setsThatCover rmPL_setsThatCover [.ref (a 21), .int (iZ q), .int (iZ t), .int (iZ sets)] (cW cI cZ a W D_ r sz co ro ho ac al sd lf sq hs rs ts rt_ hc li re ow tc cp ck wa qp qt qs lo sb lc cn ch sk) (fun z w1 => ∃ (li' : Int → Int) (lc' : Int), w1 = (cW cI cZ a W D_ r sz co ro ho ac al sd lf sq hs rs ts rt_ hc li' re ow tc cp ck wa qp qt qs lo sb lc' cn ch sk) ∧ ir z ∧ ∀ S, tb z S = true ↔ tb sets S = true ∧ cvL W (W * D_) r ch co ro ho ac al sd lf ts re ow lo qp qt qs q t sz S) := by
  refine tt_startI (by decide) rfl (Nat.le_of_ble_eq_true rfl) ?_
  intro p e s m args below meth c hnm F
  obtain ⟨⟨hW1, hW2, hD1, hD2, hr1, hr2⟩, hGp, hGs, hGk, hGx, hGi, hGm, hGq⟩ := id hG
  have hWD := wd_b hW1 hW2 hD1 hD2
  have hPL := pl_b hW1 hW2 hD1 hD2 hr1 hr2
  have hSQ := sd_b hr1 hr2
  refine tt_aload_n F 0 rfl rfl dPL_setsThatCover_0 ?_
  refine tt_get F inPL 21 rfl rfl 5 (by decide) we253 rfl dPL_setsThatCover_1 ?_
  refine tt_get F inBA 14 rfl rfl 0 (by decide) we190 rfl dPL_setsThatCover_4 ?_
  refine tt_astore F [(4, .ref (a 8)), (0, .ref (a 21)), (1, .int (iZ q)), (2, .int (iZ t)), (3, .int (iZ sets))] (by decide) rfl dPL_setsThatCover_7 ?_
  refine tt_aload_n F 1 rfl rfl dPL_setsThatCover_9 ?_
  refine tt_get F inPL 21 rfl rfl 5 (by decide) we253 rfl dPL_setsThatCover_10 ?_
  refine tt_get F inBA 14 rfl rfl 1 (by decide) we192 rfl dPL_setsThatCover_13 ?_
  refine tt_iload_n F 2 rfl rfl dPL_setsThatCover_16 ?_
  refine tt_iald F 15 rfl (by omega) (by omega) (by omega) dPL_setsThatCover_17 ?_
  refine tt_name (fun home hhome => ?_)
  refine tt_istore F [(5, .int (iZ home)), (4, .ref (a 8)), (0, .ref (a 21)), (1, .int (iZ q)), (2, .int (iZ t)), (3, .int (iZ sets))] (by decide) rfl dPL_setsThatCover_18 ?_
  refine tt_iload_n F 5 rfl rfl dPL_setsThatCover_20 ?_
  refine tt_istore F [(6, .int (iZ sets)), (5, .int (iZ home)), (4, .ref (a 8)), (0, .ref (a 21)), (1, .int (iZ q)), (2, .int (iZ t)), (3, .int (iZ sets))] (by decide) rfl dPL_setsThatCover_21 ?_
  refine tt_iconst F dPL_setsThatCover_23 ?_
  refine tt_istore F [(7, .int (iZ 0)), (6, .int (iZ sets)), (5, .int (iZ home)), (4, .ref (a 8)), (0, .ref (a 21)), (1, .int (iZ q)), (2, .int (iZ t)), (3, .int (iZ sets))] (by decide) rfl dPL_setsThatCover_24 ?_
  refine tt_sub [4, 5, 6, 3, 2, 1, 0] rfl ?_
  rw [hhome]
  refine stc_loop F hG hts hlo hrt hch hqc hB hq ht (fun left i li lc J1 J2 => ?_) (sz.toNat + 1) sets 0 li lc (by omega) (by omega) hs_ (fun S => ⟨fun h => ⟨h, fun j j0 j1 => by omega⟩, fun h => h.1⟩)
  refine tt_iload F 5 rfl dPL_setsThatCover_184 ?_
  exact tt_iret F rfl (Nat.le_of_ble_eq_true rfl) (Nat.le_of_ble_eq_true rfl) dPL_setsThatCover_186 ⟨_, _, rfl, J1, J2⟩
abbrev rmPL_setsThatSave : Room := { frames := 3, cells := 0, slots := 0, locals := 94 }
def svL (W N r sz ch : Int) (co ro ho ac al sd lf ts re ow lo qp qt qs : Int → Int) (q sets n_ S : Int) : Prop := ∃ n, 0 ≤ n ∧ n < n_ ∧ qp n = q ∧ tb (qs n) S = true ∧ tb sets S = true ∧ cvL W N r ch co ro ho ac al sd lf ts re ow lo qp qt qs q (qt n) sz S
theorem sv_s {W N r sz ch q sets n_ S : Int} {co ro ho ac al sd lf ts re ow lo qp qt qs : Int → Int} (h0 : 0 ≤ n_) : svL W N r sz ch co ro ho ac al sd lf ts re ow lo qp qt qs q sets (n_ + 1) S ↔ svL W N r sz ch co ro ho ac al sd lf ts re ow lo qp qt qs q sets n_ S ∨ (qp n_ = q ∧ tb (qs n_) S = true ∧ tb sets S = true ∧ cvL W N r ch co ro ho ac al sd lf ts re ow lo qp qt qs q (qt n_) sz S) := by
  constructor
  · rintro ⟨n, n0, n1, n2⟩
    by_cases e : n = n_
    · subst e; exact Or.inr n2
    · exact Or.inl ⟨n, n0, by omega, n2⟩
  · rintro (⟨n, n0, n1, n2⟩ | n2)
    · exact ⟨n, n0, by omega, n2⟩
    · exact ⟨n_, h0, by omega, n2⟩
set_option maxHeartbeats 4000000 in
set_option maxRecDepth 100000 in
theorem sts_loop {q sets : Int} (F : FX p s m args meth c cPL_setsThatSave 5 (some .int) wsPL_setsThatSave RPL D vwCl cI cZ cJ SL A) (hG : GE W D_ r sz co ro ho ac al sd lf sq) (hts : ∀ p, 0 ≤ p → p < W * D_ → 0 ≤ ts p ∧ ts p ≤ 262144000) (hlo : ∀ p, 0 ≤ p → p < W * D_ → 0 ≤ lo p ∧ lo p ≤ ts p ∧ ts p ≤ 262144000) (hrt : ∀ i j, 0 ≤ i → i < W → 0 ≤ j → j < D_ → ts (j * W + i) ≤ rt_ j ∧ rt_ j ≤ 262144000) (hch : 0 ≤ ch ∧ ch ≤ 8) (hqc : ∀ n, 0 ≤ n → n < ch → 0 ≤ qp n ∧ qp n < W * D_ ∧ 0 ≤ qt n ∧ qt n ≤ 262144000) (hB : BI W D_ r ts re tc ow hc) (hq : 0 ≤ q ∧ q < W * D_) (hs_ : ir sets)
    (k55 : ∀ (sav : Int) (n_ : Int) (li : Int → Int) (lc : Int), (ir sav) → (∀ S, tb sav S = true ↔ svL W (W * D_) r sz ch co ro ho ac al sd lf ts re ow lo qp qt qs q sets ch S) → TT p l e rmPL_setsThatSave s m args below meth c D vwCl A 5 False Q 55 [(0, .ref (a 21)), (1, .int (iZ q)), (2, .int (iZ sets)), (3, .int (iZ sav)), (4, .int (iZ n_))] [] (cW cI cZ a W D_ r sz co ro ho ac al sd lf sq hs rs ts rt_ hc li re ow tc cp ck wa qp qt qs lo sb lc cn ch sk) 0 0) :
    ∀ (n : Nat) (sav : Int) (n_ : Int) (li : Int → Int) (lc : Int), (ch - n_).toNat < n → (0 ≤ n_ ∧ n_ ≤ ch) → (ir sav) → (∀ S, tb sav S = true ↔ svL W (W * D_) r sz ch co ro ho ac al sd lf ts re ow lo qp qt qs q sets n_ S) → TT p l e rmPL_setsThatSave s m args below meth c D vwCl A 5 False Q 5 [(0, .ref (a 21)), (1, .int (iZ q)), (2, .int (iZ sets)), (3, .int (iZ sav)), (4, .int (iZ n_))] [] (cW cI cZ a W D_ r sz co ro ho ac al sd lf sq hs rs ts rt_ hc li re ow tc cp ck wa qp qt qs lo sb lc cn ch sk) 0 0 := by
  intro n
  induction n with
  | zero => intro sav n_ li lc hn; omega
  | succ n ih =>
    intro sav n_ li lc hn I1 I2 I4
    obtain ⟨⟨hW1, hW2, hD1, hD2, hr1, hr2⟩, hGp, hGs, hGk, hGx, hGi, hGm, hGq⟩ := id hG
    have hWD := wd_b hW1 hW2 hD1 hD2
    have hPL := pl_b hW1 hW2 hD1 hD2 hr1 hr2
    have hSQ := sd_b hr1 hr2
    refine tt_iload F 4 rfl dPL_setsThatSave_5 ?_
    refine tt_aload_n F 0 rfl rfl dPL_setsThatSave_7 ?_
    refine tt_get F inPL 21 rfl rfl 9 (by decide) we257 rfl dPL_setsThatSave_8 ?_
    refine tt_icmp_ge F 55 ⟨by omega, by omega⟩ ⟨by omega, by omega⟩ dPL_setsThatSave_11 (by decide) (fun c11 => ?_) (fun c11 => ?_)
    · skip
      refine tt_sub [0, 1, 2, 3, 4] rfl ?_
      exact k55 sav n_ li lc (I2) (by rw [show ch = n_ by omega]; rw [show ch = n_ by omega] at I4; exact I4)
    · skip
      have hq0 := hqc n_ (by omega) (by omega)
      refine tt_aload_n F 0 rfl rfl dPL_setsThatSave_14 ?_
      refine tt_get F inPL 21 rfl rfl 6 (by decide) we254 rfl dPL_setsThatSave_15 ?_
      refine tt_iload F 4 rfl dPL_setsThatSave_18 ?_
      refine tt_iald F 25 rfl (by omega) (by omega) (by omega) dPL_setsThatSave_20 ?_
      refine tt_name (fun pv hpv => ?_)
      refine tt_iload_n F 1 rfl rfl dPL_setsThatSave_21 ?_
      refine tt_icmp_ne F 49 ⟨by omega, by omega⟩ ⟨by omega, by omega⟩ dPL_setsThatSave_22 (by decide) (fun c22 => ?_) (fun c22 => ?_)
      · skip
        refine tt_iinc F 4 [(4, .int (iZ (n_ + 1))), (0, .ref (a 21)), (1, .int (iZ q)), (2, .int (iZ sets)), (3, .int (iZ sav))] rfl (by decide) rfl dPL_setsThatSave_49 ?_
        refine tt_goto F 5 (by decide) dPL_setsThatSave_52 ?_
        refine tt_sub [1, 2, 3, 4, 0] rfl ?_
        exact ih sav (n_ + 1) li lc (by omega) (by omega) (I2) (fun S => by rw [I4 S, sv_s I1.1]; exact ⟨Or.inl, fun h => h.elim id (fun h => absurd h.1 (by omega))⟩)
      · skip
        refine tt_iload_n F 3 rfl rfl dPL_setsThatSave_25 ?_
        refine tt_aload_n F 0 rfl rfl dPL_setsThatSave_26 ?_
        refine tt_iload_n F 1 rfl rfl dPL_setsThatSave_27 ?_
        refine tt_aload_n F 0 rfl rfl dPL_setsThatSave_28 ?_
        refine tt_get F inPL 21 rfl rfl 7 (by decide) we255 rfl dPL_setsThatSave_29 ?_
        refine tt_iload F 4 rfl dPL_setsThatSave_32 ?_
        refine tt_iald F 26 rfl (by omega) (by omega) (by omega) dPL_setsThatSave_34 ?_
        refine tt_name (fun tv htv => ?_)
        refine tt_iload_n F 2 rfl rfl dPL_setsThatSave_35 ?_
        refine tt_aload_n F 0 rfl rfl dPL_setsThatSave_36 ?_
        refine tt_get F inPL 21 rfl rfl 8 (by decide) we256 rfl dPL_setsThatSave_37 ?_
        refine tt_iload F 4 rfl dPL_setsThatSave_40 ?_
        refine tt_iald F 27 rfl (by omega) (by omega) (by omega) dPL_setsThatSave_42 ?_
        refine tt_name (fun sv hsv => ?_)
        refine tt_iand F dPL_setsThatSave_43 ?_
        refine tt_cIV0 F (fun h => h) (As := [.int (iZ q), .int (iZ tv), .int (iZ (zand sets sv))]) 21 rfl rfl (c_setsThatCover (hs := hs) (rs := rs) (ts := ts) (rt_ := rt_) (hc := hc) (li := li) (re := re) (ow := ow) (tc := tc) (cp := cp) (ck := ck) (wa := wa) (qp := qp) (qt := qt) (qs := qs) (lo := lo) (sb := sb) (lc := lc) (cn := cn) (ch := ch) (sk := sk) (q := q) (t := tv) (sets := zand sets sv) hG hts hlo hrt hch hqc hB (by omega) (by omega) (zand_ir _ _)) (cwV 3 F.1.2.2.2.2 (gw_V wd371 wd373 wd8 wd52 wd374) rfl rfl rfl (by decide +kernel) ⟨(Nat.le_of_ble_eq_true rfl), (Nat.le_of_ble_eq_true rfl)⟩) rfl rfl rfl (Nat.le_of_ble_eq_true rfl) ⟨(Nat.le_of_ble_eq_true rfl), (Nat.le_of_ble_eq_true rfl)⟩ dPL_setsThatSave_44 (fun z44 w1 hp => ?_)
        obtain ⟨li44, lc44, rfl, hz44⟩ := hp
        refine tt_ior F dPL_setsThatSave_47 ?_
        refine tt_name (fun x48 hx48 => ?_)
        refine tt_istore_n F [(3, .int (iZ x48)), (0, .ref (a 21)), (1, .int (iZ q)), (2, .int (iZ sets)), (4, .int (iZ n_))] rfl (by decide) rfl dPL_setsThatSave_48 ?_
        refine tt_iinc F 4 [(4, .int (iZ (n_ + 1))), (3, .int (iZ x48)), (0, .ref (a 21)), (1, .int (iZ q)), (2, .int (iZ sets))] rfl (by decide) rfl dPL_setsThatSave_49 ?_
        refine tt_goto F 5 (by decide) dPL_setsThatSave_52 ?_
        refine tt_sub [2, 3, 4, 1, 0] rfl ?_
        exact ih x48 (n_ + 1) li44 lc44 (by omega) (by omega) (by rw [hx48]; exact zor_ir _ _) (fun S => by rw [hx48, tb_or, Bool.or_eq_true, I4 S, hz44.2 S, tb_and, Bool.and_eq_true, sv_s I1.1, htv, hsv]; exact ⟨fun h => h.imp id (fun h => ⟨by omega, h.1.2, h.1.1, h.2⟩), fun h => h.imp id (fun h => ⟨⟨h.2.2.1, h.2.1⟩, h.2.2.2⟩)⟩)
set_option maxHeartbeats 4000000 in
set_option maxRecDepth 100000 in
theorem c_setsThatSave {q sets : Int} (hG : GE W D_ r sz co ro ho ac al sd lf sq) (hts : ∀ p, 0 ≤ p → p < W * D_ → 0 ≤ ts p ∧ ts p ≤ 262144000) (hlo : ∀ p, 0 ≤ p → p < W * D_ → 0 ≤ lo p ∧ lo p ≤ ts p ∧ ts p ≤ 262144000) (hrt : ∀ i j, 0 ≤ i → i < W → 0 ≤ j → j < D_ → ts (j * W + i) ≤ rt_ j ∧ rt_ j ≤ 262144000) (hch : 0 ≤ ch ∧ ch ≤ 8) (hqc : ∀ n, 0 ≤ n → n < ch → 0 ≤ qp n ∧ qp n < W * D_ ∧ 0 ≤ qt n ∧ qt n ≤ 262144000) (hB : BI W D_ r ts re tc ow hc) (hq : 0 ≤ q ∧ q < W * D_) (hs_ : ir sets) : CI l D vwCl cI cZ cJ SL yPL_setsThatSave wsPL_setsThatSave rmPL_setsThatSave [.ref (a 21), .int (iZ q), .int (iZ sets)] (cW cI cZ a W D_ r sz co ro ho ac al sd lf sq hs rs ts rt_ hc li re ow tc cp ck wa qp qt qs lo sb lc cn ch sk) (fun z w1 => ∃ (li' : Int → Int) (lc' : Int), w1 = (cW cI cZ a W D_ r sz co ro ho ac al sd lf sq hs rs ts rt_ hc li' re ow tc cp ck wa qp qt qs lo sb lc' cn ch sk) ∧ ir z ∧ ∀ S, tb z S = true ↔ svL W (W * D_) r sz ch co ro ho ac al sd lf ts re ow lo qp qt qs q sets ch S) := by
  refine tt_startI (by decide) rfl (Nat.le_of_ble_eq_true rfl) ?_
  intro p e s m args below meth c hnm F
  obtain ⟨⟨hW1, hW2, hD1, hD2, hr1, hr2⟩, hGp, hGs, hGk, hGx, hGi, hGm, hGq⟩ := id hG
  have hWD := wd_b hW1 hW2 hD1 hD2
  have hPL := pl_b hW1 hW2 hD1 hD2 hr1 hr2
  have hSQ := sd_b hr1 hr2
  refine tt_iconst F dPL_setsThatSave_0 ?_
  refine tt_istore_n F [(3, .int (iZ 0)), (0, .ref (a 21)), (1, .int (iZ q)), (2, .int (iZ sets))] rfl (by decide) rfl dPL_setsThatSave_1 ?_
  refine tt_iconst F dPL_setsThatSave_2 ?_
  refine tt_istore F [(4, .int (iZ 0)), (3, .int (iZ 0)), (0, .ref (a 21)), (1, .int (iZ q)), (2, .int (iZ sets))] (by decide) rfl dPL_setsThatSave_3 ?_
  refine tt_sub [2, 3, 4, 1, 0] rfl ?_
  refine sts_loop F hG hts hlo hrt hch hqc hB hq hs_ (fun sav n_ li lc J1 J2 => ?_) (ch.toNat + 1) 0 0 li lc (by omega) (by omega) ⟨by omega, by omega⟩ (fun S => by rw [tb_0]; exact ⟨fun h => (by cases h), fun ⟨n, n0, n1, _⟩ => by omega⟩)
  refine tt_iload_n F 3 rfl rfl dPL_setsThatSave_55 ?_
  exact tt_iret F rfl (Nat.le_of_ble_eq_true rfl) (Nat.le_of_ble_eq_true rfl) dPL_setsThatSave_56 ⟨_, _, rfl, J1, J2⟩
abbrev rmPL_setsThatMayLower : Room := { frames := 2, cells := 0, slots := 0, locals := 63 }
set_option maxHeartbeats 4000000 in
set_option maxRecDepth 100000 in
theorem sml_loop {q sets : Int} (F : FX p s m args meth c cPL_setsThatMayLower 10 (some .int) wsPL_setsThatMayLower RPL D vwCl cI cZ cJ SL A) (hG : GE W D_ r sz co ro ho ac al sd lf sq) (hts : ∀ p, 0 ≤ p → p < W * D_ → 0 ≤ ts p ∧ ts p ≤ 262144000) (hlo : ∀ p, 0 ≤ p → p < W * D_ → 0 ≤ lo p ∧ lo p ≤ ts p ∧ ts p ≤ 262144000) (hrt : ∀ i j, 0 ≤ i → i < W → 0 ≤ j → j < D_ → ts (j * W + i) ≤ rt_ j ∧ rt_ j ≤ 262144000) (hch : 0 ≤ ch ∧ ch ≤ 8) (hqc : ∀ n, 0 ≤ n → n < ch → 0 ≤ qp n ∧ qp n < W * D_ ∧ 0 ≤ qt n ∧ qt n ≤ 262144000) (hB : BI W D_ r ts re tc ow hc) (hwa : ∀ p, 0 ≤ p → p < W * D_ → wa p = 0 ∨ wa p = 1) (hq : 0 ≤ q ∧ q < W * D_)
    (k137 : ∀ (left : Int) (i : Int) (li : Int → Int) (lc : Int), (ir left) → (∀ S, tb left S = true ↔ tb sets S = true ∧ mlL W (W * D_) r ch co ro ho ac al sd ow lo wa qp qt qs q sz S) → TT p l e rmPL_setsThatMayLower s m args below meth c D vwCl A 10 False Q 137 [(0, .ref (a 21)), (1, .int (iZ q)), (3, .ref (a 8)), (4, .int (iZ (ho q))), (5, .int (iZ left)), (6, .int (iZ i))] [] (cW cI cZ a W D_ r sz co ro ho ac al sd lf sq hs rs ts rt_ hc li re ow tc cp ck wa qp qt qs lo sb lc cn ch sk) 0 0) :
    ∀ (n : Nat) (left : Int) (i : Int) (li : Int → Int) (lc : Int), (sz - i).toNat < n → (0 ≤ i ∧ i ≤ sz) → (ir left) → (∀ S, tb left S = true ↔ tb sets S = true ∧ mlL W (W * D_) r ch co ro ho ac al sd ow lo wa qp qt qs q i S) → TT p l e rmPL_setsThatMayLower s m args below meth c D vwCl A 10 False Q 25 [(0, .ref (a 21)), (1, .int (iZ q)), (3, .ref (a 8)), (4, .int (iZ (ho q))), (5, .int (iZ left)), (6, .int (iZ i))] [] (cW cI cZ a W D_ r sz co ro ho ac al sd lf sq hs rs ts rt_ hc li re ow tc cp ck wa qp qt qs lo sb lc cn ch sk) 0 0 := by
  intro n
  induction n with
  | zero => intro left i li lc hn; omega
  | succ n ih =>
    intro left i li lc hn I1 I2 I4
    obtain ⟨⟨hW1, hW2, hD1, hD2, hr1, hr2⟩, hGp, hGs, hGk, hGx, hGi, hGm, hGq⟩ := id hG
    have hWD := wd_b hW1 hW2 hD1 hD2
    have hPL := pl_b hW1 hW2 hD1 hD2 hr1 hr2
    have hSQ := sd_b hr1 hr2
    refine tt_iload F 5 rfl dPL_setsThatMayLower_25 ?_
    refine tt_aload_n F 2 rfl rfl dPL_setsThatMayLower_27 ?_
    refine tt_get F inSH 8 rfl rfl 0 (by decide) we150 rfl dPL_setsThatMayLower_28 ?_
    refine tt_icmp_ge F 137 ⟨by omega, by omega⟩ ⟨by omega, by omega⟩ dPL_setsThatMayLower_31 (by decide) (fun c31 => ?_) (fun c31 => ?_)
    · skip
      refine tt_sub [0, 1, 2, 3, 4, 5] rfl ?_
      exact k137 left i li lc (I2) (ml_end I1 I4 (by omega))
    · skip
      have hgk := ge_k hG hq.1 hq.2 I1.1 (show i < sz by omega)
      have hbp := hB.1 _ hgk.2.2.2.1 hgk.2.2.2.2.1
      have hb := PLv_b hr1 hr2 (by omega) hbp (fun p h1 h2 => (hts p h1 h2).2)
      refine tt_iload F 4 rfl dPL_setsThatMayLower_34 ?_
      refine tt_if_eq F 137 (I2) dPL_setsThatMayLower_36 (by decide) (fun c36 => ?_) (fun c36 => ?_)
      · skip
        refine tt_sub [0, 1, 2, 3, 4, 5] rfl ?_
        exact k137 left i li lc (I2) (ml_end I1 I4 (by omega))
      · skip
        refine tt_aload_n F 0 rfl rfl dPL_setsThatMayLower_39 ?_
        refine tt_get F inPL 21 rfl rfl 5 (by decide) we253 rfl dPL_setsThatMayLower_40 ?_
        refine tt_get F inBA 14 rfl rfl 4 (by decide) we199 rfl dPL_setsThatMayLower_43 ?_
        refine tt_iload F 3 rfl dPL_setsThatMayLower_46 ?_
        refine tt_aload_n F 2 rfl rfl dPL_setsThatMayLower_48 ?_
        refine tt_get F inSH 8 rfl rfl 3 (by decide) we159 rfl dPL_setsThatMayLower_49 ?_
        refine tt_iload F 5 rfl dPL_setsThatMayLower_52 ?_
        refine tt_iald F 11 rfl (by omega) (by omega) (by omega) dPL_setsThatMayLower_54 ?_
        refine tt_name (fun sv hsv => ?_)
        refine tt_iadd F dPL_setsThatMayLower_55 ?_
        refine tt_iald F 19 rfl (by rw [hsv]; omega) (by rw [hsv]; omega) (by omega) dPL_setsThatMayLower_56 ?_
        refine tt_name (fun ov hov => ?_)
        have hov2 : ov = ow (ho q + sd i) := by rw [hov, hsv]
        have hovb : -1 ≤ ov ∧ ov < W * D_ := by rw [hov2]; exact hbp.2.2.2.2.elim (fun q => by omega) (fun q => by omega)
        refine tt_iload_n F 1 rfl rfl dPL_setsThatMayLower_57 ?_
        refine tt_icmp_ne F 131 ⟨by omega, by omega⟩ ⟨by omega, by omega⟩ dPL_setsThatMayLower_58 (by decide) (fun c58 => ?_) (fun c58 => ?_)
        · skip
          refine tt_iinc F 5 [(6, .int (iZ (i + 1))), (0, .ref (a 21)), (1, .int (iZ q)), (3, .ref (a 8)), (4, .int (iZ (ho q))), (5, .int (iZ left))] rfl (by decide) rfl dPL_setsThatMayLower_131 ?_
          refine tt_goto F 25 (by decide) dPL_setsThatMayLower_134 ?_
          refine tt_sub [1, 2, 3, 4, 5, 0] rfl ?_
          exact ih left (i + 1) li lc (by omega) (by omega) (I2) (fun S => by rw [I4 S, ml_no (Or.inl (by rw [hov2] at c58; exact c58))])
        · skip
          refine tt_aload_n F 0 rfl rfl dPL_setsThatMayLower_61 ?_
          refine tt_get F inPL 21 rfl rfl 4 (by decide) we252 rfl dPL_setsThatMayLower_62 ?_
          refine tt_get F inHO 1 rfl rfl 3 (by decide) we94 rfl dPL_setsThatMayLower_65 ?_
          refine tt_iload_n F 1 rfl rfl dPL_setsThatMayLower_68 ?_
          refine tt_iald F 2 rfl (by omega) (by omega) (by omega) dPL_setsThatMayLower_69 ?_
          refine tt_name (fun c1 hc1 => ?_)
          refine tt_aload_n F 2 rfl rfl dPL_setsThatMayLower_70 ?_
          refine tt_get F inSH 8 rfl rfl 1 (by decide) we153 rfl dPL_setsThatMayLower_71 ?_
          refine tt_iload F 5 rfl dPL_setsThatMayLower_74 ?_
          refine tt_iald F 9 rfl (by omega) (by omega) (by omega) dPL_setsThatMayLower_76 ?_
          refine tt_name (fun a1 ha1 => ?_)
          refine tt_iadd F dPL_setsThatMayLower_77 ?_
          refine tt_name (fun xx hxx => ?_)
          have hxx2 : xx = co q + ac i := by rw [hxx, hc1, ha1]
          refine tt_istore F [(7, .int (iZ xx)), (0, .ref (a 21)), (1, .int (iZ q)), (3, .ref (a 8)), (4, .int (iZ (ho q))), (5, .int (iZ left)), (6, .int (iZ i))] (by decide) rfl dPL_setsThatMayLower_78 ?_
          refine tt_aload_n F 1 rfl rfl dPL_setsThatMayLower_80 ?_
          refine tt_get F inPL 21 rfl rfl 4 (by decide) we252 rfl dPL_setsThatMayLower_81 ?_
          refine tt_get F inHO 1 rfl rfl 4 (by decide) we98 rfl dPL_setsThatMayLower_84 ?_
          refine tt_iload_n F 2 rfl rfl dPL_setsThatMayLower_87 ?_
          refine tt_iald F 3 rfl (by omega) (by omega) (by omega) dPL_setsThatMayLower_88 ?_
          refine tt_name (fun c2 hc2 => ?_)
          refine tt_aload_n F 3 rfl rfl dPL_setsThatMayLower_89 ?_
          refine tt_get F inSH 8 rfl rfl 2 (by decide) we156 rfl dPL_setsThatMayLower_90 ?_
          refine tt_iload F 6 rfl dPL_setsThatMayLower_93 ?_
          refine tt_iald F 10 rfl (by omega) (by omega) (by omega) dPL_setsThatMayLower_95 ?_
          refine tt_name (fun a2 ha2 => ?_)
          refine tt_iadd F dPL_setsThatMayLower_96 ?_
          refine tt_name (fun yy hyy => ?_)
          have hyy2 : yy = ro q + al i := by rw [hyy, hc2, ha2]
          refine tt_istore F [(8, .int (iZ yy)), (7, .int (iZ xx)), (0, .ref (a 21)), (1, .int (iZ q)), (3, .ref (a 8)), (4, .int (iZ (ho q))), (5, .int (iZ left)), (6, .int (iZ i))] (by decide) rfl dPL_setsThatMayLower_97 ?_
          refine tt_aload_n F 2 rfl rfl dPL_setsThatMayLower_99 ?_
          refine tt_iload F 1 rfl dPL_setsThatMayLower_100 ?_
          refine tt_iload F 0 rfl dPL_setsThatMayLower_102 ?_
          refine tt_cIV0 F (fun h => h) (As := [.int (iZ xx), .int (iZ yy)]) 21 rfl rfl (c_lowRest (hs := hs) (rs := rs) (ts := ts) (rt_ := rt_) (hc := hc) (li := li) (re := re) (ow := ow) (tc := tc) (cp := cp) (ck := ck) (wa := wa) (qp := qp) (qt := qt) (qs := qs) (lo := lo) (sb := sb) (lc := lc) (cn := cn) (ch := ch) (sk := sk) (x := xx) (y := yy) hG hlo hrt (by omega) (by omega)) (cwV 2 F.1.2.2.2.2 (gw_V wd379 wd381 wd10 wd52 wd382) rfl rfl rfl (by decide +kernel) ⟨(Nat.le_of_ble_eq_true rfl), (Nat.le_of_ble_eq_true rfl)⟩) rfl rfl rfl (Nat.le_of_ble_eq_true rfl) ⟨(Nat.le_of_ble_eq_true rfl), (Nat.le_of_ble_eq_true rfl)⟩ dPL_setsThatMayLower_104 (fun z104 w1 hp => ?_)
          obtain ⟨li104, lc104, rfl, I104⟩ := hp
          have hzb := cl_b hr1 hr2 (fun p h1 h2 => by have := hlo p h1 h2; omega) (by omega) I104
          have hzb2 := I104.1
          have hml := ml_list (wa := wa) (by omega) I104
          rw [hxx2, hyy2] at hml
          refine tt_istore F [(9, .int (iZ z104)), (8, .int (iZ yy)), (7, .int (iZ xx)), (0, .ref (a 21)), (1, .int (iZ q)), (3, .ref (a 8)), (4, .int (iZ (ho q))), (5, .int (iZ left)), (6, .int (iZ i))] (by decide) rfl dPL_setsThatMayLower_107 ?_
          refine tt_aload_n F 3 rfl rfl dPL_setsThatMayLower_109 ?_
          refine tt_cIV0 F (fun h => h) (As := []) 21 rfl rfl (c_isWantedListed (hs := hs) (rs := rs) (ts := ts) (rt_ := rt_) (hc := hc) (li := li104) (re := re) (ow := ow) (tc := tc) (cp := cp) (ck := ck) (wa := wa) (qp := qp) (qt := qt) (qs := qs) (lo := lo) (sb := sb) (lc := lc104) (cn := cn) (ch := ch) (sk := sk) hG hwa (by have := lsts_b (by omega) I104.2.2.2; omega) (fun k h1 h2 => by have g := lsts_get (by omega) I104.2.2.2 h1 h2; exact ⟨g.1, g.2.1⟩)) (cwV 0 F.1.2.2.2.2 (gw_V wd429 wd431 wd18 wd52 wd432) rfl rfl rfl (by decide +kernel) ⟨(Nat.le_of_ble_eq_true rfl), (Nat.le_of_ble_eq_true rfl)⟩) rfl rfl rfl (Nat.le_of_ble_eq_true rfl) ⟨(Nat.le_of_ble_eq_true rfl), (Nat.le_of_ble_eq_true rfl)⟩ dPL_setsThatMayLower_110 (fun z110 w1 hp => ?_)
          obtain ⟨hz110, rfl⟩ := hp
          refine tt_if_eq F 131 (by rcases hz110 with h | h <;> exact ⟨by omega, by omega⟩) dPL_setsThatMayLower_113 (by decide) (fun c113 => ?_) (fun c113 => ?_)
          · skip
            have hnm : ∀ L, ¬ mlC W (W * D_) r lo wa (co q + ac i) (ro q + al i) L := fun L hL => by
              have e9 : L = z104 := lowR_u hL.1 (by have h8 := lowR_of I104; rw [hxx2, hyy2] at h8; exact h8)
              rw [e9] at hL
              obtain ⟨k, k0, k1, k2⟩ := hml.mpr hL
              rcases hz110 with ⟨h, -⟩ | ⟨-, h⟩
              · omega
              · have := h k k0 k1; omega
            clear hz110 hml
            refine tt_iinc F 8 [(6, .int (iZ (i + 1))), (9, .int (iZ z104)), (8, .int (iZ yy)), (7, .int (iZ xx)), (0, .ref (a 21)), (1, .int (iZ q)), (3, .ref (a 8)), (4, .int (iZ (ho q))), (5, .int (iZ left))] rfl (by decide) rfl dPL_setsThatMayLower_131 ?_
            refine tt_goto F 25 (by decide) dPL_setsThatMayLower_134 ?_
            refine tt_sub [4, 5, 6, 7, 8, 0] rfl ?_
            exact ih left (i + 1) li104 lc104 (by omega) (by omega) (I2) (fun S => by rw [I4 S, ml_no (Or.inr (fun L hL => hnm L hL))])
          · skip
            have hyes : mlC W (W * D_) r lo wa (co q + ac i) (ro q + al i) z104 := hml.mp (by
              rcases hz110 with ⟨-, h⟩ | ⟨h, -⟩
              · exact h
              · omega)
            clear hz110 hml
            refine tt_iload F 7 rfl dPL_setsThatMayLower_116 ?_
            refine tt_aload_n F 3 rfl rfl dPL_setsThatMayLower_118 ?_
            refine tt_iload F 0 rfl dPL_setsThatMayLower_119 ?_
            refine tt_iload F 2 rfl dPL_setsThatMayLower_121 ?_
            refine tt_iload F 1 rfl dPL_setsThatMayLower_123 ?_
            refine tt_cIV0 F (fun h => h) (As := [.int (iZ z104), .int (iZ xx), .int (iZ yy)]) 21 rfl rfl (c_setsAbove (hs := hs) (rs := rs) (ts := ts) (rt_ := rt_) (hc := hc) (li := li104) (re := re) (ow := ow) (tc := tc) (cp := cp) (ck := ck) (wa := wa) (qp := qp) (qt := qt) (qs := qs) (lo := lo) (sb := sb) (lc := lc104) (cn := cn) (ch := ch) (sk := sk) (lev := z104) (x := xx) (y := yy) hG hch hqc (by omega) (by omega) ⟨by omega, by omega⟩) (cwV 3 F.1.2.2.2.2 (gw_V wd387 wd389 wd11 wd52 wd390) rfl rfl rfl (by decide +kernel) ⟨(Nat.le_of_ble_eq_true rfl), (Nat.le_of_ble_eq_true rfl)⟩) rfl rfl rfl (Nat.le_of_ble_eq_true rfl) ⟨(Nat.le_of_ble_eq_true rfl), (Nat.le_of_ble_eq_true rfl)⟩ dPL_setsThatMayLower_125 (fun z125 w1 hp => ?_)
            obtain ⟨hz125, rfl⟩ := hp
            refine tt_iand F dPL_setsThatMayLower_128 ?_
            refine tt_name (fun x129 hx129 => ?_)
            refine tt_istore F [(5, .int (iZ x129)), (9, .int (iZ z104)), (8, .int (iZ yy)), (7, .int (iZ xx)), (0, .ref (a 21)), (1, .int (iZ q)), (3, .ref (a 8)), (4, .int (iZ (ho q))), (6, .int (iZ i))] (by decide) rfl dPL_setsThatMayLower_129 ?_
            refine tt_iinc F 8 [(6, .int (iZ (i + 1))), (5, .int (iZ x129)), (9, .int (iZ z104)), (8, .int (iZ yy)), (7, .int (iZ xx)), (0, .ref (a 21)), (1, .int (iZ q)), (3, .ref (a 8)), (4, .int (iZ (ho q)))] rfl (by decide) rfl dPL_setsThatMayLower_131 ?_
            refine tt_goto F 25 (by decide) dPL_setsThatMayLower_134 ?_
            refine tt_sub [5, 6, 7, 8, 1, 0] rfl ?_
            exact ih x129 (i + 1) li104 lc104 (by omega) (by omega) (by rw [hx129]; exact zand_ir _ _) (fun S => by rw [hx129, tb_and, Bool.and_eq_true, I4 S, hz125.2 S, hxx2, hyy2, and_assoc, ml_yes I1.1 (by rw [hov2] at c58; exact c58) hyes])
set_option maxHeartbeats 4000000 in
set_option maxRecDepth 100000 in
theorem c_setsThatMayLower {q sets : Int} (hG : GE W D_ r sz co ro ho ac al sd lf sq) (hts : ∀ p, 0 ≤ p → p < W * D_ → 0 ≤ ts p ∧ ts p ≤ 262144000) (hlo : ∀ p, 0 ≤ p → p < W * D_ → 0 ≤ lo p ∧ lo p ≤ ts p ∧ ts p ≤ 262144000) (hrt : ∀ i j, 0 ≤ i → i < W → 0 ≤ j → j < D_ → ts (j * W + i) ≤ rt_ j ∧ rt_ j ≤ 262144000) (hch : 0 ≤ ch ∧ ch ≤ 8) (hqc : ∀ n, 0 ≤ n → n < ch → 0 ≤ qp n ∧ qp n < W * D_ ∧ 0 ≤ qt n ∧ qt n ≤ 262144000) (hB : BI W D_ r ts re tc ow hc) (hwa : ∀ p, 0 ≤ p → p < W * D_ → wa p = 0 ∨ wa p = 1) (hq : 0 ≤ q ∧ q < W * D_) (hs_ : ir sets) : CI l D vwCl cI cZ cJ SL yPL_setsThatMayLower wsPL_setsThatMayLower rmPL_setsThatMayLower [.ref (a 21), .int (iZ q), .int (iZ sets)] (cW cI cZ a W D_ r sz co ro ho ac al sd lf sq hs rs ts rt_ hc li re ow tc cp ck wa qp qt qs lo sb lc cn ch sk) (fun z w1 => ∃ (li' : Int → Int) (lc' : Int), w1 = (cW cI cZ a W D_ r sz co ro ho ac al sd lf sq hs rs ts rt_ hc li' re ow tc cp ck wa qp qt qs lo sb lc' cn ch sk) ∧ ir z ∧ ∀ S, tb z S = true ↔ tb sets S = true ∧ mlL W (W * D_) r ch co ro ho ac al sd ow lo wa qp qt qs q sz S) := by
  refine tt_startI (by decide) rfl (Nat.le_of_ble_eq_true rfl) ?_
  intro p e s m args below meth c hnm F
  obtain ⟨⟨hW1, hW2, hD1, hD2, hr1, hr2⟩, hGp, hGs, hGk, hGx, hGi, hGm, hGq⟩ := id hG
  have hWD := wd_b hW1 hW2 hD1 hD2
  have hPL := pl_b hW1 hW2 hD1 hD2 hr1 hr2
  have hSQ := sd_b hr1 hr2
  refine tt_aload_n F 0 rfl rfl dPL_setsThatMayLower_0 ?_
  refine tt_get F inPL 21 rfl rfl 5 (by decide) we253 rfl dPL_setsThatMayLower_1 ?_
  refine tt_get F inBA 14 rfl rfl 0 (by decide) we190 rfl dPL_setsThatMayLower_4 ?_
  refine tt_astore_n F [(3, .ref (a 8)), (0, .ref (a 21)), (1, .int (iZ q)), (2, .int (iZ sets))] rfl (by decide) rfl dPL_setsThatMayLower_7 ?_
  refine tt_aload_n F 1 rfl rfl dPL_setsThatMayLower_8 ?_
  refine tt_get F inPL 21 rfl rfl 5 (by decide) we253 rfl dPL_setsThatMayLower_9 ?_
  refine tt_get F inBA 14 rfl rfl 1 (by decide) we192 rfl dPL_setsThatMayLower_12 ?_
  refine tt_iload_n F 2 rfl rfl dPL_setsThatMayLower_15 ?_
  refine tt_iald F 15 rfl (by omega) (by omega) (by omega) dPL_setsThatMayLower_16 ?_
  refine tt_name (fun home hhome => ?_)
  refine tt_istore F [(4, .int (iZ home)), (3, .ref (a 8)), (0, .ref (a 21)), (1, .int (iZ q)), (2, .int (iZ sets))] (by decide) rfl dPL_setsThatMayLower_17 ?_
  refine tt_iload_n F 4 rfl rfl dPL_setsThatMayLower_19 ?_
  refine tt_istore F [(5, .int (iZ sets)), (4, .int (iZ home)), (3, .ref (a 8)), (0, .ref (a 21)), (1, .int (iZ q)), (2, .int (iZ sets))] (by decide) rfl dPL_setsThatMayLower_20 ?_
  refine tt_iconst F dPL_setsThatMayLower_22 ?_
  refine tt_istore F [(6, .int (iZ 0)), (5, .int (iZ sets)), (4, .int (iZ home)), (3, .ref (a 8)), (0, .ref (a 21)), (1, .int (iZ q)), (2, .int (iZ sets))] (by decide) rfl dPL_setsThatMayLower_23 ?_
  refine tt_sub [4, 5, 3, 2, 1, 0] rfl ?_
  rw [hhome]
  refine sml_loop F hG hts hlo hrt hch hqc hB hwa hq (fun left i li lc J1 J2 => ?_) (sz.toNat + 1) sets 0 li lc (by omega) (by omega) hs_ (fun S => ⟨fun h => ⟨h, fun j j0 j1 => by omega⟩, fun h => h.1⟩)
  refine tt_iload F 4 rfl dPL_setsThatMayLower_137 ?_
  exact tt_iret F rfl (Nat.le_of_ble_eq_true rfl) (Nat.le_of_ble_eq_true rfl) dPL_setsThatMayLower_139 ⟨_, _, rfl, J1, J2⟩
end CL
