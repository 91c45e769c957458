section CL
variable {p : Program} {l : Launch} {e : Env} {s : State} {m : MethodId} {args : Array Value} {below : List Frame} {meth : Method} {c : Code} {Q : State → Prop} {D : va_G} {cI cZ cJ : ClassId} {SL : List zS} {A : Nat → Prop} {a : Nat → Nat} {W D_ r sz : Int} {co ro ho ac al sd lf sq : Int → Int} {hs rs ts rt_ hc li re ow tc cp ck wa qp qt qs lo sb : Int → Int} {lc cn ch sk : Int}
abbrev rmPL_bestSet : Room := { frames := 4, cells := 0, slots := 0, locals := 118 }
set_option maxHeartbeats 4000000 in
set_option maxRecDepth 100000 in
theorem bs_loop1  (F : FX p s m args meth c cPL_bestSet 4 (some .int) wsPL_bestSet RPL D vwCl cI cZ cJ SL A) (hG : GE W D_ r sz co ro ho ac al sd lf sq) (hts : ∀ p, 0 ≤ p → p < W * D_ → 0 ≤ ts p ∧ ts p ≤ 262144000) (hrt : ∀ i j, 0 ≤ i → i < W → 0 ≤ j → j < D_ → ts (j * W + i) ≤ rt_ j ∧ rt_ j ≤ 262144000) (hlo : ∀ p, 0 ≤ p → p < W * D_ → 0 ≤ lo p ∧ lo p ≤ ts p ∧ ts p ≤ 262144000) (hch : 0 ≤ ch ∧ ch ≤ 8) (hqc : ∀ n, 0 ≤ n → n < ch → 0 ≤ qp n ∧ qp n < W * D_ ∧ 0 ≤ qt n ∧ qt n ≤ 262144000) (hB : BI W D_ r ts re tc ow hc) (hwa : ∀ p, 0 ≤ p → p < W * D_ → wa p = 0 ∨ wa p = 1) (hcn : 0 ≤ cn ∧ cn ≤ 4) (hcp : ∀ j, 0 ≤ j → j < cn → 0 ≤ cp j ∧ cp j < W * D_ ∧ 1 ≤ ck j ∧ ck j ≤ 50)
    (k84 : ∀ (sets : Int) (p_ : Int) (li : Int → Int) (lc : Int), (ir sets) → (∀ S, 0 ≤ S → S < 16 → (tb sets S = true ↔ l1C W D_ r sz cn ch co ro ho ac al sd lf ts re ow lo cp qp qt qs wa (W * D_) S)) → TT p l e rmPL_bestSet s m args below meth c D vwCl A 4 False Q 84 [(0, .ref (a 21)), (1, .int (iZ sets))] [] (cW cI cZ a W D_ r sz co ro ho ac al sd lf sq hs rs ts rt_ hc li re ow tc cp ck wa qp qt qs lo sb lc cn ch sk) 0 0) :
    ∀ (n : Nat) (sets : Int) (p_ : Int) (li : Int → Int) (lc : Int), (W * D_ - p_).toNat < n → (0 ≤ p_ ∧ p_ ≤ W * D_) → (ir sets) → (∀ S, 0 ≤ S → S < 16 → (tb sets S = true ↔ l1C W D_ r sz cn ch co ro ho ac al sd lf ts re ow lo cp qp qt qs wa p_ S)) → TT p l e rmPL_bestSet s m args below meth c D vwCl A 4 False Q 30 [(0, .ref (a 21)), (1, .int (iZ sets)), (2, .int (iZ p_))] [] (cW cI cZ a W D_ r sz co ro ho ac al sd lf sq hs rs ts rt_ hc li re ow tc cp ck wa qp qt qs lo sb lc cn ch sk) 0 0 := by
  intro n
  induction n with
  | zero => intro sets p_ li lc hn; omega
  | succ n ih =>
    intro sets p_ li lc hn I1 I2 I3
    obtain ⟨⟨hW1, hW2, hD1, hD2, hr1, hr2⟩, hGp, hGs, hGk, hGx, hGi, hGm, hGq⟩ := id hG
    have hWD := wd_b hW1 hW2 hD1 hD2
    have hPL := pl_b hW1 hW2 hD1 hD2 hr1 hr2
    have hSQ := sd_b hr1 hr2
    refine tt_iload_n F 2 rfl rfl dPL_bestSet_30 ?_
    refine tt_aload_n F 0 rfl rfl dPL_bestSet_31 ?_
    refine tt_get F inPL 21 rfl rfl 4 (by decide) we252 rfl dPL_bestSet_32 ?_
    refine tt_get F inHO 1 rfl rfl 2 (by decide) we90 rfl dPL_bestSet_35 ?_
    refine tt_icmp_ge F 84 ⟨by omega, by omega⟩ ⟨by omega, by omega⟩ dPL_bestSet_38 (by decide) (fun c38 => ?_) (fun c38 => ?_)
    · skip
      refine tt_sub [0, 1] rfl ?_
      exact k84 sets p_ li lc (I2) (fun S s0 s1 => l1_end I1.2 (I3 S s0 s1) (by omega))
    · skip
      have hw0 := hwa p_ (by omega) (by omega)
      refine tt_iload_n F 1 rfl rfl dPL_bestSet_41 ?_
      refine tt_if_eq F 84 (I2) dPL_bestSet_42 (by decide) (fun c42 => ?_) (fun c42 => ?_)
      · skip
        refine tt_sub [0, 1] rfl ?_
        exact k84 sets p_ li lc (I2) (fun S s0 s1 => l1_end I1.2 (I3 S s0 s1) (by omega))
      · skip
        refine tt_aload_n F 0 rfl rfl dPL_bestSet_45 ?_
        refine tt_get F inPL 21 rfl rfl 3 (by decide) we250 rfl dPL_bestSet_46 ?_
        refine tt_iload_n F 2 rfl rfl dPL_bestSet_49 ?_
        refine tt_zald F 24 rfl (by omega) (by omega) (by omega) dPL_bestSet_50 ?_
        refine tt_name (fun wv hwv => ?_)
        refine tt_if_eq F 78 ⟨by omega, by omega⟩ dPL_bestSet_51 (by decide) (fun c51 => ?_) (fun c51 => ?_)
        · skip
          refine tt_iinc F 2 [(2, .int (iZ (p_ + 1))), (0, .ref (a 21)), (1, .int (iZ sets))] rfl (by decide) rfl dPL_bestSet_78 ?_
          refine tt_goto F 30 (by decide) dPL_bestSet_81 ?_
          refine tt_sub [1, 2, 0] rfl ?_
          exact ih sets (p_ + 1) li lc (by omega) (by omega) (I2) (fun S s0 s1 => (I3 S s0 s1).trans (l1_no (by omega)))
        · skip
          refine tt_aload_n F 0 rfl rfl dPL_bestSet_54 ?_
          refine tt_iload_n F 2 rfl rfl dPL_bestSet_55 ?_
          refine tt_cIV0 F (fun h => h) (As := [.int (iZ p_)]) 21 rfl rfl (c_isCandidate (hs := hs) (rs := rs) (ts := ts) (rt_ := rt_) (hc := hc) (li := li) (re := re) (ow := ow) (tc := tc) (cp := cp) (ck := ck) (wa := wa) (qp := qp) (qt := qt) (qs := qs) (lo := lo) (sb := sb) (lc := lc) (cn := cn) (ch := ch) (sk := sk) (q := p_) hcn (fun j h1 h2 => by have := hcp j h1 h2; omega) (by omega)) (cwV 1 F.1.2.2.2.2 (gw_V wd363 wd365 wd6 wd52 wd366) rfl rfl rfl (by decide +kernel) ⟨(Nat.le_of_ble_eq_true rfl), (Nat.le_of_ble_eq_true rfl)⟩) rfl rfl rfl (Nat.le_of_ble_eq_true rfl) ⟨(Nat.le_of_ble_eq_true rfl), (Nat.le_of_ble_eq_true rfl)⟩ dPL_bestSet_56 (fun z56 w1 hp => ?_)
          obtain ⟨hz56, rfl⟩ := hp
          refine tt_if_eq F 71 (by rw [hz56]; have := bi_b (decide (0 < cz (fun j => decide (cp j = p_)) cn)); exact ⟨by omega, by omega⟩) dPL_bestSet_59 (by decide) (fun c59 => ?_) (fun c59 => ?_)
          · skip
            refine tt_aload_n F 0 rfl rfl dPL_bestSet_71 ?_
            refine tt_iload_n F 2 rfl rfl dPL_bestSet_72 ?_
            refine tt_iload_n F 1 rfl rfl dPL_bestSet_73 ?_
            refine tt_cIV0 F (fun h => h) (As := [.int (iZ p_), .int (iZ sets)]) 21 rfl rfl (c_setsThatFree (hs := hs) (rs := rs) (ts := ts) (rt_ := rt_) (hc := hc) (li := li) (re := re) (ow := ow) (tc := tc) (cp := cp) (ck := ck) (wa := wa) (qp := qp) (qt := qt) (qs := qs) (lo := lo) (sb := sb) (lc := lc) (cn := cn) (ch := ch) (sk := sk) (q := p_) (sets := sets) hG hts hch hqc hB (by omega) I2) (cwV 2 F.1.2.2.2.2 (gw_V wd396 wd398 wd12 wd52 wd399) rfl rfl rfl (by decide +kernel) ⟨(Nat.le_of_ble_eq_true rfl), (Nat.le_of_ble_eq_true rfl)⟩) rfl rfl rfl (Nat.le_of_ble_eq_true rfl) ⟨(Nat.le_of_ble_eq_true rfl), (Nat.le_of_ble_eq_true rfl)⟩ dPL_bestSet_74 (fun z74 w1 hp => ?_)
            obtain ⟨hz74, rfl⟩ := hp
            refine tt_istore_n F [(1, .int (iZ z74)), (0, .ref (a 21)), (2, .int (iZ p_))] rfl (by decide) rfl dPL_bestSet_77 ?_
            refine tt_iinc F 2 [(2, .int (iZ (p_ + 1))), (1, .int (iZ z74)), (0, .ref (a 21))] rfl (by decide) rfl dPL_bestSet_78 ?_
            refine tt_goto F 30 (by decide) dPL_bestSet_81 ?_
            refine tt_sub [2, 1, 0] rfl ?_
            exact ih z74 (p_ + 1) li lc (by omega) (by omega) (hz74.1) (fun S s0 s1 => by rw [hz74.2 S, I3 S s0 s1, ← st_fr (fun q => by have e := (isC_cz hcn.1).mp q; rw [hz56, bi_t (decide_eq_true e)] at c59; omega)]; exact l1_yes I1.1 (by omega))
          · skip
            refine tt_aload_n F 0 rfl rfl dPL_bestSet_62 ?_
            refine tt_iload_n F 2 rfl rfl dPL_bestSet_63 ?_
            refine tt_iload_n F 1 rfl rfl dPL_bestSet_64 ?_
            refine tt_cIV0 F (fun h => h) (As := [.int (iZ p_), .int (iZ sets)]) 21 rfl rfl (c_setsThatSave (hs := hs) (rs := rs) (ts := ts) (rt_ := rt_) (hc := hc) (li := li) (re := re) (ow := ow) (tc := tc) (cp := cp) (ck := ck) (wa := wa) (qp := qp) (qt := qt) (qs := qs) (lo := lo) (sb := sb) (lc := lc) (cn := cn) (ch := ch) (sk := sk) (q := p_) (sets := sets) hG hts hlo hrt hch hqc hB (by omega) I2) (cwV 2 F.1.2.2.2.2 (gw_V wd367 wd369 wd7 wd52 wd370) rfl rfl rfl (by decide +kernel) ⟨(Nat.le_of_ble_eq_true rfl), (Nat.le_of_ble_eq_true rfl)⟩) rfl rfl rfl (Nat.le_of_ble_eq_true rfl) ⟨(Nat.le_of_ble_eq_true rfl), (Nat.le_of_ble_eq_true rfl)⟩ dPL_bestSet_65 (fun z65 w1 hp => ?_)
            obtain ⟨li65, lc65, rfl, hz65⟩ := hp
            refine tt_goto F 77 (by decide) dPL_bestSet_68 ?_
            refine tt_istore_n F [(1, .int (iZ z65)), (0, .ref (a 21)), (2, .int (iZ p_))] rfl (by decide) rfl dPL_bestSet_77 ?_
            refine tt_iinc F 2 [(2, .int (iZ (p_ + 1))), (1, .int (iZ z65)), (0, .ref (a 21))] rfl (by decide) rfl dPL_bestSet_78 ?_
            refine tt_goto F 30 (by decide) dPL_bestSet_81 ?_
            refine tt_sub [2, 1, 0] rfl ?_
            exact ih z65 (p_ + 1) li65 lc65 (by omega) (by omega) (hz65.1) (fun S s0 s1 => by rw [hz65.2 S, sv_C, I3 S s0 s1, ← st_sv ((isC_cz hcn.1).mpr (by cases e : decide (0 < cz (fun j => decide (cp j = p_)) cn) with | true => exact of_decide_eq_true e | false => rw [hz56, e, bi_f rfl] at c59; omega))]; exact l1_yes I1.1 (by omega))
set_option maxHeartbeats 4000000 in
set_option maxRecDepth 100000 in
theorem bs_loop2 {best s2 : Int} (F : FX p s m args meth c cPL_bestSet 4 (some .int) wsPL_bestSet RPL D vwCl cI cZ cJ SL A) (hG : GE W D_ r sz co ro ho ac al sd lf sq) (hts : ∀ p, 0 ≤ p → p < W * D_ → 0 ≤ ts p ∧ ts p ≤ 262144000) (hrt : ∀ i j, 0 ≤ i → i < W → 0 ≤ j → j < D_ → ts (j * W + i) ≤ rt_ j ∧ rt_ j ≤ 262144000) (hlo : ∀ p, 0 ≤ p → p < W * D_ → 0 ≤ lo p ∧ lo p ≤ ts p ∧ ts p ≤ 262144000) (hch : 0 ≤ ch ∧ ch ≤ 8) (hqc : ∀ n, 0 ≤ n → n < ch → 0 ≤ qp n ∧ qp n < W * D_ ∧ 0 ≤ qt n ∧ qt n ≤ 262144000) (hB : BI W D_ r ts re tc ow hc) (hwa : ∀ p, 0 ≤ p → p < W * D_ → wa p = 0 ∨ wa p = 1)
    (k157 : ∀ (sets : Int) (p_ : Int) (li : Int → Int) (lc : Int), (ir sets) → (∀ S, tb sets S = true ↔ tb s2 S = true ∧ ∀ p, 0 ≤ p → p < W * D_ → lo p < ts p → mlL W (W * D_) r ch co ro ho ac al sd ow lo wa qp qt qs p sz S) → TT p l e rmPL_bestSet s m args below meth c D vwCl A 4 False Q 157 [(0, .ref (a 21)), (1, .int (iZ sets)), (2, .int (iZ best))] [] (cW cI cZ a W D_ r sz co ro ho ac al sd lf sq hs rs ts rt_ hc li re ow tc cp ck wa qp qt qs lo sb lc cn ch sk) 0 0) :
    ∀ (n : Nat) (sets : Int) (p_ : Int) (li : Int → Int) (lc : Int), (W * D_ - p_).toNat < n → (0 ≤ p_ ∧ p_ ≤ W * D_) → (ir sets) → (∀ S, tb sets S = true ↔ tb s2 S = true ∧ ∀ p, 0 ≤ p → p < p_ → lo p < ts p → mlL W (W * D_) r ch co ro ho ac al sd ow lo wa qp qt qs p sz S) → TT p l e rmPL_bestSet s m args below meth c D vwCl A 4 False Q 111 [(0, .ref (a 21)), (1, .int (iZ sets)), (2, .int (iZ best)), (3, .int (iZ p_))] [] (cW cI cZ a W D_ r sz co ro ho ac al sd lf sq hs rs ts rt_ hc li re ow tc cp ck wa qp qt qs lo sb lc cn ch sk) 0 0 := by
  intro n
  induction n with
  | zero => intro sets p_ li lc hn; omega
  | succ n ih =>
    intro sets p_ li lc hn I1 I2 I3
    obtain ⟨⟨hW1, hW2, hD1, hD2, hr1, hr2⟩, hGp, hGs, hGk, hGx, hGi, hGm, hGq⟩ := id hG
    have hWD := wd_b hW1 hW2 hD1 hD2
    have hPL := pl_b hW1 hW2 hD1 hD2 hr1 hr2
    have hSQ := sd_b hr1 hr2
    refine tt_iload_n F 3 rfl rfl dPL_bestSet_111 ?_
    refine tt_aload_n F 0 rfl rfl dPL_bestSet_112 ?_
    refine tt_get F inPL 21 rfl rfl 4 (by decide) we252 rfl dPL_bestSet_113 ?_
    refine tt_get F inHO 1 rfl rfl 2 (by decide) we90 rfl dPL_bestSet_116 ?_
    refine tt_icmp_ge F 157 ⟨by omega, by omega⟩ ⟨by omega, by omega⟩ dPL_bestSet_119 (by decide) (fun c119 => ?_) (fun c119 => ?_)
    · skip
      refine tt_sub [0, 1, 2] rfl ?_
      exact k157 sets p_ li lc (I2) (fun S => ⟨fun h => ⟨((I3 S).mp h).1, fun p p0 p1 e => if c : p < p_ then ((I3 S).mp h).2 p p0 c e else (by exfalso; have hz0 : sets = 0 := (by omega); rw [hz0, tb_0] at h; cases h)⟩, fun h => (I3 S).mpr ⟨h.1, fun p p0 p1 e => h.2 p p0 (by omega) e⟩⟩)
    · skip
      have hl0 := hlo p_ (by omega) (by omega)
      refine tt_iload_n F 1 rfl rfl dPL_bestSet_122 ?_
      refine tt_if_eq F 157 (I2) dPL_bestSet_123 (by decide) (fun c123 => ?_) (fun c123 => ?_)
      · skip
        refine tt_sub [0, 1, 2] rfl ?_
        exact k157 sets p_ li lc (I2) (fun S => ⟨fun h => ⟨((I3 S).mp h).1, fun p p0 p1 e => if c : p < p_ then ((I3 S).mp h).2 p p0 c e else (by exfalso; have hz0 : sets = 0 := (by omega); rw [hz0, tb_0] at h; cases h)⟩, fun h => (I3 S).mpr ⟨h.1, fun p p0 p1 e => h.2 p p0 (by omega) e⟩⟩)
      · skip
        refine tt_aload_n F 0 rfl rfl dPL_bestSet_126 ?_
        refine tt_get F inPL 21 rfl rfl 11 (by decide) we259 rfl dPL_bestSet_127 ?_
        refine tt_iload_n F 3 rfl rfl dPL_bestSet_130 ?_
        refine tt_iald F 28 rfl (by omega) (by omega) (by omega) dPL_bestSet_131 ?_
        refine tt_name (fun lv_ hlv_ => ?_)
        refine tt_aload_n F 0 rfl rfl dPL_bestSet_132 ?_
        refine tt_get F inPL 21 rfl rfl 4 (by decide) we252 rfl dPL_bestSet_133 ?_
        refine tt_get F inHO 1 rfl rfl 7 (by decide) we106 rfl dPL_bestSet_136 ?_
        refine tt_iload_n F 3 rfl rfl dPL_bestSet_139 ?_
        refine tt_iald F 6 rfl (by omega) (by omega) (by omega) dPL_bestSet_140 ?_
        refine tt_name (fun tv htv => ?_)
        refine tt_icmp_ge F 151 ⟨by omega, by omega⟩ ⟨by omega, by omega⟩ dPL_bestSet_141 (by decide) (fun c141 => ?_) (fun c141 => ?_)
        · skip
          refine tt_iinc F 3 [(3, .int (iZ (p_ + 1))), (0, .ref (a 21)), (1, .int (iZ sets)), (2, .int (iZ best))] rfl (by decide) rfl dPL_bestSet_151 ?_
          refine tt_goto F 111 (by decide) dPL_bestSet_154 ?_
          refine tt_sub [1, 2, 3, 0] rfl ?_
          exact ih sets (p_ + 1) li lc (by omega) (by omega) (I2) (fun S => by rw [I3 S]; exact ⟨fun h => ⟨h.1, fun p p0 p1 e => if c : p = p_ then (by rw [c] at e; omega) else h.2 p p0 (by omega) e⟩, fun h => ⟨h.1, fun p p0 p1 e => h.2 p p0 (by omega) e⟩⟩)
        · skip
          refine tt_aload_n F 0 rfl rfl dPL_bestSet_144 ?_
          refine tt_iload_n F 3 rfl rfl dPL_bestSet_145 ?_
          refine tt_iload_n F 1 rfl rfl dPL_bestSet_146 ?_
          refine tt_cIV0 F (fun h => h) (As := [.int (iZ p_), .int (iZ sets)]) 21 rfl rfl (c_setsThatMayLower (hs := hs) (rs := rs) (ts := ts) (rt_ := rt_) (hc := hc) (li := li) (re := re) (ow := ow) (tc := tc) (cp := cp) (ck := ck) (wa := wa) (qp := qp) (qt := qt) (qs := qs) (lo := lo) (sb := sb) (lc := lc) (cn := cn) (ch := ch) (sk := sk) (q := p_) (sets := sets) hG hts hlo hrt hch hqc hB hwa (by omega) I2) (cwV 2 F.1.2.2.2.2 (gw_V wd425 wd427 wd17 wd52 wd428) rfl rfl rfl (by decide +kernel) ⟨(Nat.le_of_ble_eq_true rfl), (Nat.le_of_ble_eq_true rfl)⟩) rfl rfl rfl (Nat.le_of_ble_eq_true rfl) ⟨(Nat.le_of_ble_eq_true rfl), (Nat.le_of_ble_eq_true rfl)⟩ dPL_bestSet_147 (fun z147 w1 hp => ?_)
          obtain ⟨li147, lc147, rfl, hz147⟩ := hp
          refine tt_istore_n F [(1, .int (iZ z147)), (0, .ref (a 21)), (2, .int (iZ best)), (3, .int (iZ p_))] rfl (by decide) rfl dPL_bestSet_150 ?_
          refine tt_iinc F 3 [(3, .int (iZ (p_ + 1))), (1, .int (iZ z147)), (0, .ref (a 21)), (2, .int (iZ best))] rfl (by decide) rfl dPL_bestSet_151 ?_
          refine tt_goto F 111 (by decide) dPL_bestSet_154 ?_
          refine tt_sub [2, 1, 3, 0] rfl ?_
          exact ih z147 (p_ + 1) li147 lc147 (by omega) (by omega) (hz147.1) (fun S => by rw [hz147.2 S, I3 S]; exact ⟨fun h => ⟨h.1.1, fun p p0 p1 e => if c : p = p_ then (by rw [c]; exact h.2) else h.1.2 p p0 (by omega) e⟩, fun h => ⟨⟨h.1, fun p p0 p1 e => h.2 p p0 (by omega) e⟩, h.2 p_ I1.1 (by omega) (by omega)⟩⟩)
set_option maxHeartbeats 4000000 in
set_option maxRecDepth 100000 in
theorem c_bestSet {aS : Nat} (hG : GE W D_ r sz co ro ho ac al sd lf sq) (hts : ∀ p, 0 ≤ p → p < W * D_ → 0 ≤ ts p ∧ ts p ≤ 262144000) (hrt : ∀ i j, 0 ≤ i → i < W → 0 ≤ j → j < D_ → ts (j * W + i) ≤ rt_ j ∧ rt_ j ≤ 262144000) (hB : BI W D_ r ts re tc ow hc) (hwa : ∀ p, 0 ≤ p → p < W * D_ → wa p = 0 ∨ wa p = 1) (hcn : 0 ≤ cn ∧ cn ≤ 4) (hcp : ∀ j, 0 ≤ j → j < cn → 0 ≤ cp j ∧ cp j < W * D_ ∧ 1 ≤ ck j ∧ ck j ≤ 50) (hhs : ∀ p, 0 ≤ p → p < W * D_ → 0 ≤ hs p ∧ hs p ≤ 200) (hsw : SL[1]? = some ("RollingBalls$Plan", "SETS_WITH", "[I", aS, 4, fun j : Nat => Value.int (iZ (SWv (j : Int))))) : CI l D vwCl cI cZ cJ SL yPL_bestSet wsPL_bestSet rmPL_bestSet [.ref (a 21)] (cW cI cZ a W D_ r sz co ro ho ac al sd lf sq hs rs ts rt_ hc li re ow tc cp ck wa qp qt qs lo sb lc cn ch sk) (fun z w1 => ∃ (li' qp' qt' qs' lo' : Int → Int) (lc' ch' sk' : Int), w1 = (cW cI cZ a W D_ r sz co ro ho ac al sd lf sq hs rs ts rt_ hc li' re ow tc cp ck wa qp' qt' qs' lo' sb lc' cn ch' sk') ∧ ansI W D_ r cn ts hs cp ck wa z) := by
  refine tt_startI (by decide) rfl (Nat.le_of_ble_eq_true rfl) ?_
  intro p e s m args below meth c hnm F
  obtain ⟨⟨hW1, hW2, hD1, hD2, hr1, hr2⟩, hGp, hGs, hGk, hGx, hGi, hGm, hGq⟩ := id hG
  have hWD := wd_b hW1 hW2 hD1 hD2
  have hPL := pl_b hW1 hW2 hD1 hD2 hr1 hr2
  have hSQ := sd_b hr1 hr2
  have hhc : ∀ p, 0 ≤ p → p < W * D_ → 0 ≤ hc p ∧ hc p ≤ 1024 := fun p h1 h2 => by have h3 := cz_b (fun P => tch W r (plx W r P) (ply W r P) ts (re P) p) (z := (W + 2 * r) * (D_ + 2 * r)) (by omega); have h4 : hc p = cz (fun P => tch W r (plx W r P) (ply W r P) ts (re P) p) ((W + 2 * r) * (D_ + 2 * r)) := hB.2 p h1 h2; omega
  have hck : ∀ j : Int, 0 ≤ j → j < cn.toNat → 1 ≤ ck j ∧ ck j ≤ 50 := fun j h1 h2 => (hcp j h1 (by omega)).2.2
  have hpw := pw_b hcn
  refine tt_aload_n F 0 rfl rfl dPL_bestSet_0 ?_
  refine tt_cIV0 F (fun h => h) (As := []) 21 rfl rfl (c_areWantedSafe (hs := hs) (rs := rs) (ts := ts) (rt_ := rt_) (hc := hc) (li := li) (re := re) (ow := ow) (tc := tc) (cp := cp) (ck := ck) (wa := wa) (qp := qp) (qt := qt) (qs := qs) (lo := lo) (sb := sb) (lc := lc) (cn := cn) (ch := ch) (sk := sk) hG hwa hhc) (cwV 0 F.1.2.2.2.2 (gw_V wd328 wd330 wd1 wd52 wd331) rfl rfl rfl (by decide +kernel) ⟨(Nat.le_of_ble_eq_true rfl), (Nat.le_of_ble_eq_true rfl)⟩) rfl rfl rfl (Nat.le_of_ble_eq_true rfl) ⟨(Nat.le_of_ble_eq_true rfl), (Nat.le_of_ble_eq_true rfl)⟩ dPL_bestSet_1 (fun z1 w1 hp => ?_)
  obtain ⟨hz1, rfl⟩ := hp
  refine tt_if_eq F 9 (by rcases hz1 with h | h <;> exact ⟨by omega, by omega⟩) dPL_bestSet_4 (by decide) (fun c4 => ?_) (fun c4 => ?_)
  · skip
    clear hz1
    refine tt_aload_n F 0 rfl rfl dPL_bestSet_9 ?_
    refine tt_cVV0 F (fun h => h) (As := []) 21 rfl rfl (c_listChoices (hs := hs) (rs := rs) (ts := ts) (rt_ := rt_) (hc := hc) (li := li) (re := re) (ow := ow) (tc := tc) (cp := cp) (ck := ck) (wa := wa) (qp := qp) (qt := qt) (qs := qs) (lo := lo) (sb := sb) (lc := lc) (cn := cn) (ch := ch) (sk := sk) hG hcn hcp hhs hts hsw) (cwV 0 F.1.2.2.2.2 (gw_V wd336 wd338 wd2 wd52 wd339) rfl rfl rfl (by decide +kernel) ⟨(Nat.le_of_ble_eq_true rfl), (Nat.le_of_ble_eq_true rfl)⟩) rfl rfl rfl (Nat.le_of_ble_eq_true rfl) ⟨(Nat.le_of_ble_eq_true rfl), (Nat.le_of_ble_eq_true rfl)⟩ dPL_bestSet_10 (fun w1 hp => ?_)
    obtain ⟨qp10, qt10, qs10, ch10, sk10, rfl, IC10⟩ := hp
    have hchb := IC10.2.2.2.2.2
    have hch : 0 ≤ ch10 ∧ ch10 ≤ 8 := by omega
    have hqc : ∀ n, 0 ≤ n → n < ch10 → 0 ≤ qp10 n ∧ qp10 n < W * D_ ∧ 0 ≤ qt10 n ∧ qt10 n ≤ 262144000 := fun n h1 h2 => by
      obtain ⟨⟨j, j0, j1, j2⟩, h4, -⟩ := IC10.1 n h1 h2
      have h5 := hcp j j0 j1
      rw [j2]; omega
    refine tt_aload_n F 0 rfl rfl dPL_bestSet_13 ?_
    refine tt_cVV0 F (fun h => h) (As := []) 21 rfl rfl (c_findLowTips (hs := hs) (rs := rs) (ts := ts) (rt_ := rt_) (hc := hc) (li := li) (re := re) (ow := ow) (tc := tc) (cp := cp) (ck := ck) (wa := wa) (qp := qp10) (qt := qt10) (qs := qs10) (lo := lo) (sb := sb) (lc := lc) (cn := cn) (ch := ch10) (sk := sk10) hG hch hqc hts) (cwV 0 F.1.2.2.2.2 (gw_V wd355 wd357 wd5 wd52 wd358) rfl rfl rfl (by decide +kernel) ⟨(Nat.le_of_ble_eq_true rfl), (Nat.le_of_ble_eq_true rfl)⟩) rfl rfl rfl (Nat.le_of_ble_eq_true rfl) ⟨(Nat.le_of_ble_eq_true rfl), (Nat.le_of_ble_eq_true rfl)⟩ dPL_bestSet_14 (fun w1 hp => ?_)
    obtain ⟨lo14, rfl, IL14, IB14⟩ := hp
    have hlo : ∀ p, 0 ≤ p → p < W * D_ → 0 ≤ lo14 p ∧ lo14 p ≤ ts p ∧ ts p ≤ 262144000 := fun p h1 h2 => ⟨(IB14 p h1 h2).1, (IL14 p h1 h2).1, (hts p h1 h2).2⟩
    refine tt_iconst F dPL_bestSet_17 ?_
    refine tt_iconst F dPL_bestSet_18 ?_
    refine tt_aload_n F 0 rfl rfl dPL_bestSet_19 ?_
    refine tt_get F inPL 21 rfl rfl 2 (by decide) we248 rfl dPL_bestSet_20 ?_
    refine tt_ishl F dPL_bestSet_23 ?_
    refine tt_ishl F dPL_bestSet_24 ?_
    refine tt_iconst F dPL_bestSet_25 ?_
    refine tt_isub F dPL_bestSet_26 ?_
    refine tt_name (fun full hfull => ?_)
    refine tt_istore_n F [(1, .int (iZ full)), (0, .ref (a 21))] rfl (by decide) rfl dPL_bestSet_27 ?_
    refine tt_iconst F dPL_bestSet_28 ?_
    refine tt_istore_n F [(2, .int (iZ 0)), (1, .int (iZ full)), (0, .ref (a 21))] rfl (by decide) rfl dPL_bestSet_29 ?_
    refine tt_sub [2, 1, 0] rfl ?_
    refine bs_loop1 F hG hts hrt hlo hch hqc hB hwa hcn hcp (fun s1 p_ li lc J1 J2 => ?_) ((W * D_).toNat + 1) full 0 li lc (by omega) (by omega) (by rw [hfull]; exact full_ir hcn) (fun S s0 s1 => by rw [hfull, full_tb hcn s0 s1]; exact ⟨fun h => ⟨h, fun p p0 p1 => by omega⟩, fun h => h.1⟩)
    refine tt_aload_n F 0 rfl rfl dPL_bestSet_84 ?_
    refine tt_iload_n F 1 rfl rfl dPL_bestSet_85 ?_
    refine tt_aload_n F 0 rfl rfl dPL_bestSet_86 ?_
    refine tt_get F inPL 21 rfl rfl 10 (by decide) we258 rfl dPL_bestSet_87 ?_
    refine tt_iconst F dPL_bestSet_90 ?_
    refine tt_ixor F dPL_bestSet_91 ?_
    refine tt_iand F dPL_bestSet_92 ?_
    refine tt_cIV0 F (fun h => h) (As := [.int (iZ (zand s1 (zxor sk10 (-1))))]) 21 rfl rfl (c_bestOf (hs := hs) (rs := rs) (ts := ts) (rt_ := rt_) (hc := hc) (li := li) (re := re) (ow := ow) (tc := tc) (cp := cp) (ck := ck) (wa := wa) (qp := qp10) (qt := qt10) (qs := qs10) (lo := lo14) (sb := sb) (lc := lc) (cn := cn) (ch := ch10) (sk := sk10) (sets := zand s1 (zxor sk10 (-1))) hcn hck) (cwV 1 F.1.2.2.2.2 (gw_V wd400 wd402 wd13 wd52 wd403) rfl rfl rfl (by decide +kernel) ⟨(Nat.le_of_ble_eq_true rfl), (Nat.le_of_ble_eq_true rfl)⟩) rfl rfl rfl (Nat.le_of_ble_eq_true rfl) ⟨(Nat.le_of_ble_eq_true rfl), (Nat.le_of_ble_eq_true rfl)⟩ dPL_bestSet_93 (fun z93 w1 hp => ?_)
    obtain ⟨hz93, rfl⟩ := hp
    have hbb := boI_b hz93 (by omega)
    refine tt_istore_n F [(2, .int (iZ z93)), (0, .ref (a 21)), (1, .int (iZ s1))] rfl (by decide) rfl dPL_bestSet_96 ?_
    refine tt_aload_n F 1 rfl rfl dPL_bestSet_97 ?_
    refine tt_iload_n F 0 rfl rfl dPL_bestSet_98 ?_
    refine tt_iload_n F 2 rfl rfl dPL_bestSet_99 ?_
    refine tt_aload_n F 1 rfl rfl dPL_bestSet_100 ?_
    refine tt_get F inPL 21 rfl rfl 10 (by decide) we258 rfl dPL_bestSet_101 ?_
    refine tt_iand F dPL_bestSet_104 ?_
    refine tt_cIV0 F (fun h => h) (As := [.int (iZ z93), .int (iZ (zand s1 sk10))]) 21 rfl rfl (c_setsBetterThan (hs := hs) (rs := rs) (ts := ts) (rt_ := rt_) (hc := hc) (li := li) (re := re) (ow := ow) (tc := tc) (cp := cp) (ck := ck) (wa := wa) (qp := qp10) (qt := qt10) (qs := qs10) (lo := lo14) (sb := sb) (lc := lc) (cn := cn) (ch := ch10) (sk := sk10) (b := z93) (sets := zand s1 sk10) hcn hck (by omega)) (cwV 2 F.1.2.2.2.2 (gw_V wd421 wd423 wd16 wd52 wd424) rfl rfl rfl (by decide +kernel) ⟨(Nat.le_of_ble_eq_true rfl), (Nat.le_of_ble_eq_true rfl)⟩) rfl rfl rfl (Nat.le_of_ble_eq_true rfl) ⟨(Nat.le_of_ble_eq_true rfl), (Nat.le_of_ble_eq_true rfl)⟩ dPL_bestSet_105 (fun z105 w1 hp => ?_)
    obtain ⟨hz105, rfl⟩ := hp
    refine tt_istore_n F [(1, .int (iZ z105)), (2, .int (iZ z93)), (0, .ref (a 21))] rfl (by decide) rfl dPL_bestSet_108 ?_
    refine tt_iconst F dPL_bestSet_109 ?_
    refine tt_istore_n F [(3, .int (iZ 0)), (1, .int (iZ z105)), (2, .int (iZ z93)), (0, .ref (a 21))] rfl (by decide) rfl dPL_bestSet_110 ?_
    refine tt_sub [3, 1, 2, 0] rfl ?_
    refine bs_loop2 F hG hts hrt hlo hch hqc hB hwa (fun s3 p_ li lc K1 K2 => ?_) ((W * D_).toNat + 1) z105 0 li lc (by omega) (by omega) hz105.1 (fun S => ⟨fun h => ⟨h, fun p p0 p1 => by omega⟩, fun h => h.1⟩)
    have hfe := fun (S : Int) (s0 : 0 ≤ S) (s1 : S < zshl 1 cn) => fin_eq (wa := wa) hG hB hcn IC10 IL14 hcp hts hhs s0 s1
    have hfin := fin_1 (W := W) (D_ := D_) (r := r) (sz := sz) (ts := ts) (hs := hs) (cp := cp) (wa := wa) (lo := lo14) (ow := ow) (co := co) (ro := ro) (ho := ho) (ac := ac) (al := al) (sd := sd) (qp := qp10) (qt := qt10) (qs := qs10) (ch := ch10) (s1 := s1) (s3 := s3) hcn (fun S s0 s1 s2 => by rw [J2 S s0 (by omega)]; exact (hfe S s0 s1).2 s2) (fun S s0 s1 => by rw [J2 S s0 (by omega)]; exact (hfe S s0 s1).1) hz93 (fun T t0 t1 => hz105.2 T t0 (by omega)) (fun T t0 t1 => K2 T)
    refine tt_iload_n F 1 rfl rfl dPL_bestSet_157 ?_
    refine tt_if_ne F 165 (K1) dPL_bestSet_158 (by decide) (fun c158 => ?_) (fun c158 => ?_)
    · skip
      obtain ⟨T, t0, t1, t2⟩ := tb_nz K1 c158
      have hT16 : T < zshl 1 cn := ((hz105.2 T t0 (by omega)).mp ((K2 T).mp t2).1).1
      refine tt_aload_n F 0 rfl rfl dPL_bestSet_165 ?_
      refine tt_iload_n F 1 rfl rfl dPL_bestSet_166 ?_
      refine tt_cIV0 F (fun h => h) (As := [.int (iZ s3)]) 21 rfl rfl (c_bestOf (hs := hs) (rs := rs) (ts := ts) (rt_ := rt_) (hc := hc) (li := li) (re := re) (ow := ow) (tc := tc) (cp := cp) (ck := ck) (wa := wa) (qp := qp10) (qt := qt10) (qs := qs10) (lo := lo14) (sb := sb) (lc := lc) (cn := cn) (ch := ch10) (sk := sk10) (sets := s3) hcn hck) (cwV 1 F.1.2.2.2.2 (gw_V wd400 wd402 wd13 wd52 wd403) rfl rfl rfl (by decide +kernel) ⟨(Nat.le_of_ble_eq_true rfl), (Nat.le_of_ble_eq_true rfl)⟩) rfl rfl rfl (Nat.le_of_ble_eq_true rfl) ⟨(Nat.le_of_ble_eq_true rfl), (Nat.le_of_ble_eq_true rfl)⟩ dPL_bestSet_167 (fun z167 w1 hp => ?_)
      obtain ⟨hz167, rfl⟩ := hp
      exact tt_iret F rfl (Nat.le_of_ble_eq_true rfl) (Nat.le_of_ble_eq_true rfl) dPL_bestSet_170 ⟨_, _, _, _, _, _, _, _, rfl, hfin.2 _ hz167 c158 ⟨T, t0, by omega, t2⟩⟩
    · skip
      refine tt_iload_n F 2 rfl rfl dPL_bestSet_161 ?_
      refine tt_goto F 170 (by decide) dPL_bestSet_162 ?_
      exact tt_iret F rfl (Nat.le_of_ble_eq_true rfl) (Nat.le_of_ble_eq_true rfl) dPL_bestSet_170 ⟨_, _, _, _, _, _, _, _, rfl, hfin.1 c158⟩
  · skip
    refine tt_iconst F dPL_bestSet_7 ?_
    exact tt_iret F rfl (Nat.le_of_ble_eq_true rfl) (Nat.le_of_ble_eq_true rfl) dPL_bestSet_8 ⟨_, _, _, _, _, _, _, _, rfl, ans_0 hcn hB (hz1.elim (fun q => q.2) (fun q => absurd q.1 c4))⟩
end CL
