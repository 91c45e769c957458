section MOD4
variable {p : Program} {l : Launch} {e : Env} {s : State} {m : MethodId} {args : Array Value} {below : List Frame} {meth : Method} {c : Code} {Q : State → Prop} {D : va_G} {cI cZ cJ : ClassId} {SL : List zS} {A : Nat → Prop} {ad : Nat → Nat} {W D_ r : Int} {hM rM tM wM mp mk wh sM hi vS : Int → Int} {cd mn : Int}
abbrev rmMO_does : Room := { frames := 5, cells := 0, slots := 0, locals := 115 }
set_option maxHeartbeats 4000000 in
set_option maxRecDepth 100000 in
theorem lp_does1 {S : Int} {t0 : Int → Int} (F : FX p s m args meth c cMO_does 4 (some .boolean) wsMO_does RMO D vwCl cI cZ cJ SL A) (hmn : 0 ≤ mn ∧ mn ≤ 4) (hmp : ∀ j, 0 ≤ j → j < mn → (0 ≤ mp j ∧ mp j < 144) ∧ 1 ≤ mk j ∧ mk j ≤ 50)
    (k58 : ∀ (k : Int) (tM : Int → Int), (tM = tSM t0 hM mp mk S (mn).toNat) → TT p l e rmMO_does s m args below meth c D vwCl A 4 False Q 58 [(0, .ref (ad 0))] [] (mW cI cZ ad W D_ r hM rM tM wM mp mk wh sM hi vS cd mn) 0 0) :
    ∀ (n : Nat) (k : Int) (tM : Int → Int), (mn - k).toNat < n → (0 ≤ k ∧ k ≤ mn) → (tM = tSM t0 hM mp mk S (k).toNat) → TT p l e rmMO_does s m args below meth c D vwCl A 4 False Q 6 [(0, .ref (ad 0)), (1, .int (iZ S)), (2, .int (iZ k))] [] (mW cI cZ ad W D_ r hM rM tM wM mp mk wh sM hi vS cd mn) 0 0 := by
  intro n
  induction n with
  | zero => intro k tM hn; omega
  | succ n ih =>
    intro k tM hn hk I
    refine tt_iload_n F 2 rfl rfl dMO_does_6 ?_
    refine tt_aload_n F 0 rfl rfl dMO_does_7 ?_
    refine tt_get F inMO 0 rfl rfl 8 (by decide) we706 rfl dMO_does_8 ?_
    refine tt_icmp_ge F 58 ⟨by omega, by omega⟩ ⟨by omega, by omega⟩ dMO_does_11 (by decide) (fun c11 => ?_) (fun c11 => ?_)
    · skip
      refine tt_sub [0] rfl ?_
      exact k58 k tM (by rw [I, show k = mn by omega])
    · skip
      have hmk := hmp k (by omega) (by omega)
      have hbb := bi_b (tb S k)
      refine tt_iload_n F 1 rfl rfl dMO_does_14 ?_
      refine tt_iload_n F 2 rfl rfl dMO_does_15 ?_
      refine tt_ishr F dMO_does_16 ?_
      refine tt_iconst F dMO_does_17 ?_
      refine tt_iand F dMO_does_18 ?_
      refine tt_top (zbit S (by omega) (by omega)) ?_
      refine tt_iconst F dMO_does_19 ?_
      refine tt_icmp_ne F 52 ⟨by omega, by omega⟩ ⟨by omega, by omega⟩ dMO_does_20 (by decide) (fun c20 => ?_) (fun c20 => ?_)
      · skip
        have hbt : tb S k = false := by cases hh : tb S k with | false => rfl | true => rw [hh] at c20; exact absurd rfl c20
        refine tt_iinc F 2 [(2, .int (iZ (k + 1))), (0, .ref (ad 0)), (1, .int (iZ S))] rfl (by decide) rfl dMO_does_52 ?_
        refine tt_goto F 6 (by decide) dMO_does_55 ?_
        refine tt_sub [1, 2, 0] rfl ?_
        exact ih (k + 1) tM (by omega) (⟨by omega, by omega⟩) (by rw [tSM_s (by omega), if_neg (by rw [hbt]; exact Bool.false_ne_true)]; exact I)
      · skip
        have hbt : tb S k = true := by cases hh : tb S k with | true => rfl | false => rw [hh] at c20; exact absurd c20 (by decide)
        refine tt_aload_n F 0 rfl rfl dMO_does_23 ?_
        refine tt_get F inMO 0 rfl rfl 6 (by decide) we704 rfl dMO_does_24 ?_
        refine tt_aload_n F 0 rfl rfl dMO_does_27 ?_
        refine tt_get F inMO 0 rfl rfl 9 (by decide) we707 rfl dMO_does_28 ?_
        refine tt_iload_n F 2 rfl rfl dMO_does_31 ?_
        refine tt_iald F 5 rfl (by omega) (by omega) (by omega) dMO_does_32 ?_
        refine tt_aload_n F 0 rfl rfl dMO_does_33 ?_
        refine tt_get F inMO 0 rfl rfl 4 (by decide) we702 rfl dMO_does_34 ?_
        refine tt_aload_n F 0 rfl rfl dMO_does_37 ?_
        refine tt_get F inMO 0 rfl rfl 9 (by decide) we707 rfl dMO_does_38 ?_
        refine tt_iload_n F 2 rfl rfl dMO_does_41 ?_
        refine tt_iald F 5 rfl (by omega) (by omega) (by omega) dMO_does_42 ?_
        refine tt_iald F 1 rfl (by omega) (by omega) (by omega) dMO_does_43 ?_
        refine tt_aload_n F 0 rfl rfl dMO_does_44 ?_
        refine tt_get F inMO 0 rfl rfl 10 (by decide) we708 rfl dMO_does_45 ?_
        refine tt_iload_n F 2 rfl rfl dMO_does_48 ?_
        refine tt_iald F 6 rfl (by omega) (by omega) (by omega) dMO_does_49 ?_
        refine tt_iadd F dMO_does_50 ?_
        refine tt_iast F (fun h => h) 3 rfl (by omega) (by omega) (by omega) dMO_does_51 ?_
        refine tt_iinc F 2 [(2, .int (iZ (k + 1))), (0, .ref (ad 0)), (1, .int (iZ S))] rfl (by decide) rfl dMO_does_52 ?_
        refine tt_goto F 6 (by decide) dMO_does_55 ?_
        refine tt_sub [1, 2, 0] rfl ?_
        exact ih (k + 1) (zu tM (mp k) ((hM (mp k)) + (mk k))) (by omega) (⟨by omega, by omega⟩) (by rw [tSM_s (by omega), if_pos hbt, I])
def alI (W D_ : Int) (wM hi : Int → Int) (al_ k : Int) : Prop := (al_ = 1 ∧ ∀ j, 0 ≤ j → j < k → wM j = 1 → sfM W D_ hi j = true) ∨ (al_ = 0 ∧ ∃ j, 0 ≤ j ∧ j < 144 ∧ wM j = 1 ∧ sfM W D_ hi j = false)
set_option maxHeartbeats 4000000 in
set_option maxRecDepth 100000 in
theorem lp_does2 {t0 : Int → Int} (F : FX p s m args meth c cMO_does 4 (some .boolean) wsMO_does RMO D vwCl cI cZ cJ SL A) (hg : 1 ≤ W ∧ W ≤ 12 ∧ 1 ≤ D_ ∧ D_ ≤ 12 ∧ 1 ≤ r ∧ r ≤ 10) (hwM : ∀ k, 0 ≤ k → k < 144 → wM k = 0 ∨ wM k = 1) (hRL : RLI W D_ r t0 wh sM hi ((W + 2 * r) * (D_ + 2 * r)))
    (k106 : ∀ (al_ : Int) (k : Int), (alI W D_ wM hi al_ 144) → TT p l e rmMO_does s m args below meth c D vwCl A 4 False Q 106 [(2, .int (iZ al_))] [] (mW cI cZ ad W D_ r hM rM tM wM mp mk wh sM hi vS cd mn) 0 0) :
    ∀ (n : Nat) (al_ : Int) (k : Int), (144 - k).toNat < n → (0 ≤ k ∧ k ≤ 144) → (alI W D_ wM hi al_ k) → TT p l e rmMO_does s m args below meth c D vwCl A 4 False Q 66 [(0, .ref (ad 0)), (2, .int (iZ al_)), (3, .int (iZ k))] [] (mW cI cZ ad W D_ r hM rM tM wM mp mk wh sM hi vS cd mn) 0 0 := by
  intro n
  induction n with
  | zero => intro al_ k hn; omega
  | succ n ih =>
    intro al_ k hn hk I
    obtain ⟨hW1, hW2, hD1, hD2, hr1, hr2⟩ := id hg
    have hrr := rr_b hr1 hr2
    have hPL := pl_b hW1 hW2 hD1 hD2 hr1 hr2
    have hal := zb_b I
    refine tt_iload_n F 2 rfl rfl dMO_does_66 ?_
    refine tt_sipush F (by decide) dMO_does_67 ?_
    refine tt_icmp_ge F 106 ⟨by omega, by omega⟩ ⟨by omega, by omega⟩ dMO_does_70 (by decide) (fun c70 => ?_) (fun c70 => ?_)
    · skip
      refine tt_sub [1] rfl ?_
      exact k106 al_ k (by have e : k = 144 := (by omega); rw [e] at I; exact I)
    · skip
      have hwk := hwM k (by omega) (by omega)
      refine tt_iload_n F 1 rfl rfl dMO_does_73 ?_
      refine tt_if_eq F 98 ⟨by omega, by omega⟩ dMO_does_74 (by decide) (fun c74 => ?_) (fun c74 => ?_)
      · skip
        have hq := zb_0 I c74
        refine tt_iconst F dMO_does_98 ?_
        refine tt_istore_n F [(2, .int (iZ 0)), (0, .ref (ad 0)), (3, .int (iZ k))] rfl (by decide) rfl dMO_does_99 ?_
        refine tt_iinc F 2 [(3, .int (iZ (k + 1))), (2, .int (iZ 0)), (0, .ref (ad 0))] rfl (by decide) rfl dMO_does_100 ?_
        refine tt_goto F 66 (by decide) dMO_does_103 ?_
        refine tt_sub [2, 1, 0] rfl ?_
        exact ih 0 (k + 1) (by omega) (⟨by omega, by omega⟩) (Or.inr ⟨rfl, hq⟩)
      · skip
        refine tt_aload_n F 0 rfl rfl dMO_does_77 ?_
        refine tt_get F inMO 0 rfl rfl 7 (by decide) we705 rfl dMO_does_78 ?_
        refine tt_iload_n F 2 rfl rfl dMO_does_81 ?_
        refine tt_zald F 4 rfl (by omega) (by omega) (by omega) dMO_does_82 ?_
        refine tt_if_eq F 94 ⟨by omega, by omega⟩ dMO_does_83 (by decide) (fun c83 => ?_) (fun c83 => ?_)
        · skip
          refine tt_iconst F dMO_does_94 ?_
          refine tt_goto F 99 (by decide) dMO_does_95 ?_
          refine tt_istore_n F [(2, .int (iZ 1)), (0, .ref (ad 0)), (3, .int (iZ k))] rfl (by decide) rfl dMO_does_99 ?_
          refine tt_iinc F 2 [(3, .int (iZ (k + 1))), (2, .int (iZ 1)), (0, .ref (ad 0))] rfl (by decide) rfl dMO_does_100 ?_
          refine tt_goto F 66 (by decide) dMO_does_103 ?_
          refine tt_sub [2, 1, 0] rfl ?_
          exact ih 1 (k + 1) (by omega) (⟨by omega, by omega⟩) (Or.inl ⟨rfl, fun j j0 j1 hj => if e : j = k then (by rw [e] at hj ⊢; omega) else zb_1 I c74 j j0 (by omega) hj⟩)
        · skip
          refine tt_aload_n F 0 rfl rfl dMO_does_86 ?_
          refine tt_iload_n F 2 rfl rfl dMO_does_87 ?_
          refine tt_cOV F (As := [.int (iZ k)]) [] 0 rfl rfl (o_isSafe (hM := hM) (rM := rM) (tM := tM) (wM := wM) (mp := mp) (mk := mk) (wh := wh) (sM := sM) (hi := hi) (vS := vS) (cd := cd) (mn := mn) hg (by omega) (rli_b hg hRL (by omega) (by omega))) (cwV 1 F.1.2.2.2.2 (gw_V wd836 wd838 wd40 wd53 wd839) rfl rfl rfl (by decide +kernel) ⟨(Nat.le_of_ble_eq_true rfl), (Nat.le_of_ble_eq_true rfl)⟩) rfl rfl rfl (Nat.le_of_ble_eq_true rfl) ⟨(Nat.le_of_ble_eq_true rfl), (Nat.le_of_ble_eq_true rfl)⟩ dMO_does_88 (fun v88 hp => ?_)
          obtain ⟨z88, rfl, hz88⟩ := hp
          have hb88 := zb_b hz88
          refine tt_if_eq F 98 ⟨by omega, by omega⟩ dMO_does_91 (by decide) (fun c91 => ?_) (fun c91 => ?_)
          · skip
            refine tt_iconst F dMO_does_98 ?_
            refine tt_istore_n F [(2, .int (iZ 0)), (0, .ref (ad 0)), (3, .int (iZ k))] rfl (by decide) rfl dMO_does_99 ?_
            refine tt_iinc F 2 [(3, .int (iZ (k + 1))), (2, .int (iZ 0)), (0, .ref (ad 0))] rfl (by decide) rfl dMO_does_100 ?_
            refine tt_goto F 66 (by decide) dMO_does_103 ?_
            refine tt_sub [2, 1, 0] rfl ?_
            exact ih 0 (k + 1) (by omega) (⟨by omega, by omega⟩) (Or.inr ⟨rfl, k, by omega, by omega, by omega, zb_0 hz88 c91⟩)
          · skip
            refine tt_iconst F dMO_does_94 ?_
            refine tt_goto F 99 (by decide) dMO_does_95 ?_
            refine tt_istore_n F [(2, .int (iZ 1)), (0, .ref (ad 0)), (3, .int (iZ k))] rfl (by decide) rfl dMO_does_99 ?_
            refine tt_iinc F 2 [(3, .int (iZ (k + 1))), (2, .int (iZ 1)), (0, .ref (ad 0))] rfl (by decide) rfl dMO_does_100 ?_
            refine tt_goto F 66 (by decide) dMO_does_103 ?_
            refine tt_sub [2, 1, 0] rfl ?_
            exact ih 1 (k + 1) (by omega) (⟨by omega, by omega⟩) (Or.inl ⟨rfl, fun j j0 j1 hj => if e : j = k then (by rw [e] at hj ⊢; exact zb_1 hz88 c91) else zb_1 I c74 j j0 (by omega) hj⟩)
set_option maxHeartbeats 4000000 in
set_option maxRecDepth 100000 in
theorem c_does {S : Int} (hg : 1 ≤ W ∧ W ≤ 12 ∧ 1 ≤ D_ ∧ D_ ≤ 12 ∧ 1 ≤ r ∧ r ≤ 10) (hB : ∀ k, 0 ≤ k → k < 144 → (0 ≤ hM k ∧ hM k ≤ 200) ∧ 0 ≤ rM k ∧ rM k ≤ 50) (hmn : 0 ≤ mn ∧ mn ≤ 4) (hmp : ∀ j, 0 ≤ j → j < mn → (0 ≤ mp j ∧ mp j < 144) ∧ 1 ≤ mk j ∧ mk j ≤ 50) (hwM : ∀ k, 0 ≤ k → k < 144 → wM k = 0 ∨ wM k = 1) : CI l D vwCl cI cZ cJ SL yMO_does wsMO_does rmMO_does [.ref (ad 0), .int (iZ S)] (mW cI cZ ad W D_ r hM rM tM wM mp mk wh sM hi vS cd mn) (fun z w1 => ∃ (t' wh' sM' hi' : Int → Int), w1 = (mW cI cZ ad W D_ r hM rM t' wM mp mk wh' sM' hi' vS cd mn) ∧ ((z = 1 ∧ doM W D_ r hM rM wM mp mk mn S) ∨ (z = 0 ∧ ¬ doM W D_ r hM rM wM mp mk mn S))) := by
  refine tt_startI (by decide) rfl (Nat.le_of_ble_eq_true rfl) ?_
  intro p e s m args below meth c hnm F
  obtain ⟨hW1, hW2, hD1, hD2, hr1, hr2⟩ := id hg
  have hrr := rr_b hr1 hr2
  have hPL := pl_b hW1 hW2 hD1 hD2 hr1 hr2
  refine tt_aload_n F 0 rfl rfl dMO_does_0 ?_
  refine tt_cVV0 F (fun h => h) (As := []) 0 rfl rfl (c_stand (hM := hM) (rM := rM) (tM := tM) (wM := wM) (mp := mp) (mk := mk) (wh := wh) (sM := sM) (hi := hi) (vS := vS) (cd := cd) (mn := mn)) (cwV 0 F.1.2.2.2.2 (gw_V wd774 wd776 wd31 wd53 wd777) rfl rfl rfl (by decide +kernel) ⟨(Nat.le_of_ble_eq_true rfl), (Nat.le_of_ble_eq_true rfl)⟩) rfl rfl rfl (Nat.le_of_ble_eq_true rfl) ⟨(Nat.le_of_ble_eq_true rfl), (Nat.le_of_ble_eq_true rfl)⟩ dMO_does_1 (fun w1 hp => ?_)
  obtain ⟨t1, rfl, ht1⟩ := hp
  refine tt_iconst F dMO_does_4 ?_
  refine tt_istore_n F [(2, .int (iZ 0)), (0, .ref (ad 0)), (1, .int (iZ S))] rfl (by decide) rfl dMO_does_5 ?_
  refine tt_sub [1, 2, 0] rfl ?_
  refine lp_does1 (t0 := t1) F hmn hmp (fun k t2 ht2 => ?_) (mn.toNat + 1) 0 t1 (by omega) (by omega) rfl
  have hT2 : ∀ k, 0 ≤ k → k < 144 → 0 ≤ t2 k ∧ t2 k ≤ 250 := by rw [ht2]; exact tSM_b (fun k k0 k1 => by rw [ht1 k k0 k1]; have := hB k k0 k1; omega) (fun k k0 k1 => (hB k k0 k1).1) _ (fun j j0 j1 => hmp j j0 (by omega))
  refine tt_aload_n F 0 rfl rfl dMO_does_58 ?_
  refine tt_cVV0 F (fun h => h) (As := []) 0 rfl rfl (c_roll (hM := hM) (rM := rM) (tM := t2) (wM := wM) (mp := mp) (mk := mk) (wh := wh) (sM := sM) (hi := hi) (vS := vS) (cd := cd) (mn := mn) hg hT2) (cwV 0 F.1.2.2.2.2 (gw_V wd820 wd822 wd38 wd53 wd823) rfl rfl rfl (by decide +kernel) ⟨(Nat.le_of_ble_eq_true rfl), (Nat.le_of_ble_eq_true rfl)⟩) rfl rfl rfl (Nat.le_of_ble_eq_true rfl) ⟨(Nat.le_of_ble_eq_true rfl), (Nat.le_of_ble_eq_true rfl)⟩ dMO_does_59 (fun w1 hp => ?_)
  obtain ⟨wh59, sM59, hi59, rfl, hRL59⟩ := hp
  refine tt_iconst F dMO_does_62 ?_
  refine tt_istore_n F [(2, .int (iZ 1)), (0, .ref (ad 0))] rfl (by decide) rfl dMO_does_63 ?_
  refine tt_iconst F dMO_does_64 ?_
  refine tt_istore_n F [(3, .int (iZ 0)), (2, .int (iZ 1)), (0, .ref (ad 0))] rfl (by decide) rfl dMO_does_65 ?_
  refine tt_sub [2, 1, 0] rfl ?_
  refine lp_does2 F hg hwM hRL59 (fun al_ k h => ?_) 145 1 0 (by omega) (by omega) (Or.inl ⟨rfl, fun j j0 j1 => by omega⟩)
  have htc : ∀ k, 0 ≤ k → k < 144 → tSM (fun k => hM k + rM k) hM mp mk S mn.toNat k = t2 k := by rw [ht2]; exact tSM_c (fun k k0 k1 => (ht1 k k0 k1).symm) _
  have hsa : ∀ j, 0 ≤ j → j < 144 → (sfM W D_ hi59 j = true ↔ saM W D_ r (tSM (fun k => hM k + rM k) hM mp mk S mn.toNat) j) := fun j j0 j1 => (rli_sa hRL59 j0 j1).trans ⟨saM_c htc j0 j1, saM_c (fun k k0 k1 => (htc k k0 k1).symm) j0 j1⟩
  refine tt_iload_n F 0 rfl rfl dMO_does_106 ?_
  exact tt_zret F rfl (by have hal := zb_b h; omega) (Nat.le_of_ble_eq_true rfl) (Nat.le_of_ble_eq_true rfl) dMO_does_107 ⟨t2, wh59, sM59, hi59, rfl, by
      rcases h with ⟨e, h⟩ | ⟨e, j, j0, j1, j2, j3⟩
      · exact Or.inl ⟨e, fun j j0 j1 j2 => (hsa j j0 j1).mp (h j j0 j1 j2)⟩
      · exact Or.inr ⟨e, fun hd => by rw [(hsa j j0 j1).mpr (hd j j0 j1 j2)] at j3; cases j3⟩⟩
abbrev rmMO_manyOf : Room := { frames := 0, cells := 0, slots := 0, locals := 0 }
set_option maxHeartbeats 4000000 in
set_option maxRecDepth 100000 in
theorem o_manyOf {S : Int} (hS : 0 ≤ S ∧ S < 16) : CO l D vwCl cI cZ cJ SL yMO_manyOf wsMO_manyOf rmMO_manyOf [.ref (ad 0), .int (iZ S)] (mW cI cZ ad W D_ r hM rM tM wM mp mk wh sM hi vS cd mn) (fun v => v = some (.int (iZ (pcS S 4)))) := by
  refine tt_startO (by decide) rfl (Nat.le_of_ble_eq_true rfl) ?_
  intro p e s m args below meth c hnm F
  refine tt_iload_n F 1 rfl rfl dMO_manyOf_0 ?_
  refine tt_iconst F dMO_manyOf_1 ?_
  refine tt_iand F dMO_manyOf_2 ?_
  refine tt_iload_n F 1 rfl rfl dMO_manyOf_3 ?_
  refine tt_iconst F dMO_manyOf_4 ?_
  refine tt_ishr F dMO_manyOf_5 ?_
  refine tt_iconst F dMO_manyOf_6 ?_
  refine tt_iand F dMO_manyOf_7 ?_
  refine tt_iadd F dMO_manyOf_8 ?_
  refine tt_iload_n F 1 rfl rfl dMO_manyOf_9 ?_
  refine tt_iconst F dMO_manyOf_10 ?_
  refine tt_ishr F dMO_manyOf_11 ?_
  refine tt_iconst F dMO_manyOf_12 ?_
  refine tt_iand F dMO_manyOf_13 ?_
  refine tt_iadd F dMO_manyOf_14 ?_
  refine tt_iload_n F 1 rfl rfl dMO_manyOf_15 ?_
  refine tt_iconst F dMO_manyOf_16 ?_
  refine tt_ishr F dMO_manyOf_17 ?_
  refine tt_iconst F dMO_manyOf_18 ?_
  refine tt_iand F dMO_manyOf_19 ?_
  refine tt_iadd F dMO_manyOf_20 ?_
  exact tt_iretO F rfl dMO_manyOf_21 (by rw [many_ok hS.1 hS.2])
abbrev rmMO_lengthOf : Room := { frames := 0, cells := 0, slots := 0, locals := 0 }
set_option maxHeartbeats 4000000 in
set_option maxRecDepth 100000 in
theorem lp_lenM {S : Int} (F : FX p s m args meth c cMO_lengthOf 4 (some .int) wsMO_lengthOf RMO D vwCl cI cZ cJ SL A) (hmn : 0 ≤ mn ∧ mn ≤ 4) (hmp : ∀ j, 0 ≤ j → j < mn → (0 ≤ mp j ∧ mp j < 144) ∧ 1 ≤ mk j ∧ mk j ≤ 50)
    (k40 : ∀ (n_ : Int) (k : Int), (n_ = lnS mk S mn.toNat) → TT p l e rmMO_lengthOf s m args below meth c D vwCl A 4 False Q 40 [(2, .int (iZ n_))] [] (mW cI cZ ad W D_ r hM rM tM wM mp mk wh sM hi vS cd mn) 0 0) :
    ∀ (n : Nat) (n_ : Int) (k : Int), (mn - k).toNat < n → (0 ≤ k ∧ k ≤ mn) → (n_ = lnS mk S k.toNat) → TT p l e rmMO_lengthOf s m args below meth c D vwCl A 4 False Q 4 [(0, .ref (ad 0)), (1, .int (iZ S)), (2, .int (iZ n_)), (3, .int (iZ k))] [] (mW cI cZ ad W D_ r hM rM tM wM mp mk wh sM hi vS cd mn) 0 0 := by
  intro n
  induction n with
  | zero => intro n_ k hn; omega
  | succ n ih =>
    intro n_ k hn hk I
    refine tt_iload_n F 3 rfl rfl dMO_lengthOf_4 ?_
    refine tt_aload_n F 0 rfl rfl dMO_lengthOf_5 ?_
    refine tt_get F inMO 0 rfl rfl 8 (by decide) we706 rfl dMO_lengthOf_6 ?_
    refine tt_icmp_ge F 40 ⟨by omega, by omega⟩ ⟨by omega, by omega⟩ dMO_lengthOf_9 (by decide) (fun c9 => ?_) (fun c9 => ?_)
    · skip
      refine tt_sub [2] rfl ?_
      exact k40 n_ k (by rw [I, show k = mn by omega])
    · skip
      have hmk := hmp k (by omega) (by omega)
      have hbb := bi_b (tb S k)
      refine tt_iload_n F 2 rfl rfl dMO_lengthOf_12 ?_
      refine tt_iload_n F 1 rfl rfl dMO_lengthOf_13 ?_
      refine tt_iload_n F 3 rfl rfl dMO_lengthOf_14 ?_
      refine tt_ishr F dMO_lengthOf_15 ?_
      refine tt_iconst F dMO_lengthOf_16 ?_
      refine tt_iand F dMO_lengthOf_17 ?_
      refine tt_top (zbit S (by omega) (by omega)) ?_
      refine tt_iconst F dMO_lengthOf_18 ?_
      refine tt_icmp_ne F 31 ⟨by omega, by omega⟩ ⟨by omega, by omega⟩ dMO_lengthOf_19 (by decide) (fun c19 => ?_) (fun c19 => ?_)
      · skip
        have hbt : tb S k = false := by cases hh : tb S k with | false => rfl | true => rw [hh] at c19; exact absurd rfl c19
        refine tt_iconst F dMO_lengthOf_31 ?_
        refine tt_iadd F dMO_lengthOf_32 ?_
        refine tt_istore_n F [(2, .int (iZ (n_ + 0))), (0, .ref (ad 0)), (1, .int (iZ S)), (3, .int (iZ k))] rfl (by decide) rfl dMO_lengthOf_33 ?_
        refine tt_iinc F 3 [(3, .int (iZ (k + 1))), (2, .int (iZ (n_ + 0))), (0, .ref (ad 0)), (1, .int (iZ S))] rfl (by decide) rfl dMO_lengthOf_34 ?_
        refine tt_goto F 4 (by decide) dMO_lengthOf_37 ?_
        refine tt_sub [2, 3, 1, 0] rfl ?_
        exact ih (n_ + 0) (k + 1) (by omega) (⟨by omega, by omega⟩) (by rw [lnS_t (by omega), if_neg (by rw [hbt]; exact Bool.false_ne_true), I])
      · skip
        have hbt : tb S k = true := by cases hh : tb S k with | true => rfl | false => rw [hh] at c19; exact absurd c19 (by decide)
        refine tt_aload_n F 0 rfl rfl dMO_lengthOf_22 ?_
        refine tt_get F inMO 0 rfl rfl 10 (by decide) we708 rfl dMO_lengthOf_23 ?_
        refine tt_iload_n F 3 rfl rfl dMO_lengthOf_26 ?_
        refine tt_iald F 6 rfl (by omega) (by omega) (by omega) dMO_lengthOf_27 ?_
        refine tt_goto F 32 (by decide) dMO_lengthOf_28 ?_
        refine tt_iadd F dMO_lengthOf_32 ?_
        refine tt_istore_n F [(2, .int (iZ (n_ + (mk k)))), (0, .ref (ad 0)), (1, .int (iZ S)), (3, .int (iZ k))] rfl (by decide) rfl dMO_lengthOf_33 ?_
        refine tt_iinc F 3 [(3, .int (iZ (k + 1))), (2, .int (iZ (n_ + (mk k)))), (0, .ref (ad 0)), (1, .int (iZ S))] rfl (by decide) rfl dMO_lengthOf_34 ?_
        refine tt_goto F 4 (by decide) dMO_lengthOf_37 ?_
        refine tt_sub [2, 3, 1, 0] rfl ?_
        exact ih (n_ + (mk k)) (k + 1) (by omega) (⟨by omega, by omega⟩) (by rw [lnS_t (by omega), if_pos hbt, I])
set_option maxHeartbeats 4000000 in
set_option maxRecDepth 100000 in
theorem c_lenM {S : Int} (hmn : 0 ≤ mn ∧ mn ≤ 4) (hmp : ∀ j, 0 ≤ j → j < mn → (0 ≤ mp j ∧ mp j < 144) ∧ 1 ≤ mk j ∧ mk j ≤ 50) : CI l D vwCl cI cZ cJ SL yMO_lengthOf wsMO_lengthOf rmMO_lengthOf [.ref (ad 0), .int (iZ S)] (mW cI cZ ad W D_ r hM rM tM wM mp mk wh sM hi vS cd mn) (fun z w1 => z = lnS mk S mn.toNat ∧ w1 = (mW cI cZ ad W D_ r hM rM tM wM mp mk wh sM hi vS cd mn)) := by
  refine tt_startI (by decide) rfl (Nat.le_of_ble_eq_true rfl) ?_
  intro p e s m args below meth c hnm F
  refine tt_iconst F dMO_lengthOf_0 ?_
  refine tt_istore_n F [(2, .int (iZ 0)), (0, .ref (ad 0)), (1, .int (iZ S))] rfl (by decide) rfl dMO_lengthOf_1 ?_
  refine tt_iconst F dMO_lengthOf_2 ?_
  refine tt_istore_n F [(3, .int (iZ 0)), (2, .int (iZ 0)), (0, .ref (ad 0)), (1, .int (iZ S))] rfl (by decide) rfl dMO_lengthOf_3 ?_
  refine tt_sub [2, 3, 1, 0] rfl ?_
  refine lp_lenM F hmn hmp (fun n_ k h => ?_) (mn.toNat + 1) 0 0 (by omega) (by omega) rfl
  refine tt_iload_n F 0 rfl rfl dMO_lengthOf_40 ?_
  exact tt_iret F rfl (Nat.le_of_ble_eq_true rfl) (Nat.le_of_ble_eq_true rfl) dMO_lengthOf_41 ⟨h, rfl⟩
abbrev rmMO_choose : Room := { frames := 6, cells := 0, slots := 0, locals := 138 }
set_option maxHeartbeats 4000000 in
set_option maxRecDepth 100000 in
theorem lp_chooseM  (F : FX p s m args meth c cMO_choose 4 (some .int) wsMO_choose RMO D vwCl cI cZ cJ SL A) (hg : 1 ≤ W ∧ W ≤ 12 ∧ 1 ≤ D_ ∧ D_ ≤ 12 ∧ 1 ≤ r ∧ r ≤ 10) (hB : ∀ k, 0 ≤ k → k < 144 → (0 ≤ hM k ∧ hM k ≤ 200) ∧ 0 ≤ rM k ∧ rM k ≤ 50) (hmn : 0 ≤ mn ∧ mn ≤ 4) (hmp : ∀ j, 0 ≤ j → j < mn → (0 ≤ mp j ∧ mp j < 144) ∧ 1 ≤ mk j ∧ mk j ≤ 50) (hwM : ∀ k, 0 ≤ k → k < 144 → wM k = 0 ∨ wM k = 1)
    (k93 : ∀ (bst : Int) (s_ : Int) (tM : Int → Int) (wh : Int → Int) (sM : Int → Int) (hi : Int → Int), (CHM W D_ r hM rM wM mp mk mn bst (zshl 1 mn)) → TT p l e rmMO_choose s m args below meth c D vwCl A 4 False Q 93 [(1, .int (iZ bst))] [] (mW cI cZ ad W D_ r hM rM tM wM mp mk wh sM hi vS 0 mn) 0 0) :
    ∀ (n : Nat) (bst : Int) (s_ : Int) (tM : Int → Int) (wh : Int → Int) (sM : Int → Int) (hi : Int → Int), (zshl 1 mn - s_).toNat < n → (0 ≤ s_ ∧ s_ ≤ zshl 1 mn) → (CHM W D_ r hM rM wM mp mk mn bst s_) → TT p l e rmMO_choose s m args below meth c D vwCl A 4 False Q 9 [(0, .ref (ad 0)), (1, .int (iZ bst)), (2, .int (iZ s_))] [] (mW cI cZ ad W D_ r hM rM tM wM mp mk wh sM hi vS 0 mn) 0 0 := by
  intro n
  induction n with
  | zero => intro bst s_ tM wh sM hi hn; omega
  | succ n ih =>
    intro bst s_ tM wh sM hi hn hk I
    obtain ⟨hW1, hW2, hD1, hD2, hr1, hr2⟩ := id hg
    have hrr := rr_b hr1 hr2
    have hPL := pl_b hW1 hW2 hD1 hD2 hr1 hr2
    have hpw := pw_b hmn
    have hcb := chm_b I hk.1
    refine tt_iload_n F 2 rfl rfl dMO_choose_9 ?_
    refine tt_iconst F dMO_choose_10 ?_
    refine tt_aload_n F 0 rfl rfl dMO_choose_11 ?_
    refine tt_get F inMO 0 rfl rfl 8 (by decide) we706 rfl dMO_choose_12 ?_
    refine tt_ishl F dMO_choose_15 ?_
    refine tt_icmp_ge F 93 ⟨by omega, by omega⟩ (zshl_ir 1 mn) dMO_choose_16 (by decide) (fun c16 => ?_) (fun c16 => ?_)
    · skip
      refine tt_sub [1] rfl ?_
      exact k93 bst s_ tM wh sM hi (by have e : s_ = zshl 1 mn := (by omega); rw [e] at I; exact I)
    · skip
      have hs16 : s_ < 16 := by omega
      have hpb := pcS_b bst
      have hps := pcS_b s_
      refine tt_iload_n F 1 rfl rfl dMO_choose_19 ?_
      refine tt_iconst F dMO_choose_20 ?_
      refine tt_icmp_eq F 63 ⟨by omega, by omega⟩ ⟨by omega, by omega⟩ dMO_choose_21 (by decide) (fun c21 => ?_) (fun c21 => ?_)
      · skip
        refine tt_iconst F dMO_choose_63 ?_
        refine tt_goto F 68 (by decide) dMO_choose_64 ?_
        refine tt_istore_n F [(3, .int (iZ 1)), (0, .ref (ad 0)), (1, .int (iZ bst)), (2, .int (iZ s_))] rfl (by decide) rfl dMO_choose_68 ?_
        refine tt_iload_n F 0 rfl rfl dMO_choose_69 ?_
        refine tt_if_eq F 85 ⟨by omega, by omega⟩ dMO_choose_70 (by decide) (fun c70 => ?_) (fun c70 => ?_)
        · skip
          refine tt_iload_n F 2 rfl rfl dMO_choose_85 ?_
          refine tt_istore_n F [(1, .int (iZ bst)), (3, .int (iZ 1)), (0, .ref (ad 0)), (2, .int (iZ s_))] rfl (by decide) rfl dMO_choose_86 ?_
          refine tt_iinc F 3 [(2, .int (iZ (s_ + 1))), (1, .int (iZ bst)), (3, .int (iZ 1)), (0, .ref (ad 0))] rfl (by decide) rfl dMO_choose_87 ?_
          refine tt_goto F 9 (by decide) dMO_choose_90 ?_
          refine tt_sub [3, 1, 0] rfl ?_
          exact ih bst (s_ + 1) tM wh sM hi (by omega) (⟨by omega, by omega⟩) (absurd c70 (by omega))
        · skip
          refine tt_aload_n F 1 rfl rfl dMO_choose_73 ?_
          refine tt_iload_n F 3 rfl rfl dMO_choose_74 ?_
          refine tt_cIV0 F (fun h => h) (As := [.int (iZ s_)]) 0 rfl rfl (c_does (hM := hM) (rM := rM) (tM := tM) (wM := wM) (mp := mp) (mk := mk) (wh := wh) (sM := sM) (hi := hi) (vS := vS) (cd := 0) (mn := mn) hg hB hmn hmp hwM) (cwV 1 F.1.2.2.2.2 (gw_V wd868 wd870 wd43 wd53 wd871) rfl rfl rfl (by decide +kernel) ⟨(Nat.le_of_ble_eq_true rfl), (Nat.le_of_ble_eq_true rfl)⟩) rfl rfl rfl (Nat.le_of_ble_eq_true rfl) ⟨(Nat.le_of_ble_eq_true rfl), (Nat.le_of_ble_eq_true rfl)⟩ dMO_choose_75 (fun z75 w1 hp => ?_)
          obtain ⟨t75, wh75, sM75, hi75, rfl, hz75⟩ := hp
          have hb75 := zb_b hz75
          refine tt_if_eq F 85 ⟨by omega, by omega⟩ dMO_choose_78 (by decide) (fun c78 => ?_) (fun c78 => ?_)
          · skip
            refine tt_iload_n F 2 rfl rfl dMO_choose_85 ?_
            refine tt_istore_n F [(1, .int (iZ bst)), (3, .int (iZ 1)), (0, .ref (ad 0)), (2, .int (iZ s_))] rfl (by decide) rfl dMO_choose_86 ?_
            refine tt_iinc F 3 [(2, .int (iZ (s_ + 1))), (1, .int (iZ bst)), (3, .int (iZ 1)), (0, .ref (ad 0))] rfl (by decide) rfl dMO_choose_87 ?_
            refine tt_goto F 9 (by decide) dMO_choose_90 ?_
            refine tt_sub [3, 1, 0] rfl ?_
            exact ih bst (s_ + 1) t75 wh75 sM75 hi75 (by omega) (⟨by omega, by omega⟩) (chm_no (zb_0 hz75 c78) I)
          · skip
            refine tt_iload_n F 3 rfl rfl dMO_choose_81 ?_
            refine tt_goto F 86 (by decide) dMO_choose_82 ?_
            refine tt_istore_n F [(1, .int (iZ s_)), (3, .int (iZ 1)), (0, .ref (ad 0)), (2, .int (iZ s_))] rfl (by decide) rfl dMO_choose_86 ?_
            refine tt_iinc F 3 [(2, .int (iZ (s_ + 1))), (1, .int (iZ s_)), (3, .int (iZ 1)), (0, .ref (ad 0))] rfl (by decide) rfl dMO_choose_87 ?_
            refine tt_goto F 9 (by decide) dMO_choose_90 ?_
            refine tt_sub [3, 1, 0] rfl ?_
            exact ih s_ (s_ + 1) t75 wh75 sM75 hi75 (by omega) (⟨by omega, by omega⟩) (chm_new (by omega) (zb_1 hz75 c78) (Or.inl c21) I)
      · skip
        have hb0 : 0 ≤ bst ∧ bst < s_ := by omega
        refine tt_aload_n F 0 rfl rfl dMO_choose_24 ?_
        refine tt_iload_n F 2 rfl rfl dMO_choose_25 ?_
        refine tt_cOV F (As := [.int (iZ s_)]) [] 0 rfl rfl (o_manyOf (hM := hM) (rM := rM) (tM := tM) (wM := wM) (mp := mp) (mk := mk) (wh := wh) (sM := sM) (hi := hi) (vS := vS) (cd := 0) (mn := mn) (by omega)) (cwV 1 F.1.2.2.2.2 (gw_V wd860 wd862 wd41 wd53 wd863) rfl rfl rfl (by decide +kernel) ⟨(Nat.le_of_ble_eq_true rfl), (Nat.le_of_ble_eq_true rfl)⟩) rfl rfl rfl (Nat.le_of_ble_eq_true rfl) ⟨(Nat.le_of_ble_eq_true rfl), (Nat.le_of_ble_eq_true rfl)⟩ dMO_choose_26 (fun v26 hp => ?_)
        subst hp
        refine tt_aload_n F 0 rfl rfl dMO_choose_29 ?_
        refine tt_iload_n F 1 rfl rfl dMO_choose_30 ?_
        refine tt_cOV F (As := [.int (iZ bst)]) [] 0 rfl rfl (o_manyOf (hM := hM) (rM := rM) (tM := tM) (wM := wM) (mp := mp) (mk := mk) (wh := wh) (sM := sM) (hi := hi) (vS := vS) (cd := 0) (mn := mn) (by omega)) (cwV 1 F.1.2.2.2.2 (gw_V wd860 wd862 wd41 wd53 wd863) rfl rfl rfl (by decide +kernel) ⟨(Nat.le_of_ble_eq_true rfl), (Nat.le_of_ble_eq_true rfl)⟩) rfl rfl rfl (Nat.le_of_ble_eq_true rfl) ⟨(Nat.le_of_ble_eq_true rfl), (Nat.le_of_ble_eq_true rfl)⟩ dMO_choose_31 (fun v31 hp => ?_)
        subst hp
        refine tt_icmp_lt F 63 ⟨by omega, by omega⟩ ⟨by omega, by omega⟩ dMO_choose_34 (by decide) (fun c34 => ?_) (fun c34 => ?_)
        · skip
          refine tt_iconst F dMO_choose_63 ?_
          refine tt_goto F 68 (by decide) dMO_choose_64 ?_
          refine tt_istore_n F [(3, .int (iZ 1)), (0, .ref (ad 0)), (1, .int (iZ bst)), (2, .int (iZ s_))] rfl (by decide) rfl dMO_choose_68 ?_
          refine tt_iload_n F 0 rfl rfl dMO_choose_69 ?_
          refine tt_if_eq F 85 ⟨by omega, by omega⟩ dMO_choose_70 (by decide) (fun c70 => ?_) (fun c70 => ?_)
          · skip
            refine tt_iload_n F 2 rfl rfl dMO_choose_85 ?_
            refine tt_istore_n F [(1, .int (iZ bst)), (3, .int (iZ 1)), (0, .ref (ad 0)), (2, .int (iZ s_))] rfl (by decide) rfl dMO_choose_86 ?_
            refine tt_iinc F 3 [(2, .int (iZ (s_ + 1))), (1, .int (iZ bst)), (3, .int (iZ 1)), (0, .ref (ad 0))] rfl (by decide) rfl dMO_choose_87 ?_
            refine tt_goto F 9 (by decide) dMO_choose_90 ?_
            refine tt_sub [3, 1, 0] rfl ?_
            exact ih bst (s_ + 1) tM wh sM hi (by omega) (⟨by omega, by omega⟩) (absurd c70 (by omega))
          · skip
            refine tt_aload_n F 1 rfl rfl dMO_choose_73 ?_
            refine tt_iload_n F 3 rfl rfl dMO_choose_74 ?_
            refine tt_cIV0 F (fun h => h) (As := [.int (iZ s_)]) 0 rfl rfl (c_does (hM := hM) (rM := rM) (tM := tM) (wM := wM) (mp := mp) (mk := mk) (wh := wh) (sM := sM) (hi := hi) (vS := vS) (cd := 0) (mn := mn) hg hB hmn hmp hwM) (cwV 1 F.1.2.2.2.2 (gw_V wd868 wd870 wd43 wd53 wd871) rfl rfl rfl (by decide +kernel) ⟨(Nat.le_of_ble_eq_true rfl), (Nat.le_of_ble_eq_true rfl)⟩) rfl rfl rfl (Nat.le_of_ble_eq_true rfl) ⟨(Nat.le_of_ble_eq_true rfl), (Nat.le_of_ble_eq_true rfl)⟩ dMO_choose_75 (fun z75 w1 hp => ?_)
            obtain ⟨t75, wh75, sM75, hi75, rfl, hz75⟩ := hp
            have hb75 := zb_b hz75
            refine tt_if_eq F 85 ⟨by omega, by omega⟩ dMO_choose_78 (by decide) (fun c78 => ?_) (fun c78 => ?_)
            · skip
              refine tt_iload_n F 2 rfl rfl dMO_choose_85 ?_
              refine tt_istore_n F [(1, .int (iZ bst)), (3, .int (iZ 1)), (0, .ref (ad 0)), (2, .int (iZ s_))] rfl (by decide) rfl dMO_choose_86 ?_
              refine tt_iinc F 3 [(2, .int (iZ (s_ + 1))), (1, .int (iZ bst)), (3, .int (iZ 1)), (0, .ref (ad 0))] rfl (by decide) rfl dMO_choose_87 ?_
              refine tt_goto F 9 (by decide) dMO_choose_90 ?_
              refine tt_sub [3, 1, 0] rfl ?_
              exact ih bst (s_ + 1) t75 wh75 sM75 hi75 (by omega) (⟨by omega, by omega⟩) (chm_no (zb_0 hz75 c78) I)
            · skip
              refine tt_iload_n F 3 rfl rfl dMO_choose_81 ?_
              refine tt_goto F 86 (by decide) dMO_choose_82 ?_
              refine tt_istore_n F [(1, .int (iZ s_)), (3, .int (iZ 1)), (0, .ref (ad 0)), (2, .int (iZ s_))] rfl (by decide) rfl dMO_choose_86 ?_
              refine tt_iinc F 3 [(2, .int (iZ (s_ + 1))), (1, .int (iZ s_)), (3, .int (iZ 1)), (0, .ref (ad 0))] rfl (by decide) rfl dMO_choose_87 ?_
              refine tt_goto F 9 (by decide) dMO_choose_90 ?_
              refine tt_sub [3, 1, 0] rfl ?_
              exact ih s_ (s_ + 1) t75 wh75 sM75 hi75 (by omega) (⟨by omega, by omega⟩) (chm_new (by omega) (zb_1 hz75 c78) (Or.inr (Or.inl c34)) I)
        · skip
          refine tt_aload_n F 0 rfl rfl dMO_choose_37 ?_
          refine tt_iload_n F 2 rfl rfl dMO_choose_38 ?_
          refine tt_cOV F (As := [.int (iZ s_)]) [] 0 rfl rfl (o_manyOf (hM := hM) (rM := rM) (tM := tM) (wM := wM) (mp := mp) (mk := mk) (wh := wh) (sM := sM) (hi := hi) (vS := vS) (cd := 0) (mn := mn) (by omega)) (cwV 1 F.1.2.2.2.2 (gw_V wd860 wd862 wd41 wd53 wd863) rfl rfl rfl (by decide +kernel) ⟨(Nat.le_of_ble_eq_true rfl), (Nat.le_of_ble_eq_true rfl)⟩) rfl rfl rfl (Nat.le_of_ble_eq_true rfl) ⟨(Nat.le_of_ble_eq_true rfl), (Nat.le_of_ble_eq_true rfl)⟩ dMO_choose_39 (fun v39 hp => ?_)
          subst hp
          refine tt_aload_n F 0 rfl rfl dMO_choose_42 ?_
          refine tt_iload_n F 1 rfl rfl dMO_choose_43 ?_
          refine tt_cOV F (As := [.int (iZ bst)]) [] 0 rfl rfl (o_manyOf (hM := hM) (rM := rM) (tM := tM) (wM := wM) (mp := mp) (mk := mk) (wh := wh) (sM := sM) (hi := hi) (vS := vS) (cd := 0) (mn := mn) (by omega)) (cwV 1 F.1.2.2.2.2 (gw_V wd860 wd862 wd41 wd53 wd863) rfl rfl rfl (by decide +kernel) ⟨(Nat.le_of_ble_eq_true rfl), (Nat.le_of_ble_eq_true rfl)⟩) rfl rfl rfl (Nat.le_of_ble_eq_true rfl) ⟨(Nat.le_of_ble_eq_true rfl), (Nat.le_of_ble_eq_true rfl)⟩ dMO_choose_44 (fun v44 hp => ?_)
          subst hp
          refine tt_icmp_ne F 67 ⟨by omega, by omega⟩ ⟨by omega, by omega⟩ dMO_choose_47 (by decide) (fun c47 => ?_) (fun c47 => ?_)
          · skip
            refine tt_iconst F dMO_choose_67 ?_
            refine tt_istore_n F [(3, .int (iZ 0)), (0, .ref (ad 0)), (1, .int (iZ bst)), (2, .int (iZ s_))] rfl (by decide) rfl dMO_choose_68 ?_
            refine tt_iload_n F 0 rfl rfl dMO_choose_69 ?_
            refine tt_if_eq F 85 ⟨by omega, by omega⟩ dMO_choose_70 (by decide) (fun c70 => ?_) (fun c70 => ?_)
            · skip
              refine tt_iload_n F 2 rfl rfl dMO_choose_85 ?_
              refine tt_istore_n F [(1, .int (iZ bst)), (3, .int (iZ 0)), (0, .ref (ad 0)), (2, .int (iZ s_))] rfl (by decide) rfl dMO_choose_86 ?_
              refine tt_iinc F 3 [(2, .int (iZ (s_ + 1))), (1, .int (iZ bst)), (3, .int (iZ 0)), (0, .ref (ad 0))] rfl (by decide) rfl dMO_choose_87 ?_
              refine tt_goto F 9 (by decide) dMO_choose_90 ?_
              refine tt_sub [3, 1, 0] rfl ?_
              exact ih bst (s_ + 1) tM wh sM hi (by omega) (⟨by omega, by omega⟩) (chm_keep c21 (Or.inl (by omega)) I)
            · skip
              refine tt_aload_n F 1 rfl rfl dMO_choose_73 ?_
              refine tt_iload_n F 3 rfl rfl dMO_choose_74 ?_
              refine tt_cIV0 F (fun h => h) (As := [.int (iZ s_)]) 0 rfl rfl (c_does (hM := hM) (rM := rM) (tM := tM) (wM := wM) (mp := mp) (mk := mk) (wh := wh) (sM := sM) (hi := hi) (vS := vS) (cd := 0) (mn := mn) hg hB hmn hmp hwM) (cwV 1 F.1.2.2.2.2 (gw_V wd868 wd870 wd43 wd53 wd871) rfl rfl rfl (by decide +kernel) ⟨(Nat.le_of_ble_eq_true rfl), (Nat.le_of_ble_eq_true rfl)⟩) rfl rfl rfl (Nat.le_of_ble_eq_true rfl) ⟨(Nat.le_of_ble_eq_true rfl), (Nat.le_of_ble_eq_true rfl)⟩ dMO_choose_75 (fun z75 w1 hp => ?_)
              obtain ⟨t75, wh75, sM75, hi75, rfl, hz75⟩ := hp
              have hb75 := zb_b hz75
              refine tt_if_eq F 85 ⟨by omega, by omega⟩ dMO_choose_78 (by decide) (fun c78 => ?_) (fun c78 => ?_)
              · skip
                refine tt_iload_n F 2 rfl rfl dMO_choose_85 ?_
                refine tt_istore_n F [(1, .int (iZ bst)), (3, .int (iZ 0)), (0, .ref (ad 0)), (2, .int (iZ s_))] rfl (by decide) rfl dMO_choose_86 ?_
                refine tt_iinc F 3 [(2, .int (iZ (s_ + 1))), (1, .int (iZ bst)), (3, .int (iZ 0)), (0, .ref (ad 0))] rfl (by decide) rfl dMO_choose_87 ?_
                refine tt_goto F 9 (by decide) dMO_choose_90 ?_
                refine tt_sub [3, 1, 0] rfl ?_
                exact ih bst (s_ + 1) t75 wh75 sM75 hi75 (by omega) (⟨by omega, by omega⟩) (chm_no (zb_0 hz75 c78) I)
              · skip
                refine tt_iload_n F 3 rfl rfl dMO_choose_81 ?_
                refine tt_goto F 86 (by decide) dMO_choose_82 ?_
                refine tt_istore_n F [(1, .int (iZ s_)), (3, .int (iZ 0)), (0, .ref (ad 0)), (2, .int (iZ s_))] rfl (by decide) rfl dMO_choose_86 ?_
                refine tt_iinc F 3 [(2, .int (iZ (s_ + 1))), (1, .int (iZ s_)), (3, .int (iZ 0)), (0, .ref (ad 0))] rfl (by decide) rfl dMO_choose_87 ?_
                refine tt_goto F 9 (by decide) dMO_choose_90 ?_
                refine tt_sub [3, 1, 0] rfl ?_
                exact ih s_ (s_ + 1) t75 wh75 sM75 hi75 (by omega) (⟨by omega, by omega⟩) (chm_new (by omega) (zb_1 hz75 c78) (absurd c70 (by omega)) I)
          · skip
            refine tt_aload_n F 0 rfl rfl dMO_choose_50 ?_
            refine tt_iload_n F 2 rfl rfl dMO_choose_51 ?_
            refine tt_cIV0 F (fun h => h) (As := [.int (iZ s_)]) 0 rfl rfl (c_lenM (hM := hM) (rM := rM) (tM := tM) (wM := wM) (mp := mp) (mk := mk) (wh := wh) (sM := sM) (hi := hi) (vS := vS) (cd := 0) (mn := mn) (S := s_) hmn hmp) (cwV 1 F.1.2.2.2.2 (gw_V wd864 wd866 wd42 wd53 wd867) rfl rfl rfl (by decide +kernel) ⟨(Nat.le_of_ble_eq_true rfl), (Nat.le_of_ble_eq_true rfl)⟩) rfl rfl rfl (Nat.le_of_ble_eq_true rfl) ⟨(Nat.le_of_ble_eq_true rfl), (Nat.le_of_ble_eq_true rfl)⟩ dMO_choose_52 (fun z52 w1 hp => ?_)
            obtain ⟨hz52, rfl⟩ := hp
            have hl52 := lnS_b (ck := mk) (S := s_) (n := mn.toNat) (fun j j0 j1 => (hmp j j0 (by omega)).2)
            rw [← hz52] at hl52
            refine tt_aload_n F 0 rfl rfl dMO_choose_55 ?_
            refine tt_iload_n F 1 rfl rfl dMO_choose_56 ?_
            refine tt_cIV0 F (fun h => h) (As := [.int (iZ bst)]) 0 rfl rfl (c_lenM (hM := hM) (rM := rM) (tM := tM) (wM := wM) (mp := mp) (mk := mk) (wh := wh) (sM := sM) (hi := hi) (vS := vS) (cd := 0) (mn := mn) (S := bst) hmn hmp) (cwV 1 F.1.2.2.2.2 (gw_V wd864 wd866 wd42 wd53 wd867) rfl rfl rfl (by decide +kernel) ⟨(Nat.le_of_ble_eq_true rfl), (Nat.le_of_ble_eq_true rfl)⟩) rfl rfl rfl (Nat.le_of_ble_eq_true rfl) ⟨(Nat.le_of_ble_eq_true rfl), (Nat.le_of_ble_eq_true rfl)⟩ dMO_choose_57 (fun z57 w1 hp => ?_)
            obtain ⟨hz57, rfl⟩ := hp
            have hl57 := lnS_b (ck := mk) (S := bst) (n := mn.toNat) (fun j j0 j1 => (hmp j j0 (by omega)).2)
            rw [← hz57] at hl57
            refine tt_icmp_ge F 67 ⟨by omega, by omega⟩ ⟨by omega, by omega⟩ dMO_choose_60 (by decide) (fun c60 => ?_) (fun c60 => ?_)
            · skip
              refine tt_iconst F dMO_choose_67 ?_
              refine tt_istore_n F [(3, .int (iZ 0)), (0, .ref (ad 0)), (1, .int (iZ bst)), (2, .int (iZ s_))] rfl (by decide) rfl dMO_choose_68 ?_
              refine tt_iload_n F 0 rfl rfl dMO_choose_69 ?_
              refine tt_if_eq F 85 ⟨by omega, by omega⟩ dMO_choose_70 (by decide) (fun c70 => ?_) (fun c70 => ?_)
              · skip
                refine tt_iload_n F 2 rfl rfl dMO_choose_85 ?_
                refine tt_istore_n F [(1, .int (iZ bst)), (3, .int (iZ 0)), (0, .ref (ad 0)), (2, .int (iZ s_))] rfl (by decide) rfl dMO_choose_86 ?_
                refine tt_iinc F 3 [(2, .int (iZ (s_ + 1))), (1, .int (iZ bst)), (3, .int (iZ 0)), (0, .ref (ad 0))] rfl (by decide) rfl dMO_choose_87 ?_
                refine tt_goto F 9 (by decide) dMO_choose_90 ?_
                refine tt_sub [3, 1, 0] rfl ?_
                exact ih bst (s_ + 1) tM wh sM hi (by omega) (⟨by omega, by omega⟩) (chm_keep c21 (by unfold btr; omega) I)
              · skip
                refine tt_aload_n F 1 rfl rfl dMO_choose_73 ?_
                refine tt_iload_n F 3 rfl rfl dMO_choose_74 ?_
                refine tt_cIV0 F (fun h => h) (As := [.int (iZ s_)]) 0 rfl rfl (c_does (hM := hM) (rM := rM) (tM := tM) (wM := wM) (mp := mp) (mk := mk) (wh := wh) (sM := sM) (hi := hi) (vS := vS) (cd := 0) (mn := mn) hg hB hmn hmp hwM) (cwV 1 F.1.2.2.2.2 (gw_V wd868 wd870 wd43 wd53 wd871) rfl rfl rfl (by decide +kernel) ⟨(Nat.le_of_ble_eq_true rfl), (Nat.le_of_ble_eq_true rfl)⟩) rfl rfl rfl (Nat.le_of_ble_eq_true rfl) ⟨(Nat.le_of_ble_eq_true rfl), (Nat.le_of_ble_eq_true rfl)⟩ dMO_choose_75 (fun z75 w1 hp => ?_)
                obtain ⟨t75, wh75, sM75, hi75, rfl, hz75⟩ := hp
                have hb75 := zb_b hz75
                refine tt_if_eq F 85 ⟨by omega, by omega⟩ dMO_choose_78 (by decide) (fun c78 => ?_) (fun c78 => ?_)
                · skip
                  refine tt_iload_n F 2 rfl rfl dMO_choose_85 ?_
                  refine tt_istore_n F [(1, .int (iZ bst)), (3, .int (iZ 0)), (0, .ref (ad 0)), (2, .int (iZ s_))] rfl (by decide) rfl dMO_choose_86 ?_
                  refine tt_iinc F 3 [(2, .int (iZ (s_ + 1))), (1, .int (iZ bst)), (3, .int (iZ 0)), (0, .ref (ad 0))] rfl (by decide) rfl dMO_choose_87 ?_
                  refine tt_goto F 9 (by decide) dMO_choose_90 ?_
                  refine tt_sub [3, 1, 0] rfl ?_
                  exact ih bst (s_ + 1) t75 wh75 sM75 hi75 (by omega) (⟨by omega, by omega⟩) (chm_no (zb_0 hz75 c78) I)
                · skip
                  refine tt_iload_n F 3 rfl rfl dMO_choose_81 ?_
                  refine tt_goto F 86 (by decide) dMO_choose_82 ?_
                  refine tt_istore_n F [(1, .int (iZ s_)), (3, .int (iZ 0)), (0, .ref (ad 0)), (2, .int (iZ s_))] rfl (by decide) rfl dMO_choose_86 ?_
                  refine tt_iinc F 3 [(2, .int (iZ (s_ + 1))), (1, .int (iZ s_)), (3, .int (iZ 0)), (0, .ref (ad 0))] rfl (by decide) rfl dMO_choose_87 ?_
                  refine tt_goto F 9 (by decide) dMO_choose_90 ?_
                  refine tt_sub [3, 1, 0] rfl ?_
                  exact ih s_ (s_ + 1) t75 wh75 sM75 hi75 (by omega) (⟨by omega, by omega⟩) (chm_new (by omega) (zb_1 hz75 c78) (absurd c70 (by omega)) I)
            · skip
              refine tt_iconst F dMO_choose_63 ?_
              refine tt_goto F 68 (by decide) dMO_choose_64 ?_
              refine tt_istore_n F [(3, .int (iZ 1)), (0, .ref (ad 0)), (1, .int (iZ bst)), (2, .int (iZ s_))] rfl (by decide) rfl dMO_choose_68 ?_
              refine tt_iload_n F 0 rfl rfl dMO_choose_69 ?_
              refine tt_if_eq F 85 ⟨by omega, by omega⟩ dMO_choose_70 (by decide) (fun c70 => ?_) (fun c70 => ?_)
              · skip
                refine tt_iload_n F 2 rfl rfl dMO_choose_85 ?_
                refine tt_istore_n F [(1, .int (iZ bst)), (3, .int (iZ 1)), (0, .ref (ad 0)), (2, .int (iZ s_))] rfl (by decide) rfl dMO_choose_86 ?_
                refine tt_iinc F 3 [(2, .int (iZ (s_ + 1))), (1, .int (iZ bst)), (3, .int (iZ 1)), (0, .ref (ad 0))] rfl (by decide) rfl dMO_choose_87 ?_
                refine tt_goto F 9 (by decide) dMO_choose_90 ?_
                refine tt_sub [3, 1, 0] rfl ?_
                exact ih bst (s_ + 1) tM wh sM hi (by omega) (⟨by omega, by omega⟩) (absurd c70 (by omega))
              · skip
                refine tt_aload_n F 1 rfl rfl dMO_choose_73 ?_
                refine tt_iload_n F 3 rfl rfl dMO_choose_74 ?_
                refine tt_cIV0 F (fun h => h) (As := [.int (iZ s_)]) 0 rfl rfl (c_does (hM := hM) (rM := rM) (tM := tM) (wM := wM) (mp := mp) (mk := mk) (wh := wh) (sM := sM) (hi := hi) (vS := vS) (cd := 0) (mn := mn) hg hB hmn hmp hwM) (cwV 1 F.1.2.2.2.2 (gw_V wd868 wd870 wd43 wd53 wd871) rfl rfl rfl (by decide +kernel) ⟨(Nat.le_of_ble_eq_true rfl), (Nat.le_of_ble_eq_true rfl)⟩) rfl rfl rfl (Nat.le_of_ble_eq_true rfl) ⟨(Nat.le_of_ble_eq_true rfl), (Nat.le_of_ble_eq_true rfl)⟩ dMO_choose_75 (fun z75 w1 hp => ?_)
                obtain ⟨t75, wh75, sM75, hi75, rfl, hz75⟩ := hp
                have hb75 := zb_b hz75
                refine tt_if_eq F 85 ⟨by omega, by omega⟩ dMO_choose_78 (by decide) (fun c78 => ?_) (fun c78 => ?_)
                · skip
                  refine tt_iload_n F 2 rfl rfl dMO_choose_85 ?_
                  refine tt_istore_n F [(1, .int (iZ bst)), (3, .int (iZ 1)), (0, .ref (ad 0)), (2, .int (iZ s_))] rfl (by decide) rfl dMO_choose_86 ?_
                  refine tt_iinc F 3 [(2, .int (iZ (s_ + 1))), (1, .int (iZ bst)), (3, .int (iZ 1)), (0, .ref (ad 0))] rfl (by decide) rfl dMO_choose_87 ?_
                  refine tt_goto F 9 (by decide) dMO_choose_90 ?_
                  refine tt_sub [3, 1, 0] rfl ?_
                  exact ih bst (s_ + 1) t75 wh75 sM75 hi75 (by omega) (⟨by omega, by omega⟩) (chm_no (zb_0 hz75 c78) I)
                · skip
                  refine tt_iload_n F 3 rfl rfl dMO_choose_81 ?_
                  refine tt_goto F 86 (by decide) dMO_choose_82 ?_
                  refine tt_istore_n F [(1, .int (iZ s_)), (3, .int (iZ 1)), (0, .ref (ad 0)), (2, .int (iZ s_))] rfl (by decide) rfl dMO_choose_86 ?_
                  refine tt_iinc F 3 [(2, .int (iZ (s_ + 1))), (1, .int (iZ s_)), (3, .int (iZ 1)), (0, .ref (ad 0))] rfl (by decide) rfl dMO_choose_87 ?_
                  refine tt_goto F 9 (by decide) dMO_choose_90 ?_
                  refine tt_sub [3, 1, 0] rfl ?_
                  exact ih s_ (s_ + 1) t75 wh75 sM75 hi75 (by omega) (⟨by omega, by omega⟩) (chm_new (by omega) (zb_1 hz75 c78) (Or.inr (Or.inr ⟨by omega, Or.inl (by omega)⟩)) I)
set_option maxHeartbeats 4000000 in
set_option maxRecDepth 100000 in
theorem c_chooseM  (hg : 1 ≤ W ∧ W ≤ 12 ∧ 1 ≤ D_ ∧ D_ ≤ 12 ∧ 1 ≤ r ∧ r ≤ 10) (hB : ∀ k, 0 ≤ k → k < 144 → (0 ≤ hM k ∧ hM k ≤ 200) ∧ 0 ≤ rM k ∧ rM k ≤ 50) (hmn : 0 ≤ mn ∧ mn ≤ 4) (hmp : ∀ j, 0 ≤ j → j < mn → (0 ≤ mp j ∧ mp j < 144) ∧ 1 ≤ mk j ∧ mk j ≤ 50) (hwM : ∀ k, 0 ≤ k → k < 144 → wM k = 0 ∨ wM k = 1) : CI l D vwCl cI cZ cJ SL yMO_choose wsMO_choose rmMO_choose [.ref (ad 0)] (mW cI cZ ad W D_ r hM rM tM wM mp mk wh sM hi vS cd mn) (fun z w1 => ∃ (t' wh' sM' hi' : Int → Int), w1 = (mW cI cZ ad W D_ r hM rM t' wM mp mk wh' sM' hi' vS 0 mn) ∧ CHM W D_ r hM rM wM mp mk mn z (zshl 1 mn)) := by
  refine tt_startI (by decide) rfl (Nat.le_of_ble_eq_true rfl) ?_
  intro p e s m args below meth c hnm F
  obtain ⟨hW1, hW2, hD1, hD2, hr1, hr2⟩ := id hg
  have hrr := rr_b hr1 hr2
  have hPL := pl_b hW1 hW2 hD1 hD2 hr1 hr2
  have hpw := pw_b hmn
  refine tt_aload_n F 0 rfl rfl dMO_choose_0 ?_
  refine tt_iconst F dMO_choose_1 ?_
  refine tt_put F (fun h => h) inMO tyMO tyMO_ok nmMO 0 rfl rfl 0 (by decide) we698 rfl rfl rfl rfl (show (0 : Nat) + 1 ≤ _ from Nat.le_of_ble_eq_true rfl) dMO_choose_2 ?_
  refine tt_iconst F dMO_choose_5 ?_
  refine tt_istore_n F [(1, .int (iZ (-1))), (0, .ref (ad 0))] rfl (by decide) rfl dMO_choose_6 ?_
  refine tt_iconst F dMO_choose_7 ?_
  refine tt_istore_n F [(2, .int (iZ 0)), (1, .int (iZ (-1))), (0, .ref (ad 0))] rfl (by decide) rfl dMO_choose_8 ?_
  refine tt_sub [2, 1, 0] rfl ?_
  refine lp_chooseM F hg hB hmn hmp hwM (fun bst s_ t' wh' sM' hi' h => ?_) ((zshl 1 mn).toNat + 1) (-1) 0 tM wh sM hi (by omega) (by omega) (Or.inl ⟨rfl, fun S s0 s1 => by omega⟩)
  refine tt_iload_n F 0 rfl rfl dMO_choose_93 ?_
  exact tt_iret F rfl (Nat.le_of_ble_eq_true rfl) (Nat.le_of_ble_eq_true rfl) dMO_choose_94 ⟨t', wh', sM', hi', rfl, h⟩
abbrev rmMO_put : Room := { frames := 5, cells := 0, slots := 0, locals := 115 }
set_option maxHeartbeats 4000000 in
set_option maxRecDepth 100000 in
theorem lp_put1 {S : Int} {t0 : Int → Int} (F : FX p s m args meth c cMO_put 4 (some .int) wsMO_put RMO D vwCl cI cZ cJ SL A) (hg : 1 ≤ W ∧ W ≤ 12 ∧ 1 ≤ D_ ∧ D_ ≤ 12 ∧ 1 ≤ r ∧ r ≤ 10) (hRL : RLI W D_ r t0 wh sM hi ((W + 2 * r) * (D_ + 2 * r)))
    (k39 : ∀ (k : Int) (vS : Int → Int), (∀ j, 0 ≤ j → j < 144 → vS j = bi (sfM W D_ hi j)) → TT p l e rmMO_put s m args below meth c D vwCl A 4 False Q 39 [(0, .ref (ad 0)), (1, .int (iZ S))] [] (mW cI cZ ad W D_ r hM rM tM wM mp mk wh sM hi vS 0 mn) 0 0) :
    ∀ (n : Nat) (k : Int) (vS : Int → Int), (144 - k).toNat < n → (0 ≤ k ∧ k ≤ 144) → (∀ j, 0 ≤ j → j < k → vS j = bi (sfM W D_ hi j)) → TT p l e rmMO_put s m args below meth c D vwCl A 4 False Q 15 [(0, .ref (ad 0)), (1, .int (iZ S)), (2, .int (iZ k))] [] (mW cI cZ ad W D_ r hM rM tM wM mp mk wh sM hi vS 0 mn) 0 0 := by
  intro n
  induction n with
  | zero => intro k vS hn; omega
  | succ n ih =>
    intro k vS hn hk I
    obtain ⟨hW1, hW2, hD1, hD2, hr1, hr2⟩ := id hg
    have hrr := rr_b hr1 hr2
    have hPL := pl_b hW1 hW2 hD1 hD2 hr1 hr2
    refine tt_iload_n F 2 rfl rfl dMO_put_15 ?_
    refine tt_sipush F (by decide) dMO_put_16 ?_
    refine tt_icmp_ge F 39 ⟨by omega, by omega⟩ ⟨by omega, by omega⟩ dMO_put_19 (by decide) (fun c19 => ?_) (fun c19 => ?_)
    · skip
      refine tt_sub [0, 1] rfl ?_
      exact k39 k vS (fun j j0 j1 => I j j0 (by omega))
    · skip
      refine tt_aload_n F 0 rfl rfl dMO_put_22 ?_
      refine tt_get F inMO 0 rfl rfl 14 (by decide) we712 rfl dMO_put_23 ?_
      refine tt_iload_n F 2 rfl rfl dMO_put_26 ?_
      refine tt_aload_n F 0 rfl rfl dMO_put_27 ?_
      refine tt_iload_n F 2 rfl rfl dMO_put_28 ?_
      refine tt_cOV F (As := [.int (iZ k)]) [] 0 rfl rfl (o_isSafe (hM := hM) (rM := rM) (tM := tM) (wM := wM) (mp := mp) (mk := mk) (wh := wh) (sM := sM) (hi := hi) (vS := vS) (cd := 0) (mn := mn) hg (by omega) (rli_b hg hRL (by omega) (by omega))) (cwV 1 F.1.2.2.2.2 (gw_V wd836 wd838 wd40 wd53 wd839) rfl rfl rfl (by decide +kernel) ⟨(Nat.le_of_ble_eq_true rfl), (Nat.le_of_ble_eq_true rfl)⟩) rfl rfl rfl (Nat.le_of_ble_eq_true rfl) ⟨(Nat.le_of_ble_eq_true rfl), (Nat.le_of_ble_eq_true rfl)⟩ dMO_put_29 (fun v29 hp => ?_)
      obtain ⟨z29, rfl, hz29⟩ := hp
      have hb29 := zb_b hz29
      refine tt_zast F (fun h => h) 10 rfl (by omega) (by omega) (by omega) (by omega) dMO_put_32 ?_
      refine tt_iinc F 2 [(2, .int (iZ (k + 1))), (0, .ref (ad 0)), (1, .int (iZ S))] rfl (by decide) rfl dMO_put_33 ?_
      refine tt_goto F 15 (by decide) dMO_put_36 ?_
      refine tt_sub [1, 2, 0] rfl ?_
      exact ih (k + 1) (zu vS k z29) (by omega) (⟨by omega, by omega⟩) (fun j j0 j1 => if e : j = k then (by rw [e, zu_s]; exact zb_bi hz29) else (by rw [zu_n _ _ e]; exact I j j0 (by omega)))
set_option maxHeartbeats 4000000 in
set_option maxRecDepth 100000 in
theorem lp_put2 {S : Int} {r0 : Int → Int} (F : FX p s m args meth c cMO_put 4 (some .int) wsMO_put RMO D vwCl cI cZ cJ SL A) (hmn : 0 ≤ mn ∧ mn ≤ 4) (hmp : ∀ j, 0 ≤ j → j < mn → (0 ≤ mp j ∧ mp j < 144) ∧ 1 ≤ mk j ∧ mk j ≤ 50)
    (k81 : ∀ (k : Int) (rM : Int → Int), (rM = rSM r0 mp mk S (mn).toNat) → TT p l e rmMO_put s m args below meth c D vwCl A 4 False Q 81 [(0, .ref (ad 0))] [] (mW cI cZ ad W D_ r hM rM tM wM mp mk wh sM hi vS 0 mn) 0 0) :
    ∀ (n : Nat) (k : Int) (rM : Int → Int), (mn - k).toNat < n → (0 ≤ k ∧ k ≤ mn) → (rM = rSM r0 mp mk S (k).toNat) → TT p l e rmMO_put s m args below meth c D vwCl A 4 False Q 41 [(0, .ref (ad 0)), (1, .int (iZ S)), (2, .int (iZ k))] [] (mW cI cZ ad W D_ r hM rM tM wM mp mk wh sM hi vS 0 mn) 0 0 := by
  intro n
  induction n with
  | zero => intro k rM hn; omega
  | succ n ih =>
    intro k rM hn hk I
    refine tt_iload_n F 2 rfl rfl dMO_put_41 ?_
    refine tt_aload_n F 0 rfl rfl dMO_put_42 ?_
    refine tt_get F inMO 0 rfl rfl 8 (by decide) we706 rfl dMO_put_43 ?_
    refine tt_icmp_ge F 81 ⟨by omega, by omega⟩ ⟨by omega, by omega⟩ dMO_put_46 (by decide) (fun c46 => ?_) (fun c46 => ?_)
    · skip
      refine tt_sub [0] rfl ?_
      exact k81 k rM (by rw [I, show k = mn by omega])
    · skip
      have hmk := hmp k (by omega) (by omega)
      have hbb := bi_b (tb S k)
      refine tt_iload_n F 1 rfl rfl dMO_put_49 ?_
      refine tt_iload_n F 2 rfl rfl dMO_put_50 ?_
      refine tt_ishr F dMO_put_51 ?_
      refine tt_iconst F dMO_put_52 ?_
      refine tt_iand F dMO_put_53 ?_
      refine tt_top (zbit S (by omega) (by omega)) ?_
      refine tt_iconst F dMO_put_54 ?_
      refine tt_icmp_ne F 75 ⟨by omega, by omega⟩ ⟨by omega, by omega⟩ dMO_put_55 (by decide) (fun c55 => ?_) (fun c55 => ?_)
      · skip
        have hbt : tb S k = false := by cases hh : tb S k with | false => rfl | true => rw [hh] at c55; exact absurd rfl c55
        refine tt_iinc F 2 [(2, .int (iZ (k + 1))), (0, .ref (ad 0)), (1, .int (iZ S))] rfl (by decide) rfl dMO_put_75 ?_
        refine tt_goto F 41 (by decide) dMO_put_78 ?_
        refine tt_sub [1, 2, 0] rfl ?_
        exact ih (k + 1) rM (by omega) (⟨by omega, by omega⟩) (by rw [rSM_s (by omega), if_neg (by rw [hbt]; exact Bool.false_ne_true)]; exact I)
      · skip
        have hbt : tb S k = true := by cases hh : tb S k with | true => rfl | false => rw [hh] at c55; exact absurd c55 (by decide)
        refine tt_aload_n F 0 rfl rfl dMO_put_58 ?_
        refine tt_get F inMO 0 rfl rfl 5 (by decide) we703 rfl dMO_put_59 ?_
        refine tt_aload_n F 0 rfl rfl dMO_put_62 ?_
        refine tt_get F inMO 0 rfl rfl 9 (by decide) we707 rfl dMO_put_63 ?_
        refine tt_iload_n F 2 rfl rfl dMO_put_66 ?_
        refine tt_iald F 5 rfl (by omega) (by omega) (by omega) dMO_put_67 ?_
        refine tt_aload_n F 0 rfl rfl dMO_put_68 ?_
        refine tt_get F inMO 0 rfl rfl 10 (by decide) we708 rfl dMO_put_69 ?_
        refine tt_iload_n F 2 rfl rfl dMO_put_72 ?_
        refine tt_iald F 6 rfl (by omega) (by omega) (by omega) dMO_put_73 ?_
        refine tt_iast F (fun h => h) 2 rfl (by omega) (by omega) (by omega) dMO_put_74 ?_
        refine tt_iinc F 2 [(2, .int (iZ (k + 1))), (0, .ref (ad 0)), (1, .int (iZ S))] rfl (by decide) rfl dMO_put_75 ?_
        refine tt_goto F 41 (by decide) dMO_put_78 ?_
        refine tt_sub [1, 2, 0] rfl ?_
        exact ih (k + 1) (zu rM (mp k) (mk k)) (by omega) (⟨by omega, by omega⟩) (by rw [rSM_s (by omega), if_pos hbt, I])
set_option maxHeartbeats 4000000 in
set_option maxRecDepth 100000 in
theorem lp_put3 {t0 : Int → Int} (F : FX p s m args meth c cMO_put 4 (some .int) wsMO_put RMO D vwCl cI cZ cJ SL A) (hg : 1 ≤ W ∧ W ≤ 12 ∧ 1 ≤ D_ ∧ D_ ≤ 12 ∧ 1 ≤ r ∧ r ≤ 10) (hRL : RLI W D_ r t0 wh sM hi ((W + 2 * r) * (D_ + 2 * r))) (hvS : ∀ j, 0 ≤ j → j < 144 → vS j = 0 ∨ vS j = 1)
    (k128 : ∀ (n_ : Int) (k : Int), (n_ = cz (fun j => decide (¬ vS j = bi (sfM W D_ hi j))) 144) → TT p l e rmMO_put s m args below meth c D vwCl A 4 False Q 128 [(2, .int (iZ n_))] [] (mW cI cZ ad W D_ r hM rM tM wM mp mk wh sM hi vS 0 mn) 0 0) :
    ∀ (n : Nat) (n_ : Int) (k : Int), (144 - k).toNat < n → (0 ≤ k ∧ k ≤ 144) → (n_ = cz (fun j => decide (¬ vS j = bi (sfM W D_ hi j))) k) → TT p l e rmMO_put s m args below meth c D vwCl A 4 False Q 93 [(0, .ref (ad 0)), (2, .int (iZ n_)), (3, .int (iZ k))] [] (mW cI cZ ad W D_ r hM rM tM wM mp mk wh sM hi vS 0 mn) 0 0 := by
  intro n
  induction n with
  | zero => intro n_ k hn; omega
  | succ n ih =>
    intro n_ k hn hk I
    obtain ⟨hW1, hW2, hD1, hD2, hr1, hr2⟩ := id hg
    have hrr := rr_b hr1 hr2
    have hPL := pl_b hW1 hW2 hD1 hD2 hr1 hr2
    refine tt_iload_n F 2 rfl rfl dMO_put_93 ?_
    refine tt_sipush F (by decide) dMO_put_94 ?_
    refine tt_icmp_ge F 128 ⟨by omega, by omega⟩ ⟨by omega, by omega⟩ dMO_put_97 (by decide) (fun c97 => ?_) (fun c97 => ?_)
    · skip
      refine tt_sub [1] rfl ?_
      exact k128 n_ k (by rw [I, show k = 144 by omega])
    · skip
      have hvk := hvS k (by omega) (by omega)
      refine tt_iload_n F 1 rfl rfl dMO_put_100 ?_
      refine tt_aload_n F 0 rfl rfl dMO_put_101 ?_
      refine tt_get F inMO 0 rfl rfl 14 (by decide) we712 rfl dMO_put_102 ?_
      refine tt_iload_n F 2 rfl rfl dMO_put_105 ?_
      refine tt_zald F 10 rfl (by omega) (by omega) (by omega) dMO_put_106 ?_
      refine tt_aload_n F 0 rfl rfl dMO_put_107 ?_
      refine tt_iload_n F 2 rfl rfl dMO_put_108 ?_
      refine tt_cOV F (As := [.int (iZ k)]) [] 0 rfl rfl (o_isSafe (hM := hM) (rM := rM) (tM := tM) (wM := wM) (mp := mp) (mk := mk) (wh := wh) (sM := sM) (hi := hi) (vS := vS) (cd := 0) (mn := mn) hg (by omega) (rli_b hg hRL (by omega) (by omega))) (cwV 1 F.1.2.2.2.2 (gw_V wd836 wd838 wd40 wd53 wd839) rfl rfl rfl (by decide +kernel) ⟨(Nat.le_of_ble_eq_true rfl), (Nat.le_of_ble_eq_true rfl)⟩) rfl rfl rfl (Nat.le_of_ble_eq_true rfl) ⟨(Nat.le_of_ble_eq_true rfl), (Nat.le_of_ble_eq_true rfl)⟩ dMO_put_109 (fun v109 hp => ?_)
      obtain ⟨z109, rfl, hz109⟩ := hp
      have hb109 := zb_b hz109
      have hzb := zb_bi hz109
      refine tt_icmp_eq F 119 ⟨by omega, by omega⟩ ⟨by omega, by omega⟩ dMO_put_112 (by decide) (fun c112 => ?_) (fun c112 => ?_)
      · skip
        refine tt_iconst F dMO_put_119 ?_
        refine tt_iadd F dMO_put_120 ?_
        refine tt_istore_n F [(2, .int (iZ (n_ + 0))), (0, .ref (ad 0)), (3, .int (iZ k))] rfl (by decide) rfl dMO_put_121 ?_
        refine tt_iinc F 2 [(3, .int (iZ (k + 1))), (2, .int (iZ (n_ + 0))), (0, .ref (ad 0))] rfl (by decide) rfl dMO_put_122 ?_
        refine tt_goto F 93 (by decide) dMO_put_125 ?_
        refine tt_sub [2, 1, 0] rfl ?_
        exact ih (n_ + 0) (k + 1) (by omega) (⟨by omega, by omega⟩) (by rw [cz_s _ (by omega), bi_f (decide_eq_false (by rw [← hzb]; omega)), I])
      · skip
        refine tt_iconst F dMO_put_115 ?_
        refine tt_goto F 120 (by decide) dMO_put_116 ?_
        refine tt_iadd F dMO_put_120 ?_
        refine tt_istore_n F [(2, .int (iZ (n_ + 1))), (0, .ref (ad 0)), (3, .int (iZ k))] rfl (by decide) rfl dMO_put_121 ?_
        refine tt_iinc F 2 [(3, .int (iZ (k + 1))), (2, .int (iZ (n_ + 1))), (0, .ref (ad 0))] rfl (by decide) rfl dMO_put_122 ?_
        refine tt_goto F 93 (by decide) dMO_put_125 ?_
        refine tt_sub [2, 1, 0] rfl ?_
        exact ih (n_ + 1) (k + 1) (by omega) (⟨by omega, by omega⟩) (by rw [cz_s _ (by omega), bi_t (decide_eq_true (by rw [← hzb]; omega)), I])
set_option maxHeartbeats 4000000 in
set_option maxRecDepth 100000 in
theorem c_putM {S : Int} (hg : 1 ≤ W ∧ W ≤ 12 ∧ 1 ≤ D_ ∧ D_ ≤ 12 ∧ 1 ≤ r ∧ r ≤ 10) (hB : ∀ k, 0 ≤ k → k < 144 → (0 ≤ hM k ∧ hM k ≤ 200) ∧ 0 ≤ rM k ∧ rM k ≤ 50) (hmn : 0 ≤ mn ∧ mn ≤ 4) (hmp : ∀ j, 0 ≤ j → j < mn → (0 ≤ mp j ∧ mp j < 144) ∧ 1 ≤ mk j ∧ mk j ≤ 50) : CI l D vwCl cI cZ cJ SL yMO_put wsMO_put rmMO_put [.ref (ad 0), .int (iZ S)] (mW cI cZ ad W D_ r hM rM tM wM mp mk wh sM hi vS cd mn) (fun z w1 => ∃ (t' wh' sM' hi' v' wh1 sM1 hi1 : Int → Int), w1 = (mW cI cZ ad W D_ r hM (rSM rM mp mk S mn.toNat) t' wM mp mk wh' sM' hi' v' 0 mn) ∧ RLI W D_ r (fun k => hM k + rM k) wh1 sM1 hi1 ((W + 2 * r) * (D_ + 2 * r)) ∧ RLI W D_ r (fun k => hM k + rSM rM mp mk S mn.toNat k) wh' sM' hi' ((W + 2 * r) * (D_ + 2 * r)) ∧ z = cz (fun j => decide (¬ bi (sfM W D_ hi1 j) = bi (sfM W D_ hi' j))) 144) := by
  refine tt_startI (by decide) rfl (Nat.le_of_ble_eq_true rfl) ?_
  intro p e s m args below meth c hnm F
  obtain ⟨hW1, hW2, hD1, hD2, hr1, hr2⟩ := id hg
  have hrr := rr_b hr1 hr2
  have hPL := pl_b hW1 hW2 hD1 hD2 hr1 hr2
  refine tt_aload_n F 0 rfl rfl dMO_put_0 ?_
  refine tt_iconst F dMO_put_1 ?_
  refine tt_put F (fun h => h) inMO tyMO tyMO_ok nmMO 0 rfl rfl 0 (by decide) we698 rfl rfl rfl rfl (show (0 : Nat) + 1 ≤ _ from Nat.le_of_ble_eq_true rfl) dMO_put_2 ?_
  refine tt_aload_n F 0 rfl rfl dMO_put_5 ?_
  refine tt_cVV0 F (fun h => h) (As := []) 0 rfl rfl (c_stand (hM := hM) (rM := rM) (tM := tM) (wM := wM) (mp := mp) (mk := mk) (wh := wh) (sM := sM) (hi := hi) (vS := vS) (cd := 0) (mn := mn)) (cwV 0 F.1.2.2.2.2 (gw_V wd774 wd776 wd31 wd53 wd777) rfl rfl rfl (by decide +kernel) ⟨(Nat.le_of_ble_eq_true rfl), (Nat.le_of_ble_eq_true rfl)⟩) rfl rfl rfl (Nat.le_of_ble_eq_true rfl) ⟨(Nat.le_of_ble_eq_true rfl), (Nat.le_of_ble_eq_true rfl)⟩ dMO_put_6 (fun w1 hp => ?_)
  obtain ⟨t6, rfl, ht6⟩ := hp
  refine tt_aload_n F 0 rfl rfl dMO_put_9 ?_
  refine tt_cVV0 F (fun h => h) (As := []) 0 rfl rfl (c_roll (hM := hM) (rM := rM) (tM := t6) (wM := wM) (mp := mp) (mk := mk) (wh := wh) (sM := sM) (hi := hi) (vS := vS) (cd := 0) (mn := mn) hg (fun k k0 k1 => by rw [ht6 k k0 k1]; have := hB k k0 k1; omega)) (cwV 0 F.1.2.2.2.2 (gw_V wd820 wd822 wd38 wd53 wd823) rfl rfl rfl (by decide +kernel) ⟨(Nat.le_of_ble_eq_true rfl), (Nat.le_of_ble_eq_true rfl)⟩) rfl rfl rfl (Nat.le_of_ble_eq_true rfl) ⟨(Nat.le_of_ble_eq_true rfl), (Nat.le_of_ble_eq_true rfl)⟩ dMO_put_10 (fun w1 hp => ?_)
  obtain ⟨wh10, sM10, hi10, rfl, hRL10⟩ := hp
  refine tt_iconst F dMO_put_13 ?_
  refine tt_istore_n F [(2, .int (iZ 0)), (0, .ref (ad 0)), (1, .int (iZ S))] rfl (by decide) rfl dMO_put_14 ?_
  refine tt_sub [1, 2, 0] rfl ?_
  refine lp_put1 F hg hRL10 (fun k vS hv => ?_) 145 0 vS (by omega) (by omega) (fun j j0 j1 => by omega)
  refine tt_iconst F dMO_put_39 ?_
  refine tt_istore_n F [(2, .int (iZ 0)), (0, .ref (ad 0)), (1, .int (iZ S))] rfl (by decide) rfl dMO_put_40 ?_
  refine tt_sub [1, 2, 0] rfl ?_
  refine lp_put2 (r0 := rM) F hmn hmp (fun k r2 hr2_ => ?_) (mn.toNat + 1) 0 rM (by omega) (by omega) rfl
  have hr2b : ∀ k, 0 ≤ k → k < 144 → 0 ≤ r2 k ∧ r2 k ≤ 50 := by rw [hr2_]; exact rSM_b (fun k k0 k1 => (hB k k0 k1).2) _ (fun j j0 j1 => hmp j j0 (by omega))
  refine tt_aload_n F 0 rfl rfl dMO_put_81 ?_
  refine tt_cVV0 F (fun h => h) (As := []) 0 rfl rfl (c_stand (hM := hM) (rM := r2) (tM := t6) (wM := wM) (mp := mp) (mk := mk) (wh := wh10) (sM := sM10) (hi := hi10) (vS := vS) (cd := 0) (mn := mn)) (cwV 0 F.1.2.2.2.2 (gw_V wd774 wd776 wd31 wd53 wd777) rfl rfl rfl (by decide +kernel) ⟨(Nat.le_of_ble_eq_true rfl), (Nat.le_of_ble_eq_true rfl)⟩) rfl rfl rfl (Nat.le_of_ble_eq_true rfl) ⟨(Nat.le_of_ble_eq_true rfl), (Nat.le_of_ble_eq_true rfl)⟩ dMO_put_82 (fun w1 hp => ?_)
  obtain ⟨t82, rfl, ht82⟩ := hp
  refine tt_aload_n F 0 rfl rfl dMO_put_85 ?_
  refine tt_cVV0 F (fun h => h) (As := []) 0 rfl rfl (c_roll (hM := hM) (rM := r2) (tM := t82) (wM := wM) (mp := mp) (mk := mk) (wh := wh10) (sM := sM10) (hi := hi10) (vS := vS) (cd := 0) (mn := mn) hg (fun k k0 k1 => by rw [ht82 k k0 k1]; have := hB k k0 k1; have := hr2b k k0 k1; omega)) (cwV 0 F.1.2.2.2.2 (gw_V wd820 wd822 wd38 wd53 wd823) rfl rfl rfl (by decide +kernel) ⟨(Nat.le_of_ble_eq_true rfl), (Nat.le_of_ble_eq_true rfl)⟩) rfl rfl rfl (Nat.le_of_ble_eq_true rfl) ⟨(Nat.le_of_ble_eq_true rfl), (Nat.le_of_ble_eq_true rfl)⟩ dMO_put_86 (fun w1 hp => ?_)
  obtain ⟨wh86, sM86, hi86, rfl, hRL86⟩ := hp
  refine tt_iconst F dMO_put_89 ?_
  refine tt_istore_n F [(2, .int (iZ 0)), (0, .ref (ad 0))] rfl (by decide) rfl dMO_put_90 ?_
  refine tt_iconst F dMO_put_91 ?_
  refine tt_istore_n F [(3, .int (iZ 0)), (2, .int (iZ 0)), (0, .ref (ad 0))] rfl (by decide) rfl dMO_put_92 ?_
  refine tt_sub [2, 1, 0] rfl ?_
  refine lp_put3 F hg hRL86 (fun j j0 j1 => by rw [hv j j0 j1]; have := bi_b (sfM W D_ hi10 j); omega) (fun n_ k h => ?_) 145 0 0 (by omega) (by omega) (by rw [cz_0 _ (Int.le_refl 0)])
  refine tt_iload_n F 0 rfl rfl dMO_put_128 ?_
  exact tt_iret F rfl (Nat.le_of_ble_eq_true rfl) (Nat.le_of_ble_eq_true rfl) dMO_put_129 ⟨t82, wh86, sM86, hi86, vS, wh10, sM10, hi10, by rw [hr2_], RLI_c (fun k k0 k1 => (ht6 k k0 k1).symm) hRL10, RLI_c (fun k k0 k1 => by rw [ht82 k k0 k1, hr2_]) hRL86, by rw [h]; exact cz_c (fun j j0 j1 => by rw [hv j j0 j1])⟩
end MOD4
