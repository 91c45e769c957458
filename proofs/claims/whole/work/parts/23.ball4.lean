section CL
variable {p : Program} {l : Launch} {e : Env} {s : State} {m : MethodId} {args : Array Value} {below : List Frame} {meth : Method} {c : Code} {Q : State → Prop} {D : va_G} {cI cZ cJ : ClassId} {SL : List zS} {A : Nat → Prop} {a : Nat → Nat} {W D_ r sz : Int} {co ro ho ac al sd lf sq : Int → Int} {hs rs ts rt_ hc li re ow tc cp ck wa qp qt qs lo sb : Int → Int} {lc cn ch sk : Int}
abbrev rmBA_liftOver : Room := { frames := 0, cells := 0, slots := 0, locals := 0 }
set_option maxHeartbeats 4000000 in
set_option maxRecDepth 100000 in
theorem c_liftOver {q x y : Int} (hG : GE W D_ r sz co ro ho ac al sd lf sq) (hq : 0 ≤ q ∧ q < W * D_) (hx : -100 ≤ x ∧ x ≤ 100) (hy : -100 ≤ y ∧ y ≤ 100) : CI l D vwCl cI cZ cJ SL yBA_liftOver wsBA_liftOver rmBA_liftOver [.ref (a 14), .int (iZ q), .int (iZ x), .int (iZ y)] (cW cI cZ a W D_ r sz co ro ho ac al sd lf sq hs rs ts rt_ hc li re ow tc cp ck wa qp qt qs lo sb lc cn ch sk) (fun z w1 => z = lift r (co q - x) (ro q - y) ∧ w1 = (cW cI cZ a W D_ r sz co ro ho ac al sd lf sq hs rs ts rt_ hc li re ow tc cp ck wa qp qt qs lo sb lc cn ch sk)) := by
  refine tt_startI (by decide) rfl (Nat.le_of_ble_eq_true rfl) ?_
  intro p e s m args below meth c hnm F
  obtain ⟨⟨hW1, hW2, hD1, hD2, hr1, hr2⟩, hGp, hGs, hGk, hGx, hGi, hGm, hGq⟩ := id hG
  have hWD := wd_b hW1 hW2 hD1 hD2
  have hPL := pl_b hW1 hW2 hD1 hD2 hr1 hr2
  have hSQ := sd_b hr1 hr2
  have hgp := ge_p hG hq.1 hq.2
  refine tt_aload_n F 0 rfl rfl dBA_liftOver_0 ?_
  refine tt_get F inBA 14 rfl rfl 8 (by decide) we209 rfl dBA_liftOver_1 ?_
  refine tt_get F inHO 1 rfl rfl 3 (by decide) we93 rfl dBA_liftOver_4 ?_
  refine tt_iload_n F 1 rfl rfl dBA_liftOver_7 ?_
  refine tt_iald F 2 rfl (by omega) (by omega) (by omega) dBA_liftOver_8 ?_
  refine tt_name (fun cq hcq => ?_)
  refine tt_iload_n F 2 rfl rfl dBA_liftOver_9 ?_
  refine tt_isub F dBA_liftOver_10 ?_
  refine tt_aload_n F 0 rfl rfl dBA_liftOver_11 ?_
  refine tt_get F inBA 14 rfl rfl 9 (by decide) we210 rfl dBA_liftOver_12 ?_
  refine tt_iadd F dBA_liftOver_15 ?_
  refine tt_name (fun dx hdx => ?_)
  refine tt_istore F [(4, .int (iZ dx)), (0, .ref (a 14)), (1, .int (iZ q)), (2, .int (iZ x)), (3, .int (iZ y))] (by decide) rfl dBA_liftOver_16 ?_
  refine tt_aload_n F 1 rfl rfl dBA_liftOver_18 ?_
  refine tt_get F inBA 14 rfl rfl 8 (by decide) we209 rfl dBA_liftOver_19 ?_
  refine tt_get F inHO 1 rfl rfl 4 (by decide) we97 rfl dBA_liftOver_22 ?_
  refine tt_iload_n F 2 rfl rfl dBA_liftOver_25 ?_
  refine tt_iald F 3 rfl (by omega) (by omega) (by omega) dBA_liftOver_26 ?_
  refine tt_name (fun rq hrq => ?_)
  refine tt_iload_n F 4 rfl rfl dBA_liftOver_27 ?_
  refine tt_isub F dBA_liftOver_28 ?_
  refine tt_aload_n F 1 rfl rfl dBA_liftOver_29 ?_
  refine tt_get F inBA 14 rfl rfl 9 (by decide) we210 rfl dBA_liftOver_30 ?_
  refine tt_iadd F dBA_liftOver_33 ?_
  refine tt_name (fun dy hdy => ?_)
  refine tt_istore F [(5, .int (iZ dy)), (4, .int (iZ dx)), (0, .ref (a 14)), (1, .int (iZ q)), (2, .int (iZ x)), (3, .int (iZ y))] (by decide) rfl dBA_liftOver_34 ?_
  refine tt_join (pc' := 75) (lv' := [(5, .int (iZ dy)), (4, .int (iZ dx)), (0, .ref (a 14)), (1, .int (iZ q)), (2, .int (iZ x)), (3, .int (iZ y))]) (st' := []) (fun v => (v = 1 ∧ 0 ≤ dx ∧ dx < 2 * r + 1 ∧ 0 ≤ dy ∧ dy < 2 * r + 1) ∨ (v = 0 ∧ (dx < 0 ∨ 2 * r + 1 ≤ dx ∨ dy < 0 ∨ 2 * r + 1 ≤ dy))) (fun near hnear => ?_) (fun J36 => ?_)
  · skip
    refine tt_istore F [(6, .int (iZ near)), (5, .int (iZ dy)), (4, .int (iZ dx)), (0, .ref (a 14)), (1, .int (iZ q)), (2, .int (iZ x)), (3, .int (iZ y))] (by decide) rfl dBA_liftOver_75 ?_
    refine tt_iload F 0 rfl dBA_liftOver_77 ?_
    refine tt_if_eq F 106 ⟨by omega, by omega⟩ dBA_liftOver_79 (by decide) (fun c79 => ?_) (fun c79 => ?_)
    · skip
      refine tt_ldc F (n := -1073741824) (by rw [show iZ (-1073741824) = (-1073741824 : Int32) from by decide]; exact we395) dBA_liftOver_106 ?_
      exact tt_iret F rfl (Nat.le_of_ble_eq_true rfl) (Nat.le_of_ble_eq_true rfl) dBA_liftOver_108 ⟨(lift_out hr1 (by omega)).symm, rfl⟩
    · skip
      have his := ix_b (i := dx) (j := dy) (W := 2 * r + 1) (D := 2 * r + 1) (by omega) (by omega) (by omega) (by omega)
      have hsq := hGq (dx - r) (dy - r) (by omega) (by omega) (by omega) (by omega)
      rw [show dy - r + r = dy by omega, show dx - r + r = dx by omega] at hsq
      refine tt_aload_n F 3 rfl rfl dBA_liftOver_82 ?_
      refine tt_get F inBA 14 rfl rfl 0 (by decide) we189 rfl dBA_liftOver_83 ?_
      refine tt_get F inSH 8 rfl rfl 5 (by decide) we164 rfl dBA_liftOver_86 ?_
      refine tt_iload F 1 rfl dBA_liftOver_89 ?_
      refine tt_aload_n F 3 rfl rfl dBA_liftOver_91 ?_
      refine tt_get F inBA 14 rfl rfl 0 (by decide) we189 rfl dBA_liftOver_92 ?_
      refine tt_get F inSH 8 rfl rfl 6 (by decide) we166 rfl dBA_liftOver_95 ?_
      refine tt_imul F dBA_liftOver_98 ?_
      refine tt_iload F 2 rfl dBA_liftOver_99 ?_
      refine tt_iadd F dBA_liftOver_101 ?_
      refine tt_iald F 13 rfl (by omega) (by omega) (by omega) dBA_liftOver_102 ?_
      refine tt_name (fun sv hsv => ?_)
      refine tt_goto F 108 (by decide) dBA_liftOver_103 ?_
      exact tt_iret F rfl (Nat.le_of_ble_eq_true rfl) (Nat.le_of_ble_eq_true rfl) dBA_liftOver_108 ⟨by rw [hsv, hsq, show dx - r = co q - x by omega, show dy - r = ro q - y by omega], rfl⟩
  · skip
    refine tt_iload F 1 rfl dBA_liftOver_36 ?_
    refine tt_if_lt F 74 ⟨by omega, by omega⟩ dBA_liftOver_38 (by decide) (fun c38 => ?_) (fun c38 => ?_)
    · skip
      refine tt_iconst F dBA_liftOver_74 ?_
      exact J36 _ (by omega)
    · skip
      refine tt_iload F 1 rfl dBA_liftOver_41 ?_
      refine tt_aload_n F 2 rfl rfl dBA_liftOver_43 ?_
      refine tt_get F inBA 14 rfl rfl 0 (by decide) we189 rfl dBA_liftOver_44 ?_
      refine tt_get F inSH 8 rfl rfl 6 (by decide) we166 rfl dBA_liftOver_47 ?_
      refine tt_icmp_ge F 74 ⟨by omega, by omega⟩ ⟨by omega, by omega⟩ dBA_liftOver_50 (by decide) (fun c50 => ?_) (fun c50 => ?_)
      · skip
        refine tt_iconst F dBA_liftOver_74 ?_
        exact J36 _ (by omega)
      · skip
        refine tt_iload F 0 rfl dBA_liftOver_53 ?_
        refine tt_if_lt F 74 ⟨by omega, by omega⟩ dBA_liftOver_55 (by decide) (fun c55 => ?_) (fun c55 => ?_)
        · skip
          refine tt_iconst F dBA_liftOver_74 ?_
          exact J36 _ (by omega)
        · skip
          refine tt_iload F 0 rfl dBA_liftOver_58 ?_
          refine tt_aload_n F 2 rfl rfl dBA_liftOver_60 ?_
          refine tt_get F inBA 14 rfl rfl 0 (by decide) we189 rfl dBA_liftOver_61 ?_
          refine tt_get F inSH 8 rfl rfl 6 (by decide) we166 rfl dBA_liftOver_64 ?_
          refine tt_icmp_ge F 74 ⟨by omega, by omega⟩ ⟨by omega, by omega⟩ dBA_liftOver_67 (by decide) (fun c67 => ?_) (fun c67 => ?_)
          · skip
            refine tt_iconst F dBA_liftOver_74 ?_
            exact J36 _ (by omega)
          · skip
            refine tt_iconst F dBA_liftOver_70 ?_
            refine tt_goto F 75 (by decide) dBA_liftOver_71 ?_
            exact J36 _ (by omega)
abbrev rmBA_countHighestPlaces : Room := { frames := 0, cells := 0, slots := 0, locals := 0 }
def hgI (re : Int → Int) (i hi : Int) : Prop := (i = 0 ∧ hi = 0) ∨ ∃ P, 0 ≤ P ∧ P < i ∧ re P = hi
set_option maxHeartbeats 4000000 in
set_option maxRecDepth 100000 in
theorem highest_loop (F : FX p s m args meth c cBA_countHighestPlaces 7 (some .int) wsBA_countHighestPlaces RBA D vwCl cI cZ cJ SL A) (hG : GE W D_ r sz co ro ho ac al sd lf sq) (hre : ∀ P, 0 ≤ P → P < ((W + 2 * r) * (D_ + 2 * r)) → 1 ≤ re P ∧ re P ≤ 272629760)
    (k : ∀ (i hi cnt_ : Int), (∀ P, 0 ≤ P → P < ((W + 2 * r) * (D_ + 2 * r)) → re P ≤ hi) → cnt_ = cz (fun P => decide (re P = hi)) ((W + 2 * r) * (D_ + 2 * r)) → (∃ P, 0 ≤ P ∧ P < ((W + 2 * r) * (D_ + 2 * r)) ∧ re P = hi) → TT p l e rmBA_countHighestPlaces s m args below meth c D vwCl A 7 False Q 55 [(0, .ref (a 14)), (1, .int (iZ hi)), (2, .int (iZ cnt_)), (3, .ref (a 18)), (4, .int (iZ ((W + 2 * r) * (D_ + 2 * r)))), (5, .int (iZ i))] [] (cW cI cZ a W D_ r sz co ro ho ac al sd lf sq hs rs ts rt_ hc li re ow tc cp ck wa qp qt qs lo sb lc cn ch sk) 0 0) :
    ∀ (n : Nat) (i hi cnt_ : Int), (((W + 2 * r) * (D_ + 2 * r)) - i).toNat < n → 0 ≤ i ∧ i ≤ ((W + 2 * r) * (D_ + 2 * r)) → (∀ P, 0 ≤ P → P < i → re P ≤ hi) → cnt_ = cz (fun P => decide (re P = hi)) i → (0 ≤ hi ∧ hi ≤ 272629760) → hgI re i hi → TT p l e rmBA_countHighestPlaces s m args below meth c D vwCl A 7 False Q 16 [(0, .ref (a 14)), (1, .int (iZ hi)), (2, .int (iZ cnt_)), (3, .ref (a 18)), (4, .int (iZ ((W + 2 * r) * (D_ + 2 * r)))), (5, .int (iZ i))] [] (cW cI cZ a W D_ r sz co ro ho ac al sd lf sq hs rs ts rt_ hc li re ow tc cp ck wa qp qt qs lo sb lc cn ch sk) 0 0 := by
  intro n
  induction n with
  | zero => intro i hi cnt_ hn; omega
  | succ n ih =>
    intro i hi cnt_ hn hi2 I1 I2 I3 I4
    obtain ⟨⟨hW1, hW2, hD1, hD2, hr1, hr2⟩, hGp, hGs, hGk, hGx, hGi, hGm, hGq⟩ := id hG
    have hWD := wd_b hW1 hW2 hD1 hD2
    have hPL := pl_b hW1 hW2 hD1 hD2 hr1 hr2
    have hSQ := sd_b hr1 hr2
    refine tt_iload F 5 rfl dBA_countHighestPlaces_16 ?_
    refine tt_iload F 4 rfl dBA_countHighestPlaces_18 ?_
    refine tt_icmp_ge F 55 ⟨by omega, by omega⟩ ⟨by omega, by omega⟩ dBA_countHighestPlaces_20 (by decide) (fun c20 => ?_) (fun c20 => ?_)
    · skip
      refine tt_sub [0, 1, 2, 3, 4, 5] rfl ?_
      have hie : i = ((W + 2 * r) * (D_ + 2 * r)) := by omega
      rw [hie] at I1 I2 I4
      exact k i hi cnt_ I1 I2 (I4.elim (fun q => by omega) id)
    · skip
      have hr0 := hre i (by omega) (by omega)
      refine tt_aload_n F 3 rfl rfl dBA_countHighestPlaces_23 ?_
      refine tt_iload F 5 rfl dBA_countHighestPlaces_24 ?_
      refine tt_iald F 18 rfl (by omega) (by omega) (by omega) dBA_countHighestPlaces_26 ?_
      refine tt_name (fun rv hrv => ?_)
      refine tt_istore F [(6, .int (iZ rv)), (0, .ref (a 14)), (1, .int (iZ hi)), (2, .int (iZ cnt_)), (3, .ref (a 18)), (4, .int (iZ ((W + 2 * r) * (D_ + 2 * r)))), (5, .int (iZ i))] (by decide) rfl dBA_countHighestPlaces_27 ?_
      refine tt_iload F 0 rfl dBA_countHighestPlaces_29 ?_
      refine tt_iload_n F 2 rfl rfl dBA_countHighestPlaces_31 ?_
      refine tt_icmp_le F 40 ⟨by omega, by omega⟩ ⟨by omega, by omega⟩ dBA_countHighestPlaces_32 (by decide) (fun c32 => ?_) (fun c32 => ?_)
      · skip
        refine tt_iload F 0 rfl dBA_countHighestPlaces_40 ?_
        refine tt_iload_n F 2 rfl rfl dBA_countHighestPlaces_42 ?_
        refine tt_icmp_ne F 49 ⟨by omega, by omega⟩ ⟨by omega, by omega⟩ dBA_countHighestPlaces_43 (by decide) (fun c43 => ?_) (fun c43 => ?_)
        · skip
          refine tt_iinc F 6 [(5, .int (iZ (i + 1))), (6, .int (iZ rv)), (0, .ref (a 14)), (1, .int (iZ hi)), (2, .int (iZ cnt_)), (3, .ref (a 18)), (4, .int (iZ ((W + 2 * r) * (D_ + 2 * r))))] rfl (by decide) rfl dBA_countHighestPlaces_49 ?_
          refine tt_goto F 16 (by decide) dBA_countHighestPlaces_52 ?_
          refine tt_sub [2, 3, 4, 5, 6, 0] rfl ?_
          refine ih (i + 1) hi cnt_ (by omega) (by omega) (fun P h1 h2 => ?_) ?_ (by omega) ?_
          · by_cases e : P = i
            · rw [e]; omega
            · have := I1 P h1 (by omega); omega
          · rw [cz_s _ hi2.1, ← I2, bi_f (by simp; omega)]; omega
          · rcases I4 with q | ⟨P, q1, q2, q3⟩
            · omega
            · exact Or.inr ⟨P, q1, by omega, q3⟩
        · skip
          refine tt_iinc F 3 [(2, .int (iZ (cnt_ + 1))), (6, .int (iZ rv)), (0, .ref (a 14)), (1, .int (iZ hi)), (3, .ref (a 18)), (4, .int (iZ ((W + 2 * r) * (D_ + 2 * r)))), (5, .int (iZ i))] rfl (by decide) rfl dBA_countHighestPlaces_46 ?_
          refine tt_iinc F 6 [(5, .int (iZ (i + 1))), (2, .int (iZ (cnt_ + 1))), (6, .int (iZ rv)), (0, .ref (a 14)), (1, .int (iZ hi)), (3, .ref (a 18)), (4, .int (iZ ((W + 2 * r) * (D_ + 2 * r))))] rfl (by decide) rfl dBA_countHighestPlaces_49 ?_
          refine tt_goto F 16 (by decide) dBA_countHighestPlaces_52 ?_
          refine tt_sub [3, 4, 1, 5, 6, 0] rfl ?_
          refine ih (i + 1) hi (cnt_ + 1) (by omega) (by omega) (fun P h1 h2 => ?_) ?_ (by omega) ?_
          · by_cases e : P = i
            · rw [e]; omega
            · have := I1 P h1 (by omega); omega
          · rw [cz_s _ hi2.1, ← I2, bi_t (by simp; omega)]
          · exact Or.inr ⟨i, by omega, by omega, by omega⟩
      · skip
        refine tt_iload F 0 rfl dBA_countHighestPlaces_35 ?_
        refine tt_istore_n F [(1, .int (iZ rv)), (6, .int (iZ rv)), (0, .ref (a 14)), (2, .int (iZ cnt_)), (3, .ref (a 18)), (4, .int (iZ ((W + 2 * r) * (D_ + 2 * r)))), (5, .int (iZ i))] rfl (by decide) rfl dBA_countHighestPlaces_37 ?_
        refine tt_iconst F dBA_countHighestPlaces_38 ?_
        refine tt_istore_n F [(2, .int (iZ 0)), (1, .int (iZ rv)), (6, .int (iZ rv)), (0, .ref (a 14)), (3, .ref (a 18)), (4, .int (iZ ((W + 2 * r) * (D_ + 2 * r)))), (5, .int (iZ i))] rfl (by decide) rfl dBA_countHighestPlaces_39 ?_
        refine tt_iload F 2 rfl dBA_countHighestPlaces_40 ?_
        refine tt_iload_n F 1 rfl rfl dBA_countHighestPlaces_42 ?_
        refine tt_icmp_ne F 49 ⟨by omega, by omega⟩ ⟨by omega, by omega⟩ dBA_countHighestPlaces_43 (by decide) (fun c43 => ?_) (fun c43 => ?_)
        · skip
          refine tt_iinc F 6 [(5, .int (iZ (i + 1))), (2, .int (iZ 0)), (1, .int (iZ rv)), (6, .int (iZ rv)), (0, .ref (a 14)), (3, .ref (a 18)), (4, .int (iZ ((W + 2 * r) * (D_ + 2 * r))))] rfl (by decide) rfl dBA_countHighestPlaces_49 ?_
          refine tt_goto F 16 (by decide) dBA_countHighestPlaces_52 ?_
          refine tt_sub [4, 2, 1, 5, 6, 0] rfl ?_
          exact absurd rfl c43
        · skip
          refine tt_iinc F 0 [(2, .int (iZ (0 + 1))), (1, .int (iZ rv)), (6, .int (iZ rv)), (0, .ref (a 14)), (3, .ref (a 18)), (4, .int (iZ ((W + 2 * r) * (D_ + 2 * r)))), (5, .int (iZ i))] rfl (by decide) rfl dBA_countHighestPlaces_46 ?_
          refine tt_iinc F 6 [(5, .int (iZ (i + 1))), (2, .int (iZ (0 + 1))), (1, .int (iZ rv)), (6, .int (iZ rv)), (0, .ref (a 14)), (3, .ref (a 18)), (4, .int (iZ ((W + 2 * r) * (D_ + 2 * r))))] rfl (by decide) rfl dBA_countHighestPlaces_49 ?_
          refine tt_goto F 16 (by decide) dBA_countHighestPlaces_52 ?_
          refine tt_sub [4, 2, 1, 5, 6, 0] rfl ?_
          refine ih (i + 1) rv (0 + 1) (by omega) (by omega) (fun P h1 h2 => ?_) ?_ (by omega) ?_
          · by_cases e : P = i
            · rw [e]; omega
            · have := I1 P h1 (by omega); omega
          · rw [cz_s _ hi2.1, cz_nil (fun P h1 h2 => by have := I1 P h1 h2; simp only [decide_eq_false_iff_not]; omega), bi_t (by simp [hrv])]
          · exact Or.inr ⟨i, by omega, by omega, hrv.symm⟩
set_option maxHeartbeats 4000000 in
set_option maxRecDepth 100000 in
theorem c_highest  (hG : GE W D_ r sz co ro ho ac al sd lf sq) (hre : ∀ P, 0 ≤ P → P < ((W + 2 * r) * (D_ + 2 * r)) → 1 ≤ re P ∧ re P ≤ 272629760) : CI l D vwCl cI cZ cJ SL yBA_countHighestPlaces wsBA_countHighestPlaces rmBA_countHighestPlaces [.ref (a 14)] (cW cI cZ a W D_ r sz co ro ho ac al sd lf sq hs rs ts rt_ hc li re ow tc cp ck wa qp qt qs lo sb lc cn ch sk) (fun z w1 => (∃ hi, (∀ P, 0 ≤ P → P < ((W + 2 * r) * (D_ + 2 * r)) → re P ≤ hi) ∧ z = cz (fun P => decide (re P = hi)) ((W + 2 * r) * (D_ + 2 * r)) ∧ ∃ P, 0 ≤ P ∧ P < ((W + 2 * r) * (D_ + 2 * r)) ∧ re P = hi) ∧ w1 = (cW cI cZ a W D_ r sz co ro ho ac al sd lf sq hs rs ts rt_ hc li re ow tc cp ck wa qp qt qs lo sb lc cn ch sk)) := by
  refine tt_startI (by decide) rfl (Nat.le_of_ble_eq_true rfl) ?_
  intro p e s m args below meth c hnm F
  obtain ⟨⟨hW1, hW2, hD1, hD2, hr1, hr2⟩, hGp, hGs, hGk, hGx, hGi, hGm, hGq⟩ := id hG
  have hWD := wd_b hW1 hW2 hD1 hD2
  have hPL := pl_b hW1 hW2 hD1 hD2 hr1 hr2
  have hSQ := sd_b hr1 hr2
  refine tt_iconst F dBA_countHighestPlaces_0 ?_
  refine tt_istore_n F [(1, .int (iZ 0)), (0, .ref (a 14))] rfl (by decide) rfl dBA_countHighestPlaces_1 ?_
  refine tt_iconst F dBA_countHighestPlaces_2 ?_
  refine tt_istore_n F [(2, .int (iZ 0)), (1, .int (iZ 0)), (0, .ref (a 14))] rfl (by decide) rfl dBA_countHighestPlaces_3 ?_
  refine tt_aload_n F 2 rfl rfl dBA_countHighestPlaces_4 ?_
  refine tt_get F inBA 14 rfl rfl 2 (by decide) we193 rfl dBA_countHighestPlaces_5 ?_
  refine tt_astore_n F [(3, .ref (a 18)), (2, .int (iZ 0)), (1, .int (iZ 0)), (0, .ref (a 14))] rfl (by decide) rfl dBA_countHighestPlaces_8 ?_
  refine tt_aload_n F 0 rfl rfl dBA_countHighestPlaces_9 ?_
  refine tt_alen F 18 rfl (by omega) dBA_countHighestPlaces_10 ?_
  refine tt_istore F [(4, .int (iZ ((W + 2 * r) * (D_ + 2 * r)))), (3, .ref (a 18)), (2, .int (iZ 0)), (1, .int (iZ 0)), (0, .ref (a 14))] (by decide) rfl dBA_countHighestPlaces_11 ?_
  refine tt_iconst F dBA_countHighestPlaces_13 ?_
  refine tt_istore F [(5, .int (iZ 0)), (4, .int (iZ ((W + 2 * r) * (D_ + 2 * r)))), (3, .ref (a 18)), (2, .int (iZ 0)), (1, .int (iZ 0)), (0, .ref (a 14))] (by decide) rfl dBA_countHighestPlaces_14 ?_
  refine tt_sub [5, 4, 3, 2, 1, 0] rfl ?_
  refine highest_loop F hG hre (fun i hi cnt_ J1 J2 J3 => ?_) (((W + 2 * r) * (D_ + 2 * r)).toNat + 1) 0 0 0 (by omega) (by omega) (fun P h1 h2 => by omega) (cz_0 _ (Int.le_refl 0)).symm (by omega) (Or.inl ⟨rfl, rfl⟩)
  refine tt_iload_n F 2 rfl rfl dBA_countHighestPlaces_55 ?_
  exact tt_iret F rfl (Nat.le_of_ble_eq_true rfl) (Nat.le_of_ble_eq_true rfl) dBA_countHighestPlaces_56 ⟨⟨hi, J1, J2, J3⟩, rfl⟩
abbrev rmBA_coverOf : Room := { frames := 1, cells := 0, slots := 0, locals := 14 }
def cvI (r sz : Int) (re ho sd lf : Int → Int) (q least : Int) : Prop := least = re (ho q) - r * 1048576 ∨ ∃ k, 0 ≤ k ∧ k < sz ∧ least = re (ho q + sd k) - lf k
set_option maxHeartbeats 4000000 in
set_option maxRecDepth 100000 in
theorem cover_loop {q : Int} (F : FX p s m args meth c cBA_coverOf 5 (some .int) wsBA_coverOf RBA D vwCl cI cZ cJ SL A) (hG : GE W D_ r sz co ro ho ac al sd lf sq) (hre : ∀ P, 0 ≤ P → P < ((W + 2 * r) * (D_ + 2 * r)) → 1 ≤ re P ∧ re P ≤ 272629760) (hq : 0 ≤ q ∧ q < W * D_)
    (k_ : ∀ (i least : Int), (∀ k, 0 ≤ k → k < sz → least ≤ re (ho q + sd k) - lf k) → cvI r sz re ho sd lf q least → TT p l e rmBA_coverOf s m args below meth c D vwCl A 5 False Q 73 [(0, .ref (a 14)), (2, .int (iZ (ho q))), (3, .int (iZ least)), (4, .int (iZ i))] [] (cW cI cZ a W D_ r sz co ro ho ac al sd lf sq hs rs ts rt_ hc li re ow tc cp ck wa qp qt qs lo sb lc cn ch sk) 0 0) :
    ∀ (n : Nat) (i least : Int), (sz - i).toNat < n → 0 ≤ i ∧ i ≤ sz → (∀ k, 0 ≤ k → k < i → least ≤ re (ho q + sd k) - lf k) → cvI r sz re ho sd lf q least → (-272629760 ≤ least ∧ least ≤ 272629760) → TT p l e rmBA_coverOf s m args below meth c D vwCl A 5 False Q 22 [(0, .ref (a 14)), (2, .int (iZ (ho q))), (3, .int (iZ least)), (4, .int (iZ i))] [] (cW cI cZ a W D_ r sz co ro ho ac al sd lf sq hs rs ts rt_ hc li re ow tc cp ck wa qp qt qs lo sb lc cn ch sk) 0 0 := by
  intro n
  induction n with
  | zero => intro i least hn; omega
  | succ n ih =>
    intro i least hn hi I1 I2 I3
    obtain ⟨⟨hW1, hW2, hD1, hD2, hr1, hr2⟩, hGp, hGs, hGk, hGx, hGi, hGm, hGq⟩ := id hG
    have hWD := wd_b hW1 hW2 hD1 hD2
    have hPL := pl_b hW1 hW2 hD1 hD2 hr1 hr2
    have hSQ := sd_b hr1 hr2
    refine tt_iload F 3 rfl dBA_coverOf_22 ?_
    refine tt_aload_n F 0 rfl rfl dBA_coverOf_24 ?_
    refine tt_get F inBA 14 rfl rfl 0 (by decide) we189 rfl dBA_coverOf_25 ?_
    refine tt_get F inSH 8 rfl rfl 0 (by decide) we149 rfl dBA_coverOf_28 ?_
    refine tt_icmp_ge F 73 ⟨by omega, by omega⟩ ⟨by omega, by omega⟩ dBA_coverOf_31 (by decide) (fun c31 => ?_) (fun c31 => ?_)
    · skip
      refine tt_sub [0, 1, 2, 3] rfl ?_
      exact k_ i least (fun k h1 h2 => I1 k h1 (by omega)) I2
    · skip
      have hgk := ge_k hG hq.1 hq.2 hi.1 (show i < sz by omega)
      have hr0 := hre _ hgk.2.2.2.1 hgk.2.2.2.2.1
      refine tt_iload_n F 2 rfl rfl dBA_coverOf_34 ?_
      refine tt_aload_n F 0 rfl rfl dBA_coverOf_35 ?_
      refine tt_get F inBA 14 rfl rfl 2 (by decide) we193 rfl dBA_coverOf_36 ?_
      refine tt_iload_n F 1 rfl rfl dBA_coverOf_39 ?_
      refine tt_aload_n F 0 rfl rfl dBA_coverOf_40 ?_
      refine tt_get F inBA 14 rfl rfl 0 (by decide) we189 rfl dBA_coverOf_41 ?_
      refine tt_get F inSH 8 rfl rfl 3 (by decide) we158 rfl dBA_coverOf_44 ?_
      refine tt_iload F 3 rfl dBA_coverOf_47 ?_
      refine tt_iald F 11 rfl (by omega) (by omega) (by omega) dBA_coverOf_49 ?_
      refine tt_name (fun sv hsv => ?_)
      refine tt_iadd F dBA_coverOf_50 ?_
      refine tt_iald F 18 rfl (by rw [hsv]; omega) (by rw [hsv]; omega) (by omega) dBA_coverOf_51 ?_
      refine tt_name (fun rv hrv => ?_)
      have hrv2 : rv = re (ho q + sd i) := by rw [hrv, hsv]
      refine tt_aload_n F 0 rfl rfl dBA_coverOf_52 ?_
      refine tt_get F inBA 14 rfl rfl 0 (by decide) we189 rfl dBA_coverOf_53 ?_
      refine tt_get F inSH 8 rfl rfl 4 (by decide) we161 rfl dBA_coverOf_56 ?_
      refine tt_iload F 3 rfl dBA_coverOf_59 ?_
      refine tt_iald F 12 rfl (by omega) (by omega) (by omega) dBA_coverOf_61 ?_
      refine tt_name (fun lv_ hlv_ => ?_)
      refine tt_isub F dBA_coverOf_62 ?_
      refine tt_mmin F ⟨by omega, by omega⟩ ⟨by omega, by omega⟩ we649 we73 we46 we74 (Nat.le_of_ble_eq_true rfl) (Nat.le_of_ble_eq_true rfl) (Nat.le_of_ble_eq_true rfl) (Nat.le_of_ble_eq_true rfl) dBA_coverOf_63 ?_
      refine tt_name (fun ne hne => ?_)
      have hbne : ((rv - lv_) < least ∧ ne = (rv - lv_)) ∨ (least ≤ (rv - lv_) ∧ ne = least) := by rw [hne]; split <;> omega
      refine tt_istore_n F [(3, .int (iZ ne)), (0, .ref (a 14)), (2, .int (iZ (ho q))), (4, .int (iZ i))] rfl (by decide) rfl dBA_coverOf_66 ?_
      refine tt_iinc F 3 [(4, .int (iZ (i + 1))), (3, .int (iZ ne)), (0, .ref (a 14)), (2, .int (iZ (ho q)))] rfl (by decide) rfl dBA_coverOf_67 ?_
      refine tt_goto F 22 (by decide) dBA_coverOf_70 ?_
      refine tt_sub [2, 3, 1, 0] rfl ?_
      refine ih (i + 1) ne (by omega) (by omega) (fun k h1 h2 => ?_) ?_ (by omega)
      · by_cases e : k = i
        · rw [e]; omega
        · have := I1 k h1 (by omega); omega
      · rcases hbne with ⟨q1, q2⟩ | ⟨q1, q2⟩
        · exact Or.inr ⟨i, by omega, by omega, by omega⟩
        · rw [q2]; exact I2
set_option maxHeartbeats 4000000 in
set_option maxRecDepth 100000 in
theorem c_coverOf {q : Int} (hG : GE W D_ r sz co ro ho ac al sd lf sq) (hre : ∀ P, 0 ≤ P → P < ((W + 2 * r) * (D_ + 2 * r)) → 1 ≤ re P ∧ re P ≤ 272629760) (hq : 0 ≤ q ∧ q < W * D_) : CI l D vwCl cI cZ cJ SL yBA_coverOf wsBA_coverOf rmBA_coverOf [.ref (a 14), .int (iZ q)] (cW cI cZ a W D_ r sz co ro ho ac al sd lf sq hs rs ts rt_ hc li re ow tc cp ck wa qp qt qs lo sb lc cn ch sk) (fun z w1 => ((∀ k, 0 ≤ k → k < sz → z ≤ re (ho q + sd k) - lf k) ∧ ∃ k, 0 ≤ k ∧ k < sz ∧ z = re (ho q + sd k) - lf k) ∧ w1 = (cW cI cZ a W D_ r sz co ro ho ac al sd lf sq hs rs ts rt_ hc li re ow tc cp ck wa qp qt qs lo sb lc cn ch sk)) := by
  refine tt_startI (by decide) rfl (Nat.le_of_ble_eq_true rfl) ?_
  intro p e s m args below meth c hnm F
  obtain ⟨⟨hW1, hW2, hD1, hD2, hr1, hr2⟩, hGp, hGs, hGk, hGx, hGi, hGm, hGq⟩ := id hG
  have hWD := wd_b hW1 hW2 hD1 hD2
  have hPL := pl_b hW1 hW2 hD1 hD2 hr1 hr2
  have hSQ := sd_b hr1 hr2
  obtain ⟨k0, k1, k2, k3, k4⟩ := hGx 0 0 (by have := sq_0 r; omega)
  have hgk := ge_k hG hq.1 hq.2 k1 k2
  have hk := hGk k0 k1 k2
  have hsd0 : sd k0 = 0 := by rw [hk.2.1, k3, k4]; omega
  have hlf0 : lf k0 = r * 1048576 := by rw [hk.2.2, k3, k4]; exact lift_0 hr1 hr2
  have hr0 := hre (ho q) (by omega) (by omega)
  refine tt_aload_n F 0 rfl rfl dBA_coverOf_0 ?_
  refine tt_get F inBA 14 rfl rfl 1 (by decide) we191 rfl dBA_coverOf_1 ?_
  refine tt_iload_n F 1 rfl rfl dBA_coverOf_4 ?_
  refine tt_iald F 15 rfl (by omega) (by omega) (by omega) dBA_coverOf_5 ?_
  refine tt_name (fun home hhome => ?_)
  refine tt_istore_n F [(2, .int (iZ home)), (0, .ref (a 14)), (1, .int (iZ q))] rfl (by decide) rfl dBA_coverOf_6 ?_
  refine tt_aload_n F 1 rfl rfl dBA_coverOf_7 ?_
  refine tt_get F inBA 14 rfl rfl 2 (by decide) we193 rfl dBA_coverOf_8 ?_
  refine tt_iload_n F 0 rfl rfl dBA_coverOf_11 ?_
  refine tt_iald F 18 rfl (by omega) (by omega) (by omega) dBA_coverOf_12 ?_
  refine tt_name (fun rv hrv => ?_)
  refine tt_aload_n F 1 rfl rfl dBA_coverOf_13 ?_
  refine tt_get F inBA 14 rfl rfl 3 (by decide) we195 rfl dBA_coverOf_14 ?_
  refine tt_isub F dBA_coverOf_17 ?_
  refine tt_name (fun least0 hleast0 => ?_)
  refine tt_istore_n F [(3, .int (iZ least0)), (2, .int (iZ home)), (0, .ref (a 14)), (1, .int (iZ q))] rfl (by decide) rfl dBA_coverOf_18 ?_
  refine tt_iconst F dBA_coverOf_19 ?_
  refine tt_istore F [(4, .int (iZ 0)), (3, .int (iZ least0)), (2, .int (iZ home)), (0, .ref (a 14)), (1, .int (iZ q))] (by decide) rfl dBA_coverOf_20 ?_
  refine tt_sub [3, 2, 1, 0] rfl ?_
  rw [hhome] at hrv ⊢
  refine cover_loop F hG hre hq (fun i least J1 J2 => ?_) (sz.toNat + 1) 0 least0 (by omega) (by omega) (fun k h1 h2 => by omega) (Or.inl (by omega)) (by omega)
  refine tt_iload_n F 2 rfl rfl dBA_coverOf_73 ?_
  exact tt_iret F rfl (Nat.le_of_ble_eq_true rfl) (Nat.le_of_ble_eq_true rfl) dBA_coverOf_74 ⟨⟨J1, J2.elim (fun q => ⟨k0, k1, k2, by rw [hsd0, hlf0, Int.add_zero]; exact q⟩) id⟩, rfl⟩
end CL
