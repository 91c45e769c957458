/-! the class's answers and the model's: pure -/
def REL (W D_ : Int) (hs rs cp ck wa : Int → Int) (cn : Int) (hM rM wM mp mk : Int → Int) (mn : Int) : Prop :=
  (∀ i j, 0 ≤ i → i < W → 0 ≤ j → j < D_ → hM (12 * j + i) = hs (j * W + i) ∧ rM (12 * j + i) = rs (j * W + i) ∧ wM (12 * j + i) = wa (j * W + i)) ∧
  (∀ k, 0 ≤ k → k < 144 → ((0 ≤ hM k ∧ hM k ≤ 200) ∧ 0 ≤ rM k ∧ rM k ≤ 50) ∧ (wM k = 0 ∨ wM k = 1) ∧ (¬ (k % 12 < W ∧ k / 12 < D_) → wM k = 0)) ∧
  mn = cn ∧ (0 ≤ mn ∧ mn ≤ 4) ∧ ∀ q, 0 ≤ q → q < mn → (mk q = ck q ∧ 1 ≤ mk q ∧ mk q ≤ 50) ∧ ∃ i j, (0 ≤ i ∧ i < W) ∧ (0 ≤ j ∧ j < D_) ∧ cp q = j * W + i ∧ mp q = 12 * j + i
section TIE
variable {W D_ r sz cn mn : Int} {co ro ho ac al sd lf sq hs rs ts rt_ hc re ow tc cp ck wa hM rM wM mp mk t wh sM hi : Int → Int}
theorem rel_hB (h : REL W D_ hs rs cp ck wa cn hM rM wM mp mk mn) : ∀ k, 0 ≤ k → k < 144 → (0 ≤ hM k ∧ hM k ≤ 200) ∧ 0 ≤ rM k ∧ rM k ≤ 50 := fun k k0 k1 => (h.2.1 k k0 k1).1
theorem rel_wM (h : REL W D_ hs rs cp ck wa cn hM rM wM mp mk mn) : ∀ k, 0 ≤ k → k < 144 → wM k = 0 ∨ wM k = 1 := fun k k0 k1 => (h.2.1 k k0 k1).2.1
theorem rel_mp (hW2 : W ≤ 12) (hD2 : D_ ≤ 12) (h : REL W D_ hs rs cp ck wa cn hM rM wM mp mk mn) : ∀ j, 0 ≤ j → j < mn → (0 ≤ mp j ∧ mp j < 144) ∧ 1 ≤ mk j ∧ mk j ≤ 50 := fun q q0 q1 => by
  obtain ⟨h1, i, j, hi, hj, -, e⟩ := h.2.2.2.2 q q0 q1
  exact ⟨by omega, h1.2⟩
theorem rel_tp (h : REL W D_ hs rs cp ck wa cn hM rM wM mp mk mn) (hU : PUB W D_ r hs rs ts rt_ hc re ow tc cp ck wa cn) : tpR W D_ ts (fun k => hM k + rM k) := by
  intro i j i0 i1 j0 j1
  have a := h.1 i j i0 i1 j0 j1
  have b := ix_b (D := D_) i0 i1 j0 j1
  have c := hU.2.1 _ b.1 b.2
  refine ⟨?_, ?_⟩
  · show ts (j * W + i) = (hM (12 * j + i) + rM (12 * j + i)) * 1048576
    rw [a.1, a.2.1]; exact c.1
  · show 0 ≤ hM (12 * j + i) + rM (12 * j + i) ∧ hM (12 * j + i) + rM (12 * j + i) ≤ 250
    omega
theorem lv_re (hG : GE W D_ r sz co ro ho ac al sd lf sq) (hB : BI W D_ r ts re tc ow hc) (hT : tpR W D_ ts t) (I : RLI W D_ r t wh sM hi ((W + 2 * r) * (D_ + 2 * r))) : ∀ P, 0 ≤ P → P < (W + 2 * r) * (D_ + 2 * r) → LV wh sM P = re P := by
  obtain ⟨⟨hW1, hW2, hD1, hD2, hr1, hr2⟩, -⟩ := hG
  exact fun P p0 p1 => (mR_re hr1 hr2 hW1 hW2 hD2 hT (hB.1 P p0 p1) (I.1 P p0 p1).2.2).symm
theorem hit_eq (hG : GE W D_ r sz co ro ho ac al sd lf sq) (hB : BI W D_ r ts re tc ow hc) (hT : tpR W D_ ts t) (I : RLI W D_ r t wh sM hi ((W + 2 * r) * (D_ + 2 * r))) {i j : Int} (i0 : 0 ≤ i) (i1 : i < W) (j0 : 0 ≤ j) (j1 : j < D_) : hc (j * W + i) = hi (12 * j + i) := by
  have hl := lv_re hG hB hT I
  obtain ⟨⟨hW1, hW2, hD1, hD2, hr1, hr2⟩, -⟩ := hG
  have b := ix_b (D := D_) i0 i1 j0 j1
  rw [hB.2 _ b.1 b.2, I.2 _ (by omega) (by omega)]
  refine cz_c (fun P p0 p1 => ?_)
  rw [HK, hl P p0 p1]
  exact tch_tc hr1 hr2 hW2 hT (hB.1 P p0 p1).1 i0 i1 j0 j1
/-- the k-th of the points, told in both ways -/
theorem kth_eq {Q P : Int → Bool} {k z1 z2 : Int} (hW1 : 1 ≤ W) (hW2 : W ≤ 12) (hD1 : 1 ≤ D_) (hD2 : D_ ≤ 12) (hQ : ∀ k, 0 ≤ k → k < 144 → Q k = true → k % 12 < W ∧ k / 12 < D_) (hP : ∀ i j, 0 ≤ i → i < W → 0 ≤ j → j < D_ → P (j * W + i) = Q (12 * j + i))
    (h1 : (∃ p, 0 ≤ p ∧ p < W * D_ ∧ P p = true ∧ cz P p = k ∧ z1 = 100 * (p / W) + p % W) ∨ (z1 = -1 ∧ cz P (W * D_) ≤ k))
    (h2 : (∃ q, 0 ≤ q ∧ q < 144 ∧ Q q = true ∧ cz Q q = k ∧ z2 = 100 * (q / 12) + q % 12) ∨ (z2 = -1 ∧ cz Q 144 ≤ k)) : z1 = z2 := by
  have c := cz_12 hW1 hW2 hD1 hD2 hQ hP
  rcases h1 with ⟨p, p0, p1, p2, p3, p4⟩ | ⟨p0, p1⟩
  · have o := ix_of (D := D_) (by omega) p0 p1
    have e1 := hP (p % W) (p / W) o.1 o.2.1 o.2.2.1 o.2.2.2.1
    have e2 := c.1 (p % W) (p / W) o.1 (by omega) o.2.2.1 o.2.2.2.1
    rw [o.2.2.2.2] at e1 e2
    rcases h2 with ⟨q, q0, q1, q2, q3, q4⟩ | ⟨q0, q1⟩
    · have e3 := cz_inj (P := Q) (a := 12 * (p / W) + p % W) (b := q) (by omega) q0 (by rw [← e1]; exact p2) q2 (by omega)
      rw [p4, q4, ← e3, (m12 o.1 (by omega)).1, (m12 o.1 (by omega)).2]
    · have := cz_lt (P := P) p0 p1 p2
      omega
  · rcases h2 with ⟨q, q0, q1, q2, q3, q4⟩ | ⟨q0, q1⟩
    · have := cz_lt (P := Q) q0 q1 q2
      omega
    · omega
theorem place_re (hG : GE W D_ r sz co ro ho ac al sd lf sq) (hB : BI W D_ r ts re tc ow hc) (hT : tpR W D_ ts t) {x y L : Int} (hpl : (-r ≤ x ∧ x < W + r) ∧ -r ≤ y ∧ y < D_ + r) (hm : mR W D_ r x y t 144 L) :
    re ((y + r) * (W + 2 * r) + (x + r)) = L ∧ r * 1048576 ≤ L ∧ tc ((y + r) * (W + 2 * r) + (x + r)) = cz (tch W r x y ts L) (W * D_) := by
  obtain ⟨⟨hW1, hW2, hD1, hD2, hr1, hr2⟩, -⟩ := hG
  have a := pl_in (W := W) (D_ := D_) (r := r) hpl.1.1 hpl.1.2 hpl.2.1 hpl.2.2
  have b := hB.1 _ a.1 a.2
  have c := pl_at (W := W) (r := r) (x := x) (y := y) hpl.1.1 hpl.1.2
  rw [c.1, c.2] at b
  have e := mR_re hr1 hr2 hW1 hW2 hD2 hT b hm
  refine ⟨e, hm.1, ?_⟩
  rw [← e]; exact b.2.2.2.1
theorem cnt_eq (hG : GE W D_ r sz co ro ho ac al sd lf sq) (hT : tpR W D_ ts t) {x y L : Int} (hL : r * 1048576 ≤ L) :
    (∀ k, 0 ≤ k → k < 144 → tcM W D_ r x y t L k = true → k % 12 < W ∧ k / 12 < D_) ∧ (∀ i j, 0 ≤ i → i < W → 0 ≤ j → j < D_ → tch W r x y ts L (j * W + i) = tcM W D_ r x y t L (12 * j + i)) ∧ cz (tcM W D_ r x y t L) 144 = cz (tch W r x y ts L) (W * D_) := by
  obtain ⟨⟨hW1, hW2, hD1, hD2, hr1, hr2⟩, -⟩ := hG
  have a : ∀ k, 0 ≤ k → k < 144 → tcM W D_ r x y t L k = true → k % 12 < W ∧ k / 12 < D_ := fun k _ _ h => (nrM_t.mp (tcM_t.mp h).1).1
  have b : ∀ i j, 0 ≤ i → i < W → 0 ≤ j → j < D_ → tch W r x y ts L (j * W + i) = tcM W D_ r x y t L (12 * j + i) := fun i j i0 i1 j0 j1 => tch_tc hr1 hr2 hW2 hT hL i0 i1 j0 j1
  exact ⟨a, b, (cz_12 hW1 hW2 hD1 hD2 a b).2⟩
theorem tie_rest (hG : GE W D_ r sz co ro ho ac al sd lf sq) (hB : BI W D_ r ts re tc ow hc) (hT : tpR W D_ ts t) {x y q z1 z2 L : Int} (hpl : (-r ≤ x ∧ x < W + r) ∧ -r ≤ y ∧ y < D_ + r)
    (h1 : (q = 0 ∧ z1 = re ((y + r) * (W + 2 * r) + (x + r)) / 1048576) ∨ (q = 1 ∧ z1 = bi (decide (re ((y + r) * (W + 2 * r) + (x + r)) % 1048576 = 0))) ∨ (q = 2 ∧ z1 = tc ((y + r) * (W + 2 * r) + (x + r))) ∨ (q = 3 ∧ z1 = bi (decide (re ((y + r) * (W + 2 * r) + (x + r)) = r * 1048576))))
    (hm : mR W D_ r x y t 144 L) (h2 : (q = 0 ∧ z2 = L / 1048576) ∨ (q = 1 ∧ z2 = bi (decide (L % 1048576 = 0))) ∨ (q = 2 ∧ z2 = cz (tcM W D_ r x y t L) 144) ∨ (q = 3 ∧ z2 = bi (decide (L = r * 1048576)))) : z1 = z2 := by
  have a := place_re hG hB hT hpl hm
  have b := cnt_eq hG hT (x := x) (y := y) a.2.1
  rw [a.1, a.2.2, ← b.2.2] at h1
  rcases h1 with ⟨c, d⟩ | ⟨c, d⟩ | ⟨c, d⟩ | ⟨c, d⟩ <;> rcases h2 with ⟨c2, d2⟩ | ⟨c2, d2⟩ | ⟨c2, d2⟩ | ⟨c2, d2⟩ <;> first | (rw [d, d2]; done) | omega
theorem tie_touched (hG : GE W D_ r sz co ro ho ac al sd lf sq) (hB : BI W D_ r ts re tc ow hc) (hT : tpR W D_ ts t) {x y k z1 z2 L : Int} (hpl : (-r ≤ x ∧ x < W + r) ∧ -r ≤ y ∧ y < D_ + r)
    (h1 : (∃ p, 0 ≤ p ∧ p < W * D_ ∧ tch W r x y ts (re ((y + r) * (W + 2 * r) + (x + r))) p = true ∧ cz (tch W r x y ts (re ((y + r) * (W + 2 * r) + (x + r)))) p = k ∧ z1 = 100 * (p / W) + p % W) ∨ (z1 = -1 ∧ cz (tch W r x y ts (re ((y + r) * (W + 2 * r) + (x + r)))) (W * D_) ≤ k))
    (hm : mR W D_ r x y t 144 L) (h2 : (∃ q, 0 ≤ q ∧ q < 144 ∧ tcM W D_ r x y t L q = true ∧ cz (tcM W D_ r x y t L) q = k ∧ z2 = 100 * (q / 12) + q % 12) ∨ (z2 = -1 ∧ cz (tcM W D_ r x y t L) 144 ≤ k)) : z1 = z2 := by
  have a := place_re hG hB hT hpl hm
  have b := cnt_eq hG hT (x := x) (y := y) a.2.1
  rw [a.1] at h1
  obtain ⟨⟨hW1, hW2, hD1, hD2, hr1, hr2⟩, -⟩ := hG
  exact kth_eq hW1 hW2 hD1 hD2 b.1 b.2.1 h1 h2
theorem tie_higher (hG : GE W D_ r sz co ro ho ac al sd lf sq) (hB : BI W D_ r ts re tc ow hc) (hT : tpR W D_ ts t) {x y x2 y2 z1 z2 L L2 : Int} (hpl : (-r ≤ x ∧ x < W + r) ∧ -r ≤ y ∧ y < D_ + r) (hpl2 : (-r ≤ x2 ∧ x2 < W + r) ∧ -r ≤ y2 ∧ y2 < D_ + r)
    (h1 : (re ((y + r) * (W + 2 * r) + (x + r)) < re ((y2 + r) * (W + 2 * r) + (x2 + r)) ∧ z1 = -1) ∨ (re ((y + r) * (W + 2 * r) + (x + r)) = re ((y2 + r) * (W + 2 * r) + (x2 + r)) ∧ z1 = 0) ∨ (re ((y2 + r) * (W + 2 * r) + (x2 + r)) < re ((y + r) * (W + 2 * r) + (x + r)) ∧ z1 = 1))
    (hm : mR W D_ r x y t 144 L) (hm2 : mR W D_ r x2 y2 t 144 L2) (h2 : (z2 = -1 ∧ L < L2) ∨ (z2 = 0 ∧ L = L2) ∨ (z2 = 1 ∧ L2 < L)) : z1 = z2 := by
  have a := place_re hG hB hT hpl hm
  have b := place_re hG hB hT hpl2 hm2
  rw [a.1, b.1] at h1
  omega
theorem tie_tops (hG : GE W D_ r sz co ro ho ac al sd lf sq) (hB : BI W D_ r ts re tc ow hc) (hT : tpR W D_ ts t) {z1 z2 bst : Int}
    (h1 : ∃ hi, (∀ P, 0 ≤ P → P < ((W + 2 * r) * (D_ + 2 * r)) → re P ≤ hi) ∧ z1 = cz (fun P => decide (re P = hi)) ((W + 2 * r) * (D_ + 2 * r)) ∧ ∃ P, 0 ≤ P ∧ P < ((W + 2 * r) * (D_ + 2 * r)) ∧ re P = hi)
    (I : RLI W D_ r t wh sM hi ((W + 2 * r) * (D_ + 2 * r))) (h2 : TPI wh sM ((W + 2 * r) * (D_ + 2 * r)) ((W + 2 * r) * (D_ + 2 * r)) bst z2) : z1 = z2 := by
  have hl := lv_re hG hB hT I
  obtain ⟨hh, a1, a2, P, p0, p1, p2⟩ := h1
  obtain ⟨b1, b2, b3⟩ := h2
  have e1 := hl bst b1.1 b1.2
  have c1 := b2 P p0 p1
  have c2 := a1 bst b1.1 b1.2
  rw [hl P p0 p1] at c1
  have e : hh = LV wh sM bst := by omega
  rw [a2, b3]
  exact cz_c (fun Q q0 q1 => by rw [hl Q q0 q1, e])
theorem tie_safe (hG : GE W D_ r sz co ro ho ac al sd lf sq) (hB : BI W D_ r ts re tc ow hc) (hT : tpR W D_ ts t) {k z1 z2 : Int}
    (h1 : (∃ p, 0 ≤ p ∧ p < W * D_ ∧ hc p = 0 ∧ cz (fun p => decide (hc p = 0)) p = k ∧ z1 = 100 * (p / W) + p % W) ∨ (z1 = -1 ∧ cz (fun p => decide (hc p = 0)) (W * D_) ≤ k))
    (I : RLI W D_ r t wh sM hi ((W + 2 * r) * (D_ + 2 * r))) (h2 : (∃ q, 0 ≤ q ∧ q < 144 ∧ sfM W D_ hi q = true ∧ cz (sfM W D_ hi) q = k ∧ z2 = 100 * (q / 12) + q % 12) ∨ (z2 = -1 ∧ cz (sfM W D_ hi) 144 ≤ k)) : z1 = z2 := by
  have he := fun i j i0 i1 j0 j1 => hit_eq hG hB hT I (i := i) (j := j) i0 i1 j0 j1
  obtain ⟨⟨hW1, hW2, hD1, hD2, hr1, hr2⟩, -⟩ := hG
  refine kth_eq (P := fun p => decide (hc p = 0)) hW1 hW2 hD1 hD2 (fun k _ _ h => (sfM_t.mp h).1) (fun i j i0 i1 j0 j1 => ?_) ?_ h2
  · rw [Bool.eq_iff_iff, decide_eq_true_eq, sfM_t, he i j i0 i1 j0 j1, (m12 i0 (by omega)).1, (m12 i0 (by omega)).2]
    exact ⟨fun h => ⟨⟨i1, j1⟩, h⟩, fun h => h.2⟩
  · rcases h1 with ⟨p, p0, p1, p2, p3⟩ | h1
    · exact Or.inl ⟨p, p0, p1, decide_eq_true p2, p3⟩
    · exact Or.inr h1
theorem tie_cover (hG : GE W D_ r sz co ro ho ac al sd lf sq) (hB : BI W D_ r ts re tc ow hc) (hT : tpR W D_ ts t) (hre : ∀ P, 0 ≤ P → P < (W + 2 * r) * (D_ + 2 * r) → 1 ≤ re P ∧ re P ≤ 272629760) {x y z1 z2 : Int} (hp : (0 ≤ x ∧ x < W) ∧ 0 ≤ y ∧ y < D_)
    (h1 : ∃ m_, ((∀ k, 0 ≤ k → k < sz → m_ ≤ re (ho (y * W + x) + sd k) - lf k) ∧ ∃ k, 0 ≤ k ∧ k < sz ∧ m_ = re (ho (y * W + x) + sd k) - lf k) ∧ z1 = m_ / 1048576)
    (I : RLI W D_ r t wh sM hi ((W + 2 * r) * (D_ + 2 * r))) (h2 : CVI wh sM W r x y ((2 * r + 1) * (2 * r + 1)) z2) : z1 = z2 := by
  have hl := lv_re hG hB hT I
  obtain ⟨⟨hW1, hW2, hD1, hD2, hr1, hr2⟩, hGp, hGs, hGk, hGx, hGi, hGm, hGq⟩ := hG
  have hh := (hGp x y hp.1.1 hp.1.2 hp.2.1 hp.2.2).2.2
  have hrr := rr_b hr1 hr2
  have key : ∀ k, 0 ≤ k → k < sz → (re (ho (y * W + x) + sd k) - lf k) / 1048576 = cvV wh sM W r x y (ac k) (al k) ∧ (-r ≤ ac k ∧ ac k ≤ r ∧ -r ≤ al k ∧ al k ≤ r) ∧ ac k * ac k + al k * al k ≤ r * r ∧ re (ho (y * W + x) + sd k) - lf k ≤ 272629760 := by
    intro k k0 k1
    have a := hGk k k0 k1
    have b := sq_in (r := r) (by omega) a.1
    have e : ho (y * W + x) + sd k = (y + al k + r) * (W + 2 * r) + (x + ac k + r) := by
      rw [hh, a.2.1, show y + al k + r = (y + r) + al k by omega, Int.add_mul (y + r) (al k)]; omega
    have c := pl_in (W := W) (D_ := D_) (r := r) (x := x + ac k) (y := y + al k) (by omega) (by omega) (by omega) (by omega)
    have f : lf k = rt (r * r - (ac k * ac k + al k * al k)) := by rw [a.2.2, lift, if_pos a.1]
    have g := hre _ c.1 c.2
    have s1 := sq_0 (ac k)
    have s2 := sq_0 (al k)
    have h0 := rt_b (a := r * r - (ac k * ac k + al k * al k)) (by omega) (by omega)
    refine ⟨by rw [cvV, hl _ c.1 c.2, e, f], b, a.1, ?_⟩
    rw [e]; omega
  obtain ⟨m_, ⟨h3, k, k0, k1, k2⟩, h4⟩ := h1
  have kk := key k k0 k1
  have u1 : z2 ≤ z1 := by
    have := h2.1 (ac k) (al k) kk.2.1.1 kk.2.1.2.1 kk.2.1.2.2.1 kk.2.1.2.2.2 kk.2.2.1 (ix_b (i := ac k + r) (j := al k + r) (W := 2 * r + 1) (D := 2 * r + 1) (by omega) (by omega) (by omega) (by omega)).2
    rw [h4, k2, kk.1]; exact this
  have u2 : z1 ≤ z2 := by
    rcases h2.2 with q | ⟨dx, dy, q1, q2⟩
    · omega
    · obtain ⟨k', g0, g1, g2, g3⟩ := hGx dx dy q1
      have kx := key k' g0 g1
      have g4 := h3 k' g0 g1
      rw [q2, ← g2, ← g3, ← kx.1, h4]
      omega
  omega
end TIE
