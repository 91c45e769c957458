/-! The class's fixed tables; what the ball reaches; the invariant of a climb. -/
def GE (W D_ r sz : Int) (co ro ho ac al sd lf sq : Int → Int) : Prop :=
  (1 ≤ W ∧ W ≤ 12 ∧ 1 ≤ D_ ∧ D_ ≤ 12 ∧ 1 ≤ r ∧ r ≤ 10) ∧
  (∀ i j, 0 ≤ i → i < W → 0 ≤ j → j < D_ → co (j * W + i) = i ∧ ro (j * W + i) = j ∧ ho (j * W + i) = (j + r) * (W + 2 * r) + (i + r)) ∧
  (1 ≤ sz ∧ sz ≤ 441) ∧
  (∀ k, 0 ≤ k → k < sz → ac k * ac k + al k * al k ≤ r * r ∧ sd k = al k * (W + 2 * r) + ac k ∧ lf k = lift r (ac k) (al k)) ∧
  (∀ dx dy, dx * dx + dy * dy ≤ r * r → ∃ k, 0 ≤ k ∧ k < sz ∧ ac k = dx ∧ al k = dy) ∧
  (∀ k k', 0 ≤ k → k < sz → 0 ≤ k' → k' < sz → ac k = ac k' → al k = al k' → k = k') ∧
  (∀ k k', 0 ≤ k → k ≤ k' → k' < sz → lf k' ≤ lf k) ∧
  (∀ dx dy, -r ≤ dx → dx ≤ r → -r ≤ dy → dy ≤ r → sq ((dy + r) * (2 * r + 1) + (dx + r)) = lift r dx dy)
theorem wd_b {W D_ : Int} (h1 : 1 ≤ W) (h2 : W ≤ 12) (h3 : 1 ≤ D_) (h4 : D_ ≤ 12) : 1 ≤ W * D_ ∧ W * D_ ≤ 144 := by
  have a := Int.mul_le_mul (a := 1) (b := 1) (c := W) (d := D_) h1 h3 (by omega) (by omega)
  have b := Int.mul_le_mul (a := W) (b := D_) (c := 12) (d := 12) h2 h4 (by omega) (by omega)
  omega
theorem pl_b {W D_ r : Int} (h1 : 1 ≤ W) (h2 : W ≤ 12) (h3 : 1 ≤ D_) (h4 : D_ ≤ 12) (h5 : 1 ≤ r) (h6 : r ≤ 10) : 1 ≤ (W + 2 * r) * (D_ + 2 * r) ∧ (W + 2 * r) * (D_ + 2 * r) ≤ 1024 := by
  have a := Int.mul_le_mul (a := 1) (b := 1) (c := W + 2 * r) (d := D_ + 2 * r) (by omega) (by omega) (by omega) (by omega)
  have b := Int.mul_le_mul (a := W + 2 * r) (b := D_ + 2 * r) (c := 32) (d := 32) (by omega) (by omega) (by omega) (by omega)
  omega
theorem sd_b {r : Int} (h5 : 1 ≤ r) (h6 : r ≤ 10) : 1 ≤ (2 * r + 1) * (2 * r + 1) ∧ (2 * r + 1) * (2 * r + 1) ≤ 441 := by
  have a := Int.mul_le_mul (a := 1) (b := 1) (c := 2 * r + 1) (d := 2 * r + 1) (by omega) (by omega) (by omega) (by omega)
  have b := Int.mul_le_mul (a := 2 * r + 1) (b := 2 * r + 1) (c := 21) (d := 21) (by omega) (by omega) (by omega) (by omega)
  omega
/-- how high the centre is at least, at a place, for a point -/
def rch (W r x y : Int) (tq : Int → Int) (p : Int) : Int := tq p + lift r (p % W - x) (p / W - y)
theorem rch_ij {W r x y i j : Int} {tq : Int → Int} (h1 : 0 ≤ i) (h2 : i < W) : rch W r x y tq (j * W + i) = tq (j * W + i) + lift r (i - x) (j - y) := by
  have a := ix_div (j := j) h1 h2
  rw [rch, a.1, a.2]
def clI (W r x y at_ N : Int) (tq : Int → Int) (z rest cnt : Int) (li : Int → Int) : Prop :=
  at_ ≤ rest ∧ (rest = at_ ∨ ∃ p, 0 ≤ p ∧ p < N ∧ rch W r x y tq p = rest) ∧ (∀ p, 0 ≤ p → p < z → rch W r x y tq p ≤ rest) ∧ lsts (fun p => decide (rch W r x y tq p = rest)) z li cnt
theorem cl_gt {W r x y at_ N z rest cnt : Int} {tq li : Int → Int} (hz : 0 ≤ z) (hN : z < N) (h : rest < rch W r x y tq z) (I : clI W r x y at_ N tq z rest cnt li) : clI W r x y at_ N tq (z + 1) (rch W r x y tq z) 1 (zu li 0 z) := by
  obtain ⟨h1, h2, h3, h4⟩ := I
  refine ⟨by omega, Or.inr ⟨z, hz, hN, rfl⟩, fun p p0 p1 => ?_, ?_⟩
  · by_cases e : p = z
    · rw [e]; exact Int.le_refl _
    · have := h3 p p0 (by omega); omega
  · have n : lsts (fun p => decide (rch W r x y tq p = rch W r x y tq z)) z li 0 := lsts_n (fun p p0 p1 => by
      have := h3 p p0 p1
      simp only [decide_eq_false_iff_not]; omega)
    exact lsts_1 hz (by simp) n
theorem cl_eq {W r x y at_ N z rest cnt : Int} {tq li : Int → Int} (hz : 0 ≤ z) (h : rch W r x y tq z = rest) (I : clI W r x y at_ N tq z rest cnt li) : clI W r x y at_ N tq (z + 1) rest (cnt + 1) (zu li cnt z) := by
  obtain ⟨h1, h2, h3, h4⟩ := I
  refine ⟨h1, h2, fun p p0 p1 => ?_, lsts_1 hz (by simp [h]) h4⟩
  by_cases e : p = z
  · rw [e, h]; exact Int.le_refl _
  · exact h3 p p0 (by omega)
theorem cl_skip {W r x y at_ N z z' rest cnt : Int} {tq li : Int → Int} (hz : 0 ≤ z) (hzz : z ≤ z') (h : ∀ p, z ≤ p → p < z' → rch W r x y tq p < rest) (I : clI W r x y at_ N tq z rest cnt li) : clI W r x y at_ N tq z' rest cnt li := by
  obtain ⟨h1, h2, h3, h4⟩ := I
  refine ⟨h1, h2, fun p p0 p1 => ?_, lsts_skip hz hzz (fun p q0 q1 => ?_) h4⟩
  · by_cases e : p < z
    · exact h3 p p0 e
    · have := h p (by omega) p1; omega
  · have := h p q0 q1
    simp only [decide_eq_false_iff_not]; omega
theorem cl_lt {W r x y at_ N z rest cnt : Int} {tq li : Int → Int} (hz : 0 ≤ z) (h : rch W r x y tq z < rest) (I : clI W r x y at_ N tq z rest cnt li) : clI W r x y at_ N tq (z + 1) rest cnt li :=
  cl_skip hz (by omega) (fun p q0 q1 => by rw [show p = z by omega]; exact h) I
/-- in a row: the points i .. i' - 1 of row j are too low -/
theorem cl_row {W r x y at_ N j i i' rest cnt : Int} {tq li : Int → Int} (hi : 0 ≤ i) (hii : i ≤ i') (hW : i' ≤ W) (hj : 0 ≤ j) (h : ∀ q, i ≤ q → q < i' → rch W r x y tq (j * W + q) < rest) (I : clI W r x y at_ N tq (j * W + i) rest cnt li) : clI W r x y at_ N tq (j * W + i') rest cnt li := by
  by_cases hW0 : 0 ≤ W
  · have h0 : 0 ≤ j * W := Int.mul_nonneg hj hW0
    refine cl_skip (by omega) (by omega) (fun p q0 q1 => ?_) I
    have e : p = j * W + (p - j * W) := by omega
    rw [e]
    exact h _ (by omega) (by omega)
  · omega
theorem rw_s (j W : Int) : (j + 1) * W = j * W + W := by rw [Int.add_mul, Int.one_mul]
/-- whole rows are too low -/
theorem cl_rows {W r x y at_ N j j' rest cnt : Int} {tq li : Int → Int} (hW : 1 ≤ W) (hj : 0 ≤ j) (hjj : j ≤ j') (h : ∀ i q, 0 ≤ i → i < W → j ≤ q → q < j' → rch W r x y tq (q * W + i) < rest) (I : clI W r x y at_ N tq (j * W) rest cnt li) : clI W r x y at_ N tq (j' * W) rest cnt li := by
  have key : ∀ d, 0 ≤ d → j + d ≤ j' → clI W r x y at_ N tq ((j + d) * W) rest cnt li := by
    refine zi_up (M := fun d => j + d ≤ j' → clI W r x y at_ N tq ((j + d) * W) rest cnt li) ?_ ?_
    · intro _
      rw [Int.add_zero]; exact I
    · intro d hd ih hle
      have e : j + (d + 1) = (j + d) + 1 := by omega
      rw [e, rw_s]
      have I2 := ih (by omega)
      rw [← Int.add_zero ((j + d) * W)] at I2
      exact cl_row (Int.le_refl 0) (by omega) (Int.le_refl W) (by omega) (fun q q0 q1 => h q (j + d) q0 q1 (by omega) (by omega)) I2
  have e2 := key (j' - j) (by omega) (by omega)
  rw [show j + (j' - j) = j' by omega] at e2
  exact e2
theorem cl_0 {W r x y at_ N rest : Int} {tq li : Int → Int} (h1 : at_ ≤ rest) (h2 : rest = at_ ∨ ∃ p, 0 ≤ p ∧ p < N ∧ rch W r x y tq p = rest) : clI W r x y at_ N tq (0 * W) rest 0 li := by
  rw [Int.zero_mul]
  exact ⟨h1, h2, fun p p0 p1 => by omega, lsts_n (fun p p0 p1 => by omega)⟩
theorem rch_far {W r x y i j : Int} {tq : Int → Int} (h0 : 1 ≤ r) (h1 : 0 ≤ i) (h2 : i < W) (ht : tq (j * W + i) ≤ 262144000) (h : i - x < -r ∨ r < i - x ∨ j - y < -r ∨ r < j - y) : rch W r x y tq (j * W + i) < 0 := by
  rw [rch_ij h1 h2, lift_out h0 h]
  omega
