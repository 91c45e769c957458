/-! the reference's rolling: pure -/
theorem mR_far {W D_ r x y k L : Int} {t : Int → Int} (h : nrM W D_ r x y k = false) (I : mR W D_ r x y t k L) : mR W D_ r x y t (k + 1) L := by
  refine ⟨I.1, I.2.1, fun j j0 j1 j2 => ?_⟩
  by_cases e : j = k
  · rw [e, h] at j2; cases j2
  · exact I.2.2 j j0 (by omega) j2
theorem mR_low {W D_ r x y k L : Int} {t : Int → Int} (h : lvM r x y t k ≤ L) (I : mR W D_ r x y t k L) : mR W D_ r x y t (k + 1) L := by
  refine ⟨I.1, I.2.1, fun j j0 j1 j2 => ?_⟩
  by_cases e : j = k
  · rw [e]; exact h
  · exact I.2.2 j j0 (by omega) j2
theorem mR_up {W D_ r x y k L L' : Int} {t : Int → Int} (k0 : 0 ≤ k) (k1 : k < 144) (hn : nrM W D_ r x y k = true) (hL : lvM r x y t k = L') (h : L < L') (I : mR W D_ r x y t k L) : mR W D_ r x y t (k + 1) L' := by
  refine ⟨by have := I.1; omega, Or.inr ⟨k, k0, k1, hn, hL⟩, fun j j0 j1 j2 => ?_⟩
  by_cases e : j = k
  · rw [e]; omega
  · have := I.2.2 j j0 (by omega) j2; omega
def HK (W D_ r : Int) (t wh sM : Int → Int) (k P : Int) : Bool := tcM W D_ r (plx W r P) (ply W r P) t (LV wh sM P) k
/-- the places below n are rolled over -/
def RLI (W D_ r : Int) (t wh sM hi : Int → Int) (n : Int) : Prop := (∀ P, 0 ≤ P → P < n → RST W D_ r t wh sM P) ∧ ∀ k, 0 ≤ k → k < 144 → hi k = cz (HK W D_ r t wh sM k) n
def RLK (W D_ r : Int) (t wh sM hi : Int → Int) (n k : Int) : Prop := (∀ P, 0 ≤ P → P < n + 1 → RST W D_ r t wh sM P) ∧ ∀ j, 0 ≤ j → j < 144 → hi j = cz (HK W D_ r t wh sM j) n + (if j < k then bi (HK W D_ r t wh sM j n) else 0)
theorem rl_k0 {W D_ r n : Int} {t wh sM wh' sM' hi : Int → Int} (I : RLI W D_ r t wh sM hi n) (hO : ∀ Q, Q ≠ n → wh' Q = wh Q ∧ sM' Q = sM Q) (hR : RST W D_ r t wh' sM' n) : RLK W D_ r t wh' sM' hi n 0 := by
  have hL : ∀ P, 0 ≤ P → P < n → LV wh' sM' P = LV wh sM P := fun P p0 p1 => by
    have o := hO P (by omega)
    rw [LV, LV, o.1, o.2]
  refine ⟨fun P p0 p1 => ?_, fun j j0 j1 => ?_⟩
  · by_cases e : P = n
    · rw [e]; exact hR
    · have q := I.1 P p0 (by omega)
      have o := hO P e
      refine ⟨by rw [o.1]; exact q.1, by rw [o.2]; exact q.2.1, by rw [hL P p0 (by omega)]; exact q.2.2⟩
  · rw [if_neg (by omega), I.2 j j0 j1, Int.add_zero]
    exact cz_c (fun P p0 p1 => by rw [HK, HK, hL P p0 p1])
theorem rl_ks {W D_ r n k z : Int} {t wh sM hi : Int → Int} (k0 : 0 ≤ k) (hz : z = bi (HK W D_ r t wh sM k n)) (I : RLK W D_ r t wh sM hi n k) : RLK W D_ r t wh sM (zu hi k (hi k + z)) n (k + 1) := by
  refine ⟨I.1, fun j j0 j1 => ?_⟩
  have o := I.2 j j0 j1
  by_cases e : j = k
  · subst e
    rw [zu_s, o, if_neg (by omega), if_pos (by omega), hz]; omega
  · rw [zu_n _ _ e, o]
    by_cases e2 : j < k
    · rw [if_pos e2, if_pos (by omega)]
    · rw [if_neg e2, if_neg (by omega)]
theorem rl_kx {W D_ r n : Int} {t wh sM hi : Int → Int} (n0 : 0 ≤ n) (I : RLK W D_ r t wh sM hi n 144) : RLI W D_ r t wh sM hi (n + 1) := by
  refine ⟨I.1, fun j j0 j1 => ?_⟩
  rw [I.2 j j0 j1, if_pos j1, cz_s _ n0]
theorem rl_0 {W D_ r : Int} {t wh sM hi : Int → Int} (h : ∀ k, 0 ≤ k → k < 144 → hi k = 0) : RLI W D_ r t wh sM hi 0 := ⟨fun P p0 p1 => by omega, fun k k0 k1 => by rw [h k k0 k1, cz_0 _ (Int.le_refl 0)]⟩
theorem RLI_c {W D_ r n : Int} {t t' wh sM hi : Int → Int} (h : ∀ k, 0 ≤ k → k < 144 → t' k = t k) (I : RLI W D_ r t wh sM hi n) : RLI W D_ r t' wh sM hi n :=
  ⟨fun P p0 p1 => RST_c h (I.1 P p0 p1), fun k k0 k1 => by rw [I.2 k k0 k1]; exact cz_c (fun P _ _ => by rw [HK, HK, tcM_c (h k k0 k1)])⟩
/-- the highest places -/
def TPI (wh sM : Int → Int) (N p best n : Int) : Prop := (0 ≤ best ∧ best < N) ∧ (∀ P, 0 ≤ P → P < p → LV wh sM P ≤ LV wh sM best) ∧ n = cz (fun P => decide (LV wh sM P = LV wh sM best)) p
theorem tp_gt {wh sM : Int → Int} {N p best n : Int} (p0 : 0 ≤ p) (p1 : p < N) (h : LV wh sM best < LV wh sM p) (I : TPI wh sM N p best n) : TPI wh sM N (p + 1) p 1 := by
  refine ⟨⟨p0, p1⟩, fun P q0 q1 => ?_, ?_⟩
  · by_cases e : P = p
    · rw [e]; exact Int.le_refl _
    · have := I.2.1 P q0 (by omega); omega
  · rw [cz_s _ p0, cz_nil (fun P q0 q1 => decide_eq_false (by have := I.2.1 P q0 q1; omega)), bi_t (decide_eq_true rfl)]; rfl
theorem tp_eq {wh sM : Int → Int} {N p best n : Int} (p0 : 0 ≤ p) (h : LV wh sM p = LV wh sM best) (I : TPI wh sM N p best n) : TPI wh sM N (p + 1) best (n + 1) := by
  refine ⟨I.1, fun P q0 q1 => ?_, ?_⟩
  · by_cases e : P = p
    · rw [e]; omega
    · exact I.2.1 P q0 (by omega)
  · rw [cz_s _ p0, bi_t (decide_eq_true h), I.2.2]
theorem tp_lt {wh sM : Int → Int} {N p best n : Int} (p0 : 0 ≤ p) (h : LV wh sM p < LV wh sM best) (I : TPI wh sM N p best n) : TPI wh sM N (p + 1) best n := by
  refine ⟨I.1, fun P q0 q1 => ?_, ?_⟩
  · by_cases e : P = p
    · rw [e]; omega
    · exact I.2.1 P q0 (by omega)
  · rw [cz_s _ p0, bi_f (decide_eq_false (by omega)), I.2.2]; omega
/-- covers: the visited ones -/
def cvV (wh sM : Int → Int) (W r x y dx dy : Int) : Int := (LV wh sM ((y + dy + r) * (W + 2 * r) + (x + dx + r)) - rt (r * r - (dx * dx + dy * dy))) / 1048576
def CVI (wh sM : Int → Int) (W r x y n best : Int) : Prop :=
  (∀ dx dy, -r ≤ dx → dx ≤ r → -r ≤ dy → dy ≤ r → dx * dx + dy * dy ≤ r * r → (dy + r) * (2 * r + 1) + (dx + r) < n → best ≤ cvV wh sM W r x y dx dy) ∧ (best = 1000 ∨ ∃ dx dy, dx * dx + dy * dy ≤ r * r ∧ best = cvV wh sM W r x y dx dy)
theorem cv_far {wh sM : Int → Int} {W r x y n best dx dy : Int} (hx : -r ≤ dx ∧ dx ≤ r) (hn : n = (dy + r) * (2 * r + 1) + (dx + r)) (hd : r * r < dx * dx + dy * dy) (I : CVI wh sM W r x y n best) : CVI wh sM W r x y (n + 1) best := by
  refine ⟨fun ax ay g1 g2 g3 g4 g5 g6 => ?_, I.2⟩
  by_cases e : (ay + r) * (2 * r + 1) + (ax + r) = n
  · have e2 := ix_inj (W := 2 * r + 1) (i := ax + r) (j := ay + r) (i' := dx + r) (j' := dy + r) (by omega) (by omega) (by omega) (by omega) (by omega)
    have ex : ax = dx := by omega
    have ey : ay = dy := by omega
    rw [ex, ey] at g5; omega
  · exact I.1 ax ay g1 g2 g3 g4 g5 (by omega)
theorem cv_min {wh sM : Int → Int} {W r x y n best dx dy v : Int} (hx : -r ≤ dx ∧ dx ≤ r) (hn : n = (dy + r) * (2 * r + 1) + (dx + r)) (hd : dx * dx + dy * dy ≤ r * r) (hv : v = cvV wh sM W r x y dx dy) (I : CVI wh sM W r x y n best) (b' : Int) (hb : (v < best ∧ b' = v) ∨ (best ≤ v ∧ b' = best)) : CVI wh sM W r x y (n + 1) b' := by
  refine ⟨fun ax ay g1 g2 g3 g4 g5 g6 => ?_, ?_⟩
  · by_cases e : (ay + r) * (2 * r + 1) + (ax + r) = n
    · have e2 := ix_inj (W := 2 * r + 1) (i := ax + r) (j := ay + r) (i' := dx + r) (j' := dy + r) (by omega) (by omega) (by omega) (by omega) (by omega)
      have ex : ax = dx := by omega
      have ey : ay = dy := by omega
      rw [ex, ey]; omega
    · have := I.1 ax ay g1 g2 g3 g4 g5 (by omega); omega
  · rcases hb with ⟨-, q⟩ | ⟨-, q⟩
    · exact Or.inr ⟨dx, dy, hd, by omega⟩
    · rw [q]; exact I.2
