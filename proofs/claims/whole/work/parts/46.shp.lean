/-! the shadow's table, made: pure -/
def shd (r m : Int) : Int := (m % (2 * r + 1) - r) * (m % (2 * r + 1) - r) + (m / (2 * r + 1) - r) * (m / (2 * r + 1) - r)
def shF (r d : Int) : Int := cz (fun m => decide (shd r m < d)) ((2 * r + 1) * (2 * r + 1))
def shC (r d n : Int) : Int := cz (fun m => decide (shd r m = d)) n
theorem shd_0 (r m : Int) : 0 ≤ shd r m := by
  have := sq_0 (m % (2 * r + 1) - r)
  have := sq_0 (m / (2 * r + 1) - r)
  simp only [shd]
  omega
theorem shd_ij {r x y : Int} (h1 : -r ≤ x) (h2 : x ≤ r) : shd r ((y + r) * (2 * r + 1) + (x + r)) = x * x + y * y := by
  have h := ix_div (i := x + r) (j := y + r) (W := 2 * r + 1) (by omega) (by omega)
  rw [shd, h.1, h.2, show x + r - r = x by omega, show y + r - r = y by omega]
theorem cz_lts (f : Int → Int) (d : Int) : ∀ n, 0 ≤ n → cz (fun m => decide (f m < d + 1)) n = cz (fun m => decide (f m < d)) n + cz (fun m => decide (f m = d)) n := by
  refine zi_up ?_ ?_
  · rw [cz_0 _ (Int.le_refl 0), cz_0 _ (Int.le_refl 0), cz_0 _ (Int.le_refl 0)]; rfl
  · intro n hn ih
    rw [cz_s _ hn, cz_s _ hn, cz_s _ hn, ih]
    have : bi (decide (f n < d + 1)) = bi (decide (f n < d)) + bi (decide (f n = d)) := by
      by_cases h1 : f n < d
      · rw [bi_t (decide_eq_true (by omega)), bi_t (decide_eq_true h1), bi_f (decide_eq_false (by omega))]; rfl
      · by_cases h2 : f n = d
        · rw [bi_t (decide_eq_true (by omega)), bi_f (decide_eq_false h1), bi_t (decide_eq_true h2)]; rfl
        · rw [bi_f (decide_eq_false (by omega)), bi_f (decide_eq_false h1), bi_f (decide_eq_false h2)]; rfl
    omega
theorem shN_0 {r : Int} (h : 1 ≤ r) (h2 : r ≤ 10) : 0 ≤ (2 * r + 1) * (2 * r + 1) ∧ (2 * r + 1) * (2 * r + 1) ≤ 441 := by
  have a := sq_le (a := 2 * r + 1) (b := 21) (by omega)
  have b := sq_0 (2 * r + 1)
  omega
theorem shF_s {r : Int} (h : 1 ≤ r) (h2 : r ≤ 10) (d : Int) : shF r (d + 1) = shF r d + shC r d ((2 * r + 1) * (2 * r + 1)) := cz_lts _ d _ (shN_0 h h2).1
theorem shF_0 (r : Int) : shF r 0 = 0 := cz_nil (fun p _ _ => decide_eq_false (by have := shd_0 r p; omega))
theorem shF_b {r : Int} (h : 1 ≤ r) (h2 : r ≤ 10) (d : Int) : 0 ≤ shF r d ∧ shF r d ≤ 441 := by
  have := shN_0 h h2
  have := cz_b (fun m => decide (shd r m < d)) this.1
  rw [shF]; omega
theorem shC_b (r d : Int) {n : Int} (h : 0 ≤ n) : 0 ≤ shC r d n := (cz_b _ h).1
theorem shC_m (r d : Int) {n k : Int} (h : 0 ≤ n) (hk : n ≤ k) : shC r d n ≤ shC r d k := cz_mono _ h hk
theorem shC_s (r d : Int) {n : Int} (h : 0 ≤ n) : shC r d (n + 1) = shC r d n + bi (decide (shd r n = d)) := cz_s _ h
theorem shF_m {r : Int} (h : 1 ≤ r) (h2 : r ≤ 10) {a b : Int} (hab : a ≤ b) : shF r a ≤ shF r b := by
  have key : ∀ k, 0 ≤ k → shF r a ≤ shF r (a + k) := by
    refine zi_up ?_ ?_
    · rw [Int.add_zero]; exact Int.le_refl _
    · intro k hk ih
      have := shF_s h h2 (a + k)
      have := shC_b r (a + k) (shN_0 h h2).1
      rw [Int.add_assoc] at *
      omega
  have := key (b - a) (by omega)
  rw [show a + (b - a) = b by omega] at this
  exact this
/-- the first pass: how many are at a distance -/
def FS1 (r n : Int) (f : Int → Int) : Prop := f 0 = 0 ∧ ∀ d, 0 ≤ d → d ≤ r * r → f (d + 1) = shC r d n
theorem fs1_0 (r : Int) : FS1 r 0 (fun _ => 0) := ⟨rfl, fun d _ _ => (cz_0 _ (Int.le_refl 0)).symm⟩
theorem fs1_in {r n d : Int} {f : Int → Int} (hn : 0 ≤ n) (hd : shd r n = d) (I : FS1 r n f) : FS1 r (n + 1) (zu f (d + 1) (f (d + 1) + 1)) := by
  have d0 := shd_0 r n
  refine ⟨by rw [zu_n _ _ (by omega)]; exact I.1, fun q q0 q1 => ?_⟩
  rw [shC_s r q hn]
  by_cases e : q = d
  · rw [e, zu_s, I.2 d (by omega) (by omega), bi_t (decide_eq_true hd)]
  · rw [zu_n _ _ (by omega), I.2 q q0 q1, bi_f (decide_eq_false (by omega))]; omega
theorem fs1_out {r n : Int} {f : Int → Int} (hn : 0 ≤ n) (hd : r * r < shd r n) (I : FS1 r n f) : FS1 r (n + 1) f := by
  refine ⟨I.1, fun q q0 q1 => ?_⟩
  rw [shC_s r q hn, bi_f (decide_eq_false (by omega)), I.2 q q0 q1]; omega
def FS2 (r k : Int) (f : Int → Int) : Prop := (∀ d, 0 ≤ d → d ≤ k → f d = shF r d) ∧ ∀ d, k ≤ d → d ≤ r * r → f (d + 1) = shC r d ((2 * r + 1) * (2 * r + 1))
theorem fs2_0 {r : Int} {f : Int → Int} (I : FS1 r ((2 * r + 1) * (2 * r + 1)) f) : FS2 r 0 f := ⟨fun d d0 d1 => by rw [show d = 0 by omega, I.1, shF_0], fun d d0 d1 => I.2 d d0 d1⟩
theorem fs2_s {r k : Int} {f : Int → Int} (h : 1 ≤ r) (h2 : r ≤ 10) (hk : 0 ≤ k) (hk2 : k ≤ r * r) (I : FS2 r k f) : FS2 r (k + 1) (zu f (k + 1) (f (k + 1) + f k)) := by
  refine ⟨fun d d0 d1 => ?_, fun d d0 d1 => ?_⟩
  · by_cases e : d = k + 1
    · rw [e, zu_s, shF_s h h2, I.1 k hk (Int.le_refl _), I.2 k (Int.le_refl _) hk2]; omega
    · rw [zu_n _ _ e]; exact I.1 d d0 (by omega)
  · rw [zu_n _ _ (by omega)]; exact I.2 d (by omega) d1
def SHI (r pA n : Int) (nx ac al sd lf sq : Int → Int) : Prop :=
  (∀ d, 0 ≤ d → d ≤ r * r → nx d = shF r d + shC r d n) ∧
  (∃ iv : Int → Int,
    (∀ d k, 0 ≤ d → d ≤ r * r → shF r d ≤ k → k < nx d → (ac k * ac k + al k * al k = d ∧ (-r ≤ ac k ∧ ac k ≤ r) ∧ (-r ≤ al k ∧ al k ≤ r)) ∧ (al k + r) * (2 * r + 1) + (ac k + r) < n ∧ iv ((al k + r) * (2 * r + 1) + (ac k + r)) = k ∧ sd k = al k * pA + ac k ∧ lf k = rt (r * r - d)) ∧
    (∀ x y, -r ≤ x → x ≤ r → -r ≤ y → y ≤ r → (y + r) * (2 * r + 1) + (x + r) < n → x * x + y * y ≤ r * r → (shF r (x * x + y * y) ≤ iv ((y + r) * (2 * r + 1) + (x + r)) ∧ iv ((y + r) * (2 * r + 1) + (x + r)) < nx (x * x + y * y)) ∧ ac (iv ((y + r) * (2 * r + 1) + (x + r))) = x ∧ al (iv ((y + r) * (2 * r + 1) + (x + r))) = y)) ∧
  (∀ x y, -r ≤ x → x ≤ r → -r ≤ y → y ≤ r → (y + r) * (2 * r + 1) + (x + r) < n → sq ((y + r) * (2 * r + 1) + (x + r)) = lift r x y)
theorem shi_nx {r n d : Int} {nx : Int → Int} (h : 1 ≤ r) (h2 : r ≤ 10) (hn : 0 ≤ n) (hn2 : n ≤ (2 * r + 1) * (2 * r + 1)) (d0 : 0 ≤ d) (d1 : d ≤ r * r) (hA : ∀ d, 0 ≤ d → d ≤ r * r → nx d = shF r d + shC r d n) : shF r d ≤ nx d ∧ nx d ≤ shF r (d + 1) := by
  have := hA d d0 d1
  have := shF_s h h2 d
  have := shC_b r d hn
  have := shC_m r d hn hn2
  omega
theorem shi_k {r n x y pA : Int} {nx ac al sd lf sq : Int → Int} (h : 1 ≤ r) (h2 : r ≤ 10) (hx : -r ≤ x ∧ x ≤ r) (hy : -r ≤ y ∧ y ≤ r) (hn : n = (y + r) * (2 * r + 1) + (x + r)) (hd : x * x + y * y ≤ r * r) (I : SHI r pA n nx ac al sd lf sq) : shF r (x * x + y * y) ≤ nx (x * x + y * y) ∧ nx (x * x + y * y) < shF r (x * x + y * y + 1) ∧ shF r (x * x + y * y + 1) ≤ shF r (r * r + 1) := by
  have a := ix_b (i := x + r) (j := y + r) (W := 2 * r + 1) (D := 2 * r + 1) (by omega) (by omega) (by omega) (by omega)
  have b0 := sq_0 x
  have b1 := sq_0 y
  have c1 := I.1 (x * x + y * y) (by omega) hd
  have c2 := shF_s h h2 (x * x + y * y)
  have c3 := shC_b r (x * x + y * y) (n := n) (by omega)
  have c4 : shC r (x * x + y * y) n < shC r (x * x + y * y) ((2 * r + 1) * (2 * r + 1)) := cz_lt (by omega) (by omega) (decide_eq_true (by rw [hn, shd_ij hx.1 hx.2]))
  have c5 := shF_m h h2 (a := x * x + y * y + 1) (b := r * r + 1) (by omega)
  omega
theorem shi_in {r n x y pA : Int} {nx ac al sd lf sq : Int → Int} (h : 1 ≤ r) (h2 : r ≤ 10) (hx : -r ≤ x ∧ x ≤ r) (hy : -r ≤ y ∧ y ≤ r) (hn : n = (y + r) * (2 * r + 1) + (x + r)) (hd : x * x + y * y ≤ r * r) (I : SHI r pA n nx ac al sd lf sq) :
    SHI r pA (n + 1) (zu nx (x * x + y * y) (nx (x * x + y * y) + 1)) (zu ac (nx (x * x + y * y)) x) (zu al (nx (x * x + y * y)) y) (zu sd (nx (x * x + y * y)) (y * pA + x)) (zu lf (nx (x * x + y * y)) (rt (r * r - (x * x + y * y)))) (zu sq n (rt (r * r - (x * x + y * y)))) := by
  have K := shi_k h h2 hx hy hn hd I
  obtain ⟨hA, ⟨iv, hB, hC⟩, hE⟩ := I
  have hs := shd_ij (r := r) (x := x) (y := y) hx.1 hx.2
  rw [← hn] at hs
  have a := ix_b (i := x + r) (j := y + r) (W := 2 * r + 1) (D := 2 * r + 1) (by omega) (by omega) (by omega) (by omega)
  have b0 := sq_0 x
  have b1 := sq_0 y
  generalize hdd : x * x + y * y = d at *
  have hdis : ∀ d' k', 0 ≤ d' → d' ≤ r * r → d' ≠ d → shF r d' ≤ k' → k' < nx d' → k' ≠ nx d := by
    intro d' k' q0 q1 q2 q3 q4
    have e1 := shi_nx h h2 (n := n) (by omega) (by omega) q0 q1 hA
    by_cases e : d' < d
    · have := shF_m h h2 (a := d' + 1) (b := d) (by omega); omega
    · have := shF_m h h2 (a := d + 1) (b := d') (by omega); omega
  refine ⟨fun d' q0 q1 => ?_, ⟨zu iv n (nx d), fun d' k' q0 q1 q2 q3 => ?_, fun x' y' g1 g2 g3 g4 g5 g6 => ?_⟩, fun x' y' g1 g2 g3 g4 g5 => ?_⟩
  · rw [shC_s r d' (by omega), hs]
    by_cases e : d' = d
    · rw [e, zu_s, hA d (by omega) hd, bi_t (decide_eq_true rfl)]; omega
    · rw [zu_n _ _ e, hA d' q0 q1, bi_f (decide_eq_false (by omega))]; omega
  · by_cases e : k' = nx d
    · have e2 : d' = d := by
        by_cases e3 : d' = d
        · exact e3
        · rw [zu_n _ _ e3] at q3; exact absurd e (hdis d' k' q0 q1 e3 q2 q3)
      subst e2
      rw [e, zu_s, zu_s, zu_s, zu_s, hdd]
      refine ⟨⟨rfl, hx, hy⟩, by omega, ?_, rfl, rfl⟩
      rw [← hn, zu_s]
    · have e1 : k' < nx d' := by
        by_cases e3 : d' = d
        · rw [e3, zu_s] at q3; rw [e3]; omega
        · rw [zu_n _ _ e3] at q3; exact q3
      rw [zu_n _ _ e, zu_n _ _ e, zu_n _ _ e, zu_n _ _ e]
      have o := hB d' k' q0 q1 q2 e1
      refine ⟨o.1, by omega, ?_, o.2.2.2⟩
      rw [zu_n _ _ (by omega)]; exact o.2.2.1
  · by_cases e : (y' + r) * (2 * r + 1) + (x' + r) = n
    · have e2 := ix_inj (W := 2 * r + 1) (i := x' + r) (j := y' + r) (i' := x + r) (j' := y + r) (by omega) (by omega) (by omega) (by omega) (by omega)
      have ex : x' = x := by omega
      have ey : y' = y := by omega
      subst ex; subst ey
      rw [hdd, e, zu_s, zu_s, zu_s, zu_s]
      exact ⟨by omega, rfl, rfl⟩
    · have o := hC x' y' g1 g2 g3 g4 (by omega) g6
      rw [zu_n _ _ e]
      have c0 := sq_0 x'
      have c1 := sq_0 y'
      generalize hee : x' * x' + y' * y' = d' at *
      generalize iv ((y' + r) * (2 * r + 1) + (x' + r)) = k' at *
      have ne : k' ≠ nx d := by
        by_cases e3 : d' = d
        · rw [e3] at o; omega
        · exact hdis d' k' (by omega) g6 e3 o.1.1 o.1.2
      rw [zu_n _ _ ne, zu_n _ _ ne]
      refine ⟨⟨o.1.1, ?_⟩, o.2⟩
      by_cases e3 : d' = d
      · rw [e3, zu_s]; rw [e3] at o; omega
      · rw [zu_n _ _ e3]; exact o.1.2
  · by_cases e : (y' + r) * (2 * r + 1) + (x' + r) = n
    · have e2 := ix_inj (W := 2 * r + 1) (i := x' + r) (j := y' + r) (i' := x + r) (j' := y + r) (by omega) (by omega) (by omega) (by omega) (by omega)
      have ex : x' = x := by omega
      have ey : y' = y := by omega
      subst ex; subst ey
      rw [e, zu_s, lift, hdd, if_pos hd]
    · rw [zu_n _ _ e]; exact hE x' y' g1 g2 g3 g4 (by omega)
theorem shi_out {r n x y pA : Int} {nx ac al sd lf sq : Int → Int} (hx : -r ≤ x ∧ x ≤ r) (hy : -r ≤ y ∧ y ≤ r) (hn : n = (y + r) * (2 * r + 1) + (x + r)) (hd : r * r < x * x + y * y) (I : SHI r pA n nx ac al sd lf sq) :
    SHI r pA (n + 1) nx ac al sd lf (zu sq n (-1073741824)) := by
  obtain ⟨hA, ⟨iv, hB, hC⟩, hE⟩ := I
  have hs := shd_ij (r := r) (x := x) (y := y) hx.1 hx.2
  rw [← hn] at hs
  have a := ix_b (i := x + r) (j := y + r) (W := 2 * r + 1) (D := 2 * r + 1) (by omega) (by omega) (by omega) (by omega)
  have hee : ∀ x' y', -r ≤ x' → x' ≤ r → -r ≤ y' → y' ≤ r → (y' + r) * (2 * r + 1) + (x' + r) = n → x' = x ∧ y' = y := by
    intro x' y' g1 g2 g3 g4 e
    have e2 := ix_inj (W := 2 * r + 1) (i := x' + r) (j := y' + r) (i' := x + r) (j' := y + r) (by omega) (by omega) (by omega) (by omega) (by omega)
    omega
  refine ⟨fun d' q0 q1 => ?_, ⟨iv, fun d' k' q0 q1 q2 q3 => ?_, fun x' y' g1 g2 g3 g4 g5 g6 => ?_⟩, fun x' y' g1 g2 g3 g4 g5 => ?_⟩
  · rw [shC_s r d' (by omega), hs, bi_f (decide_eq_false (by omega)), hA d' q0 q1]; omega
  · have o := hB d' k' q0 q1 q2 q3
    exact ⟨o.1, by omega, o.2.2⟩
  · by_cases e : (y' + r) * (2 * r + 1) + (x' + r) = n
    · have e2 := hee x' y' g1 g2 g3 g4 e
      rw [e2.1, e2.2] at g6
      omega
    · exact hC x' y' g1 g2 g3 g4 (by omega) g6
  · by_cases e : (y' + r) * (2 * r + 1) + (x' + r) = n
    · have e2 := hee x' y' g1 g2 g3 g4 e
      rw [e, zu_s, e2.1, e2.2, lift_far (by omega)]
    · rw [zu_n _ _ e]; exact hE x' y' g1 g2 g3 g4 (by omega)
theorem shi_0 {r pA : Int} {nx ac al sd lf sq : Int → Int} (hnx : ∀ d, 0 ≤ d → d ≤ r * r + 1 → nx d = shF r d) : SHI r pA 0 nx ac al sd lf sq := by
  have hA : ∀ d, 0 ≤ d → d ≤ r * r → nx d = shF r d + shC r d 0 := fun d d0 d1 => by rw [hnx d d0 (by omega), shC, cz_0 _ (Int.le_refl 0)]; omega
  refine ⟨hA, ⟨fun _ => 0, fun d k d0 d1 k0 k1 => ?_, fun x y g1 g2 g3 g4 g5 g6 => ?_⟩, fun x y g1 g2 g3 g4 g5 => ?_⟩
  · rw [hnx d d0 (by omega)] at k1; omega
  · have := (ix_b (i := x + r) (j := y + r) (W := 2 * r + 1) (D := 2 * r + 1) (by omega) (by omega) (by omega) (by omega)).1
    omega
  · have := (ix_b (i := x + r) (j := y + r) (W := 2 * r + 1) (D := 2 * r + 1) (by omega) (by omega) (by omega) (by omega)).1
    omega
theorem shF_find {r : Int} (k : Int) (hk : 0 ≤ k) : ∀ D, 0 ≤ D → k < shF r D → ∃ d, 0 ≤ d ∧ d < D ∧ shF r d ≤ k ∧ k < shF r (d + 1) := by
  refine zi_up ?_ ?_
  · intro h; rw [shF_0] at h; omega
  · intro D hD ih h
    by_cases e : k < shF r D
    · obtain ⟨d, h1, h2, h3⟩ := ih e
      exact ⟨d, h1, by omega, h3⟩
    · exact ⟨D, hD, by omega, by omega, h⟩
/-- the shadow's parts of GE -/
def SHG (r pA sz : Int) (ac al sd lf sq : Int → Int) : Prop :=
  (1 ≤ sz ∧ sz ≤ 441) ∧
  (∀ k, 0 ≤ k → k < sz → ac k * ac k + al k * al k ≤ r * r ∧ sd k = al k * pA + ac k ∧ lf k = lift r (ac k) (al k)) ∧
  (∀ dx dy, dx * dx + dy * dy ≤ r * r → ∃ k, 0 ≤ k ∧ k < sz ∧ ac k = dx ∧ al k = dy) ∧
  (∀ k k', 0 ≤ k → k < sz → 0 ≤ k' → k' < sz → ac k = ac k' → al k = al k' → k = k') ∧
  (∀ k k', 0 ≤ k → k ≤ k' → k' < sz → lf k' ≤ lf k) ∧
  (∀ dx dy, -r ≤ dx → dx ≤ r → -r ≤ dy → dy ≤ r → sq ((dy + r) * (2 * r + 1) + (dx + r)) = lift r dx dy)
theorem shi_fin {r pA : Int} {nx ac al sd lf sq : Int → Int} (h : 1 ≤ r) (h2 : r ≤ 10) (I : SHI r pA ((2 * r + 1) * (2 * r + 1)) nx ac al sd lf sq) : SHG r pA (shF r (r * r + 1)) ac al sd lf sq := by
  obtain ⟨hA, ⟨iv, hB, hC⟩, hE⟩ := I
  have hrr := rr_b h h2
  have hN := shN_0 h h2
  have hnx : ∀ d, 0 ≤ d → d ≤ r * r → nx d = shF r (d + 1) := fun d d0 d1 => by rw [hA d d0 d1, shF_s h h2]
  have fnd : ∀ k, 0 ≤ k → k < shF r (r * r + 1) → ∃ d, (0 ≤ d ∧ d ≤ r * r ∧ shF r d ≤ k ∧ k < shF r (d + 1)) ∧ ac k * ac k + al k * al k = d ∧ ((-r ≤ ac k ∧ ac k ≤ r) ∧ (-r ≤ al k ∧ al k ≤ r)) ∧ iv ((al k + r) * (2 * r + 1) + (ac k + r)) = k ∧ sd k = al k * pA + ac k ∧ lf k = rt (r * r - d) := by
    intro k k0 k1
    obtain ⟨d, d0, d1, d2, d3⟩ := shF_find k k0 (r * r + 1) (by omega) k1
    have o := hB d k d0 (by omega) d2 (by rw [hnx d d0 (by omega)]; exact d3)
    exact ⟨d, ⟨d0, by omega, d2, d3⟩, o.1.1, o.1.2, o.2.2.1, o.2.2.2⟩
  have hall : ∀ dx dy, dx * dx + dy * dy ≤ r * r → ∃ k, 0 ≤ k ∧ k < shF r (r * r + 1) ∧ ac k = dx ∧ al k = dy := by
    intro dx dy hd
    have b0 := sq_0 dx
    have b1 := sq_0 dy
    have i0 := sq_in (r := r) (by omega) hd
    have i1 : -r ≤ dx ∧ dx ≤ r := by omega
    have i2 : -r ≤ dy ∧ dy ≤ r := by omega
    have a := ix_b (i := dx + r) (j := dy + r) (W := 2 * r + 1) (D := 2 * r + 1) (by omega) (by omega) (by omega) (by omega)
    have o := hC dx dy i1.1 i1.2 i2.1 i2.2 a.2 hd
    rw [hnx _ (by omega) hd] at o
    have f1 := (shF_b h h2 (dx * dx + dy * dy)).1
    have f2 := shF_m h h2 (a := dx * dx + dy * dy + 1) (b := r * r + 1) (by omega)
    exact ⟨_, by omega, by omega, o.2.1, o.2.2⟩
  refine ⟨⟨?_, (shF_b h h2 _).2⟩, fun k k0 k1 => ?_, hall, fun k k' k0 k1 q0 q1 e1 e2 => ?_, fun k k' k0 kk k1 => ?_, fun dx dy g1 g2 g3 g4 => ?_⟩
  · obtain ⟨k, a, b, -⟩ := hall 0 0 (by omega)
    omega
  · obtain ⟨d, hd, o1, -, -, o2, o3⟩ := fnd k k0 k1
    exact ⟨by omega, o2, by rw [o3, lift, o1, if_pos (by omega)]⟩
  · obtain ⟨d, hd, o1, -, o2, -⟩ := fnd k k0 k1
    obtain ⟨d', hd', o1', -, o2', -⟩ := fnd k' q0 q1
    rw [e1, e2] at o2
    omega
  · obtain ⟨d, hd, o1, -, o2, -, o3⟩ := fnd k k0 (by omega)
    obtain ⟨d', hd', o1', -, o2', -, o3'⟩ := fnd k' (by omega) k1
    rw [o3, o3']
    have : d ≤ d' := by
      by_cases e : d' < d
      · have := shF_m h h2 (a := d' + 1) (b := d) (by omega); omega
      · omega
    exact rt_mono (by omega) (by omega) (by omega)
  · exact hE dx dy g1 g2 g3 g4 (ix_b (i := dx + r) (j := dy + r) (W := 2 * r + 1) (D := 2 * r + 1) (by omega) (by omega) (by omega) (by omega)).2
