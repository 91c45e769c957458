/-! the reference: levels, places, counting: pure -/
theorem blt_i {a b : Nat} (h : Nat.blt a b = true) : a < b := by have q := h; simp [Nat.blt] at q; omega
theorem blt_n {a b : Nat} (h : ¬ Nat.blt a b = true) : b ≤ a := by have q := h; simp [Nat.blt] at q; omega
/-- how the reference compares a + sqrt b with c + sqrt d, a at least c -/
theorem cmp_ok {off b d : Int} (o0 : 0 ≤ off) (b0 : 0 ≤ b) (b1 : b ≤ 100) (d0 : 0 ≤ d) (d1 : d ≤ 100) :
    (d - off * off - b < 0 → rt d < off * 1048576 + rt b) ∧ (0 ≤ d - off * off - b → off ≤ 10 ∧
      ((d - off * off - b) * (d - off * off - b) < 4 * off * off * b → rt d < off * 1048576 + rt b) ∧
      (4 * off * off * b < (d - off * off - b) * (d - off * off - b) → off * 1048576 + rt b < rt d) ∧
      (4 * off * off * b = (d - off * off - b) * (d - off * off - b) → off * 1048576 + rt b = rt d)) := by
  by_cases ho : off ≤ 10
  · have h := cmpC_d off.toNat (by omega) b.toNat (by omega) d.toNat (by omega)
    rw [rtF_eq b0 b1, rtF_eq d0 d1]
    obtain ⟨o, rfl⟩ := Int.eq_ofNat_of_zero_le o0
    obtain ⟨b, rfl⟩ := Int.eq_ofNat_of_zero_le b0
    obtain ⟨d, rfl⟩ := Int.eq_ofNat_of_zero_le d0
    simp only [Int.toNat_natCast] at *
    simp only [cmpC] at h
    generalize rtF b = B at *
    generalize rtF d = E at *
    by_cases h1 : Nat.blt d (o * o + b) = true
    · rw [if_pos h1] at h
      have h2 := blt_i h
      have h3 := blt_i h1
      have h4 : ((o * o + b : Nat) : Int) = (o : Int) * o + b := by simp
      constructor
      · intro _
        omega
      · intro h5
        omega
    · rw [if_neg h1] at h
      have h3 := blt_n h1
      have h4 : ((o * o + b : Nat) : Int) = (o : Int) * o + b := by simp
      have h5 : ((d - (o * o + b) : Nat) : Int) = (d : Int) - (o : Int) * o - b := by omega
      have h6 : (((d - (o * o + b)) * (d - (o * o + b)) : Nat) : Int) = ((d : Int) - (o : Int) * o - b) * ((d : Int) - (o : Int) * o - b) := by rw [← h5]; simp
      have h7 : ((4 * o * o * b : Nat) : Int) = 4 * (o : Int) * o * b := by simp
      refine ⟨fun _ => by omega, fun _ => ⟨ho, ?_⟩⟩
      rw [← h6, ← h7]
      generalize (d - (o * o + b)) * (d - (o * o + b)) = q at *
      generalize 4 * o * o * b = t at *
      clear h6 h7
      by_cases g1 : Nat.blt q t = true
      · rw [if_pos g1] at h
        have := blt_i h
        have := blt_i g1
        omega
      · rw [if_neg g1] at h
        have := blt_n g1
        by_cases g2 : Nat.blt t q = true
        · rw [if_pos g2] at h
          have := blt_i h
          have := blt_i g2
          omega
        · rw [if_neg g2] at h
          have := blt_n g2
          have := Nat.eq_of_beq_eq_true h
          omega
  · have e1 := sq_le (a := 11) (b := off) (by omega)
    have e2 := rt_b b0 b1
    have e3 := rt_b d0 d1
    constructor
    · intro _; omega
    · intro h; omega
/-- the sign of a comparison -/
def sgn3 (A B z : Int) : Prop := (z = -1 ∧ A < B) ∨ (z = 0 ∧ A = B) ∨ (z = 1 ∧ B < A)
theorem rt_root {b k : Int} (b0 : 0 ≤ b) (b1 : b ≤ 100) (k0 : 0 ≤ k) (h1 : k * k ≤ b) (h2 : b < (k + 1) * (k + 1)) : rt b / 1048576 = k ∧ (rt b % 1048576 = 0 ↔ k * k = b) := by
  have hk : k ≤ 10 := by
    by_cases e : k ≤ 10
    · exact e
    · have := sq_le (a := 11) (b := k) (by omega); omega
  have e1 := rt_sq k0 hk
  have e2 := rt_mono (a := k * k) (b := b) (sq_0 k) h1 b1
  have e3 : k * 1048576 ≤ rt b ∧ rt b < (k + 1) * 1048576 := by
    refine ⟨by omega, ?_⟩
    by_cases e : k ≤ 9
    · have f1 := rt_sq (r := k + 1) (by omega) (by omega)
      have f0 := sq_le (a := k + 1) (b := 10) (by omega)
      have f2 := rt_slt (a := b) (b := (k + 1) * (k + 1)) b0 h2 (by omega)
      omega
    · have := (rt_b b0 b1).2
      omega
  refine ⟨by omega, ?_⟩
  constructor
  · intro h
    by_cases e : k * k = b
    · exact e
    · have := rt_slt (a := k * k) (b := b) (sq_0 k) (by omega) b1
      omega
  · intro h
    rw [← h, e1]
    omega
def dsM (x y k : Int) : Int := (k % 12 - x) * (k % 12 - x) + (k / 12 - y) * (k / 12 - y)
def ptM (W D_ k : Int) : Bool := decide (k % 12 < W ∧ k / 12 < D_)
def nrM (W D_ r x y k : Int) : Bool := ptM W D_ k && decide (dsM x y k ≤ r * r)
def lvM (r x y : Int) (t : Int → Int) (k : Int) : Int := t k * 1048576 + rt (r * r - dsM x y k)
def tcM (W D_ r x y : Int) (t : Int → Int) (L k : Int) : Bool := nrM W D_ r x y k && decide (lvM r x y t k = L)
theorem ptM_t {W D_ k : Int} : ptM W D_ k = true ↔ k % 12 < W ∧ k / 12 < D_ := by simp [ptM]
theorem nrM_t {W D_ r x y k : Int} : nrM W D_ r x y k = true ↔ (k % 12 < W ∧ k / 12 < D_) ∧ dsM x y k ≤ r * r := by simp [nrM, ptM]
theorem nrM_f {W D_ r x y k : Int} : nrM W D_ r x y k = false ↔ ¬ ((k % 12 < W ∧ k / 12 < D_) ∧ dsM x y k ≤ r * r) := by
  rw [← nrM_t]; simp
theorem tcM_t {W D_ r x y L k : Int} {t : Int → Int} : tcM W D_ r x y t L k = true ↔ nrM W D_ r x y k = true ∧ lvM r x y t k = L := by simp [tcM]
theorem dsM_0 (x y k : Int) : 0 ≤ dsM x y k := by
  have := sq_0 (k % 12 - x)
  have := sq_0 (k / 12 - y)
  simp only [dsM]; omega
/-- L is the level of the ball's centre at a place, the first z points looked at -/
def mR (W D_ r x y : Int) (t : Int → Int) (z L : Int) : Prop :=
  r * 1048576 ≤ L ∧ (L = r * 1048576 ∨ ∃ k, 0 ≤ k ∧ k < 144 ∧ nrM W D_ r x y k = true ∧ lvM r x y t k = L) ∧ ∀ k, 0 ≤ k → k < z → nrM W D_ r x y k = true → lvM r x y t k ≤ L
def LV (wh sM : Int → Int) (P : Int) : Int := wh P * 1048576 + rt (sM P)
/-- the model's arrays hold the rest at a place -/
def RST (W D_ r : Int) (t : Int → Int) (wh sM : Int → Int) (P : Int) : Prop := (0 ≤ wh P ∧ wh P ≤ 250) ∧ (0 ≤ sM P ∧ sM P ≤ 100) ∧ mR W D_ r (plx W r P) (ply W r P) t 144 (LV wh sM P)
theorem mR_c {W D_ r x y z L : Int} {t t' : Int → Int} (hz : z ≤ 144) (h : ∀ k, 0 ≤ k → k < 144 → t' k = t k) (I : mR W D_ r x y t z L) : mR W D_ r x y t' z L := by
  obtain ⟨h1, h2, h3⟩ := I
  refine ⟨h1, ?_, fun k k0 k1 k2 => ?_⟩
  · rcases h2 with q | ⟨k, k0, k1, k2, k3⟩
    · exact Or.inl q
    · exact Or.inr ⟨k, k0, k1, k2, by rw [lvM, h k k0 k1]; exact k3⟩
  · rw [lvM, h k k0 (by omega)]; exact h3 k k0 k1 k2
theorem RST_c {W D_ r P : Int} {t t' wh sM : Int → Int} (h : ∀ k, 0 ≤ k → k < 144 → t' k = t k) (I : RST W D_ r t wh sM P) : RST W D_ r t' wh sM P := ⟨I.1, I.2.1, mR_c (Int.le_refl 144) h I.2.2⟩
theorem tcM_c {W D_ r x y L k : Int} {t t' : Int → Int} (h : t' k = t k) : tcM W D_ r x y t' L k = tcM W D_ r x y t L k := by rw [tcM, tcM, lvM, lvM, h]
theorem mR_u {W D_ r x y L L' : Int} {t : Int → Int} (h : mR W D_ r x y t 144 L) (h' : mR W D_ r x y t 144 L') : L = L' := by
  obtain ⟨a1, a2, a3⟩ := h
  obtain ⟨b1, b2, b3⟩ := h'
  have u1 : L ≤ L' := by
    rcases a2 with q | ⟨k, k0, k1, k2, k3⟩
    · omega
    · have := b3 k k0 k1 k2; omega
  have u2 : L' ≤ L := by
    rcases b2 with q | ⟨k, k0, k1, k2, k3⟩
    · omega
    · have := a3 k k0 k1 k2; omega
  omega
/-- counting over 144 squares and over the points -/
theorem cz_12 {W D_ : Int} {Q P : Int → Bool} (hW1 : 1 ≤ W) (hW2 : W ≤ 12) (hD1 : 1 ≤ D_) (hD2 : D_ ≤ 12) (hQ : ∀ k, 0 ≤ k → k < 144 → Q k = true → k % 12 < W ∧ k / 12 < D_) (hP : ∀ i j, 0 ≤ i → i < W → 0 ≤ j → j < D_ → P (j * W + i) = Q (12 * j + i)) :
    (∀ i j, 0 ≤ i → i ≤ W → 0 ≤ j → j < D_ → cz Q (12 * j + i) = cz P (j * W + i)) ∧ cz Q 144 = cz P (W * D_) := by
  have qf : ∀ k, 0 ≤ k → k < 144 → ¬ (k % 12 < W ∧ k / 12 < D_) → Q k = false := fun k k0 k1 h => by
    by_cases e : Q k = true
    · exact absurd (hQ k k0 k1 e) h
    · simpa using e
  have inr : ∀ j, 0 ≤ j → j < D_ → cz Q (12 * j) = cz P (j * W) → ∀ i, 0 ≤ i → i ≤ W → cz Q (12 * j + i) = cz P (j * W + i) := by
    intro j j0 j1 hj
    refine zi_up (M := fun i => i ≤ W → cz Q (12 * j + i) = cz P (j * W + i)) ?_ ?_
    · intro _; rw [Int.add_zero, Int.add_zero]; exact hj
    · intro i i0 ih i1
      have b := ix_b (D := D_) i0 (show i < W by omega) j0 j1
      rw [← Int.add_assoc, ← Int.add_assoc, cz_s _ (by omega), cz_s _ b.1, ih (by omega), hP i j i0 (by omega) j0 j1]
  have rows : ∀ j, 0 ≤ j → j ≤ D_ → cz Q (12 * j) = cz P (j * W) := by
    refine zi_up (M := fun j => j ≤ D_ → cz Q (12 * j) = cz P (j * W)) ?_ ?_
    · intro _; rw [Int.zero_mul, cz_0 _ (by omega), cz_0 _ (by omega)]
    · intro j j0 ih j1
      have h1 := inr j j0 (by omega) (ih (by omega)) W (by omega) (Int.le_refl W)
      have h2 : cz Q (12 * (j + 1)) = cz Q (12 * j + W) := cz_skip (by omega) (by omega) (fun k k0 k1 => qf k (by omega) (by omega) (by omega))
      rw [h2, h1, Int.add_mul, Int.one_mul]
  refine ⟨fun i j i0 i1 j0 j1 => inr j j0 j1 (rows j j0 (by omega)) i i0 i1, ?_⟩
  have h3 : cz Q 144 = cz Q (12 * D_) := cz_skip (by omega) (by omega) (fun k k0 k1 => qf k (by omega) (by omega) (by omega))
  rw [h3, rows D_ (by omega) (Int.le_refl _), Int.mul_comm]
/-- the class's tips and the model's -/
def tpR (W D_ : Int) (ts t : Int → Int) : Prop := ∀ i j, 0 ≤ i → i < W → 0 ≤ j → j < D_ → ts (j * W + i) = t (12 * j + i) * 1048576 ∧ 0 ≤ t (12 * j + i) ∧ t (12 * j + i) ≤ 250
theorem m12 {i j : Int} (h1 : 0 ≤ i) (h2 : i < 12) : (12 * j + i) % 12 = i ∧ (12 * j + i) / 12 = j := by omega
theorem rch_lv {W D_ r x y i j : Int} {ts t : Int → Int} (hr1 : 1 ≤ r) (hr2 : r ≤ 10) (hW2 : W ≤ 12) (hT : tpR W D_ ts t) (i0 : 0 ≤ i) (i1 : i < W) (j0 : 0 ≤ j) (j1 : j < D_) :
    (nrM W D_ r x y (12 * j + i) = true ∧ rch W r x y ts (j * W + i) = lvM r x y t (12 * j + i)) ∨ (nrM W D_ r x y (12 * j + i) = false ∧ rch W r x y ts (j * W + i) < 0) := by
  have a := hT i j i0 i1 j0 j1
  have b := m12 (j := j) i0 (show i < 12 by omega)
  have c := rr_b hr1 hr2
  rw [rch_ij i0 i1]
  have e : dsM x y (12 * j + i) = (i - x) * (i - x) + (j - y) * (j - y) := by rw [dsM, b.1, b.2]
  by_cases h : (i - x) * (i - x) + (j - y) * (j - y) ≤ r * r
  · left
    refine ⟨nrM_t.mpr ⟨by omega, by omega⟩, ?_⟩
    rw [lift, if_pos h, lvM, e, a.1]
  · right
    refine ⟨nrM_f.mpr (by omega), ?_⟩
    rw [lift, if_neg h, a.1]
    omega
theorem mR_re {W D_ r x y R T O L : Int} {ts t : Int → Int} (hr1 : 1 ≤ r) (hr2 : r ≤ 10) (hW1 : 1 ≤ W) (hW2 : W ≤ 12) (hD2 : D_ ≤ 12) (hT : tpR W D_ ts t) (h : PLv W (W * D_) r x y ts R T O) (hm : mR W D_ r x y t 144 L) : R = L := by
  obtain ⟨a1, a2, a3, -⟩ := h
  obtain ⟨b1, b2, b3⟩ := hm
  have u1 : R ≤ L := by
    rcases a2 with q | ⟨p, p0, p1, p2⟩
    · omega
    · have o := ix_of (D := D_) (by omega) p0 p1
      rw [← o.2.2.2.2] at p2
      rcases rch_lv (x := x) (y := y) hr1 hr2 hW2 hT o.1 o.2.1 o.2.2.1 o.2.2.2.1 with ⟨q1, q2⟩ | ⟨q1, q2⟩
      · have := b3 _ (by omega) (by omega) q1; omega
      · omega
  have u2 : L ≤ R := by
    rcases b2 with q | ⟨k, k0, k1, k2, k3⟩
    · omega
    · have o := (nrM_t.mp k2).1
      have e : 12 * (k / 12) + k % 12 = k := by omega
      rcases rch_lv (x := x) (y := y) (i := k % 12) (j := k / 12) hr1 hr2 hW2 hT (by omega) o.1 (by omega) o.2 with ⟨q1, q2⟩ | ⟨q1, q2⟩
      · rw [e] at q2
        have b := ix_b (i := k % 12) (j := k / 12) (W := W) (D := D_) (by omega) (by omega) (by omega) (by omega)
        have := a3 _ b.1 b.2
        omega
      · rw [e, k2] at q1; cases q1
  omega
theorem tch_tc {W D_ r x y L i j : Int} {ts t : Int → Int} (hr1 : 1 ≤ r) (hr2 : r ≤ 10) (hW2 : W ≤ 12) (hT : tpR W D_ ts t) (hL : r * 1048576 ≤ L) (i0 : 0 ≤ i) (i1 : i < W) (j0 : 0 ≤ j) (j1 : j < D_) : tch W r x y ts L (j * W + i) = tcM W D_ r x y t L (12 * j + i) := by
  rw [Bool.eq_iff_iff, tch_t, tcM_t]
  rcases rch_lv (x := x) (y := y) hr1 hr2 hW2 hT i0 i1 j0 j1 with ⟨q1, q2⟩ | ⟨q1, q2⟩
  · rw [q2]; exact ⟨fun h => ⟨q1, h⟩, fun h => h.2⟩
  · rw [q1]; constructor
    · intro h; omega
    · rintro ⟨h, -⟩; cases h
theorem zb_b {z : Int} {A B : Prop} (h : (z = 1 ∧ A) ∨ (z = 0 ∧ B)) : 0 ≤ z ∧ z ≤ 1 := by rcases h with ⟨q, -⟩ | ⟨q, -⟩ <;> omega
theorem zb_0 {z : Int} {A B : Prop} (h : (z = 1 ∧ A) ∨ (z = 0 ∧ B)) (c : z = 0) : B := by
  rcases h with ⟨q, -⟩ | ⟨q, b⟩
  · omega
  · exact b
theorem zb_1 {z : Int} {A B : Prop} (h : (z = 1 ∧ A) ∨ (z = 0 ∧ B)) (c : ¬ z = 0) : A := by
  rcases h with ⟨q, a⟩ | ⟨q, -⟩
  · exact a
  · omega
theorem zb_bi {z : Int} {b : Bool} (h : (z = 1 ∧ b = true) ∨ (z = 0 ∧ b = false)) : z = bi b := by
  rcases h with ⟨q, e⟩ | ⟨q, e⟩ <;> rw [q, e] <;> rfl
