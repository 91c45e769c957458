/-! Counting and listing by integers; indices of a grid; roots and lifts. -/
def bi (b : Bool) : Int := if b = true then 1 else 0
theorem bi_b (b : Bool) : 0 ≤ bi b ∧ bi b ≤ 1 := by cases b <;> decide
theorem bi_t {b : Bool} (h : b = true) : bi b = 1 := by rw [h]; rfl
theorem bi_f {b : Bool} (h : b = false) : bi b = 0 := by rw [h]; rfl
def cnt (P : Int → Bool) : Nat → Int
  | 0 => 0
  | k + 1 => cnt P k + bi (P (k : Int))
/-- how many of 0 .. z - 1 are such -/
def cz (P : Int → Bool) (z : Int) : Int := cnt P z.toNat
theorem cz_0 (P : Int → Bool) {z : Int} (h : z ≤ 0) : cz P z = 0 := by
  have e : z.toNat = 0 := by omega
  simp [cz, e, cnt]
theorem cz_s (P : Int → Bool) {z : Int} (h : 0 ≤ z) : cz P (z + 1) = cz P z + bi (P z) := by
  obtain ⟨k, rfl⟩ := Int.eq_ofNat_of_zero_le h
  have e1 : ((k : Int) + 1).toNat = k + 1 := by omega
  have e2 : ((k : Int)).toNat = k := by omega
  simp only [cz, e1, e2, cnt]
/-- by steps from 0 -/
theorem zi_up {M : Int → Prop} (h0 : M 0) (hs : ∀ z, 0 ≤ z → M z → M (z + 1)) : ∀ z, 0 ≤ z → M z := by
  intro z hz
  obtain ⟨k, rfl⟩ := Int.eq_ofNat_of_zero_le hz
  induction k with
  | zero => exact h0
  | succ k ih =>
    have e : (((k + 1 : Nat)) : Int) = (k : Int) + 1 := by omega
    rw [e]
    exact hs k (by omega) (ih (by omega))
theorem cz_b (P : Int → Bool) {z : Int} (h : 0 ≤ z) : 0 ≤ cz P z ∧ cz P z ≤ z := by
  refine zi_up (M := fun z => 0 ≤ cz P z ∧ cz P z ≤ z) ?_ ?_ z h
  · show 0 ≤ cz P 0 ∧ cz P 0 ≤ 0
    rw [cz_0 P (Int.le_refl 0)]; omega
  · intro z hz ih
    show 0 ≤ cz P (z + 1) ∧ cz P (z + 1) ≤ z + 1
    rw [cz_s P hz]
    have := bi_b (P z)
    omega
theorem cz_skip {P : Int → Bool} {a b : Int} (h0 : 0 ≤ a) (hab : a ≤ b) (h : ∀ p, a ≤ p → p < b → P p = false) : cz P b = cz P a := by
  have key : ∀ d, 0 ≤ d → a + d ≤ b → cz P (a + d) = cz P a := by
    refine zi_up (M := fun d => a + d ≤ b → cz P (a + d) = cz P a) ?_ ?_
    · intro _; rw [Int.add_zero]
    · intro d hd ih hle
      have e : a + (d + 1) = (a + d) + 1 := by omega
      rw [e, cz_s P (by omega), ih (by omega), bi_f (h (a + d) (by omega) (by omega))]
      omega
  have e2 := key (b - a) (by omega) (by omega)
  have e3 : a + (b - a) = b := by omega
  rw [e3] at e2
  exact e2
theorem cz_c {P Q : Int → Bool} {z : Int} (h : ∀ p, 0 ≤ p → p < z → P p = Q p) : cz P z = cz Q z := by
  by_cases hz : 0 ≤ z
  · have key : ∀ d, 0 ≤ d → d ≤ z → cz P d = cz Q d := by
      refine zi_up (M := fun d => d ≤ z → cz P d = cz Q d) ?_ ?_
      · intro _; rw [cz_0 P (Int.le_refl 0), cz_0 Q (Int.le_refl 0)]
      · intro d hd ih hle
        rw [cz_s P hd, cz_s Q hd, ih (by omega), h d hd (by omega)]
    exact key z hz (Int.le_refl z)
  · rw [cz_0 P (by omega), cz_0 Q (by omega)]
theorem cz_mono (P : Int → Bool) {a b : Int} (h0 : 0 ≤ a) (hab : a ≤ b) : cz P a ≤ cz P b := by
  have key : ∀ d, 0 ≤ d → cz P a ≤ cz P (a + d) := by
    refine zi_up (M := fun d => cz P a ≤ cz P (a + d)) ?_ ?_
    · show cz P a ≤ cz P (a + 0)
      rw [Int.add_zero]; exact Int.le_refl _
    · intro d hd ih
      have e : a + (d + 1) = (a + d) + 1 := by omega
      show cz P a ≤ cz P (a + (d + 1))
      rw [e, cz_s P (by omega)]
      have := bi_b (P (a + d))
      have ih : cz P a ≤ cz P (a + d) := ih
      omega
  have e2 := key (b - a) (by omega)
  have e3 : a + (b - a) = b := by omega
  rw [e3] at e2
  exact e2
theorem cz_lt {P : Int → Bool} {a b : Int} (h0 : 0 ≤ a) (hab : a < b) (h : P a = true) : cz P a < cz P b := by
  have h1 := cz_mono P (a := a + 1) (b := b) (by omega) (by omega)
  rw [cz_s P h0, bi_t h] at h1
  omega
theorem cz_inj {P : Int → Bool} {a b : Int} (ha : 0 ≤ a) (hb : 0 ≤ b) (h1 : P a = true) (h2 : P b = true) (h : cz P a = cz P b) : a = b := by
  by_cases c : a < b
  · have := cz_lt ha c h1; omega
  · by_cases d : b < a
    · have := cz_lt hb d h2; omega
    · omega
/-- one is changed -/
theorem cz_up {P Q : Int → Bool} {z k : Int} (hk0 : 0 ≤ k) (hk : k < z) (h : ∀ p, 0 ≤ p → p < z → p ≠ k → Q p = P p) : cz Q z = cz P z + bi (Q k) - bi (P k) := by
  have key : ∀ d, 0 ≤ d → d ≤ z → cz Q d = cz P d + (if k < d then bi (Q k) - bi (P k) else 0) := by
    refine zi_up (M := fun d => d ≤ z → cz Q d = cz P d + (if k < d then bi (Q k) - bi (P k) else 0)) ?_ ?_
    · intro _
      rw [cz_0 P (Int.le_refl 0), cz_0 Q (Int.le_refl 0), if_neg (by omega)]; rfl
    · intro d hd ih hle
      rw [cz_s P hd, cz_s Q hd, ih (by omega)]
      by_cases e : d = k
      · rw [if_neg (by omega), if_pos (by omega), e]; omega
      · rw [h d hd (by omega) e]
        by_cases e2 : k < d
        · rw [if_pos e2, if_pos (by omega)]; omega
        · rw [if_neg e2, if_neg (by omega)]; omega
  rw [key z (by omega) (Int.le_refl z), if_pos hk]
  omega
theorem cz_hit (P : Int → Bool) {z : Int} (hz : 0 ≤ z) : ∀ k, 0 ≤ k → k < cz P z → ∃ p, 0 ≤ p ∧ p < z ∧ P p = true ∧ cz P p = k := by
  refine zi_up (M := fun z => ∀ k, 0 ≤ k → k < cz P z → ∃ p, 0 ≤ p ∧ p < z ∧ P p = true ∧ cz P p = k) ?_ ?_ z hz
  · intro k h0 h1
    rw [cz_0 P (Int.le_refl 0)] at h1; omega
  · intro z hz ih k h0 h1
    rw [cz_s P hz] at h1
    by_cases c : k < cz P z
    · obtain ⟨p, q1, q2, q3, q4⟩ := ih k h0 c
      exact ⟨p, q1, by omega, q3, q4⟩
    · cases hp : P z with
      | false => rw [bi_f hp] at h1; omega
      | true => rw [bi_t hp] at h1; exact ⟨z, hz, by omega, hp, by omega⟩
theorem cz_ex {P : Int → Bool} {z : Int} (h : 0 < cz P z) : ∃ p, 0 ≤ p ∧ p < z ∧ P p = true := by
  by_cases hz : 0 ≤ z
  · obtain ⟨p, a, b, c, -⟩ := cz_hit P hz 0 (by omega) h
    exact ⟨p, a, b, c⟩
  · rw [cz_0 P (by omega)] at h; omega
theorem cz_none {P : Int → Bool} {z : Int} (h : cz P z = 0) : ∀ p, 0 ≤ p → p < z → P p = false := by
  intro p h0 h1
  cases hp : P p with
  | false => rfl
  | true =>
    have a := cz_lt h0 h1 hp
    have b := (cz_b P h0).1
    omega
theorem cz_nil {P : Int → Bool} {z : Int} (h : ∀ p, 0 ≤ p → p < z → P p = false) : cz P z = 0 := by
  by_cases hz : 0 ≤ z
  · rw [cz_skip (Int.le_refl 0) hz h, cz_0 P (Int.le_refl 0)]
  · exact cz_0 P (by omega)
/-- a list li, c long, of those among 0 .. z - 1 that are such, in their order -/
def lsts (P : Int → Bool) (z : Int) (li : Int → Int) (c : Int) : Prop := c = cz P z ∧ ∀ p, 0 ≤ p → p < z → P p = true → li (cz P p) = p
theorem lsts_1 {P : Int → Bool} {z c : Int} {li : Int → Int} (hz : 0 ≤ z) (hp : P z = true) (h : lsts P z li c) : lsts P (z + 1) (zu li c z) (c + 1) := by
  refine ⟨by rw [cz_s P hz, bi_t hp, h.1], fun p h0 h1 h2 => ?_⟩
  by_cases e : p = z
  · rw [e, ← h.1, zu_s]
  · have h3 := cz_lt h0 (show p < z by omega) h2
    rw [zu_n _ _ (by rw [h.1]; omega)]
    exact h.2 p h0 (by omega) h2
theorem lsts_0 {P : Int → Bool} {z c : Int} {li : Int → Int} (hz : 0 ≤ z) (hp : P z = false) (h : lsts P z li c) : lsts P (z + 1) li c := by
  refine ⟨by rw [cz_s P hz, bi_f hp, h.1]; omega, fun p h0 h1 h2 => ?_⟩
  have e : p ≠ z := fun q => by rw [q, hp] at h2; cases h2
  exact h.2 p h0 (by omega) h2
theorem lsts_n {P : Int → Bool} {z : Int} {li : Int → Int} (h : ∀ p, 0 ≤ p → p < z → P p = false) : lsts P z li 0 :=
  ⟨(cz_nil h).symm, fun p h0 h1 h2 => by rw [h p h0 h1] at h2; cases h2⟩
theorem lsts_skip {P : Int → Bool} {a b c : Int} {li : Int → Int} (h0 : 0 ≤ a) (hab : a ≤ b) (hn : ∀ p, a ≤ p → p < b → P p = false) (h : lsts P a li c) : lsts P b li c :=
  ⟨by rw [cz_skip h0 hab hn]; exact h.1, fun p q0 q1 q2 => by
    by_cases e : p < a
    · exact h.2 p q0 e q2
    · rw [hn p (by omega) q1] at q2; cases q2⟩
theorem lsts_c {P Q : Int → Bool} {z c : Int} {li : Int → Int} (hPQ : ∀ p, 0 ≤ p → p < z → P p = Q p) (h : lsts P z li c) : lsts Q z li c :=
  ⟨by rw [← cz_c hPQ]; exact h.1, fun p h0 h1 h2 => by
    rw [← cz_c (P := P) (Q := Q) (fun r a b => hPQ r a (by omega))]
    exact h.2 p h0 h1 (by rw [hPQ p h0 h1]; exact h2)⟩
theorem lsts_get {P : Int → Bool} {z c : Int} {li : Int → Int} (hz : 0 ≤ z) (h : lsts P z li c) {k : Int} (h0 : 0 ≤ k) (h1 : k < c) : 0 ≤ li k ∧ li k < z ∧ P (li k) = true ∧ cz P (li k) = k := by
  obtain ⟨p, a, b, d, e⟩ := cz_hit P hz k h0 (by rw [← h.1]; exact h1)
  have f := h.2 p a b d
  rw [e] at f
  rw [f]
  exact ⟨a, b, d, e⟩
theorem lsts_b {P : Int → Bool} {z c : Int} {li : Int → Int} (hz : 0 ≤ z) (h : lsts P z li c) : 0 ≤ c ∧ c ≤ z := by
  rw [h.1]; exact cz_b P hz
/-! the grid -/
theorem ix_b {i j W D : Int} (h1 : 0 ≤ i) (h2 : i < W) (h3 : 0 ≤ j) (h4 : j < D) : 0 ≤ j * W + i ∧ j * W + i < W * D := by
  have a : 0 ≤ j * W := Int.mul_nonneg h3 (by omega)
  have b : (j + 1) * W ≤ D * W := Int.mul_le_mul_of_nonneg_right (by omega) (by omega)
  rw [Int.add_mul, Int.one_mul, Int.mul_comm D W] at b
  omega
theorem ix_div {i j W : Int} (h1 : 0 ≤ i) (h2 : i < W) : (j * W + i) / W = j ∧ (j * W + i) % W = i := by
  have e : j * W + i = i + j * W := by omega
  rw [e]
  refine ⟨?_, ?_⟩
  · rw [Int.add_mul_ediv_right _ _ (by omega), Int.ediv_eq_zero_of_lt h1 h2]; omega
  · rw [Int.add_mul_emod_self_right, Int.emod_eq_of_lt h1 h2]
theorem ix_inj {i j i' j' W : Int} (h1 : 0 ≤ i) (h2 : i < W) (h3 : 0 ≤ i') (h4 : i' < W) (h : j * W + i = j' * W + i') : i = i' ∧ j = j' := by
  have a := ix_div (j := j) h1 h2
  have b := ix_div (j := j') h3 h4
  rw [h] at a
  exact ⟨a.2.symm.trans b.2, a.1.symm.trans b.1⟩
theorem ix_of {p W D : Int} (hW : 0 < W) (h0 : 0 ≤ p) (h1 : p < W * D) : 0 ≤ p % W ∧ p % W < W ∧ 0 ≤ p / W ∧ p / W < D ∧ p / W * W + p % W = p := by
  have a := Int.emod_nonneg p (b := W) (by omega)
  have b := Int.emod_lt_of_pos p hW
  have c := Int.mul_ediv_add_emod p W
  have d : 0 ≤ p / W := Int.ediv_nonneg h0 (by omega)
  have e : p / W < D := by
    apply Int.ediv_lt_of_lt_mul hW
    rw [Int.mul_comm D W]; exact h1
  have f : p / W * W = W * (p / W) := Int.mul_comm _ _
  refine ⟨a, b, d, e, by omega⟩
theorem sq_le {a b : Int} (h : (0 ≤ a ∧ a ≤ b) ∨ (b ≤ a ∧ a ≤ 0)) : a * a ≤ b * b := by
  rcases h with ⟨h1, h2⟩ | ⟨h1, h2⟩
  · exact Int.mul_self_le_mul_self h1 h2
  · have := Int.mul_self_le_mul_self (a := -a) (b := -b) (by omega) (by omega)
    rw [Int.neg_mul_neg, Int.neg_mul_neg] at this
    exact this
theorem sq_0 (a : Int) : 0 ≤ a * a := by
  rcases (show 0 ≤ a ∨ a ≤ 0 by omega) with h | h
  · exact Int.mul_nonneg h h
  · have := Int.mul_nonneg (a := -a) (b := -a) (by omega) (by omega)
    rw [Int.neg_mul_neg] at this
    exact this
/-! roots of 0 .. 100, in steps of 2^-20, rounded down -/
def rtL : List Int := [0, 1048576, 1482910, 1816186, 2097152, 2344687, 2568476, 2774271, 2965820, 3145728, 3315888, 3477733, 3632373, 3780694, 3923412, 4061117, 4194304, 4323389, 4448731, 4570636, 4689374, 4805178, 4918257, 5028793, 5136952, 5242880, 5346709, 5448560, 5548542, 5646754, 5743287, 5838224, 5931641, 6023610, 6114196, 6203459, 6291456, 6378238, 6463856, 6548355, 6631776, 6714162, 6795549, 6875972, 6955466, 7034061, 7111788, 7188674, 7264747, 7340032, 7414552, 7488330, 7561389, 7633748, 7705428, 7776447, 7846824, 7916575, 7985716, 8054265, 8122234, 8189640, 8256495, 8322813, 8388608, 8453889, 8518671, 8582964, 8646779, 8710126, 8773016, 8835458, 8897462, 8959037, 9020191, 9080934, 9141273, 9201217, 9260772, 9319947, 9378748, 9437184, 9495259, 9552982, 9610357, 9667393, 9724093, 9780465, 9836514, 9892246, 9947665, 10002777, 10057587, 10112100, 10166321, 10220254, 10273904, 10327275, 10380372, 10433199, 10485760]
def rt (m : Int) : Int := rtL.getD m.toNat 0
theorem rt_md : ∀ a : Fin 101, ∀ b : Fin 101, a.val ≤ b.val → rtL.getD a.val 0 ≤ rtL.getD b.val 0 := by decide +kernel
theorem rt_bd : ∀ a : Fin 101, 0 ≤ rtL.getD a.val 0 ∧ rtL.getD a.val 0 ≤ 10485760 := by decide +kernel
theorem rt_sd : ∀ a : Fin 11, rtL.getD (a.val * a.val) 0 = (a.val : Int) * 1048576 := by decide +kernel
theorem rt_mono {a b : Int} (h0 : 0 ≤ a) (h : a ≤ b) (h1 : b ≤ 100) : rt a ≤ rt b := rt_md ⟨a.toNat, by omega⟩ ⟨b.toNat, by omega⟩ (by show a.toNat ≤ b.toNat; omega)
theorem rt_b {a : Int} (h0 : 0 ≤ a) (h1 : a ≤ 100) : 0 ≤ rt a ∧ rt a ≤ 10485760 := rt_bd ⟨a.toNat, by omega⟩
theorem rt_sq {r : Int} (h0 : 0 ≤ r) (h1 : r ≤ 10) : rt (r * r) = r * 1048576 := by
  obtain ⟨k, rfl⟩ := Int.eq_ofNat_of_zero_le h0
  have e : ((k : Int) * (k : Int)).toNat = k * k := by rw [← Int.natCast_mul]; exact Int.toNat_natCast _
  rw [rt, e]
  exact rt_sd ⟨k, by omega⟩
theorem rr_b {r : Int} (h0 : 1 ≤ r) (h1 : r ≤ 10) : 1 ≤ r * r ∧ r * r ≤ 100 := by
  have a := sq_le (a := 1) (b := r) (Or.inl ⟨by omega, h0⟩)
  have b := sq_le (a := r) (b := 10) (Or.inl ⟨by omega, h1⟩)
  omega
/-- how far the centre is above a tip that the ball touches, by the step from the place; far below all where there is none -/
def lift (r dx dy : Int) : Int := if dx * dx + dy * dy ≤ r * r then rt (r * r - (dx * dx + dy * dy)) else -1073741824
theorem lift_b {r dx dy : Int} (h0 : 1 ≤ r) (h1 : r ≤ 10) : -1073741824 ≤ lift r dx dy ∧ lift r dx dy ≤ r * 1048576 := by
  have a := rr_b h0 h1
  have b := sq_0 dx
  have c := sq_0 dy
  unfold lift
  split
  · have d := rt_b (a := r * r - (dx * dx + dy * dy)) (by omega) (by omega)
    have e := rt_mono (a := r * r - (dx * dx + dy * dy)) (b := r * r) (by omega) (by omega) (by omega)
    rw [rt_sq (by omega) h1] at e
    omega
  · omega
theorem lift_near {r dx dy : Int} (h0 : 1 ≤ r) (h1 : r ≤ 10) (h : dx * dx + dy * dy ≤ r * r) : 0 ≤ lift r dx dy := by
  have a := rr_b h0 h1
  have b := sq_0 dx
  have c := sq_0 dy
  rw [lift, if_pos h]
  exact (rt_b (by omega) (by omega)).1
theorem lift_far {r dx dy : Int} (h : ¬ dx * dx + dy * dy ≤ r * r) : lift r dx dy = -1073741824 := by rw [lift, if_neg h]
theorem lift_le {r dx dx' dy dy' : Int} (h0 : 1 ≤ r) (h1 : r ≤ 10) (h : dx * dx + dy * dy ≤ dx' * dx' + dy' * dy') : lift r dx' dy' ≤ lift r dx dy := by
  have a := rr_b h0 h1
  have b := sq_0 dx
  have c := sq_0 dy
  by_cases d : dx' * dx' + dy' * dy' ≤ r * r
  · rw [lift, if_pos d, lift, if_pos (by omega)]
    exact rt_mono (by omega) (by omega) (by omega)
  · rw [lift_far d]
    exact (lift_b h0 h1).1
theorem lift_out {r dx dy : Int} (h0 : 1 ≤ r) (h : dx < -r ∨ r < dx ∨ dy < -r ∨ r < dy) : lift r dx dy = -1073741824 := by
  apply lift_far
  have b := sq_0 dx
  have c := sq_0 dy
  have e : ∀ d : Int, (d < -r ∨ r < d) → r * r < d * d := by
    intro d hd
    rcases hd with q | q
    · have := sq_le (a := r + 1) (b := -d) (Or.inl ⟨by omega, by omega⟩)
      rw [Int.neg_mul_neg] at this
      have e2 : (r + 1) * (r + 1) = r * r + 2 * r + 1 := by grind
      omega
    · have := sq_le (a := r + 1) (b := d) (Or.inl ⟨by omega, by omega⟩)
      have e2 : (r + 1) * (r + 1) = r * r + 2 * r + 1 := by grind
      omega
  rcases h with q | q | q | q
  · have := e dx (Or.inl q); omega
  · have := e dx (Or.inr q); omega
  · have := e dy (Or.inl q); omega
  · have := e dy (Or.inr q); omega
theorem lift_0 {r : Int} (h0 : 1 ≤ r) (h1 : r ≤ 10) : lift r 0 0 = r * 1048576 := by
  have a := rr_b h0 h1
  rw [lift, if_pos (by omega)]
  have e : r * r - (0 * 0 + 0 * 0) = r * r := by omega
  rw [e]
  exact rt_sq (by omega) h1
