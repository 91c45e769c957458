/-! What is kept of the ball at every place, and how a place's change keeps it. -/
def plx (W r P : Int) : Int := P % (W + 2 * r) - r
def ply (W r P : Int) : Int := P / (W + 2 * r) - r
theorem pl_at {W r x y : Int} (h1 : -r ≤ x) (h2 : x < W + r) : plx W r ((y + r) * (W + 2 * r) + (x + r)) = x ∧ ply W r ((y + r) * (W + 2 * r) + (x + r)) = y := by
  have a := ix_div (i := x + r) (j := y + r) (W := W + 2 * r) (by omega) (by omega)
  rw [plx, ply, a.1, a.2]
  omega
theorem pl_of {W D_ r P : Int} (hW : 1 ≤ W) (hr : 1 ≤ r) (h0 : 0 ≤ P) (h1 : P < (W + 2 * r) * (D_ + 2 * r)) : -r ≤ plx W r P ∧ plx W r P < W + r ∧ -r ≤ ply W r P ∧ ply W r P < D_ + r ∧ (ply W r P + r) * (W + 2 * r) + (plx W r P + r) = P := by
  have a := ix_of (p := P) (W := W + 2 * r) (D := D_ + 2 * r) (by omega) h0 h1
  have e1 : ply W r P + r = P / (W + 2 * r) := by rw [ply]; omega
  have e2 : plx W r P + r = P % (W + 2 * r) := by rw [plx]; omega
  rw [e1, e2]
  refine ⟨?_, ?_, ?_, ?_, a.2.2.2.2⟩ <;> simp only [plx, ply] <;> omega
theorem pl_in {W D_ r x y : Int} (hx1 : -r ≤ x) (hx2 : x < W + r) (hy1 : -r ≤ y) (hy2 : y < D_ + r) : 0 ≤ (y + r) * (W + 2 * r) + (x + r) ∧ (y + r) * (W + 2 * r) + (x + r) < (W + 2 * r) * (D_ + 2 * r) :=
  ix_b (i := x + r) (j := y + r) (W := W + 2 * r) (D := D_ + 2 * r) (by omega) (by omega) (by omega) (by omega)
/-- a point is touched at a place where the ball's centre is at R -/
def tch (W r x y : Int) (ts : Int → Int) (R p : Int) : Bool := decide (rch W r x y ts p = R)
theorem tch_t {W r x y R p : Int} {ts : Int → Int} : tch W r x y ts R p = true ↔ rch W r x y ts p = R := by simp [tch]
theorem tch_f {W r x y R p : Int} {ts : Int → Int} : tch W r x y ts R p = false ↔ ¬ rch W r x y ts p = R := by simp [tch]
/-- R is the rest at (x, y), T points are touched, O is one of them -/
def PLv (W N r x y : Int) (ts : Int → Int) (R T O : Int) : Prop :=
  r * 1048576 ≤ R ∧ (R = r * 1048576 ∨ ∃ p, 0 ≤ p ∧ p < N ∧ rch W r x y ts p = R) ∧ (∀ p, 0 ≤ p → p < N → rch W r x y ts p ≤ R) ∧ T = cz (tch W r x y ts R) N ∧ ((O = -1 ∧ T = 0) ∨ (0 ≤ O ∧ O < N ∧ rch W r x y ts O = R))
theorem PLv_T {W N r x y R T O : Int} {ts : Int → Int} (h : PLv W N r x y ts R T O) : (O = -1 → T = 0) ∧ (O ≠ -1 → 0 ≤ O ∧ O < N ∧ rch W r x y ts O = R ∧ 0 < T) := by
  obtain ⟨h1, h2, h3, h4, h5⟩ := h
  rcases h5 with ⟨a, b⟩ | ⟨a, b, d⟩
  · exact ⟨fun _ => b, fun q => absurd a q⟩
  · refine ⟨fun q => by omega, fun _ => ⟨a, b, d, ?_⟩⟩
    have := cz_lt (P := tch W r x y ts R) a b (tch_t.mpr d)
    have := cz_b (tch W r x y ts R) a
    omega
/-- the same values do for other tips, if nothing that is touched changes and nothing rises above -/
theorem PLv_c {W N r x y R T O : Int} {ts ts' : Int → Int} (h : PLv W N r x y ts R T O) (he : ∀ p, 0 ≤ p → p < N → tch W r x y ts' R p = tch W r x y ts R p) (hle : ∀ p, 0 ≤ p → p < N → rch W r x y ts' p ≤ R) : PLv W N r x y ts' R T O := by
  obtain ⟨h1, h2, h3, h4, h5⟩ := h
  refine ⟨h1, ?_, hle, by rw [h4]; exact (cz_c he).symm, ?_⟩
  · rcases h2 with a | ⟨p, a, b, d⟩
    · exact Or.inl a
    · exact Or.inr ⟨p, a, b, tch_t.mp ((he p a b).trans (tch_t.mpr d))⟩
  · rcases h5 with a | ⟨a, b, d⟩
    · exact Or.inl a
    · exact Or.inr ⟨a, b, tch_t.mp ((he O a b).trans (tch_t.mpr d))⟩
/-- out of a climb from the ground, or from a rest that is there -/
theorem PLv_cl {W N r x y at_ R T : Int} {ts li : Int → Int} (hN : 0 ≤ N) (h : clI W r x y at_ N ts N R T li) (ha : r * 1048576 ≤ at_) (hb : at_ = r * 1048576 ∨ R ≠ at_ ∨ 0 < T) : PLv W N r x y ts R T (if 0 < T then li 0 else -1) := by
  obtain ⟨h1, h2, h3, h4⟩ := h
  have hb2 := lsts_b hN h4
  have hP : (fun p => decide (rch W r x y ts p = R)) = tch W r x y ts R := rfl
  rw [hP] at h4
  by_cases hT : 0 < T
  · have g := lsts_get hN h4 (Int.le_refl 0) hT
    rw [if_pos hT]
    exact ⟨by omega, Or.inr ⟨li 0, g.1, g.2.1, tch_t.mp g.2.2.1⟩, h3, h4.1, Or.inr ⟨g.1, g.2.1, tch_t.mp g.2.2.1⟩⟩
  · rw [if_neg hT]
    refine ⟨by omega, ?_, h3, h4.1, Or.inl ⟨rfl, by omega⟩⟩
    rcases h2 with q | ⟨p, q1, q2, q3⟩
    · left
      rcases hb with b | b | b
      · omega
      · exact absurd q b
      · exact absurd b hT
    · have := cz_lt (P := tch W r x y ts R) q1 q2 (tch_t.mpr q3)
      have := cz_b (tch W r x y ts R) q1
      have := h4.1
      omega
/-- all places: place P by the tips tm P -/
def BIm (W D_ r : Int) (tm : Int → Int → Int) (re tc ow hc : Int → Int) : Prop :=
  (∀ P, 0 ≤ P → P < (W + 2 * r) * (D_ + 2 * r) → PLv W (W * D_) r (plx W r P) (ply W r P) (tm P) (re P) (tc P) (ow P)) ∧
  ∀ p, 0 ≤ p → p < W * D_ → hc p = cz (fun P => tch W r (plx W r P) (ply W r P) (tm P) (re P) p) ((W + 2 * r) * (D_ + 2 * r))
def BI (W D_ r : Int) (ts re tc ow hc : Int → Int) : Prop := BIm W D_ r (fun _ => ts) re tc ow hc
theorem BIm_up {W D_ r P0 R T O : Int} {tm : Int → Int → Int} {re tc ow hc hc' ts' : Int → Int} (h : BIm W D_ r tm re tc ow hc) (h0 : 0 ≤ P0) (h1 : P0 < (W + 2 * r) * (D_ + 2 * r)) (hp : PLv W (W * D_) r (plx W r P0) (ply W r P0) ts' R T O)
    (hh : ∀ p, 0 ≤ p → p < W * D_ → hc' p = hc p + bi (tch W r (plx W r P0) (ply W r P0) ts' R p) - bi (tch W r (plx W r P0) (ply W r P0) (tm P0) (re P0) p)) : BIm W D_ r (zu tm P0 ts') (zu re P0 R) (zu tc P0 T) (zu ow P0 O) hc' := by
  obtain ⟨g1, g2⟩ := h
  refine ⟨fun P p0 p1 => ?_, fun p p0 p1 => ?_⟩
  · by_cases e : P = P0
    · subst e
      simp only [zu_s]
      exact hp
    · simp only [zu_n _ _ e]
      exact g1 P p0 p1
  · rw [hh p p0 p1, g2 p p0 p1]
    have := cz_up (P := fun P => tch W r (plx W r P) (ply W r P) (tm P) (re P) p) (Q := fun P => tch W r (plx W r P) (ply W r P) (zu tm P0 ts' P) (zu re P0 R P) p) h0 h1 (fun P q0 q1 q2 => by simp only [zu_n _ _ q2])
    simp only [zu_s] at this
    omega
/-- other tips by place, where all that is touched is the same -/
theorem BIm_c {W D_ r : Int} {tm tm' : Int → Int → Int} {re tc ow hc : Int → Int} (h : BIm W D_ r tm re tc ow hc) (he : ∀ P, 0 ≤ P → P < (W + 2 * r) * (D_ + 2 * r) → tm' P = tm P ∨ ((∀ p, 0 ≤ p → p < W * D_ → tch W r (plx W r P) (ply W r P) (tm' P) (re P) p = tch W r (plx W r P) (ply W r P) (tm P) (re P) p) ∧ ∀ p, 0 ≤ p → p < W * D_ → rch W r (plx W r P) (ply W r P) (tm' P) p ≤ re P)) : BIm W D_ r tm' re tc ow hc := by
  obtain ⟨g1, g2⟩ := h
  refine ⟨fun P p0 p1 => ?_, fun p p0 p1 => ?_⟩
  · rcases he P p0 p1 with q | ⟨q1, q2⟩
    · rw [q]; exact g1 P p0 p1
    · exact PLv_c (g1 P p0 p1) q1 q2
  · rw [g2 p p0 p1]
    refine cz_c (fun P q0 q1 => ?_)
    rcases he P q0 q1 with q | ⟨q, -⟩
    · simp only [q]
    · exact (q p p0 p1).symm
/-- where one tip is another -/
theorem rch_zu {W r x y p q v : Int} {ts : Int → Int} (h : q ≠ p) : rch W r x y (zu ts p v) q = rch W r x y ts q := by rw [rch, rch, zu_n _ _ h]
theorem rch_zs {W r x y p v : Int} {ts : Int → Int} : rch W r x y (zu ts p v) p = v + lift r (p % W - x) (p / W - y) := by rw [rch, zu_s]
/-- a place where a tip that has changed is not touched, before and behind -/
theorem PLv_zu {W N r x y R T O p v : Int} {ts : Int → Int} (h : PLv W N r x y ts R T O) (h1 : rch W r x y ts p ≠ R) (h2 : rch W r x y (zu ts p v) p < R) :
    (∀ q, 0 ≤ q → q < N → tch W r x y (zu ts p v) R q = tch W r x y ts R q) ∧ ∀ q, 0 ≤ q → q < N → rch W r x y (zu ts p v) q ≤ R := by
  refine ⟨fun q q0 q1 => ?_, fun q q0 q1 => ?_⟩
  · by_cases e : q = p
    · subst e
      rw [tch_f.mpr h1, tch_f.mpr (by omega)]
    · simp only [tch, rch_zu e]
  · by_cases e : q = p
    · subst e; omega
    · rw [rch_zu e]; exact h.2.2.1 q q0 q1
/-- a tip rises just to where the ball is -/
theorem PLv_eq {W N r x y R T O p v : Int} {ts : Int → Int} (h : PLv W N r x y ts R T O) (hp0 : 0 ≤ p) (hp1 : p < N) (h1 : rch W r x y ts p < R) (h2 : rch W r x y (zu ts p v) p = R) :
    PLv W N r x y (zu ts p v) R (T + 1) p ∧ ∀ q, 0 ≤ q → q < N → bi (tch W r x y (zu ts p v) R q) = bi (tch W r x y ts R q) + bi (decide (q = p)) := by
  have key : ∀ q, q ≠ p → tch W r x y (zu ts p v) R q = tch W r x y ts R q := fun q e => by simp only [tch, rch_zu e]
  have k1 : tch W r x y (zu ts p v) R p = true := tch_t.mpr h2
  have k2 : tch W r x y ts R p = false := tch_f.mpr (by omega)
  obtain ⟨g1, g2, g3, g4, g5⟩ := h
  refine ⟨⟨g1, Or.inr ⟨p, hp0, hp1, h2⟩, fun q q0 q1 => ?_, ?_, Or.inr ⟨hp0, hp1, h2⟩⟩, fun q q0 q1 => ?_⟩
  · by_cases e : q = p
    · subst e; omega
    · rw [rch_zu e]; exact g3 q q0 q1
  · rw [g4, cz_up (P := tch W r x y ts R) (Q := tch W r x y (zu ts p v) R) hp0 hp1 (fun q _ _ e => key q e), k1, k2, bi_t rfl, bi_f rfl]
    omega
  · by_cases e : q = p
    · subst e
      rw [k1, k2]; simp [bi]
    · rw [key q e]; simp [bi, e]
/-- a tip rises above where the ball is -/
theorem PLv_gt {W N r x y R T O p v : Int} {ts : Int → Int} (h : PLv W N r x y ts R T O) (hp0 : 0 ≤ p) (hp1 : p < N) (h2 : R < rch W r x y (zu ts p v) p) :
    PLv W N r x y (zu ts p v) (rch W r x y (zu ts p v) p) 1 p ∧ ∀ q, 0 ≤ q → q < N → bi (tch W r x y (zu ts p v) (rch W r x y (zu ts p v) p) q) = bi (decide (q = p)) := by
  obtain ⟨g1, g2, g3, g4, g5⟩ := h
  have key : ∀ q, 0 ≤ q → q < N → q ≠ p → tch W r x y (zu ts p v) (rch W r x y (zu ts p v) p) q = false := fun q q0 q1 e => by
    have := g3 q q0 q1
    rw [tch_f, rch_zu e]; omega
  have k1 : tch W r x y (zu ts p v) (rch W r x y (zu ts p v) p) p = true := tch_t.mpr rfl
  refine ⟨⟨by omega, Or.inr ⟨p, hp0, hp1, rfl⟩, fun q q0 q1 => ?_, ?_, Or.inr ⟨hp0, hp1, rfl⟩⟩, fun q q0 q1 => ?_⟩
  · by_cases e : q = p
    · subst e; omega
    · rw [rch_zu e]; have := g3 q q0 q1; omega
  · rw [cz_up (P := fun _ => false) (Q := tch W r x y (zu ts p v) (rch W r x y (zu ts p v) p)) hp0 hp1 (fun q q0 q1 e => key q q0 q1 e), k1, cz_nil (fun _ _ _ => rfl)]
    simp [bi]
  · by_cases e : q = p
    · subst e
      rw [k1]; simp [bi]
    · rw [key q q0 q1 e]; simp [bi, e]
/-! steps from a point to the places around it -/
theorem sq_in {a b r : Int} (hr : 0 ≤ r) (h : a * a + b * b ≤ r * r) : -r ≤ a ∧ a ≤ r ∧ -r ≤ b ∧ b ≤ r := by
  have key : ∀ d e : Int, d * d + e * e ≤ r * r → -r ≤ d ∧ d ≤ r := by
    intro d e h
    have e2 : (r + 1) * (r + 1) = r * r + 2 * r + 1 := by grind
    have h0 := sq_0 e
    refine ⟨?_, ?_⟩
    · by_cases c : d < -r
      · have := sq_le (a := r + 1) (b := -d) (Or.inl ⟨by omega, by omega⟩)
        rw [Int.neg_mul_neg] at this
        omega
      · omega
    · by_cases c : r < d
      · have := sq_le (a := r + 1) (b := d) (Or.inl ⟨by omega, by omega⟩)
        omega
      · omega
  have k1 := key a b h
  have k2 := key b a (by omega)
  exact ⟨k1.1, k1.2, k2.1, k2.2⟩
theorem lift_neg (r a b : Int) : lift r (-a) (-b) = lift r a b := by rw [lift, lift, Int.neg_mul_neg, Int.neg_mul_neg]
theorem ge_p {W D_ r sz : Int} {co ro ho ac al sd lf sq : Int → Int} (hG : GE W D_ r sz co ro ho ac al sd lf sq) {p : Int} (h0 : 0 ≤ p) (h1 : p < W * D_) :
    co p = p % W ∧ ro p = p / W ∧ ho p = (ro p + r) * (W + 2 * r) + (co p + r) ∧ 0 ≤ co p ∧ co p < W ∧ 0 ≤ ro p ∧ ro p < D_ ∧ p = ro p * W + co p := by
  obtain ⟨⟨hW1, hW2, hD1, hD2, hr1, hr2⟩, hGp, -⟩ := hG
  have a := ix_of (p := p) (W := W) (D := D_) (by omega) h0 h1
  have b := hGp (p % W) (p / W) a.1 a.2.1 a.2.2.1 a.2.2.2.1
  rw [a.2.2.2.2] at b
  obtain ⟨b1, b2, b3⟩ := b
  rw [b1, b2]
  exact ⟨rfl, rfl, b3, a.1, a.2.1, a.2.2.1, a.2.2.2.1, a.2.2.2.2.symm⟩
theorem ge_k {W D_ r sz : Int} {co ro ho ac al sd lf sq : Int → Int} (hG : GE W D_ r sz co ro ho ac al sd lf sq) {p k : Int} (h0 : 0 ≤ p) (h1 : p < W * D_) (k0 : 0 ≤ k) (k1 : k < sz) :
    ho p + sd k = (ro p + al k + r) * (W + 2 * r) + (co p + ac k + r) ∧ (-r ≤ co p + ac k ∧ co p + ac k < W + r) ∧ (-r ≤ ro p + al k ∧ ro p + al k < D_ + r) ∧ 0 ≤ ho p + sd k ∧ ho p + sd k < (W + 2 * r) * (D_ + 2 * r) ∧
      plx W r (ho p + sd k) = co p + ac k ∧ ply W r (ho p + sd k) = ro p + al k ∧ 0 ≤ lf k ∧ lf k ≤ r * 1048576 ∧ ∀ ts : Int → Int, rch W r (co p + ac k) (ro p + al k) ts p = ts p + lf k := by
  obtain ⟨a1, a2, a3, a4, a5, a6, a7, a8⟩ := ge_p hG h0 h1
  obtain ⟨⟨hW1, hW2, hD1, hD2, hr1, hr2⟩, hGp, hGs, hGk, -⟩ := hG
  obtain ⟨b1, b2, b3⟩ := hGk k k0 k1
  have b4 := sq_in (by omega) b1
  have e : ho p + sd k = (ro p + al k + r) * (W + 2 * r) + (co p + ac k + r) := by rw [a3, b2]; grind
  have x1 : -r ≤ co p + ac k ∧ co p + ac k < W + r := by omega
  have y1 : -r ≤ ro p + al k ∧ ro p + al k < D_ + r := by omega
  have c1 := pl_in (W := W) (D_ := D_) x1.1 x1.2 y1.1 y1.2
  have c2 := pl_at (W := W) (r := r) (x := co p + ac k) (y := ro p + al k) x1.1 x1.2
  rw [← e] at c1 c2
  have f := lift_b (dx := ac k) (dy := al k) hr1 hr2
  have g := lift_near hr1 hr2 b1
  rw [← b3] at f g
  refine ⟨e, x1, y1, c1.1, c1.2, c2.1, c2.2, g, f.2, fun ts => ?_⟩
  rw [rch, ← a1, ← a2, show co p - (co p + ac k) = -ac k by omega, show ro p - (ro p + al k) = -al k by omega, lift_neg, b3]
theorem ge_inj {W D_ r sz : Int} {co ro ho ac al sd lf sq : Int → Int} (hG : GE W D_ r sz co ro ho ac al sd lf sq) {p k k' : Int} (h0 : 0 ≤ p) (h1 : p < W * D_) (k0 : 0 ≤ k) (k1 : k < sz) (j0 : 0 ≤ k') (j1 : k' < sz) (h : ho p + sd k = ho p + sd k') : k = k' := by
  have a := ge_k hG h0 h1 k0 k1
  have b := ge_k hG h0 h1 j0 j1
  rw [h] at a
  have e1 : co p + ac k = co p + ac k' := a.2.2.2.2.2.1.symm.trans b.2.2.2.2.2.1
  have e2 : ro p + al k = ro p + al k' := a.2.2.2.2.2.2.1.symm.trans b.2.2.2.2.2.2.1
  exact hG.2.2.2.2.2.1 k k' k0 k1 j0 j1 (by omega) (by omega)
/-- a place from which a point is within reach is a step away -/
theorem ge_ex {W D_ r sz : Int} {co ro ho ac al sd lf sq : Int → Int} (hG : GE W D_ r sz co ro ho ac al sd lf sq) {p P : Int} (h0 : 0 ≤ p) (h1 : p < W * D_) (p0 : 0 ≤ P) (p1 : P < (W + 2 * r) * (D_ + 2 * r)) :
    lift r (p % W - plx W r P) (p / W - ply W r P) = -1073741824 ∨ ∃ k, 0 ≤ k ∧ k < sz ∧ P = ho p + sd k ∧ lift r (p % W - plx W r P) (p / W - ply W r P) = lf k := by
  by_cases c : (plx W r P - p % W) * (plx W r P - p % W) + (ply W r P - p / W) * (ply W r P - p / W) ≤ r * r
  · right
    have hG2 := hG
    obtain ⟨⟨hW1, hW2, hD1, hD2, hr1, hr2⟩, hGp, hGs, hGk, hGx, -⟩ := hG2
    obtain ⟨k, k0, k1, k2, k3⟩ := hGx _ _ c
    obtain ⟨a1, a2, -⟩ := ge_p hG h0 h1
    have b := ge_k hG h0 h1 k0 k1
    have d := pl_of (D_ := D_) hW1 hr1 p0 p1
    refine ⟨k, k0, k1, ?_, ?_⟩
    · rw [b.1, ← d.2.2.2.2]
      have e1 : ro p + al k + r = ply W r P + r := by omega
      have e2 : co p + ac k + r = plx W r P + r := by omega
      rw [e1, e2]
    · rw [(hGk k k0 k1).2.2, ← lift_neg r (ac k), k2, k3]
      congr 1 <;> omega
  · left
    have e1 : p % W - plx W r P = -(plx W r P - p % W) := by omega
    have e2 : p / W - ply W r P = -(ply W r P - p / W) := by omega
    rw [e1, e2, lift_neg]
    exact lift_far c
theorem zu_id {α : Type} {f : Int → α} {k : Int} {v : α} (h : f k = v) : zu f k v = f := by
  funext j
  by_cases e : j = k
  · rw [e, zu_s, h]
  · rw [zu_n _ _ e]
theorem zu_zu {α : Type} (f : Int → α) (k : Int) (u v : α) : zu (zu f k u) k v = zu f k v := by
  funext j
  by_cases e : j = k
  · rw [e, zu_s, zu_s]
  · rw [zu_n _ _ e, zu_n _ _ e, zu_n _ _ e]
theorem PLv_b {W N r x y R T O : Int} {ts : Int → Int} (hr : 1 ≤ r) (hr2 : r ≤ 10) (hN : 0 ≤ N) (h : PLv W N r x y ts R T O) (ht : ∀ p, 0 ≤ p → p < N → ts p ≤ 262144000) : 1048576 ≤ R ∧ R ≤ 272629760 ∧ 0 ≤ T ∧ T ≤ N := by
  obtain ⟨h1, h2, h3, h4, h5⟩ := h
  have c := cz_b (tch W r x y ts R) hN
  rw [← h4] at c
  refine ⟨by omega, ?_, c.1, c.2⟩
  rcases h2 with a | ⟨p, a, b, d⟩
  · omega
  · rw [rch] at d
    have e := lift_b (r := r) (dx := p % W - x) (dy := p / W - y) hr hr2
    have f := ht p a b
    omega
/-! a tip rises, place by place -/
def RIv (W D_ r : Int) (ho sd : Int → Int) (p0 : Int) (ts ts' : Int → Int) (i : Int) (tm : Int → Int → Int) (re tc ow hc : Int → Int) : Prop :=
  BIm W D_ r tm re tc ow hc ∧ (∀ j, 0 ≤ j → j < i → tm (ho p0 + sd j) = ts') ∧ ∀ P, 0 ≤ P → P < (W + 2 * r) * (D_ + 2 * r) → (∀ j, 0 ≤ j → j < i → P ≠ ho p0 + sd j) → tm P = ts
theorem RIv_at {W D_ r sz : Int} {co ro ho ac al sd lf sq : Int → Int} (hG : GE W D_ r sz co ro ho ac al sd lf sq) {p0 i : Int} {ts ts' : Int → Int} {tm : Int → Int → Int} {re tc ow hc : Int → Int} (h0 : 0 ≤ p0) (h1 : p0 < W * D_) (i0 : 0 ≤ i) (i1 : i < sz) (I : RIv W D_ r ho sd p0 ts ts' i tm re tc ow hc) :
    tm (ho p0 + sd i) = ts ∧ PLv W (W * D_) r (co p0 + ac i) (ro p0 + al i) ts (re (ho p0 + sd i)) (tc (ho p0 + sd i)) (ow (ho p0 + sd i)) := by
  have a := ge_k hG h0 h1 i0 i1
  have e : tm (ho p0 + sd i) = ts := I.2.2 _ a.2.2.2.1 a.2.2.2.2.1 (fun j j0 j1 q => by have := ge_inj hG h0 h1 i0 i1 j0 (by omega) q; omega)
  have b := I.1.1 _ a.2.2.2.1 a.2.2.2.2.1
  rw [e, a.2.2.2.2.2.1, a.2.2.2.2.2.2.1] at b
  exact ⟨e, b⟩
theorem RIv_up {W D_ r sz : Int} {co ro ho ac al sd lf sq : Int → Int} (hG : GE W D_ r sz co ro ho ac al sd lf sq) {p0 i R T O : Int} {ts ts' : Int → Int} {tm : Int → Int → Int} {re tc ow hc hc' : Int → Int} (h0 : 0 ≤ p0) (h1 : p0 < W * D_) (i0 : 0 ≤ i) (i1 : i < sz) (I : RIv W D_ r ho sd p0 ts ts' i tm re tc ow hc)
    (hp : PLv W (W * D_) r (co p0 + ac i) (ro p0 + al i) ts' R T O)
    (hh : ∀ p, 0 ≤ p → p < W * D_ → hc' p = hc p + bi (tch W r (co p0 + ac i) (ro p0 + al i) ts' R p) - bi (tch W r (co p0 + ac i) (ro p0 + al i) ts (re (ho p0 + sd i)) p)) :
    RIv W D_ r ho sd p0 ts ts' (i + 1) (zu tm (ho p0 + sd i) ts') (zu re (ho p0 + sd i) R) (zu tc (ho p0 + sd i) T) (zu ow (ho p0 + sd i) O) hc' := by
  have a := ge_k hG h0 h1 i0 i1
  have b := RIv_at hG h0 h1 i0 i1 I
  refine ⟨BIm_up I.1 a.2.2.2.1 a.2.2.2.2.1 (by rw [a.2.2.2.2.2.1, a.2.2.2.2.2.2.1]; exact hp) (fun p p0' p1 => by rw [a.2.2.2.2.2.1, a.2.2.2.2.2.2.1, b.1]; exact hh p p0' p1), fun j j0 j1 => ?_, fun P q0 q1 q2 => ?_⟩
  · by_cases e : ho p0 + sd j = ho p0 + sd i
    · rw [e, zu_s]
    · rw [zu_n _ _ e]
      exact I.2.1 j j0 (by
        by_cases e2 : j = i
        · exact absurd (by rw [e2]) e
        · omega)
  · rw [zu_n _ _ (q2 i i0 (by omega))]
    exact I.2.2 P q0 q1 (fun j j0 j1 => q2 j j0 (by omega))
theorem RIv_lt {W D_ r sz : Int} {co ro ho ac al sd lf sq : Int → Int} (hG : GE W D_ r sz co ro ho ac al sd lf sq) {p0 i v : Int} {ts : Int → Int} {tm : Int → Int → Int} {re tc ow hc : Int → Int} (h0 : 0 ≤ p0) (h1 : p0 < W * D_) (i0 : 0 ≤ i) (i1 : i < sz) (hv : ts p0 < v) (I : RIv W D_ r ho sd p0 ts (zu ts p0 v) i tm re tc ow hc)
    (hl : v + lf i < re (ho p0 + sd i)) : RIv W D_ r ho sd p0 ts (zu ts p0 v) (i + 1) (zu tm (ho p0 + sd i) (zu ts p0 v)) re tc ow hc := by
  have a := (ge_k hG h0 h1 i0 i1).2.2.2.2.2.2.2.2.2
  have b := RIv_at hG h0 h1 i0 i1 I
  have c := PLv_zu (p := p0) (v := v) b.2 (by rw [a ts]; omega) (by rw [a (zu ts p0 v), zu_s]; omega)
  have d := RIv_up hG h0 h1 i0 i1 I (PLv_c b.2 c.1 c.2) (hc' := hc) (fun p q0 q1 => by rw [c.1 p q0 q1]; omega)
  rw [zu_id rfl, zu_id rfl, zu_id rfl] at d
  exact d
theorem RIv_eq {W D_ r sz : Int} {co ro ho ac al sd lf sq : Int → Int} (hG : GE W D_ r sz co ro ho ac al sd lf sq) {p0 i v : Int} {ts : Int → Int} {tm : Int → Int → Int} {re tc ow hc : Int → Int} (h0 : 0 ≤ p0) (h1 : p0 < W * D_) (i0 : 0 ≤ i) (i1 : i < sz) (hv : ts p0 < v) (I : RIv W D_ r ho sd p0 ts (zu ts p0 v) i tm re tc ow hc)
    (hl : v + lf i = re (ho p0 + sd i)) : RIv W D_ r ho sd p0 ts (zu ts p0 v) (i + 1) (zu tm (ho p0 + sd i) (zu ts p0 v)) re (zu tc (ho p0 + sd i) (tc (ho p0 + sd i) + 1)) (zu ow (ho p0 + sd i) p0) (zu hc p0 (hc p0 + 1)) := by
  have a := (ge_k hG h0 h1 i0 i1).2.2.2.2.2.2.2.2.2
  have b := RIv_at hG h0 h1 i0 i1 I
  have c := PLv_eq (p := p0) (v := v) b.2 h0 h1 (by rw [a ts]; omega) (by rw [a (zu ts p0 v), zu_s]; omega)
  have d := RIv_up hG h0 h1 i0 i1 I c.1 (hc' := zu hc p0 (hc p0 + 1)) (fun p q0 q1 => by
    rw [c.2 p q0 q1]
    by_cases e : p = p0
    · subst e; rw [zu_s]; simp [bi]; omega
    · rw [zu_n _ _ e]; simp [bi, e])
  rw [zu_id rfl] at d
  exact d
theorem RIv_gt {W D_ r sz : Int} {co ro ho ac al sd lf sq : Int → Int} (hG : GE W D_ r sz co ro ho ac al sd lf sq) {p0 i v lev : Int} {ts : Int → Int} {tm : Int → Int → Int} {re tc ow hc hc' : Int → Int} (h0 : 0 ≤ p0) (h1 : p0 < W * D_) (i0 : 0 ≤ i) (i1 : i < sz) (I : RIv W D_ r ho sd p0 ts (zu ts p0 v) i tm re tc ow hc)
    (hlev : lev = v + lf i) (hl : re (ho p0 + sd i) < lev) (hh : ∀ p, 0 ≤ p → p < W * D_ → hc' p = hc p - bi (tch W r (co p0 + ac i) (ro p0 + al i) ts (re (ho p0 + sd i)) p)) :
    RIv W D_ r ho sd p0 ts (zu ts p0 v) (i + 1) (zu tm (ho p0 + sd i) (zu ts p0 v)) (zu re (ho p0 + sd i) lev) (zu tc (ho p0 + sd i) 1) (zu ow (ho p0 + sd i) p0) (zu hc' p0 (hc' p0 + 1)) := by
  have a := (ge_k hG h0 h1 i0 i1).2.2.2.2.2.2.2.2.2
  have b := RIv_at hG h0 h1 i0 i1 I
  have e0 : rch W r (co p0 + ac i) (ro p0 + al i) (zu ts p0 v) p0 = lev := by rw [a (zu ts p0 v), zu_s, hlev]
  have c := PLv_gt (p := p0) (v := v) b.2 h0 h1 (by rw [e0]; exact hl)
  rw [e0] at c
  exact RIv_up hG h0 h1 i0 i1 I c.1 (hc' := zu hc' p0 (hc' p0 + 1)) (fun p q0 q1 => by
    rw [c.2 p q0 q1]
    by_cases e : p = p0
    · subst e; rw [zu_s, hh p q0 q1]; simp [bi]; omega
    · rw [zu_n _ _ e, hh p q0 q1]; simp [bi, e])
theorem RIv_0 {W D_ r p0 : Int} {ho sd ts ts' re tc ow hc : Int → Int} (h : BI W D_ r ts re tc ow hc) : RIv W D_ r ho sd p0 ts ts' 0 (fun _ => ts) re tc ow hc :=
  ⟨h, fun j j0 j1 => by omega, fun P _ _ _ => rfl⟩
theorem RIv_end {W D_ r sz : Int} {co ro ho ac al sd lf sq : Int → Int} (hG : GE W D_ r sz co ro ho ac al sd lf sq) {p0 i v : Int} {ts : Int → Int} {tm : Int → Int → Int} {re tc ow hc : Int → Int} (h0 : 0 ≤ p0) (h1 : p0 < W * D_) (i0 : 0 ≤ i) (hv : ts p0 < v) (hv2 : v ≤ 262144000) (I : RIv W D_ r ho sd p0 ts (zu ts p0 v) i tm re tc ow hc)
    (hend : sz ≤ i ∨ (i < sz ∧ v + lf i < r * 1048576)) : BI W D_ r (zu ts p0 v) re tc ow hc := by
  refine BIm_c I.1 (fun P q0 q1 => ?_)
  by_cases c : ∃ j, 0 ≤ j ∧ j < i ∧ P = ho p0 + sd j
  · obtain ⟨j, j0, j1, rfl⟩ := c
    exact Or.inl (I.2.1 j j0 j1).symm
  · right
    have e : tm P = ts := I.2.2 P q0 q1 (fun j j0 j1 q => c ⟨j, j0, j1, q⟩)
    have b := I.1.1 P q0 q1
    rw [e] at b ⊢
    have hr := hG.1
    have hlow : v + lift r (p0 % W - plx W r P) (p0 / W - ply W r P) < re P := by
      have hb := b.1
      rcases ge_ex hG h0 h1 q0 q1 with q | ⟨k, k0, k1, k2, k3⟩
      · rw [q]; omega
      · rw [k3]
        rcases hend with z | ⟨z1, z2⟩
        · exact absurd ⟨k, k0, by omega, k2⟩ c
        · by_cases ki : k < i
          · exact absurd ⟨k, k0, ki, k2⟩ c
          · have := hG.2.2.2.2.2.2.1 i k i0 (by omega) k1
            omega
    exact PLv_zu b (by rw [rch]; omega) (by rw [rch_zs]; exact hlow)
/-! a tip sinks -/
def LIv (W D_ r : Int) (ho sd : Int → Int) (p0 : Int) (to ts : Int → Int) (i touches : Int) (vis : Int → Bool) (re tc ow hc : Int → Int) : Prop :=
  BIm W D_ r (fun P => if vis P = true then ts else to) re tc ow hc ∧ touches = cz (fun P => !vis P && tch W r (plx W r P) (ply W r P) to (re P) p0) ((W + 2 * r) * (D_ + 2 * r)) ∧
  (∀ P, vis P = true → ∃ j, 0 ≤ j ∧ j < i ∧ P = ho p0 + sd j) ∧ ∀ j, 0 ≤ j → j < i → vis (ho p0 + sd j) = true ∨ tch W r (plx W r (ho p0 + sd j)) (ply W r (ho p0 + sd j)) to (re (ho p0 + sd j)) p0 = false
theorem LIv_at {W D_ r sz : Int} {co ro ho ac al sd lf sq : Int → Int} (hG : GE W D_ r sz co ro ho ac al sd lf sq) {p0 i touches : Int} {to ts : Int → Int} {vis : Int → Bool} {re tc ow hc : Int → Int} (h0 : 0 ≤ p0) (h1 : p0 < W * D_) (i0 : 0 ≤ i) (i1 : i < sz) (I : LIv W D_ r ho sd p0 to ts i touches vis re tc ow hc) :
    vis (ho p0 + sd i) = false ∧ PLv W (W * D_) r (co p0 + ac i) (ro p0 + al i) to (re (ho p0 + sd i)) (tc (ho p0 + sd i)) (ow (ho p0 + sd i)) := by
  have a := ge_k hG h0 h1 i0 i1
  have e : vis (ho p0 + sd i) = false := by
    cases hv : vis (ho p0 + sd i) with
    | false => rfl
    | true =>
      obtain ⟨j, j0, j1, j2⟩ := I.2.2.1 _ hv
      have := ge_inj hG h0 h1 i0 i1 j0 (by omega) j2
      omega
  have b := I.1.1 _ a.2.2.2.1 a.2.2.2.2.1
  simp only [e, Bool.false_eq_true, if_false] at b
  rw [a.2.2.2.2.2.1, a.2.2.2.2.2.2.1] at b
  exact ⟨e, b⟩
theorem LIv_no {W D_ r sz : Int} {co ro ho ac al sd lf sq : Int → Int} (hG : GE W D_ r sz co ro ho ac al sd lf sq) {p0 i touches : Int} {to ts : Int → Int} {vis : Int → Bool} {re tc ow hc : Int → Int} (h0 : 0 ≤ p0) (h1 : p0 < W * D_) (i0 : 0 ≤ i) (i1 : i < sz) (I : LIv W D_ r ho sd p0 to ts i touches vis re tc ow hc)
    (hl : ¬ to p0 + lf i = re (ho p0 + sd i)) : LIv W D_ r ho sd p0 to ts (i + 1) touches vis re tc ow hc := by
  have a := ge_k hG h0 h1 i0 i1
  refine ⟨I.1, I.2.1, fun P hP => ?_, fun j j0 j1 => ?_⟩
  · obtain ⟨j, j0, j1, j2⟩ := I.2.2.1 P hP
    exact ⟨j, j0, by omega, j2⟩
  · by_cases e : j = i
    · subst e
      right
      rw [a.2.2.2.2.2.1, a.2.2.2.2.2.2.1, tch_f, a.2.2.2.2.2.2.2.2.2 to]
      exact hl
    · exact I.2.2.2 j j0 (by omega)
theorem LIv_up {W D_ r sz : Int} {co ro ho ac al sd lf sq : Int → Int} (hG : GE W D_ r sz co ro ho ac al sd lf sq) {p0 i touches R T O : Int} {to ts : Int → Int} {vis : Int → Bool} {re tc ow hc hc' : Int → Int} (h0 : 0 ≤ p0) (h1 : p0 < W * D_) (i0 : 0 ≤ i) (i1 : i < sz) (I : LIv W D_ r ho sd p0 to ts i touches vis re tc ow hc)
    (hl : to p0 + lf i = re (ho p0 + sd i)) (hp : PLv W (W * D_) r (co p0 + ac i) (ro p0 + al i) ts R T O)
    (hh : ∀ p, 0 ≤ p → p < W * D_ → hc' p = hc p + bi (tch W r (co p0 + ac i) (ro p0 + al i) ts R p) - bi (tch W r (co p0 + ac i) (ro p0 + al i) to (re (ho p0 + sd i)) p)) :
    LIv W D_ r ho sd p0 to ts (i + 1) (touches - 1) (zu vis (ho p0 + sd i) true) (zu re (ho p0 + sd i) R) (zu tc (ho p0 + sd i) T) (zu ow (ho p0 + sd i) O) hc' := by
  have a := ge_k hG h0 h1 i0 i1
  have b := LIv_at hG h0 h1 i0 i1 I
  have et : tch W r (co p0 + ac i) (ro p0 + al i) to (re (ho p0 + sd i)) p0 = true := by rw [tch_t, a.2.2.2.2.2.2.2.2.2 to]; exact hl
  refine ⟨?_, ?_, fun P hP => ?_, fun j j0 j1 => ?_⟩
  · have c := BIm_up I.1 a.2.2.2.1 a.2.2.2.2.1 (ts' := ts) (R := R) (T := T) (O := O) (hc' := hc') (by rw [a.2.2.2.2.2.1, a.2.2.2.2.2.2.1]; exact hp) (fun p q0 q1 => by
      rw [a.2.2.2.2.2.1, a.2.2.2.2.2.2.1]
      simp only [b.1, Bool.false_eq_true, if_false]
      exact hh p q0 q1)
    have e : zu (fun P => if vis P = true then ts else to) (ho p0 + sd i) ts = fun P => if zu vis (ho p0 + sd i) true P = true then ts else to := by
      funext P
      by_cases q : P = ho p0 + sd i
      · rw [q, zu_s, zu_s]; simp
      · rw [zu_n _ _ q, zu_n _ _ q]
    rw [e] at c
    exact c
  · have c := cz_up (P := fun P => !vis P && tch W r (plx W r P) (ply W r P) to (re P) p0) (Q := fun P => !(zu vis (ho p0 + sd i) true P) && tch W r (plx W r P) (ply W r P) to (zu re (ho p0 + sd i) R P) p0) a.2.2.2.1 a.2.2.2.2.1 (fun P q0 q1 q2 => by simp only [zu_n _ _ q2])
    simp only [zu_s, b.1, a.2.2.2.2.2.1, a.2.2.2.2.2.2.1, et] at c
    rw [c, I.2.1]
    simp [bi]
  · by_cases q : P = ho p0 + sd i
    · exact ⟨i, i0, by omega, q⟩
    · rw [zu_n _ _ q] at hP
      obtain ⟨j, j0, j1, j2⟩ := I.2.2.1 P hP
      exact ⟨j, j0, by omega, j2⟩
  · by_cases q : ho p0 + sd j = ho p0 + sd i
    · left; rw [q, zu_s]
    · rw [zu_n _ _ q, zu_n _ _ q]
      exact I.2.2.2 j j0 (by
        by_cases e2 : j = i
        · exact absurd (by rw [e2]) q
        · omega)
theorem LIv_0 {W D_ r p0 : Int} {ho sd to ts re tc ow hc : Int → Int} (h0 : 0 ≤ p0) (h1 : p0 < W * D_) (h : BI W D_ r to re tc ow hc) : LIv W D_ r ho sd p0 to ts 0 (hc p0) (fun _ => false) re tc ow hc := by
  refine ⟨by simp only [Bool.false_eq_true, if_false]; exact h, ?_, fun P hP => by simp at hP, fun j j0 j1 => by omega⟩
  rw [h.2 p0 h0 h1]
  exact cz_c (fun P _ _ => by simp)
theorem LIv_end {W D_ r sz : Int} {co ro ho ac al sd lf sq : Int → Int} (hG : GE W D_ r sz co ro ho ac al sd lf sq) {p0 i v touches : Int} {to : Int → Int} {vis : Int → Bool} {re tc ow hc : Int → Int} (h0 : 0 ≤ p0) (h1 : p0 < W * D_) (hv : v < to p0) (I : LIv W D_ r ho sd p0 to (zu to p0 v) i touches vis re tc ow hc)
    (hend : sz ≤ i ∨ touches ≤ 0) (hto : to p0 ≤ 262144000) : BI W D_ r (zu to p0 v) re tc ow hc := by
  refine BIm_c I.1 (fun P q0 q1 => ?_)
  cases hP : vis P with
  | true => left; simp [hP]
  | false =>
    right
    have b := I.1.1 P q0 q1
    simp only [hP, Bool.false_eq_true, if_false] at b ⊢
    have hne : rch W r (plx W r P) (ply W r P) to p0 ≠ re P := by
      intro hq
      rcases hend with z | z
      · have hb := b.1
        have hr := hG.1
        rcases ge_ex hG h0 h1 q0 q1 with q | ⟨k, k0, k1, k2, k3⟩
        · rw [rch, q] at hq; omega
        · rcases I.2.2.2 k k0 (by omega) with u | u
          · rw [← k2, hP] at u; cases u
          · rw [← k2] at u
            exact tch_f.mp u hq
      · have c := I.2.1
        have d := cz_lt (P := fun P => !vis P && tch W r (plx W r P) (ply W r P) to (re P) p0) q0 q1 (by simp [hP, tch_t.mpr hq])
        have e := (cz_b (fun P => !vis P && tch W r (plx W r P) (ply W r P) to (re P) p0) q0).1
        omega
    have hle := b.2.2.1 p0 h0 h1
    exact PLv_zu b hne (by rw [rch_zs]; rw [rch] at hle hne; omega)
