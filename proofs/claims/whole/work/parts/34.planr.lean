/-! Which sets lift the ball off a point, by the places where it is touched. -/
def frL (r sz ch : Int) (co ro ho ac al sd lf ts re qp qt qs : Int → Int) (q i sets S : Int) : Prop := tb sets S = true ∧ ∀ j, 0 ≤ j → j < i → ts q + lf j = re (ho q + sd j) → abv r ch co ro qp qt qs (ts q + lf j) (co q + ac j) (ro q + al j) S
def frA (W D_ r ch : Int) (co ro ts re qp qt qs : Int → Int) (q S : Int) : Prop := ∀ P, 0 ≤ P → P < (W + 2 * r) * (D_ + 2 * r) → rch W r (plx W r P) (ply W r P) ts q = re P → abv r ch co ro qp qt qs (re P) (plx W r P) (ply W r P) S
theorem fr_0 {r sz ch q sets S : Int} {co ro ho ac al sd lf ts re qp qt qs : Int → Int} : tb sets S = true ↔ frL r sz ch co ro ho ac al sd lf ts re qp qt qs q 0 sets S := ⟨fun h => ⟨h, fun j j0 j1 => by omega⟩, fun h => h.1⟩
theorem fr_no {r sz ch q i sets S : Int} {co ro ho ac al sd lf ts re qp qt qs : Int → Int} (hn : ¬ ts q + lf i = re (ho q + sd i)) : frL r sz ch co ro ho ac al sd lf ts re qp qt qs q i sets S ↔ frL r sz ch co ro ho ac al sd lf ts re qp qt qs q (i + 1) sets S :=
  ⟨fun h => ⟨h.1, fun j j0 j1 e => if c : j = i then absurd (c ▸ e) hn else h.2 j j0 (by omega) e⟩, fun h => ⟨h.1, fun j j0 j1 e => h.2 j j0 (by omega) e⟩⟩
theorem fr_yes {r sz ch q i sets S : Int} {co ro ho ac al sd lf ts re qp qt qs : Int → Int} (hi : 0 ≤ i) (hn : ts q + lf i = re (ho q + sd i)) : (frL r sz ch co ro ho ac al sd lf ts re qp qt qs q i sets S ∧ abv r ch co ro qp qt qs (ts q + lf i) (co q + ac i) (ro q + al i) S) ↔ frL r sz ch co ro ho ac al sd lf ts re qp qt qs q (i + 1) sets S :=
  ⟨fun h => ⟨h.1.1, fun j j0 j1 e => if c : j = i then c ▸ h.2 else h.1.2 j j0 (by omega) e⟩, fun h => ⟨⟨h.1, fun j j0 j1 e => h.2 j j0 (by omega) e⟩, h.2 i hi (by omega) hn⟩⟩
theorem fr_end {W D_ r sz ch : Int} {co ro ho ac al sd lf sq : Int → Int} (hG : GE W D_ r sz co ro ho ac al sd lf sq) {q i tou left sets : Int} {ts re tc ow hc qp qt qs : Int → Int} {vis : Int → Bool} (h0 : 0 ≤ q) (h1 : q < W * D_) (hB : BI W D_ r ts re tc ow hc) (htq : ts q ≤ 262144000) (hi : 0 ≤ i ∧ i ≤ sz) (I : FRv W D_ r ho sd ts re q i tou vis)
    (I4 : ∀ S, tb left S = true ↔ frL r sz ch co ro ho ac al sd lf ts re qp qt qs q i sets S) (hend : (sz ≤ i ∨ tou ≤ 0) ∨ left = 0) (S : Int) : tb left S = true ↔ tb sets S = true ∧ frA W D_ r ch co ro ts re qp qt qs q S := by
  constructor
  · intro h
    have hf := (I4 S).mp h
    refine ⟨hf.1, fun P q0 q1 hP => ?_⟩
    rcases hend with hend | hend
    · obtain ⟨j, j0, j1, rfl⟩ := FRv_end hG h0 h1 hB htq I hend P q0 q1 hP
      have a := ge_k hG h0 h1 j0 (by omega)
      rw [a.2.2.2.2.2.1, a.2.2.2.2.2.2.1] at hP ⊢
      rw [a.2.2.2.2.2.2.2.2.2 ts] at hP
      rw [← hP]
      exact hf.2 j j0 j1 hP
    · rw [hend, tb_0] at h
      cases h
  · rintro ⟨a, b⟩
    refine (I4 S).mpr ⟨a, fun j j0 j1 e => ?_⟩
    have c := ge_k hG h0 h1 j0 (by omega)
    have d := b (ho q + sd j) c.2.2.2.1 c.2.2.2.2.1
    rw [c.2.2.2.2.2.1, c.2.2.2.2.2.2.1, c.2.2.2.2.2.2.2.2.2 ts, ← e] at d
    exact d rfl
/-! which sets keep the ball off a candidate's point -/
def cvC (W N r : Int) (ts re ow lo : Int → Int) (level P x y : Int) : Prop := re P ≤ level ∨ ((ow P ≠ -1 ∧ lo (ow P) < ts (ow P)) ∧ ∀ p, 0 ≤ p → p < N → rch W r x y lo p ≤ level)
def cvL (W N r ch : Int) (co ro ho ac al sd lf ts re ow lo qp qt qs : Int → Int) (q t i S : Int) : Prop := ∀ j, 0 ≤ j → j < i → r * 1048576 ≤ t + lf j → cvC W N r ts re ow lo (t + lf j) (ho q + sd j) (co q + ac j) (ro q + al j) → abv r ch co ro qp qt qs (t + lf j) (co q + ac j) (ro q + al j) S
theorem cv_no {W N r ch q t i S : Int} {co ro ho ac al sd lf ts re ow lo qp qt qs : Int → Int} (hn : ¬ cvC W N r ts re ow lo (t + lf i) (ho q + sd i) (co q + ac i) (ro q + al i)) : cvL W N r ch co ro ho ac al sd lf ts re ow lo qp qt qs q t i S ↔ cvL W N r ch co ro ho ac al sd lf ts re ow lo qp qt qs q t (i + 1) S :=
  ⟨fun h j j0 j1 e f => if c : j = i then absurd (c ▸ f) hn else h j j0 (by omega) e f, fun h j j0 j1 e f => h j j0 (by omega) e f⟩
theorem cv_yes {W N r ch q t i S : Int} {co ro ho ac al sd lf ts re ow lo qp qt qs : Int → Int} (hi : 0 ≤ i) (hg : r * 1048576 ≤ t + lf i) (hn : cvC W N r ts re ow lo (t + lf i) (ho q + sd i) (co q + ac i) (ro q + al i)) : (cvL W N r ch co ro ho ac al sd lf ts re ow lo qp qt qs q t i S ∧ abv r ch co ro qp qt qs (t + lf i) (co q + ac i) (ro q + al i) S) ↔ cvL W N r ch co ro ho ac al sd lf ts re ow lo qp qt qs q t (i + 1) S :=
  ⟨fun h j j0 j1 e f => if c : j = i then c ▸ h.2 else h.1 j j0 (by omega) e f, fun h => ⟨fun j j0 j1 e f => h j j0 (by omega) e f, h i hi (by omega) hg hn⟩⟩
theorem cv_end {W D_ r sz ch : Int} {co ro ho ac al sd lf sq : Int → Int} (hG : GE W D_ r sz co ro ho ac al sd lf sq) {N q t i left sets : Int} {ts re ow lo qp qt qs : Int → Int} (hi : 0 ≤ i ∧ i ≤ sz) (I4 : ∀ S, tb left S = true ↔ tb sets S = true ∧ cvL W N r ch co ro ho ac al sd lf ts re ow lo qp qt qs q t i S)
    (hend : (sz ≤ i ∨ (i < sz ∧ t + lf i < r * 1048576)) ∨ left = 0) (S : Int) : tb left S = true ↔ tb sets S = true ∧ cvL W N r ch co ro ho ac al sd lf ts re ow lo qp qt qs q t sz S := by
  constructor
  · intro h
    have hf := (I4 S).mp h
    refine ⟨hf.1, fun j j0 j1 e f => ?_⟩
    rcases hend with (z | ⟨z1, z2⟩) | z
    · exact hf.2 j j0 (by omega) e f
    · by_cases c : j < i
      · exact hf.2 j j0 c e f
      · have := hG.2.2.2.2.2.2.1 i j hi.1 (by omega) j1
        omega
    · rw [z, tb_0] at h
      cases h
  · rintro ⟨a, b⟩
    exact (I4 S).mpr ⟨a, fun j j0 j1 e f => b j j0 (by omega) e f⟩
theorem low_le {W N r x y g z c level : Int} {lo li : Int → Int} (I : clI W r x y g N lo N z c li) (hg : g ≤ level) : z ≤ level ↔ ∀ p, 0 ≤ p → p < N → rch W r x y lo p ≤ level := by
  obtain ⟨h1, h2, h3, -⟩ := I
  refine ⟨fun h p p0 p1 => by have := h3 p p0 p1; omega, fun h => ?_⟩
  rcases h2 with e | ⟨p, p0, p1, e⟩
  · omega
  · have := h p p0 p1; omega
/-! which sets may let a point sink -/
def lowR (W N r x y : Int) (lo : Int → Int) (L : Int) : Prop := r * 1048576 ≤ L ∧ (∀ p, 0 ≤ p → p < N → rch W r x y lo p ≤ L) ∧ (L = r * 1048576 ∨ ∃ p, 0 ≤ p ∧ p < N ∧ rch W r x y lo p = L)
theorem lowR_u {W N r x y L L' : Int} {lo : Int → Int} (h : lowR W N r x y lo L) (h' : lowR W N r x y lo L') : L = L' := by
  obtain ⟨a1, a2, a3⟩ := h
  obtain ⟨b1, b2, b3⟩ := h'
  rcases a3 with e | ⟨p, p0, p1, e⟩
  · rcases b3 with f | ⟨q, q0, q1, f⟩
    · omega
    · have := a2 q q0 q1; omega
  · have c := b2 p p0 p1
    rcases b3 with f | ⟨q, q0, q1, f⟩
    · omega
    · have := a2 q q0 q1; omega
theorem lowR_of {W N r x y z c : Int} {lo li : Int → Int} (I : clI W r x y (r * 1048576) N lo N z c li) : lowR W N r x y lo z := ⟨I.1, I.2.2.1, I.2.1⟩
def mlC (W N r : Int) (lo wa : Int → Int) (x y L : Int) : Prop := lowR W N r x y lo L ∧ ∃ p, 0 ≤ p ∧ p < N ∧ wa p = 1 ∧ rch W r x y lo p = L
def mlL (W N r ch : Int) (co ro ho ac al sd ow lo wa qp qt qs : Int → Int) (q i S : Int) : Prop := ∀ j, 0 ≤ j → j < i → ow (ho q + sd j) = q → ∀ L, mlC W N r lo wa (co q + ac j) (ro q + al j) L → abv r ch co ro qp qt qs L (co q + ac j) (ro q + al j) S
theorem ml_no {W N r ch q i S : Int} {co ro ho ac al sd ow lo wa qp qt qs : Int → Int} (hn : ¬ ow (ho q + sd i) = q ∨ ∀ L, ¬ mlC W N r lo wa (co q + ac i) (ro q + al i) L) : mlL W N r ch co ro ho ac al sd ow lo wa qp qt qs q i S ↔ mlL W N r ch co ro ho ac al sd ow lo wa qp qt qs q (i + 1) S :=
  ⟨fun h j j0 j1 e L f => if c : j = i then hn.elim (fun g => absurd (c ▸ e) g) (fun g => absurd (c ▸ f) (g L)) else h j j0 (by omega) e L f, fun h j j0 j1 e L f => h j j0 (by omega) e L f⟩
theorem ml_yes {W N r ch q i S z : Int} {co ro ho ac al sd ow lo wa qp qt qs : Int → Int} (hi : 0 ≤ i) (ho_ : ow (ho q + sd i) = q) (hz : mlC W N r lo wa (co q + ac i) (ro q + al i) z) : (mlL W N r ch co ro ho ac al sd ow lo wa qp qt qs q i S ∧ abv r ch co ro qp qt qs z (co q + ac i) (ro q + al i) S) ↔ mlL W N r ch co ro ho ac al sd ow lo wa qp qt qs q (i + 1) S :=
  ⟨fun h j j0 j1 e L f => if c : j = i then (by subst c; rw [lowR_u f.1 hz.1]; exact h.2) else h.1 j j0 (by omega) e L f, fun h => ⟨fun j j0 j1 e L f => h j j0 (by omega) e L f, h i hi (by omega) ho_ z hz⟩⟩
theorem ml_end {W N r sz ch q i left sets : Int} {co ro ho ac al sd ow lo wa qp qt qs : Int → Int} (hi : 0 ≤ i ∧ i ≤ sz) (I4 : ∀ S, tb left S = true ↔ tb sets S = true ∧ mlL W N r ch co ro ho ac al sd ow lo wa qp qt qs q i S) (hend : sz ≤ i ∨ left = 0) (S : Int) : tb left S = true ↔ tb sets S = true ∧ mlL W N r ch co ro ho ac al sd ow lo wa qp qt qs q sz S := by
  constructor
  · intro h
    have hf := (I4 S).mp h
    refine ⟨hf.1, fun j j0 j1 e L f => ?_⟩
    rcases hend with z | z
    · exact hf.2 j j0 (by omega) e L f
    · rw [z, tb_0] at h
      cases h
  · rintro ⟨a, b⟩
    exact (I4 S).mpr ⟨a, fun j j0 j1 e L f => b j j0 (by omega) e L f⟩
theorem ml_list {W N r x y z c : Int} {lo li wa : Int → Int} (hN : 0 ≤ N) (I : clI W r x y (r * 1048576) N lo N z c li) : (∃ k, 0 ≤ k ∧ k < c ∧ wa (li k) = 1) ↔ mlC W N r lo wa x y z := by
  constructor
  · rintro ⟨k, k0, k1, k2⟩
    have g := lsts_get hN I.2.2.2 k0 k1
    exact ⟨lowR_of I, li k, g.1, g.2.1, k2, by simpa using g.2.2.1⟩
  · rintro ⟨-, p, p0, p1, p2, p3⟩
    have g := I.2.2.2.2 p p0 p1 (by simpa using p3)
    have h := cz_lt (P := fun p => decide (rch W r x y lo p = z)) p0 p1 (by simpa using p3)
    have h2 := I.2.2.2.1
    have h3 := (cz_b (fun p => decide (rch W r x y lo p = z)) p0).1
    exact ⟨cz (fun p => decide (rch W r x y lo p = z)) p, h3, by omega, by rw [g]; exact p2⟩
