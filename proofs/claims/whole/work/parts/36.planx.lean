/-! A set does just if it is left over by the looks at the wanted points and at the points that may sink. -/
def isC (cp : Int → Int) (cn p : Int) : Prop := ∃ j, 0 ≤ j ∧ j < cn ∧ cp j = p
/-- what is known of the choices and the lowest tips, for one set -/
def XS (W D_ r cn ch : Int) (ts hs cp ck qp qt qs lo : Int → Int) (S : Int) : Prop :=
  (∀ n, 0 ≤ n → n < ch → isC cp cn (qp n) ∧ (tb (qs n) S = true → tS ts hs cp ck S cn.toNat (qp n) = qt n)) ∧ (∀ p, isC cp cn p → ∃ n, 0 ≤ n ∧ n < ch ∧ qp n = p ∧ tb (qs n) S = true) ∧
  (∀ p, ¬ isC cp cn p → tS ts hs cp ck S cn.toNat p = ts p) ∧ (∀ p, 0 ≤ p → p < W * D_ → lo p ≤ tS ts hs cp ck S cn.toNat p ∧ lo p ≤ ts p) ∧ (∀ p, 0 ≤ p → p < W * D_ → ¬ isC cp cn p → lo p = ts p)
theorem XS_of {W D_ r cn ch sk S : Int} {ts hs cp ck qp qt qs lo : Int → Int} (hcn : 0 ≤ cn) (hC : CHI ts hs cp ck cn cn ch qp qt qs sk) (hL : LOI (W * D_) ch ts qp qt lo) (s0 : 0 ≤ S) (s1 : S < 16) : XS W D_ r cn ch ts hs cp ck qp qt qs lo S := by
  have hc : (cn.toNat : Int) = cn := by omega
  have h3 : ∀ p, ¬ isC cp cn p → tS ts hs cp ck S cn.toNat p = ts p := fun p hp => tS_none (fun j j0 j1 q => absurd ⟨j, j0, by omega, q⟩ hp)
  have h2 : ∀ p, isC cp cn p → ∃ n, 0 ≤ n ∧ n < ch ∧ qp n = p ∧ tb (qs n) S = true := by
    rintro p ⟨j, j0, j1, rfl⟩
    exact CHI_all hC j0 j1 s0 s1
  refine ⟨fun n n0 n1 => ?_, h2, h3, fun p p0 p1 => ?_, fun p p0 p1 hp => ?_⟩
  · obtain ⟨⟨j, j0, j1, j2⟩, -, b⟩ := hC.1 n n0 n1
    exact ⟨⟨j, j0, j1, j2.symm⟩, b S s0 s1⟩
  · obtain ⟨a, b, -⟩ := hL p p0 p1
    refine ⟨?_, a⟩
    by_cases e : isC cp cn p
    · obtain ⟨n, n0, n1, n2, n3⟩ := h2 p e
      have f := (hC.1 n n0 n1).2.2 S s0 s1 n3
      rw [n2] at f
      rw [f]
      exact b n n0 n1 n2
    · rw [h3 p e]; exact a
  · obtain ⟨-, -, b⟩ := hL p p0 p1
    rcases b with q | ⟨n, n0, n1, n2, n3⟩
    · exact q
    · obtain ⟨⟨j, j0, j1, j2⟩, -⟩ := hC.1 n n0 n1
      exact absurd ⟨j, j0, j1, j2.symm.trans n2⟩ hp
/-- a candidate's point is above a level just if it is so among the choices -/
theorem XS_abv {W D_ r cn ch S L x y : Int} {ts hs cp ck qp qt qs lo co ro : Int → Int} (X : XS W D_ r cn ch ts hs cp ck qp qt qs lo S) (hco : ∀ p, 0 ≤ p → p < W * D_ → co p = p % W ∧ ro p = p / W) (hcp : ∀ p, isC cp cn p → 0 ≤ p ∧ p < W * D_) :
    abv r ch co ro qp qt qs L x y S ↔ ∃ p, isC cp cn p ∧ L < rch W r x y (tS ts hs cp ck S cn.toNat) p := by
  constructor
  · rintro ⟨n, n0, n1, n2, n3⟩
    obtain ⟨a, b⟩ := X.1 n n0 n1
    have c := hcp _ a
    have d := hco _ c.1 c.2
    refine ⟨qp n, a, ?_⟩
    rw [rch, b n3, ← d.1, ← d.2]
    exact n2
  · rintro ⟨p, a, b⟩
    obtain ⟨n, n0, n1, n2, n3⟩ := X.2.1 p a
    have c := hcp _ a
    have d := hco _ c.1 c.2
    have e := (X.1 n n0 n1).2 n3
    refine ⟨n, n0, n1, ?_, n3⟩
    rw [rch] at b
    rw [← e, n2, d.1, d.2]
    exact b
theorem rch_m {W r x y p : Int} {T T' : Int → Int} (h : T p ≤ T' p) : rch W r x y T p ≤ rch W r x y T' p := by rw [rch, rch]; omega
theorem rch_e {W r x y p : Int} {T T' : Int → Int} (h : T p = T' p) : rch W r x y T p = rch W r x y T' p := by rw [rch, rch, h]
/-- the owner of a place whose rest is above a level from which it sinks -/
theorem own_sinks {W D_ r sz : Int} {co ro ho ac al sd lf sq : Int → Int} (hG : GE W D_ r sz co ro ho ac al sd lf sq) {ts re tc ow hc : Int → Int} (hB : BI W D_ r ts re tc ow hc) {P L : Int} {T : Int → Int} (h0 : 0 ≤ P) (h1 : P < (W + 2 * r) * (D_ + 2 * r)) (hg : r * 1048576 ≤ L) (hL : L < re P) (hT : ∀ q, 0 ≤ q → q < W * D_ → rch W r (plx W r P) (ply W r P) T q ≤ L) :
    ow P ≠ -1 ∧ 0 ≤ ow P ∧ ow P < W * D_ ∧ rch W r (plx W r P) (ply W r P) ts (ow P) = re P ∧ T (ow P) < ts (ow P) := by
  have hp : PLv W (W * D_) r (plx W r P) (ply W r P) ts (re P) (tc P) (ow P) := hB.1 P h0 h1
  have hT2 := PLv_T hp
  have hne : ow P ≠ -1 := fun e => by
    have hz := hT2.1 e
    rcases hp.2.1 with q | ⟨p, p0, p1, p2⟩
    · omega
    · have a := cz_lt (P := tch W r (plx W r P) (ply W r P) ts (re P)) p0 p1 (tch_t.mpr p2)
      have b := (cz_b (tch W r (plx W r P) (ply W r P) ts (re P)) p0).1
      have c := hp.2.2.2.1
      omega
  obtain ⟨a, b, c, -⟩ := hT2.2 hne
  refine ⟨hne, a, b, c, ?_⟩
  have d := hT _ a b
  rw [rch] at c d
  omega
section EX
variable {W D_ r sz cn ch S : Int} {co ro ho ac al sd lf sq ts hs cp ck qp qt qs lo re tc ow hc wa : Int → Int}
/-- a candidate's own point -/
theorem ex_cand (hG : GE W D_ r sz co ro ho ac al sd lf sq) (hB : BI W D_ r ts re tc ow hc) (X : XS W D_ r cn ch ts hs cp ck qp qt qs lo S) (hcp : ∀ p, isC cp cn p → 0 ≤ p ∧ p < W * D_) {p : Int} (hp : isC cp cn p) (hb : tS ts hs cp ck S cn.toNat p ≤ 262144000) {t : Int} (ht : t = tS ts hs cp ck S cn.toNat p) :
    cvL W (W * D_) r ch co ro ho ac al sd lf ts re ow lo qp qt qs p t sz S ↔ safeT W D_ r (tS ts hs cp ck S cn.toNat) p := by
  obtain ⟨p0, p1⟩ := hcp p hp
  have hr := hG.1
  have hco : ∀ p, 0 ≤ p → p < W * D_ → co p = p % W ∧ ro p = p / W := fun p a b => by have := ge_p hG a b; exact ⟨this.1, this.2.1⟩
  constructor
  · intro h P q0 q1 hit
    obtain ⟨g1, g2⟩ := hit
    have hreach := ge_ex hG p0 p1 q0 q1
    rcases hreach with e | ⟨j, j0, j1, j2, j3⟩
    · rw [rch, e] at g1; omega
    · have a := ge_k hG p0 p1 j0 j1
      have ex : plx W r P = co p + ac j := by rw [j2]; exact a.2.2.2.2.2.1
      have ey : ply W r P = ro p + al j := by rw [j2]; exact a.2.2.2.2.2.2.1
      have el : rch W r (co p + ac j) (ro p + al j) (tS ts hs cp ck S cn.toNat) p = t + lf j := by rw [a.2.2.2.2.2.2.2.2.2, ht]
      rw [ex, ey] at g1 g2
      rw [el] at g1 g2
      have hcv : cvC W (W * D_) r ts re ow lo (t + lf j) (ho p + sd j) (co p + ac j) (ro p + al j) := by
        by_cases c : re P ≤ t + lf j
        · left; rw [← j2]; exact c
        · right
          have o := own_sinks hG hB q0 q1 g1 (by omega) (T := tS ts hs cp ck S cn.toNat) (by rw [ex, ey]; exact g2)
          rw [← j2]
          have l1 := (X.2.2.2.1 _ o.2.1 o.2.2.1).1
          refine ⟨⟨o.1, by have := o.2.2.2.2; omega⟩, fun q a0 a1 => ?_⟩
          have b := rch_m (W := W) (r := r) (x := co p + ac j) (y := ro p + al j) (X.2.2.2.1 q a0 a1).1
          have c2 := g2 q a0 a1
          omega
      have hab := h j j0 j1 g1 hcv
      obtain ⟨q, hq, hq2⟩ := (XS_abv X hco hcp).mp hab
      have b := hcp q hq
      have c2 := g2 q b.1 b.2
      omega
  · intro h j j0 j1 g1 hcv
    have a := ge_k hG p0 p1 j0 j1
    have el : rch W r (co p + ac j) (ro p + al j) (tS ts hs cp ck S cn.toNat) p = t + lf j := by rw [a.2.2.2.2.2.2.2.2.2, ht]
    have hn := h (ho p + sd j) a.2.2.2.1 a.2.2.2.2.1
    rw [a.2.2.2.2.2.1, a.2.2.2.2.2.2.1] at hn
    by_cases c : ∃ q, 0 ≤ q ∧ q < W * D_ ∧ t + lf j < rch W r (co p + ac j) (ro p + al j) (tS ts hs cp ck S cn.toNat) q
    · obtain ⟨q, b0, b1, b2⟩ := c
      by_cases d : isC cp cn q
      · exact (XS_abv X hco hcp).mpr ⟨q, d, b2⟩
      · exfalso
        rcases hcv with e | ⟨-, e⟩
        · have f := (hB.1 _ a.2.2.2.1 a.2.2.2.2.1).2.2.1 q b0 b1
          simp only [a.2.2.2.2.2.1, a.2.2.2.2.2.2.1] at f
          have f2 := rch_e (W := W) (r := r) (x := co p + ac j) (y := ro p + al j) (X.2.2.1 q d)
          omega
        · have f := e q b0 b1
          have f2 := rch_e (W := W) (r := r) (x := co p + ac j) (y := ro p + al j) (X.2.2.1 q d)
          have f3 := rch_e (W := W) (r := r) (x := co p + ac j) (y := ro p + al j) (X.2.2.2.2 q b0 b1 d)
          omega
    · exfalso
      refine hn ⟨by rw [el]; exact g1, fun q b0 b1 => ?_⟩
      rw [el]
      by_cases d : t + lf j < rch W r (co p + ac j) (ro p + al j) (tS ts hs cp ck S cn.toNat) q
      · exact absurd ⟨q, b0, b1, d⟩ c
      · omega
/-- another point: where nothing sinks, the places where it is touched say it -/
theorem ex_free (hG : GE W D_ r sz co ro ho ac al sd lf sq) (hB : BI W D_ r ts re tc ow hc) (X : XS W D_ r cn ch ts hs cp ck qp qt qs lo S) (hcp : ∀ p, isC cp cn p → 0 ≤ p ∧ p < W * D_) {p : Int} (p0 : 0 ≤ p) (p1 : p < W * D_) (hp : ¬ isC cp cn p) (h : safeT W D_ r (tS ts hs cp ck S cn.toNat) p) : frA W D_ r ch co ro ts re qp qt qs p S := by
  have hco : ∀ p, 0 ≤ p → p < W * D_ → co p = p % W ∧ ro p = p / W := fun p a b => by have := ge_p hG a b; exact ⟨this.1, this.2.1⟩
  intro P q0 q1 e
  have hb := hB.1 P q0 q1
  have hn := h P q0 q1
  have ep := rch_e (W := W) (r := r) (x := plx W r P) (y := ply W r P) (X.2.2.1 p hp)
  by_cases c : ∃ q, 0 ≤ q ∧ q < W * D_ ∧ re P < rch W r (plx W r P) (ply W r P) (tS ts hs cp ck S cn.toNat) q
  · obtain ⟨q, b0, b1, b2⟩ := c
    by_cases d : isC cp cn q
    · exact (XS_abv X hco hcp).mpr ⟨q, d, b2⟩
    · exfalso
      have f := hb.2.2.1 q b0 b1
      have f2 := rch_e (W := W) (r := r) (x := plx W r P) (y := ply W r P) (X.2.2.1 q d)
      simp only at f
      omega
  · exfalso
    refine hn ⟨by have := hb.1; omega, fun q b0 b1 => ?_⟩
    by_cases d : re P < rch W r (plx W r P) (ply W r P) (tS ts hs cp ck S cn.toNat) q
    · exact absurd ⟨q, b0, b1, d⟩ c
    · omega
/-- of a point that is not a candidate's: it is hit under the set only where it is touched now, or where the ball sinks -/
theorem ex_hit (hG : GE W D_ r sz co ro ho ac al sd lf sq) (hB : BI W D_ r ts re tc ow hc) (X : XS W D_ r cn ch ts hs cp ck qp qt qs lo S) (hcp : ∀ p, isC cp cn p → 0 ≤ p ∧ p < W * D_) {p : Int} (p0 : 0 ≤ p) (p1 : p < W * D_) (hp : ¬ isC cp cn p) (hf : frA W D_ r ch co ro ts re qp qt qs p S) (hts : ∀ p, 0 ≤ p → p < W * D_ → ts p ≤ 262144000)
    (hs_ : (∀ q, 0 ≤ q → q < W * D_ → ts q ≤ tS ts hs cp ck S cn.toNat q) ∨ (wa p = 1 ∧ ∀ q, 0 ≤ q → q < W * D_ → lo q < ts q → mlL W (W * D_) r ch co ro ho ac al sd ow lo wa qp qt qs q sz S)) : safeT W D_ r (tS ts hs cp ck S cn.toNat) p := by
  have hco : ∀ p, 0 ≤ p → p < W * D_ → co p = p % W ∧ ro p = p / W := fun p a b => by have := ge_p hG a b; exact ⟨this.1, this.2.1⟩
  have hr := hG.1
  intro P q0 q1 hit
  obtain ⟨g1, g2⟩ := hit
  have hb := hB.1 P q0 q1
  have ep := rch_e (W := W) (r := r) (x := plx W r P) (y := ply W r P) (X.2.2.1 p hp)
  have hle := hb.2.2.1 p p0 p1
  simp only at hle
  rw [ep] at g1 g2
  by_cases c : rch W r (plx W r P) (ply W r P) ts p = re P
  · have hab := hf P q0 q1 c
    obtain ⟨q, hq, hq2⟩ := (XS_abv X hco hcp).mp hab
    have b := hcp q hq
    have c2 := g2 q b.1 b.2
    omega
  · have o := own_sinks hG hB q0 q1 g1 (by omega) (T := tS ts hs cp ck S cn.toNat) g2
    rcases hs_ with h | ⟨hw, h⟩
    · have := h _ o.2.1 o.2.2.1
      omega
    · have l1 := (X.2.2.2.1 _ o.2.1 o.2.2.1).1
      have hm := h _ o.2.1 o.2.2.1 (by have := o.2.2.2.2; omega)
      have hto := hts _ o.2.1 o.2.2.1
      rcases ge_ex hG o.2.1 o.2.2.1 q0 q1 with e | ⟨j, j0, j1, j2, j3⟩
      · have := o.2.2.2.1
        rw [rch, e] at this
        have := hb.1
        omega
      · have a := ge_k hG o.2.1 o.2.2.1 j0 j1
        have ex : plx W r P = co (ow P) + ac j := by rw [← a.2.2.2.2.2.1, ← j2]
        have ey : ply W r P = ro (ow P) + al j := by rw [← a.2.2.2.2.2.2.1, ← j2]
        have hab := hm j j0 j1 (by rw [← j2]) (rch W r (plx W r P) (ply W r P) ts p) (by
          rw [← ex, ← ey]
          refine ⟨⟨g1, fun q a0 a1 => ?_, Or.inr ⟨p, p0, p1, rch_e (X.2.2.2.2 p p0 p1 hp)⟩⟩, p, p0, p1, hw, rch_e (X.2.2.2.2 p p0 p1 hp)⟩
          have b := rch_m (W := W) (r := r) (x := plx W r P) (y := ply W r P) (X.2.2.2.1 q a0 a1).1
          have c2 := g2 q a0 a1
          omega)
        rw [← ex, ← ey] at hab
        obtain ⟨q, hq, hq2⟩ := (XS_abv X hco hcp).mp hab
        have b := hcp q hq
        have c2 := g2 q b.1 b.2
        omega
/-- a set that does lets points sink without harm -/
theorem ex_low (hG : GE W D_ r sz co ro ho ac al sd lf sq) (X : XS W D_ r cn ch ts hs cp ck qp qt qs lo S) (hcp : ∀ p, isC cp cn p → 0 ≤ p ∧ p < W * D_) (hd : ∀ p, 0 ≤ p → p < W * D_ → wa p = 1 → safeT W D_ r (tS ts hs cp ck S cn.toNat) p) {c : Int} (c0 : 0 ≤ c) (c1 : c < W * D_) : mlL W (W * D_) r ch co ro ho ac al sd ow lo wa qp qt qs c sz S := by
  have hco : ∀ p, 0 ≤ p → p < W * D_ → co p = p % W ∧ ro p = p / W := fun p a b => by have := ge_p hG a b; exact ⟨this.1, this.2.1⟩
  intro j j0 j1 _ L hL
  obtain ⟨⟨l1, l2, -⟩, p, p0, p1, p2, p3⟩ := hL
  have a := ge_k hG c0 c1 j0 j1
  have hn := hd p p0 p1 p2 (ho c + sd j) a.2.2.2.1 a.2.2.2.2.1
  rw [a.2.2.2.2.2.1, a.2.2.2.2.2.2.1] at hn
  have hm := rch_m (W := W) (r := r) (x := co c + ac j) (y := ro c + al j) (X.2.2.2.1 p p0 p1).1
  have key : ∃ q, 0 ≤ q ∧ q < W * D_ ∧ L < rch W r (co c + ac j) (ro c + al j) (tS ts hs cp ck S cn.toNat) q := by
    by_cases e : L < rch W r (co c + ac j) (ro c + al j) (tS ts hs cp ck S cn.toNat) p
    · exact ⟨p, p0, p1, e⟩
    · by_cases d : ∃ q, 0 ≤ q ∧ q < W * D_ ∧ L < rch W r (co c + ac j) (ro c + al j) (tS ts hs cp ck S cn.toNat) q
      · exact d
      · exfalso
        refine hn ⟨by omega, fun q b0 b1 => ?_⟩
        by_cases f : L < rch W r (co c + ac j) (ro c + al j) (tS ts hs cp ck S cn.toNat) q
        · exact absurd ⟨q, b0, b1, f⟩ d
        · omega
  obtain ⟨q, b0, b1, b2⟩ := key
  by_cases d : isC cp cn q
  · exact (XS_abv X hco hcp).mpr ⟨q, d, b2⟩
  · exfalso
    have f := l2 q b0 b1
    have f2 := rch_e (W := W) (r := r) (x := co c + ac j) (y := ro c + al j) (X.2.2.1 q d)
    have f3 := rch_e (W := W) (r := r) (x := co c + ac j) (y := ro c + al j) (X.2.2.2.2 q b0 b1 d)
    omega
end EX
