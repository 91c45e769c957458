/-! the sets, told in both ways; the states after a call -/
section TIE2
variable {W D_ r sz cn mn : Int} {co ro ho ac al sd lf sq hs rs ts rt_ hc re ow tc cp ck wa hM rM wM mp mk t wh sM hi : Int → Int}
theorem hit_tc {x y i j : Int} (hg : 1 ≤ W ∧ W ≤ 12 ∧ 1 ≤ D_ ∧ D_ ≤ 12 ∧ 1 ≤ r ∧ r ≤ 10) (hT : tpR W D_ ts t) (i0 : 0 ≤ i) (i1 : i < W) (j0 : 0 ≤ j) (j1 : j < D_) : hitAt W (W * D_) r x y ts (j * W + i) ↔ ∃ L, mR W D_ r x y t 144 L ∧ tcM W D_ r x y t L (12 * j + i) = true := by
  obtain ⟨hW1, hW2, hD1, hD2, hr1, hr2⟩ := hg
  have b := ix_b (D := D_) i0 i1 j0 j1
  constructor
  · rintro ⟨h1, h2⟩
    rcases rch_lv (x := x) (y := y) hr1 hr2 hW2 hT i0 i1 j0 j1 with ⟨q1, q2⟩ | ⟨q1, q2⟩
    · refine ⟨lvM r x y t (12 * j + i), ⟨by omega, Or.inr ⟨12 * j + i, by omega, by omega, q1, rfl⟩, fun k k0 k1 k2 => ?_⟩, tcM_t.mpr ⟨q1, rfl⟩⟩
      have o := (nrM_t.mp k2).1
      have e : 12 * (k / 12) + k % 12 = k := by omega
      have c := ix_b (i := k % 12) (j := k / 12) (W := W) (D := D_) (by omega) (by omega) (by omega) (by omega)
      rcases rch_lv (x := x) (y := y) (i := k % 12) (j := k / 12) hr1 hr2 hW2 hT (by omega) o.1 (by omega) o.2 with ⟨p1, p2⟩ | ⟨p1, p2⟩
      · rw [e] at p2
        have := h2 _ c.1 c.2
        omega
      · rw [e, k2] at p1; cases p1
    · omega
  · rintro ⟨L, hm, hc⟩
    obtain ⟨q1, q2⟩ := tcM_t.mp hc
    have hm1 := hm.1
    rcases rch_lv (x := x) (y := y) hr1 hr2 hW2 hT i0 i1 j0 j1 with ⟨p1, p2⟩ | ⟨p1, p2⟩
    · refine ⟨by omega, fun q q0 q3 => ?_⟩
      have o := ix_of (D := D_) (by omega) q0 q3
      rcases rch_lv (x := x) (y := y) (i := q % W) (j := q / W) hr1 hr2 hW2 hT o.1 o.2.1 o.2.2.1 o.2.2.2.1 with ⟨s1, s2⟩ | ⟨s1, s2⟩
      · rw [o.2.2.2.2] at s2
        have := hm.2.2 _ (by omega) (by omega) s1
        omega
      · rw [o.2.2.2.2] at s2; omega
    · rw [q1] at p1; cases p1
theorem safe_sa {i j : Int} (hg : 1 ≤ W ∧ W ≤ 12 ∧ 1 ≤ D_ ∧ D_ ≤ 12 ∧ 1 ≤ r ∧ r ≤ 10) (hT : tpR W D_ ts t) (i0 : 0 ≤ i) (i1 : i < W) (j0 : 0 ≤ j) (j1 : j < D_) : safeT W D_ r ts (j * W + i) ↔ saM W D_ r t (12 * j + i) := by
  have m := m12 (j := j) i0 (show i < 12 by omega)
  constructor
  · intro h
    refine ⟨ptM_t.mpr (by rw [m.1, m.2]; exact ⟨i1, j1⟩), fun P p0 p1 L hL => ?_⟩
    by_cases e : tcM W D_ r (plx W r P) (ply W r P) t L (12 * j + i) = true
    · exact absurd ((hit_tc hg hT i0 i1 j0 j1).mpr ⟨L, hL, e⟩) (h P p0 p1)
    · simpa using e
  · rintro ⟨-, h⟩ P p0 p1 hh
    obtain ⟨L, hL, e⟩ := (hit_tc hg hT i0 i1 j0 j1).mp hh
    rw [h P p0 p1 L hL] at e
    cases e
/-- the tips under a set, told in both ways -/
theorem tp_set {S : Int} (hW1 : 1 ≤ W) (hT : tpR W D_ ts t) (hh : ∀ i j, 0 ≤ i → i < W → 0 ≤ j → j < D_ → hM (12 * j + i) = hs (j * W + i) ∧ 0 ≤ hM (12 * j + i) ∧ hM (12 * j + i) ≤ 200) (hW2 : W ≤ 12) :
    ∀ n : Nat, (∀ q : Int, 0 ≤ q → q < n → (mk q = ck q ∧ 1 ≤ mk q ∧ mk q ≤ 50) ∧ ∃ i j, (0 ≤ i ∧ i < W) ∧ (0 ≤ j ∧ j < D_) ∧ cp q = j * W + i ∧ mp q = 12 * j + i) → tpR W D_ (tS ts hs cp ck S n) (tSM t hM mp mk S n)
  | 0, _ => hT
  | n + 1, hm => by
    have ih := tp_set (S := S) hW1 hT hh hW2 n (fun q q0 q1 => hm q q0 (by omega))
    intro i j i0 i1 j0 j1
    rw [tS, tSM]
    by_cases hb : tb S (n : Int) = true
    · rw [if_pos hb, if_pos hb]
      obtain ⟨h1, i', j', hi', hj', e1, e2⟩ := hm (n : Int) (by omega) (by omega)
      by_cases e : i = i' ∧ j = j'
      · rw [e.1, e.2, ← e1, ← e2, zu_s, zu_s, e1, e2]
        have a := hh i' j' hi'.1 hi'.2 hj'.1 hj'.2
        rw [← h1.1, a.1]
        omega
      · have n1 : j * W + i ≠ cp (n : Int) := by
          rw [e1]; intro q; exact e (ix_inj i0 i1 hi'.1 hi'.2 q)
        have n2 : 12 * j + i ≠ mp (n : Int) := by
          rw [e2]; intro q; apply e; omega
        rw [zu_n _ _ n1, zu_n _ _ n2]
        exact ih i j i0 i1 j0 j1
    · rw [if_neg hb, if_neg hb]
      exact ih i j i0 i1 j0 j1
theorem rel_hh (hW2 : W ≤ 12) (hD2 : D_ ≤ 12) (h : REL W D_ hs rs cp ck wa cn hM rM wM mp mk mn) : ∀ i j, 0 ≤ i → i < W → 0 ≤ j → j < D_ → hM (12 * j + i) = hs (j * W + i) ∧ 0 ≤ hM (12 * j + i) ∧ hM (12 * j + i) ≤ 200 := fun i j i0 i1 j0 j1 => by
  have a := (h.2.1 (12 * j + i) (by omega) (by omega)).1
  exact ⟨(h.1 i j i0 i1 j0 j1).1, a.1⟩
theorem do_does {S : Int} (hg : 1 ≤ W ∧ W ≤ 12 ∧ 1 ≤ D_ ∧ D_ ≤ 12 ∧ 1 ≤ r ∧ r ≤ 10) (h : REL W D_ hs rs cp ck wa cn hM rM wM mp mk mn) (hU : PUB W D_ r hs rs ts rt_ hc re ow tc cp ck wa cn) : doM W D_ r hM rM wM mp mk mn S ↔ doesS W D_ r cn ts hs cp ck wa S := by
  obtain ⟨hW1, hW2, hD1, hD2, hr1, hr2⟩ := id hg
  have hT := tp_set (S := S) (n := mn.toNat) hW1 (rel_tp h hU) (rel_hh hW2 hD2 h) hW2 (fun q q0 q1 => h.2.2.2.2 q q0 (by omega))
  have e : mn = cn := h.2.2.1
  rw [e] at hT
  constructor
  · intro hd p p0 p1 hw
    have o := ix_of (D := D_) (by omega) p0 p1
    have a := h.1 _ _ o.1 o.2.1 o.2.2.1 o.2.2.2.1
    rw [o.2.2.2.2] at a
    have b := hd (12 * (p / W) + p % W) (by omega) (by omega) (by rw [a.2.2]; exact hw)
    rw [e] at b
    have c := (safe_sa hg hT o.1 o.2.1 o.2.2.1 o.2.2.2.1).mpr b
    rw [o.2.2.2.2] at c
    exact c
  · intro hd k k0 k1 hw
    by_cases hp : k % 12 < W ∧ k / 12 < D_
    · have e2 : 12 * (k / 12) + k % 12 = k := by omega
      have b := ix_b (i := k % 12) (j := k / 12) (W := W) (D := D_) (by omega) hp.1 (by omega) hp.2
      have a := h.1 (k % 12) (k / 12) (by omega) hp.1 (by omega) hp.2
      rw [e2] at a
      have c := (safe_sa hg hT (i := k % 12) (j := k / 12) (by omega) hp.1 (by omega) hp.2).mp (hd _ b.1 b.2 (by rw [← a.2.2]; exact hw))
      rw [e2] at c
      rw [e]
      exact c
    · have := (h.2.1 k k0 k1).2.2 hp
      omega
theorem tie_choose {z1 z2 : Int} (hg : 1 ≤ W ∧ W ≤ 12 ∧ 1 ≤ D_ ∧ D_ ≤ 12 ∧ 1 ≤ r ∧ r ≤ 10) (h : REL W D_ hs rs cp ck wa cn hM rM wM mp mk mn) (hU : PUB W D_ r hs rs ts rt_ hc re ow tc cp ck wa cn) (h1 : ansI W D_ r cn ts hs cp ck wa z1) (h2 : CHM W D_ r hM rM wM mp mk mn z2 (zshl 1 mn)) : z1 = z2 := by
  have hd := fun S => do_does (S := S) hg h hU
  have e : mn = cn := h.2.2.1
  have hl : ∀ S (n : Nat), n ≤ mn.toNat → lnS mk S n = lnS ck S n := by
    intro S n
    induction n with
    | zero => intro _; rfl
    | succ n ih =>
      intro hn
      rw [lnS, lnS, ih (by omega), (h.2.2.2.2 (n : Int) (by omega) (by omega)).1.1]
  have hbt : ∀ S T, btr mk mn S T → btr ck cn S T := by
    intro S T hb
    unfold btr at *
    rw [hl S _ (Nat.le_refl _), hl T _ (Nat.le_refl _), e] at hb
    exact hb
  rcases h1 with ⟨a1, a2⟩ | ⟨a1, a2, a3, a4⟩
  · rcases h2 with ⟨b1, b2⟩ | ⟨b1, b2, b3, b4⟩
    · omega
    · exact absurd ((hd z2).mp b3) (a2 z2 b1 (by rw [← e]; exact b2))
  · rcases h2 with ⟨b1, b2⟩ | ⟨b1, b2, b3, b4⟩
    · exact absurd ((hd z1).mpr a3) (b2 z1 a1 (by rw [e]; exact a2))
    · rcases a4 z2 b1 (by rw [← e]; exact b2) ((hd z2).mp b3) with q | q
      · exact q.symm
      · rcases b4 z1 a1 (by rw [e]; exact a2) ((hd z1).mpr a3) with p | p
        · exact p
        · exact absurd (hbt _ _ p) (btr_as q)
theorem rel_h {x y v : Int} (hW2 : W ≤ 12) (hD2 : D_ ≤ 12) (hp : (0 ≤ x ∧ x < W) ∧ 0 ≤ y ∧ y < D_) (hv : 0 ≤ v ∧ v ≤ 200) (h : REL W D_ hs rs cp ck wa cn hM rM wM mp mk mn) : REL W D_ (zu hs (y * W + x) v) rs cp ck wa cn (zu hM (12 * y + x) v) rM wM mp mk mn := by
  refine ⟨fun i j i0 i1 j0 j1 => ?_, fun k k0 k1 => ?_, h.2.2⟩
  · have a := h.1 i j i0 i1 j0 j1
    by_cases e : i = x ∧ j = y
    · rw [e.1, e.2, zu_s, zu_s]; rw [e.1, e.2] at a; exact ⟨rfl, a.2⟩
    · rw [zu_n _ _ (fun q => e (ix_inj i0 i1 hp.1.1 hp.1.2 q)), zu_n _ _ (fun q => e (by omega))]; exact a
  · have a := h.2.1 k k0 k1
    by_cases e : k = 12 * y + x
    · rw [e, zu_s]; rw [e] at a; exact ⟨⟨hv, a.1.2⟩, a.2⟩
    · rw [zu_n _ _ e]; exact a
theorem rel_r {x y v : Int} (hW2 : W ≤ 12) (hD2 : D_ ≤ 12) (hp : (0 ≤ x ∧ x < W) ∧ 0 ≤ y ∧ y < D_) (hv : 0 ≤ v ∧ v ≤ 50) (h : REL W D_ hs rs cp ck wa cn hM rM wM mp mk mn) : REL W D_ hs (zu rs (y * W + x) v) cp ck wa cn hM (zu rM (12 * y + x) v) wM mp mk mn := by
  refine ⟨fun i j i0 i1 j0 j1 => ?_, fun k k0 k1 => ?_, h.2.2⟩
  · have a := h.1 i j i0 i1 j0 j1
    by_cases e : i = x ∧ j = y
    · rw [e.1, e.2, zu_s, zu_s]; rw [e.1, e.2] at a; exact ⟨a.1, rfl, a.2.2⟩
    · rw [zu_n _ _ (fun q => e (ix_inj i0 i1 hp.1.1 hp.1.2 q)), zu_n _ _ (fun q => e (by omega))]; exact a
  · have a := h.2.1 k k0 k1
    by_cases e : k = 12 * y + x
    · rw [e, zu_s]; rw [e] at a; exact ⟨⟨a.1.1, hv⟩, a.2⟩
    · rw [zu_n _ _ e]; exact a
theorem rel_w {x y v : Int} (hW2 : W ≤ 12) (hD2 : D_ ≤ 12) (hp : (0 ≤ x ∧ x < W) ∧ 0 ≤ y ∧ y < D_) (hv : v = 0 ∨ v = 1) (h : REL W D_ hs rs cp ck wa cn hM rM wM mp mk mn) : REL W D_ hs rs cp ck (zu wa (y * W + x) v) cn hM rM (zu wM (12 * y + x) v) mp mk mn := by
  refine ⟨fun i j i0 i1 j0 j1 => ?_, fun k k0 k1 => ?_, h.2.2⟩
  · have a := h.1 i j i0 i1 j0 j1
    by_cases e : i = x ∧ j = y
    · rw [e.1, e.2, zu_s, zu_s]; rw [e.1, e.2] at a; exact ⟨a.1, a.2.1, rfl⟩
    · rw [zu_n _ _ (fun q => e (ix_inj i0 i1 hp.1.1 hp.1.2 q)), zu_n _ _ (fun q => e (by omega))]; exact a
  · have a := h.2.1 k k0 k1
    by_cases e : k = 12 * y + x
    · rw [e, zu_s]; rw [e] at a
      exact ⟨a.1, hv, fun q => absurd (show (12 * y + x) % 12 < W ∧ (12 * y + x) / 12 < D_ by omega) q⟩
    · rw [zu_n _ _ e]; exact a
theorem rel_may {x y v : Int} (hp : (0 ≤ x ∧ x < W) ∧ 0 ≤ y ∧ y < D_) (hv : 1 ≤ v ∧ v ≤ 50) (hc : cn < 4) (h : REL W D_ hs rs cp ck wa cn hM rM wM mp mk mn) : REL W D_ hs rs (zu cp cn (y * W + x)) (zu ck cn v) wa (cn + 1) hM rM wM (zu mp mn (12 * y + x)) (zu mk mn v) (mn + 1) := by
  have e := h.2.2.1
  have b := h.2.2.2.1
  refine ⟨h.1, h.2.1, by omega, by omega, fun q q0 q1 => ?_⟩
  by_cases e2 : q = mn
  · rw [e2, zu_s, zu_s, e, zu_s, zu_s]
    exact ⟨⟨rfl, hv⟩, x, y, hp.1, hp.2, rfl, rfl⟩
  · rw [zu_n _ _ e2, zu_n _ _ e2, zu_n _ _ (by omega), zu_n _ _ (by omega)]
    exact h.2.2.2.2 q q0 (by omega)
theorem rel_forget (h : REL W D_ hs rs cp ck wa cn hM rM wM mp mk mn) : REL W D_ hs rs cp ck wa 0 hM rM wM mp mk 0 := ⟨h.1, h.2.1, rfl, by decide, fun q q0 q1 => by omega⟩
theorem rel_put_n {S : Int} (hW2 : W ≤ 12) (hD2 : D_ ≤ 12) (h : REL W D_ hs rs cp ck wa cn hM rM wM mp mk mn) : ∀ n : Nat, n ≤ mn.toNat → REL W D_ hs (rS rs cp ck S n) cp ck wa cn hM (rSM rM mp mk S n) wM mp mk mn
  | 0, _ => h
  | n + 1, hn => by
    have ih := rel_put_n (S := S) hW2 hD2 h n (by omega)
    rw [rS, rSM]
    by_cases hb : tb S (n : Int) = true
    · rw [if_pos hb, if_pos hb]
      obtain ⟨h1, i', j', hi', hj', e1, e2⟩ := h.2.2.2.2 (n : Int) (by omega) (by omega)
      rw [e1, e2, ← h1.1]
      exact rel_r hW2 hD2 ⟨hi', hj'⟩ (by omega) ih
    · rw [if_neg hb, if_neg hb]
      exact ih
theorem rel_put {S : Int} (hW2 : W ≤ 12) (hD2 : D_ ≤ 12) (h : REL W D_ hs rs cp ck wa cn hM rM wM mp mk mn) : REL W D_ hs (rS rs cp ck S cn.toNat) cp ck wa cn hM (rSM rM mp mk S mn.toNat) wM mp mk mn := by
  have a := rel_put_n (S := S) hW2 hD2 h mn.toNat (Nat.le_refl _)
  rw [← h.2.2.1]
  exact h.2.2.1.symm ▸ a
theorem tie_put {S z1 z2 : Int} {ts' rt' hc' re' ow' tc' wh1 sM1 hi1 wh' sM' hi' : Int → Int} (hG : GE W D_ r sz co ro ho ac al sd lf sq) (h : REL W D_ hs rs cp ck wa cn hM rM wM mp mk mn) (hU : PUB W D_ r hs rs ts rt_ hc re ow tc cp ck wa cn)
    (hU' : PUB W D_ r hs (rS rs cp ck S cn.toNat) ts' rt' hc' re' ow' tc' cp ck wa cn) (h1 : z1 = cz (fun p => decide (¬ bi (decide (hc p = 0)) = bi (decide (hc' p = 0)))) (W * D_))
    (I1 : RLI W D_ r (fun k => hM k + rM k) wh1 sM1 hi1 ((W + 2 * r) * (D_ + 2 * r))) (I2 : RLI W D_ r (fun k => hM k + rSM rM mp mk S mn.toNat k) wh' sM' hi' ((W + 2 * r) * (D_ + 2 * r)))
    (h2 : z2 = cz (fun j => decide (¬ bi (sfM W D_ hi1 j) = bi (sfM W D_ hi' j))) 144) : z1 = z2 := by
  obtain ⟨⟨hW1, hW2, hD1, hD2, hr1, hr2⟩, -⟩ := id hG
  have a1 := fun i j i0 i1 j0 j1 => hit_eq hG hU.1 (rel_tp h hU) I1 (i := i) (j := j) i0 i1 j0 j1
  have a2 := fun i j i0 i1 j0 j1 => hit_eq hG hU'.1 (rel_tp (rel_put (S := S) hW2 hD2 h) hU') I2 (i := i) (j := j) i0 i1 j0 j1
  have sf : ∀ (hx : Int → Int) i j, 0 ≤ i → i < W → 0 ≤ j → j < D_ → sfM W D_ hx (12 * j + i) = decide (hx (12 * j + i) = 0) := by
    intro hx i j i0 i1 j0 j1
    rw [Bool.eq_iff_iff, decide_eq_true_eq, sfM_t, (m12 i0 (by omega)).1, (m12 i0 (by omega)).2]
    exact ⟨fun q => q.2, fun q => ⟨⟨i1, j1⟩, q⟩⟩
  rw [h1, h2]
  refine ((cz_12 hW1 hW2 hD1 hD2 (fun k k0 k1 hk => ?_) (fun i j i0 i1 j0 j1 => ?_)).2).symm
  · by_cases e : k % 12 < W ∧ k / 12 < D_
    · exact e
    · have f1 : sfM W D_ hi1 k = false := sfM_f.mpr (fun q => e q.1)
      have f2 : sfM W D_ hi' k = false := sfM_f.mpr (fun q => e q.1)
      rw [f1, f2] at hk
      simp at hk
  · rw [sf hi1 i j i0 i1 j0 j1, sf hi' i j i0 i1 j0 j1, a1 i j i0 i1 j0 j1, a2 i j i0 i1 j0 j1]
theorem rel_new (W D_ : Int) (cp ck mp mk : Int → Int) : REL W D_ (fun _ => 0) (fun _ => 0) cp ck (fun _ => 0) 0 (fun _ => 0) (fun _ => 0) (fun _ => 0) mp mk 0 :=
  ⟨fun _ _ _ _ _ _ => ⟨rfl, rfl, rfl⟩, fun _ _ _ => ⟨⟨⟨Int.le_refl 0, by show (0 : Int) ≤ 200; decide⟩, Int.le_refl 0, by show (0 : Int) ≤ 50; decide⟩, Or.inl rfl, fun _ => rfl⟩, rfl, by decide, fun q q0 q1 => by omega⟩
end TIE2
