/-! the ball over a house without tips -/
def hm (W r p : Int) : Int := (p / W + r) * (W + 2 * r) + (p % W + r)
def BN (W D_ r i : Int) (ho hc ow tc : Int → Int) : Prop :=
  (∀ p, 0 ≤ p → p < i → ho p = hm W r p ∧ hc p = 1 ∧ ow (hm W r p) = p ∧ tc (hm W r p) = 1) ∧ (∀ P, 0 ≤ P → P < (W + 2 * r) * (D_ + 2 * r) → (∀ p, 0 ≤ p → p < i → hm W r p ≠ P) → ow P = -1 ∧ tc P = 0)
theorem hm_inj {W D_ r p q : Int} (hW : 1 ≤ W) (hr : 1 ≤ r) (p0 : 0 ≤ p) (p1 : p < W * D_) (q0 : 0 ≤ q) (q1 : q < W * D_) (h : hm W r p = hm W r q) : p = q := by
  have a := ix_of (by omega) p0 p1
  have b := ix_of (by omega) q0 q1
  have e := ix_inj (W := W + 2 * r) (i := p % W + r) (j := p / W + r) (i' := q % W + r) (j' := q / W + r) (by omega) (by omega) (by omega) (by omega) h
  rw [← a.2.2.2.2, ← b.2.2.2.2, show p / W = q / W by omega, show p % W = q % W by omega]
theorem hm_b {W D_ r p : Int} (hW : 1 ≤ W) (hr : 1 ≤ r) (p0 : 0 ≤ p) (p1 : p < W * D_) : 0 ≤ hm W r p ∧ hm W r p < (W + 2 * r) * (D_ + 2 * r) ∧ plx W r (hm W r p) = p % W ∧ ply W r (hm W r p) = p / W := by
  have a := ix_of (by omega) p0 p1
  have b := pl_in (W := W) (D_ := D_) (r := r) (x := p % W) (y := p / W) (by omega) (by omega) (by omega) (by omega)
  have c := pl_at (W := W) (r := r) (x := p % W) (y := p / W) (by omega) (by omega)
  exact ⟨b.1, b.2, c.1, c.2⟩
theorem bn_0 {W D_ r : Int} {ow tc ho hc : Int → Int} (h1 : ∀ P, 0 ≤ P → P < (W + 2 * r) * (D_ + 2 * r) → ow P = -1) (h2 : ∀ P, 0 ≤ P → P < (W + 2 * r) * (D_ + 2 * r) → tc P = 0) : BN W D_ r 0 ho hc ow tc :=
  ⟨fun p p0 p1 => by omega, fun P p0 p1 _ => ⟨h1 P p0 p1, h2 P p0 p1⟩⟩
theorem bn_s {W D_ r i : Int} {ow tc ho hc : Int → Int} (hW : 1 ≤ W) (hr : 1 ≤ r) (hi : 0 ≤ i) (hi2 : i < W * D_) (I : BN W D_ r i ho hc ow tc) : BN W D_ r (i + 1) (zu ho i (hm W r i)) (zu hc i 1) (zu ow (hm W r i) i) (zu tc (hm W r i) 1) := by
  refine ⟨fun p p0 p1 => ?_, fun P p0 p1 hp => ?_⟩
  · by_cases e : p = i
    · rw [e, zu_s, zu_s, zu_s, zu_s]; exact ⟨rfl, rfl, rfl, rfl⟩
    · have ne : hm W r p ≠ hm W r i := fun q => e (hm_inj hW hr p0 (by omega) hi hi2 q)
      rw [zu_n _ _ e, zu_n _ _ e, zu_n _ _ ne, zu_n _ _ ne]
      exact I.1 p p0 (by omega)
  · have ne : P ≠ hm W r i := fun q => hp i hi (by omega) q.symm
    rw [zu_n _ _ ne, zu_n _ _ ne]
    exact I.2 P p0 p1 (fun p q0 q1 => hp p q0 (by omega))
theorem rt_sm : ∀ a : Fin 101, ∀ b : Fin 101, a.val < b.val → rtL.getD a.val 0 < rtL.getD b.val 0 := by decide +kernel
theorem rt_slt {a b : Int} (h0 : 0 ≤ a) (h : a < b) (h1 : b ≤ 100) : rt a < rt b := rt_sm ⟨a.toNat, by omega⟩ ⟨b.toNat, by omega⟩ (by show a.toNat < b.toNat; omega)
theorem sq_z {a : Int} (h : a * a = 0) : a = 0 := by rcases Int.mul_eq_zero.mp h with q | q <;> exact q
theorem lift_top {r dx dy : Int} (h0 : 1 ≤ r) (h1 : r ≤ 10) : lift r dx dy = r * 1048576 ↔ dx = 0 ∧ dy = 0 := by
  constructor
  · intro h
    have a := sq_0 dx
    have b := sq_0 dy
    have c := rr_b h0 h1
    rw [← rt_sq (r := r) (by omega) h1, lift] at h
    have hz : dx * dx + dy * dy = 0 := by
      by_cases e : dx * dx + dy * dy ≤ r * r
      · rw [if_pos e] at h
        by_cases e2 : dx * dx + dy * dy = 0
        · exact e2
        · have := rt_slt (a := r * r - (dx * dx + dy * dy)) (b := r * r) (by omega) (by omega) (by omega)
          omega
      · rw [if_neg e] at h
        have := rt_b (a := r * r) (by omega) (by omega)
        omega
    exact ⟨sq_z (by omega), sq_z (by omega)⟩
  · rintro ⟨rfl, rfl⟩
    exact lift_0 h0 h1
theorem cz_one {P : Int → Bool} {z k : Int} (hk : 0 ≤ k) (hk2 : k < z) (h : P k = true) (hn : ∀ p, 0 ≤ p → p < z → p ≠ k → P p = false) : cz P z = 1 := by
  have e := cz_up (P := fun _ => false) (Q := P) hk hk2 (fun p p0 p1 ne => hn p p0 p1 ne)
  rw [cz_nil (P := fun _ => false) (fun _ _ _ => rfl), bi_t h, bi_f rfl] at e
  omega
theorem bi_new {W D_ r : Int} {re ow tc ho hc : Int → Int} (hW : 1 ≤ W) (hr : 1 ≤ r) (hr2 : r ≤ 10) (h1 : ∀ P, 0 ≤ P → P < (W + 2 * r) * (D_ + 2 * r) → re P = r * 1048576) (I : BN W D_ r (W * D_) ho hc ow tc) : BI W D_ r (fun _ => 0) re tc ow hc := by
  have key : ∀ P p, 0 ≤ P → P < (W + 2 * r) * (D_ + 2 * r) → 0 ≤ p → p < W * D_ → (rch W r (plx W r P) (ply W r P) (fun _ => 0) p = r * 1048576 ↔ hm W r p = P) := by
    intro P p P0 P1 p0 p1
    have a := pl_of (D_ := D_) hW hr P0 P1
    have b := hm_b (D_ := D_) hW hr p0 p1
    rw [rch, Int.zero_add, lift_top hr hr2]
    constructor
    · rintro ⟨e1, e2⟩
      rw [hm, show p % W = plx W r P by omega, show p / W = ply W r P by omega]
      exact a.2.2.2.2
    · intro e
      rw [← e, b.2.2.1, b.2.2.2]
      omega
  have hle : ∀ x y p, rch W r x y (fun _ => 0) p ≤ r * 1048576 := fun x y p => by
    rw [rch, Int.zero_add]; exact (lift_b hr hr2).2
  refine ⟨fun P P0 P1 => ?_, fun p p0 p1 => ?_⟩
  · have e := h1 P P0 P1
    rw [e]
    refine ⟨Int.le_refl _, Or.inl rfl, fun p p0 p1 => hle _ _ _, ?_⟩
    by_cases hx : ∃ p, 0 ≤ p ∧ p < W * D_ ∧ hm W r p = P
    · obtain ⟨p, p0, p1, rfl⟩ := hx
      have o := I.1 p p0 p1
      rw [o.2.2.1, o.2.2.2]
      refine ⟨(cz_one p0 p1 (tch_t.mpr ((key _ p P0 P1 p0 p1).mpr rfl)) (fun q q0 q1 ne => tch_f.mpr (fun h => ne ?_))).symm, Or.inr ⟨p0, p1, (key _ p P0 P1 p0 p1).mpr rfl⟩⟩
      exact hm_inj hW hr q0 q1 p0 p1 ((key _ q P0 P1 q0 q1).mp h)
    · have o := I.2 P P0 P1 (fun p p0 p1 q => hx ⟨p, p0, p1, q⟩)
      rw [o.1, o.2]
      exact ⟨(cz_nil (fun p p0 p1 => tch_f.mpr (fun h => hx ⟨p, p0, p1, (key P p P0 P1 p0 p1).mp h⟩))).symm, Or.inl ⟨rfl, rfl⟩⟩
  · have b := hm_b (D_ := D_) hW hr p0 p1
    rw [(I.1 p p0 p1).2.1]
    refine (cz_one b.1 b.2.1 ?_ (fun P P0 P1 ne => ?_)).symm
    · show tch W r _ _ (fun _ => 0) (re (hm W r p)) p = true
      rw [h1 _ b.1 b.2.1]
      exact tch_t.mpr ((key _ p b.1 b.2.1 p0 p1).mpr rfl)
    · show tch W r _ _ (fun _ => 0) (re P) p = false
      rw [h1 _ P0 P1]
      exact tch_f.mpr (fun h => ne ((key P p P0 P1 p0 p1).mp h).symm)
theorem ge_new {W D_ r sz : Int} {co ro ho hc ow tc ac al sd lf sq : Int → Int} (hW1 : 1 ≤ W) (hW2 : W ≤ 12) (hD1 : 1 ≤ D_) (hD2 : D_ ≤ 12) (hr1 : 1 ≤ r) (hr2 : r ≤ 10) (hc0 : ∀ i j, 0 ≤ i → i < W → 0 ≤ j → j < D_ → co (j * W + i) = i ∧ ro (j * W + i) = j) (I : BN W D_ r (W * D_) ho hc ow tc) (hS : SHG r (W + 2 * r) sz ac al sd lf sq) : GE W D_ r sz co ro ho ac al sd lf sq := by
  refine ⟨⟨hW1, hW2, hD1, hD2, hr1, hr2⟩, fun i j i0 i1 j0 j1 => ?_, hS⟩
  have a := ix_b (D := D_) i0 i1 j0 j1
  have b := hc0 i j i0 i1 j0 j1
  refine ⟨b.1, b.2, ?_⟩
  rw [(I.1 _ a.1 a.2).1, hm, (ix_div i0 i1).1, (ix_div i0 i1).2]
theorem pub_new {W D_ r : Int} {re ow tc ho hc cp ck : Int → Int} (hW : 1 ≤ W) (hr : 1 ≤ r) (hr2 : r ≤ 10) (h1 : ∀ P, 0 ≤ P → P < (W + 2 * r) * (D_ + 2 * r) → re P = r * 1048576) (I : BN W D_ r (W * D_) ho hc ow tc) : PUB W D_ r (fun _ => 0) (fun _ => 0) (fun _ => 0) (fun _ => 0) hc re ow tc cp ck (fun _ => 0) 0 :=
  ⟨bi_new hW hr hr2 h1 I, fun p _ _ => ⟨rfl, ⟨Int.le_refl 0, by show (0 : Int) ≤ 200; decide⟩, ⟨Int.le_refl 0, by show (0 : Int) ≤ 50; decide⟩⟩, fun i j _ _ _ _ => ⟨Int.le_refl 0, by show (0 : Int) ≤ 262144000; decide⟩, by decide, fun j j0 j1 => by omega, fun p _ _ => Or.inl rfl⟩
