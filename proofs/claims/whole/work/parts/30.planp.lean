/-! The sets of candidates: tips under a set, what is hit, which set is better. -/
/-- the sets that hold a candidate -/
def SWv (k : Int) : Int := [43690, 52428, 61680, 65280].getD k.toNat 0
theorem SWv_d : ∀ k : Fin 4, ∀ S : Fin 16, tb (SWv (k.val : Int)) (S.val : Int) = tb (S.val : Int) (k.val : Int) := by decide +kernel
theorem SWv_tb {k S : Int} (k0 : 0 ≤ k) (k1 : k < 4) (s0 : 0 ≤ S) (s1 : S < 16) : tb (SWv k) S = tb S k := by
  have := SWv_d ⟨k.toNat, by omega⟩ ⟨S.toNat, by omega⟩
  simp only [Int.toNat_of_nonneg k0, Int.toNat_of_nonneg s0] at this
  exact this
/-- the tips when the candidates of a set are put, up to the k-th -/
def tS (ts hs cp ck : Int → Int) (S : Int) : Nat → Int → Int
  | 0 => ts
  | k + 1 => if tb S (k : Int) = true then zu (tS ts hs cp ck S k) (cp (k : Int)) ((hs (cp (k : Int)) + ck (k : Int)) * 1048576) else tS ts hs cp ck S k
theorem tS_none {ts hs cp ck : Int → Int} {S c : Int} : ∀ {n : Nat}, (∀ j : Int, 0 ≤ j → j < n → cp j = c → tb S j = false) → tS ts hs cp ck S n c = ts c
  | 0, _ => rfl
  | n + 1, h => by
    have ih := tS_none (ts := ts) (hs := hs) (ck := ck) (n := n) (fun j j0 j1 q => h j j0 (by omega) q)
    rw [tS]
    split
    · rename_i hb
      rw [zu_n]
      · exact ih
      · intro q
        have := h (n : Int) (by omega) (by omega) q.symm
        rw [this] at hb
        cases hb
    · exact ih
theorem tS_last {ts hs cp ck : Int → Int} {S c j : Int} : ∀ {n : Nat}, 0 ≤ j → j < n → cp j = c → tb S j = true → (∀ i : Int, j < i → i < n → cp i = c → tb S i = false) → tS ts hs cp ck S n c = (hs c + ck j) * 1048576
  | 0, h0, h1, _, _, _ => by omega
  | n + 1, h0, h1, hc, hb, hl => by
    rw [tS]
    by_cases e : j = (n : Int)
    · subst e
      rw [if_pos hb, hc, zu_s]
    · have ih := tS_last (ts := ts) (hs := hs) (ck := ck) (n := n) h0 (by omega) hc hb (fun i i0 i1 q => hl i i0 (by omega) q)
      split
      · rename_i hn
        rw [zu_n]
        · exact ih
        · intro q
          have := hl (n : Int) (by omega) (by omega) q.symm
          rw [this] at hn
          cases hn
      · exact ih
theorem tS_b {ts hs cp ck : Int → Int} {S N : Int} (ht : ∀ p, 0 ≤ p → p < N → 0 ≤ ts p ∧ ts p ≤ 262144000) (hh : ∀ p, 0 ≤ p → p < N → 0 ≤ hs p ∧ hs p ≤ 200) : ∀ {n : Nat}, (∀ j : Int, 0 ≤ j → j < n → 0 ≤ cp j ∧ cp j < N ∧ 1 ≤ ck j ∧ ck j ≤ 50) → ∀ p, 0 ≤ p → p < N → 0 ≤ tS ts hs cp ck S n p ∧ tS ts hs cp ck S n p ≤ 262144000
  | 0, _, p, p0, p1 => ht p p0 p1
  | n + 1, h, p, p0, p1 => by
    have ih := tS_b (S := S) ht hh (n := n) (fun j j0 j1 => h j j0 (by omega)) p p0 p1
    have hn := h (n : Int) (by omega) (by omega)
    have hq := hh (cp (n : Int)) hn.1 hn.2.1
    rw [tS]
    split
    · by_cases e : p = cp (n : Int)
      · rw [e, zu_s]; omega
      · rw [zu_n _ _ e]; exact ih
    · exact ih
/-- a point is hit at a place -/
def hitAt (W N r x y : Int) (T : Int → Int) (p : Int) : Prop := r * 1048576 ≤ rch W r x y T p ∧ ∀ q, 0 ≤ q → q < N → rch W r x y T q ≤ rch W r x y T p
theorem hit_iff {W N r x y R T_ O p : Int} {ts : Int → Int} (h : PLv W N r x y ts R T_ O) (p0 : 0 ≤ p) (p1 : p < N) : rch W r x y ts p = R ↔ hitAt W N r x y ts p := by
  obtain ⟨h1, h2, h3, -, -⟩ := h
  refine ⟨fun e => ⟨by omega, fun q q0 q1 => by rw [e]; exact h3 q q0 q1⟩, fun e => ?_⟩
  have h4 := h3 p p0 p1
  rcases h2 with q | ⟨q, q1, q2, q3⟩
  · have := e.1; omega
  · have := e.2 q q1 q2; omega
def safeT (W D_ r : Int) (T : Int → Int) (p : Int) : Prop := ∀ P, 0 ≤ P → P < (W + 2 * r) * (D_ + 2 * r) → ¬ hitAt W (W * D_) r (plx W r P) (ply W r P) T p
theorem safe_iff {W D_ r p : Int} {ts re tc ow hc : Int → Int} (h : BI W D_ r ts re tc ow hc) (p0 : 0 ≤ p) (p1 : p < W * D_) : hc p = 0 ↔ safeT W D_ r ts p := by
  rw [h.2 p p0 p1]
  refine ⟨fun e P q0 q1 hh => ?_, fun e => cz_nil (fun P q0 q1 => ?_)⟩
  · have a := cz_none e P q0 q1
    have b := (hit_iff (h.1 P q0 q1) p0 p1).mpr hh
    rw [tch_t.mpr b] at a
    cases a
  · rw [tch_f]
    exact fun b => e P q0 q1 ((hit_iff (h.1 P q0 q1) p0 p1).mp b)
/-- how many candidates a set has, and how long they are in all -/
def pcS (S : Int) (n : Int) : Int := cz (fun k => tb S k) n
def lnS (ck : Int → Int) (S : Int) : Nat → Int
  | 0 => 0
  | k + 1 => lnS ck S k + (if tb S (k : Int) = true then ck (k : Int) else 0)
theorem lnS_b {ck : Int → Int} {S : Int} : ∀ {n : Nat}, (∀ j : Int, 0 ≤ j → j < n → 1 ≤ ck j ∧ ck j ≤ 50) → 0 ≤ lnS ck S n ∧ lnS ck S n ≤ 50 * n
  | 0, _ => by simp [lnS]
  | n + 1, h => by
    have ih := lnS_b (S := S) (n := n) (fun j j0 j1 => h j j0 (by omega))
    have hn := h (n : Int) (by omega) (by omega)
    rw [lnS]
    split <;> omega
def btr (ck : Int → Int) (n : Int) (S T : Int) : Prop := pcS S 4 < pcS T 4 ∨ (pcS S 4 = pcS T 4 ∧ (lnS ck S n.toNat < lnS ck T n.toNat ∨ (lnS ck S n.toNat = lnS ck T n.toNat ∧ S < T)))
theorem btr_tr {ck : Int → Int} {n S T U : Int} (h1 : btr ck n S T) (h2 : btr ck n T U) : btr ck n S U := by
  unfold btr at *
  omega
theorem btr_as {ck : Int → Int} {n S T : Int} (h1 : btr ck n S T) : ¬ btr ck n T S := by
  unfold btr at *
  omega
theorem btr_tot {ck : Int → Int} {n S T : Int} (h : S ≠ T) : btr ck n S T ∨ btr ck n T S := by
  unfold btr
  omega
/-- a candidate's tip is above a level at a place, in a set -/
def abv (r ch : Int) (co ro qp qt qs : Int → Int) (level x y S : Int) : Prop := ∃ n, 0 ≤ n ∧ n < ch ∧ level < qt n + lift r (co (qp n) - x) (ro (qp n) - y) ∧ tb (qs n) S = true
/-- places where a point is touched are found among the steps from it -/
def FRv (W D_ r : Int) (ho sd ts re : Int → Int) (q i touches : Int) (vis : Int → Bool) : Prop :=
  touches = cz (fun P => !vis P && tch W r (plx W r P) (ply W r P) ts (re P) q) ((W + 2 * r) * (D_ + 2 * r)) ∧ (∀ P, vis P = true → ∃ j, 0 ≤ j ∧ j < i ∧ P = ho q + sd j) ∧ ∀ j, 0 ≤ j → j < i → vis (ho q + sd j) = true ∨ tch W r (plx W r (ho q + sd j)) (ply W r (ho q + sd j)) ts (re (ho q + sd j)) q = false
theorem FRv_0 {W D_ r q : Int} {ho sd ts re tc ow hc : Int → Int} (h0 : 0 ≤ q) (h1 : q < W * D_) (h : BI W D_ r ts re tc ow hc) : FRv W D_ r ho sd ts re q 0 (hc q) (fun _ => false) := by
  refine ⟨?_, fun P hP => by simp at hP, fun j j0 j1 => by omega⟩
  rw [h.2 q h0 h1]
  exact cz_c (fun P _ _ => by simp)
theorem FRv_no {W D_ r sz : Int} {co ro ho ac al sd lf sq : Int → Int} (hG : GE W D_ r sz co ro ho ac al sd lf sq) {q i touches : Int} {ts re : Int → Int} {vis : Int → Bool} (h0 : 0 ≤ q) (h1 : q < W * D_) (i0 : 0 ≤ i) (i1 : i < sz) (I : FRv W D_ r ho sd ts re q i touches vis) (hl : ¬ ts q + lf i = re (ho q + sd i)) : FRv W D_ r ho sd ts re q (i + 1) touches vis := by
  have a := ge_k hG h0 h1 i0 i1
  refine ⟨I.1, fun P hP => ?_, fun j j0 j1 => ?_⟩
  · obtain ⟨j, j0, j1, j2⟩ := I.2.1 P hP
    exact ⟨j, j0, by omega, j2⟩
  · by_cases e : j = i
    · subst e
      right
      rw [a.2.2.2.2.2.1, a.2.2.2.2.2.2.1, tch_f, a.2.2.2.2.2.2.2.2.2 ts]
      exact hl
    · exact I.2.2 j j0 (by omega)
theorem FRv_yes {W D_ r sz : Int} {co ro ho ac al sd lf sq : Int → Int} (hG : GE W D_ r sz co ro ho ac al sd lf sq) {q i touches : Int} {ts re : Int → Int} {vis : Int → Bool} (h0 : 0 ≤ q) (h1 : q < W * D_) (i0 : 0 ≤ i) (i1 : i < sz) (I : FRv W D_ r ho sd ts re q i touches vis) (hl : ts q + lf i = re (ho q + sd i)) : FRv W D_ r ho sd ts re q (i + 1) (touches - 1) (zu vis (ho q + sd i) true) := by
  have a := ge_k hG h0 h1 i0 i1
  have et : tch W r (co q + ac i) (ro q + al i) ts (re (ho q + sd i)) q = true := by rw [tch_t, a.2.2.2.2.2.2.2.2.2 ts]; exact hl
  have ev : vis (ho q + sd i) = false := by
    cases hv : vis (ho q + sd i) with
    | false => rfl
    | true =>
      obtain ⟨j, j0, j1, j2⟩ := I.2.1 _ hv
      have := ge_inj hG h0 h1 i0 i1 j0 (by omega) j2
      omega
  refine ⟨?_, fun P hP => ?_, fun j j0 j1 => ?_⟩
  · have c := cz_up (P := fun P => !vis P && tch W r (plx W r P) (ply W r P) ts (re P) q) (Q := fun P => !(zu vis (ho q + sd i) true P) && tch W r (plx W r P) (ply W r P) ts (re P) q) a.2.2.2.1 a.2.2.2.2.1 (fun P q0 q1 q2 => by simp only [zu_n _ _ q2])
    simp only [zu_s, ev, a.2.2.2.2.2.1, a.2.2.2.2.2.2.1, et] at c
    rw [c, I.1]
    simp [bi]
  · by_cases e : P = ho q + sd i
    · exact ⟨i, i0, by omega, e⟩
    · rw [zu_n _ _ e] at hP
      obtain ⟨j, j0, j1, j2⟩ := I.2.1 P hP
      exact ⟨j, j0, by omega, j2⟩
  · by_cases e : ho q + sd j = ho q + sd i
    · left; rw [e, zu_s]
    · rw [zu_n _ _ e]
      exact I.2.2 j j0 (by
        by_cases e2 : j = i
        · exact absurd (by rw [e2]) e
        · omega)
theorem FRv_end {W D_ r sz : Int} {co ro ho ac al sd lf sq : Int → Int} (hG : GE W D_ r sz co ro ho ac al sd lf sq) {q i touches : Int} {ts re tc ow hc : Int → Int} {vis : Int → Bool} (h0 : 0 ≤ q) (h1 : q < W * D_) (hB : BI W D_ r ts re tc ow hc) (htq : ts q ≤ 262144000) (I : FRv W D_ r ho sd ts re q i touches vis) (hend : sz ≤ i ∨ touches ≤ 0) :
    ∀ P, 0 ≤ P → P < (W + 2 * r) * (D_ + 2 * r) → rch W r (plx W r P) (ply W r P) ts q = re P → ∃ j, 0 ≤ j ∧ j < i ∧ P = ho q + sd j := by
  intro P q0 q1 hq
  cases hv : vis P with
  | true => exact I.2.1 P hv
  | false =>
    rcases hend with z | z
    · have hb := (hB.1 P q0 q1).1
      have hr := hG.1
      rcases ge_ex hG h0 h1 q0 q1 with e | ⟨k, k0, k1, k2, k3⟩
      · rw [rch, e] at hq; omega
      · exact ⟨k, k0, by omega, k2⟩
    · have d := cz_lt (P := fun P => !vis P && tch W r (plx W r P) (ply W r P) ts (re P) q) q0 q1 (by simp [hv, tch_t.mpr hq])
      have e := (cz_b (fun P => !vis P && tch W r (plx W r P) (ply W r P) ts (re P) q) q0).1
      have c := I.1
      omega
