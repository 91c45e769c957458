/-! the reference's sets: pure -/
def tSM (t hM mp mk : Int → Int) (S : Int) : Nat → Int → Int
  | 0 => t
  | k + 1 => if tb S (k : Int) = true then zu (tSM t hM mp mk S k) (mp (k : Int)) (hM (mp (k : Int)) + mk (k : Int)) else tSM t hM mp mk S k
theorem tSM_s {t hM mp mk : Int → Int} {S k : Int} (h : 0 ≤ k) : tSM t hM mp mk S (k + 1).toNat = if tb S k = true then zu (tSM t hM mp mk S k.toNat) (mp k) (hM (mp k) + mk k) else tSM t hM mp mk S k.toNat := by
  rw [show (k + 1).toNat = k.toNat + 1 by omega, tSM, Int.toNat_of_nonneg h]
theorem tSM_c {t t' hM mp mk : Int → Int} {S : Int} (h : ∀ k, 0 ≤ k → k < 144 → t' k = t k) : ∀ (n : Nat) (k : Int), 0 ≤ k → k < 144 → tSM t' hM mp mk S n k = tSM t hM mp mk S n k
  | 0, k, k0, k1 => h k k0 k1
  | n + 1, k, k0, k1 => by
    have ih := tSM_c (hM := hM) (mp := mp) (mk := mk) (S := S) h n
    rw [tSM, tSM]
    split
    · by_cases e : k = mp (n : Int)
      · rw [e, zu_s, zu_s]
      · rw [zu_n _ _ e, zu_n _ _ e]; exact ih k k0 k1
    · exact ih k k0 k1
theorem tSM_b {t hM mp mk : Int → Int} {S : Int} (ht : ∀ k, 0 ≤ k → k < 144 → 0 ≤ t k ∧ t k ≤ 250) (hh : ∀ k, 0 ≤ k → k < 144 → 0 ≤ hM k ∧ hM k ≤ 200) : ∀ (n : Nat), (∀ j : Int, 0 ≤ j → j < n → (0 ≤ mp j ∧ mp j < 144) ∧ 1 ≤ mk j ∧ mk j ≤ 50) → ∀ k, 0 ≤ k → k < 144 → 0 ≤ tSM t hM mp mk S n k ∧ tSM t hM mp mk S n k ≤ 250
  | 0, _, k, k0, k1 => ht k k0 k1
  | n + 1, hm, k, k0, k1 => by
    have ih := tSM_b (S := S) ht hh n (fun j j0 j1 => hm j j0 (by omega))
    rw [tSM]
    split
    · by_cases e : k = mp (n : Int)
      · rw [e, zu_s]
        have a := hm (n : Int) (by omega) (by omega)
        have b := hh _ a.1.1 a.1.2
        omega
      · rw [zu_n _ _ e]; exact ih k k0 k1
    · exact ih k k0 k1
def rSM (rM mp mk : Int → Int) (S : Int) : Nat → Int → Int
  | 0 => rM
  | k + 1 => if tb S (k : Int) = true then zu (rSM rM mp mk S k) (mp (k : Int)) (mk (k : Int)) else rSM rM mp mk S k
theorem rSM_s {rM mp mk : Int → Int} {S k : Int} (h : 0 ≤ k) : rSM rM mp mk S (k + 1).toNat = if tb S k = true then zu (rSM rM mp mk S k.toNat) (mp k) (mk k) else rSM rM mp mk S k.toNat := by
  rw [show (k + 1).toNat = k.toNat + 1 by omega, rSM, Int.toNat_of_nonneg h]
theorem rSM_b {rM mp mk : Int → Int} {S : Int} (ht : ∀ k, 0 ≤ k → k < 144 → 0 ≤ rM k ∧ rM k ≤ 50) : ∀ (n : Nat), (∀ j : Int, 0 ≤ j → j < n → (0 ≤ mp j ∧ mp j < 144) ∧ 1 ≤ mk j ∧ mk j ≤ 50) → ∀ k, 0 ≤ k → k < 144 → 0 ≤ rSM rM mp mk S n k ∧ rSM rM mp mk S n k ≤ 50
  | 0, _, k, k0, k1 => ht k k0 k1
  | n + 1, hm, k, k0, k1 => by
    have ih := rSM_b (S := S) ht n (fun j j0 j1 => hm j j0 (by omega))
    rw [rSM]
    split
    · by_cases e : k = mp (n : Int)
      · rw [e, zu_s]
        have a := hm (n : Int) (by omega) (by omega)
        omega
      · rw [zu_n _ _ e]; exact ih k k0 k1
    · exact ih k k0 k1
def saM (W D_ r : Int) (t : Int → Int) (j : Int) : Prop := ptM W D_ j = true ∧ ∀ P, 0 ≤ P → P < (W + 2 * r) * (D_ + 2 * r) → ∀ L, mR W D_ r (plx W r P) (ply W r P) t 144 L → tcM W D_ r (plx W r P) (ply W r P) t L j = false
theorem rli_sa {W D_ r j : Int} {t wh sM hi : Int → Int} (I : RLI W D_ r t wh sM hi ((W + 2 * r) * (D_ + 2 * r))) (j0 : 0 ≤ j) (j1 : j < 144) : sfM W D_ hi j = true ↔ saM W D_ r t j := by
  rw [sfM, Bool.and_eq_true, decide_eq_true_eq, I.2 j j0 j1]
  constructor
  · rintro ⟨h1, h2⟩
    refine ⟨h1, fun P p0 p1 L hL => ?_⟩
    have a := cz_none h2 P p0 p1
    rw [HK, mR_u (I.1 P p0 p1).2.2 hL] at a
    exact a
  · rintro ⟨h1, h2⟩
    exact ⟨h1, cz_nil (fun P p0 p1 => h2 P p0 p1 _ (I.1 P p0 p1).2.2)⟩
theorem saM_c {W D_ r j : Int} {t t' : Int → Int} (h : ∀ k, 0 ≤ k → k < 144 → t' k = t k) (j0 : 0 ≤ j) (j1 : j < 144) (I : saM W D_ r t j) : saM W D_ r t' j :=
  ⟨I.1, fun P p0 p1 L hL => by rw [tcM_c (h j j0 j1)]; exact I.2 P p0 p1 L (mR_c (Int.le_refl 144) (fun k k0 k1 => (h k k0 k1).symm) hL)⟩
def doM (W D_ r : Int) (hM rM wM mp mk : Int → Int) (mn S : Int) : Prop := ∀ j, 0 ≤ j → j < 144 → wM j = 1 → saM W D_ r (tSM (fun k => hM k + rM k) hM mp mk S mn.toNat) j
theorem many_d : ∀ S : Fin 16, zand (S.val : Int) 1 + zand (zshr (S.val : Int) 1) 1 + zand (zshr (S.val : Int) 2) 1 + zand (zshr (S.val : Int) 3) 1 = pcS (S.val : Int) 4 := by decide +kernel
theorem many_ok {S : Int} (h0 : 0 ≤ S) (h1 : S < 16) : zand S 1 + zand (zshr S 1) 1 + zand (zshr S 2) 1 + zand (zshr S 3) 1 = pcS S 4 := by
  have := many_d ⟨S.toNat, by omega⟩
  simp only [Int.toNat_of_nonneg h0] at this
  exact this
theorem pcS_b (S : Int) : 0 ≤ pcS S 4 ∧ pcS S 4 ≤ 4 := cz_b _ (by decide)
theorem lnS_t {ck : Int → Int} {S k : Int} (h : 0 ≤ k) : lnS ck S (k + 1).toNat = lnS ck S k.toNat + (if tb S k = true then ck k else 0) := by
  rw [show (k + 1).toNat = k.toNat + 1 by omega, lnS, Int.toNat_of_nonneg h]
def CHM (W D_ r : Int) (hM rM wM mp mk : Int → Int) (mn z s : Int) : Prop :=
  (z = -1 ∧ ∀ S, 0 ≤ S → S < s → ¬ doM W D_ r hM rM wM mp mk mn S) ∨ (0 ≤ z ∧ z < s ∧ doM W D_ r hM rM wM mp mk mn z ∧ ∀ S, 0 ≤ S → S < s → doM W D_ r hM rM wM mp mk mn S → S = z ∨ btr mk mn z S)
theorem chm_b {W D_ r mn z s : Int} {hM rM wM mp mk : Int → Int} (I : CHM W D_ r hM rM wM mp mk mn z s) (hs : 0 ≤ s) : -1 ≤ z ∧ (z < s ∨ z = -1) := by
  rcases I with ⟨h, -⟩ | ⟨h, h2, -⟩ <;> omega
theorem chm_no {W D_ r mn z s : Int} {hM rM wM mp mk : Int → Int} (h : ¬ doM W D_ r hM rM wM mp mk mn s) (I : CHM W D_ r hM rM wM mp mk mn z s) : CHM W D_ r hM rM wM mp mk mn z (s + 1) := by
  rcases I with ⟨h1, h2⟩ | ⟨h1, h2, h3, h4⟩
  · refine Or.inl ⟨h1, fun S s0 s1 => ?_⟩
    by_cases e : S = s
    · rw [e]; exact h
    · exact h2 S s0 (by omega)
  · refine Or.inr ⟨h1, by omega, h3, fun S s0 s1 hS => ?_⟩
    by_cases e : S = s
    · rw [e] at hS; exact absurd hS h
    · exact h4 S s0 (by omega) hS
theorem chm_keep {W D_ r mn z s : Int} {hM rM wM mp mk : Int → Int} (hz : ¬ z = -1) (h : btr mk mn z s) (I : CHM W D_ r hM rM wM mp mk mn z s) : CHM W D_ r hM rM wM mp mk mn z (s + 1) := by
  rcases I with ⟨h1, h2⟩ | ⟨h1, h2, h3, h4⟩
  · exact absurd h1 hz
  · refine Or.inr ⟨h1, by omega, h3, fun S s0 s1 hS => ?_⟩
    by_cases e : S = s
    · rw [e]; exact Or.inr h
    · exact h4 S s0 (by omega) hS
theorem chm_new {W D_ r mn z s : Int} {hM rM wM mp mk : Int → Int} (hs : 0 ≤ s) (h : doM W D_ r hM rM wM mp mk mn s) (hb : z = -1 ∨ btr mk mn s z) (I : CHM W D_ r hM rM wM mp mk mn z s) : CHM W D_ r hM rM wM mp mk mn s (s + 1) := by
  refine Or.inr ⟨hs, by omega, h, fun S s0 s1 hS => ?_⟩
  by_cases e : S = s
  · exact Or.inl e
  · right
    rcases I with ⟨h1, h2⟩ | ⟨h1, h2, h3, h4⟩
    · exact absurd hS (h2 S s0 (by omega))
    · have hb2 : btr mk mn s z := by
        rcases hb with q | q
        · omega
        · exact q
      rcases h4 S s0 (by omega) hS with q | q
      · rw [q]; exact hb2
      · exact btr_tr hb2 q
