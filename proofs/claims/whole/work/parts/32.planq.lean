/-! The list of choices: each candidate's tip, and the rod that is there, with the sets that give it; the lowest tips. -/
def zcp (f g : Int → Int) (n : Int) : Int → Int := fun j => if 0 ≤ j ∧ j < n then f j else g j
section CPY
variable {p : Program} {l : Launch} {e : Env} {R : Room} {s : State} {m : MethodId} {args : Array Value} {below : List Frame} {meth : Method} {c : Code} {cells slots : Nat} {Q : State → Prop}
variable {cc : ByteArray} {nL pc : Nat} {ret : Option FieldType} {Ts : List Cond} {own : String} {D : va_G} {cl : List vw_C} {cI cZ cJ : ClassId} {SL : List zS} {A : Nat → Prop} {ro : Prop} {lv : List (Nat × Value)} {st : List Value} {ws : va_W}
theorem zcp_cpy (f g : Int → Int) {n : Int} (h0 : 0 ≤ n) (h1 : n < 2147483648) : va_cpy (fun j : Nat => iZ (f (j : Int))) (fun j : Nat => iZ (g (j : Int))) (iZ 0).toNatClampNeg (iZ 0).toNatClampNeg (iZ n).toNatClampNeg = fun j : Nat => iZ (zcp f g n (j : Int)) := by
  funext j
  have e0 : (iZ 0).toNatClampNeg = 0 := by decide
  have e1 := iZ_cl h0 h1
  rw [e0, e1]
  simp only [va_cpy, zcp]
  by_cases h : j < n.toNat
  · rw [if_pos ⟨Nat.zero_le _, by omega⟩, if_pos ⟨by omega, by omega⟩]
    simp
  · rw [if_neg (by omega), if_neg (by omega)]
/-- System.arraycopy of ints, from 0 to 0 -/
theorem tt_copy (F : FX p s m args meth c cc nL ret Ts own D cl cI cZ cJ SL A) (hro : ¬ ro) {ix a0 a1 : Nat} {n0 n1 n : Int} {f g : Int → Int} (q0 q1 : Nat) (he0 : ws[q0]? = some (a0, aI cI n0 f)) (he1 : ws[q1]? = some (a1, aI cI n1 g)) (h0 : 0 ≤ n) (h1 : n ≤ n0) (h2 : n ≤ n1) (h3 : n < 2147483648)
    (hw1 : Cond.methodLink own ix arraycopyName ∈ Ts) (hw2 : Cond.native arraycopyName ∈ Ts) (hw3 : Cond.static arraycopyName ∈ Ts) (hw4 : Cond.initialized "java/lang/System" ∈ Ts) (hr : 1 ≤ R.frames) (hlo : (st.map fun v => v.category).sum + (nativeFrameWords "java/lang/System" "arraycopy" 5 + 11) ≤ R.locals) (hd : decode cc pc = .ok (.invokestatic ix, 3))
    (k : TT p l e R s m args below meth c D cl A nL ro Q (pc + 3) lv st (ws.set q1 (a1, aI cI n1 (zcp f g n))) cells slots) : TT p l e R s m args below meth c D cl A nL ro Q pc lv (.int (iZ n) :: .int (iZ 0) :: .ref a1 :: .int (iZ 0) :: .ref a0 :: st) ws cells slots := by
  intro H locs ls hN hP hD hS hl
  have e0 : (iZ 0).toNatClampNeg = 0 := by decide
  have e1 := iZ_cl h0 h3
  refine va_copyi F.1.1 F.1.2.1 (F.1.2.2.1.trans hl.1.symm) F.1.2.2.2.1 (F.1.2.2.2.2 _ hw1) (F.1.2.2.2.2 _ hw2) (F.1.2.2.2.2 _ hw3) (F.1.2.2.2.2 _ hw4) F.2.1 hP hD hS q0 q1 0 0 (ty := .int) he0 he1 rfl rfl rfl (by decide) (by decide) (by rw [iZ_lt0 ⟨by omega, by omega⟩]; omega) (by rw [e0, e1]; omega) (by rw [e0, e1]; omega) (fun i _ => rfl) hr hlo hd ?_
  intro H1 locs1 q1 q2 q3
  rw [zcp_cpy f g h0 h3] at q1 q2
  exact k H1 locs1 ls (fun h => absurd h hro) q1 q2 q3 hl
end CPY
def CHI (ts hs cp ck : Int → Int) (cn k ch : Int) (qp qt qs : Int → Int) (sk : Int) : Prop :=
  (∀ n, 0 ≤ n → n < ch → (∃ j, 0 ≤ j ∧ j < k ∧ qp n = cp j) ∧ (0 ≤ qt n ∧ qt n ≤ 262144000) ∧ ∀ S, 0 ≤ S → S < 16 → tb (qs n) S = true → tS ts hs cp ck S cn.toNat (qp n) = qt n) ∧
  (∀ j S, 0 ≤ j → j < k → 0 ≤ S → S < 16 → tb S j = true → (∀ i, j < i → i < cn → cp i = cp j → tb S i = false) → ∃ n, 0 ≤ n ∧ n < ch ∧ qp n = cp j ∧ tb (qs n) S = true) ∧
  (∀ j S, 0 ≤ j → j < k → 0 ≤ S → S < 16 → (∀ i, 0 ≤ i → i < cn → cp i = cp j → tb S i = false) → ∃ n, 0 ≤ n ∧ n < ch ∧ qp n = cp j ∧ tb (qs n) S = true) ∧
  (∀ S, 0 ≤ S → S < 16 → (tb sk S = true ↔ ∃ n, 0 ≤ n ∧ n < ch ∧ tb (qs n) S = true ∧ qt n < ts (qp n))) ∧ ir sk ∧ 0 ≤ ch ∧ ch ≤ 2 * k
theorem CHI_0 {ts hs cp ck qp qt qs : Int → Int} {cn : Int} : CHI ts hs cp ck cn 0 0 qp qt qs 0 :=
  ⟨fun n n0 n1 => by omega, fun j S j0 j1 => by omega, fun j S j0 j1 => by omega, fun S s0 s1 => ⟨fun q => (by rw [tb_0] at q; cases q), fun ⟨n, n0, n1, _⟩ => by omega⟩, ⟨by omega, by omega⟩, by omega, by omega⟩
/-- one more choice: what it does to a list of choices, but for the completeness -/
def CHJ (ts hs cp ck : Int → Int) (cn k ch : Int) (qp qt qs : Int → Int) (sk : Int) : Prop :=
  (∀ n, 0 ≤ n → n < ch → (∃ j, 0 ≤ j ∧ j < k ∧ qp n = cp j) ∧ (0 ≤ qt n ∧ qt n ≤ 262144000) ∧ ∀ S, 0 ≤ S → S < 16 → tb (qs n) S = true → tS ts hs cp ck S cn.toNat (qp n) = qt n) ∧
  (∀ S, 0 ≤ S → S < 16 → (tb sk S = true ↔ ∃ n, 0 ≤ n ∧ n < ch ∧ tb (qs n) S = true ∧ qt n < ts (qp n))) ∧ ir sk ∧ 0 ≤ ch
theorem CHJ_add {ts hs cp ck qp qt qs : Int → Int} {cn k ch sk sk' q t v : Int} (h : CHJ ts hs cp ck cn k ch qp qt qs sk) (hq : ∃ j, 0 ≤ j ∧ j < k ∧ q = cp j) (ht : 0 ≤ t ∧ t ≤ 262144000) (hv : ∀ S, 0 ≤ S → S < 16 → tb v S = true → tS ts hs cp ck S cn.toNat q = t) (hs_ : (ts q ≤ t ∧ sk' = sk) ∨ (t < ts q ∧ sk' = zor sk v)) :
    CHJ ts hs cp ck cn k (ch + 1) (zu qp ch q) (zu qt ch t) (zu qs ch v) sk' := by
  obtain ⟨h1, h2, h3, h4⟩ := h
  refine ⟨fun n n0 n1 => ?_, fun S s0 s1 => ?_, ?_, by omega⟩
  · by_cases e : n = ch
    · subst e
      simp only [zu_s]
      exact ⟨hq, ht, hv⟩
    · simp only [zu_n _ _ e]
      exact h1 n n0 (by omega)
  · have key : (∃ n, 0 ≤ n ∧ n < ch + 1 ∧ tb (zu qs ch v n) S = true ∧ zu qt ch t n < ts (zu qp ch q n)) ↔ (∃ n, 0 ≤ n ∧ n < ch ∧ tb (qs n) S = true ∧ qt n < ts (qp n)) ∨ (tb v S = true ∧ t < ts q) := by
      constructor
      · rintro ⟨n, n0, n1, n2, n3⟩
        by_cases e : n = ch
        · subst e
          simp only [zu_s] at n2 n3
          exact Or.inr ⟨n2, n3⟩
        · simp only [zu_n _ _ e] at n2 n3
          exact Or.inl ⟨n, n0, by omega, n2, n3⟩
      · rintro (⟨n, n0, n1, n2, n3⟩ | ⟨n2, n3⟩)
        · have e : n ≠ ch := by omega
          exact ⟨n, n0, by omega, by simp only [zu_n _ _ e]; exact n2, by simp only [zu_n _ _ e]; exact n3⟩
        · exact ⟨ch, h4, by omega, by simp only [zu_s]; exact n2, by simp only [zu_s]; exact n3⟩
    rw [key, ← h2 S s0 s1]
    rcases hs_ with ⟨a, rfl⟩ | ⟨a, rfl⟩
    · exact ⟨Or.inl, fun z => z.elim id (fun z => absurd z.2 (by omega))⟩
    · rw [tb_or, Bool.or_eq_true]
      exact ⟨fun z => z.imp id (fun z => ⟨z, a⟩), fun z => z.imp id (fun z => z.1)⟩
  · rcases hs_ with ⟨a, rfl⟩ | ⟨a, rfl⟩
    · exact h3
    · exact zor_ir _ _
theorem CHI_J {ts hs cp ck qp qt qs : Int → Int} {cn k ch sk : Int} (h : CHI ts hs cp ck cn k ch qp qt qs sk) : CHJ ts hs cp ck cn (k + 1) ch qp qt qs sk :=
  ⟨fun n n0 n1 => ⟨by obtain ⟨j, j0, j1, j2⟩ := (h.1 n n0 n1).1; exact ⟨j, j0, by omega, j2⟩, (h.1 n n0 n1).2⟩, h.2.2.2.1, h.2.2.2.2.1, h.2.2.2.2.2.1⟩
/-- what the sets of a candidate's two choices are -/
def chA (cp : Int → Int) (cn k v : Int) : Prop := ∀ S, 0 ≤ S → S < 16 → (tb v S = true ↔ tb S k = true ∧ ∀ i, k < i → i < cn → cp i = cp k → tb S i = false)
def chB (cp : Int → Int) (cn k v : Int) : Prop := ∀ S, 0 ≤ S → S < 16 → (tb v S = true ↔ tb S k = false ∧ ∀ i, k < i → i < cn → cp i = cp k → tb S i = false)
theorem CHI_two {ts hs cp ck qp qt qs : Int → Int} {cn k ch sk sk1 sk2 vA vB : Int} (hk : 0 ≤ k ∧ k < cn) (h : CHI ts hs cp ck cn k ch qp qt qs sk) (ht : 0 ≤ (hs (cp k) + ck k) * 1048576 ∧ (hs (cp k) + ck k) * 1048576 ≤ 262144000) (htt : 0 ≤ ts (cp k) ∧ ts (cp k) ≤ 262144000) (hA : chA cp cn k vA) (hB : chB cp cn k vB) (hno : ∀ i, 0 ≤ i → i < k → cp i ≠ cp k)
    (h1 : (ts (cp k) ≤ (hs (cp k) + ck k) * 1048576 ∧ sk1 = sk) ∨ ((hs (cp k) + ck k) * 1048576 < ts (cp k) ∧ sk1 = zor sk vA)) (h2 : (ts (cp k) ≤ ts (cp k) ∧ sk2 = sk1) ∨ (ts (cp k) < ts (cp k) ∧ sk2 = zor sk1 vB)) :
    CHI ts hs cp ck cn (k + 1) (ch + 1 + 1) (zu (zu qp ch (cp k)) (ch + 1) (cp k)) (zu (zu qt ch ((hs (cp k) + ck k) * 1048576)) (ch + 1) (ts (cp k))) (zu (zu qs ch vA) (ch + 1) vB) sk2 := by
  have hcn : (cn.toNat : Int) = cn := by omega
  have J1 := CHJ_add (CHI_J h) ⟨k, hk.1, by omega, rfl⟩ ht (fun S s0 s1 hb => tS_last hk.1 (by omega) rfl ((hA S s0 s1).mp hb).1 (fun i i0 i1 q => ((hA S s0 s1).mp hb).2 i i0 (by omega) q)) h1
  have J2 := CHJ_add J1 ⟨k, hk.1, by omega, rfl⟩ htt (fun S s0 s1 hb => tS_none (fun j j0 j1 q => by
    by_cases e1 : j < k
    · exact absurd q (hno j j0 e1)
    · by_cases e2 : j = k
      · rw [e2]; exact ((hB S s0 s1).mp hb).1
      · exact ((hB S s0 s1).mp hb).2 j (by omega) (by omega) q)) h2
  have hch := h.2.2.2.2.2
  refine ⟨J2.1, fun j S j0 j1 s0 s1 hb hl => ?_, fun j S j0 j1 s0 s1 hl => ?_, J2.2.1, J2.2.2.1, J2.2.2.2, by omega⟩
  · by_cases e : j = k
    · subst e
      have e1 : ch ≠ ch + 1 := by omega
      exact ⟨ch, by omega, by omega, by rw [zu_n _ _ e1, zu_s], by rw [zu_n _ _ e1, zu_s]; exact (hA S s0 s1).mpr ⟨hb, hl⟩⟩
    · obtain ⟨n, n0, n1, n2, n3⟩ := h.2.1 j S j0 (by omega) s0 s1 hb hl
      have e1 : n ≠ ch + 1 := by omega
      have e2 : n ≠ ch := by omega
      exact ⟨n, n0, by omega, by rw [zu_n _ _ e1, zu_n _ _ e2]; exact n2, by rw [zu_n _ _ e1, zu_n _ _ e2]; exact n3⟩
  · by_cases e : j = k
    · subst e
      exact ⟨ch + 1, by omega, by omega, by rw [zu_s], by rw [zu_s]; exact (hB S s0 s1).mpr ⟨hl j hk.1 hk.2 rfl, fun i i0 i1 q => hl i (by omega) i1 q⟩⟩
    · obtain ⟨n, n0, n1, n2, n3⟩ := h.2.2.1 j S j0 (by omega) s0 s1 hl
      have e1 : n ≠ ch + 1 := by omega
      have e2 : n ≠ ch := by omega
      exact ⟨n, n0, by omega, by rw [zu_n _ _ e1, zu_n _ _ e2]; exact n2, by rw [zu_n _ _ e1, zu_n _ _ e2]; exact n3⟩
theorem CHI_one {ts hs cp ck qp qt qs : Int → Int} {cn k ch sk sk1 vA i0 : Int} (hk : 0 ≤ k ∧ k < cn) (h : CHI ts hs cp ck cn k ch qp qt qs sk) (ht : 0 ≤ (hs (cp k) + ck k) * 1048576 ∧ (hs (cp k) + ck k) * 1048576 ≤ 262144000) (hA : chA cp cn k vA) (hi : 0 ≤ i0 ∧ i0 < k ∧ cp i0 = cp k)
    (h1 : (ts (cp k) ≤ (hs (cp k) + ck k) * 1048576 ∧ sk1 = sk) ∨ ((hs (cp k) + ck k) * 1048576 < ts (cp k) ∧ sk1 = zor sk vA)) :
    CHI ts hs cp ck cn (k + 1) (ch + 1) (zu qp ch (cp k)) (zu qt ch ((hs (cp k) + ck k) * 1048576)) (zu qs ch vA) sk1 := by
  have hcn : (cn.toNat : Int) = cn := by omega
  have J1 := CHJ_add (CHI_J h) ⟨k, hk.1, by omega, rfl⟩ ht (fun S s0 s1 hb => tS_last hk.1 (by omega) rfl ((hA S s0 s1).mp hb).1 (fun i i0 i1 q => ((hA S s0 s1).mp hb).2 i i0 (by omega) q)) h1
  have hch := h.2.2.2.2.2
  refine ⟨J1.1, fun j S j0 j1 s0 s1 hb hl => ?_, fun j S j0 j1 s0 s1 hl => ?_, J1.2.1, J1.2.2.1, J1.2.2.2, by omega⟩
  · by_cases e : j = k
    · subst e
      exact ⟨ch, by omega, by omega, by rw [zu_s], by rw [zu_s]; exact (hA S s0 s1).mpr ⟨hb, hl⟩⟩
    · obtain ⟨n, n0, n1, n2, n3⟩ := h.2.1 j S j0 (by omega) s0 s1 hb hl
      have e2 : n ≠ ch := by omega
      exact ⟨n, n0, by omega, by rw [zu_n _ _ e2]; exact n2, by rw [zu_n _ _ e2]; exact n3⟩
  · have key : ∃ n, 0 ≤ n ∧ n < ch ∧ qp n = cp j ∧ tb (qs n) S = true := by
      by_cases e : j = k
      · subst e
        obtain ⟨n, n0, n1, n2, n3⟩ := h.2.2.1 i0 S hi.1 hi.2.1 s0 s1 (fun i a b q => hl i a b (q.trans hi.2.2))
        exact ⟨n, n0, n1, n2.trans hi.2.2, n3⟩
      · exact h.2.2.1 j S j0 (by omega) s0 s1 hl
    obtain ⟨n, n0, n1, n2, n3⟩ := key
    have e2 : n ≠ ch := by omega
    exact ⟨n, n0, by omega, by rw [zu_n _ _ e2]; exact n2, by rw [zu_n _ _ e2]; exact n3⟩
/-- every set gives every candidate's point one of its choices -/
theorem CHI_all {ts hs cp ck qp qt qs : Int → Int} {cn ch sk j S : Int} (h : CHI ts hs cp ck cn cn ch qp qt qs sk) (j0 : 0 ≤ j) (j1 : j < cn) (s0 : 0 ≤ S) (s1 : S < 16) : ∃ n, 0 ≤ n ∧ n < ch ∧ qp n = cp j ∧ tb (qs n) S = true := by
  have key : ∀ d, 0 ≤ d → d ≤ cn → (∃ i, 0 ≤ i ∧ cn - d ≤ i ∧ i < cn ∧ cp i = cp j ∧ tb S i = true ∧ ∀ i', i < i' → i' < cn → cp i' = cp j → tb S i' = false) ∨ (∀ i, cn - d ≤ i → i < cn → cp i = cp j → tb S i = false) := by
    refine zi_up (M := fun d => d ≤ cn → (∃ i, 0 ≤ i ∧ cn - d ≤ i ∧ i < cn ∧ cp i = cp j ∧ tb S i = true ∧ ∀ i', i < i' → i' < cn → cp i' = cp j → tb S i' = false) ∨ (∀ i, cn - d ≤ i → i < cn → cp i = cp j → tb S i = false)) ?_ ?_
    · intro _
      exact Or.inr (fun i a b => by omega)
    · intro d hd ih hle
      rcases ih (by omega) with ⟨i, a, b, c, q⟩ | hn
      · exact Or.inl ⟨i, a, by omega, c, q⟩
      · by_cases e : cp (cn - d - 1) = cp j ∧ tb S (cn - d - 1) = true
        · exact Or.inl ⟨cn - d - 1, by omega, by omega, by omega, e.1, e.2, fun i' a b q => hn i' (by omega) b q⟩
        · right
          intro i a b q
          by_cases e2 : i = cn - d - 1
          · subst e2
            cases hb : tb S (cn - d - 1) with
            | false => rfl
            | true => exact absurd ⟨q, hb⟩ e
          · exact hn i (by omega) b q
  rcases key cn (by omega) (Int.le_refl _) with ⟨i, a, b, c, q1, q2, q3⟩ | hn
  · obtain ⟨n, n0, n1, n2, n3⟩ := h.2.1 i S a c s0 s1 q2 (fun i' x y z => q3 i' x y (z.trans q1))
    exact ⟨n, n0, n1, n2.trans q1, n3⟩
  · exact h.2.2.1 j S j0 j1 s0 s1 (fun i a b q => hn i (by omega) b q)
/-- the lowest tips -/
def LOI (N ch : Int) (ts qp qt lo : Int → Int) : Prop := ∀ p, 0 ≤ p → p < N → lo p ≤ ts p ∧ (∀ n, 0 ≤ n → n < ch → qp n = p → lo p ≤ qt n) ∧ (lo p = ts p ∨ ∃ n, 0 ≤ n ∧ n < ch ∧ qp n = p ∧ lo p = qt n)
theorem LOI_0 {N : Int} {ts qp qt lo : Int → Int} : LOI N 0 ts qp qt (zcp ts lo N) := fun p p0 p1 => by
  have e : zcp ts lo N p = ts p := by rw [zcp, if_pos ⟨p0, p1⟩]
  rw [e]
  exact ⟨Int.le_refl _, fun n n0 n1 => by omega, Or.inl rfl⟩
theorem LOI_s {N i mn : Int} {ts qp qt lo : Int → Int} (h : LOI N i ts qp qt lo) (hi : 0 ≤ i) (hm : (qt i < lo (qp i) ∧ mn = qt i) ∨ (lo (qp i) ≤ qt i ∧ mn = lo (qp i))) : LOI N (i + 1) ts qp qt (zu lo (qp i) mn) := fun p p0 p1 => by
  obtain ⟨h1, h2, h3⟩ := h p p0 p1
  by_cases e : p = qp i
  · subst e
    rw [zu_s]
    refine ⟨by omega, fun n n0 n1 n2 => ?_, ?_⟩
    · by_cases e2 : n = i
      · subst e2; omega
      · have := h2 n n0 (by omega) n2; omega
    · rcases hm with ⟨a, b⟩ | ⟨a, b⟩
      · exact Or.inr ⟨i, hi, by omega, rfl, b⟩
      · rcases h3 with q | ⟨n, n0, n1, n2, n3⟩
        · exact Or.inl (by omega)
        · exact Or.inr ⟨n, n0, by omega, n2, by omega⟩
  · rw [zu_n _ _ e]
    refine ⟨h1, fun n n0 n1 n2 => ?_, ?_⟩
    · by_cases e2 : n = i
      · subst e2; exact absurd n2.symm e
      · exact h2 n n0 (by omega) n2
    · rcases h3 with q | ⟨n, n0, n1, n2, n3⟩
      · exact Or.inl q
      · exact Or.inr ⟨n, n0, by omega, n2, n3⟩
