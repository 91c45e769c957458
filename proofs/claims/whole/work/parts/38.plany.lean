/-! The best set. -/
def doesS (W D_ r cn : Int) (ts hs cp ck wa : Int → Int) (S : Int) : Prop := ∀ p, 0 ≤ p → p < W * D_ → wa p = 1 → safeT W D_ r (tS ts hs cp ck S cn.toNat) p
def ansI (W D_ r cn : Int) (ts hs cp ck wa : Int → Int) (z : Int) : Prop :=
  (z = -1 ∧ ∀ S, 0 ≤ S → S < zshl 1 cn → ¬ doesS W D_ r cn ts hs cp ck wa S) ∨ (0 ≤ z ∧ z < zshl 1 cn ∧ doesS W D_ r cn ts hs cp ck wa z ∧ ∀ S, 0 ≤ S → S < zshl 1 cn → doesS W D_ r cn ts hs cp ck wa S → S = z ∨ btr ck cn z S)
def svC (W N r sz ch : Int) (co ro ho ac al sd lf ts re ow lo qp qt qs : Int → Int) (q S : Int) : Prop := ∃ n, 0 ≤ n ∧ n < ch ∧ qp n = q ∧ tb (qs n) S = true ∧ cvL W N r ch co ro ho ac al sd lf ts re ow lo qp qt qs q (qt n) sz S
theorem sv_C {W N r sz ch q sets S : Int} {co ro ho ac al sd lf ts re ow lo qp qt qs : Int → Int} : svL W N r sz ch co ro ho ac al sd lf ts re ow lo qp qt qs q sets ch S ↔ tb sets S = true ∧ svC W N r sz ch co ro ho ac al sd lf ts re ow lo qp qt qs q S :=
  ⟨fun ⟨n, a, b, c, d, e, f⟩ => ⟨e, n, a, b, c, d, f⟩, fun ⟨e, n, a, b, c, d, f⟩ => ⟨n, a, b, c, d, e, f⟩⟩
def stC (W D_ r sz cn ch : Int) (co ro ho ac al sd lf ts re ow lo cp qp qt qs : Int → Int) (p S : Int) : Prop := (isC cp cn p → svC W (W * D_) r sz ch co ro ho ac al sd lf ts re ow lo qp qt qs p S) ∧ (¬ isC cp cn p → frA W D_ r ch co ro ts re qp qt qs p S)
def l1C (W D_ r sz cn ch : Int) (co ro ho ac al sd lf ts re ow lo cp qp qt qs wa : Int → Int) (i S : Int) : Prop := S < zshl 1 cn ∧ ∀ p, 0 ≤ p → p < i → wa p = 1 → stC W D_ r sz cn ch co ro ho ac al sd lf ts re ow lo cp qp qt qs p S
theorem l1_no {W D_ r sz cn ch i S : Int} {co ro ho ac al sd lf ts re ow lo cp qp qt qs wa : Int → Int} (hn : ¬ wa i = 1) : l1C W D_ r sz cn ch co ro ho ac al sd lf ts re ow lo cp qp qt qs wa i S ↔ l1C W D_ r sz cn ch co ro ho ac al sd lf ts re ow lo cp qp qt qs wa (i + 1) S :=
  ⟨fun h => ⟨h.1, fun p p0 p1 e => if c : p = i then absurd (c ▸ e) hn else h.2 p p0 (by omega) e⟩, fun h => ⟨h.1, fun p p0 p1 e => h.2 p p0 (by omega) e⟩⟩
theorem l1_yes {W D_ r sz cn ch i S : Int} {co ro ho ac al sd lf ts re ow lo cp qp qt qs wa : Int → Int} (hi : 0 ≤ i) (hw : wa i = 1) : (l1C W D_ r sz cn ch co ro ho ac al sd lf ts re ow lo cp qp qt qs wa i S ∧ stC W D_ r sz cn ch co ro ho ac al sd lf ts re ow lo cp qp qt qs i S) ↔ l1C W D_ r sz cn ch co ro ho ac al sd lf ts re ow lo cp qp qt qs wa (i + 1) S :=
  ⟨fun h => ⟨h.1.1, fun p p0 p1 e => if c : p = i then c ▸ h.2 else h.1.2 p p0 (by omega) e⟩, fun h => ⟨⟨h.1, fun p p0 p1 e => h.2 p p0 (by omega) e⟩, h.2 i hi (by omega) hw⟩⟩
theorem st_sv {W D_ r sz cn ch p S : Int} {co ro ho ac al sd lf ts re ow lo cp qp qt qs : Int → Int} (h : isC cp cn p) : stC W D_ r sz cn ch co ro ho ac al sd lf ts re ow lo cp qp qt qs p S ↔ svC W (W * D_) r sz ch co ro ho ac al sd lf ts re ow lo qp qt qs p S := ⟨fun q => q.1 h, fun q => ⟨fun _ => q, fun n => absurd h n⟩⟩
theorem st_fr {W D_ r sz cn ch p S : Int} {co ro ho ac al sd lf ts re ow lo cp qp qt qs : Int → Int} (h : ¬ isC cp cn p) : stC W D_ r sz cn ch co ro ho ac al sd lf ts re ow lo cp qp qt qs p S ↔ frA W D_ r ch co ro ts re qp qt qs p S := ⟨fun q => q.2 h, fun q => ⟨fun n => absurd n h, fun _ => q⟩⟩
theorem l1_end {W D_ r sz cn ch i S N sets : Int} {co ro ho ac al sd lf ts re ow lo cp qp qt qs wa : Int → Int} (hi : i ≤ N) (I : tb sets S = true ↔ l1C W D_ r sz cn ch co ro ho ac al sd lf ts re ow lo cp qp qt qs wa i S) (hend : N ≤ i ∨ sets = 0) : tb sets S = true ↔ l1C W D_ r sz cn ch co ro ho ac al sd lf ts re ow lo cp qp qt qs wa N S := by
  refine ⟨fun h => ?_, fun h => I.mpr ⟨h.1, fun p p0 p1 e => h.2 p p0 (by omega) e⟩⟩
  rcases hend with z | z
  · rw [show N = i by omega]; exact I.mp h
  · rw [z, tb_0] at h; cases h
theorem isC_cz {cp : Int → Int} {cn p : Int} (h : 0 ≤ cn) : isC cp cn p ↔ 0 < cz (fun j => decide (cp j = p)) cn := by
  constructor
  · rintro ⟨j, j0, j1, j2⟩
    have a := cz_lt (P := fun j => decide (cp j = p)) j0 j1 (by simpa using j2)
    have b := (cz_b (fun j => decide (cp j = p)) j0).1
    omega
  · intro q
    obtain ⟨j, j0, j1, j2⟩ := cz_ex q
    exact ⟨j, j0, j1, by simpa using j2⟩
theorem full_d : ∀ c : Fin 5, ∀ S : Fin 16, tb (zshl 1 (zshl 1 (c.val : Int)) - 1) (S.val : Int) = decide ((S.val : Int) < zshl 1 (c.val : Int)) := by decide +kernel
theorem full_tb {cn S : Int} (hc : 0 ≤ cn ∧ cn ≤ 4) (s0 : 0 ≤ S) (s1 : S < 16) : tb (zshl 1 (zshl 1 cn) - 1) S = true ↔ S < zshl 1 cn := by
  have := full_d ⟨cn.toNat, by omega⟩ ⟨S.toNat, by omega⟩
  simp only [Int.toNat_of_nonneg hc.1, Int.toNat_of_nonneg s0] at this
  rw [this, decide_eq_true_eq]
theorem full_i : ∀ c : Fin 5, -2147483648 ≤ zshl 1 (zshl 1 (c.val : Int)) - 1 ∧ zshl 1 (zshl 1 (c.val : Int)) - 1 < 2147483648 := by decide +kernel
theorem full_ir {cn : Int} (hc : 0 ≤ cn ∧ cn ≤ 4) : ir (zshl 1 (zshl 1 cn) - 1) := by
  have := full_i ⟨cn.toNat, by omega⟩
  simp only [Int.toNat_of_nonneg hc.1] at this
  exact this
theorem pc_0 : ∀ S : Fin 16, S.val = 0 ∨ pcS 0 4 < pcS (S.val : Int) 4 := by decide +kernel
theorem pc_pos {S : Int} (s0 : 0 < S) (s1 : S < 16) : pcS 0 4 < pcS S 4 := by
  have := pc_0 ⟨S.toNat, by omega⟩
  simp only [Int.toNat_of_nonneg (show 0 ≤ S by omega)] at this
  rcases this with h | h
  · omega
  · exact h
theorem tS_0 {ts hs cp ck : Int → Int} : ∀ n : Nat, tS ts hs cp ck 0 n = ts
  | 0 => rfl
  | n + 1 => by rw [tS, tb_0, if_neg (by decide), tS_0 n]
theorem ans_0 {W D_ r cn : Int} {ts hs cp ck wa re tc ow hc : Int → Int} (hcn : 0 ≤ cn ∧ cn ≤ 4) (hB : BI W D_ r ts re tc ow hc) (h : ∀ p, 0 ≤ p → p < W * D_ → wa p = 0 ∨ hc p = 0) : ansI W D_ r cn ts hs cp ck wa 0 := by
  have hp := pw_b hcn
  refine Or.inr ⟨Int.le_refl 0, by omega, fun p p0 p1 hw => ?_, fun S s0 s1 _ => ?_⟩
  · rw [tS_0]
    exact (safe_iff hB p0 p1).mp ((h p p0 p1).elim (fun q => by omega) id)
  · by_cases e : S = 0
    · exact Or.inl e
    · exact Or.inr (Or.inl (pc_pos (by omega) (by omega)))
section FIN
variable {W D_ r sz cn ch sk : Int} {co ro ho ac al sd lf sq ts hs cp ck qp qt qs lo re tc ow hc wa : Int → Int}
theorem fin_eq (hG : GE W D_ r sz co ro ho ac al sd lf sq) (hB : BI W D_ r ts re tc ow hc) (hcn : 0 ≤ cn ∧ cn ≤ 4) (hC : CHI ts hs cp ck cn cn ch qp qt qs sk) (hL : LOI (W * D_) ch ts qp qt lo) (hcp : ∀ j, 0 ≤ j → j < cn → 0 ≤ cp j ∧ cp j < W * D_ ∧ 1 ≤ ck j ∧ ck j ≤ 50) (hts : ∀ p, 0 ≤ p → p < W * D_ → 0 ≤ ts p ∧ ts p ≤ 262144000) (hhs : ∀ p, 0 ≤ p → p < W * D_ → 0 ≤ hs p ∧ hs p ≤ 200) {S : Int} (s0 : 0 ≤ S) (s1 : S < zshl 1 cn) :
    ((l1C W D_ r sz cn ch co ro ho ac al sd lf ts re ow lo cp qp qt qs wa (W * D_) S ∧ ∀ p, 0 ≤ p → p < W * D_ → lo p < ts p → mlL W (W * D_) r ch co ro ho ac al sd ow lo wa qp qt qs p sz S) ↔ doesS W D_ r cn ts hs cp ck wa S) ∧
    (tb sk S = false → (l1C W D_ r sz cn ch co ro ho ac al sd lf ts re ow lo cp qp qt qs wa (W * D_) S ↔ doesS W D_ r cn ts hs cp ck wa S)) := by
  have hpw := pw_b hcn
  have X := XS_of (W := W) (D_ := D_) (r := r) hcn.1 hC hL s0 (show S < 16 by omega)
  have hci : ∀ p, isC cp cn p → 0 ≤ p ∧ p < W * D_ := by
    rintro p ⟨j, j0, j1, rfl⟩
    have := hcp j j0 j1
    exact ⟨this.1, this.2.1⟩
  have hcn2 : (cn.toNat : Int) = cn := by omega
  have hb : ∀ p, 0 ≤ p → p < W * D_ → tS ts hs cp ck S cn.toNat p ≤ 262144000 := fun p p0 p1 => (tS_b hts hhs (n := cn.toNat) (fun j j0 j1 => hcp j j0 (by omega)) p p0 p1).2
  have cand : ∀ p, isC cp cn p → (svC W (W * D_) r sz ch co ro ho ac al sd lf ts re ow lo qp qt qs p S ↔ safeT W D_ r (tS ts hs cp ck S cn.toNat) p) := by
    intro p hp
    have hq := hci p hp
    constructor
    · rintro ⟨n, n0, n1, n2, n3, n4⟩
      have e := (X.1 n n0 n1).2 n3
      rw [n2] at e
      exact (ex_cand hG hB X hci hp (hb p hq.1 hq.2) e.symm).mp n4
    · intro h
      obtain ⟨n, n0, n1, n2, n3⟩ := X.2.1 p hp
      have e := (X.1 n n0 n1).2 n3
      rw [n2] at e
      exact ⟨n, n0, n1, n2, n3, (ex_cand hG hB X hci hp (hb p hq.1 hq.2) e.symm).mpr h⟩
  have down : doesS W D_ r cn ts hs cp ck wa S → l1C W D_ r sz cn ch co ro ho ac al sd lf ts re ow lo cp qp qt qs wa (W * D_) S := fun h =>
    ⟨s1, fun p p0 p1 hw => ⟨fun hp => (cand p hp).mpr (h p p0 p1 hw), fun hp => ex_free hG hB X hci p0 p1 hp (h p p0 p1 hw)⟩⟩
  refine ⟨⟨fun ⟨h1, h2⟩ p p0 p1 hw => ?_, fun h => ⟨down h, fun c c0 c1 _ => ex_low hG X hci h c0 c1⟩⟩, fun hsk => ⟨fun h1 p p0 p1 hw => ?_, down⟩⟩
  · by_cases hp : isC cp cn p
    · exact (cand p hp).mp ((h1.2 p p0 p1 hw).1 hp)
    · exact ex_hit (wa := wa) (sz := sz) hG hB X hci p0 p1 hp ((h1.2 p p0 p1 hw).2 hp) (fun q a b => (hts q a b).2) (Or.inr ⟨hw, h2⟩)
  · by_cases hp : isC cp cn p
    · exact (cand p hp).mp ((h1.2 p p0 p1 hw).1 hp)
    · refine ex_hit (wa := wa) (sz := sz) hG hB X hci p0 p1 hp ((h1.2 p p0 p1 hw).2 hp) (fun q a b => (hts q a b).2) (Or.inl (fun q q0 q1 => ?_))
      by_cases hq : isC cp cn q
      · obtain ⟨n, n0, n1, n2, n3⟩ := X.2.1 q hq
        have e := (X.1 n n0 n1).2 n3
        rw [n2] at e
        rw [e]
        by_cases lt : qt n < ts q
        · have := (hC.2.2.2.1 S s0 (by omega)).mpr ⟨n, n0, n1, n3, by rw [n2]; exact lt⟩
          rw [hsk] at this
          cases this
        · omega
      · rw [X.2.2.1 q hq]; exact Int.le_refl _
/-- the first look's best, where no set that makes a tip sink is better -/
theorem fin_1 {s1 s2 s3 b1 : Int} (hcn : 0 ≤ cn ∧ cn ≤ 4) (D1 : ∀ S, 0 ≤ S → S < zshl 1 cn → tb sk S = false → (tb s1 S = true ↔ doesS W D_ r cn ts hs cp ck wa S)) (D2 : ∀ S, 0 ≤ S → S < zshl 1 cn → ((tb s1 S = true ∧ ∀ p, 0 ≤ p → p < W * D_ → lo p < ts p → mlL W (W * D_) r ch co ro ho ac al sd ow lo wa qp qt qs p sz S) ↔ doesS W D_ r cn ts hs cp ck wa S))
    (hb : boI ck cn (zand s1 (zxor sk (-1))) (zshl 1 cn) b1) (h2 : ∀ T, 0 ≤ T → T < 16 → (tb s2 T = true ↔ T < zshl 1 cn ∧ tb (zand s1 sk) T = true ∧ (b1 = -1 ∨ btr ck cn T b1))) (h3 : ∀ T, 0 ≤ T → T < 16 → (tb s3 T = true ↔ tb s2 T = true ∧ ∀ p, 0 ≤ p → p < W * D_ → lo p < ts p → mlL W (W * D_) r ch co ro ho ac al sd ow lo wa qp qt qs p sz T)) :
    (s3 = 0 → ansI W D_ r cn ts hs cp ck wa b1) ∧ ∀ z, boI ck cn s3 (zshl 1 cn) z → s3 ≠ 0 → (∃ T, 0 ≤ T ∧ T < 16 ∧ tb s3 T = true) → ansI W D_ r cn ts hs cp ck wa z := by
  have hpw := pw_b hcn
  have n1 : ∀ T, 0 ≤ T → T < 16 → (tb (zand s1 (zxor sk (-1))) T = true ↔ tb s1 T = true ∧ tb sk T = false) := fun T t0 t1 => by
    rw [tb_and, tb_not _ (by omega), Bool.and_eq_true, Bool.not_eq_true']
  have in3 : ∀ T, 0 ≤ T → T < zshl 1 cn → (tb s3 T = true ↔ tb sk T = true ∧ doesS W D_ r cn ts hs cp ck wa T ∧ (b1 = -1 ∨ btr ck cn T b1)) := fun T t0 t1 => by
    rw [h3 T t0 (by omega), h2 T t0 (by omega), tb_and, Bool.and_eq_true, ← D2 T t0 t1]
    exact ⟨fun ⟨⟨_, ⟨a, b⟩, c⟩, d⟩ => ⟨b, ⟨a, d⟩, c⟩, fun ⟨b, ⟨a, d⟩, c⟩ => ⟨⟨t1, ⟨a, b⟩, c⟩, d⟩⟩
  have dn : ∀ T, 0 ≤ T → T < zshl 1 cn → tb sk T = false → doesS W D_ r cn ts hs cp ck wa T → b1 ≠ -1 ∧ (T = b1 ∨ btr ck cn b1 T) := fun T t0 t1 t2 t3 => by
    have a := (n1 T t0 (by omega)).mpr ⟨(D1 T t0 t1 t2).mpr t3, t2⟩
    rcases hb with ⟨_, c⟩ | ⟨c1, c2, c3, c4⟩
    · rw [c T t0 t1] at a; cases a
    · exact ⟨by omega, c4 T t0 t1 a⟩
  have d1 : b1 ≠ -1 → 0 ≤ b1 ∧ b1 < zshl 1 cn ∧ doesS W D_ r cn ts hs cp ck wa b1 := fun hne => by
    rcases hb with ⟨c, _⟩ | ⟨c1, c2, c3, c4⟩
    · exact absurd c hne
    · obtain ⟨e, f⟩ := (n1 b1 c1 (by omega)).mp c3
      exact ⟨c1, c2, (D1 b1 c1 c2 f).mp e⟩
  refine ⟨fun hz => ?_, fun z hbz hz hex => ?_⟩
  · have none3 : ∀ T, 0 ≤ T → T < zshl 1 cn → ¬ (tb sk T = true ∧ doesS W D_ r cn ts hs cp ck wa T ∧ (b1 = -1 ∨ btr ck cn T b1)) := fun T t0 t1 h => by
      have := (in3 T t0 t1).mpr h
      rw [hz, tb_0] at this
      cases this
    by_cases e : b1 = -1
    · refine Or.inl ⟨e, fun S s0 s1' hd => ?_⟩
      cases hk : tb sk S with
      | false => exact (dn S s0 s1' hk hd).1 e
      | true => exact none3 S s0 s1' ⟨hk, hd, Or.inl e⟩
    · obtain ⟨c1, c2, c3⟩ := d1 e
      refine Or.inr ⟨c1, c2, c3, fun S s0 s1' hd => ?_⟩
      cases hk : tb sk S with
      | false => exact (dn S s0 s1' hk hd).2
      | true =>
        by_cases f : S = b1
        · exact Or.inl f
        · exact Or.inr ((btr_tot f).elim (fun q => absurd ⟨hk, hd, Or.inr q⟩ (none3 S s0 s1')) id)
  · rcases hbz with ⟨_, c⟩ | ⟨c1, c2, c3, c4⟩
    · obtain ⟨T, t0, t1, t2⟩ := hex
      have t3 := ((h2 T t0 t1).mp ((h3 T t0 t1).mp t2).1).1
      rw [c T t0 t3] at t2
      cases t2
    · obtain ⟨a, b, d⟩ := (in3 z c1 c2).mp c3
      refine Or.inr ⟨c1, c2, b, fun S s0 s1' hd => ?_⟩
      cases hk : tb sk S with
      | false =>
        obtain ⟨e, f⟩ := dn S s0 s1' hk hd
        have g := d.elim (fun q => absurd q e) id
        rcases f with f | f
        · rw [f]; exact Or.inr g
        · exact Or.inr (btr_tr g f)
      | true =>
        by_cases g : b1 = -1 ∨ btr ck cn S b1
        · exact c4 S s0 s1' ((in3 S s0 s1').mpr ⟨hk, hd, g⟩)
        · have ne : b1 ≠ -1 := fun q => g (Or.inl q)
          have gz := d.elim (fun q => absurd q ne) id
          by_cases f : S = b1
          · rw [f]; exact Or.inr gz
          · exact Or.inr (btr_tr gz ((btr_tot f).elim (fun q => absurd (Or.inr q) g) id))
end FIN
