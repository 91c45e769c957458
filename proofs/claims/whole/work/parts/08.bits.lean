/-! ===== Int32 by its bits: bt x i ===== -/
def bt (x : Int32) (i : Nat) : Bool := x.toBitVec.getLsbD i
theorem b_ext {x y : Int32} (h : ∀ i, i < 32 → bt x i = bt y i) : x = y := Int32.toBitVec_inj.mp (BitVec.eq_of_getLsbD_eq (fun i hi => h i hi))
theorem b_or (x y : Int32) (i : Nat) : bt (x ||| y) i = (bt x i || bt y i) := by unfold bt; rw [Int32.toBitVec_or, BitVec.getLsbD_or]
theorem b_and (x y : Int32) (i : Nat) : bt (x &&& y) i = (bt x i && bt y i) := by unfold bt; rw [Int32.toBitVec_and, BitVec.getLsbD_and]
theorem b_xor (x y : Int32) (i : Nat) : bt (x ^^^ y) i = (bt x i ^^ bt y i) := by unfold bt; rw [Int32.toBitVec_xor, BitVec.getLsbD_xor]
theorem b_big {x : Int32} {i : Nat} (h : 32 ≤ i) : bt x i = false := BitVec.getLsbD_of_ge _ _ h
theorem b_255 (i : Nat) : bt 255 i = decide (i < 8) := by
  rcases Nat.lt_or_ge i 32 with h | h
  · exact (by decide +kernel : ∀ i, i < 32 → bt 255 i = decide (i < 8)) i h
  · rw [b_big h, decide_eq_false (by omega)]
theorem b_65535 (i : Nat) : bt 65535 i = decide (i < 16) := by
  rcases Nat.lt_or_ge i 32 with h | h
  · exact (by decide +kernel : ∀ i, i < 32 → bt 65535 i = decide (i < 16)) i h
  · rw [b_big h, decide_eq_false (by omega)]
theorem b_m1 : ∀ i, i < 32 → bt (-1) i = true := by decide +kernel
theorem b_0 (i : Nat) : bt 0 i = false := BitVec.getLsbD_zero
theorem s_l : ∀ n, n < 32 → ((nI n &&& 31).toBitVec.smod 32).toNat = n := by decide +kernel
theorem s_u : ∀ n, n < 32 → (((nI n).toUInt32 &&& Int32.toUInt32 31).toBitVec % 32).toNat = n := by decide +kernel
theorem b_shl (n : Nat) (hn : n < 32) (x : Int32) {i : Nat} (hi : i < 32) : bt (x <<< (nI n &&& 31)) i = (decide (n ≤ i) && bt x (i - n)) := by
  unfold bt
  rw [Int32.toBitVec_shiftLeft]
  show (x.toBitVec <<< ((nI n &&& 31).toBitVec.smod 32).toNat).getLsbD i = _
  rw [s_l n hn, BitVec.getLsbD_shiftLeft]
  rcases Nat.lt_or_ge i n with h | h
  · simp [h, Nat.not_le.mpr h]
  · simp [hi, h, Nat.not_lt.mpr h]
theorem b_ushr (n : Nat) (hn : n < 32) (x : Int32) (i : Nat) : bt ((x.toUInt32 >>> ((nI n).toUInt32 &&& Int32.toUInt32 31)).toInt32) i = bt x (n + i) := by
  show (x.toUInt32 >>> ((nI n).toUInt32 &&& Int32.toUInt32 31)).toBitVec.getLsbD i = x.toUInt32.toBitVec.getLsbD (n + i)
  rw [UInt32.toBitVec_shiftRight]
  show (x.toUInt32.toBitVec >>> (((nI n).toUInt32 &&& Int32.toUInt32 31).toBitVec % 32).toNat).getLsbD i = _
  rw [s_u n hn, BitVec.getLsbD_ushiftRight]
theorem b_sshr (n : Nat) (hn : n < 32) (x : Int32) {i : Nat} (hi : i < 32) : bt (x >>> (nI n &&& 31)) i = if n + i < 32 then bt x (n + i) else bt x 31 := by
  unfold bt
  rw [Int32.toBitVec_shiftRight]
  show (x.toBitVec.sshiftRight ((nI n &&& 31).toBitVec.smod 32).toNat).getLsbD i = _
  rw [s_l n hn, BitVec.getLsbD_sshiftRight, BitVec.msb_eq_getLsbD_last]
  simp [hi]
/-! sets of sets as ints: bit k of s -/
def tb (s k : Int) : Bool := bt (iZ s) k.toNat
theorem tb_and (a b k : Int) : tb (zand a b) k = (tb a k && tb b k) := by rw [tb, zand, iZ_of, b_and]; rfl
theorem tb_or (a b k : Int) : tb (zor a b) k = (tb a k || tb b k) := by rw [tb, zor, iZ_of, b_or]; rfl
theorem tb_not (a : Int) {k : Int} (h : k < 32) : tb (zxor a (-1)) k = !tb a k := by
  have e : bt (iZ (-1)) k.toNat = true := (by decide +kernel : ∀ i, i < 32 → bt (iZ (-1)) i = true) k.toNat (by omega)
  rw [tb, zxor, iZ_of, b_xor, e, tb]
  cases bt (iZ a) k.toNat <;> rfl
theorem tb_0 (k : Int) : tb 0 k = false := by rw [tb, iZ_0, b_0]
theorem tb_nz {s : Int} (h : ir s) (hn : ¬ s = 0) : ∃ k, 0 ≤ k ∧ k < 32 ∧ tb s k = true := by
  by_cases c : ∃ i : Nat, i < 32 ∧ bt (iZ s) i = true
  · obtain ⟨i, h1, h2⟩ := c
    exact ⟨(i : Int), by omega, by omega, by rw [tb, Int.toNat_natCast]; exact h2⟩
  · exfalso
    apply hn
    have e : iZ s = 0 := b_ext (fun i hi => by
      rw [b_0]
      cases hb : bt (iZ s) i with
      | false => rfl
      | true => exact absurd ⟨i, hi, hb⟩ c)
    exact (iZ_eq0 h).mp e
theorem iZ_zshr (a b : Int) : iZ (zshr a b) = iZ a >>> (iZ b &&& 31) := by rw [zshr, iZ_of]
theorem zand_ir (a b : Int) : ir (zand a b) := iZ_ir _
theorem zor_ir (a b : Int) : ir (zor a b) := iZ_ir _
theorem zxor_ir (a b : Int) : ir (zxor a b) := iZ_ir _
theorem zshr_ir (a b : Int) : ir (zshr a b) := iZ_ir _
theorem zshl_ir (a b : Int) : ir (zshl a b) := iZ_ir _
theorem zbit (s : Int) {k : Int} (h0 : 0 ≤ k) (h1 : k < 32) : zand (zshr s k) 1 = bi (tb s k) := by
  have e : iZ (zshr s k) &&& iZ 1 = iZ (bi (tb s k)) := by
    apply b_ext
    intro i hi
    have ek : iZ k = nI k.toNat := by have := iZ_nat k.toNat; rw [Int.toNat_of_nonneg h0] at this; exact this
    rw [b_and, iZ_zshr, ek, b_sshr k.toNat (by omega) (iZ s) hi]
    have e1 : ∀ i, i < 32 → bt (iZ 1) i = decide (i = 0) := by decide +kernel
    have e0 : ∀ i, i < 32 → bt (iZ 0) i = false := by decide +kernel
    rw [e1 i hi]
    by_cases c : i = 0
    · subst c
      have e2 : k.toNat + 0 < 32 := by omega
      rw [if_pos e2, Nat.add_zero]
      show (bt (iZ s) k.toNat && decide (0 = 0)) = bt (iZ (bi (bt (iZ s) k.toNat))) 0
      cases bt (iZ s) k.toNat <;> decide
    · rw [decide_eq_false c, Bool.and_false]
      cases tb s k with
      | false => exact (e0 i hi).symm
      | true => exact ((e1 i hi).trans (decide_eq_false c)).symm
  rw [zand, e]
  have := bi_b (tb s k)
  exact iZ_toInt ⟨by omega, by omega⟩
theorem tb_one {k j : Int} (h0 : 0 ≤ k) (h1 : k < 31) (j0 : 0 ≤ j) (j1 : j < 32) : tb (zshl 1 k) j = decide (j = k) := by
  have ek : iZ k = nI k.toNat := by have := iZ_nat k.toNat; rw [Int.toNat_of_nonneg h0] at this; exact this
  rw [tb, zshl, iZ_of, ek, b_shl k.toNat (by omega) (iZ 1) (by omega)]
  have e1 : ∀ i, i < 32 → bt (iZ 1) i = decide (i = 0) := by decide +kernel
  by_cases c : k.toNat ≤ j.toNat
  · rw [decide_eq_true c, Bool.true_and, e1 _ (by omega)]
    by_cases d : j = k
    · rw [decide_eq_true d, decide_eq_true (by omega)]
    · rw [decide_eq_false d, decide_eq_false (by omega)]
  · rw [decide_eq_false c, Bool.false_and, decide_eq_false (by omega)]
theorem zshr_20 {z : Int} (h : ir z) : zshr z 20 = z / 1048576 := by
  rw [zshr, pk_shr (iZ z) (iZ 20 &&& 31) 20 (by decide), iZ_toInt h, Int.shiftRight_eq_div_pow]
  rfl
