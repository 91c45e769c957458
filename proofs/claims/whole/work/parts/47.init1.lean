section INIT
variable {p : Program} {l : Launch} {e : Env} {s : State} {m : MethodId} {args : Array Value} {below : List Frame} {meth : Method} {c : Code} {Q : State → Prop} {D : va_G} {cI cZ cJ : ClassId} {SL : List zS} {A : Nat → Prop}
theorem sqb {a r : Int} (h1 : -r ≤ a) (h2 : a ≤ r) : a * a ≤ r * r := by
  by_cases h : 0 ≤ a
  · exact sq_le (Or.inl ⟨h, h2⟩)
  · have := sq_le (a := -a) (b := r) (Or.inl ⟨by omega, by omega⟩)
    rw [Int.neg_mul_neg] at this; exact this
abbrev rmJA_fill : Room := { frames := 0, cells := 0, slots := 0, locals := 0 }
set_option maxHeartbeats 4000000 in
set_option maxRecDepth 100000 in
theorem lp_fill {b : Nat} {v len : Int} (F : FX p s m args meth c cJA_fill 4 none wsJA_fill RJA D vwCl cI cZ cJ SL A) (hn0 : 0 ≤ len ∧ len < 100000)
    (k20 : ∀ (i : Int) (g : Int → Int), (∀ j, 0 ≤ j → j < len → g j = v) → TT p l e rmJA_fill s m args below meth c D vwCl A 4 False Q 20 [(0, .ref b), (1, .int (iZ v)), (2, .int (iZ i)), (3, .int (iZ len))] [] [(b, aI cI len g)] 0 0) :
    ∀ (n : Nat) (i : Int) (g : Int → Int), (len - i).toNat < n → (0 ≤ i ∧ i ≤ len) → (∀ j, 0 ≤ j → j < i → g j = v) → TT p l e rmJA_fill s m args below meth c D vwCl A 4 False Q 5 [(0, .ref b), (1, .int (iZ v)), (2, .int (iZ i)), (3, .int (iZ len))] [] [(b, aI cI len g)] 0 0 := by
  intro n
  induction n with
  | zero => intro i g hn; omega
  | succ n ih =>
    intro i g hn hi hi2
    refine tt_iload_n F 2 rfl rfl dJA_fill_5 ?_
    refine tt_iload_n F 3 rfl rfl dJA_fill_6 ?_
    refine tt_icmp_ge F 20 ⟨by omega, by omega⟩ ⟨by omega, by omega⟩ dJA_fill_7 (by decide) (fun c7 => ?_) (fun c7 => ?_)
    · skip
      refine tt_sub [0, 1, 2, 3] rfl ?_
      exact k20 i g (fun j j0 j1 => hi2 j j0 (by omega))
    · skip
      refine tt_aload_n F 0 rfl rfl dJA_fill_10 ?_
      refine tt_iload_n F 2 rfl rfl dJA_fill_11 ?_
      refine tt_iload_n F 1 rfl rfl dJA_fill_12 ?_
      refine tt_iast F (fun h => h) 0 rfl (by omega) (by omega) (by omega) dJA_fill_13 ?_
      refine tt_nrm (k := 0) (n := 0) (ws' := [(b, aI cI len (zu g i v))]) (by omega) (by omega) rfl ?_
      refine tt_iinc F 2 [(2, .int (iZ (i + 1))), (0, .ref b), (1, .int (iZ v)), (3, .int (iZ len))] rfl (by decide) rfl dJA_fill_14 ?_
      refine tt_goto F 5 (by decide) dJA_fill_17 ?_
      refine tt_sub [1, 2, 0, 3] rfl ?_
      exact ih (i + 1) (zu g i v) (by omega) (⟨by omega, by omega⟩) (fun j j0 j1 => if e : j = i then (by rw [e, zu_s]) else (by rw [zu_n _ _ e]; exact hi2 j j0 (by omega)))
set_option maxHeartbeats 4000000 in
set_option maxRecDepth 100000 in
theorem c_fill {b : Nat} {v n : Int} {g : Int → Int} (hn0 : 0 ≤ n ∧ n < 100000) : CV l D vwCl cI cZ cJ SL yJA_fill wsJA_fill rmJA_fill [.ref b, .int (iZ v)] [(b, aI cI n g)] (fun w1 => ∃ g', w1 = [(b, aI cI n g')] ∧ ∀ j, 0 ≤ j → j < n → g' j = v) := by
  refine tt_startV (by decide) rfl (Nat.le_of_ble_eq_true rfl) ?_
  intro p e s m args below meth c hnm F
  refine tt_iconst F dJA_fill_0 ?_
  refine tt_istore_n F [(2, .int (iZ 0)), (0, .ref b), (1, .int (iZ v))] rfl (by decide) rfl dJA_fill_1 ?_
  refine tt_aload_n F 1 rfl rfl dJA_fill_2 ?_
  refine tt_alen F 0 rfl (by omega) dJA_fill_3 ?_
  refine tt_istore_n F [(3, .int (iZ n)), (2, .int (iZ 0)), (0, .ref b), (1, .int (iZ v))] rfl (by decide) rfl dJA_fill_4 ?_
  refine tt_sub [2, 3, 1, 0] rfl ?_
  refine lp_fill F hn0 (fun i g' hg => ?_) (n.toNat + 1) 0 g (by omega) (by omega) (fun j j0 j1 => by omega)
  exact tt_vret F rfl (Nat.le_of_ble_eq_true rfl) (Nat.le_of_ble_eq_true rfl) dJA_fill_20 ⟨g', rfl, hg⟩
abbrev rmRB_between : Room := { frames := 1, cells := 0, slots := 0, locals := 60 }
set_option maxHeartbeats 4000000 in
set_option maxRecDepth 100000 in
theorem c_between {w0 : va_W} {z a_ b_ : Int} (hz : ir z) (ha : ir a_) (hb : ir b_) (hab : a_ ≤ b_) : CI l D vwCl cI cZ cJ SL yRB_between wsRB_between rmRB_between [.int (iZ z), .int (iZ a_), .int (iZ b_)] w0 (fun q w1 => ((z < a_ ∧ q = a_) ∨ (a_ ≤ z ∧ z ≤ b_ ∧ q = z) ∨ (b_ < z ∧ q = b_)) ∧ w1 = w0) := by
  refine tt_startI (by decide) rfl (Nat.le_of_ble_eq_true rfl) ?_
  intro p e s m args below meth c hnm F
  refine tt_iload_n F 1 rfl rfl dRB_between_0 ?_
  refine tt_iload_n F 0 rfl rfl dRB_between_1 ?_
  refine tt_iload_n F 2 rfl rfl dRB_between_2 ?_
  refine tt_mmin F ⟨by omega, by omega⟩ ⟨by omega, by omega⟩ we72 we73 we46 we74 (Nat.le_of_ble_eq_true rfl) (Nat.le_of_ble_eq_true rfl) (Nat.le_of_ble_eq_true rfl) (Nat.le_of_ble_eq_true rfl) dRB_between_3 ?_
  refine tt_name (fun x3 hx3 => ?_)
  have hbx3 : (b_ < z ∧ x3 = b_) ∨ (z ≤ b_ ∧ x3 = z) := by rw [hx3]; split <;> omega
  refine tt_mmax F ⟨by omega, by omega⟩ ⟨by omega, by omega⟩ we75 we76 we46 we77 (Nat.le_of_ble_eq_true rfl) (Nat.le_of_ble_eq_true rfl) (Nat.le_of_ble_eq_true rfl) (Nat.le_of_ble_eq_true rfl) dRB_between_6 ?_
  refine tt_name (fun x6 hx6 => ?_)
  have hbx6 : (a_ < x3 ∧ x6 = x3) ∨ (x3 ≤ a_ ∧ x6 = a_) := by rw [hx6]; split <;> omega
  exact tt_iret F rfl (Nat.le_of_ble_eq_true rfl) (Nat.le_of_ble_eq_true rfl) dRB_between_9 ⟨by omega, rfl⟩
abbrev rmHO_init : Room := { frames := 1, cells := 6, slots := 732, locals := 60 }
set_option maxHeartbeats 4000000 in
set_option maxRecDepth 100000 in
theorem lp_house1 {b q26 q36 q46 q56 q66 q73 : Nat} {W D_ : Int} {y : Int} (F : FX p s m args meth c cHO_init 5 none wsHO_init RHO D vwCl cI cZ cJ SL A) (hW1 : 1 ≤ W) (hW2 : W ≤ 12) (hD1 : 1 ≤ D_) (hD2 : D_ ≤ 12) (hy : 0 ≤ y ∧ y < D_)
    (k125 : ∀ (x : Int) (co : Int → Int) (ro : Int → Int), (∀ i j, 0 ≤ i → i < W → 0 ≤ j → j * W + i < (y + 1) * W → co (j * W + i) = i ∧ ro (j * W + i) = j) → TT p l e rmHO_init s m args below meth c D vwCl A 5 False Q 125 [(0, .ref b), (1, .int (iZ W)), (2, .int (iZ D_)), (3, .int (iZ y))] [] [(b, .inr (2, [.int (iZ W), .int (iZ D_), .int (iZ (W * D_)), .ref q26, .ref q36, .ref q46, .ref q56, .ref q66, .ref q73])), (q26, aI cI (W * D_) co), (q36, aI cI (W * D_) ro), (q46, aI cI (W * D_) (fun _ => 0)), (q56, aI cI (W * D_) (fun _ => 0)), (q66, aI cI (W * D_) (fun _ => 0)), (q73, aI cI D_ (fun _ => 0))] 6 732) :
    ∀ (n : Nat) (x : Int) (co : Int → Int) (ro : Int → Int), (W - x).toNat < n → (0 ≤ x ∧ x ≤ W) → (∀ i j, 0 ≤ i → i < W → 0 ≤ j → j * W + i < y * W + x → co (j * W + i) = i ∧ ro (j * W + i) = j) → TT p l e rmHO_init s m args below meth c D vwCl A 5 False Q 88 [(0, .ref b), (1, .int (iZ W)), (2, .int (iZ D_)), (3, .int (iZ y)), (4, .int (iZ x))] [] [(b, .inr (2, [.int (iZ W), .int (iZ D_), .int (iZ (W * D_)), .ref q26, .ref q36, .ref q46, .ref q56, .ref q66, .ref q73])), (q26, aI cI (W * D_) co), (q36, aI cI (W * D_) ro), (q46, aI cI (W * D_) (fun _ => 0)), (q56, aI cI (W * D_) (fun _ => 0)), (q66, aI cI (W * D_) (fun _ => 0)), (q73, aI cI D_ (fun _ => 0))] 6 732 := by
  intro n
  induction n with
  | zero => intro x co ro hn; omega
  | succ n ih =>
    intro x co ro hn hx I
    have hWD := wd_b hW1 hW2 hD1 hD2
    refine tt_iload F 4 rfl dHO_init_88 ?_
    refine tt_iload_n F 1 rfl rfl dHO_init_90 ?_
    refine tt_icmp_ge F 125 ⟨by omega, by omega⟩ ⟨by omega, by omega⟩ dHO_init_91 (by decide) (fun c91 => ?_) (fun c91 => ?_)
    · skip
      refine tt_sub [0, 1, 2, 3] rfl ?_
      exact k125 x co ro (by rw [rw_s, show y * W + W = y * W + x by omega]; exact I)
    · skip
      have hix := ix_b (i := x) (j := y) (W := W) (D := D_) (by omega) (by omega) (by omega) (by omega)
      refine tt_aload_n F 0 rfl rfl dHO_init_94 ?_
      refine tt_get F inHO 0 rfl rfl 3 (by decide) we92 rfl dHO_init_95 ?_
      refine tt_iload_n F 3 rfl rfl dHO_init_98 ?_
      refine tt_iload_n F 1 rfl rfl dHO_init_99 ?_
      refine tt_imul F dHO_init_100 ?_
      refine tt_iload F 4 rfl dHO_init_101 ?_
      refine tt_iadd F dHO_init_103 ?_
      refine tt_iload F 4 rfl dHO_init_104 ?_
      refine tt_iast F (fun h => h) 1 rfl (by omega) (by omega) (by omega) dHO_init_106 ?_
      refine tt_nrm (k := 6) (n := 732) (ws' := [(b, .inr (2, [.int (iZ W), .int (iZ D_), .int (iZ (W * D_)), .ref q26, .ref q36, .ref q46, .ref q56, .ref q66, .ref q73])), (q26, aI cI (W * D_) (zu co ((y * W) + x) x)), (q36, aI cI (W * D_) ro), (q46, aI cI (W * D_) (fun _ => 0)), (q56, aI cI (W * D_) (fun _ => 0)), (q66, aI cI (W * D_) (fun _ => 0)), (q73, aI cI D_ (fun _ => 0))]) (by omega) (by omega) rfl ?_
      refine tt_aload_n F 0 rfl rfl dHO_init_107 ?_
      refine tt_get F inHO 0 rfl rfl 4 (by decide) we96 rfl dHO_init_108 ?_
      refine tt_iload_n F 3 rfl rfl dHO_init_111 ?_
      refine tt_iload_n F 1 rfl rfl dHO_init_112 ?_
      refine tt_imul F dHO_init_113 ?_
      refine tt_iload F 4 rfl dHO_init_114 ?_
      refine tt_iadd F dHO_init_116 ?_
      refine tt_iload_n F 3 rfl rfl dHO_init_117 ?_
      refine tt_iast F (fun h => h) 2 rfl (by omega) (by omega) (by omega) dHO_init_118 ?_
      refine tt_nrm (k := 6) (n := 732) (ws' := [(b, .inr (2, [.int (iZ W), .int (iZ D_), .int (iZ (W * D_)), .ref q26, .ref q36, .ref q46, .ref q56, .ref q66, .ref q73])), (q26, aI cI (W * D_) (zu co ((y * W) + x) x)), (q36, aI cI (W * D_) (zu ro ((y * W) + x) y)), (q46, aI cI (W * D_) (fun _ => 0)), (q56, aI cI (W * D_) (fun _ => 0)), (q66, aI cI (W * D_) (fun _ => 0)), (q73, aI cI D_ (fun _ => 0))]) (by omega) (by omega) rfl ?_
      refine tt_iinc F 4 [(4, .int (iZ (x + 1))), (0, .ref b), (1, .int (iZ W)), (2, .int (iZ D_)), (3, .int (iZ y))] rfl (by decide) rfl dHO_init_119 ?_
      refine tt_goto F 88 (by decide) dHO_init_122 ?_
      refine tt_sub [1, 2, 3, 4, 0] rfl ?_
      exact ih (x + 1) (zu co ((y * W) + x) x) (zu ro ((y * W) + x) y) (by omega) (⟨by omega, by omega⟩) (fun i j i0 i1 j0 j1 => if e : j * W + i = y * W + x then (by have e2 := ix_inj (W := W) i0 i1 (by omega) (by omega) e; rw [e, zu_s, zu_s]; omega) else (by rw [zu_n _ _ e, zu_n _ _ e]; exact I i j i0 i1 j0 (by omega)))
set_option maxHeartbeats 4000000 in
set_option maxRecDepth 100000 in
theorem lp_house {b q26 q36 q46 q56 q66 q73 : Nat} {W D_ : Int} (F : FX p s m args meth c cHO_init 5 none wsHO_init RHO D vwCl cI cZ cJ SL A) (hW1 : 1 ≤ W) (hW2 : W ≤ 12) (hD1 : 1 ≤ D_) (hD2 : D_ ≤ 12)
    (k131 : ∀ (y : Int) (co : Int → Int) (ro : Int → Int), (∀ i j, 0 ≤ i → i < W → 0 ≤ j → j * W + i < W * D_ → co (j * W + i) = i ∧ ro (j * W + i) = j) → TT p l e rmHO_init s m args below meth c D vwCl A 5 False Q 131 [(0, .ref b), (1, .int (iZ W)), (2, .int (iZ D_)), (3, .int (iZ y))] [] [(b, .inr (2, [.int (iZ W), .int (iZ D_), .int (iZ (W * D_)), .ref q26, .ref q36, .ref q46, .ref q56, .ref q66, .ref q73])), (q26, aI cI (W * D_) co), (q36, aI cI (W * D_) ro), (q46, aI cI (W * D_) (fun _ => 0)), (q56, aI cI (W * D_) (fun _ => 0)), (q66, aI cI (W * D_) (fun _ => 0)), (q73, aI cI D_ (fun _ => 0))] 6 732) :
    ∀ (n : Nat) (y : Int) (co : Int → Int) (ro : Int → Int), (D_ - y).toNat < n → (0 ≤ y ∧ y ≤ D_) → (∀ i j, 0 ≤ i → i < W → 0 ≤ j → j * W + i < y * W → co (j * W + i) = i ∧ ro (j * W + i) = j) → TT p l e rmHO_init s m args below meth c D vwCl A 5 False Q 80 [(0, .ref b), (1, .int (iZ W)), (2, .int (iZ D_)), (3, .int (iZ y))] [] [(b, .inr (2, [.int (iZ W), .int (iZ D_), .int (iZ (W * D_)), .ref q26, .ref q36, .ref q46, .ref q56, .ref q66, .ref q73])), (q26, aI cI (W * D_) co), (q36, aI cI (W * D_) ro), (q46, aI cI (W * D_) (fun _ => 0)), (q56, aI cI (W * D_) (fun _ => 0)), (q66, aI cI (W * D_) (fun _ => 0)), (q73, aI cI D_ (fun _ => 0))] 6 732 := by
  intro n
  induction n with
  | zero => intro y co ro hn; omega
  | succ n ih =>
    intro y co ro hn hy I
    have hWD := wd_b hW1 hW2 hD1 hD2
    refine tt_iload_n F 3 rfl rfl dHO_init_80 ?_
    refine tt_iload_n F 2 rfl rfl dHO_init_81 ?_
    refine tt_icmp_ge F 131 ⟨by omega, by omega⟩ ⟨by omega, by omega⟩ dHO_init_82 (by decide) (fun c82 => ?_) (fun c82 => ?_)
    · skip
      refine tt_sub [0, 1, 2, 3] rfl ?_
      exact k131 y co ro (by rw [Int.mul_comm W D_, show D_ * W = y * W by rw [show D_ = y by omega]]; exact I)
    · skip
      refine tt_iconst F dHO_init_85 ?_
      refine tt_istore F [(4, .int (iZ 0)), (0, .ref b), (1, .int (iZ W)), (2, .int (iZ D_)), (3, .int (iZ y))] (by decide) rfl dHO_init_86 ?_
      refine tt_sub [1, 2, 3, 4, 0] rfl ?_
      refine lp_house1 F hW1 hW2 hD1 hD2 (by omega) (fun x co ro I2 => ?_) (W.toNat + 1) 0 co ro (by omega) (by omega) (by rw [Int.add_zero]; exact I)
      refine tt_iinc F 3 [(3, .int (iZ (y + 1))), (0, .ref b), (1, .int (iZ W)), (2, .int (iZ D_))] rfl (by decide) rfl dHO_init_125 ?_
      refine tt_goto F 80 (by decide) dHO_init_128 ?_
      refine tt_sub [1, 2, 3, 0] rfl ?_
      exact ih (y + 1) co ro (by omega) (⟨by omega, by omega⟩) (I2)
set_option maxHeartbeats 4000000 in
set_option maxRecDepth 100000 in
theorem c_house {b : Nat} {W D_ : Int} (hW1 : 1 ≤ W) (hW2 : W ≤ 12) (hD1 : 1 ≤ D_) (hD2 : D_ ≤ 12) : CV l D vwCl cI cZ cJ SL yHO_init wsHO_init rmHO_init [.ref b, .int (iZ W), .int (iZ D_)] [(b, .inr (2, [.int (iZ 0), .int (iZ 0), .int (iZ 0), .null, .null, .null, .null, .null, .null]))] (fun w1 => ∃ (q26 q36 q46 q56 q66 q73 : Nat) (co ro : Int → Int), w1 = [(b, .inr (2, [.int (iZ W), .int (iZ D_), .int (iZ (W * D_)), .ref q26, .ref q36, .ref q46, .ref q56, .ref q66, .ref q73])), (q26, aI cI (W * D_) co), (q36, aI cI (W * D_) ro), (q46, aI cI (W * D_) (fun _ => 0)), (q56, aI cI (W * D_) (fun _ => 0)), (q66, aI cI (W * D_) (fun _ => 0)), (q73, aI cI D_ (fun _ => 0))] ∧ ∀ i j, 0 ≤ i → i < W → 0 ≤ j → j < D_ → co (j * W + i) = i ∧ ro (j * W + i) = j) := by
  refine tt_startV (by decide) rfl (Nat.le_of_ble_eq_true rfl) ?_
  intro p e s m args below meth c hnm F
  have hWD := wd_b hW1 hW2 hD1 hD2
  refine tt_aload_n F 0 rfl rfl dHO_init_0 ?_
  refine tt_obj F we83 we67 we68 (Nat.le_of_ble_eq_true rfl) (Nat.le_of_ble_eq_true rfl) dHO_init_1 ?_
  refine tt_aload_n F 0 rfl rfl dHO_init_4 ?_
  refine tt_iload_n F 1 rfl rfl dHO_init_5 ?_
  refine tt_putF F (fun h => h) inHO tyHO tyHO_ok nmHO 0 rfl rfl 0 (by decide) we84 rfl hnm rfl rfl rfl rfl (show (0 : Nat) + 1 ≤ _ from Nat.le_of_ble_eq_true rfl) dHO_init_6 ?_
  refine tt_nrm (k := 0) (n := 0) (ws' := [(b, .inr (2, [.int (iZ W), .int (iZ 0), .int (iZ 0), .null, .null, .null, .null, .null, .null]))]) (by omega) (by omega) rfl ?_
  refine tt_aload_n F 0 rfl rfl dHO_init_9 ?_
  refine tt_iload_n F 2 rfl rfl dHO_init_10 ?_
  refine tt_putF F (fun h => h) inHO tyHO tyHO_ok nmHO 0 rfl rfl 1 (by decide) we86 rfl hnm rfl rfl rfl rfl (show (1 : Nat) + 1 ≤ _ from Nat.le_of_ble_eq_true rfl) dHO_init_11 ?_
  refine tt_nrm (k := 0) (n := 0) (ws' := [(b, .inr (2, [.int (iZ W), .int (iZ D_), .int (iZ 0), .null, .null, .null, .null, .null, .null]))]) (by omega) (by omega) rfl ?_
  refine tt_aload_n F 0 rfl rfl dHO_init_14 ?_
  refine tt_iload_n F 1 rfl rfl dHO_init_15 ?_
  refine tt_iload_n F 2 rfl rfl dHO_init_16 ?_
  refine tt_imul F dHO_init_17 ?_
  refine tt_putF F (fun h => h) inHO tyHO tyHO_ok nmHO 0 rfl rfl 2 (by decide) we88 rfl hnm rfl rfl rfl rfl (show (2 : Nat) + 1 ≤ _ from Nat.le_of_ble_eq_true rfl) dHO_init_18 ?_
  refine tt_nrm (k := 0) (n := 0) (ws' := [(b, .inr (2, [.int (iZ W), .int (iZ D_), .int (iZ (W * D_)), .null, .null, .null, .null, .null, .null]))]) (by omega) (by omega) rfl ?_
  refine tt_aload_n F 0 rfl rfl dHO_init_21 ?_
  refine tt_aload_n F 0 rfl rfl dHO_init_22 ?_
  refine tt_get F inHO 0 rfl rfl 2 (by decide) we88 rfl dHO_init_23 ?_
  refine tt_newI F (fun h => h) we128 (by omega) (by omega) (Nat.le_of_ble_eq_true rfl) (by show 0 + Int.toNat (W * D_) ≤ 732; omega) dHO_init_26 (fun q26 => ?_)
  refine tt_nrm (k := 1) (n := 144) (ws' := [(b, .inr (2, [.int (iZ W), .int (iZ D_), .int (iZ (W * D_)), .null, .null, .null, .null, .null, .null])), (q26, aI cI (W * D_) (fun _ => 0))]) (by omega) (by omega) rfl ?_
  refine tt_putF F (fun h => h) inHO tyHO tyHO_ok nmHO 0 rfl rfl 3 (by decide) we92 rfl hnm rfl rfl rfl rfl (show (3 : Nat) + 1 ≤ _ from Nat.le_of_ble_eq_true rfl) dHO_init_28 ?_
  refine tt_nrm (k := 1) (n := 144) (ws' := [(b, .inr (2, [.int (iZ W), .int (iZ D_), .int (iZ (W * D_)), .ref q26, .null, .null, .null, .null, .null])), (q26, aI cI (W * D_) (fun _ => 0))]) (by omega) (by omega) rfl ?_
  refine tt_aload_n F 0 rfl rfl dHO_init_31 ?_
  refine tt_aload_n F 0 rfl rfl dHO_init_32 ?_
  refine tt_get F inHO 0 rfl rfl 2 (by decide) we88 rfl dHO_init_33 ?_
  refine tt_newI F (fun h => h) we128 (by omega) (by omega) (Nat.le_of_ble_eq_true rfl) (by show 144 + Int.toNat (W * D_) ≤ 732; omega) dHO_init_36 (fun q36 => ?_)
  refine tt_nrm (k := 2) (n := 288) (ws' := [(b, .inr (2, [.int (iZ W), .int (iZ D_), .int (iZ (W * D_)), .ref q26, .null, .null, .null, .null, .null])), (q26, aI cI (W * D_) (fun _ => 0)), (q36, aI cI (W * D_) (fun _ => 0))]) (by omega) (by omega) rfl ?_
  refine tt_putF F (fun h => h) inHO tyHO tyHO_ok nmHO 0 rfl rfl 4 (by decide) we96 rfl hnm rfl rfl rfl rfl (show (4 : Nat) + 1 ≤ _ from Nat.le_of_ble_eq_true rfl) dHO_init_38 ?_
  refine tt_nrm (k := 2) (n := 288) (ws' := [(b, .inr (2, [.int (iZ W), .int (iZ D_), .int (iZ (W * D_)), .ref q26, .ref q36, .null, .null, .null, .null])), (q26, aI cI (W * D_) (fun _ => 0)), (q36, aI cI (W * D_) (fun _ => 0))]) (by omega) (by omega) rfl ?_
  refine tt_aload_n F 0 rfl rfl dHO_init_41 ?_
  refine tt_aload_n F 0 rfl rfl dHO_init_42 ?_
  refine tt_get F inHO 0 rfl rfl 2 (by decide) we88 rfl dHO_init_43 ?_
  refine tt_newI F (fun h => h) we128 (by omega) (by omega) (Nat.le_of_ble_eq_true rfl) (by show 288 + Int.toNat (W * D_) ≤ 732; omega) dHO_init_46 (fun q46 => ?_)
  refine tt_nrm (k := 3) (n := 432) (ws' := [(b, .inr (2, [.int (iZ W), .int (iZ D_), .int (iZ (W * D_)), .ref q26, .ref q36, .null, .null, .null, .null])), (q26, aI cI (W * D_) (fun _ => 0)), (q36, aI cI (W * D_) (fun _ => 0)), (q46, aI cI (W * D_) (fun _ => 0))]) (by omega) (by omega) rfl ?_
  refine tt_putF F (fun h => h) inHO tyHO tyHO_ok nmHO 0 rfl rfl 5 (by decide) we100 rfl hnm rfl rfl rfl rfl (show (5 : Nat) + 1 ≤ _ from Nat.le_of_ble_eq_true rfl) dHO_init_48 ?_
  refine tt_nrm (k := 3) (n := 432) (ws' := [(b, .inr (2, [.int (iZ W), .int (iZ D_), .int (iZ (W * D_)), .ref q26, .ref q36, .ref q46, .null, .null, .null])), (q26, aI cI (W * D_) (fun _ => 0)), (q36, aI cI (W * D_) (fun _ => 0)), (q46, aI cI (W * D_) (fun _ => 0))]) (by omega) (by omega) rfl ?_
  refine tt_aload_n F 0 rfl rfl dHO_init_51 ?_
  refine tt_aload_n F 0 rfl rfl dHO_init_52 ?_
  refine tt_get F inHO 0 rfl rfl 2 (by decide) we88 rfl dHO_init_53 ?_
  refine tt_newI F (fun h => h) we128 (by omega) (by omega) (Nat.le_of_ble_eq_true rfl) (by show 432 + Int.toNat (W * D_) ≤ 732; omega) dHO_init_56 (fun q56 => ?_)
  refine tt_nrm (k := 4) (n := 576) (ws' := [(b, .inr (2, [.int (iZ W), .int (iZ D_), .int (iZ (W * D_)), .ref q26, .ref q36, .ref q46, .null, .null, .null])), (q26, aI cI (W * D_) (fun _ => 0)), (q36, aI cI (W * D_) (fun _ => 0)), (q46, aI cI (W * D_) (fun _ => 0)), (q56, aI cI (W * D_) (fun _ => 0))]) (by omega) (by omega) rfl ?_
  refine tt_putF F (fun h => h) inHO tyHO tyHO_ok nmHO 0 rfl rfl 6 (by decide) we102 rfl hnm rfl rfl rfl rfl (show (6 : Nat) + 1 ≤ _ from Nat.le_of_ble_eq_true rfl) dHO_init_58 ?_
  refine tt_nrm (k := 4) (n := 576) (ws' := [(b, .inr (2, [.int (iZ W), .int (iZ D_), .int (iZ (W * D_)), .ref q26, .ref q36, .ref q46, .ref q56, .null, .null])), (q26, aI cI (W * D_) (fun _ => 0)), (q36, aI cI (W * D_) (fun _ => 0)), (q46, aI cI (W * D_) (fun _ => 0)), (q56, aI cI (W * D_) (fun _ => 0))]) (by omega) (by omega) rfl ?_
  refine tt_aload_n F 0 rfl rfl dHO_init_61 ?_
  refine tt_aload_n F 0 rfl rfl dHO_init_62 ?_
  refine tt_get F inHO 0 rfl rfl 2 (by decide) we88 rfl dHO_init_63 ?_
  refine tt_newI F (fun h => h) we128 (by omega) (by omega) (Nat.le_of_ble_eq_true rfl) (by show 576 + Int.toNat (W * D_) ≤ 732; omega) dHO_init_66 (fun q66 => ?_)
  refine tt_nrm (k := 5) (n := 720) (ws' := [(b, .inr (2, [.int (iZ W), .int (iZ D_), .int (iZ (W * D_)), .ref q26, .ref q36, .ref q46, .ref q56, .null, .null])), (q26, aI cI (W * D_) (fun _ => 0)), (q36, aI cI (W * D_) (fun _ => 0)), (q46, aI cI (W * D_) (fun _ => 0)), (q56, aI cI (W * D_) (fun _ => 0)), (q66, aI cI (W * D_) (fun _ => 0))]) (by omega) (by omega) rfl ?_
  refine tt_putF F (fun h => h) inHO tyHO tyHO_ok nmHO 0 rfl rfl 7 (by decide) we104 rfl hnm rfl rfl rfl rfl (show (7 : Nat) + 1 ≤ _ from Nat.le_of_ble_eq_true rfl) dHO_init_68 ?_
  refine tt_nrm (k := 5) (n := 720) (ws' := [(b, .inr (2, [.int (iZ W), .int (iZ D_), .int (iZ (W * D_)), .ref q26, .ref q36, .ref q46, .ref q56, .ref q66, .null])), (q26, aI cI (W * D_) (fun _ => 0)), (q36, aI cI (W * D_) (fun _ => 0)), (q46, aI cI (W * D_) (fun _ => 0)), (q56, aI cI (W * D_) (fun _ => 0)), (q66, aI cI (W * D_) (fun _ => 0))]) (by omega) (by omega) rfl ?_
  refine tt_aload_n F 0 rfl rfl dHO_init_71 ?_
  refine tt_iload_n F 2 rfl rfl dHO_init_72 ?_
  refine tt_newI F (fun h => h) we128 (by omega) (by omega) (Nat.le_of_ble_eq_true rfl) (by show 720 + Int.toNat D_ ≤ 732; omega) dHO_init_73 (fun q73 => ?_)
  refine tt_nrm (k := 6) (n := 732) (ws' := [(b, .inr (2, [.int (iZ W), .int (iZ D_), .int (iZ (W * D_)), .ref q26, .ref q36, .ref q46, .ref q56, .ref q66, .null])), (q26, aI cI (W * D_) (fun _ => 0)), (q36, aI cI (W * D_) (fun _ => 0)), (q46, aI cI (W * D_) (fun _ => 0)), (q56, aI cI (W * D_) (fun _ => 0)), (q66, aI cI (W * D_) (fun _ => 0)), (q73, aI cI D_ (fun _ => 0))]) (by omega) (by omega) rfl ?_
  refine tt_putF F (fun h => h) inHO tyHO tyHO_ok nmHO 0 rfl rfl 8 (by decide) we107 rfl hnm rfl rfl rfl rfl (show (8 : Nat) + 1 ≤ _ from Nat.le_of_ble_eq_true rfl) dHO_init_75 ?_
  refine tt_nrm (k := 6) (n := 732) (ws' := [(b, .inr (2, [.int (iZ W), .int (iZ D_), .int (iZ (W * D_)), .ref q26, .ref q36, .ref q46, .ref q56, .ref q66, .ref q73])), (q26, aI cI (W * D_) (fun _ => 0)), (q36, aI cI (W * D_) (fun _ => 0)), (q46, aI cI (W * D_) (fun _ => 0)), (q56, aI cI (W * D_) (fun _ => 0)), (q66, aI cI (W * D_) (fun _ => 0)), (q73, aI cI D_ (fun _ => 0))]) (by omega) (by omega) rfl ?_
  refine tt_iconst F dHO_init_78 ?_
  refine tt_istore_n F [(3, .int (iZ 0)), (0, .ref b), (1, .int (iZ W)), (2, .int (iZ D_))] rfl (by decide) rfl dHO_init_79 ?_
  refine tt_sub [1, 2, 3, 0] rfl ?_
  refine lp_house F hW1 hW2 hD1 hD2 (fun y co ro I2 => ?_) (D_.toNat + 1) 0 (fun _ => 0) (fun _ => 0) (by omega) (by omega) (fun i j i0 i1 j0 j1 => by have := (ix_b (i := i) (j := j) (W := W) (D := j + 1) i0 i1 j0 (by omega)).1; omega)
  exact tt_vret F rfl (Nat.le_of_ble_eq_true rfl) (Nat.le_of_ble_eq_true rfl) dHO_init_131 ⟨q26, q36, q46, q56, q66, q73, co, ro, rfl, fun i j i0 i1 j0 j1 => I2 i j i0 i1 j0 (ix_b i0 i1 j0 j1).2⟩
abbrev rmSH_firstSteps : Room := { frames := 0, cells := 1, slots := 102, locals := 0 }
set_option maxHeartbeats 4000000 in
set_option maxRecDepth 100000 in
theorem lp_fs1 {q5 : Nat} {r y : Int} (F : FX p s m args meth c cSH_firstSteps 4 (some (.array .int)) wsSH_firstSteps RSH D vwCl cI cZ cJ SL A) (hr1 : 1 ≤ r) (hr2 : r ≤ 10) (hy : -r ≤ y ∧ y ≤ r)
    (k58 : ∀ (x : Int) (f : Int → Int), (FS1 r ((((y + 1) + r) * (2 * r + 1) + ((-r) + r))) f) → TT p l e rmSH_firstSteps s m args below meth c D vwCl A 4 False Q 58 [(0, .int (iZ r)), (1, .ref q5), (2, .int (iZ y))] [] [(q5, aI cI (r * r + 2) f)] 1 102) :
    ∀ (n : Nat) (x : Int) (f : Int → Int), (r + 1 - x).toNat < n → (-r ≤ x ∧ x ≤ r + 1) → (FS1 r ((y + r) * (2 * r + 1) + (x + r)) f) → TT p l e rmSH_firstSteps s m args below meth c D vwCl A 4 False Q 19 [(0, .int (iZ r)), (1, .ref q5), (2, .int (iZ y)), (3, .int (iZ x))] [] [(q5, aI cI (r * r + 2) f)] 1 102 := by
  intro n
  induction n with
  | zero => intro x f hn; omega
  | succ n ih =>
    intro x f hn hx I
    have hrr := rr_b hr1 hr2
    have hN := shN_0 hr1 hr2
    refine tt_iload_n F 3 rfl rfl dSH_firstSteps_19 ?_
    refine tt_iload_n F 0 rfl rfl dSH_firstSteps_20 ?_
    refine tt_icmp_gt F 58 ⟨by omega, by omega⟩ ⟨by omega, by omega⟩ dSH_firstSteps_21 (by decide) (fun c21 => ?_) (fun c21 => ?_)
    · skip
      refine tt_sub [0, 1, 2] rfl ?_
      exact k58 x f (by have e1 : ((y + r) * (2 * r + 1) + (x + r)) = (((y + 1) + r) * (2 * r + 1) + ((-r) + r)) := (by rw [show y + 1 + r = (y + r) + 1 by omega, rw_s]; omega); rw [← e1]; exact I)
    · skip
      have hxx : 0 ≤ x * x ∧ x * x ≤ 100 := ⟨sq_0 x, by have := sqb (a := x) (r := r) (by omega) (by omega); omega⟩
      have hyy : 0 ≤ y * y ∧ y * y ≤ 100 := ⟨sq_0 y, by have := sqb (a := y) (r := r) (by omega) (by omega); omega⟩
      have hix := ix_b (i := x + r) (j := y + r) (W := 2 * r + 1) (D := 2 * r + 1) (by omega) (by omega) (by omega) (by omega)
      have hsd := shd_ij (r := r) (x := x) (y := y) (by omega) (by omega)
      refine tt_iload_n F 3 rfl rfl dSH_firstSteps_24 ?_
      refine tt_iload_n F 3 rfl rfl dSH_firstSteps_25 ?_
      refine tt_imul F dSH_firstSteps_26 ?_
      refine tt_iload_n F 2 rfl rfl dSH_firstSteps_27 ?_
      refine tt_iload_n F 2 rfl rfl dSH_firstSteps_28 ?_
      refine tt_imul F dSH_firstSteps_29 ?_
      refine tt_iadd F dSH_firstSteps_30 ?_
      refine tt_iload_n F 0 rfl rfl dSH_firstSteps_31 ?_
      refine tt_iload_n F 0 rfl rfl dSH_firstSteps_32 ?_
      refine tt_imul F dSH_firstSteps_33 ?_
      refine tt_icmp_gt F 52 ⟨by omega, by omega⟩ ⟨by omega, by omega⟩ dSH_firstSteps_34 (by decide) (fun c34 => ?_) (fun c34 => ?_)
      · skip
        refine tt_iinc F 3 [(3, .int (iZ (x + 1))), (0, .int (iZ r)), (1, .ref q5), (2, .int (iZ y))] rfl (by decide) rfl dSH_firstSteps_52 ?_
        refine tt_goto F 19 (by decide) dSH_firstSteps_55 ?_
        refine tt_sub [1, 2, 3, 0] rfl ?_
        exact ih (x + 1) f (by omega) (⟨by omega, by omega⟩) (by have I2 := fs1_out hix.1 (by omega) I; rw [show ((y + r) * (2 * r + 1) + (x + r)) + 1 = ((y + r) * (2 * r + 1) + ((x + 1) + r)) by omega] at I2; exact I2)
      · skip
        refine tt_aload_n F 1 rfl rfl dSH_firstSteps_37 ?_
        refine tt_iload_n F 3 rfl rfl dSH_firstSteps_38 ?_
        refine tt_iload_n F 3 rfl rfl dSH_firstSteps_39 ?_
        refine tt_imul F dSH_firstSteps_40 ?_
        refine tt_iload_n F 2 rfl rfl dSH_firstSteps_41 ?_
        refine tt_iload_n F 2 rfl rfl dSH_firstSteps_42 ?_
        refine tt_imul F dSH_firstSteps_43 ?_
        refine tt_iadd F dSH_firstSteps_44 ?_
        refine tt_iconst F dSH_firstSteps_45 ?_
        refine tt_iadd F dSH_firstSteps_46 ?_
        refine tt_dup2 F rfl rfl dSH_firstSteps_47 ?_
        refine tt_iald F 0 rfl (by omega) (by omega) (by omega) dSH_firstSteps_48 ?_
        refine tt_name (fun x48 hx48 => ?_)
        refine tt_iconst F dSH_firstSteps_49 ?_
        refine tt_iadd F dSH_firstSteps_50 ?_
        refine tt_iast F (fun h => h) 0 rfl (by omega) (by omega) (by omega) dSH_firstSteps_51 ?_
        refine tt_nrm (k := 1) (n := 102) (ws' := [(q5, aI cI (r * r + 2) (zu f (((x * x) + (y * y)) + 1) (x48 + 1)))]) (by omega) (by omega) rfl ?_
        refine tt_iinc F 3 [(3, .int (iZ (x + 1))), (0, .int (iZ r)), (1, .ref q5), (2, .int (iZ y))] rfl (by decide) rfl dSH_firstSteps_52 ?_
        refine tt_goto F 19 (by decide) dSH_firstSteps_55 ?_
        refine tt_sub [1, 2, 3, 0] rfl ?_
        exact ih (x + 1) (zu f (((x * x) + (y * y)) + 1) (x48 + 1)) (by omega) (⟨by omega, by omega⟩) (by have I2 := fs1_in hix.1 hsd I; rw [show ((y + r) * (2 * r + 1) + (x + r)) + 1 = ((y + r) * (2 * r + 1) + ((x + 1) + r)) by omega] at I2; rw [hx48]; exact I2)
set_option maxHeartbeats 4000000 in
set_option maxRecDepth 100000 in
theorem lp_fs {q5 : Nat} {r : Int} (F : FX p s m args meth c cSH_firstSteps 4 (some (.array .int)) wsSH_firstSteps RSH D vwCl cI cZ cJ SL A) (hr1 : 1 ≤ r) (hr2 : r ≤ 10)
    (k64 : ∀ (y : Int) (f : Int → Int), (FS1 r ((2 * r + 1) * (2 * r + 1)) f) → TT p l e rmSH_firstSteps s m args below meth c D vwCl A 4 False Q 64 [(0, .int (iZ r)), (1, .ref q5)] [] [(q5, aI cI (r * r + 2) f)] 1 102) :
    ∀ (n : Nat) (y : Int) (f : Int → Int), (r + 1 - y).toNat < n → (-r ≤ y ∧ y ≤ r + 1) → (FS1 r ((y + r) * (2 * r + 1) + ((-r) + r)) f) → TT p l e rmSH_firstSteps s m args below meth c D vwCl A 4 False Q 11 [(0, .int (iZ r)), (1, .ref q5), (2, .int (iZ y))] [] [(q5, aI cI (r * r + 2) f)] 1 102 := by
  intro n
  induction n with
  | zero => intro y f hn; omega
  | succ n ih =>
    intro y f hn hy I
    have hrr := rr_b hr1 hr2
    have hN := shN_0 hr1 hr2
    refine tt_iload_n F 2 rfl rfl dSH_firstSteps_11 ?_
    refine tt_iload_n F 0 rfl rfl dSH_firstSteps_12 ?_
    refine tt_icmp_gt F 64 ⟨by omega, by omega⟩ ⟨by omega, by omega⟩ dSH_firstSteps_13 (by decide) (fun c13 => ?_) (fun c13 => ?_)
    · skip
      refine tt_sub [0, 1] rfl ?_
      exact k64 y f (by have e1 : ((y + r) * (2 * r + 1) + ((-r) + r)) = (2 * r + 1) * (2 * r + 1) := (by rw [show y + r = 2 * r + 1 by omega]; omega); rw [← e1]; exact I)
    · skip
      refine tt_iload_n F 0 rfl rfl dSH_firstSteps_16 ?_
      refine tt_ineg F dSH_firstSteps_17 ?_
      refine tt_istore_n F [(3, .int (iZ (-r))), (0, .int (iZ r)), (1, .ref q5), (2, .int (iZ y))] rfl (by decide) rfl dSH_firstSteps_18 ?_
      refine tt_sub [1, 2, 3, 0] rfl ?_
      refine lp_fs1 F hr1 hr2 (by omega) (fun x f I2 => ?_) ((r + 1 - -r).toNat + 1) (-r) f (by omega) (by omega) I
      refine tt_iinc F 2 [(2, .int (iZ (y + 1))), (0, .int (iZ r)), (1, .ref q5)] rfl (by decide) rfl dSH_firstSteps_58 ?_
      refine tt_goto F 11 (by decide) dSH_firstSteps_61 ?_
      refine tt_sub [1, 2, 0] rfl ?_
      exact ih (y + 1) f (by omega) (⟨by omega, by omega⟩) (I2)
set_option maxHeartbeats 4000000 in
set_option maxRecDepth 100000 in
theorem lp_fs2 {q5 : Nat} {r : Int} (F : FX p s m args meth c cSH_firstSteps 4 (some (.array .int)) wsSH_firstSteps RSH D vwCl cI cZ cJ SL A) (hr1 : 1 ≤ r) (hr2 : r ≤ 10)
    (k90 : ∀ (k : Int) (f : Int → Int), (FS2 r (r * r + 1) f) → TT p l e rmSH_firstSteps s m args below meth c D vwCl A 4 False Q 90 [(0, .int (iZ r)), (1, .ref q5)] [] [(q5, aI cI (r * r + 2) f)] 1 102) :
    ∀ (n : Nat) (k : Int) (f : Int → Int), (r * r + 1 - k).toNat < n → (0 ≤ k ∧ k ≤ r * r + 1) → (FS2 r k f) → TT p l e rmSH_firstSteps s m args below meth c D vwCl A 4 False Q 66 [(0, .int (iZ r)), (1, .ref q5), (2, .int (iZ k))] [] [(q5, aI cI (r * r + 2) f)] 1 102 := by
  intro n
  induction n with
  | zero => intro k f hn; omega
  | succ n ih =>
    intro k f hn hk I
    have hrr := rr_b hr1 hr2
    have hN := shN_0 hr1 hr2
    refine tt_iload_n F 2 rfl rfl dSH_firstSteps_66 ?_
    refine tt_iload_n F 0 rfl rfl dSH_firstSteps_67 ?_
    refine tt_iload_n F 0 rfl rfl dSH_firstSteps_68 ?_
    refine tt_imul F dSH_firstSteps_69 ?_
    refine tt_icmp_gt F 90 ⟨by omega, by omega⟩ ⟨by omega, by omega⟩ dSH_firstSteps_70 (by decide) (fun c70 => ?_) (fun c70 => ?_)
    · skip
      refine tt_sub [0, 1] rfl ?_
      exact k90 k f (by rw [show r * r + 1 = k by omega]; exact I)
    · skip
      refine tt_aload_n F 1 rfl rfl dSH_firstSteps_73 ?_
      refine tt_iload_n F 2 rfl rfl dSH_firstSteps_74 ?_
      refine tt_iconst F dSH_firstSteps_75 ?_
      refine tt_iadd F dSH_firstSteps_76 ?_
      refine tt_dup2 F rfl rfl dSH_firstSteps_77 ?_
      refine tt_iald F 0 rfl (by omega) (by omega) (by omega) dSH_firstSteps_78 ?_
      refine tt_name (fun x78 hx78 => ?_)
      refine tt_aload_n F 1 rfl rfl dSH_firstSteps_79 ?_
      refine tt_iload_n F 2 rfl rfl dSH_firstSteps_80 ?_
      refine tt_iald F 0 rfl (by omega) (by omega) (by omega) dSH_firstSteps_81 ?_
      refine tt_name (fun x81 hx81 => ?_)
      refine tt_iadd F dSH_firstSteps_82 ?_
      refine tt_iast F (fun h => h) 0 rfl (by omega) (by omega) (by omega) dSH_firstSteps_83 ?_
      refine tt_nrm (k := 1) (n := 102) (ws' := [(q5, aI cI (r * r + 2) (zu f (k + 1) (x78 + x81)))]) (by omega) (by omega) rfl ?_
      refine tt_iinc F 2 [(2, .int (iZ (k + 1))), (0, .int (iZ r)), (1, .ref q5)] rfl (by decide) rfl dSH_firstSteps_84 ?_
      refine tt_goto F 66 (by decide) dSH_firstSteps_87 ?_
      refine tt_sub [1, 2, 0] rfl ?_
      exact ih (k + 1) (zu f (k + 1) (x78 + x81)) (by omega) (⟨by omega, by omega⟩) (by rw [hx78, hx81]; exact fs2_s hr1 hr2 (by omega) (by omega) I)
set_option maxHeartbeats 4000000 in
set_option maxRecDepth 100000 in
theorem c_firstSteps {r : Int} (hr1 : 1 ≤ r) (hr2 : r ≤ 10) : CR l D vwCl cI cZ cJ SL ySH_firstSteps wsSH_firstSteps rmSH_firstSteps [.int (iZ r)] [] (fun q5 w1 => ∃ f, w1 = [(q5, aI cI (r * r + 2) f)] ∧ ∀ d, 0 ≤ d → d ≤ r * r + 1 → f d = shF r d) := by
  refine tt_startR (by decide) rfl (Nat.le_of_ble_eq_true rfl) ?_
  intro p e s m args below meth c hnm F
  have hrr := rr_b hr1 hr2
  have hN := shN_0 hr1 hr2
  refine tt_iload_n F 0 rfl rfl dSH_firstSteps_0 ?_
  refine tt_iload_n F 0 rfl rfl dSH_firstSteps_1 ?_
  refine tt_imul F dSH_firstSteps_2 ?_
  refine tt_iconst F dSH_firstSteps_3 ?_
  refine tt_iadd F dSH_firstSteps_4 ?_
  refine tt_newI F (fun h => h) we128 (by omega) (by omega) (Nat.le_of_ble_eq_true rfl) (by show 0 + Int.toNat ((r * r) + 2) ≤ 102; omega) dSH_firstSteps_5 (fun q5 => ?_)
  refine tt_nrm (k := 1) (n := 102) (ws' := [(q5, aI cI ((r * r) + 2) (fun _ => 0))]) (by omega) (by omega) rfl ?_
  refine tt_astore_n F [(1, .ref q5), (0, .int (iZ r))] rfl (by decide) rfl dSH_firstSteps_7 ?_
  refine tt_iload_n F 1 rfl rfl dSH_firstSteps_8 ?_
  refine tt_ineg F dSH_firstSteps_9 ?_
  refine tt_istore_n F [(2, .int (iZ (-r))), (1, .ref q5), (0, .int (iZ r))] rfl (by decide) rfl dSH_firstSteps_10 ?_
  refine tt_sub [2, 1, 0] rfl ?_
  refine lp_fs F hr1 hr2 (fun y f I => ?_) ((r + 1 - -r).toNat + 1) (-r) (fun _ => 0) (by omega) (by omega) (by rw [show (((-r) + r) * (2 * r + 1) + ((-r) + r)) = 0 by rw [show -r + r = 0 by omega]; omega]; exact fs1_0 r)
  refine tt_iconst F dSH_firstSteps_64 ?_
  refine tt_istore_n F [(2, .int (iZ 0)), (0, .int (iZ r)), (1, .ref q5)] rfl (by decide) rfl dSH_firstSteps_65 ?_
  refine tt_sub [1, 2, 0] rfl ?_
  refine lp_fs2 F hr1 hr2 (fun k f I2 => ?_) ((r * r + 1).toNat + 1) 0 f (by omega) (by omega) (fs2_0 I)
  refine tt_aload_n F 1 rfl rfl dSH_firstSteps_90 ?_
  exact tt_aret F rfl (Or.inr ⟨_, rfl⟩) (Nat.le_of_ble_eq_true rfl) (Nat.le_of_ble_eq_true rfl) dSH_firstSteps_91 ⟨f, rfl, I2.1⟩
abbrev rmSH_init : Room := { frames := 1, cells := 6, slots := 2307, locals := 60 }
set_option maxHeartbeats 4000000 in
set_option maxRecDepth 100000 in
theorem lp_sh1 {b a5 q25 q35 q45 q55 q79 aR : Nat} {r pA : Int} {y : Int} (F : FX p s m args meth c cSH_init 9 none wsSH_init RSH D vwCl cI cZ cJ SL A) (hr1 : 1 ≤ r) (hr2 : r ≤ 10) (hrt : SL[0]? = some ("RollingBalls$Level", "ROOTS", "[I", aR, 101, fun j : Nat => Value.int (iZ (rt (j : Int))))) (hpA : 1 ≤ pA ∧ pA ≤ 32) (hy : -r ≤ y ∧ y ≤ r)
    (k231 : ∀ (x : Int) (nx : Int → Int) (ac : Int → Int) (al : Int → Int) (sd : Int → Int) (lf : Int → Int) (sq : Int → Int), (SHI r pA (((y + 1) + r) * (2 * r + 1) + ((-r) + r)) nx ac al sd lf sq) → TT p l e rmSH_init s m args below meth c D vwCl A 9 False Q 231 [(0, .ref b), (1, .int (iZ r)), (2, .int (iZ pA)), (3, .ref a5), (4, .int (iZ y))] [] [(b, .inr (3, [.int (iZ (shF r (r * r + 1))), .ref q25, .ref q35, .ref q45, .ref q55, .ref q79, .int (iZ (2 * r + 1))])), (a5, aI cI (r * r + 2) nx), (q25, aI cI (shF r (r * r + 1)) ac), (q35, aI cI (shF r (r * r + 1)) al), (q45, aI cI (shF r (r * r + 1)) sd), (q55, aI cI (shF r (r * r + 1)) lf), (q79, aI cI ((2 * r + 1) * (2 * r + 1)) sq)] 6 2307) :
    ∀ (n : Nat) (x : Int) (nx : Int → Int) (ac : Int → Int) (al : Int → Int) (sd : Int → Int) (lf : Int → Int) (sq : Int → Int), (r + 1 - x).toNat < n → (-r ≤ x ∧ x ≤ r + 1) → (SHI r pA ((y + r) * (2 * r + 1) + (x + r)) nx ac al sd lf sq) → TT p l e rmSH_init s m args below meth c D vwCl A 9 False Q 98 [(0, .ref b), (1, .int (iZ r)), (2, .int (iZ pA)), (3, .ref a5), (4, .int (iZ y)), (5, .int (iZ x))] [] [(b, .inr (3, [.int (iZ (shF r (r * r + 1))), .ref q25, .ref q35, .ref q45, .ref q55, .ref q79, .int (iZ (2 * r + 1))])), (a5, aI cI (r * r + 2) nx), (q25, aI cI (shF r (r * r + 1)) ac), (q35, aI cI (shF r (r * r + 1)) al), (q45, aI cI (shF r (r * r + 1)) sd), (q55, aI cI (shF r (r * r + 1)) lf), (q79, aI cI ((2 * r + 1) * (2 * r + 1)) sq)] 6 2307 := by
  intro n
  induction n with
  | zero => intro x nx ac al sd lf sq hn; omega
  | succ n ih =>
    intro x nx ac al sd lf sq hn hx I
    have hrr := rr_b hr1 hr2
    have hN := shN_0 hr1 hr2
    have hF := shF_b hr1 hr2 (r * r + 1)
    refine tt_iload F 5 rfl dSH_init_98 ?_
    refine tt_iload_n F 1 rfl rfl dSH_init_100 ?_
    refine tt_icmp_gt F 231 ⟨by omega, by omega⟩ ⟨by omega, by omega⟩ dSH_init_101 (by decide) (fun c101 => ?_) (fun c101 => ?_)
    · skip
      refine tt_sub [0, 1, 2, 3, 4] rfl ?_
      exact k231 x nx ac al sd lf sq (by have e1 : ((y + r) * (2 * r + 1) + (x + r)) = (((y + 1) + r) * (2 * r + 1) + ((-r) + r)) := (by rw [show y + 1 + r = (y + r) + 1 by omega, rw_s]; omega); rw [← e1]; exact I)
    · skip
      have hxx : 0 ≤ x * x ∧ x * x ≤ 100 := ⟨sq_0 x, by have := sqb (a := x) (r := r) (by omega) (by omega); omega⟩
      have hyy : 0 ≤ y * y ∧ y * y ≤ 100 := ⟨sq_0 y, by have := sqb (a := y) (r := r) (by omega) (by omega); omega⟩
      have hix := ix_b (i := x + r) (j := y + r) (W := 2 * r + 1) (D := 2 * r + 1) (by omega) (by omega) (by omega) (by omega)
      have hsd := shd_ij (r := r) (x := x) (y := y) (by omega) (by omega)
      refine tt_iload F 5 rfl dSH_init_104 ?_
      refine tt_iload F 5 rfl dSH_init_106 ?_
      refine tt_imul F dSH_init_108 ?_
      refine tt_iload F 4 rfl dSH_init_109 ?_
      refine tt_iload F 4 rfl dSH_init_111 ?_
      refine tt_imul F dSH_init_113 ?_
      refine tt_iadd F dSH_init_114 ?_
      refine tt_name (fun dd hdd => ?_)
      have hdd : dd = x * x + y * y := hdd
      have hdb : 0 ≤ dd ∧ dd ≤ 200 := by omega
      refine tt_istore F [(6, .int (iZ dd)), (0, .ref b), (1, .int (iZ r)), (2, .int (iZ pA)), (3, .ref a5), (4, .int (iZ y)), (5, .int (iZ x))] (by decide) rfl dSH_init_115 ?_
      refine tt_iload F 0 rfl dSH_init_117 ?_
      refine tt_iload_n F 2 rfl rfl dSH_init_119 ?_
      refine tt_iload_n F 2 rfl rfl dSH_init_120 ?_
      refine tt_imul F dSH_init_121 ?_
      refine tt_icmp_gt F 138 ⟨by omega, by omega⟩ ⟨by omega, by omega⟩ dSH_init_122 (by decide) (fun c122 => ?_) (fun c122 => ?_)
      · skip
        refine tt_ldc F (n := -1073741824) (by rw [show iZ (-1073741824) = (-1073741824 : Int32) from by decide]; exact we147) dSH_init_138 ?_
        refine tt_istore F [(7, .int (iZ (-1073741824))), (6, .int (iZ dd)), (0, .ref b), (1, .int (iZ r)), (2, .int (iZ pA)), (3, .ref a5), (4, .int (iZ y)), (5, .int (iZ x))] (by decide) rfl dSH_init_140 ?_
        refine tt_aload_n F 2 rfl rfl dSH_init_142 ?_
        refine tt_get F inSH 0 rfl rfl 5 (by decide) we163 rfl dSH_init_143 ?_
        refine tt_iload F 6 rfl dSH_init_146 ?_
        refine tt_iload_n F 3 rfl rfl dSH_init_148 ?_
        refine tt_iadd F dSH_init_149 ?_
        refine tt_aload_n F 2 rfl rfl dSH_init_150 ?_
        refine tt_get F inSH 0 rfl rfl 6 (by decide) we165 rfl dSH_init_151 ?_
        refine tt_imul F dSH_init_154 ?_
        refine tt_iload F 7 rfl dSH_init_155 ?_
        refine tt_iadd F dSH_init_157 ?_
        refine tt_iload_n F 3 rfl rfl dSH_init_158 ?_
        refine tt_iadd F dSH_init_159 ?_
        refine tt_iload F 0 rfl dSH_init_160 ?_
        have hsx : (y + r) * (2 * r + 1) + x + r = ((y + r) * (2 * r + 1) + (x + r)) := by omega
        refine tt_iast F (fun h => h) 6 rfl (by omega) (by omega) (by omega) dSH_init_162 ?_
        refine tt_nrm (k := 6) (n := 2307) (ws' := [(b, .inr (3, [.int (iZ (shF r (r * r + 1))), .ref q25, .ref q35, .ref q45, .ref q55, .ref q79, .int (iZ (2 * r + 1))])), (a5, aI cI (r * r + 2) nx), (q25, aI cI (shF r (r * r + 1)) ac), (q35, aI cI (shF r (r * r + 1)) al), (q45, aI cI (shF r (r * r + 1)) sd), (q55, aI cI (shF r (r * r + 1)) lf), (q79, aI cI ((2 * r + 1) * (2 * r + 1)) (zu sq ((((y + r) * (2 * r + 1)) + x) + r) (-1073741824)))]) (by omega) (by omega) rfl ?_
        refine tt_iload F 0 rfl dSH_init_163 ?_
        refine tt_ldc F (n := -1073741824) (by rw [show iZ (-1073741824) = (-1073741824 : Int32) from by decide]; exact we147) dSH_init_165 ?_
        refine tt_icmp_eq F 225 ⟨by omega, by omega⟩ ⟨by omega, by omega⟩ dSH_init_167 (by decide) (fun c167 => ?_) (fun c167 => ?_)
        · skip
          refine tt_iinc F 7 [(5, .int (iZ (x + 1))), (7, .int (iZ (-1073741824))), (6, .int (iZ dd)), (0, .ref b), (1, .int (iZ r)), (2, .int (iZ pA)), (3, .ref a5), (4, .int (iZ y))] rfl (by decide) rfl dSH_init_225 ?_
          refine tt_goto F 98 (by decide) dSH_init_228 ?_
          refine tt_sub [3, 4, 5, 6, 7, 0] rfl ?_
          exact ih (x + 1) nx ac al sd lf (zu sq ((((y + r) * (2 * r + 1)) + x) + r) (-1073741824)) (by omega) (⟨by omega, by omega⟩) (by have I2 := shi_out (by omega) (by omega) rfl (by omega) I; rw [show ((y + r) * (2 * r + 1) + (x + r)) + 1 = ((y + r) * (2 * r + 1) + ((x + 1) + r)) by omega] at I2; rw [hsx]; exact I2)
        · skip
          refine tt_aload_n F 5 rfl rfl dSH_init_170 ?_
          refine tt_iload F 1 rfl dSH_init_171 ?_
          refine tt_iald F 1 rfl (by omega) (by omega) (by omega) dSH_init_173 ?_
          refine tt_istore F [(8, .int (iZ (nx dd))), (7, .int (iZ (-1073741824))), (6, .int (iZ dd)), (0, .ref b), (1, .int (iZ r)), (2, .int (iZ pA)), (3, .ref a5), (4, .int (iZ y)), (5, .int (iZ x))] (by decide) rfl dSH_init_174 ?_
          refine tt_aload_n F 6 rfl rfl dSH_init_176 ?_
          refine tt_iload F 2 rfl dSH_init_177 ?_
          refine tt_dup2 F rfl rfl dSH_init_179 ?_
          refine tt_iald F 1 rfl (by omega) (by omega) (by omega) dSH_init_180 ?_
          refine tt_iconst F dSH_init_181 ?_
          refine tt_iadd F dSH_init_182 ?_
          refine tt_iast F (fun h => h) 1 rfl (by omega) (by omega) (by omega) dSH_init_183 ?_
          refine tt_nrm (k := 6) (n := 2307) (ws' := [(b, .inr (3, [.int (iZ (shF r (r * r + 1))), .ref q25, .ref q35, .ref q45, .ref q55, .ref q79, .int (iZ (2 * r + 1))])), (a5, aI cI (r * r + 2) (zu nx dd ((nx dd) + 1))), (q25, aI cI (shF r (r * r + 1)) ac), (q35, aI cI (shF r (r * r + 1)) al), (q45, aI cI (shF r (r * r + 1)) sd), (q55, aI cI (shF r (r * r + 1)) lf), (q79, aI cI ((2 * r + 1) * (2 * r + 1)) (zu sq ((((y + r) * (2 * r + 1)) + x) + r) (-1073741824)))]) (by omega) (by omega) rfl ?_
          refine tt_aload_n F 3 rfl rfl dSH_init_184 ?_
          refine tt_get F inSH 0 rfl rfl 1 (by decide) we151 rfl dSH_init_185 ?_
          refine tt_iload F 0 rfl dSH_init_188 ?_
          refine tt_iload F 8 rfl dSH_init_190 ?_
          refine tt_iast F (fun h => h) 2 rfl (by omega) (by omega) (by omega) dSH_init_192 ?_
          refine tt_nrm (k := 6) (n := 2307) (ws' := [(b, .inr (3, [.int (iZ (shF r (r * r + 1))), .ref q25, .ref q35, .ref q45, .ref q55, .ref q79, .int (iZ (2 * r + 1))])), (a5, aI cI (r * r + 2) (zu nx dd ((nx dd) + 1))), (q25, aI cI (shF r (r * r + 1)) (zu ac (nx dd) x)), (q35, aI cI (shF r (r * r + 1)) al), (q45, aI cI (shF r (r * r + 1)) sd), (q55, aI cI (shF r (r * r + 1)) lf), (q79, aI cI ((2 * r + 1) * (2 * r + 1)) (zu sq ((((y + r) * (2 * r + 1)) + x) + r) (-1073741824)))]) (by omega) (by omega) rfl ?_
          refine tt_aload_n F 3 rfl rfl dSH_init_193 ?_
          refine tt_get F inSH 0 rfl rfl 2 (by decide) we154 rfl dSH_init_194 ?_
          refine tt_iload F 0 rfl dSH_init_197 ?_
          refine tt_iload F 7 rfl dSH_init_199 ?_
          refine tt_iast F (fun h => h) 3 rfl (by omega) (by omega) (by omega) dSH_init_201 ?_
          refine tt_nrm (k := 6) (n := 2307) (ws' := [(b, .inr (3, [.int (iZ (shF r (r * r + 1))), .ref q25, .ref q35, .ref q45, .ref q55, .ref q79, .int (iZ (2 * r + 1))])), (a5, aI cI (r * r + 2) (zu nx dd ((nx dd) + 1))), (q25, aI cI (shF r (r * r + 1)) (zu ac (nx dd) x)), (q35, aI cI (shF r (r * r + 1)) (zu al (nx dd) y)), (q45, aI cI (shF r (r * r + 1)) sd), (q55, aI cI (shF r (r * r + 1)) lf), (q79, aI cI ((2 * r + 1) * (2 * r + 1)) (zu sq ((((y + r) * (2 * r + 1)) + x) + r) (-1073741824)))]) (by omega) (by omega) rfl ?_
          refine tt_aload_n F 3 rfl rfl dSH_init_202 ?_
          refine tt_get F inSH 0 rfl rfl 3 (by decide) we157 rfl dSH_init_203 ?_
          refine tt_iload F 0 rfl dSH_init_206 ?_
          refine tt_iload F 7 rfl dSH_init_208 ?_
          refine tt_iload_n F 5 rfl rfl dSH_init_210 ?_
          refine tt_imul F dSH_init_211 ?_
          refine tt_iload F 8 rfl dSH_init_212 ?_
          refine tt_iadd F dSH_init_214 ?_
          refine tt_iast F (fun h => h) 4 rfl (by omega) (by omega) (by omega) dSH_init_215 ?_
          refine tt_nrm (k := 6) (n := 2307) (ws' := [(b, .inr (3, [.int (iZ (shF r (r * r + 1))), .ref q25, .ref q35, .ref q45, .ref q55, .ref q79, .int (iZ (2 * r + 1))])), (a5, aI cI (r * r + 2) (zu nx dd ((nx dd) + 1))), (q25, aI cI (shF r (r * r + 1)) (zu ac (nx dd) x)), (q35, aI cI (shF r (r * r + 1)) (zu al (nx dd) y)), (q45, aI cI (shF r (r * r + 1)) (zu sd (nx dd) ((y * pA) + x))), (q55, aI cI (shF r (r * r + 1)) lf), (q79, aI cI ((2 * r + 1) * (2 * r + 1)) (zu sq ((((y + r) * (2 * r + 1)) + x) + r) (-1073741824)))]) (by omega) (by omega) rfl ?_
          refine tt_aload_n F 3 rfl rfl dSH_init_216 ?_
          refine tt_get F inSH 0 rfl rfl 4 (by decide) we160 rfl dSH_init_217 ?_
          refine tt_iload F 0 rfl dSH_init_220 ?_
          refine tt_iload F 1 rfl dSH_init_222 ?_
          refine tt_iast F (fun h => h) 5 rfl (by omega) (by omega) (by omega) dSH_init_224 ?_
          refine tt_nrm (k := 6) (n := 2307) (ws' := [(b, .inr (3, [.int (iZ (shF r (r * r + 1))), .ref q25, .ref q35, .ref q45, .ref q55, .ref q79, .int (iZ (2 * r + 1))])), (a5, aI cI (r * r + 2) (zu nx dd ((nx dd) + 1))), (q25, aI cI (shF r (r * r + 1)) (zu ac (nx dd) x)), (q35, aI cI (shF r (r * r + 1)) (zu al (nx dd) y)), (q45, aI cI (shF r (r * r + 1)) (zu sd (nx dd) ((y * pA) + x))), (q55, aI cI (shF r (r * r + 1)) (zu lf (nx dd) (-1073741824))), (q79, aI cI ((2 * r + 1) * (2 * r + 1)) (zu sq ((((y + r) * (2 * r + 1)) + x) + r) (-1073741824)))]) (by omega) (by omega) rfl ?_
          refine tt_iinc F 8 [(5, .int (iZ (x + 1))), (8, .int (iZ (nx dd))), (7, .int (iZ (-1073741824))), (6, .int (iZ dd)), (0, .ref b), (1, .int (iZ r)), (2, .int (iZ pA)), (3, .ref a5), (4, .int (iZ y))] rfl (by decide) rfl dSH_init_225 ?_
          refine tt_goto F 98 (by decide) dSH_init_228 ?_
          refine tt_sub [4, 5, 6, 7, 8, 0] rfl ?_
          exact ih (x + 1) (zu nx dd ((nx dd) + 1)) (zu ac (nx dd) x) (zu al (nx dd) y) (zu sd (nx dd) ((y * pA) + x)) (zu lf (nx dd) (-1073741824)) (zu sq ((((y + r) * (2 * r + 1)) + x) + r) (-1073741824)) (by omega) (⟨by omega, by omega⟩) (absurd rfl c167)
      · skip
        have hK := shi_k (n := ((y + r) * (2 * r + 1) + (x + r))) hr1 hr2 (by omega) (by omega) rfl (by omega) I
        rw [← hdd] at hK
        have hrb := rt_b (a := r * r - dd) (by omega) (by omega)
        have hF0 := (shF_b hr1 hr2 dd).1
        refine tt_gets F 0 hrt we145 dSH_init_125 ?_
        refine tt_iload_n F 2 rfl rfl dSH_init_128 ?_
        refine tt_iload_n F 2 rfl rfl dSH_init_129 ?_
        refine tt_imul F dSH_init_130 ?_
        refine tt_iload F 0 rfl dSH_init_131 ?_
        refine tt_isub F dSH_init_133 ?_
        refine tt_tald F 0 hrt (by omega) (by omega) (by decide) (show Value.int (iZ (rt ((((r * r) - dd).toNat : Nat) : Int))) = Value.int (iZ (rt ((r * r) - dd))) from by rw [Int.toNat_of_nonneg (by omega)]) dSH_init_134 ?_
        refine tt_goto F 140 (by decide) dSH_init_135 ?_
        refine tt_istore F [(7, .int (iZ (rt ((r * r) - dd)))), (6, .int (iZ dd)), (0, .ref b), (1, .int (iZ r)), (2, .int (iZ pA)), (3, .ref a5), (4, .int (iZ y)), (5, .int (iZ x))] (by decide) rfl dSH_init_140 ?_
        refine tt_aload_n F 2 rfl rfl dSH_init_142 ?_
        refine tt_get F inSH 0 rfl rfl 5 (by decide) we163 rfl dSH_init_143 ?_
        refine tt_iload F 6 rfl dSH_init_146 ?_
        refine tt_iload_n F 3 rfl rfl dSH_init_148 ?_
        refine tt_iadd F dSH_init_149 ?_
        refine tt_aload_n F 2 rfl rfl dSH_init_150 ?_
        refine tt_get F inSH 0 rfl rfl 6 (by decide) we165 rfl dSH_init_151 ?_
        refine tt_imul F dSH_init_154 ?_
        refine tt_iload F 7 rfl dSH_init_155 ?_
        refine tt_iadd F dSH_init_157 ?_
        refine tt_iload_n F 3 rfl rfl dSH_init_158 ?_
        refine tt_iadd F dSH_init_159 ?_
        refine tt_iload F 0 rfl dSH_init_160 ?_
        have hsx : (y + r) * (2 * r + 1) + x + r = ((y + r) * (2 * r + 1) + (x + r)) := by omega
        refine tt_iast F (fun h => h) 6 rfl (by omega) (by omega) (by omega) dSH_init_162 ?_
        refine tt_nrm (k := 6) (n := 2307) (ws' := [(b, .inr (3, [.int (iZ (shF r (r * r + 1))), .ref q25, .ref q35, .ref q45, .ref q55, .ref q79, .int (iZ (2 * r + 1))])), (a5, aI cI (r * r + 2) nx), (q25, aI cI (shF r (r * r + 1)) ac), (q35, aI cI (shF r (r * r + 1)) al), (q45, aI cI (shF r (r * r + 1)) sd), (q55, aI cI (shF r (r * r + 1)) lf), (q79, aI cI ((2 * r + 1) * (2 * r + 1)) (zu sq ((((y + r) * (2 * r + 1)) + x) + r) (rt ((r * r) - dd))))]) (by omega) (by omega) rfl ?_
        refine tt_iload F 0 rfl dSH_init_163 ?_
        refine tt_ldc F (n := -1073741824) (by rw [show iZ (-1073741824) = (-1073741824 : Int32) from by decide]; exact we147) dSH_init_165 ?_
        refine tt_icmp_eq F 225 ⟨by omega, by omega⟩ ⟨by omega, by omega⟩ dSH_init_167 (by decide) (fun c167 => ?_) (fun c167 => ?_)
        · skip
          refine tt_iinc F 7 [(5, .int (iZ (x + 1))), (7, .int (iZ (rt ((r * r) - dd)))), (6, .int (iZ dd)), (0, .ref b), (1, .int (iZ r)), (2, .int (iZ pA)), (3, .ref a5), (4, .int (iZ y))] rfl (by decide) rfl dSH_init_225 ?_
          refine tt_goto F 98 (by decide) dSH_init_228 ?_
          refine tt_sub [3, 4, 5, 6, 7, 0] rfl ?_
          exact ih (x + 1) nx ac al sd lf (zu sq ((((y + r) * (2 * r + 1)) + x) + r) (rt ((r * r) - dd))) (by omega) (⟨by omega, by omega⟩) (absurd c167 (by omega))
        · skip
          refine tt_aload_n F 5 rfl rfl dSH_init_170 ?_
          refine tt_iload F 1 rfl dSH_init_171 ?_
          refine tt_iald F 1 rfl (by omega) (by omega) (by omega) dSH_init_173 ?_
          refine tt_istore F [(8, .int (iZ (nx dd))), (7, .int (iZ (rt ((r * r) - dd)))), (6, .int (iZ dd)), (0, .ref b), (1, .int (iZ r)), (2, .int (iZ pA)), (3, .ref a5), (4, .int (iZ y)), (5, .int (iZ x))] (by decide) rfl dSH_init_174 ?_
          refine tt_aload_n F 6 rfl rfl dSH_init_176 ?_
          refine tt_iload F 2 rfl dSH_init_177 ?_
          refine tt_dup2 F rfl rfl dSH_init_179 ?_
          refine tt_iald F 1 rfl (by omega) (by omega) (by omega) dSH_init_180 ?_
          refine tt_iconst F dSH_init_181 ?_
          refine tt_iadd F dSH_init_182 ?_
          refine tt_iast F (fun h => h) 1 rfl (by omega) (by omega) (by omega) dSH_init_183 ?_
          refine tt_nrm (k := 6) (n := 2307) (ws' := [(b, .inr (3, [.int (iZ (shF r (r * r + 1))), .ref q25, .ref q35, .ref q45, .ref q55, .ref q79, .int (iZ (2 * r + 1))])), (a5, aI cI (r * r + 2) (zu nx dd ((nx dd) + 1))), (q25, aI cI (shF r (r * r + 1)) ac), (q35, aI cI (shF r (r * r + 1)) al), (q45, aI cI (shF r (r * r + 1)) sd), (q55, aI cI (shF r (r * r + 1)) lf), (q79, aI cI ((2 * r + 1) * (2 * r + 1)) (zu sq ((((y + r) * (2 * r + 1)) + x) + r) (rt ((r * r) - dd))))]) (by omega) (by omega) rfl ?_
          refine tt_aload_n F 3 rfl rfl dSH_init_184 ?_
          refine tt_get F inSH 0 rfl rfl 1 (by decide) we151 rfl dSH_init_185 ?_
          refine tt_iload F 0 rfl dSH_init_188 ?_
          refine tt_iload F 8 rfl dSH_init_190 ?_
          refine tt_iast F (fun h => h) 2 rfl (by omega) (by omega) (by omega) dSH_init_192 ?_
          refine tt_nrm (k := 6) (n := 2307) (ws' := [(b, .inr (3, [.int (iZ (shF r (r * r + 1))), .ref q25, .ref q35, .ref q45, .ref q55, .ref q79, .int (iZ (2 * r + 1))])), (a5, aI cI (r * r + 2) (zu nx dd ((nx dd) + 1))), (q25, aI cI (shF r (r * r + 1)) (zu ac (nx dd) x)), (q35, aI cI (shF r (r * r + 1)) al), (q45, aI cI (shF r (r * r + 1)) sd), (q55, aI cI (shF r (r * r + 1)) lf), (q79, aI cI ((2 * r + 1) * (2 * r + 1)) (zu sq ((((y + r) * (2 * r + 1)) + x) + r) (rt ((r * r) - dd))))]) (by omega) (by omega) rfl ?_
          refine tt_aload_n F 3 rfl rfl dSH_init_193 ?_
          refine tt_get F inSH 0 rfl rfl 2 (by decide) we154 rfl dSH_init_194 ?_
          refine tt_iload F 0 rfl dSH_init_197 ?_
          refine tt_iload F 7 rfl dSH_init_199 ?_
          refine tt_iast F (fun h => h) 3 rfl (by omega) (by omega) (by omega) dSH_init_201 ?_
          refine tt_nrm (k := 6) (n := 2307) (ws' := [(b, .inr (3, [.int (iZ (shF r (r * r + 1))), .ref q25, .ref q35, .ref q45, .ref q55, .ref q79, .int (iZ (2 * r + 1))])), (a5, aI cI (r * r + 2) (zu nx dd ((nx dd) + 1))), (q25, aI cI (shF r (r * r + 1)) (zu ac (nx dd) x)), (q35, aI cI (shF r (r * r + 1)) (zu al (nx dd) y)), (q45, aI cI (shF r (r * r + 1)) sd), (q55, aI cI (shF r (r * r + 1)) lf), (q79, aI cI ((2 * r + 1) * (2 * r + 1)) (zu sq ((((y + r) * (2 * r + 1)) + x) + r) (rt ((r * r) - dd))))]) (by omega) (by omega) rfl ?_
          refine tt_aload_n F 3 rfl rfl dSH_init_202 ?_
          refine tt_get F inSH 0 rfl rfl 3 (by decide) we157 rfl dSH_init_203 ?_
          refine tt_iload F 0 rfl dSH_init_206 ?_
          refine tt_iload F 7 rfl dSH_init_208 ?_
          refine tt_iload_n F 5 rfl rfl dSH_init_210 ?_
          refine tt_imul F dSH_init_211 ?_
          refine tt_iload F 8 rfl dSH_init_212 ?_
          refine tt_iadd F dSH_init_214 ?_
          refine tt_iast F (fun h => h) 4 rfl (by omega) (by omega) (by omega) dSH_init_215 ?_
          refine tt_nrm (k := 6) (n := 2307) (ws' := [(b, .inr (3, [.int (iZ (shF r (r * r + 1))), .ref q25, .ref q35, .ref q45, .ref q55, .ref q79, .int (iZ (2 * r + 1))])), (a5, aI cI (r * r + 2) (zu nx dd ((nx dd) + 1))), (q25, aI cI (shF r (r * r + 1)) (zu ac (nx dd) x)), (q35, aI cI (shF r (r * r + 1)) (zu al (nx dd) y)), (q45, aI cI (shF r (r * r + 1)) (zu sd (nx dd) ((y * pA) + x))), (q55, aI cI (shF r (r * r + 1)) lf), (q79, aI cI ((2 * r + 1) * (2 * r + 1)) (zu sq ((((y + r) * (2 * r + 1)) + x) + r) (rt ((r * r) - dd))))]) (by omega) (by omega) rfl ?_
          refine tt_aload_n F 3 rfl rfl dSH_init_216 ?_
          refine tt_get F inSH 0 rfl rfl 4 (by decide) we160 rfl dSH_init_217 ?_
          refine tt_iload F 0 rfl dSH_init_220 ?_
          refine tt_iload F 1 rfl dSH_init_222 ?_
          refine tt_iast F (fun h => h) 5 rfl (by omega) (by omega) (by omega) dSH_init_224 ?_
          refine tt_nrm (k := 6) (n := 2307) (ws' := [(b, .inr (3, [.int (iZ (shF r (r * r + 1))), .ref q25, .ref q35, .ref q45, .ref q55, .ref q79, .int (iZ (2 * r + 1))])), (a5, aI cI (r * r + 2) (zu nx dd ((nx dd) + 1))), (q25, aI cI (shF r (r * r + 1)) (zu ac (nx dd) x)), (q35, aI cI (shF r (r * r + 1)) (zu al (nx dd) y)), (q45, aI cI (shF r (r * r + 1)) (zu sd (nx dd) ((y * pA) + x))), (q55, aI cI (shF r (r * r + 1)) (zu lf (nx dd) (rt ((r * r) - dd)))), (q79, aI cI ((2 * r + 1) * (2 * r + 1)) (zu sq ((((y + r) * (2 * r + 1)) + x) + r) (rt ((r * r) - dd))))]) (by omega) (by omega) rfl ?_
          refine tt_iinc F 8 [(5, .int (iZ (x + 1))), (8, .int (iZ (nx dd))), (7, .int (iZ (rt ((r * r) - dd)))), (6, .int (iZ dd)), (0, .ref b), (1, .int (iZ r)), (2, .int (iZ pA)), (3, .ref a5), (4, .int (iZ y))] rfl (by decide) rfl dSH_init_225 ?_
          refine tt_goto F 98 (by decide) dSH_init_228 ?_
          refine tt_sub [4, 5, 6, 7, 8, 0] rfl ?_
          exact ih (x + 1) (zu nx dd ((nx dd) + 1)) (zu ac (nx dd) x) (zu al (nx dd) y) (zu sd (nx dd) ((y * pA) + x)) (zu lf (nx dd) (rt ((r * r) - dd))) (zu sq ((((y + r) * (2 * r + 1)) + x) + r) (rt ((r * r) - dd))) (by omega) (⟨by omega, by omega⟩) (by have I2 := shi_in hr1 hr2 (by omega) (by omega) rfl (by omega) I; rw [show ((y + r) * (2 * r + 1) + (x + r)) + 1 = ((y + r) * (2 * r + 1) + ((x + 1) + r)) by omega, ← hdd] at I2; rw [hsx]; exact I2)
set_option maxHeartbeats 4000000 in
set_option maxRecDepth 100000 in
theorem lp_sh {b a5 q25 q35 q45 q55 q79 aR : Nat} {r pA : Int} (F : FX p s m args meth c cSH_init 9 none wsSH_init RSH D vwCl cI cZ cJ SL A) (hr1 : 1 ≤ r) (hr2 : r ≤ 10) (hrt : SL[0]? = some ("RollingBalls$Level", "ROOTS", "[I", aR, 101, fun j : Nat => Value.int (iZ (rt (j : Int))))) (hpA : 1 ≤ pA ∧ pA ≤ 32)
    (k237 : ∀ (y : Int) (nx : Int → Int) (ac : Int → Int) (al : Int → Int) (sd : Int → Int) (lf : Int → Int) (sq : Int → Int), (SHI r pA ((2 * r + 1) * (2 * r + 1)) nx ac al sd lf sq) → TT p l e rmSH_init s m args below meth c D vwCl A 9 False Q 237 [(0, .ref b), (1, .int (iZ r)), (2, .int (iZ pA)), (3, .ref a5), (4, .int (iZ y))] [] [(b, .inr (3, [.int (iZ (shF r (r * r + 1))), .ref q25, .ref q35, .ref q45, .ref q55, .ref q79, .int (iZ (2 * r + 1))])), (a5, aI cI (r * r + 2) nx), (q25, aI cI (shF r (r * r + 1)) ac), (q35, aI cI (shF r (r * r + 1)) al), (q45, aI cI (shF r (r * r + 1)) sd), (q55, aI cI (shF r (r * r + 1)) lf), (q79, aI cI ((2 * r + 1) * (2 * r + 1)) sq)] 6 2307) :
    ∀ (n : Nat) (y : Int) (nx : Int → Int) (ac : Int → Int) (al : Int → Int) (sd : Int → Int) (lf : Int → Int) (sq : Int → Int), (r + 1 - y).toNat < n → (-r ≤ y ∧ y ≤ r + 1) → (SHI r pA ((y + r) * (2 * r + 1) + ((-r) + r)) nx ac al sd lf sq) → TT p l e rmSH_init s m args below meth c D vwCl A 9 False Q 88 [(0, .ref b), (1, .int (iZ r)), (2, .int (iZ pA)), (3, .ref a5), (4, .int (iZ y))] [] [(b, .inr (3, [.int (iZ (shF r (r * r + 1))), .ref q25, .ref q35, .ref q45, .ref q55, .ref q79, .int (iZ (2 * r + 1))])), (a5, aI cI (r * r + 2) nx), (q25, aI cI (shF r (r * r + 1)) ac), (q35, aI cI (shF r (r * r + 1)) al), (q45, aI cI (shF r (r * r + 1)) sd), (q55, aI cI (shF r (r * r + 1)) lf), (q79, aI cI ((2 * r + 1) * (2 * r + 1)) sq)] 6 2307 := by
  intro n
  induction n with
  | zero => intro y nx ac al sd lf sq hn; omega
  | succ n ih =>
    intro y nx ac al sd lf sq hn hy I
    have hrr := rr_b hr1 hr2
    have hN := shN_0 hr1 hr2
    have hF := shF_b hr1 hr2 (r * r + 1)
    refine tt_iload F 4 rfl dSH_init_88 ?_
    refine tt_iload_n F 1 rfl rfl dSH_init_90 ?_
    refine tt_icmp_gt F 237 ⟨by omega, by omega⟩ ⟨by omega, by omega⟩ dSH_init_91 (by decide) (fun c91 => ?_) (fun c91 => ?_)
    · skip
      refine tt_sub [0, 1, 2, 3, 4] rfl ?_
      exact k237 y nx ac al sd lf sq (by have e1 : ((y + r) * (2 * r + 1) + ((-r) + r)) = (2 * r + 1) * (2 * r + 1) := (by rw [show y + r = 2 * r + 1 by omega]; omega); rw [← e1]; exact I)
    · skip
      refine tt_iload_n F 1 rfl rfl dSH_init_94 ?_
      refine tt_ineg F dSH_init_95 ?_
      refine tt_istore F [(5, .int (iZ (-r))), (0, .ref b), (1, .int (iZ r)), (2, .int (iZ pA)), (3, .ref a5), (4, .int (iZ y))] (by decide) rfl dSH_init_96 ?_
      refine tt_sub [1, 2, 3, 4, 5, 0] rfl ?_
      refine lp_sh1 F hr1 hr2 hrt hpA (by omega) (fun x nx ac al sd lf sq I2 => ?_) ((r + 1 - -r).toNat + 1) (-r) nx ac al sd lf sq (by omega) (by omega) I
      refine tt_iinc F 4 [(4, .int (iZ (y + 1))), (0, .ref b), (1, .int (iZ r)), (2, .int (iZ pA)), (3, .ref a5)] rfl (by decide) rfl dSH_init_231 ?_
      refine tt_goto F 88 (by decide) dSH_init_234 ?_
      refine tt_sub [1, 2, 3, 4, 0] rfl ?_
      exact ih (y + 1) nx ac al sd lf sq (by omega) (⟨by omega, by omega⟩) (I2)
set_option maxHeartbeats 4000000 in
set_option maxRecDepth 100000 in
theorem c_shadow {b aR : Nat} {r pA : Int} (hr1 : 1 ≤ r) (hr2 : r ≤ 10) (hrt : SL[0]? = some ("RollingBalls$Level", "ROOTS", "[I", aR, 101, fun j : Nat => Value.int (iZ (rt (j : Int))))) (hpA : 1 ≤ pA ∧ pA ≤ 32) : CV l D vwCl cI cZ cJ SL ySH_init wsSH_init rmSH_init [.ref b, .int (iZ r), .int (iZ pA)] [(b, .inr (3, [.int (iZ 0), .null, .null, .null, .null, .null, .int (iZ 0)]))] (fun w1 => ∃ (q25 q35 q45 q55 q79 : Nat) (sz : Int) (ac al sd lf sq : Int → Int), w1 = [(b, .inr (3, [.int (iZ sz), .ref q25, .ref q35, .ref q45, .ref q55, .ref q79, .int (iZ (2 * r + 1))])), (q25, aI cI sz ac), (q35, aI cI sz al), (q45, aI cI sz sd), (q55, aI cI sz lf), (q79, aI cI ((2 * r + 1) * (2 * r + 1)) sq)] ∧ SHG r pA sz ac al sd lf sq) := by
  refine tt_startV (by decide) rfl (Nat.le_of_ble_eq_true rfl) ?_
  intro p e s m args below meth c hnm F
  have hrr := rr_b hr1 hr2
  have hN := shN_0 hr1 hr2
  have hF := shF_b hr1 hr2 (r * r + 1)
  refine tt_aload_n F 0 rfl rfl dSH_init_0 ?_
  refine tt_obj F we141 we67 we68 (Nat.le_of_ble_eq_true rfl) (Nat.le_of_ble_eq_true rfl) dSH_init_1 ?_
  refine tt_iload_n F 1 rfl rfl dSH_init_4 ?_
  refine tt_cRS F (fun h => h) (As := [.int (iZ r)]) [(b, .inr (3, [.int (iZ 0), .null, .null, .null, .null, .null, .int (iZ 0)]))] (c_firstSteps hr1 hr2) (va_cwS 1 F.1.2.2.2.2 (gw_S wd142 wd143 wd49 wd144) rfl rfl rfl (by decide +kernel) ⟨(Nat.le_of_ble_eq_true rfl), (Nat.le_of_ble_eq_true rfl)⟩) rfl rfl rfl (Nat.le_of_ble_eq_true rfl) ⟨(Nat.le_of_ble_eq_true rfl), (Nat.le_of_ble_eq_true rfl)⟩ dSH_init_5 (fun a5 w1 hp => ?_)
  obtain ⟨f5, rfl, hf5⟩ := hp
  refine tt_nrm (k := 1) (n := 102) (ws' := [(b, .inr (3, [.int (iZ 0), .null, .null, .null, .null, .null, .int (iZ 0)])), (a5, aI cI (r * r + 2) f5)]) (Nat.le_of_ble_eq_true rfl) (Nat.le_of_ble_eq_true rfl) rfl ?_
  refine tt_astore_n F [(3, .ref a5), (0, .ref b), (1, .int (iZ r)), (2, .int (iZ pA))] rfl (by decide) rfl dSH_init_8 ?_
  refine tt_aload_n F 1 rfl rfl dSH_init_9 ?_
  refine tt_aload_n F 0 rfl rfl dSH_init_10 ?_
  refine tt_iload_n F 2 rfl rfl dSH_init_11 ?_
  refine tt_iload_n F 2 rfl rfl dSH_init_12 ?_
  refine tt_imul F dSH_init_13 ?_
  refine tt_iconst F dSH_init_14 ?_
  refine tt_iadd F dSH_init_15 ?_
  refine tt_iald F 1 rfl (by omega) (by omega) (by omega) dSH_init_16 ?_
  refine tt_top (hf5 (r * r + 1) (by omega) (by omega)) ?_
  refine tt_putF F (fun h => h) inSH tySH tySH_ok nmSH 0 rfl rfl 0 (by decide) we148 rfl hnm rfl rfl rfl rfl (show (0 : Nat) + 1 ≤ _ from Nat.le_of_ble_eq_true rfl) dSH_init_17 ?_
  refine tt_nrm (k := 1) (n := 102) (ws' := [(b, .inr (3, [.int (iZ (shF r (r * r + 1))), .null, .null, .null, .null, .null, .int (iZ 0)])), (a5, aI cI (r * r + 2) f5)]) (by omega) (by omega) rfl ?_
  refine tt_aload_n F 1 rfl rfl dSH_init_20 ?_
  refine tt_aload_n F 1 rfl rfl dSH_init_21 ?_
  refine tt_get F inSH 0 rfl rfl 0 (by decide) we148 rfl dSH_init_22 ?_
  refine tt_newI F (fun h => h) we128 (by omega) (by omega) (Nat.le_of_ble_eq_true rfl) (by show 102 + Int.toNat (shF r (r * r + 1)) ≤ 2307; omega) dSH_init_25 (fun q25 => ?_)
  refine tt_nrm (k := 2) (n := 543) (ws' := [(b, .inr (3, [.int (iZ (shF r (r * r + 1))), .null, .null, .null, .null, .null, .int (iZ 0)])), (a5, aI cI (r * r + 2) f5), (q25, aI cI (shF r (r * r + 1)) (fun _ => 0))]) (by omega) (by omega) rfl ?_
  refine tt_putF F (fun h => h) inSH tySH tySH_ok nmSH 0 rfl rfl 1 (by decide) we151 rfl hnm rfl rfl rfl rfl (show (1 : Nat) + 1 ≤ _ from Nat.le_of_ble_eq_true rfl) dSH_init_27 ?_
  refine tt_nrm (k := 2) (n := 543) (ws' := [(b, .inr (3, [.int (iZ (shF r (r * r + 1))), .ref q25, .null, .null, .null, .null, .int (iZ 0)])), (a5, aI cI (r * r + 2) f5), (q25, aI cI (shF r (r * r + 1)) (fun _ => 0))]) (by omega) (by omega) rfl ?_
  refine tt_aload_n F 1 rfl rfl dSH_init_30 ?_
  refine tt_aload_n F 1 rfl rfl dSH_init_31 ?_
  refine tt_get F inSH 0 rfl rfl 0 (by decide) we148 rfl dSH_init_32 ?_
  refine tt_newI F (fun h => h) we128 (by omega) (by omega) (Nat.le_of_ble_eq_true rfl) (by show 543 + Int.toNat (shF r (r * r + 1)) ≤ 2307; omega) dSH_init_35 (fun q35 => ?_)
  refine tt_nrm (k := 3) (n := 984) (ws' := [(b, .inr (3, [.int (iZ (shF r (r * r + 1))), .ref q25, .null, .null, .null, .null, .int (iZ 0)])), (a5, aI cI (r * r + 2) f5), (q25, aI cI (shF r (r * r + 1)) (fun _ => 0)), (q35, aI cI (shF r (r * r + 1)) (fun _ => 0))]) (by omega) (by omega) rfl ?_
  refine tt_putF F (fun h => h) inSH tySH tySH_ok nmSH 0 rfl rfl 2 (by decide) we154 rfl hnm rfl rfl rfl rfl (show (2 : Nat) + 1 ≤ _ from Nat.le_of_ble_eq_true rfl) dSH_init_37 ?_
  refine tt_nrm (k := 3) (n := 984) (ws' := [(b, .inr (3, [.int (iZ (shF r (r * r + 1))), .ref q25, .ref q35, .null, .null, .null, .int (iZ 0)])), (a5, aI cI (r * r + 2) f5), (q25, aI cI (shF r (r * r + 1)) (fun _ => 0)), (q35, aI cI (shF r (r * r + 1)) (fun _ => 0))]) (by omega) (by omega) rfl ?_
  refine tt_aload_n F 1 rfl rfl dSH_init_40 ?_
  refine tt_aload_n F 1 rfl rfl dSH_init_41 ?_
  refine tt_get F inSH 0 rfl rfl 0 (by decide) we148 rfl dSH_init_42 ?_
  refine tt_newI F (fun h => h) we128 (by omega) (by omega) (Nat.le_of_ble_eq_true rfl) (by show 984 + Int.toNat (shF r (r * r + 1)) ≤ 2307; omega) dSH_init_45 (fun q45 => ?_)
  refine tt_nrm (k := 4) (n := 1425) (ws' := [(b, .inr (3, [.int (iZ (shF r (r * r + 1))), .ref q25, .ref q35, .null, .null, .null, .int (iZ 0)])), (a5, aI cI (r * r + 2) f5), (q25, aI cI (shF r (r * r + 1)) (fun _ => 0)), (q35, aI cI (shF r (r * r + 1)) (fun _ => 0)), (q45, aI cI (shF r (r * r + 1)) (fun _ => 0))]) (by omega) (by omega) rfl ?_
  refine tt_putF F (fun h => h) inSH tySH tySH_ok nmSH 0 rfl rfl 3 (by decide) we157 rfl hnm rfl rfl rfl rfl (show (3 : Nat) + 1 ≤ _ from Nat.le_of_ble_eq_true rfl) dSH_init_47 ?_
  refine tt_nrm (k := 4) (n := 1425) (ws' := [(b, .inr (3, [.int (iZ (shF r (r * r + 1))), .ref q25, .ref q35, .ref q45, .null, .null, .int (iZ 0)])), (a5, aI cI (r * r + 2) f5), (q25, aI cI (shF r (r * r + 1)) (fun _ => 0)), (q35, aI cI (shF r (r * r + 1)) (fun _ => 0)), (q45, aI cI (shF r (r * r + 1)) (fun _ => 0))]) (by omega) (by omega) rfl ?_
  refine tt_aload_n F 1 rfl rfl dSH_init_50 ?_
  refine tt_aload_n F 1 rfl rfl dSH_init_51 ?_
  refine tt_get F inSH 0 rfl rfl 0 (by decide) we148 rfl dSH_init_52 ?_
  refine tt_newI F (fun h => h) we128 (by omega) (by omega) (Nat.le_of_ble_eq_true rfl) (by show 1425 + Int.toNat (shF r (r * r + 1)) ≤ 2307; omega) dSH_init_55 (fun q55 => ?_)
  refine tt_nrm (k := 5) (n := 1866) (ws' := [(b, .inr (3, [.int (iZ (shF r (r * r + 1))), .ref q25, .ref q35, .ref q45, .null, .null, .int (iZ 0)])), (a5, aI cI (r * r + 2) f5), (q25, aI cI (shF r (r * r + 1)) (fun _ => 0)), (q35, aI cI (shF r (r * r + 1)) (fun _ => 0)), (q45, aI cI (shF r (r * r + 1)) (fun _ => 0)), (q55, aI cI (shF r (r * r + 1)) (fun _ => 0))]) (by omega) (by omega) rfl ?_
  refine tt_putF F (fun h => h) inSH tySH tySH_ok nmSH 0 rfl rfl 4 (by decide) we160 rfl hnm rfl rfl rfl rfl (show (4 : Nat) + 1 ≤ _ from Nat.le_of_ble_eq_true rfl) dSH_init_57 ?_
  refine tt_nrm (k := 5) (n := 1866) (ws' := [(b, .inr (3, [.int (iZ (shF r (r * r + 1))), .ref q25, .ref q35, .ref q45, .ref q55, .null, .int (iZ 0)])), (a5, aI cI (r * r + 2) f5), (q25, aI cI (shF r (r * r + 1)) (fun _ => 0)), (q35, aI cI (shF r (r * r + 1)) (fun _ => 0)), (q45, aI cI (shF r (r * r + 1)) (fun _ => 0)), (q55, aI cI (shF r (r * r + 1)) (fun _ => 0))]) (by omega) (by omega) rfl ?_
  refine tt_aload_n F 1 rfl rfl dSH_init_60 ?_
  refine tt_iconst F dSH_init_61 ?_
  refine tt_iload_n F 2 rfl rfl dSH_init_62 ?_
  refine tt_imul F dSH_init_63 ?_
  refine tt_iconst F dSH_init_64 ?_
  refine tt_iadd F dSH_init_65 ?_
  refine tt_putF F (fun h => h) inSH tySH tySH_ok nmSH 0 rfl rfl 6 (by decide) we165 rfl hnm rfl rfl rfl rfl (show (6 : Nat) + 1 ≤ _ from Nat.le_of_ble_eq_true rfl) dSH_init_66 ?_
  refine tt_nrm (k := 5) (n := 1866) (ws' := [(b, .inr (3, [.int (iZ (shF r (r * r + 1))), .ref q25, .ref q35, .ref q45, .ref q55, .null, .int (iZ ((2 * r) + 1))])), (a5, aI cI (r * r + 2) f5), (q25, aI cI (shF r (r * r + 1)) (fun _ => 0)), (q35, aI cI (shF r (r * r + 1)) (fun _ => 0)), (q45, aI cI (shF r (r * r + 1)) (fun _ => 0)), (q55, aI cI (shF r (r * r + 1)) (fun _ => 0))]) (by omega) (by omega) rfl ?_
  refine tt_aload_n F 1 rfl rfl dSH_init_69 ?_
  refine tt_aload_n F 1 rfl rfl dSH_init_70 ?_
  refine tt_get F inSH 0 rfl rfl 6 (by decide) we165 rfl dSH_init_71 ?_
  refine tt_aload_n F 1 rfl rfl dSH_init_74 ?_
  refine tt_get F inSH 0 rfl rfl 6 (by decide) we165 rfl dSH_init_75 ?_
  refine tt_imul F dSH_init_78 ?_
  refine tt_newI F (fun h => h) we128 (by omega) (by omega) (Nat.le_of_ble_eq_true rfl) (by show 1866 + Int.toNat (((2 * r) + 1) * ((2 * r) + 1)) ≤ 2307; omega) dSH_init_79 (fun q79 => ?_)
  refine tt_nrm (k := 6) (n := 2307) (ws' := [(b, .inr (3, [.int (iZ (shF r (r * r + 1))), .ref q25, .ref q35, .ref q45, .ref q55, .null, .int (iZ ((2 * r) + 1))])), (a5, aI cI (r * r + 2) f5), (q25, aI cI (shF r (r * r + 1)) (fun _ => 0)), (q35, aI cI (shF r (r * r + 1)) (fun _ => 0)), (q45, aI cI (shF r (r * r + 1)) (fun _ => 0)), (q55, aI cI (shF r (r * r + 1)) (fun _ => 0)), (q79, aI cI (((2 * r) + 1) * ((2 * r) + 1)) (fun _ => 0))]) (by omega) (by omega) rfl ?_
  refine tt_putF F (fun h => h) inSH tySH tySH_ok nmSH 0 rfl rfl 5 (by decide) we163 rfl hnm rfl rfl rfl rfl (show (5 : Nat) + 1 ≤ _ from Nat.le_of_ble_eq_true rfl) dSH_init_81 ?_
  refine tt_nrm (k := 6) (n := 2307) (ws' := [(b, .inr (3, [.int (iZ (shF r (r * r + 1))), .ref q25, .ref q35, .ref q45, .ref q55, .ref q79, .int (iZ ((2 * r) + 1))])), (a5, aI cI (r * r + 2) f5), (q25, aI cI (shF r (r * r + 1)) (fun _ => 0)), (q35, aI cI (shF r (r * r + 1)) (fun _ => 0)), (q45, aI cI (shF r (r * r + 1)) (fun _ => 0)), (q55, aI cI (shF r (r * r + 1)) (fun _ => 0)), (q79, aI cI (((2 * r) + 1) * ((2 * r) + 1)) (fun _ => 0))]) (by omega) (by omega) rfl ?_
  refine tt_iload_n F 2 rfl rfl dSH_init_84 ?_
  refine tt_ineg F dSH_init_85 ?_
  refine tt_istore F [(4, .int (iZ (-r))), (3, .ref a5), (0, .ref b), (1, .int (iZ r)), (2, .int (iZ pA))] (by decide) rfl dSH_init_86 ?_
  refine tt_sub [2, 3, 4, 1, 0] rfl ?_
  refine lp_sh F hr1 hr2 hrt hpA (fun y nx ac al sd lf sq I => ?_) ((r + 1 - -r).toNat + 1) (-r) f5 (fun _ => 0) (fun _ => 0) (fun _ => 0) (fun _ => 0) (fun _ => 0) (by omega) (by omega) (by rw [show (((-r) + r) * (2 * r + 1) + ((-r) + r)) = 0 by rw [show -r + r = 0 by omega]; omega]; exact shi_0 hf5)
  refine tt_perm (ws' := [(b, .inr (3, [.int (iZ (shF r (r * r + 1))), .ref q25, .ref q35, .ref q45, .ref q55, .ref q79, .int (iZ (2 * r + 1))])), (q25, aI cI (shF r (r * r + 1)) ac), (q35, aI cI (shF r (r * r + 1)) al), (q45, aI cI (shF r (r * r + 1)) sd), (q55, aI cI (shF r (r * r + 1)) lf), (q79, aI cI ((2 * r + 1) * (2 * r + 1)) sq)]) [0, 2, 3, 4, 5, 6] (by decide) rfl rfl ?_
  exact tt_vret F rfl (Nat.le_of_ble_eq_true rfl) (Nat.le_of_ble_eq_true rfl) dSH_init_237 ⟨q25, q35, q45, q55, q79, _, ac, al, sd, lf, sq, rfl, shi_fin hr1 hr2 I⟩
end INIT
