/-! what holds at the law's entry; the law from its entry; the claim -/
section LWS
variable {s : State} {b : Nat} {A : Nat → Prop}
abbrev gN : List Cond := flatC (Jvm.Cond.and given_1 narrow_1)
theorem la_R : ∀ j : Fin 101, Cond.eq (.elem (.static "RollingBalls$Level" "ROOTS" "[I") (.int (Int32.ofNat j.val))) (.int (iZ (rt (j.val : Int)))) ∈ gN := by decide +kernel
theorem la_S : ∀ j : Fin 4, Cond.eq (.elem (.static "RollingBalls$Plan" "SETS_WITH" "[I") (.int (Int32.ofNat j.val))) (.int (iZ (SWv (j.val : Int)))) ∈ gN := by decide +kernel
theorem la_static {C n : String} {K : Nat} {g : Int → Int} (hN : K < 2 ^ 31) (hs : ∀ w ∈ gN, w.before #[Value.ref b] s = true) (harr : Cond.arrayOf (.static C n "[I") .int ∈ gN) (hlen : Cond.eq (.length (.static C n "[I")) (.int (Int32.ofNat K)) ∈ gN) (hel : ∀ j : Fin K, Cond.eq (.elem (.static C n "[I") (.int (Int32.ofNat j.val))) (.int (iZ (g (j.val : Int)))) ∈ gN)
    (hl : (Cond.laysStatic C n "[I").before #[Value.ref b] s = true) (hini : (Cond.initialized C).before #[Value.ref b] s = true) (hA : ∀ a : Nat, a < s.heap.size → ¬ A a) : ∃ t : Nat, va_Z C n "[I" (.ref t) A s s.heap ∧ va_T .int t K (fun j => .int (iZ (g (j : Int)))) A s s.heap := by
  obtain ⟨t, h1, h2⟩ := va_Tof (f := fun j => .int (iZ (g (j : Int)))) (A := A) hN (hs _ harr) (va_eqt (hs _ hlen)) (fun j hj => va_eqt (hs _ (hel ⟨j, hj⟩))) hA
  exact ⟨t, va_Zof hl hini h1 hA, h2⟩
theorem la_arr {ty : FieldType} (h : (Cond.arrayClass ty).before #[Value.ref b] s = true) : ∃ cA : ClassId, ArrOfT s cA ty ∧ s.vm.findClass ("[" ++ ty.toString) = some cA := by
  obtain ⟨cA, kA, comp, h1, h2, h3⟩ := Cond.arrayClass_spec h
  exact ⟨cA, fun n z => ⟨fun k h => (by cases h), kA, h2, comp, h3⟩, h1⟩
theorem la_str {k : Nat} {tx : String} (hs : ∀ w ∈ gN, w.before #[Value.ref b] s = true) (h1 : (Cond.stringRef "RollingBalls" k tx).before #[Value.ref b] s = true) (h2 : Cond.exactly (.string "RollingBalls" k) "java/lang/String" ∈ gN) : ∃ a, vk_R "RollingBalls" k tx a s := by
  obtain ⟨a, c, cA, kA, q1, -⟩ := Cond.exactly_spec (args := #[Value.ref b]) (first := s) (o := none) (s := s) (idx := []) (t := .string "RollingBalls" k) (cls := "java/lang/String") (hs _ h2)
  exact ⟨a, vk_R.of h1 q1⟩
end LWS
set_option maxHeartbeats 4000000 in
set_option maxRecDepth 100000 in
theorem whole_start {p : Program} {e : Env} {s : State} {m : MethodId} {below : List Frame} {meth : Method} {c : Code} (l : Launch) (hst : l.stackTraces = false) {b L : Nat} {xs : Nat → Int32} (hL : L ≤ 2563) (C0 : lw_At p s m meth c b L xs) : W p l e room_1 s m #[Value.ref b] below meth c s.heap [] 0 0 (lw_Z below #[Value.ref b] s) (entryFrame m ([Value.ref b] : List Value).toArray 7) := by
  obtain ⟨hx, hb, hr, hml, hown, hts, hX, hbl, hlocks, hgv⟩ := id C0
  have hs := flat_of_before _ hgv
  have hAo : ∀ q : Nat, q < s.heap.size → ¬ (fun q : Nat => s.heap.size ≤ q) q := fun q h => Nat.not_le.mpr h
  have hbA : ¬ (fun q : Nat => s.heap.size ≤ q) b := Nat.not_le.mpr hbl
  have hT : ∀ w ∈ (Cond.arrayClass .int :: gT), w.before #[Value.ref b] s = true := fun w h => (List.mem_cons.mp h).elim (fun e => by rw [e]; exact hts _ (gw_lw _ wd128)) (fun h => hts _ (gw_lw _ h))
  obtain ⟨c0, i0, K0⟩ := u_known (C := RRB) (T := TRB) (N := 7) (n := 7) hT inRB (hT _ we62)
  obtain ⟨c1, i1, K1⟩ := u_known (C := RBA) (T := TBA) (N := 12) (n := 12) hT inBA (hT _ we130)
  obtain ⟨c2, i2, K2⟩ := u_known (C := RHO) (T := THO) (N := 9) (n := 9) hT inHO (hT _ we79)
  obtain ⟨c3, i3, K3⟩ := u_known (C := RSH) (T := TSH) (N := 7) (n := 7) hT inSH (hT _ we137)
  obtain ⟨c4, i4, K4⟩ := u_known (C := RPL) (T := TPL) (N := 12) (n := 12) hT inPL (hT _ we239)
  obtain ⟨c5, i5, K5⟩ := u_known (C := RMO) (T := TMO) (N := 15) (n := 15) hT inMO (hT _ we690)
  obtain ⟨dC, dI, hKc⟩ : ∃ (dC : Nat → ClassId) (dI : Nat → Nat → Nat), ∀ (k : Nat) (q : vw_C), vwCl[k]? = some q → u_Kn s q.1 q.2.1 q.2.2 (dC k) (dI k) := by
    refine ⟨fun k => match k with | 0 => c0 | 1 => c1 | 2 => c2 | 3 => c3 | 4 => c4 | _ => c5, fun k => match k with | 0 => i0 | 1 => i1 | 2 => i2 | 3 => i3 | 4 => i4 | _ => i5, ?_⟩
    intro k q hq
    match k, hq with
    | 0, hq => cases hq; exact K0
    | 1, hq => cases hq; exact K1
    | 2, hq => cases hq; exact K2
    | 3, hq => cases hq; exact K3
    | 4, hq => cases hq; exact K4
    | 5, hq => cases hq; exact K5
    | k + 6, hq => simp [vwCl] at hq
  obtain ⟨cI, aI1, aI2⟩ := la_arr (hT _ we128)
  obtain ⟨cZ, aZ1, aZ2⟩ := la_arr (hT _ we285)
  obtain ⟨cJ, aJ1, aJ2⟩ := la_arr (hT _ we876)
  have hK : va_K (dC, dI) vwCl (zT cI cZ cJ) s := by
    refine ⟨hKc, fun k q hq => ?_⟩
    match k, hq with
    | 0, hq => cases hq; exact ⟨aI1, aI2⟩
    | 1, hq => cases hq; exact ⟨aZ1, aZ2⟩
    | 2, hq => cases hq; exact ⟨aJ1, aJ2⟩
    | k + 3, hq => simp [zT] at hq
  obtain ⟨tR, zR, uR⟩ := la_static (A := fun q : Nat => s.heap.size ≤ q) (C := "RollingBalls$Level") (n := "ROOTS") (K := 101) (g := rt) (by decide) hs (by decide +kernel) (by decide +kernel) la_R (hts (.laysStatic "RollingBalls$Level" "ROOTS" "[I") (by decide +kernel)) (hts (.initialized "RollingBalls$Level") (by decide +kernel)) hAo
  obtain ⟨tS, zS, uS⟩ := la_static (A := fun q : Nat => s.heap.size ≤ q) (C := "RollingBalls$Plan") (n := "SETS_WITH") (K := 4) (g := SWv) (by decide) hs (by decide +kernel) (by decide +kernel) la_S (hts (.laysStatic "RollingBalls$Plan" "SETS_WITH" "[I") (by decide +kernel)) (hts (.initialized "RollingBalls$Plan") (by decide +kernel)) hAo
  have hSF : SF [("RollingBalls$Level", "ROOTS", "[I", tR, 101, fun j : Nat => Value.int (iZ (rt (j : Int)))), ("RollingBalls$Plan", "SETS_WITH", "[I", tS, 4, fun j : Nat => Value.int (iZ (SWv (j : Int))))] (fun q : Nat => s.heap.size ≤ q) s s.heap := by
    intro k q hq
    match k, hq with
    | 0, hq => cases hq; exact ⟨zR, uR⟩
    | 1, hq => cases hq; exact ⟨zS, uS⟩
    | k + 2, hq => simp at hq
  have hSP : SPx RRB ssL s := by
    intro k q hq
    match k, hq with
    | 0, hq => cases hq; exact la_str hs (hts _ (by decide +kernel)) (by decide +kernel)
    | 1, hq => cases hq; exact la_str hs (hts _ (by decide +kernel)) (by decide +kernel)
    | 2, hq => cases hq; exact la_str hs (hts _ (by decide +kernel)) (by decide +kernel)
    | 3, hq => cases hq; exact la_str hs (hts _ (by decide +kernel)) (by decide +kernel)
    | k + 4, hq => simp [ssL] at hq
  have hTN : TNx s := by
    have rf := Vm.Alike.refl s.vm
    intro w hw a
    simp only [tnL, List.mem_cons, List.not_mem_nil, or_false] at hw
    rcases hw with rfl | rfl | rfl | rfl | rfl | rfl | rfl | rfl | rfl
    · exact tn_cast rf (hts (.castable IAE IAE) (by decide +kernel))
    · exact tn_cast rf (hts (.castable ISE ISE) (by decide +kernel))
    · exact tn_lays rf (fun _ _ => rfl) (hts (.laysStatic tnT tnU tnUd) (by decide +kernel))
    · exact tn_lays rf (fun _ _ => rfl) (hts (.laysStatic tnT tnS tnSd) (by decide +kernel))
    · exact tn_ref rf (fun _ _ => rfl) (hts (.laysStatic tnT tnU tnUd) (by decide +kernel)) (hs (.isRef (.static tnT tnU tnUd)) (by decide +kernel))
    · exact tn_ref rf (fun _ _ => rfl) (hts (.laysStatic tnT tnS tnSd) (by decide +kernel)) (hs (.isRef (.static tnT tnS tnSd)) (by decide +kernel))
    · exact tn_decl rf (hts (.declares (tnI "java/lang/RuntimeException")) (by decide +kernel))
    · exact tn_decl rf (hts (.declares (tnI "java/lang/Exception")) (by decide +kernel))
    · exact tn_decl rf (hts (.declares (tnI tnT)) (by decide +kernel))
  have hNc : va_Nc ISE IAE s := va_Nc.of (hs (.not (.castable ISE IAE)) (by decide +kernel))
  have F : FX p s m #[Value.ref b] meth c cLW_law 7 (some .boolean) (Cond.arrayClass .int :: gT) RLW (dC, dI) vwCl cI cZ cJ [("RollingBalls$Level", "ROOTS", "[I", tR, 101, fun j : Nat => Value.int (iZ (rt (j : Int)))), ("RollingBalls$Plan", "SETS_WITH", "[I", tS, 4, fun j : Nat => Value.int (iZ (SWv (j : Int))))] (fun q : Nat => s.heap.size ≤ q) :=
    ⟨⟨hx, hb, hml, hown, hT⟩, hK, fun q h => h, hSF, hr, hlocks⟩
  have hl := lv_entry ([.ref b]) (n := 7) (Nat.le_of_ble_eq_true rfl)
  have B := lw_body (l := l) (e := e) (below := below) F hst hX hbl hbA hL ⟨⟨hSP, hTN⟩, hNc⟩ hAo (fun q h => h) rfl rfl
  rw [lg_entry_eq]
  exact B s.heap [] _ (fun h => h.elim) (fun k q h => by simp at h) ⟨fun i j p q h => by simp at h, fun k q h => by simp at h⟩ va_S.rf hl
