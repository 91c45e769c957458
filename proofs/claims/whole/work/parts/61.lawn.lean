/-! an int's value, as a long -/
section LWN
variable {p : Program} {l : Launch} {e : Env} {R : Room} {s : State} {m : MethodId} {args : Array Value} {below : List Frame} {meth : Method} {c : Code} {cells slots : Nat} {Q : State → Prop}
variable {cc : ByteArray} {nL pc : Nat} {ret : Option FieldType} {Ts : List Cond} {own : String} {D : va_G} {cl : List vw_C} {cI cZ cJ : ClassId} {SL : List zS} {A : Nat → Prop} {ro : Prop} {lv : List (Nat × Value)} {st : List Value} {ws : va_W}
def nz (z : Int) : Int := (iZ z).toInt
theorem nz_ir (z : Int) : ir (nz z) := iZ_ir _
theorem nz_iZ (z : Int) : iZ (nz z) = iZ z := iZ_of _
theorem nz_id {z : Int} (h : ir z) : nz z = z := iZ_toInt h
theorem tt_i2ln (F : FX p s m args meth c cc nL ret Ts own D cl cI cZ cJ SL A) {a : Int} (hd : decode cc pc = .ok (.i2l, 1)) (k : TT p l e R s m args below meth c D cl A nL ro Q (pc + 1) lv (.long (jZ (nz a)) :: st) ws cells slots) : TT p l e R s m args below meth c D cl A nL ro Q pc lv (.int (iZ a) :: st) ws cells slots := by
  have h := tt_i2l F (nz_ir a) hd k
  rw [nz_iZ] at h
  exact h
theorem tt_comm {w1 w2 : va_W} (k : TT p l e R s m args below meth c D cl A nL ro Q pc lv st (w2 ++ w1) cells slots) : TT p l e R s m args below meth c D cl A nL ro Q pc lv st (w1 ++ w2) cells slots := by
  intro H locs ls hN hP hD hS hl
  have gt : ∀ (k : Nat) (q : Nat × va_E), (w2 ++ w1)[k]? = some q → ∃ j, (w1 ++ w2)[j]? = some q ∧ ((k < w2.length ∧ j = w1.length + k) ∨ (w2.length ≤ k ∧ j = k - w2.length ∧ j < w1.length)) := by
    intro k q hk
    by_cases h : k < w2.length
    · rw [List.getElem?_append_left h] at hk
      exact ⟨w1.length + k, by rw [List.getElem?_append_right (by omega)]; simpa using hk, Or.inl ⟨h, rfl⟩⟩
    · rw [List.getElem?_append_right (by omega)] at hk
      have h2 : k - w2.length < w1.length := by
        rw [List.getElem?_eq_some_iff] at hk; exact hk.1
      exact ⟨k - w2.length, by rw [List.getElem?_append_left h2]; exact hk, Or.inr ⟨by omega, rfl, h2⟩⟩
  refine k H locs ls hN (fun k q hk => ?_) ⟨fun i j p q hi hj hpq => ?_, fun k q hk => ?_⟩ hS hl
  · obtain ⟨j, hj, -⟩ := gt k q hk
    exact hP j q hj
  · obtain ⟨i', hi', ci⟩ := gt i p hi
    obtain ⟨j', hj', cj⟩ := gt j q hj
    have := hD.1 i' j' p q hi' hj' hpq
    omega
  · obtain ⟨j, hj, -⟩ := gt k q hk
    exact hD.2 j q hj
end LWN
