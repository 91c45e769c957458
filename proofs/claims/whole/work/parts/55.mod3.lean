section MOD3
variable {p : Program} {l : Launch} {e : Env} {s : State} {m : MethodId} {args : Array Value} {below : List Frame} {meth : Method} {c : Code} {Q : State → Prop} {D : va_G} {cI cZ cJ : ClassId} {SL : List zS} {A : Nat → Prop} {ad : Nat → Nat} {W D_ r : Int} {hM rM tM wM mp mk wh sM hi vS : Int → Int} {cd mn : Int}
abbrev rmMO_init : Room := { frames := 1, cells := 10, slots := 2920, locals := 60 }
set_option maxHeartbeats 4000000 in
set_option maxRecDepth 100000 in
theorem c_newM {b : Nat} {x y z : Int} (hx : ir x) (hy : ir y) (hz : ir z) : CV l D vwCl cI cZ cJ SL yMO_init wsMO_init rmMO_init [.ref b, .int (iZ x), .int (iZ y), .int (iZ z)] [(b, .inr (5, [.int (iZ 0), .int (iZ 0), .int (iZ 0), .int (iZ 0), .null, .null, .null, .null, .int (iZ 0), .null, .null, .null, .null, .null, .null]))] (fun w1 => ∃ (ad : Nat → Nat) (W D_ r : Int), ad 0 = b ∧ w1 = (mW cI cZ ad W D_ r (fun _ => 0) (fun _ => 0) (fun _ => 0) (fun _ => 0) (fun _ => 0) (fun _ => 0) (fun _ => 0) (fun _ => 0) (fun _ => 0) (fun _ => 0) 0 0) ∧ (((x < 1 ∧ W = 1) ∨ (1 ≤ x ∧ x ≤ 12 ∧ W = x) ∨ (12 < x ∧ W = 12))) ∧ (((y < 1 ∧ D_ = 1) ∨ (1 ≤ y ∧ y ≤ 12 ∧ D_ = y) ∨ (12 < y ∧ D_ = 12))) ∧ (((z < 1 ∧ r = 1) ∨ (1 ≤ z ∧ z ≤ 10 ∧ r = z) ∨ (10 < z ∧ r = 10)))) := by
  refine tt_startV (by decide) rfl (Nat.le_of_ble_eq_true rfl) ?_
  intro p e s m args below meth c hnm F
  refine tt_aload_n F 0 rfl rfl dMO_init_0 ?_
  refine tt_obj F we694 we67 we68 (Nat.le_of_ble_eq_true rfl) (Nat.le_of_ble_eq_true rfl) dMO_init_1 ?_
  refine tt_aload_n F 0 rfl rfl dMO_init_4 ?_
  refine tt_sipush F (by decide) dMO_init_5 ?_
  refine tt_newI F (fun h => h) we128 (by omega) (by omega) (Nat.le_of_ble_eq_true rfl) (by show 0 + Int.toNat 144 ≤ 2920; omega) dMO_init_8 (fun q8 => ?_)
  refine tt_nrm (k := 1) (n := 144) (ws' := [(b, .inr (5, [.int (iZ 0), .int (iZ 0), .int (iZ 0), .int (iZ 0), .null, .null, .null, .null, .int (iZ 0), .null, .null, .null, .null, .null, .null])), (q8, aI cI 144 (fun _ => 0))]) (by omega) (by omega) rfl ?_
  refine tt_putF F (fun h => h) inMO tyMO tyMO_ok nmMO 0 rfl rfl 4 (by decide) we702 rfl hnm rfl rfl rfl rfl (show (4 : Nat) + 1 ≤ _ from Nat.le_of_ble_eq_true rfl) dMO_init_10 ?_
  refine tt_nrm (k := 1) (n := 144) (ws' := [(b, .inr (5, [.int (iZ 0), .int (iZ 0), .int (iZ 0), .int (iZ 0), .ref q8, .null, .null, .null, .int (iZ 0), .null, .null, .null, .null, .null, .null])), (q8, aI cI 144 (fun _ => 0))]) (by omega) (by omega) rfl ?_
  refine tt_aload_n F 0 rfl rfl dMO_init_13 ?_
  refine tt_sipush F (by decide) dMO_init_14 ?_
  refine tt_newI F (fun h => h) we128 (by omega) (by omega) (Nat.le_of_ble_eq_true rfl) (by show 144 + Int.toNat 144 ≤ 2920; omega) dMO_init_17 (fun q17 => ?_)
  refine tt_nrm (k := 2) (n := 288) (ws' := [(b, .inr (5, [.int (iZ 0), .int (iZ 0), .int (iZ 0), .int (iZ 0), .ref q8, .null, .null, .null, .int (iZ 0), .null, .null, .null, .null, .null, .null])), (q8, aI cI 144 (fun _ => 0)), (q17, aI cI 144 (fun _ => 0))]) (by omega) (by omega) rfl ?_
  refine tt_putF F (fun h => h) inMO tyMO tyMO_ok nmMO 0 rfl rfl 5 (by decide) we703 rfl hnm rfl rfl rfl rfl (show (5 : Nat) + 1 ≤ _ from Nat.le_of_ble_eq_true rfl) dMO_init_19 ?_
  refine tt_nrm (k := 2) (n := 288) (ws' := [(b, .inr (5, [.int (iZ 0), .int (iZ 0), .int (iZ 0), .int (iZ 0), .ref q8, .ref q17, .null, .null, .int (iZ 0), .null, .null, .null, .null, .null, .null])), (q8, aI cI 144 (fun _ => 0)), (q17, aI cI 144 (fun _ => 0))]) (by omega) (by omega) rfl ?_
  refine tt_aload_n F 0 rfl rfl dMO_init_22 ?_
  refine tt_sipush F (by decide) dMO_init_23 ?_
  refine tt_newI F (fun h => h) we128 (by omega) (by omega) (Nat.le_of_ble_eq_true rfl) (by show 288 + Int.toNat 144 ≤ 2920; omega) dMO_init_26 (fun q26 => ?_)
  refine tt_nrm (k := 3) (n := 432) (ws' := [(b, .inr (5, [.int (iZ 0), .int (iZ 0), .int (iZ 0), .int (iZ 0), .ref q8, .ref q17, .null, .null, .int (iZ 0), .null, .null, .null, .null, .null, .null])), (q8, aI cI 144 (fun _ => 0)), (q17, aI cI 144 (fun _ => 0)), (q26, aI cI 144 (fun _ => 0))]) (by omega) (by omega) rfl ?_
  refine tt_putF F (fun h => h) inMO tyMO tyMO_ok nmMO 0 rfl rfl 6 (by decide) we704 rfl hnm rfl rfl rfl rfl (show (6 : Nat) + 1 ≤ _ from Nat.le_of_ble_eq_true rfl) dMO_init_28 ?_
  refine tt_nrm (k := 3) (n := 432) (ws' := [(b, .inr (5, [.int (iZ 0), .int (iZ 0), .int (iZ 0), .int (iZ 0), .ref q8, .ref q17, .ref q26, .null, .int (iZ 0), .null, .null, .null, .null, .null, .null])), (q8, aI cI 144 (fun _ => 0)), (q17, aI cI 144 (fun _ => 0)), (q26, aI cI 144 (fun _ => 0))]) (by omega) (by omega) rfl ?_
  refine tt_aload_n F 0 rfl rfl dMO_init_31 ?_
  refine tt_sipush F (by decide) dMO_init_32 ?_
  refine tt_newZ F (fun h => h) we285 (by omega) (by omega) (Nat.le_of_ble_eq_true rfl) (by show 432 + Int.toNat 144 ≤ 2920; omega) dMO_init_35 (fun q35 => ?_)
  refine tt_nrm (k := 4) (n := 576) (ws' := [(b, .inr (5, [.int (iZ 0), .int (iZ 0), .int (iZ 0), .int (iZ 0), .ref q8, .ref q17, .ref q26, .null, .int (iZ 0), .null, .null, .null, .null, .null, .null])), (q8, aI cI 144 (fun _ => 0)), (q17, aI cI 144 (fun _ => 0)), (q26, aI cI 144 (fun _ => 0)), (q35, aI cZ 144 (fun _ => 0))]) (by omega) (by omega) rfl ?_
  refine tt_putF F (fun h => h) inMO tyMO tyMO_ok nmMO 0 rfl rfl 7 (by decide) we705 rfl hnm rfl rfl rfl rfl (show (7 : Nat) + 1 ≤ _ from Nat.le_of_ble_eq_true rfl) dMO_init_37 ?_
  refine tt_nrm (k := 4) (n := 576) (ws' := [(b, .inr (5, [.int (iZ 0), .int (iZ 0), .int (iZ 0), .int (iZ 0), .ref q8, .ref q17, .ref q26, .ref q35, .int (iZ 0), .null, .null, .null, .null, .null, .null])), (q8, aI cI 144 (fun _ => 0)), (q17, aI cI 144 (fun _ => 0)), (q26, aI cI 144 (fun _ => 0)), (q35, aI cZ 144 (fun _ => 0))]) (by omega) (by omega) rfl ?_
  refine tt_aload_n F 0 rfl rfl dMO_init_40 ?_
  refine tt_iconst F dMO_init_41 ?_
  refine tt_newI F (fun h => h) we128 (by omega) (by omega) (Nat.le_of_ble_eq_true rfl) (by show 576 + Int.toNat 4 ≤ 2920; omega) dMO_init_42 (fun q42 => ?_)
  refine tt_nrm (k := 5) (n := 580) (ws' := [(b, .inr (5, [.int (iZ 0), .int (iZ 0), .int (iZ 0), .int (iZ 0), .ref q8, .ref q17, .ref q26, .ref q35, .int (iZ 0), .null, .null, .null, .null, .null, .null])), (q8, aI cI 144 (fun _ => 0)), (q17, aI cI 144 (fun _ => 0)), (q26, aI cI 144 (fun _ => 0)), (q35, aI cZ 144 (fun _ => 0)), (q42, aI cI 4 (fun _ => 0))]) (by omega) (by omega) rfl ?_
  refine tt_putF F (fun h => h) inMO tyMO tyMO_ok nmMO 0 rfl rfl 9 (by decide) we707 rfl hnm rfl rfl rfl rfl (show (9 : Nat) + 1 ≤ _ from Nat.le_of_ble_eq_true rfl) dMO_init_44 ?_
  refine tt_nrm (k := 5) (n := 580) (ws' := [(b, .inr (5, [.int (iZ 0), .int (iZ 0), .int (iZ 0), .int (iZ 0), .ref q8, .ref q17, .ref q26, .ref q35, .int (iZ 0), .ref q42, .null, .null, .null, .null, .null])), (q8, aI cI 144 (fun _ => 0)), (q17, aI cI 144 (fun _ => 0)), (q26, aI cI 144 (fun _ => 0)), (q35, aI cZ 144 (fun _ => 0)), (q42, aI cI 4 (fun _ => 0))]) (by omega) (by omega) rfl ?_
  refine tt_aload_n F 0 rfl rfl dMO_init_47 ?_
  refine tt_iconst F dMO_init_48 ?_
  refine tt_newI F (fun h => h) we128 (by omega) (by omega) (Nat.le_of_ble_eq_true rfl) (by show 580 + Int.toNat 4 ≤ 2920; omega) dMO_init_49 (fun q49 => ?_)
  refine tt_nrm (k := 6) (n := 584) (ws' := [(b, .inr (5, [.int (iZ 0), .int (iZ 0), .int (iZ 0), .int (iZ 0), .ref q8, .ref q17, .ref q26, .ref q35, .int (iZ 0), .ref q42, .null, .null, .null, .null, .null])), (q8, aI cI 144 (fun _ => 0)), (q17, aI cI 144 (fun _ => 0)), (q26, aI cI 144 (fun _ => 0)), (q35, aI cZ 144 (fun _ => 0)), (q42, aI cI 4 (fun _ => 0)), (q49, aI cI 4 (fun _ => 0))]) (by omega) (by omega) rfl ?_
  refine tt_putF F (fun h => h) inMO tyMO tyMO_ok nmMO 0 rfl rfl 10 (by decide) we708 rfl hnm rfl rfl rfl rfl (show (10 : Nat) + 1 ≤ _ from Nat.le_of_ble_eq_true rfl) dMO_init_51 ?_
  refine tt_nrm (k := 6) (n := 584) (ws' := [(b, .inr (5, [.int (iZ 0), .int (iZ 0), .int (iZ 0), .int (iZ 0), .ref q8, .ref q17, .ref q26, .ref q35, .int (iZ 0), .ref q42, .ref q49, .null, .null, .null, .null])), (q8, aI cI 144 (fun _ => 0)), (q17, aI cI 144 (fun _ => 0)), (q26, aI cI 144 (fun _ => 0)), (q35, aI cZ 144 (fun _ => 0)), (q42, aI cI 4 (fun _ => 0)), (q49, aI cI 4 (fun _ => 0))]) (by omega) (by omega) rfl ?_
  refine tt_aload_n F 0 rfl rfl dMO_init_54 ?_
  refine tt_sipush F (by decide) dMO_init_55 ?_
  refine tt_newI F (fun h => h) we128 (by omega) (by omega) (Nat.le_of_ble_eq_true rfl) (by show 584 + Int.toNat 1024 ≤ 2920; omega) dMO_init_58 (fun q58 => ?_)
  refine tt_nrm (k := 7) (n := 1608) (ws' := [(b, .inr (5, [.int (iZ 0), .int (iZ 0), .int (iZ 0), .int (iZ 0), .ref q8, .ref q17, .ref q26, .ref q35, .int (iZ 0), .ref q42, .ref q49, .null, .null, .null, .null])), (q8, aI cI 144 (fun _ => 0)), (q17, aI cI 144 (fun _ => 0)), (q26, aI cI 144 (fun _ => 0)), (q35, aI cZ 144 (fun _ => 0)), (q42, aI cI 4 (fun _ => 0)), (q49, aI cI 4 (fun _ => 0)), (q58, aI cI 1024 (fun _ => 0))]) (by omega) (by omega) rfl ?_
  refine tt_putF F (fun h => h) inMO tyMO tyMO_ok nmMO 0 rfl rfl 11 (by decide) we709 rfl hnm rfl rfl rfl rfl (show (11 : Nat) + 1 ≤ _ from Nat.le_of_ble_eq_true rfl) dMO_init_60 ?_
  refine tt_nrm (k := 7) (n := 1608) (ws' := [(b, .inr (5, [.int (iZ 0), .int (iZ 0), .int (iZ 0), .int (iZ 0), .ref q8, .ref q17, .ref q26, .ref q35, .int (iZ 0), .ref q42, .ref q49, .ref q58, .null, .null, .null])), (q8, aI cI 144 (fun _ => 0)), (q17, aI cI 144 (fun _ => 0)), (q26, aI cI 144 (fun _ => 0)), (q35, aI cZ 144 (fun _ => 0)), (q42, aI cI 4 (fun _ => 0)), (q49, aI cI 4 (fun _ => 0)), (q58, aI cI 1024 (fun _ => 0))]) (by omega) (by omega) rfl ?_
  refine tt_aload_n F 0 rfl rfl dMO_init_63 ?_
  refine tt_sipush F (by decide) dMO_init_64 ?_
  refine tt_newI F (fun h => h) we128 (by omega) (by omega) (Nat.le_of_ble_eq_true rfl) (by show 1608 + Int.toNat 1024 ≤ 2920; omega) dMO_init_67 (fun q67 => ?_)
  refine tt_nrm (k := 8) (n := 2632) (ws' := [(b, .inr (5, [.int (iZ 0), .int (iZ 0), .int (iZ 0), .int (iZ 0), .ref q8, .ref q17, .ref q26, .ref q35, .int (iZ 0), .ref q42, .ref q49, .ref q58, .null, .null, .null])), (q8, aI cI 144 (fun _ => 0)), (q17, aI cI 144 (fun _ => 0)), (q26, aI cI 144 (fun _ => 0)), (q35, aI cZ 144 (fun _ => 0)), (q42, aI cI 4 (fun _ => 0)), (q49, aI cI 4 (fun _ => 0)), (q58, aI cI 1024 (fun _ => 0)), (q67, aI cI 1024 (fun _ => 0))]) (by omega) (by omega) rfl ?_
  refine tt_putF F (fun h => h) inMO tyMO tyMO_ok nmMO 0 rfl rfl 12 (by decide) we710 rfl hnm rfl rfl rfl rfl (show (12 : Nat) + 1 ≤ _ from Nat.le_of_ble_eq_true rfl) dMO_init_69 ?_
  refine tt_nrm (k := 8) (n := 2632) (ws' := [(b, .inr (5, [.int (iZ 0), .int (iZ 0), .int (iZ 0), .int (iZ 0), .ref q8, .ref q17, .ref q26, .ref q35, .int (iZ 0), .ref q42, .ref q49, .ref q58, .ref q67, .null, .null])), (q8, aI cI 144 (fun _ => 0)), (q17, aI cI 144 (fun _ => 0)), (q26, aI cI 144 (fun _ => 0)), (q35, aI cZ 144 (fun _ => 0)), (q42, aI cI 4 (fun _ => 0)), (q49, aI cI 4 (fun _ => 0)), (q58, aI cI 1024 (fun _ => 0)), (q67, aI cI 1024 (fun _ => 0))]) (by omega) (by omega) rfl ?_
  refine tt_aload_n F 0 rfl rfl dMO_init_72 ?_
  refine tt_sipush F (by decide) dMO_init_73 ?_
  refine tt_newI F (fun h => h) we128 (by omega) (by omega) (Nat.le_of_ble_eq_true rfl) (by show 2632 + Int.toNat 144 ≤ 2920; omega) dMO_init_76 (fun q76 => ?_)
  refine tt_nrm (k := 9) (n := 2776) (ws' := [(b, .inr (5, [.int (iZ 0), .int (iZ 0), .int (iZ 0), .int (iZ 0), .ref q8, .ref q17, .ref q26, .ref q35, .int (iZ 0), .ref q42, .ref q49, .ref q58, .ref q67, .null, .null])), (q8, aI cI 144 (fun _ => 0)), (q17, aI cI 144 (fun _ => 0)), (q26, aI cI 144 (fun _ => 0)), (q35, aI cZ 144 (fun _ => 0)), (q42, aI cI 4 (fun _ => 0)), (q49, aI cI 4 (fun _ => 0)), (q58, aI cI 1024 (fun _ => 0)), (q67, aI cI 1024 (fun _ => 0)), (q76, aI cI 144 (fun _ => 0))]) (by omega) (by omega) rfl ?_
  refine tt_putF F (fun h => h) inMO tyMO tyMO_ok nmMO 0 rfl rfl 13 (by decide) we711 rfl hnm rfl rfl rfl rfl (show (13 : Nat) + 1 ≤ _ from Nat.le_of_ble_eq_true rfl) dMO_init_78 ?_
  refine tt_nrm (k := 9) (n := 2776) (ws' := [(b, .inr (5, [.int (iZ 0), .int (iZ 0), .int (iZ 0), .int (iZ 0), .ref q8, .ref q17, .ref q26, .ref q35, .int (iZ 0), .ref q42, .ref q49, .ref q58, .ref q67, .ref q76, .null])), (q8, aI cI 144 (fun _ => 0)), (q17, aI cI 144 (fun _ => 0)), (q26, aI cI 144 (fun _ => 0)), (q35, aI cZ 144 (fun _ => 0)), (q42, aI cI 4 (fun _ => 0)), (q49, aI cI 4 (fun _ => 0)), (q58, aI cI 1024 (fun _ => 0)), (q67, aI cI 1024 (fun _ => 0)), (q76, aI cI 144 (fun _ => 0))]) (by omega) (by omega) rfl ?_
  refine tt_aload_n F 0 rfl rfl dMO_init_81 ?_
  refine tt_sipush F (by decide) dMO_init_82 ?_
  refine tt_newZ F (fun h => h) we285 (by omega) (by omega) (Nat.le_of_ble_eq_true rfl) (by show 2776 + Int.toNat 144 ≤ 2920; omega) dMO_init_85 (fun q85 => ?_)
  refine tt_nrm (k := 10) (n := 2920) (ws' := [(b, .inr (5, [.int (iZ 0), .int (iZ 0), .int (iZ 0), .int (iZ 0), .ref q8, .ref q17, .ref q26, .ref q35, .int (iZ 0), .ref q42, .ref q49, .ref q58, .ref q67, .ref q76, .null])), (q8, aI cI 144 (fun _ => 0)), (q17, aI cI 144 (fun _ => 0)), (q26, aI cI 144 (fun _ => 0)), (q35, aI cZ 144 (fun _ => 0)), (q42, aI cI 4 (fun _ => 0)), (q49, aI cI 4 (fun _ => 0)), (q58, aI cI 1024 (fun _ => 0)), (q67, aI cI 1024 (fun _ => 0)), (q76, aI cI 144 (fun _ => 0)), (q85, aI cZ 144 (fun _ => 0))]) (by omega) (by omega) rfl ?_
  refine tt_putF F (fun h => h) inMO tyMO tyMO_ok nmMO 0 rfl rfl 14 (by decide) we712 rfl hnm rfl rfl rfl rfl (show (14 : Nat) + 1 ≤ _ from Nat.le_of_ble_eq_true rfl) dMO_init_87 ?_
  refine tt_nrm (k := 10) (n := 2920) (ws' := [(b, .inr (5, [.int (iZ 0), .int (iZ 0), .int (iZ 0), .int (iZ 0), .ref q8, .ref q17, .ref q26, .ref q35, .int (iZ 0), .ref q42, .ref q49, .ref q58, .ref q67, .ref q76, .ref q85])), (q8, aI cI 144 (fun _ => 0)), (q17, aI cI 144 (fun _ => 0)), (q26, aI cI 144 (fun _ => 0)), (q35, aI cZ 144 (fun _ => 0)), (q42, aI cI 4 (fun _ => 0)), (q49, aI cI 4 (fun _ => 0)), (q58, aI cI 1024 (fun _ => 0)), (q67, aI cI 1024 (fun _ => 0)), (q76, aI cI 144 (fun _ => 0)), (q85, aI cZ 144 (fun _ => 0))]) (by omega) (by omega) rfl ?_
  refine tt_aload_n F 0 rfl rfl dMO_init_90 ?_
  refine tt_iload_n F 1 rfl rfl dMO_init_91 ?_
  refine tt_bipush F (by decide) dMO_init_92 ?_
  refine tt_cOS F (As := [.int (iZ x), .int (iZ 12)]) [] (o_nearest (by omega) (by omega)) (va_cwS 2 F.1.2.2.2.2 (gw_S wd695 wd696 wd53 wd697) rfl rfl rfl (by decide +kernel) ⟨(Nat.le_of_ble_eq_true rfl), (Nat.le_of_ble_eq_true rfl)⟩) rfl rfl rfl (Nat.le_of_ble_eq_true rfl) ⟨(Nat.le_of_ble_eq_true rfl), (Nat.le_of_ble_eq_true rfl)⟩ dMO_init_94 (fun v94 hp => ?_)
  obtain ⟨z94, rfl, hz94⟩ := hp
  refine tt_putF F (fun h => h) inMO tyMO tyMO_ok nmMO 0 rfl rfl 1 (by decide) we699 rfl hnm rfl rfl rfl rfl (show (1 : Nat) + 1 ≤ _ from Nat.le_of_ble_eq_true rfl) dMO_init_97 ?_
  refine tt_nrm (k := 10) (n := 2920) (ws' := [(b, .inr (5, [.int (iZ 0), .int (iZ z94), .int (iZ 0), .int (iZ 0), .ref q8, .ref q17, .ref q26, .ref q35, .int (iZ 0), .ref q42, .ref q49, .ref q58, .ref q67, .ref q76, .ref q85])), (q8, aI cI 144 (fun _ => 0)), (q17, aI cI 144 (fun _ => 0)), (q26, aI cI 144 (fun _ => 0)), (q35, aI cZ 144 (fun _ => 0)), (q42, aI cI 4 (fun _ => 0)), (q49, aI cI 4 (fun _ => 0)), (q58, aI cI 1024 (fun _ => 0)), (q67, aI cI 1024 (fun _ => 0)), (q76, aI cI 144 (fun _ => 0)), (q85, aI cZ 144 (fun _ => 0))]) (by omega) (by omega) rfl ?_
  refine tt_aload_n F 0 rfl rfl dMO_init_100 ?_
  refine tt_iload_n F 2 rfl rfl dMO_init_101 ?_
  refine tt_bipush F (by decide) dMO_init_102 ?_
  refine tt_cOS F (As := [.int (iZ y), .int (iZ 12)]) [] (o_nearest (by omega) (by omega)) (va_cwS 2 F.1.2.2.2.2 (gw_S wd695 wd696 wd53 wd697) rfl rfl rfl (by decide +kernel) ⟨(Nat.le_of_ble_eq_true rfl), (Nat.le_of_ble_eq_true rfl)⟩) rfl rfl rfl (Nat.le_of_ble_eq_true rfl) ⟨(Nat.le_of_ble_eq_true rfl), (Nat.le_of_ble_eq_true rfl)⟩ dMO_init_104 (fun v104 hp => ?_)
  obtain ⟨z104, rfl, hz104⟩ := hp
  refine tt_putF F (fun h => h) inMO tyMO tyMO_ok nmMO 0 rfl rfl 2 (by decide) we700 rfl hnm rfl rfl rfl rfl (show (2 : Nat) + 1 ≤ _ from Nat.le_of_ble_eq_true rfl) dMO_init_107 ?_
  refine tt_nrm (k := 10) (n := 2920) (ws' := [(b, .inr (5, [.int (iZ 0), .int (iZ z94), .int (iZ z104), .int (iZ 0), .ref q8, .ref q17, .ref q26, .ref q35, .int (iZ 0), .ref q42, .ref q49, .ref q58, .ref q67, .ref q76, .ref q85])), (q8, aI cI 144 (fun _ => 0)), (q17, aI cI 144 (fun _ => 0)), (q26, aI cI 144 (fun _ => 0)), (q35, aI cZ 144 (fun _ => 0)), (q42, aI cI 4 (fun _ => 0)), (q49, aI cI 4 (fun _ => 0)), (q58, aI cI 1024 (fun _ => 0)), (q67, aI cI 1024 (fun _ => 0)), (q76, aI cI 144 (fun _ => 0)), (q85, aI cZ 144 (fun _ => 0))]) (by omega) (by omega) rfl ?_
  refine tt_aload_n F 0 rfl rfl dMO_init_110 ?_
  refine tt_iload_n F 3 rfl rfl dMO_init_111 ?_
  refine tt_bipush F (by decide) dMO_init_112 ?_
  refine tt_cOS F (As := [.int (iZ z), .int (iZ 10)]) [] (o_nearest (by omega) (by omega)) (va_cwS 2 F.1.2.2.2.2 (gw_S wd695 wd696 wd53 wd697) rfl rfl rfl (by decide +kernel) ⟨(Nat.le_of_ble_eq_true rfl), (Nat.le_of_ble_eq_true rfl)⟩) rfl rfl rfl (Nat.le_of_ble_eq_true rfl) ⟨(Nat.le_of_ble_eq_true rfl), (Nat.le_of_ble_eq_true rfl)⟩ dMO_init_114 (fun v114 hp => ?_)
  obtain ⟨z114, rfl, hz114⟩ := hp
  refine tt_putF F (fun h => h) inMO tyMO tyMO_ok nmMO 0 rfl rfl 3 (by decide) we701 rfl hnm rfl rfl rfl rfl (show (3 : Nat) + 1 ≤ _ from Nat.le_of_ble_eq_true rfl) dMO_init_117 ?_
  refine tt_nrm (k := 10) (n := 2920) (ws' := [(b, .inr (5, [.int (iZ 0), .int (iZ z94), .int (iZ z104), .int (iZ z114), .ref q8, .ref q17, .ref q26, .ref q35, .int (iZ 0), .ref q42, .ref q49, .ref q58, .ref q67, .ref q76, .ref q85])), (q8, aI cI 144 (fun _ => 0)), (q17, aI cI 144 (fun _ => 0)), (q26, aI cI 144 (fun _ => 0)), (q35, aI cZ 144 (fun _ => 0)), (q42, aI cI 4 (fun _ => 0)), (q49, aI cI 4 (fun _ => 0)), (q58, aI cI 1024 (fun _ => 0)), (q67, aI cI 1024 (fun _ => 0)), (q76, aI cI 144 (fun _ => 0)), (q85, aI cZ 144 (fun _ => 0))]) (by omega) (by omega) rfl ?_
  exact tt_vret F rfl (Nat.le_of_ble_eq_true rfl) (Nat.le_of_ble_eq_true rfl) dMO_init_120 ⟨fun k => [b, q8, q17, q26, q35, q42, q49, q58, q67, q76, q85].getD k 0, z94, z104, z114, rfl, rfl, hz94, hz104, hz114⟩
abbrev rmMO_thrown : Room := { frames := 0, cells := 0, slots := 0, locals := 0 }
set_option maxHeartbeats 4000000 in
set_option maxRecDepth 100000 in
theorem o_thrown   : CO l D vwCl cI cZ cJ SL yMO_thrown wsMO_thrown rmMO_thrown [.ref (ad 0)] (mW cI cZ ad W D_ r hM rM tM wM mp mk wh sM hi vS cd mn) (fun v => v = some (.int (iZ cd))) := by
  refine tt_startO (by decide) rfl (Nat.le_of_ble_eq_true rfl) ?_
  intro p e s m args below meth c hnm F
  refine tt_aload_n F 0 rfl rfl dMO_thrown_0 ?_
  refine tt_get F inMO 0 rfl rfl 0 (by decide) we698 rfl dMO_thrown_1 ?_
  exact tt_iretO F rfl dMO_thrown_4 (rfl)
abbrev rmMO_height : Room := { frames := 2, cells := 0, slots := 0, locals := 44 }
set_option maxHeartbeats 4000000 in
set_option maxRecDepth 100000 in
theorem c_heightM {x y v_ : Int} (hg : 1 ≤ W ∧ W ≤ 12 ∧ 1 ≤ D_ ∧ D_ ≤ 12 ∧ 1 ≤ r ∧ r ≤ 10) (hp : (0 ≤ x ∧ x < W) ∧ 0 ≤ y ∧ y < D_) (hv : 0 ≤ v_ ∧ v_ ≤ 200) : CI l D vwCl cI cZ cJ SL yMO_height wsMO_height rmMO_height [.ref (ad 0), .int (iZ x), .int (iZ y), .int (iZ v_)] (mW cI cZ ad W D_ r hM rM tM wM mp mk wh sM hi vS cd mn) (fun z w1 => z = hM (12 * y + x) ∧ w1 = (mW cI cZ ad W D_ r (zu hM (12 * y + x) v_) rM tM wM mp mk wh sM hi vS 0 mn)) := by
  refine tt_startI (by decide) rfl (Nat.le_of_ble_eq_true rfl) ?_
  intro p e s m args below meth c hnm F
  obtain ⟨hW1, hW2, hD1, hD2, hr1, hr2⟩ := id hg
  refine tt_aload_n F 0 rfl rfl dMO_height_0 ?_
  refine tt_aload_n F 0 rfl rfl dMO_height_1 ?_
  refine tt_iload_n F 1 rfl rfl dMO_height_2 ?_
  refine tt_iload_n F 2 rfl rfl dMO_height_3 ?_
  refine tt_cOV F (As := [.int (iZ x), .int (iZ y)]) [] 0 rfl rfl (o_isPoint (hM := hM) (rM := rM) (tM := tM) (wM := wM) (mp := mp) (mk := mk) (wh := wh) (sM := sM) (hi := hi) (vS := vS) (cd := cd) (mn := mn) hg (by omega) (by omega)) (cwV 2 F.1.2.2.2.2 (gw_V wd752 wd754 wd29 wd53 wd755) rfl rfl rfl (by decide +kernel) ⟨(Nat.le_of_ble_eq_true rfl), (Nat.le_of_ble_eq_true rfl)⟩) rfl rfl rfl (Nat.le_of_ble_eq_true rfl) ⟨(Nat.le_of_ble_eq_true rfl), (Nat.le_of_ble_eq_true rfl)⟩ dMO_height_4 (fun v4 hp => ?_)
  obtain ⟨z4, rfl, hz4⟩ := hp
  have hb4 := zb_b hz4
  refine tt_if_eq F 25 ⟨by omega, by omega⟩ dMO_height_7 (by decide) (fun c7 => ?_) (fun c7 => ?_)
  · skip
    exfalso; omega
  · skip
    refine tt_iload_n F 3 rfl rfl dMO_height_10 ?_
    refine tt_iconst F dMO_height_11 ?_
    refine tt_sipush F (by decide) dMO_height_12 ?_
    refine tt_cOS F (As := [.int (iZ v_), .int (iZ 0), .int (iZ 200)]) [] (o_in (by omega) (by omega) (by omega)) (va_cwS 3 F.1.2.2.2.2 (gw_S wd756 wd757 wd53 wd758) rfl rfl rfl (by decide +kernel) ⟨(Nat.le_of_ble_eq_true rfl), (Nat.le_of_ble_eq_true rfl)⟩) rfl rfl rfl (Nat.le_of_ble_eq_true rfl) ⟨(Nat.le_of_ble_eq_true rfl), (Nat.le_of_ble_eq_true rfl)⟩ dMO_height_15 (fun v15 hp => ?_)
    obtain ⟨z15, rfl, hz15⟩ := hp
    have hb15 := zb_b hz15
    refine tt_if_eq F 25 ⟨by omega, by omega⟩ dMO_height_18 (by decide) (fun c18 => ?_) (fun c18 => ?_)
    · skip
      exfalso; omega
    · skip
      refine tt_iconst F dMO_height_21 ?_
      refine tt_goto F 26 (by decide) dMO_height_22 ?_
      refine tt_put F (fun h => h) inMO tyMO tyMO_ok nmMO 0 rfl rfl 0 (by decide) we698 rfl rfl rfl rfl (show (0 : Nat) + 1 ≤ _ from Nat.le_of_ble_eq_true rfl) dMO_height_26 ?_
      refine tt_aload_n F 0 rfl rfl dMO_height_29 ?_
      refine tt_get F inMO 0 rfl rfl 0 (by decide) we698 rfl dMO_height_30 ?_
      refine tt_if_le F 38 ⟨by omega, by omega⟩ dMO_height_33 (by decide) (fun c33 => ?_) (fun c33 => ?_)
      · skip
        refine tt_aload_n F 0 rfl rfl dMO_height_38 ?_
        refine tt_get F inMO 0 rfl rfl 4 (by decide) we702 rfl dMO_height_39 ?_
        refine tt_iload_n F 1 rfl rfl dMO_height_42 ?_
        refine tt_iload_n F 2 rfl rfl dMO_height_43 ?_
        refine tt_cOS F (As := [.int (iZ x), .int (iZ y)]) [] o_spot (va_cwS 2 F.1.2.2.2.2 (gw_S wd759 wd760 wd53 wd761) rfl rfl rfl (by decide +kernel) ⟨(Nat.le_of_ble_eq_true rfl), (Nat.le_of_ble_eq_true rfl)⟩) rfl rfl rfl (Nat.le_of_ble_eq_true rfl) ⟨(Nat.le_of_ble_eq_true rfl), (Nat.le_of_ble_eq_true rfl)⟩ dMO_height_44 (fun v44 hp => ?_)
        subst hp
        refine tt_iald F 1 rfl (by omega) (by omega) (by omega) dMO_height_47 ?_
        refine tt_istore F [(4, .int (iZ (hM (12 * y + x)))), (0, .ref (ad 0)), (1, .int (iZ x)), (2, .int (iZ y)), (3, .int (iZ v_))] (by decide) rfl dMO_height_48 ?_
        refine tt_aload_n F 1 rfl rfl dMO_height_50 ?_
        refine tt_get F inMO 0 rfl rfl 4 (by decide) we702 rfl dMO_height_51 ?_
        refine tt_iload_n F 2 rfl rfl dMO_height_54 ?_
        refine tt_iload_n F 3 rfl rfl dMO_height_55 ?_
        refine tt_cOS F (As := [.int (iZ x), .int (iZ y)]) [] o_spot (va_cwS 2 F.1.2.2.2.2 (gw_S wd759 wd760 wd53 wd761) rfl rfl rfl (by decide +kernel) ⟨(Nat.le_of_ble_eq_true rfl), (Nat.le_of_ble_eq_true rfl)⟩) rfl rfl rfl (Nat.le_of_ble_eq_true rfl) ⟨(Nat.le_of_ble_eq_true rfl), (Nat.le_of_ble_eq_true rfl)⟩ dMO_height_56 (fun v56 hp => ?_)
        subst hp
        refine tt_iload_n F 4 rfl rfl dMO_height_59 ?_
        refine tt_iast F (fun h => h) 1 rfl (by omega) (by omega) (by omega) dMO_height_60 ?_
        refine tt_iload F 0 rfl dMO_height_61 ?_
        exact tt_iret F rfl (Nat.le_of_ble_eq_true rfl) (Nat.le_of_ble_eq_true rfl) dMO_height_63 ⟨rfl, rfl⟩
      · skip
        exact absurd c33 (by omega)
set_option maxHeartbeats 4000000 in
set_option maxRecDepth 100000 in
theorem n_heightM {x y v_ : Int} (hg : 1 ≤ W ∧ W ≤ 12 ∧ 1 ≤ D_ ∧ D_ ≤ 12 ∧ 1 ≤ r ∧ r ≤ 10) (hx : ir x) (hy : ir y) (hv : ir v_) (h : ¬ (((0 ≤ x ∧ x < W) ∧ 0 ≤ y ∧ y < D_) ∧ 0 ≤ v_ ∧ v_ ≤ 200)) : CI l D vwCl cI cZ cJ SL yMO_height wsMO_height rmMO_height [.ref (ad 0), .int (iZ x), .int (iZ y), .int (iZ v_)] (mW cI cZ ad W D_ r hM rM tM wM mp mk wh sM hi vS cd mn) (fun z w1 => w1 = (mW cI cZ ad W D_ r hM rM tM wM mp mk wh sM hi vS 1 mn)) := by
  refine tt_startI (by decide) rfl (Nat.le_of_ble_eq_true rfl) ?_
  intro p e s m args below meth c hnm F
  obtain ⟨hW1, hW2, hD1, hD2, hr1, hr2⟩ := id hg
  refine tt_aload_n F 0 rfl rfl dMO_height_0 ?_
  refine tt_aload_n F 0 rfl rfl dMO_height_1 ?_
  refine tt_iload_n F 1 rfl rfl dMO_height_2 ?_
  refine tt_iload_n F 2 rfl rfl dMO_height_3 ?_
  refine tt_cOV F (As := [.int (iZ x), .int (iZ y)]) [] 0 rfl rfl (o_isPoint (hM := hM) (rM := rM) (tM := tM) (wM := wM) (mp := mp) (mk := mk) (wh := wh) (sM := sM) (hi := hi) (vS := vS) (cd := cd) (mn := mn) hg (by omega) (by omega)) (cwV 2 F.1.2.2.2.2 (gw_V wd752 wd754 wd29 wd53 wd755) rfl rfl rfl (by decide +kernel) ⟨(Nat.le_of_ble_eq_true rfl), (Nat.le_of_ble_eq_true rfl)⟩) rfl rfl rfl (Nat.le_of_ble_eq_true rfl) ⟨(Nat.le_of_ble_eq_true rfl), (Nat.le_of_ble_eq_true rfl)⟩ dMO_height_4 (fun v4 hp => ?_)
  obtain ⟨z4, rfl, hz4⟩ := hp
  have hb4 := zb_b hz4
  refine tt_if_eq F 25 ⟨by omega, by omega⟩ dMO_height_7 (by decide) (fun c7 => ?_) (fun c7 => ?_)
  · skip
    refine tt_iconst F dMO_height_25 ?_
    refine tt_put F (fun h => h) inMO tyMO tyMO_ok nmMO 0 rfl rfl 0 (by decide) we698 rfl rfl rfl rfl (show (0 : Nat) + 1 ≤ _ from Nat.le_of_ble_eq_true rfl) dMO_height_26 ?_
    refine tt_aload_n F 0 rfl rfl dMO_height_29 ?_
    refine tt_get F inMO 0 rfl rfl 0 (by decide) we698 rfl dMO_height_30 ?_
    refine tt_if_le F 38 ⟨by omega, by omega⟩ dMO_height_33 (by decide) (fun c33 => ?_) (fun c33 => ?_)
    · skip
      exact absurd c33 (by omega)
    · skip
      refine tt_iconst F dMO_height_36 ?_
      exact tt_iret F rfl (Nat.le_of_ble_eq_true rfl) (Nat.le_of_ble_eq_true rfl) dMO_height_37 rfl
  · skip
    refine tt_iload_n F 3 rfl rfl dMO_height_10 ?_
    refine tt_iconst F dMO_height_11 ?_
    refine tt_sipush F (by decide) dMO_height_12 ?_
    refine tt_cOS F (As := [.int (iZ v_), .int (iZ 0), .int (iZ 200)]) [] (o_in (by omega) (by omega) (by omega)) (va_cwS 3 F.1.2.2.2.2 (gw_S wd756 wd757 wd53 wd758) rfl rfl rfl (by decide +kernel) ⟨(Nat.le_of_ble_eq_true rfl), (Nat.le_of_ble_eq_true rfl)⟩) rfl rfl rfl (Nat.le_of_ble_eq_true rfl) ⟨(Nat.le_of_ble_eq_true rfl), (Nat.le_of_ble_eq_true rfl)⟩ dMO_height_15 (fun v15 hp => ?_)
    obtain ⟨z15, rfl, hz15⟩ := hp
    have hb15 := zb_b hz15
    refine tt_if_eq F 25 ⟨by omega, by omega⟩ dMO_height_18 (by decide) (fun c18 => ?_) (fun c18 => ?_)
    · skip
      refine tt_iconst F dMO_height_25 ?_
      refine tt_put F (fun h => h) inMO tyMO tyMO_ok nmMO 0 rfl rfl 0 (by decide) we698 rfl rfl rfl rfl (show (0 : Nat) + 1 ≤ _ from Nat.le_of_ble_eq_true rfl) dMO_height_26 ?_
      refine tt_aload_n F 0 rfl rfl dMO_height_29 ?_
      refine tt_get F inMO 0 rfl rfl 0 (by decide) we698 rfl dMO_height_30 ?_
      refine tt_if_le F 38 ⟨by omega, by omega⟩ dMO_height_33 (by decide) (fun c33 => ?_) (fun c33 => ?_)
      · skip
        exact absurd c33 (by omega)
      · skip
        refine tt_iconst F dMO_height_36 ?_
        exact tt_iret F rfl (Nat.le_of_ble_eq_true rfl) (Nat.le_of_ble_eq_true rfl) dMO_height_37 rfl
    · skip
      exact (h (by omega)).elim
abbrev rmMO_rod : Room := { frames := 2, cells := 0, slots := 0, locals := 44 }
set_option maxHeartbeats 4000000 in
set_option maxRecDepth 100000 in
theorem c_rodM {x y v_ : Int} (hg : 1 ≤ W ∧ W ≤ 12 ∧ 1 ≤ D_ ∧ D_ ≤ 12 ∧ 1 ≤ r ∧ r ≤ 10) (hp : (0 ≤ x ∧ x < W) ∧ 0 ≤ y ∧ y < D_) (hv : 0 ≤ v_ ∧ v_ ≤ 50) : CI l D vwCl cI cZ cJ SL yMO_rod wsMO_rod rmMO_rod [.ref (ad 0), .int (iZ x), .int (iZ y), .int (iZ v_)] (mW cI cZ ad W D_ r hM rM tM wM mp mk wh sM hi vS cd mn) (fun z w1 => z = rM (12 * y + x) ∧ w1 = (mW cI cZ ad W D_ r hM (zu rM (12 * y + x) v_) tM wM mp mk wh sM hi vS 0 mn)) := by
  refine tt_startI (by decide) rfl (Nat.le_of_ble_eq_true rfl) ?_
  intro p e s m args below meth c hnm F
  obtain ⟨hW1, hW2, hD1, hD2, hr1, hr2⟩ := id hg
  refine tt_aload_n F 0 rfl rfl dMO_rod_0 ?_
  refine tt_aload_n F 0 rfl rfl dMO_rod_1 ?_
  refine tt_iload_n F 1 rfl rfl dMO_rod_2 ?_
  refine tt_iload_n F 2 rfl rfl dMO_rod_3 ?_
  refine tt_cOV F (As := [.int (iZ x), .int (iZ y)]) [] 0 rfl rfl (o_isPoint (hM := hM) (rM := rM) (tM := tM) (wM := wM) (mp := mp) (mk := mk) (wh := wh) (sM := sM) (hi := hi) (vS := vS) (cd := cd) (mn := mn) hg (by omega) (by omega)) (cwV 2 F.1.2.2.2.2 (gw_V wd752 wd754 wd29 wd53 wd755) rfl rfl rfl (by decide +kernel) ⟨(Nat.le_of_ble_eq_true rfl), (Nat.le_of_ble_eq_true rfl)⟩) rfl rfl rfl (Nat.le_of_ble_eq_true rfl) ⟨(Nat.le_of_ble_eq_true rfl), (Nat.le_of_ble_eq_true rfl)⟩ dMO_rod_4 (fun v4 hp => ?_)
  obtain ⟨z4, rfl, hz4⟩ := hp
  have hb4 := zb_b hz4
  refine tt_if_eq F 24 ⟨by omega, by omega⟩ dMO_rod_7 (by decide) (fun c7 => ?_) (fun c7 => ?_)
  · skip
    exfalso; omega
  · skip
    refine tt_iload_n F 3 rfl rfl dMO_rod_10 ?_
    refine tt_iconst F dMO_rod_11 ?_
    refine tt_bipush F (by decide) dMO_rod_12 ?_
    refine tt_cOS F (As := [.int (iZ v_), .int (iZ 0), .int (iZ 50)]) [] (o_in (by omega) (by omega) (by omega)) (va_cwS 3 F.1.2.2.2.2 (gw_S wd756 wd757 wd53 wd758) rfl rfl rfl (by decide +kernel) ⟨(Nat.le_of_ble_eq_true rfl), (Nat.le_of_ble_eq_true rfl)⟩) rfl rfl rfl (Nat.le_of_ble_eq_true rfl) ⟨(Nat.le_of_ble_eq_true rfl), (Nat.le_of_ble_eq_true rfl)⟩ dMO_rod_14 (fun v14 hp => ?_)
    obtain ⟨z14, rfl, hz14⟩ := hp
    have hb14 := zb_b hz14
    refine tt_if_eq F 24 ⟨by omega, by omega⟩ dMO_rod_17 (by decide) (fun c17 => ?_) (fun c17 => ?_)
    · skip
      exfalso; omega
    · skip
      refine tt_iconst F dMO_rod_20 ?_
      refine tt_goto F 25 (by decide) dMO_rod_21 ?_
      refine tt_put F (fun h => h) inMO tyMO tyMO_ok nmMO 0 rfl rfl 0 (by decide) we698 rfl rfl rfl rfl (show (0 : Nat) + 1 ≤ _ from Nat.le_of_ble_eq_true rfl) dMO_rod_25 ?_
      refine tt_aload_n F 0 rfl rfl dMO_rod_28 ?_
      refine tt_get F inMO 0 rfl rfl 0 (by decide) we698 rfl dMO_rod_29 ?_
      refine tt_if_le F 37 ⟨by omega, by omega⟩ dMO_rod_32 (by decide) (fun c32 => ?_) (fun c32 => ?_)
      · skip
        refine tt_aload_n F 0 rfl rfl dMO_rod_37 ?_
        refine tt_get F inMO 0 rfl rfl 5 (by decide) we703 rfl dMO_rod_38 ?_
        refine tt_iload_n F 1 rfl rfl dMO_rod_41 ?_
        refine tt_iload_n F 2 rfl rfl dMO_rod_42 ?_
        refine tt_cOS F (As := [.int (iZ x), .int (iZ y)]) [] o_spot (va_cwS 2 F.1.2.2.2.2 (gw_S wd759 wd760 wd53 wd761) rfl rfl rfl (by decide +kernel) ⟨(Nat.le_of_ble_eq_true rfl), (Nat.le_of_ble_eq_true rfl)⟩) rfl rfl rfl (Nat.le_of_ble_eq_true rfl) ⟨(Nat.le_of_ble_eq_true rfl), (Nat.le_of_ble_eq_true rfl)⟩ dMO_rod_43 (fun v43 hp => ?_)
        subst hp
        refine tt_iald F 2 rfl (by omega) (by omega) (by omega) dMO_rod_46 ?_
        refine tt_istore F [(4, .int (iZ (rM (12 * y + x)))), (0, .ref (ad 0)), (1, .int (iZ x)), (2, .int (iZ y)), (3, .int (iZ v_))] (by decide) rfl dMO_rod_47 ?_
        refine tt_aload_n F 1 rfl rfl dMO_rod_49 ?_
        refine tt_get F inMO 0 rfl rfl 5 (by decide) we703 rfl dMO_rod_50 ?_
        refine tt_iload_n F 2 rfl rfl dMO_rod_53 ?_
        refine tt_iload_n F 3 rfl rfl dMO_rod_54 ?_
        refine tt_cOS F (As := [.int (iZ x), .int (iZ y)]) [] o_spot (va_cwS 2 F.1.2.2.2.2 (gw_S wd759 wd760 wd53 wd761) rfl rfl rfl (by decide +kernel) ⟨(Nat.le_of_ble_eq_true rfl), (Nat.le_of_ble_eq_true rfl)⟩) rfl rfl rfl (Nat.le_of_ble_eq_true rfl) ⟨(Nat.le_of_ble_eq_true rfl), (Nat.le_of_ble_eq_true rfl)⟩ dMO_rod_55 (fun v55 hp => ?_)
        subst hp
        refine tt_iload_n F 4 rfl rfl dMO_rod_58 ?_
        refine tt_iast F (fun h => h) 2 rfl (by omega) (by omega) (by omega) dMO_rod_59 ?_
        refine tt_iload F 0 rfl dMO_rod_60 ?_
        exact tt_iret F rfl (Nat.le_of_ble_eq_true rfl) (Nat.le_of_ble_eq_true rfl) dMO_rod_62 ⟨rfl, rfl⟩
      · skip
        exact absurd c32 (by omega)
set_option maxHeartbeats 4000000 in
set_option maxRecDepth 100000 in
theorem n_rodM {x y v_ : Int} (hg : 1 ≤ W ∧ W ≤ 12 ∧ 1 ≤ D_ ∧ D_ ≤ 12 ∧ 1 ≤ r ∧ r ≤ 10) (hx : ir x) (hy : ir y) (hv : ir v_) (h : ¬ (((0 ≤ x ∧ x < W) ∧ 0 ≤ y ∧ y < D_) ∧ 0 ≤ v_ ∧ v_ ≤ 50)) : CI l D vwCl cI cZ cJ SL yMO_rod wsMO_rod rmMO_rod [.ref (ad 0), .int (iZ x), .int (iZ y), .int (iZ v_)] (mW cI cZ ad W D_ r hM rM tM wM mp mk wh sM hi vS cd mn) (fun z w1 => w1 = (mW cI cZ ad W D_ r hM rM tM wM mp mk wh sM hi vS 1 mn)) := by
  refine tt_startI (by decide) rfl (Nat.le_of_ble_eq_true rfl) ?_
  intro p e s m args below meth c hnm F
  obtain ⟨hW1, hW2, hD1, hD2, hr1, hr2⟩ := id hg
  refine tt_aload_n F 0 rfl rfl dMO_rod_0 ?_
  refine tt_aload_n F 0 rfl rfl dMO_rod_1 ?_
  refine tt_iload_n F 1 rfl rfl dMO_rod_2 ?_
  refine tt_iload_n F 2 rfl rfl dMO_rod_3 ?_
  refine tt_cOV F (As := [.int (iZ x), .int (iZ y)]) [] 0 rfl rfl (o_isPoint (hM := hM) (rM := rM) (tM := tM) (wM := wM) (mp := mp) (mk := mk) (wh := wh) (sM := sM) (hi := hi) (vS := vS) (cd := cd) (mn := mn) hg (by omega) (by omega)) (cwV 2 F.1.2.2.2.2 (gw_V wd752 wd754 wd29 wd53 wd755) rfl rfl rfl (by decide +kernel) ⟨(Nat.le_of_ble_eq_true rfl), (Nat.le_of_ble_eq_true rfl)⟩) rfl rfl rfl (Nat.le_of_ble_eq_true rfl) ⟨(Nat.le_of_ble_eq_true rfl), (Nat.le_of_ble_eq_true rfl)⟩ dMO_rod_4 (fun v4 hp => ?_)
  obtain ⟨z4, rfl, hz4⟩ := hp
  have hb4 := zb_b hz4
  refine tt_if_eq F 24 ⟨by omega, by omega⟩ dMO_rod_7 (by decide) (fun c7 => ?_) (fun c7 => ?_)
  · skip
    refine tt_iconst F dMO_rod_24 ?_
    refine tt_put F (fun h => h) inMO tyMO tyMO_ok nmMO 0 rfl rfl 0 (by decide) we698 rfl rfl rfl rfl (show (0 : Nat) + 1 ≤ _ from Nat.le_of_ble_eq_true rfl) dMO_rod_25 ?_
    refine tt_aload_n F 0 rfl rfl dMO_rod_28 ?_
    refine tt_get F inMO 0 rfl rfl 0 (by decide) we698 rfl dMO_rod_29 ?_
    refine tt_if_le F 37 ⟨by omega, by omega⟩ dMO_rod_32 (by decide) (fun c32 => ?_) (fun c32 => ?_)
    · skip
      exact absurd c32 (by omega)
    · skip
      refine tt_iconst F dMO_rod_35 ?_
      exact tt_iret F rfl (Nat.le_of_ble_eq_true rfl) (Nat.le_of_ble_eq_true rfl) dMO_rod_36 rfl
  · skip
    refine tt_iload_n F 3 rfl rfl dMO_rod_10 ?_
    refine tt_iconst F dMO_rod_11 ?_
    refine tt_bipush F (by decide) dMO_rod_12 ?_
    refine tt_cOS F (As := [.int (iZ v_), .int (iZ 0), .int (iZ 50)]) [] (o_in (by omega) (by omega) (by omega)) (va_cwS 3 F.1.2.2.2.2 (gw_S wd756 wd757 wd53 wd758) rfl rfl rfl (by decide +kernel) ⟨(Nat.le_of_ble_eq_true rfl), (Nat.le_of_ble_eq_true rfl)⟩) rfl rfl rfl (Nat.le_of_ble_eq_true rfl) ⟨(Nat.le_of_ble_eq_true rfl), (Nat.le_of_ble_eq_true rfl)⟩ dMO_rod_14 (fun v14 hp => ?_)
    obtain ⟨z14, rfl, hz14⟩ := hp
    have hb14 := zb_b hz14
    refine tt_if_eq F 24 ⟨by omega, by omega⟩ dMO_rod_17 (by decide) (fun c17 => ?_) (fun c17 => ?_)
    · skip
      refine tt_iconst F dMO_rod_24 ?_
      refine tt_put F (fun h => h) inMO tyMO tyMO_ok nmMO 0 rfl rfl 0 (by decide) we698 rfl rfl rfl rfl (show (0 : Nat) + 1 ≤ _ from Nat.le_of_ble_eq_true rfl) dMO_rod_25 ?_
      refine tt_aload_n F 0 rfl rfl dMO_rod_28 ?_
      refine tt_get F inMO 0 rfl rfl 0 (by decide) we698 rfl dMO_rod_29 ?_
      refine tt_if_le F 37 ⟨by omega, by omega⟩ dMO_rod_32 (by decide) (fun c32 => ?_) (fun c32 => ?_)
      · skip
        exact absurd c32 (by omega)
      · skip
        refine tt_iconst F dMO_rod_35 ?_
        exact tt_iret F rfl (Nat.le_of_ble_eq_true rfl) (Nat.le_of_ble_eq_true rfl) dMO_rod_36 rfl
    · skip
      exact (h (by omega)).elim
abbrev rmMO_may : Room := { frames := 2, cells := 0, slots := 0, locals := 44 }
set_option maxHeartbeats 4000000 in
set_option maxRecDepth 100000 in
theorem c_mayM {x y v_ : Int} (hg : 1 ≤ W ∧ W ≤ 12 ∧ 1 ≤ D_ ∧ D_ ≤ 12 ∧ 1 ≤ r ∧ r ≤ 10) (hp : (0 ≤ x ∧ x < W) ∧ 0 ≤ y ∧ y < D_) (hv : 1 ≤ v_ ∧ v_ ≤ 50) (hn : 0 ≤ mn ∧ mn < 4) : CI l D vwCl cI cZ cJ SL yMO_may wsMO_may rmMO_may [.ref (ad 0), .int (iZ x), .int (iZ y), .int (iZ v_)] (mW cI cZ ad W D_ r hM rM tM wM mp mk wh sM hi vS cd mn) (fun z w1 => z = mn + 1 ∧ w1 = (mW cI cZ ad W D_ r hM rM tM wM (zu mp mn (12 * y + x)) (zu mk mn v_) wh sM hi vS 0 (mn + 1))) := by
  refine tt_startI (by decide) rfl (Nat.le_of_ble_eq_true rfl) ?_
  intro p e s m args below meth c hnm F
  obtain ⟨hW1, hW2, hD1, hD2, hr1, hr2⟩ := id hg
  refine tt_aload_n F 0 rfl rfl dMO_may_0 ?_
  refine tt_aload_n F 0 rfl rfl dMO_may_1 ?_
  refine tt_iload_n F 1 rfl rfl dMO_may_2 ?_
  refine tt_iload_n F 2 rfl rfl dMO_may_3 ?_
  refine tt_cOV F (As := [.int (iZ x), .int (iZ y)]) [] 0 rfl rfl (o_isPoint (hM := hM) (rM := rM) (tM := tM) (wM := wM) (mp := mp) (mk := mk) (wh := wh) (sM := sM) (hi := hi) (vS := vS) (cd := cd) (mn := mn) hg (by omega) (by omega)) (cwV 2 F.1.2.2.2.2 (gw_V wd752 wd754 wd29 wd53 wd755) rfl rfl rfl (by decide +kernel) ⟨(Nat.le_of_ble_eq_true rfl), (Nat.le_of_ble_eq_true rfl)⟩) rfl rfl rfl (Nat.le_of_ble_eq_true rfl) ⟨(Nat.le_of_ble_eq_true rfl), (Nat.le_of_ble_eq_true rfl)⟩ dMO_may_4 (fun v4 hp => ?_)
  obtain ⟨z4, rfl, hz4⟩ := hp
  have hb4 := zb_b hz4
  refine tt_if_eq F 20 ⟨by omega, by omega⟩ dMO_may_7 (by decide) (fun c7 => ?_) (fun c7 => ?_)
  · skip
    exfalso; omega
  · skip
    refine tt_iload_n F 3 rfl rfl dMO_may_10 ?_
    refine tt_iconst F dMO_may_11 ?_
    refine tt_bipush F (by decide) dMO_may_12 ?_
    refine tt_cOS F (As := [.int (iZ v_), .int (iZ 1), .int (iZ 50)]) [] (o_in (by omega) (by omega) (by omega)) (va_cwS 3 F.1.2.2.2.2 (gw_S wd756 wd757 wd53 wd758) rfl rfl rfl (by decide +kernel) ⟨(Nat.le_of_ble_eq_true rfl), (Nat.le_of_ble_eq_true rfl)⟩) rfl rfl rfl (Nat.le_of_ble_eq_true rfl) ⟨(Nat.le_of_ble_eq_true rfl), (Nat.le_of_ble_eq_true rfl)⟩ dMO_may_14 (fun v14 hp => ?_)
    obtain ⟨z14, rfl, hz14⟩ := hp
    have hb14 := zb_b hz14
    refine tt_if_ne F 24 ⟨by omega, by omega⟩ dMO_may_17 (by decide) (fun c17 => ?_) (fun c17 => ?_)
    · skip
      refine tt_aload_n F 0 rfl rfl dMO_may_24 ?_
      refine tt_get F inMO 0 rfl rfl 8 (by decide) we706 rfl dMO_may_25 ?_
      refine tt_iconst F dMO_may_28 ?_
      refine tt_icmp_ne F 36 ⟨by omega, by omega⟩ ⟨by omega, by omega⟩ dMO_may_29 (by decide) (fun c29 => ?_) (fun c29 => ?_)
      · skip
        refine tt_iconst F dMO_may_36 ?_
        refine tt_put F (fun h => h) inMO tyMO tyMO_ok nmMO 0 rfl rfl 0 (by decide) we698 rfl rfl rfl rfl (show (0 : Nat) + 1 ≤ _ from Nat.le_of_ble_eq_true rfl) dMO_may_37 ?_
        refine tt_aload_n F 0 rfl rfl dMO_may_40 ?_
        refine tt_get F inMO 0 rfl rfl 0 (by decide) we698 rfl dMO_may_41 ?_
        refine tt_if_le F 49 ⟨by omega, by omega⟩ dMO_may_44 (by decide) (fun c44 => ?_) (fun c44 => ?_)
        · skip
          refine tt_aload_n F 0 rfl rfl dMO_may_49 ?_
          refine tt_get F inMO 0 rfl rfl 9 (by decide) we707 rfl dMO_may_50 ?_
          refine tt_aload_n F 0 rfl rfl dMO_may_53 ?_
          refine tt_get F inMO 0 rfl rfl 8 (by decide) we706 rfl dMO_may_54 ?_
          refine tt_iload_n F 1 rfl rfl dMO_may_57 ?_
          refine tt_iload_n F 2 rfl rfl dMO_may_58 ?_
          refine tt_cOS F (As := [.int (iZ x), .int (iZ y)]) [] o_spot (va_cwS 2 F.1.2.2.2.2 (gw_S wd759 wd760 wd53 wd761) rfl rfl rfl (by decide +kernel) ⟨(Nat.le_of_ble_eq_true rfl), (Nat.le_of_ble_eq_true rfl)⟩) rfl rfl rfl (Nat.le_of_ble_eq_true rfl) ⟨(Nat.le_of_ble_eq_true rfl), (Nat.le_of_ble_eq_true rfl)⟩ dMO_may_59 (fun v59 hp => ?_)
          subst hp
          refine tt_iast F (fun h => h) 5 rfl (by omega) (by omega) (by omega) dMO_may_62 ?_
          refine tt_aload_n F 0 rfl rfl dMO_may_63 ?_
          refine tt_get F inMO 0 rfl rfl 10 (by decide) we708 rfl dMO_may_64 ?_
          refine tt_aload_n F 0 rfl rfl dMO_may_67 ?_
          refine tt_get F inMO 0 rfl rfl 8 (by decide) we706 rfl dMO_may_68 ?_
          refine tt_iload_n F 3 rfl rfl dMO_may_71 ?_
          refine tt_iast F (fun h => h) 6 rfl (by omega) (by omega) (by omega) dMO_may_72 ?_
          refine tt_aload_n F 0 rfl rfl dMO_may_73 ?_
          refine tt_dup F rfl dMO_may_74 ?_
          refine tt_get F inMO 0 rfl rfl 8 (by decide) we706 rfl dMO_may_75 ?_
          refine tt_iconst F dMO_may_78 ?_
          refine tt_iadd F dMO_may_79 ?_
          refine tt_put F (fun h => h) inMO tyMO tyMO_ok nmMO 0 rfl rfl 8 (by decide) we706 rfl rfl rfl rfl (show (8 : Nat) + 1 ≤ _ from Nat.le_of_ble_eq_true rfl) dMO_may_80 ?_
          refine tt_aload_n F 0 rfl rfl dMO_may_83 ?_
          refine tt_get F inMO 0 rfl rfl 8 (by decide) we706 rfl dMO_may_84 ?_
          exact tt_iret F rfl (Nat.le_of_ble_eq_true rfl) (Nat.le_of_ble_eq_true rfl) dMO_may_87 ⟨rfl, rfl⟩
        · skip
          exact absurd c44 (by omega)
      · skip
        exfalso; omega
    · skip
      exfalso; omega
set_option maxHeartbeats 4000000 in
set_option maxRecDepth 100000 in
theorem n_mayM {x y v_ : Int} (hg : 1 ≤ W ∧ W ≤ 12 ∧ 1 ≤ D_ ∧ D_ ≤ 12 ∧ 1 ≤ r ∧ r ≤ 10) (hx : ir x) (hy : ir y) (hv : ir v_) (h : ¬ (((0 ≤ x ∧ x < W) ∧ 0 ≤ y ∧ y < D_) ∧ 1 ≤ v_ ∧ v_ ≤ 50)) : CI l D vwCl cI cZ cJ SL yMO_may wsMO_may rmMO_may [.ref (ad 0), .int (iZ x), .int (iZ y), .int (iZ v_)] (mW cI cZ ad W D_ r hM rM tM wM mp mk wh sM hi vS cd mn) (fun z w1 => w1 = (mW cI cZ ad W D_ r hM rM tM wM mp mk wh sM hi vS 1 mn)) := by
  refine tt_startI (by decide) rfl (Nat.le_of_ble_eq_true rfl) ?_
  intro p e s m args below meth c hnm F
  obtain ⟨hW1, hW2, hD1, hD2, hr1, hr2⟩ := id hg
  refine tt_aload_n F 0 rfl rfl dMO_may_0 ?_
  refine tt_aload_n F 0 rfl rfl dMO_may_1 ?_
  refine tt_iload_n F 1 rfl rfl dMO_may_2 ?_
  refine tt_iload_n F 2 rfl rfl dMO_may_3 ?_
  refine tt_cOV F (As := [.int (iZ x), .int (iZ y)]) [] 0 rfl rfl (o_isPoint (hM := hM) (rM := rM) (tM := tM) (wM := wM) (mp := mp) (mk := mk) (wh := wh) (sM := sM) (hi := hi) (vS := vS) (cd := cd) (mn := mn) hg (by omega) (by omega)) (cwV 2 F.1.2.2.2.2 (gw_V wd752 wd754 wd29 wd53 wd755) rfl rfl rfl (by decide +kernel) ⟨(Nat.le_of_ble_eq_true rfl), (Nat.le_of_ble_eq_true rfl)⟩) rfl rfl rfl (Nat.le_of_ble_eq_true rfl) ⟨(Nat.le_of_ble_eq_true rfl), (Nat.le_of_ble_eq_true rfl)⟩ dMO_may_4 (fun v4 hp => ?_)
  obtain ⟨z4, rfl, hz4⟩ := hp
  have hb4 := zb_b hz4
  refine tt_if_eq F 20 ⟨by omega, by omega⟩ dMO_may_7 (by decide) (fun c7 => ?_) (fun c7 => ?_)
  · skip
    refine tt_iconst F dMO_may_20 ?_
    refine tt_goto F 37 (by decide) dMO_may_21 ?_
    refine tt_put F (fun h => h) inMO tyMO tyMO_ok nmMO 0 rfl rfl 0 (by decide) we698 rfl rfl rfl rfl (show (0 : Nat) + 1 ≤ _ from Nat.le_of_ble_eq_true rfl) dMO_may_37 ?_
    refine tt_aload_n F 0 rfl rfl dMO_may_40 ?_
    refine tt_get F inMO 0 rfl rfl 0 (by decide) we698 rfl dMO_may_41 ?_
    refine tt_if_le F 49 ⟨by omega, by omega⟩ dMO_may_44 (by decide) (fun c44 => ?_) (fun c44 => ?_)
    · skip
      exact absurd c44 (by omega)
    · skip
      refine tt_iconst F dMO_may_47 ?_
      exact tt_iret F rfl (Nat.le_of_ble_eq_true rfl) (Nat.le_of_ble_eq_true rfl) dMO_may_48 rfl
  · skip
    refine tt_iload_n F 3 rfl rfl dMO_may_10 ?_
    refine tt_iconst F dMO_may_11 ?_
    refine tt_bipush F (by decide) dMO_may_12 ?_
    refine tt_cOS F (As := [.int (iZ v_), .int (iZ 1), .int (iZ 50)]) [] (o_in (by omega) (by omega) (by omega)) (va_cwS 3 F.1.2.2.2.2 (gw_S wd756 wd757 wd53 wd758) rfl rfl rfl (by decide +kernel) ⟨(Nat.le_of_ble_eq_true rfl), (Nat.le_of_ble_eq_true rfl)⟩) rfl rfl rfl (Nat.le_of_ble_eq_true rfl) ⟨(Nat.le_of_ble_eq_true rfl), (Nat.le_of_ble_eq_true rfl)⟩ dMO_may_14 (fun v14 hp => ?_)
    obtain ⟨z14, rfl, hz14⟩ := hp
    have hb14 := zb_b hz14
    refine tt_if_ne F 24 ⟨by omega, by omega⟩ dMO_may_17 (by decide) (fun c17 => ?_) (fun c17 => ?_)
    · skip
      exact (h (by omega)).elim
    · skip
      refine tt_iconst F dMO_may_20 ?_
      refine tt_goto F 37 (by decide) dMO_may_21 ?_
      refine tt_put F (fun h => h) inMO tyMO tyMO_ok nmMO 0 rfl rfl 0 (by decide) we698 rfl rfl rfl rfl (show (0 : Nat) + 1 ≤ _ from Nat.le_of_ble_eq_true rfl) dMO_may_37 ?_
      refine tt_aload_n F 0 rfl rfl dMO_may_40 ?_
      refine tt_get F inMO 0 rfl rfl 0 (by decide) we698 rfl dMO_may_41 ?_
      refine tt_if_le F 49 ⟨by omega, by omega⟩ dMO_may_44 (by decide) (fun c44 => ?_) (fun c44 => ?_)
      · skip
        exact absurd c44 (by omega)
      · skip
        refine tt_iconst F dMO_may_47 ?_
        exact tt_iret F rfl (Nat.le_of_ble_eq_true rfl) (Nat.le_of_ble_eq_true rfl) dMO_may_48 rfl
set_option maxHeartbeats 4000000 in
set_option maxRecDepth 100000 in
theorem f_mayM {x y v_ : Int} (hg : 1 ≤ W ∧ W ≤ 12 ∧ 1 ≤ D_ ∧ D_ ≤ 12 ∧ 1 ≤ r ∧ r ≤ 10) (hp : (0 ≤ x ∧ x < W) ∧ 0 ≤ y ∧ y < D_) (hv : 1 ≤ v_ ∧ v_ ≤ 50) (hn : mn = 4) : CI l D vwCl cI cZ cJ SL yMO_may wsMO_may rmMO_may [.ref (ad 0), .int (iZ x), .int (iZ y), .int (iZ v_)] (mW cI cZ ad W D_ r hM rM tM wM mp mk wh sM hi vS cd mn) (fun z w1 => w1 = (mW cI cZ ad W D_ r hM rM tM wM mp mk wh sM hi vS 2 mn)) := by
  refine tt_startI (by decide) rfl (Nat.le_of_ble_eq_true rfl) ?_
  intro p e s m args below meth c hnm F
  obtain ⟨hW1, hW2, hD1, hD2, hr1, hr2⟩ := id hg
  refine tt_aload_n F 0 rfl rfl dMO_may_0 ?_
  refine tt_aload_n F 0 rfl rfl dMO_may_1 ?_
  refine tt_iload_n F 1 rfl rfl dMO_may_2 ?_
  refine tt_iload_n F 2 rfl rfl dMO_may_3 ?_
  refine tt_cOV F (As := [.int (iZ x), .int (iZ y)]) [] 0 rfl rfl (o_isPoint (hM := hM) (rM := rM) (tM := tM) (wM := wM) (mp := mp) (mk := mk) (wh := wh) (sM := sM) (hi := hi) (vS := vS) (cd := cd) (mn := mn) hg (by omega) (by omega)) (cwV 2 F.1.2.2.2.2 (gw_V wd752 wd754 wd29 wd53 wd755) rfl rfl rfl (by decide +kernel) ⟨(Nat.le_of_ble_eq_true rfl), (Nat.le_of_ble_eq_true rfl)⟩) rfl rfl rfl (Nat.le_of_ble_eq_true rfl) ⟨(Nat.le_of_ble_eq_true rfl), (Nat.le_of_ble_eq_true rfl)⟩ dMO_may_4 (fun v4 hp => ?_)
  obtain ⟨z4, rfl, hz4⟩ := hp
  have hb4 := zb_b hz4
  refine tt_if_eq F 20 ⟨by omega, by omega⟩ dMO_may_7 (by decide) (fun c7 => ?_) (fun c7 => ?_)
  · skip
    exfalso; omega
  · skip
    refine tt_iload_n F 3 rfl rfl dMO_may_10 ?_
    refine tt_iconst F dMO_may_11 ?_
    refine tt_bipush F (by decide) dMO_may_12 ?_
    refine tt_cOS F (As := [.int (iZ v_), .int (iZ 1), .int (iZ 50)]) [] (o_in (by omega) (by omega) (by omega)) (va_cwS 3 F.1.2.2.2.2 (gw_S wd756 wd757 wd53 wd758) rfl rfl rfl (by decide +kernel) ⟨(Nat.le_of_ble_eq_true rfl), (Nat.le_of_ble_eq_true rfl)⟩) rfl rfl rfl (Nat.le_of_ble_eq_true rfl) ⟨(Nat.le_of_ble_eq_true rfl), (Nat.le_of_ble_eq_true rfl)⟩ dMO_may_14 (fun v14 hp => ?_)
    obtain ⟨z14, rfl, hz14⟩ := hp
    have hb14 := zb_b hz14
    refine tt_if_ne F 24 ⟨by omega, by omega⟩ dMO_may_17 (by decide) (fun c17 => ?_) (fun c17 => ?_)
    · skip
      refine tt_aload_n F 0 rfl rfl dMO_may_24 ?_
      refine tt_get F inMO 0 rfl rfl 8 (by decide) we706 rfl dMO_may_25 ?_
      refine tt_iconst F dMO_may_28 ?_
      refine tt_icmp_ne F 36 ⟨by omega, by omega⟩ ⟨by omega, by omega⟩ dMO_may_29 (by decide) (fun c29 => ?_) (fun c29 => ?_)
      · skip
        exfalso; omega
      · skip
        refine tt_iconst F dMO_may_32 ?_
        refine tt_goto F 37 (by decide) dMO_may_33 ?_
        refine tt_put F (fun h => h) inMO tyMO tyMO_ok nmMO 0 rfl rfl 0 (by decide) we698 rfl rfl rfl rfl (show (0 : Nat) + 1 ≤ _ from Nat.le_of_ble_eq_true rfl) dMO_may_37 ?_
        refine tt_aload_n F 0 rfl rfl dMO_may_40 ?_
        refine tt_get F inMO 0 rfl rfl 0 (by decide) we698 rfl dMO_may_41 ?_
        refine tt_if_le F 49 ⟨by omega, by omega⟩ dMO_may_44 (by decide) (fun c44 => ?_) (fun c44 => ?_)
        · skip
          exact absurd c44 (by omega)
        · skip
          refine tt_iconst F dMO_may_47 ?_
          exact tt_iret F rfl (Nat.le_of_ble_eq_true rfl) (Nat.le_of_ble_eq_true rfl) dMO_may_48 rfl
    · skip
      exfalso; omega
abbrev rmMO_forget : Room := { frames := 0, cells := 0, slots := 0, locals := 0 }
set_option maxHeartbeats 4000000 in
set_option maxRecDepth 100000 in
theorem c_forgetM   : CI l D vwCl cI cZ cJ SL yMO_forget wsMO_forget rmMO_forget [.ref (ad 0)] (mW cI cZ ad W D_ r hM rM tM wM mp mk wh sM hi vS cd mn) (fun z w1 => z = mn ∧ w1 = (mW cI cZ ad W D_ r hM rM tM wM mp mk wh sM hi vS 0 0)) := by
  refine tt_startI (by decide) rfl (Nat.le_of_ble_eq_true rfl) ?_
  intro p e s m args below meth c hnm F
  refine tt_aload_n F 0 rfl rfl dMO_forget_0 ?_
  refine tt_iconst F dMO_forget_1 ?_
  refine tt_put F (fun h => h) inMO tyMO tyMO_ok nmMO 0 rfl rfl 0 (by decide) we698 rfl rfl rfl rfl (show (0 : Nat) + 1 ≤ _ from Nat.le_of_ble_eq_true rfl) dMO_forget_2 ?_
  refine tt_aload_n F 0 rfl rfl dMO_forget_5 ?_
  refine tt_get F inMO 0 rfl rfl 8 (by decide) we706 rfl dMO_forget_6 ?_
  refine tt_istore_n F [(1, .int (iZ mn)), (0, .ref (ad 0))] rfl (by decide) rfl dMO_forget_9 ?_
  refine tt_aload_n F 1 rfl rfl dMO_forget_10 ?_
  refine tt_iconst F dMO_forget_11 ?_
  refine tt_put F (fun h => h) inMO tyMO tyMO_ok nmMO 0 rfl rfl 8 (by decide) we706 rfl rfl rfl rfl (show (8 : Nat) + 1 ≤ _ from Nat.le_of_ble_eq_true rfl) dMO_forget_12 ?_
  refine tt_iload_n F 0 rfl rfl dMO_forget_15 ?_
  exact tt_iret F rfl (Nat.le_of_ble_eq_true rfl) (Nat.le_of_ble_eq_true rfl) dMO_forget_16 ⟨rfl, rfl⟩
abbrev rmMO_want : Room := { frames := 2, cells := 0, slots := 0, locals := 44 }
set_option maxHeartbeats 4000000 in
set_option maxRecDepth 100000 in
theorem c_wantM {x y on : Int} (hg : 1 ≤ W ∧ W ≤ 12 ∧ 1 ≤ D_ ∧ D_ ≤ 12 ∧ 1 ≤ r ∧ r ≤ 10) (hp : (0 ≤ x ∧ x < W) ∧ 0 ≤ y ∧ y < D_) (hon : on = 0 ∨ on = 1) (hwM : wM (12 * y + x) = 0 ∨ wM (12 * y + x) = 1) : CI l D vwCl cI cZ cJ SL yMO_want wsMO_want rmMO_want [.ref (ad 0), .int (iZ x), .int (iZ y), .int (iZ on)] (mW cI cZ ad W D_ r hM rM tM wM mp mk wh sM hi vS cd mn) (fun z w1 => z = wM (12 * y + x) ∧ w1 = (mW cI cZ ad W D_ r hM rM tM (zu wM (12 * y + x) on) mp mk wh sM hi vS 0 mn)) := by
  refine tt_startI (by decide) rfl (Nat.le_of_ble_eq_true rfl) ?_
  intro p e s m args below meth c hnm F
  obtain ⟨hW1, hW2, hD1, hD2, hr1, hr2⟩ := id hg
  refine tt_aload_n F 0 rfl rfl dMO_want_0 ?_
  refine tt_aload_n F 0 rfl rfl dMO_want_1 ?_
  refine tt_iload_n F 1 rfl rfl dMO_want_2 ?_
  refine tt_iload_n F 2 rfl rfl dMO_want_3 ?_
  refine tt_cOV F (As := [.int (iZ x), .int (iZ y)]) [] 0 rfl rfl (o_isPoint (hM := hM) (rM := rM) (tM := tM) (wM := wM) (mp := mp) (mk := mk) (wh := wh) (sM := sM) (hi := hi) (vS := vS) (cd := cd) (mn := mn) hg (by omega) (by omega)) (cwV 2 F.1.2.2.2.2 (gw_V wd752 wd754 wd29 wd53 wd755) rfl rfl rfl (by decide +kernel) ⟨(Nat.le_of_ble_eq_true rfl), (Nat.le_of_ble_eq_true rfl)⟩) rfl rfl rfl (Nat.le_of_ble_eq_true rfl) ⟨(Nat.le_of_ble_eq_true rfl), (Nat.le_of_ble_eq_true rfl)⟩ dMO_want_4 (fun v4 hp => ?_)
  obtain ⟨z4, rfl, hz4⟩ := hp
  have hb4 := zb_b hz4
  refine tt_if_eq F 14 ⟨by omega, by omega⟩ dMO_want_7 (by decide) (fun c7 => ?_) (fun c7 => ?_)
  · skip
    exfalso; omega
  · skip
    refine tt_iconst F dMO_want_10 ?_
    refine tt_goto F 15 (by decide) dMO_want_11 ?_
    refine tt_put F (fun h => h) inMO tyMO tyMO_ok nmMO 0 rfl rfl 0 (by decide) we698 rfl rfl rfl rfl (show (0 : Nat) + 1 ≤ _ from Nat.le_of_ble_eq_true rfl) dMO_want_15 ?_
    refine tt_aload_n F 0 rfl rfl dMO_want_18 ?_
    refine tt_get F inMO 0 rfl rfl 0 (by decide) we698 rfl dMO_want_19 ?_
    refine tt_if_le F 27 ⟨by omega, by omega⟩ dMO_want_22 (by decide) (fun c22 => ?_) (fun c22 => ?_)
    · skip
      refine tt_aload_n F 0 rfl rfl dMO_want_27 ?_
      refine tt_get F inMO 0 rfl rfl 7 (by decide) we705 rfl dMO_want_28 ?_
      refine tt_iload_n F 1 rfl rfl dMO_want_31 ?_
      refine tt_iload_n F 2 rfl rfl dMO_want_32 ?_
      refine tt_cOS F (As := [.int (iZ x), .int (iZ y)]) [] o_spot (va_cwS 2 F.1.2.2.2.2 (gw_S wd759 wd760 wd53 wd761) rfl rfl rfl (by decide +kernel) ⟨(Nat.le_of_ble_eq_true rfl), (Nat.le_of_ble_eq_true rfl)⟩) rfl rfl rfl (Nat.le_of_ble_eq_true rfl) ⟨(Nat.le_of_ble_eq_true rfl), (Nat.le_of_ble_eq_true rfl)⟩ dMO_want_33 (fun v33 hp => ?_)
      subst hp
      refine tt_zald F 4 rfl (by omega) (by omega) (by omega) dMO_want_36 ?_
      refine tt_istore F [(4, .int (iZ (wM (12 * y + x)))), (0, .ref (ad 0)), (1, .int (iZ x)), (2, .int (iZ y)), (3, .int (iZ on))] (by decide) rfl dMO_want_37 ?_
      refine tt_aload_n F 1 rfl rfl dMO_want_39 ?_
      refine tt_get F inMO 0 rfl rfl 7 (by decide) we705 rfl dMO_want_40 ?_
      refine tt_iload_n F 2 rfl rfl dMO_want_43 ?_
      refine tt_iload_n F 3 rfl rfl dMO_want_44 ?_
      refine tt_cOS F (As := [.int (iZ x), .int (iZ y)]) [] o_spot (va_cwS 2 F.1.2.2.2.2 (gw_S wd759 wd760 wd53 wd761) rfl rfl rfl (by decide +kernel) ⟨(Nat.le_of_ble_eq_true rfl), (Nat.le_of_ble_eq_true rfl)⟩) rfl rfl rfl (Nat.le_of_ble_eq_true rfl) ⟨(Nat.le_of_ble_eq_true rfl), (Nat.le_of_ble_eq_true rfl)⟩ dMO_want_45 (fun v45 hp => ?_)
      subst hp
      refine tt_iload_n F 4 rfl rfl dMO_want_48 ?_
      refine tt_zast F (fun h => h) 4 rfl (by omega) (by omega) (by omega) (hon) dMO_want_49 ?_
      refine tt_iload F 0 rfl dMO_want_50 ?_
      exact tt_zret F rfl (hwM) (Nat.le_of_ble_eq_true rfl) (Nat.le_of_ble_eq_true rfl) dMO_want_52 ⟨rfl, rfl⟩
    · skip
      exact absurd c22 (by omega)
set_option maxHeartbeats 4000000 in
set_option maxRecDepth 100000 in
theorem n_wantM {x y on : Int} (hg : 1 ≤ W ∧ W ≤ 12 ∧ 1 ≤ D_ ∧ D_ ≤ 12 ∧ 1 ≤ r ∧ r ≤ 10) (hx : ir x) (hy : ir y) (h : ¬ ((0 ≤ x ∧ x < W) ∧ 0 ≤ y ∧ y < D_)) : CI l D vwCl cI cZ cJ SL yMO_want wsMO_want rmMO_want [.ref (ad 0), .int (iZ x), .int (iZ y), .int (iZ on)] (mW cI cZ ad W D_ r hM rM tM wM mp mk wh sM hi vS cd mn) (fun z w1 => w1 = (mW cI cZ ad W D_ r hM rM tM wM mp mk wh sM hi vS 1 mn)) := by
  refine tt_startI (by decide) rfl (Nat.le_of_ble_eq_true rfl) ?_
  intro p e s m args below meth c hnm F
  obtain ⟨hW1, hW2, hD1, hD2, hr1, hr2⟩ := id hg
  refine tt_aload_n F 0 rfl rfl dMO_want_0 ?_
  refine tt_aload_n F 0 rfl rfl dMO_want_1 ?_
  refine tt_iload_n F 1 rfl rfl dMO_want_2 ?_
  refine tt_iload_n F 2 rfl rfl dMO_want_3 ?_
  refine tt_cOV F (As := [.int (iZ x), .int (iZ y)]) [] 0 rfl rfl (o_isPoint (hM := hM) (rM := rM) (tM := tM) (wM := wM) (mp := mp) (mk := mk) (wh := wh) (sM := sM) (hi := hi) (vS := vS) (cd := cd) (mn := mn) hg (by omega) (by omega)) (cwV 2 F.1.2.2.2.2 (gw_V wd752 wd754 wd29 wd53 wd755) rfl rfl rfl (by decide +kernel) ⟨(Nat.le_of_ble_eq_true rfl), (Nat.le_of_ble_eq_true rfl)⟩) rfl rfl rfl (Nat.le_of_ble_eq_true rfl) ⟨(Nat.le_of_ble_eq_true rfl), (Nat.le_of_ble_eq_true rfl)⟩ dMO_want_4 (fun v4 hp => ?_)
  obtain ⟨z4, rfl, hz4⟩ := hp
  have hb4 := zb_b hz4
  refine tt_if_eq F 14 ⟨by omega, by omega⟩ dMO_want_7 (by decide) (fun c7 => ?_) (fun c7 => ?_)
  · skip
    refine tt_iconst F dMO_want_14 ?_
    refine tt_put F (fun h => h) inMO tyMO tyMO_ok nmMO 0 rfl rfl 0 (by decide) we698 rfl rfl rfl rfl (show (0 : Nat) + 1 ≤ _ from Nat.le_of_ble_eq_true rfl) dMO_want_15 ?_
    refine tt_aload_n F 0 rfl rfl dMO_want_18 ?_
    refine tt_get F inMO 0 rfl rfl 0 (by decide) we698 rfl dMO_want_19 ?_
    refine tt_if_le F 27 ⟨by omega, by omega⟩ dMO_want_22 (by decide) (fun c22 => ?_) (fun c22 => ?_)
    · skip
      exact absurd c22 (by omega)
    · skip
      refine tt_iconst F dMO_want_25 ?_
      exact tt_zret F rfl (by omega) (Nat.le_of_ble_eq_true rfl) (Nat.le_of_ble_eq_true rfl) dMO_want_26 rfl
  · skip
    exact (h (by omega)).elim
abbrev rmMO_rest : Room := { frames := 4, cells := 0, slots := 0, locals := 92 }
set_option maxHeartbeats 4000000 in
set_option maxRecDepth 100000 in
theorem lp_restM {x y q_ rt5 : Int} (F : FX p s m args meth c cMO_rest 8 (some .int) wsMO_rest RMO D vwCl cI cZ cJ SL A) (hg : 1 ≤ W ∧ W ≤ 12 ∧ 1 ≤ D_ ∧ D_ ≤ 12 ∧ 1 ≤ r ∧ r ≤ 10) (hpl : (-r ≤ x ∧ x < W + r) ∧ -r ≤ y ∧ y < D_ + r) (hT : ∀ k, 0 ≤ k → k < 144 → 0 ≤ tM k ∧ tM k ≤ 250) (hR : RST W D_ r tM wh sM ((y + r) * (W + 2 * r) + (x + r)))
    (k107 : ∀ (n_ : Int) (k : Int), (n_ = cz (tcM W D_ r x y tM (LV wh sM ((y + r) * (W + 2 * r) + (x + r)))) 144) → TT p l e rmMO_rest s m args below meth c D vwCl A 8 False Q 107 [(0, .ref (ad 0)), (1, .int (iZ x)), (2, .int (iZ y)), (3, .int (iZ q_)), (4, .int (iZ ((y + r) * (W + 2 * r) + (x + r)))), (5, .int (iZ rt5)), (6, .int (iZ n_))] [] (mW cI cZ ad W D_ r hM rM tM wM mp mk wh sM hi vS cd mn) 0 0) :
    ∀ (n : Nat) (n_ : Int) (k : Int), (144 - k).toNat < n → (0 ≤ k ∧ k ≤ 144) → (n_ = cz (tcM W D_ r x y tM (LV wh sM ((y + r) * (W + 2 * r) + (x + r)))) k) → TT p l e rmMO_rest s m args below meth c D vwCl A 8 False Q 72 [(0, .ref (ad 0)), (1, .int (iZ x)), (2, .int (iZ y)), (3, .int (iZ q_)), (4, .int (iZ ((y + r) * (W + 2 * r) + (x + r)))), (5, .int (iZ rt5)), (6, .int (iZ n_)), (7, .int (iZ k))] [] (mW cI cZ ad W D_ r hM rM tM wM mp mk wh sM hi vS cd mn) 0 0 := by
  intro n
  induction n with
  | zero => intro n_ k hn; omega
  | succ n ih =>
    intro n_ k hn hk hn_
    obtain ⟨hW1, hW2, hD1, hD2, hr1, hr2⟩ := id hg
    have hrr := rr_b hr1 hr2
    have hPL := pl_b hW1 hW2 hD1 hD2 hr1 hr2
    refine tt_iload F 7 rfl dMO_rest_72 ?_
    refine tt_sipush F (by decide) dMO_rest_74 ?_
    refine tt_icmp_ge F 107 ⟨by omega, by omega⟩ ⟨by omega, by omega⟩ dMO_rest_77 (by decide) (fun c77 => ?_) (fun c77 => ?_)
    · skip
      refine tt_sub [0, 1, 2, 3, 4, 5, 6] rfl ?_
      exact k107 n_ k (by rw [hn_, show k = 144 by omega])
    · skip
      have hTk := hT k (by omega) (by omega)
      refine tt_iload F 6 rfl dMO_rest_80 ?_
      refine tt_aload_n F 0 rfl rfl dMO_rest_82 ?_
      refine tt_iload_n F 1 rfl rfl dMO_rest_83 ?_
      refine tt_iload_n F 2 rfl rfl dMO_rest_84 ?_
      refine tt_iload F 7 rfl dMO_rest_85 ?_
      refine tt_cOV F (As := [.int (iZ x), .int (iZ y), .int (iZ k)]) [] 0 rfl rfl (o_isTouched (hM := hM) (rM := rM) (tM := tM) (wM := wM) (mp := mp) (mk := mk) (wh := wh) (sM := sM) (hi := hi) (vS := vS) (cd := cd) (mn := mn) hg hpl (by omega) hTk hR.1 hR.2.1) (cwV 3 F.1.2.2.2.2 (gw_V wd804 wd806 wd37 wd53 wd807) rfl rfl rfl (by decide +kernel) ⟨(Nat.le_of_ble_eq_true rfl), (Nat.le_of_ble_eq_true rfl)⟩) rfl rfl rfl (Nat.le_of_ble_eq_true rfl) ⟨(Nat.le_of_ble_eq_true rfl), (Nat.le_of_ble_eq_true rfl)⟩ dMO_rest_87 (fun v87 hp => ?_)
      obtain ⟨z87, rfl, hz87⟩ := hp
      have hb87 := zb_b hz87
      refine tt_if_eq F 97 ⟨by omega, by omega⟩ dMO_rest_90 (by decide) (fun c90 => ?_) (fun c90 => ?_)
      · skip
        refine tt_iconst F dMO_rest_97 ?_
        refine tt_iadd F dMO_rest_98 ?_
        refine tt_istore F [(6, .int (iZ (n_ + 0))), (0, .ref (ad 0)), (1, .int (iZ x)), (2, .int (iZ y)), (3, .int (iZ q_)), (4, .int (iZ ((y + r) * (W + 2 * r) + (x + r)))), (5, .int (iZ rt5)), (7, .int (iZ k))] (by decide) rfl dMO_rest_99 ?_
        refine tt_iinc F 7 [(7, .int (iZ (k + 1))), (6, .int (iZ (n_ + 0))), (0, .ref (ad 0)), (1, .int (iZ x)), (2, .int (iZ y)), (3, .int (iZ q_)), (4, .int (iZ ((y + r) * (W + 2 * r) + (x + r)))), (5, .int (iZ rt5))] rfl (by decide) rfl dMO_rest_101 ?_
        refine tt_goto F 72 (by decide) dMO_rest_104 ?_
        refine tt_sub [2, 3, 4, 5, 6, 7, 1, 0] rfl ?_
        exact ih (n_ + 0) (k + 1) (by omega) (⟨by omega, by omega⟩) (by rw [cz_s _ (by omega), bi_f (zb_0 hz87 c90), hn_])
      · skip
        refine tt_iconst F dMO_rest_93 ?_
        refine tt_goto F 98 (by decide) dMO_rest_94 ?_
        refine tt_iadd F dMO_rest_98 ?_
        refine tt_istore F [(6, .int (iZ (n_ + 1))), (0, .ref (ad 0)), (1, .int (iZ x)), (2, .int (iZ y)), (3, .int (iZ q_)), (4, .int (iZ ((y + r) * (W + 2 * r) + (x + r)))), (5, .int (iZ rt5)), (7, .int (iZ k))] (by decide) rfl dMO_rest_99 ?_
        refine tt_iinc F 7 [(7, .int (iZ (k + 1))), (6, .int (iZ (n_ + 1))), (0, .ref (ad 0)), (1, .int (iZ x)), (2, .int (iZ y)), (3, .int (iZ q_)), (4, .int (iZ ((y + r) * (W + 2 * r) + (x + r)))), (5, .int (iZ rt5))] rfl (by decide) rfl dMO_rest_101 ?_
        refine tt_goto F 72 (by decide) dMO_rest_104 ?_
        refine tt_sub [2, 3, 4, 5, 6, 7, 1, 0] rfl ?_
        exact ih (n_ + 1) (k + 1) (by omega) (⟨by omega, by omega⟩) (by rw [cz_s _ (by omega), bi_t (zb_1 hz87 c90), hn_])
set_option maxHeartbeats 4000000 in
set_option maxRecDepth 100000 in
theorem c_restM {x y q_ : Int} (hg : 1 ≤ W ∧ W ≤ 12 ∧ 1 ≤ D_ ∧ D_ ≤ 12 ∧ 1 ≤ r ∧ r ≤ 10) (hB : ∀ k, 0 ≤ k → k < 144 → (0 ≤ hM k ∧ hM k ≤ 200) ∧ 0 ≤ rM k ∧ rM k ≤ 50) (hpl : (-r ≤ x ∧ x < W + r) ∧ -r ≤ y ∧ y < D_ + r) (hq_ : 0 ≤ q_ ∧ q_ ≤ 3) : CI l D vwCl cI cZ cJ SL yMO_rest wsMO_rest rmMO_rest [.ref (ad 0), .int (iZ x), .int (iZ y), .int (iZ q_)] (mW cI cZ ad W D_ r hM rM tM wM mp mk wh sM hi vS cd mn) (fun z w1 => ∃ (t' wh' sM' : Int → Int) (L : Int), w1 = (mW cI cZ ad W D_ r hM rM t' wM mp mk wh' sM' hi vS 0 mn) ∧ mR W D_ r x y (fun k => hM k + rM k) 144 L ∧ ((q_ = 0 ∧ z = L / 1048576) ∨ (q_ = 1 ∧ z = bi (decide (L % 1048576 = 0))) ∨ (q_ = 2 ∧ z = cz (tcM W D_ r x y (fun k => hM k + rM k) L) 144) ∨ (q_ = 3 ∧ z = bi (decide (L = r * 1048576))))) := by
  refine tt_startI (by decide) rfl (Nat.le_of_ble_eq_true rfl) ?_
  intro p e s m args below meth c hnm F
  obtain ⟨hW1, hW2, hD1, hD2, hr1, hr2⟩ := id hg
  have hrr := rr_b hr1 hr2
  have hPL := pl_b hW1 hW2 hD1 hD2 hr1 hr2
  have hpi := pl_in (W := W) (D_ := D_) (r := r) hpl.1.1 hpl.1.2 hpl.2.1 hpl.2.2
  have hat := pl_at (W := W) (r := r) (x := x) (y := y) hpl.1.1 hpl.1.2
  refine tt_aload_n F 0 rfl rfl dMO_rest_0 ?_
  refine tt_aload_n F 0 rfl rfl dMO_rest_1 ?_
  refine tt_iload_n F 1 rfl rfl dMO_rest_2 ?_
  refine tt_iload_n F 2 rfl rfl dMO_rest_3 ?_
  refine tt_cOV F (As := [.int (iZ x), .int (iZ y)]) [] 0 rfl rfl (o_isPlace (hM := hM) (rM := rM) (tM := tM) (wM := wM) (mp := mp) (mk := mk) (wh := wh) (sM := sM) (hi := hi) (vS := vS) (cd := cd) (mn := mn) hg (by omega) (by omega)) (cwV 2 F.1.2.2.2.2 (gw_V wd770 wd772 wd30 wd53 wd773) rfl rfl rfl (by decide +kernel) ⟨(Nat.le_of_ble_eq_true rfl), (Nat.le_of_ble_eq_true rfl)⟩) rfl rfl rfl (Nat.le_of_ble_eq_true rfl) ⟨(Nat.le_of_ble_eq_true rfl), (Nat.le_of_ble_eq_true rfl)⟩ dMO_rest_4 (fun v4 hp => ?_)
  obtain ⟨z4, rfl, hz4⟩ := hp
  have hb4 := zb_b hz4
  refine tt_if_eq F 23 ⟨by omega, by omega⟩ dMO_rest_7 (by decide) (fun c7 => ?_) (fun c7 => ?_)
  · skip
    exfalso; omega
  · skip
    refine tt_iload_n F 3 rfl rfl dMO_rest_10 ?_
    refine tt_iconst F dMO_rest_11 ?_
    refine tt_iconst F dMO_rest_12 ?_
    refine tt_cOS F (As := [.int (iZ q_), .int (iZ 0), .int (iZ 3)]) [] (o_in (by omega) (by omega) (by omega)) (va_cwS 3 F.1.2.2.2.2 (gw_S wd756 wd757 wd53 wd758) rfl rfl rfl (by decide +kernel) ⟨(Nat.le_of_ble_eq_true rfl), (Nat.le_of_ble_eq_true rfl)⟩) rfl rfl rfl (Nat.le_of_ble_eq_true rfl) ⟨(Nat.le_of_ble_eq_true rfl), (Nat.le_of_ble_eq_true rfl)⟩ dMO_rest_13 (fun v13 hp => ?_)
    obtain ⟨z13, rfl, hz13⟩ := hp
    have hb13 := zb_b hz13
    refine tt_if_eq F 23 ⟨by omega, by omega⟩ dMO_rest_16 (by decide) (fun c16 => ?_) (fun c16 => ?_)
    · skip
      exfalso; omega
    · skip
      refine tt_iconst F dMO_rest_19 ?_
      refine tt_goto F 24 (by decide) dMO_rest_20 ?_
      refine tt_put F (fun h => h) inMO tyMO tyMO_ok nmMO 0 rfl rfl 0 (by decide) we698 rfl rfl rfl rfl (show (0 : Nat) + 1 ≤ _ from Nat.le_of_ble_eq_true rfl) dMO_rest_24 ?_
      refine tt_aload_n F 0 rfl rfl dMO_rest_27 ?_
      refine tt_get F inMO 0 rfl rfl 0 (by decide) we698 rfl dMO_rest_28 ?_
      refine tt_if_le F 36 ⟨by omega, by omega⟩ dMO_rest_31 (by decide) (fun c31 => ?_) (fun c31 => ?_)
      · skip
        refine tt_aload_n F 0 rfl rfl dMO_rest_36 ?_
        refine tt_cVV0 F (fun h => h) (As := []) 0 rfl rfl (c_stand (hM := hM) (rM := rM) (tM := tM) (wM := wM) (mp := mp) (mk := mk) (wh := wh) (sM := sM) (hi := hi) (vS := vS) (cd := 0) (mn := mn)) (cwV 0 F.1.2.2.2.2 (gw_V wd774 wd776 wd31 wd53 wd777) rfl rfl rfl (by decide +kernel) ⟨(Nat.le_of_ble_eq_true rfl), (Nat.le_of_ble_eq_true rfl)⟩) rfl rfl rfl (Nat.le_of_ble_eq_true rfl) ⟨(Nat.le_of_ble_eq_true rfl), (Nat.le_of_ble_eq_true rfl)⟩ dMO_rest_37 (fun w1 hp => ?_)
        obtain ⟨t37, rfl, ht37⟩ := hp
        refine tt_aload_n F 0 rfl rfl dMO_rest_40 ?_
        refine tt_iload_n F 1 rfl rfl dMO_rest_41 ?_
        refine tt_iload_n F 2 rfl rfl dMO_rest_42 ?_
        refine tt_cVV0 F (fun h => h) (As := [.int (iZ x), .int (iZ y)]) 0 rfl rfl (c_restAtM (hM := hM) (rM := rM) (tM := t37) (wM := wM) (mp := mp) (mk := mk) (wh := wh) (sM := sM) (hi := hi) (vS := vS) (cd := 0) (mn := mn) (x := x) (y := y) hg (by omega) (fun k k0 k1 => by rw [ht37 k k0 k1]; have := hB k k0 k1; omega)) (cwV 2 F.1.2.2.2.2 (gw_V wd778 wd780 wd32 wd53 wd781) rfl rfl rfl (by decide +kernel) ⟨(Nat.le_of_ble_eq_true rfl), (Nat.le_of_ble_eq_true rfl)⟩) rfl rfl rfl (Nat.le_of_ble_eq_true rfl) ⟨(Nat.le_of_ble_eq_true rfl), (Nat.le_of_ble_eq_true rfl)⟩ dMO_rest_43 (fun w1 hp => ?_)
        obtain ⟨wh43, sM43, rfl, hR43, hO43⟩ := hp
        refine tt_aload_n F 0 rfl rfl dMO_rest_46 ?_
        refine tt_iload_n F 1 rfl rfl dMO_rest_47 ?_
        refine tt_iload_n F 2 rfl rfl dMO_rest_48 ?_
        refine tt_cOV F (As := [.int (iZ x), .int (iZ y)]) [] 0 rfl rfl (o_placeAt (hM := hM) (rM := rM) (tM := t37) (wM := wM) (mp := mp) (mk := mk) (wh := wh43) (sM := sM43) (hi := hi) (vS := vS) (cd := 0) (mn := mn)) (cwV 2 F.1.2.2.2.2 (gw_V wd782 wd784 wd33 wd53 wd785) rfl rfl rfl (by decide +kernel) ⟨(Nat.le_of_ble_eq_true rfl), (Nat.le_of_ble_eq_true rfl)⟩) rfl rfl rfl (Nat.le_of_ble_eq_true rfl) ⟨(Nat.le_of_ble_eq_true rfl), (Nat.le_of_ble_eq_true rfl)⟩ dMO_rest_49 (fun v49 hp => ?_)
        subst hp
        refine tt_istore F [(4, .int (iZ ((y + r) * (W + 2 * r) + (x + r)))), (0, .ref (ad 0)), (1, .int (iZ x)), (2, .int (iZ y)), (3, .int (iZ q_))] (by decide) rfl dMO_rest_52 ?_
        refine tt_aload_n F 1 rfl rfl dMO_rest_54 ?_
        refine tt_get F inMO 0 rfl rfl 12 (by decide) we710 rfl dMO_rest_55 ?_
        refine tt_iload F 0 rfl dMO_rest_58 ?_
        refine tt_iald F 8 rfl (by omega) (by omega) (by omega) dMO_rest_60 ?_
        have hs43 := hR43.2.1
        have hw43 := hR43.1
        refine tt_cIS0 F (fun h => h) (As := [.int (iZ (sM43 ((y + r) * (W + 2 * r) + (x + r))))]) (c_rootOf (w0 := (mW cI cZ ad W D_ r hM rM t37 wM mp mk wh43 sM43 hi vS 0 mn)) (by omega)) (va_cwS 1 F.1.2.2.2.2 (gw_S wd801 wd802 wd53 wd803) rfl rfl rfl (by decide +kernel) ⟨(Nat.le_of_ble_eq_true rfl), (Nat.le_of_ble_eq_true rfl)⟩) rfl rfl rfl (Nat.le_of_ble_eq_true rfl) ⟨(Nat.le_of_ble_eq_true rfl), (Nat.le_of_ble_eq_true rfl)⟩ dMO_rest_61 (fun z61 w1 hp => ?_)
        obtain ⟨hz61, rfl⟩ := hp
        have hrr5 := rt_root hs43.1 hs43.2 hz61.1 hz61.2.1 hz61.2.2
        have hmR := mR_c (t' := (fun k => hM k + rM k)) (Int.le_refl 144) (fun k k0 k1 => (ht37 k k0 k1).symm) hR43.2.2
        rw [hat.1, hat.2] at hmR
        have hLV : LV wh43 sM43 ((y + r) * (W + 2 * r) + (x + r)) = wh43 ((y + r) * (W + 2 * r) + (x + r)) * 1048576 + rt (sM43 ((y + r) * (W + 2 * r) + (x + r))) := rfl
        have hr10 : z61 ≤ 10 := by by_cases e : z61 ≤ 10; exact e; have := sq_le (a := 11) (b := z61) (by omega); omega
        have hzz := sq_le (a := z61) (b := 10) (by omega)
        have hzz0 := sq_0 z61
        refine tt_istore F [(5, .int (iZ z61)), (4, .int (iZ ((y + r) * (W + 2 * r) + (x + r)))), (0, .ref (ad 0)), (1, .int (iZ x)), (2, .int (iZ y)), (3, .int (iZ q_))] (by decide) rfl dMO_rest_64 ?_
        refine tt_iconst F dMO_rest_66 ?_
        refine tt_istore F [(6, .int (iZ 0)), (5, .int (iZ z61)), (4, .int (iZ ((y + r) * (W + 2 * r) + (x + r)))), (0, .ref (ad 0)), (1, .int (iZ x)), (2, .int (iZ y)), (3, .int (iZ q_))] (by decide) rfl dMO_rest_67 ?_
        refine tt_iconst F dMO_rest_69 ?_
        refine tt_istore F [(7, .int (iZ 0)), (6, .int (iZ 0)), (5, .int (iZ z61)), (4, .int (iZ ((y + r) * (W + 2 * r) + (x + r)))), (0, .ref (ad 0)), (1, .int (iZ x)), (2, .int (iZ y)), (3, .int (iZ q_))] (by decide) rfl dMO_rest_70 ?_
        refine tt_sub [4, 5, 6, 7, 3, 2, 1, 0] rfl ?_
        refine lp_restM F hg hpl (fun k k0 k1 => by rw [ht37 k k0 k1]; have := hB k k0 k1; omega) hR43 (fun n_ k h => ?_) 145 0 0 (by omega) (by omega) (by rw [cz_0 _ (Int.le_refl 0)])
        refine tt_iload_n F 3 rfl rfl dMO_rest_107 ?_
        rcases (show q_ = 0 ∨ q_ = 1 ∨ q_ = 2 ∨ q_ = 3 by omega) with hw | hw | hw | hw
        · skip
          refine tt_tsw F 136 ⟨by omega, by omega⟩ dMO_rest_108 (by omega) (by omega) (by rw [hw]; rfl) (by decide) ?_
          refine tt_aload_n F 0 rfl rfl dMO_rest_136 ?_
          refine tt_get F inMO 0 rfl rfl 11 (by decide) we709 rfl dMO_rest_137 ?_
          refine tt_iload F 4 rfl dMO_rest_140 ?_
          refine tt_iald F 7 rfl (by omega) (by omega) (by omega) dMO_rest_142 ?_
          refine tt_iload F 5 rfl dMO_rest_143 ?_
          refine tt_iadd F dMO_rest_145 ?_
          exact tt_iret F rfl (Nat.le_of_ble_eq_true rfl) (Nat.le_of_ble_eq_true rfl) dMO_rest_146 ⟨t37, wh43, sM43, _, rfl, hmR, Or.inl ⟨hw, by rw [hLV]; omega⟩⟩
        · skip
          refine tt_tsw F 147 ⟨by omega, by omega⟩ dMO_rest_108 (by omega) (by omega) (by rw [hw]; rfl) (by decide) ?_
          refine tt_iload F 5 rfl dMO_rest_147 ?_
          refine tt_iload F 5 rfl dMO_rest_149 ?_
          refine tt_imul F dMO_rest_151 ?_
          refine tt_aload_n F 0 rfl rfl dMO_rest_152 ?_
          refine tt_get F inMO 0 rfl rfl 12 (by decide) we710 rfl dMO_rest_153 ?_
          refine tt_iload F 4 rfl dMO_rest_156 ?_
          refine tt_iald F 8 rfl (by omega) (by omega) (by omega) dMO_rest_158 ?_
          refine tt_icmp_ne F 166 ⟨by omega, by omega⟩ ⟨by omega, by omega⟩ dMO_rest_159 (by decide) (fun c159 => ?_) (fun c159 => ?_)
          · skip
            refine tt_iconst F dMO_rest_166 ?_
            exact tt_iret F rfl (Nat.le_of_ble_eq_true rfl) (Nat.le_of_ble_eq_true rfl) dMO_rest_167 ⟨t37, wh43, sM43, _, rfl, hmR, Or.inr (Or.inl ⟨hw, by rw [bi_f (decide_eq_false (by rw [hLV]; omega))]⟩)⟩
          · skip
            refine tt_iconst F dMO_rest_162 ?_
            refine tt_goto F 167 (by decide) dMO_rest_163 ?_
            exact tt_iret F rfl (Nat.le_of_ble_eq_true rfl) (Nat.le_of_ble_eq_true rfl) dMO_rest_167 ⟨t37, wh43, sM43, _, rfl, hmR, Or.inr (Or.inl ⟨hw, by rw [bi_t (decide_eq_true (by rw [hLV]; omega))]⟩)⟩
        · skip
          refine tt_tsw F 168 ⟨by omega, by omega⟩ dMO_rest_108 (by omega) (by omega) (by rw [hw]; rfl) (by decide) ?_
          refine tt_iload F 6 rfl dMO_rest_168 ?_
          exact tt_iret F rfl (Nat.le_of_ble_eq_true rfl) (Nat.le_of_ble_eq_true rfl) dMO_rest_170 ⟨t37, wh43, sM43, _, rfl, hmR, Or.inr (Or.inr (Or.inl ⟨hw, by rw [h]; exact cz_c (fun k k0 k1 => tcM_c (ht37 k k0 k1))⟩))⟩
        · skip
          refine tt_tswO F 171 ⟨by omega, by omega⟩ dMO_rest_108 (by omega) (by decide) ?_
          refine tt_aload_n F 0 rfl rfl dMO_rest_171 ?_
          refine tt_get F inMO 0 rfl rfl 11 (by decide) we709 rfl dMO_rest_172 ?_
          refine tt_iload F 4 rfl dMO_rest_175 ?_
          refine tt_iald F 7 rfl (by omega) (by omega) (by omega) dMO_rest_177 ?_
          refine tt_aload_n F 0 rfl rfl dMO_rest_178 ?_
          refine tt_get F inMO 0 rfl rfl 12 (by decide) we710 rfl dMO_rest_179 ?_
          refine tt_iload F 4 rfl dMO_rest_182 ?_
          refine tt_iald F 8 rfl (by omega) (by omega) (by omega) dMO_rest_184 ?_
          refine tt_iconst F dMO_rest_185 ?_
          refine tt_aload_n F 0 rfl rfl dMO_rest_186 ?_
          refine tt_get F inMO 0 rfl rfl 3 (by decide) we701 rfl dMO_rest_187 ?_
          refine tt_aload_n F 0 rfl rfl dMO_rest_190 ?_
          refine tt_get F inMO 0 rfl rfl 3 (by decide) we701 rfl dMO_rest_191 ?_
          refine tt_imul F dMO_rest_194 ?_
          have e1 : rt (r * r) = r * 1048576 := rt_sq (by omega) hr2
          refine tt_cOS F (As := [.int (iZ (wh43 ((y + r) * (W + 2 * r) + (x + r)))), .int (iZ (sM43 ((y + r) * (W + 2 * r) + (x + r)))), .int (iZ 0), .int (iZ (r * r))]) [] (o_cmp (by omega) (by omega) (by omega) (by omega) (by omega)) (va_cwS 4 F.1.2.2.2.2 (gw_S wd798 wd799 wd53 wd800) rfl rfl rfl (by decide +kernel) ⟨(Nat.le_of_ble_eq_true rfl), (Nat.le_of_ble_eq_true rfl)⟩) rfl rfl rfl (Nat.le_of_ble_eq_true rfl) ⟨(Nat.le_of_ble_eq_true rfl), (Nat.le_of_ble_eq_true rfl)⟩ dMO_rest_195 (fun v195 hp => ?_)
          obtain ⟨z195, rfl, hz195⟩ := hp
          refine tt_if_ne F 205 ⟨by omega, by omega⟩ dMO_rest_198 (by decide) (fun c198 => ?_) (fun c198 => ?_)
          · skip
            refine tt_iconst F dMO_rest_205 ?_
            exact tt_iret F rfl (Nat.le_of_ble_eq_true rfl) (Nat.le_of_ble_eq_true rfl) dMO_rest_206 ⟨t37, wh43, sM43, _, rfl, hmR, Or.inr (Or.inr (Or.inr ⟨hw, by rw [bi_f (decide_eq_false (by rw [hLV]; omega))]⟩))⟩
          · skip
            refine tt_iconst F dMO_rest_201 ?_
            refine tt_goto F 206 (by decide) dMO_rest_202 ?_
            exact tt_iret F rfl (Nat.le_of_ble_eq_true rfl) (Nat.le_of_ble_eq_true rfl) dMO_rest_206 ⟨t37, wh43, sM43, _, rfl, hmR, Or.inr (Or.inr (Or.inr ⟨hw, by rw [bi_t (decide_eq_true (by rw [hLV]; omega))]⟩))⟩
      · skip
        exact absurd c31 (by omega)
set_option maxHeartbeats 4000000 in
set_option maxRecDepth 100000 in
theorem n_restM {x y q_ : Int} (hg : 1 ≤ W ∧ W ≤ 12 ∧ 1 ≤ D_ ∧ D_ ≤ 12 ∧ 1 ≤ r ∧ r ≤ 10) (hx : ir x) (hy : ir y) (hq_ : ir q_) (h : ¬ (((-r ≤ x ∧ x < W + r) ∧ -r ≤ y ∧ y < D_ + r) ∧ 0 ≤ q_ ∧ q_ ≤ 3)) : CI l D vwCl cI cZ cJ SL yMO_rest wsMO_rest rmMO_rest [.ref (ad 0), .int (iZ x), .int (iZ y), .int (iZ q_)] (mW cI cZ ad W D_ r hM rM tM wM mp mk wh sM hi vS cd mn) (fun z w1 => w1 = (mW cI cZ ad W D_ r hM rM tM wM mp mk wh sM hi vS 1 mn)) := by
  refine tt_startI (by decide) rfl (Nat.le_of_ble_eq_true rfl) ?_
  intro p e s m args below meth c hnm F
  obtain ⟨hW1, hW2, hD1, hD2, hr1, hr2⟩ := id hg
  refine tt_aload_n F 0 rfl rfl dMO_rest_0 ?_
  refine tt_aload_n F 0 rfl rfl dMO_rest_1 ?_
  refine tt_iload_n F 1 rfl rfl dMO_rest_2 ?_
  refine tt_iload_n F 2 rfl rfl dMO_rest_3 ?_
  refine tt_cOV F (As := [.int (iZ x), .int (iZ y)]) [] 0 rfl rfl (o_isPlace (hM := hM) (rM := rM) (tM := tM) (wM := wM) (mp := mp) (mk := mk) (wh := wh) (sM := sM) (hi := hi) (vS := vS) (cd := cd) (mn := mn) hg (by omega) (by omega)) (cwV 2 F.1.2.2.2.2 (gw_V wd770 wd772 wd30 wd53 wd773) rfl rfl rfl (by decide +kernel) ⟨(Nat.le_of_ble_eq_true rfl), (Nat.le_of_ble_eq_true rfl)⟩) rfl rfl rfl (Nat.le_of_ble_eq_true rfl) ⟨(Nat.le_of_ble_eq_true rfl), (Nat.le_of_ble_eq_true rfl)⟩ dMO_rest_4 (fun v4 hp => ?_)
  obtain ⟨z4, rfl, hz4⟩ := hp
  have hb4 := zb_b hz4
  refine tt_if_eq F 23 ⟨by omega, by omega⟩ dMO_rest_7 (by decide) (fun c7 => ?_) (fun c7 => ?_)
  · skip
    refine tt_iconst F dMO_rest_23 ?_
    refine tt_put F (fun h => h) inMO tyMO tyMO_ok nmMO 0 rfl rfl 0 (by decide) we698 rfl rfl rfl rfl (show (0 : Nat) + 1 ≤ _ from Nat.le_of_ble_eq_true rfl) dMO_rest_24 ?_
    refine tt_aload_n F 0 rfl rfl dMO_rest_27 ?_
    refine tt_get F inMO 0 rfl rfl 0 (by decide) we698 rfl dMO_rest_28 ?_
    refine tt_if_le F 36 ⟨by omega, by omega⟩ dMO_rest_31 (by decide) (fun c31 => ?_) (fun c31 => ?_)
    · skip
      exact absurd c31 (by omega)
    · skip
      refine tt_iconst F dMO_rest_34 ?_
      exact tt_iret F rfl (Nat.le_of_ble_eq_true rfl) (Nat.le_of_ble_eq_true rfl) dMO_rest_35 rfl
  · skip
    refine tt_iload_n F 3 rfl rfl dMO_rest_10 ?_
    refine tt_iconst F dMO_rest_11 ?_
    refine tt_iconst F dMO_rest_12 ?_
    refine tt_cOS F (As := [.int (iZ q_), .int (iZ 0), .int (iZ 3)]) [] (o_in (by omega) (by omega) (by omega)) (va_cwS 3 F.1.2.2.2.2 (gw_S wd756 wd757 wd53 wd758) rfl rfl rfl (by decide +kernel) ⟨(Nat.le_of_ble_eq_true rfl), (Nat.le_of_ble_eq_true rfl)⟩) rfl rfl rfl (Nat.le_of_ble_eq_true rfl) ⟨(Nat.le_of_ble_eq_true rfl), (Nat.le_of_ble_eq_true rfl)⟩ dMO_rest_13 (fun v13 hp => ?_)
    obtain ⟨z13, rfl, hz13⟩ := hp
    have hb13 := zb_b hz13
    refine tt_if_eq F 23 ⟨by omega, by omega⟩ dMO_rest_16 (by decide) (fun c16 => ?_) (fun c16 => ?_)
    · skip
      refine tt_iconst F dMO_rest_23 ?_
      refine tt_put F (fun h => h) inMO tyMO tyMO_ok nmMO 0 rfl rfl 0 (by decide) we698 rfl rfl rfl rfl (show (0 : Nat) + 1 ≤ _ from Nat.le_of_ble_eq_true rfl) dMO_rest_24 ?_
      refine tt_aload_n F 0 rfl rfl dMO_rest_27 ?_
      refine tt_get F inMO 0 rfl rfl 0 (by decide) we698 rfl dMO_rest_28 ?_
      refine tt_if_le F 36 ⟨by omega, by omega⟩ dMO_rest_31 (by decide) (fun c31 => ?_) (fun c31 => ?_)
      · skip
        exact absurd c31 (by omega)
      · skip
        refine tt_iconst F dMO_rest_34 ?_
        exact tt_iret F rfl (Nat.le_of_ble_eq_true rfl) (Nat.le_of_ble_eq_true rfl) dMO_rest_35 rfl
    · skip
      exact (h (by omega)).elim
abbrev rmMO_touched : Room := { frames := 4, cells := 0, slots := 0, locals := 92 }
set_option maxHeartbeats 4000000 in
set_option maxRecDepth 100000 in
theorem lp_touchedM {x y q_ : Int} (F : FX p s m args meth c cMO_touched 6 (some .int) wsMO_touched RMO D vwCl cI cZ cJ SL A) (hg : 1 ≤ W ∧ W ≤ 12 ∧ 1 ≤ D_ ∧ D_ ≤ 12 ∧ 1 ≤ r ∧ r ≤ 10) (hpl : (-r ≤ x ∧ x < W + r) ∧ -r ≤ y ∧ y < D_ + r) (hT : ∀ k, 0 ≤ k → k < 144 → 0 ≤ tM k ∧ tM k ≤ 250) (hR : RST W D_ r tM wh sM ((y + r) * (W + 2 * r) + (x + r))) (hq_ : 0 ≤ q_ ∧ q_ < 2147483648)
    (k72 : ∀ (n_ : Int) (k : Int), ((0 ≤ k ∧ k < 144) ∧ tcM W D_ r x y tM (LV wh sM ((y + r) * (W + 2 * r) + (x + r))) k = true ∧ cz (tcM W D_ r x y tM (LV wh sM ((y + r) * (W + 2 * r) + (x + r)))) k = q_) → TT p l e rmMO_touched s m args below meth c D vwCl A 6 False Q 72 [(0, .ref (ad 0)), (5, .int (iZ k))] [] (mW cI cZ ad W D_ r hM rM tM wM mp mk wh sM hi vS cd mn) 0 0)
    (k96 : ∀ (n_ : Int) (k : Int), (cz (tcM W D_ r x y tM (LV wh sM ((y + r) * (W + 2 * r) + (x + r)))) 144 ≤ q_) → TT p l e rmMO_touched s m args below meth c D vwCl A 6 False Q 96 [] [] (mW cI cZ ad W D_ r hM rM tM wM mp mk wh sM hi vS cd mn) 0 0) :
    ∀ (n : Nat) (n_ : Int) (k : Int), (144 - k).toNat < n → (0 ≤ k ∧ k ≤ 144) → (n_ = cz (tcM W D_ r x y tM (LV wh sM ((y + r) * (W + 2 * r) + (x + r)))) k) → (n_ ≤ q_) → TT p l e rmMO_touched s m args below meth c D vwCl A 6 False Q 47 [(0, .ref (ad 0)), (1, .int (iZ x)), (2, .int (iZ y)), (3, .int (iZ q_)), (4, .int (iZ n_)), (5, .int (iZ k))] [] (mW cI cZ ad W D_ r hM rM tM wM mp mk wh sM hi vS cd mn) 0 0 := by
  intro n
  induction n with
  | zero => intro n_ k hn; omega
  | succ n ih =>
    intro n_ k hn hk hn_ hq
    obtain ⟨hW1, hW2, hD1, hD2, hr1, hr2⟩ := id hg
    have hrr := rr_b hr1 hr2
    have hPL := pl_b hW1 hW2 hD1 hD2 hr1 hr2
    have hcb := cz_b (tcM W D_ r x y tM (LV wh sM ((y + r) * (W + 2 * r) + (x + r)))) (z := k) hk.1
    refine tt_iload F 5 rfl dMO_touched_47 ?_
    refine tt_sipush F (by decide) dMO_touched_49 ?_
    refine tt_icmp_ge F 96 ⟨by omega, by omega⟩ ⟨by omega, by omega⟩ dMO_touched_52 (by decide) (fun c52 => ?_) (fun c52 => ?_)
    · skip
      refine tt_sub [] rfl ?_
      exact k96 n_ k (by rw [show (144 : Int) = k by omega]; omega)
    · skip
      have hTk := hT k (by omega) (by omega)
      refine tt_aload_n F 0 rfl rfl dMO_touched_55 ?_
      refine tt_iload_n F 1 rfl rfl dMO_touched_56 ?_
      refine tt_iload_n F 2 rfl rfl dMO_touched_57 ?_
      refine tt_iload F 5 rfl dMO_touched_58 ?_
      refine tt_cOV F (As := [.int (iZ x), .int (iZ y), .int (iZ k)]) [] 0 rfl rfl (o_isTouched (hM := hM) (rM := rM) (tM := tM) (wM := wM) (mp := mp) (mk := mk) (wh := wh) (sM := sM) (hi := hi) (vS := vS) (cd := cd) (mn := mn) hg hpl (by omega) hTk hR.1 hR.2.1) (cwV 3 F.1.2.2.2.2 (gw_V wd804 wd806 wd37 wd53 wd807) rfl rfl rfl (by decide +kernel) ⟨(Nat.le_of_ble_eq_true rfl), (Nat.le_of_ble_eq_true rfl)⟩) rfl rfl rfl (Nat.le_of_ble_eq_true rfl) ⟨(Nat.le_of_ble_eq_true rfl), (Nat.le_of_ble_eq_true rfl)⟩ dMO_touched_60 (fun v60 hp => ?_)
      obtain ⟨z60, rfl, hz60⟩ := hp
      have hb60 := zb_b hz60
      refine tt_if_eq F 90 ⟨by omega, by omega⟩ dMO_touched_63 (by decide) (fun c63 => ?_) (fun c63 => ?_)
      · skip
        refine tt_iinc F 5 [(5, .int (iZ (k + 1))), (0, .ref (ad 0)), (1, .int (iZ x)), (2, .int (iZ y)), (3, .int (iZ q_)), (4, .int (iZ n_))] rfl (by decide) rfl dMO_touched_90 ?_
        refine tt_goto F 47 (by decide) dMO_touched_93 ?_
        refine tt_sub [1, 2, 3, 4, 5, 0] rfl ?_
        exact ih n_ (k + 1) (by omega) (⟨by omega, by omega⟩) (by rw [cz_s _ (by omega), bi_f (zb_0 hz60 c63)]; omega) (by omega)
      · skip
        refine tt_iload F 4 rfl dMO_touched_66 ?_
        refine tt_iload_n F 3 rfl rfl dMO_touched_68 ?_
        refine tt_icmp_ne F 87 ⟨by omega, by omega⟩ ⟨by omega, by omega⟩ dMO_touched_69 (by decide) (fun c69 => ?_) (fun c69 => ?_)
        · skip
          refine tt_iinc F 4 [(4, .int (iZ (n_ + 1))), (0, .ref (ad 0)), (1, .int (iZ x)), (2, .int (iZ y)), (3, .int (iZ q_)), (5, .int (iZ k))] rfl (by decide) rfl dMO_touched_87 ?_
          refine tt_iinc F 5 [(5, .int (iZ (k + 1))), (4, .int (iZ (n_ + 1))), (0, .ref (ad 0)), (1, .int (iZ x)), (2, .int (iZ y)), (3, .int (iZ q_))] rfl (by decide) rfl dMO_touched_90 ?_
          refine tt_goto F 47 (by decide) dMO_touched_93 ?_
          refine tt_sub [2, 3, 4, 5, 1, 0] rfl ?_
          exact ih (n_ + 1) (k + 1) (by omega) (⟨by omega, by omega⟩) (by rw [cz_s _ (by omega), bi_t (zb_1 hz60 c63)]; omega) (by omega)
        · skip
          refine tt_sub [0, 5] rfl ?_
          exact k72 n_ k (⟨⟨by omega, by omega⟩, zb_1 hz60 c63, by omega⟩)
set_option maxHeartbeats 4000000 in
set_option maxRecDepth 100000 in
theorem c_touchedM {x y q_ : Int} (hg : 1 ≤ W ∧ W ≤ 12 ∧ 1 ≤ D_ ∧ D_ ≤ 12 ∧ 1 ≤ r ∧ r ≤ 10) (hB : ∀ k, 0 ≤ k → k < 144 → (0 ≤ hM k ∧ hM k ≤ 200) ∧ 0 ≤ rM k ∧ rM k ≤ 50) (hpl : (-r ≤ x ∧ x < W + r) ∧ -r ≤ y ∧ y < D_ + r) (hq_ : 0 ≤ q_ ∧ q_ < 2147483648) : CI l D vwCl cI cZ cJ SL yMO_touched wsMO_touched rmMO_touched [.ref (ad 0), .int (iZ x), .int (iZ y), .int (iZ q_)] (mW cI cZ ad W D_ r hM rM tM wM mp mk wh sM hi vS cd mn) (fun z w1 => ∃ (t' wh' sM' : Int → Int) (L : Int), w1 = (mW cI cZ ad W D_ r hM rM t' wM mp mk wh' sM' hi vS 0 mn) ∧ mR W D_ r x y (fun k => hM k + rM k) 144 L ∧ ((∃ k, 0 ≤ k ∧ k < 144 ∧ tcM W D_ r x y (fun k => hM k + rM k) L k = true ∧ cz (tcM W D_ r x y (fun k => hM k + rM k) L) k = q_ ∧ z = 100 * (k / 12) + k % 12) ∨ (z = -1 ∧ cz (tcM W D_ r x y (fun k => hM k + rM k) L) 144 ≤ q_))) := by
  refine tt_startI (by decide) rfl (Nat.le_of_ble_eq_true rfl) ?_
  intro p e s m args below meth c hnm F
  obtain ⟨hW1, hW2, hD1, hD2, hr1, hr2⟩ := id hg
  have hrr := rr_b hr1 hr2
  have hPL := pl_b hW1 hW2 hD1 hD2 hr1 hr2
  have hpi := pl_in (W := W) (D_ := D_) (r := r) hpl.1.1 hpl.1.2 hpl.2.1 hpl.2.2
  have hat := pl_at (W := W) (r := r) (x := x) (y := y) hpl.1.1 hpl.1.2
  refine tt_aload_n F 0 rfl rfl dMO_touched_0 ?_
  refine tt_aload_n F 0 rfl rfl dMO_touched_1 ?_
  refine tt_iload_n F 1 rfl rfl dMO_touched_2 ?_
  refine tt_iload_n F 2 rfl rfl dMO_touched_3 ?_
  refine tt_cOV F (As := [.int (iZ x), .int (iZ y)]) [] 0 rfl rfl (o_isPlace (hM := hM) (rM := rM) (tM := tM) (wM := wM) (mp := mp) (mk := mk) (wh := wh) (sM := sM) (hi := hi) (vS := vS) (cd := cd) (mn := mn) hg (by omega) (by omega)) (cwV 2 F.1.2.2.2.2 (gw_V wd770 wd772 wd30 wd53 wd773) rfl rfl rfl (by decide +kernel) ⟨(Nat.le_of_ble_eq_true rfl), (Nat.le_of_ble_eq_true rfl)⟩) rfl rfl rfl (Nat.le_of_ble_eq_true rfl) ⟨(Nat.le_of_ble_eq_true rfl), (Nat.le_of_ble_eq_true rfl)⟩ dMO_touched_4 (fun v4 hp => ?_)
  obtain ⟨z4, rfl, hz4⟩ := hp
  have hb4 := zb_b hz4
  refine tt_if_eq F 18 ⟨by omega, by omega⟩ dMO_touched_7 (by decide) (fun c7 => ?_) (fun c7 => ?_)
  · skip
    exfalso; omega
  · skip
    refine tt_iload_n F 3 rfl rfl dMO_touched_10 ?_
    refine tt_if_lt F 18 ⟨by omega, by omega⟩ dMO_touched_11 (by decide) (fun c11 => ?_) (fun c11 => ?_)
    · skip
      exfalso; omega
    · skip
      refine tt_iconst F dMO_touched_14 ?_
      refine tt_goto F 19 (by decide) dMO_touched_15 ?_
      refine tt_put F (fun h => h) inMO tyMO tyMO_ok nmMO 0 rfl rfl 0 (by decide) we698 rfl rfl rfl rfl (show (0 : Nat) + 1 ≤ _ from Nat.le_of_ble_eq_true rfl) dMO_touched_19 ?_
      refine tt_aload_n F 0 rfl rfl dMO_touched_22 ?_
      refine tt_get F inMO 0 rfl rfl 0 (by decide) we698 rfl dMO_touched_23 ?_
      refine tt_if_le F 31 ⟨by omega, by omega⟩ dMO_touched_26 (by decide) (fun c26 => ?_) (fun c26 => ?_)
      · skip
        refine tt_aload_n F 0 rfl rfl dMO_touched_31 ?_
        refine tt_cVV0 F (fun h => h) (As := []) 0 rfl rfl (c_stand (hM := hM) (rM := rM) (tM := tM) (wM := wM) (mp := mp) (mk := mk) (wh := wh) (sM := sM) (hi := hi) (vS := vS) (cd := 0) (mn := mn)) (cwV 0 F.1.2.2.2.2 (gw_V wd774 wd776 wd31 wd53 wd777) rfl rfl rfl (by decide +kernel) ⟨(Nat.le_of_ble_eq_true rfl), (Nat.le_of_ble_eq_true rfl)⟩) rfl rfl rfl (Nat.le_of_ble_eq_true rfl) ⟨(Nat.le_of_ble_eq_true rfl), (Nat.le_of_ble_eq_true rfl)⟩ dMO_touched_32 (fun w1 hp => ?_)
        obtain ⟨t32, rfl, ht32⟩ := hp
        refine tt_aload_n F 0 rfl rfl dMO_touched_35 ?_
        refine tt_iload_n F 1 rfl rfl dMO_touched_36 ?_
        refine tt_iload_n F 2 rfl rfl dMO_touched_37 ?_
        refine tt_cVV0 F (fun h => h) (As := [.int (iZ x), .int (iZ y)]) 0 rfl rfl (c_restAtM (hM := hM) (rM := rM) (tM := t32) (wM := wM) (mp := mp) (mk := mk) (wh := wh) (sM := sM) (hi := hi) (vS := vS) (cd := 0) (mn := mn) (x := x) (y := y) hg (by omega) (fun k k0 k1 => by rw [ht32 k k0 k1]; have := hB k k0 k1; omega)) (cwV 2 F.1.2.2.2.2 (gw_V wd778 wd780 wd32 wd53 wd781) rfl rfl rfl (by decide +kernel) ⟨(Nat.le_of_ble_eq_true rfl), (Nat.le_of_ble_eq_true rfl)⟩) rfl rfl rfl (Nat.le_of_ble_eq_true rfl) ⟨(Nat.le_of_ble_eq_true rfl), (Nat.le_of_ble_eq_true rfl)⟩ dMO_touched_38 (fun w1 hp => ?_)
        obtain ⟨wh38, sM38, rfl, hR38, hO38⟩ := hp
        have hmR := mR_c (t' := (fun k => hM k + rM k)) (Int.le_refl 144) (fun k k0 k1 => (ht32 k k0 k1).symm) hR38.2.2
        rw [hat.1, hat.2] at hmR
        have htc : ∀ k, 0 ≤ k → k < 144 → tcM W D_ r x y t32 (LV wh38 sM38 ((y + r) * (W + 2 * r) + (x + r))) k = tcM W D_ r x y (fun k => hM k + rM k) (LV wh38 sM38 ((y + r) * (W + 2 * r) + (x + r))) k := fun k k0 k1 => tcM_c (ht32 k k0 k1)
        refine tt_iconst F dMO_touched_41 ?_
        refine tt_istore F [(4, .int (iZ 0)), (0, .ref (ad 0)), (1, .int (iZ x)), (2, .int (iZ y)), (3, .int (iZ q_))] (by decide) rfl dMO_touched_42 ?_
        refine tt_iconst F dMO_touched_44 ?_
        refine tt_istore F [(5, .int (iZ 0)), (4, .int (iZ 0)), (0, .ref (ad 0)), (1, .int (iZ x)), (2, .int (iZ y)), (3, .int (iZ q_))] (by decide) rfl dMO_touched_45 ?_
        refine tt_sub [2, 3, 4, 5, 1, 0] rfl ?_
        refine lp_touchedM F hg hpl (fun k k0 k1 => by rw [ht32 k k0 k1]; have := hB k k0 k1; omega) hR38 hq_ (fun n_ k h => ?_) (fun n_ k h => ?_) 145 0 0 (by omega) (by omega) (by rw [cz_0 _ (Int.le_refl 0)]) (by omega)
        · skip
          refine tt_bipush F (by decide) dMO_touched_72 ?_
          refine tt_iload F 1 rfl dMO_touched_74 ?_
          refine tt_bipush F (by decide) dMO_touched_76 ?_
          refine tt_idiv F (by omega) (by omega) (by omega) (by omega) dMO_touched_78 ?_
          refine tt_imul F dMO_touched_79 ?_
          refine tt_iload F 1 rfl dMO_touched_80 ?_
          refine tt_bipush F (by decide) dMO_touched_82 ?_
          refine tt_irem F (by omega) (by omega) (by omega) (by omega) dMO_touched_84 ?_
          refine tt_iadd F dMO_touched_85 ?_
          exact tt_iret F rfl (Nat.le_of_ble_eq_true rfl) (Nat.le_of_ble_eq_true rfl) dMO_touched_86 ⟨t32, wh38, sM38, _, rfl, hmR, Or.inl ⟨k, h.1.1, h.1.2, by rw [← htc k h.1.1 h.1.2]; exact h.2.1, by rw [← h.2.2]; exact cz_c (fun j j0 j1 => (htc j j0 (by omega)).symm), rfl⟩⟩
        · skip
          refine tt_iconst F dMO_touched_96 ?_
          exact tt_iret F rfl (Nat.le_of_ble_eq_true rfl) (Nat.le_of_ble_eq_true rfl) dMO_touched_97 ⟨t32, wh38, sM38, _, rfl, hmR, Or.inr ⟨rfl, by rw [← cz_c htc]; exact h⟩⟩
      · skip
        exact absurd c26 (by omega)
set_option maxHeartbeats 4000000 in
set_option maxRecDepth 100000 in
theorem n_touchedM {x y q_ : Int} (hg : 1 ≤ W ∧ W ≤ 12 ∧ 1 ≤ D_ ∧ D_ ≤ 12 ∧ 1 ≤ r ∧ r ≤ 10) (hx : ir x) (hy : ir y) (hq_ : ir q_) (h : ¬ (((-r ≤ x ∧ x < W + r) ∧ -r ≤ y ∧ y < D_ + r) ∧ 0 ≤ q_)) : CI l D vwCl cI cZ cJ SL yMO_touched wsMO_touched rmMO_touched [.ref (ad 0), .int (iZ x), .int (iZ y), .int (iZ q_)] (mW cI cZ ad W D_ r hM rM tM wM mp mk wh sM hi vS cd mn) (fun z w1 => w1 = (mW cI cZ ad W D_ r hM rM tM wM mp mk wh sM hi vS 1 mn)) := by
  refine tt_startI (by decide) rfl (Nat.le_of_ble_eq_true rfl) ?_
  intro p e s m args below meth c hnm F
  obtain ⟨hW1, hW2, hD1, hD2, hr1, hr2⟩ := id hg
  refine tt_aload_n F 0 rfl rfl dMO_touched_0 ?_
  refine tt_aload_n F 0 rfl rfl dMO_touched_1 ?_
  refine tt_iload_n F 1 rfl rfl dMO_touched_2 ?_
  refine tt_iload_n F 2 rfl rfl dMO_touched_3 ?_
  refine tt_cOV F (As := [.int (iZ x), .int (iZ y)]) [] 0 rfl rfl (o_isPlace (hM := hM) (rM := rM) (tM := tM) (wM := wM) (mp := mp) (mk := mk) (wh := wh) (sM := sM) (hi := hi) (vS := vS) (cd := cd) (mn := mn) hg (by omega) (by omega)) (cwV 2 F.1.2.2.2.2 (gw_V wd770 wd772 wd30 wd53 wd773) rfl rfl rfl (by decide +kernel) ⟨(Nat.le_of_ble_eq_true rfl), (Nat.le_of_ble_eq_true rfl)⟩) rfl rfl rfl (Nat.le_of_ble_eq_true rfl) ⟨(Nat.le_of_ble_eq_true rfl), (Nat.le_of_ble_eq_true rfl)⟩ dMO_touched_4 (fun v4 hp => ?_)
  obtain ⟨z4, rfl, hz4⟩ := hp
  have hb4 := zb_b hz4
  refine tt_if_eq F 18 ⟨by omega, by omega⟩ dMO_touched_7 (by decide) (fun c7 => ?_) (fun c7 => ?_)
  · skip
    refine tt_iconst F dMO_touched_18 ?_
    refine tt_put F (fun h => h) inMO tyMO tyMO_ok nmMO 0 rfl rfl 0 (by decide) we698 rfl rfl rfl rfl (show (0 : Nat) + 1 ≤ _ from Nat.le_of_ble_eq_true rfl) dMO_touched_19 ?_
    refine tt_aload_n F 0 rfl rfl dMO_touched_22 ?_
    refine tt_get F inMO 0 rfl rfl 0 (by decide) we698 rfl dMO_touched_23 ?_
    refine tt_if_le F 31 ⟨by omega, by omega⟩ dMO_touched_26 (by decide) (fun c26 => ?_) (fun c26 => ?_)
    · skip
      exact absurd c26 (by omega)
    · skip
      refine tt_iconst F dMO_touched_29 ?_
      exact tt_iret F rfl (Nat.le_of_ble_eq_true rfl) (Nat.le_of_ble_eq_true rfl) dMO_touched_30 rfl
  · skip
    refine tt_iload_n F 3 rfl rfl dMO_touched_10 ?_
    refine tt_if_lt F 18 ⟨by omega, by omega⟩ dMO_touched_11 (by decide) (fun c11 => ?_) (fun c11 => ?_)
    · skip
      refine tt_iconst F dMO_touched_18 ?_
      refine tt_put F (fun h => h) inMO tyMO tyMO_ok nmMO 0 rfl rfl 0 (by decide) we698 rfl rfl rfl rfl (show (0 : Nat) + 1 ≤ _ from Nat.le_of_ble_eq_true rfl) dMO_touched_19 ?_
      refine tt_aload_n F 0 rfl rfl dMO_touched_22 ?_
      refine tt_get F inMO 0 rfl rfl 0 (by decide) we698 rfl dMO_touched_23 ?_
      refine tt_if_le F 31 ⟨by omega, by omega⟩ dMO_touched_26 (by decide) (fun c26 => ?_) (fun c26 => ?_)
      · skip
        exact absurd c26 (by omega)
      · skip
        refine tt_iconst F dMO_touched_29 ?_
        exact tt_iret F rfl (Nat.le_of_ble_eq_true rfl) (Nat.le_of_ble_eq_true rfl) dMO_touched_30 rfl
    · skip
      exact (h (by omega)).elim
abbrev rmMO_higher : Room := { frames := 4, cells := 0, slots := 0, locals := 92 }
set_option maxHeartbeats 4000000 in
set_option maxRecDepth 100000 in
theorem c_higherM {x y x2 y2 : Int} (hg : 1 ≤ W ∧ W ≤ 12 ∧ 1 ≤ D_ ∧ D_ ≤ 12 ∧ 1 ≤ r ∧ r ≤ 10) (hB : ∀ k, 0 ≤ k → k < 144 → (0 ≤ hM k ∧ hM k ≤ 200) ∧ 0 ≤ rM k ∧ rM k ≤ 50) (hpl : (-r ≤ x ∧ x < W + r) ∧ -r ≤ y ∧ y < D_ + r) (hpl2 : (-r ≤ x2 ∧ x2 < W + r) ∧ -r ≤ y2 ∧ y2 < D_ + r) : CI l D vwCl cI cZ cJ SL yMO_higher wsMO_higher rmMO_higher [.ref (ad 0), .int (iZ x), .int (iZ y), .int (iZ x2), .int (iZ y2)] (mW cI cZ ad W D_ r hM rM tM wM mp mk wh sM hi vS cd mn) (fun z w1 => ∃ (t' wh' sM' : Int → Int) (L L2 : Int), w1 = (mW cI cZ ad W D_ r hM rM t' wM mp mk wh' sM' hi vS 0 mn) ∧ mR W D_ r x y (fun k => hM k + rM k) 144 L ∧ mR W D_ r x2 y2 (fun k => hM k + rM k) 144 L2 ∧ ((z = -1 ∧ L < L2) ∨ (z = 0 ∧ L = L2) ∨ (z = 1 ∧ L2 < L))) := by
  refine tt_startI (by decide) rfl (Nat.le_of_ble_eq_true rfl) ?_
  intro p e s m args below meth c hnm F
  obtain ⟨hW1, hW2, hD1, hD2, hr1, hr2⟩ := id hg
  have hrr := rr_b hr1 hr2
  have hPL := pl_b hW1 hW2 hD1 hD2 hr1 hr2
  have hpi := pl_in (W := W) (D_ := D_) (r := r) hpl.1.1 hpl.1.2 hpl.2.1 hpl.2.2
  have hat := pl_at (W := W) (r := r) (x := x) (y := y) hpl.1.1 hpl.1.2
  have hpi2 := pl_in (W := W) (D_ := D_) (r := r) hpl2.1.1 hpl2.1.2 hpl2.2.1 hpl2.2.2
  have hat2 := pl_at (W := W) (r := r) (x := x2) (y := y2) hpl2.1.1 hpl2.1.2
  refine tt_aload_n F 0 rfl rfl dMO_higher_0 ?_
  refine tt_aload_n F 0 rfl rfl dMO_higher_1 ?_
  refine tt_iload_n F 1 rfl rfl dMO_higher_2 ?_
  refine tt_iload_n F 2 rfl rfl dMO_higher_3 ?_
  refine tt_cOV F (As := [.int (iZ x), .int (iZ y)]) [] 0 rfl rfl (o_isPlace (hM := hM) (rM := rM) (tM := tM) (wM := wM) (mp := mp) (mk := mk) (wh := wh) (sM := sM) (hi := hi) (vS := vS) (cd := cd) (mn := mn) hg (by omega) (by omega)) (cwV 2 F.1.2.2.2.2 (gw_V wd770 wd772 wd30 wd53 wd773) rfl rfl rfl (by decide +kernel) ⟨(Nat.le_of_ble_eq_true rfl), (Nat.le_of_ble_eq_true rfl)⟩) rfl rfl rfl (Nat.le_of_ble_eq_true rfl) ⟨(Nat.le_of_ble_eq_true rfl), (Nat.le_of_ble_eq_true rfl)⟩ dMO_higher_4 (fun v4 hp => ?_)
  obtain ⟨z4, rfl, hz4⟩ := hp
  have hb4 := zb_b hz4
  refine tt_if_eq F 24 ⟨by omega, by omega⟩ dMO_higher_7 (by decide) (fun c7 => ?_) (fun c7 => ?_)
  · skip
    exfalso; omega
  · skip
    refine tt_aload_n F 0 rfl rfl dMO_higher_10 ?_
    refine tt_iload_n F 3 rfl rfl dMO_higher_11 ?_
    refine tt_iload F 4 rfl dMO_higher_12 ?_
    refine tt_cOV F (As := [.int (iZ x2), .int (iZ y2)]) [] 0 rfl rfl (o_isPlace (hM := hM) (rM := rM) (tM := tM) (wM := wM) (mp := mp) (mk := mk) (wh := wh) (sM := sM) (hi := hi) (vS := vS) (cd := cd) (mn := mn) hg (by omega) (by omega)) (cwV 2 F.1.2.2.2.2 (gw_V wd770 wd772 wd30 wd53 wd773) rfl rfl rfl (by decide +kernel) ⟨(Nat.le_of_ble_eq_true rfl), (Nat.le_of_ble_eq_true rfl)⟩) rfl rfl rfl (Nat.le_of_ble_eq_true rfl) ⟨(Nat.le_of_ble_eq_true rfl), (Nat.le_of_ble_eq_true rfl)⟩ dMO_higher_14 (fun v14 hp => ?_)
    obtain ⟨z14, rfl, hz14⟩ := hp
    have hb14 := zb_b hz14
    refine tt_if_eq F 24 ⟨by omega, by omega⟩ dMO_higher_17 (by decide) (fun c17 => ?_) (fun c17 => ?_)
    · skip
      exfalso; omega
    · skip
      refine tt_iconst F dMO_higher_20 ?_
      refine tt_goto F 25 (by decide) dMO_higher_21 ?_
      refine tt_put F (fun h => h) inMO tyMO tyMO_ok nmMO 0 rfl rfl 0 (by decide) we698 rfl rfl rfl rfl (show (0 : Nat) + 1 ≤ _ from Nat.le_of_ble_eq_true rfl) dMO_higher_25 ?_
      refine tt_aload_n F 0 rfl rfl dMO_higher_28 ?_
      refine tt_get F inMO 0 rfl rfl 0 (by decide) we698 rfl dMO_higher_29 ?_
      refine tt_if_le F 37 ⟨by omega, by omega⟩ dMO_higher_32 (by decide) (fun c32 => ?_) (fun c32 => ?_)
      · skip
        refine tt_aload_n F 0 rfl rfl dMO_higher_37 ?_
        refine tt_cVV0 F (fun h => h) (As := []) 0 rfl rfl (c_stand (hM := hM) (rM := rM) (tM := tM) (wM := wM) (mp := mp) (mk := mk) (wh := wh) (sM := sM) (hi := hi) (vS := vS) (cd := 0) (mn := mn)) (cwV 0 F.1.2.2.2.2 (gw_V wd774 wd776 wd31 wd53 wd777) rfl rfl rfl (by decide +kernel) ⟨(Nat.le_of_ble_eq_true rfl), (Nat.le_of_ble_eq_true rfl)⟩) rfl rfl rfl (Nat.le_of_ble_eq_true rfl) ⟨(Nat.le_of_ble_eq_true rfl), (Nat.le_of_ble_eq_true rfl)⟩ dMO_higher_38 (fun w1 hp => ?_)
        obtain ⟨t38, rfl, ht38⟩ := hp
        refine tt_aload_n F 0 rfl rfl dMO_higher_41 ?_
        refine tt_iload_n F 1 rfl rfl dMO_higher_42 ?_
        refine tt_iload_n F 2 rfl rfl dMO_higher_43 ?_
        refine tt_cVV0 F (fun h => h) (As := [.int (iZ x), .int (iZ y)]) 0 rfl rfl (c_restAtM (hM := hM) (rM := rM) (tM := t38) (wM := wM) (mp := mp) (mk := mk) (wh := wh) (sM := sM) (hi := hi) (vS := vS) (cd := 0) (mn := mn) (x := x) (y := y) hg (by omega) (fun k k0 k1 => by rw [ht38 k k0 k1]; have := hB k k0 k1; omega)) (cwV 2 F.1.2.2.2.2 (gw_V wd778 wd780 wd32 wd53 wd781) rfl rfl rfl (by decide +kernel) ⟨(Nat.le_of_ble_eq_true rfl), (Nat.le_of_ble_eq_true rfl)⟩) rfl rfl rfl (Nat.le_of_ble_eq_true rfl) ⟨(Nat.le_of_ble_eq_true rfl), (Nat.le_of_ble_eq_true rfl)⟩ dMO_higher_44 (fun w1 hp => ?_)
        obtain ⟨wh44, sM44, rfl, hR44, hO44⟩ := hp
        refine tt_aload_n F 0 rfl rfl dMO_higher_47 ?_
        refine tt_iload_n F 3 rfl rfl dMO_higher_48 ?_
        refine tt_iload F 4 rfl dMO_higher_49 ?_
        refine tt_cVV0 F (fun h => h) (As := [.int (iZ x2), .int (iZ y2)]) 0 rfl rfl (c_restAtM (hM := hM) (rM := rM) (tM := t38) (wM := wM) (mp := mp) (mk := mk) (wh := wh44) (sM := sM44) (hi := hi) (vS := vS) (cd := 0) (mn := mn) (x := x2) (y := y2) hg (by omega) (fun k k0 k1 => by rw [ht38 k k0 k1]; have := hB k k0 k1; omega)) (cwV 2 F.1.2.2.2.2 (gw_V wd778 wd780 wd32 wd53 wd781) rfl rfl rfl (by decide +kernel) ⟨(Nat.le_of_ble_eq_true rfl), (Nat.le_of_ble_eq_true rfl)⟩) rfl rfl rfl (Nat.le_of_ble_eq_true rfl) ⟨(Nat.le_of_ble_eq_true rfl), (Nat.le_of_ble_eq_true rfl)⟩ dMO_higher_51 (fun w1 hp => ?_)
        obtain ⟨wh51, sM51, rfl, hR51, hO51⟩ := hp
        have hRp : RST W D_ r t38 wh51 sM51 ((y + r) * (W + 2 * r) + (x + r)) := if e : ((y + r) * (W + 2 * r) + (x + r)) = ((y2 + r) * (W + 2 * r) + (x2 + r)) then (by rw [e]; exact hR51) else (by have o := hO51 _ e; have q := hR44; refine ⟨by rw [o.1]; exact q.1, by rw [o.2]; exact q.2.1, ?_⟩; have q2 := q.2.2; rw [LV] at q2 ⊢; rw [o.1, o.2]; exact q2)
        have hm1 := mR_c (t' := (fun k => hM k + rM k)) (Int.le_refl 144) (fun k k0 k1 => (ht38 k k0 k1).symm) hRp.2.2
        have hm2 := mR_c (t' := (fun k => hM k + rM k)) (Int.le_refl 144) (fun k k0 k1 => (ht38 k k0 k1).symm) hR51.2.2
        rw [hat.1, hat.2] at hm1
        rw [hat2.1, hat2.2] at hm2
        have b1 := hRp.1
        have b2 := hRp.2.1
        have b3 := hR51.1
        have b4 := hR51.2.1
        refine tt_aload_n F 0 rfl rfl dMO_higher_54 ?_
        refine tt_iload_n F 1 rfl rfl dMO_higher_55 ?_
        refine tt_iload_n F 2 rfl rfl dMO_higher_56 ?_
        refine tt_cOV F (As := [.int (iZ x), .int (iZ y)]) [] 0 rfl rfl (o_placeAt (hM := hM) (rM := rM) (tM := t38) (wM := wM) (mp := mp) (mk := mk) (wh := wh51) (sM := sM51) (hi := hi) (vS := vS) (cd := 0) (mn := mn)) (cwV 2 F.1.2.2.2.2 (gw_V wd782 wd784 wd33 wd53 wd785) rfl rfl rfl (by decide +kernel) ⟨(Nat.le_of_ble_eq_true rfl), (Nat.le_of_ble_eq_true rfl)⟩) rfl rfl rfl (Nat.le_of_ble_eq_true rfl) ⟨(Nat.le_of_ble_eq_true rfl), (Nat.le_of_ble_eq_true rfl)⟩ dMO_higher_57 (fun v57 hp => ?_)
        subst hp
        refine tt_istore F [(5, .int (iZ ((y + r) * (W + 2 * r) + (x + r)))), (0, .ref (ad 0)), (1, .int (iZ x)), (2, .int (iZ y)), (3, .int (iZ x2)), (4, .int (iZ y2))] (by decide) rfl dMO_higher_60 ?_
        refine tt_aload_n F 1 rfl rfl dMO_higher_62 ?_
        refine tt_iload_n F 4 rfl rfl dMO_higher_63 ?_
        refine tt_iload F 5 rfl dMO_higher_64 ?_
        refine tt_cOV F (As := [.int (iZ x2), .int (iZ y2)]) [] 0 rfl rfl (o_placeAt (hM := hM) (rM := rM) (tM := t38) (wM := wM) (mp := mp) (mk := mk) (wh := wh51) (sM := sM51) (hi := hi) (vS := vS) (cd := 0) (mn := mn)) (cwV 2 F.1.2.2.2.2 (gw_V wd782 wd784 wd33 wd53 wd785) rfl rfl rfl (by decide +kernel) ⟨(Nat.le_of_ble_eq_true rfl), (Nat.le_of_ble_eq_true rfl)⟩) rfl rfl rfl (Nat.le_of_ble_eq_true rfl) ⟨(Nat.le_of_ble_eq_true rfl), (Nat.le_of_ble_eq_true rfl)⟩ dMO_higher_66 (fun v66 hp => ?_)
        subst hp
        refine tt_istore F [(6, .int (iZ ((y2 + r) * (W + 2 * r) + (x2 + r)))), (5, .int (iZ ((y + r) * (W + 2 * r) + (x + r)))), (0, .ref (ad 0)), (1, .int (iZ x)), (2, .int (iZ y)), (3, .int (iZ x2)), (4, .int (iZ y2))] (by decide) rfl dMO_higher_69 ?_
        refine tt_aload_n F 2 rfl rfl dMO_higher_71 ?_
        refine tt_get F inMO 0 rfl rfl 11 (by decide) we709 rfl dMO_higher_72 ?_
        refine tt_iload F 1 rfl dMO_higher_75 ?_
        refine tt_iald F 7 rfl (by omega) (by omega) (by omega) dMO_higher_77 ?_
        refine tt_aload_n F 2 rfl rfl dMO_higher_78 ?_
        refine tt_get F inMO 0 rfl rfl 12 (by decide) we710 rfl dMO_higher_79 ?_
        refine tt_iload F 1 rfl dMO_higher_82 ?_
        refine tt_iald F 8 rfl (by omega) (by omega) (by omega) dMO_higher_84 ?_
        refine tt_aload_n F 2 rfl rfl dMO_higher_85 ?_
        refine tt_get F inMO 0 rfl rfl 11 (by decide) we709 rfl dMO_higher_86 ?_
        refine tt_iload F 0 rfl dMO_higher_89 ?_
        refine tt_iald F 7 rfl (by omega) (by omega) (by omega) dMO_higher_91 ?_
        refine tt_aload_n F 2 rfl rfl dMO_higher_92 ?_
        refine tt_get F inMO 0 rfl rfl 12 (by decide) we710 rfl dMO_higher_93 ?_
        refine tt_iload F 0 rfl dMO_higher_96 ?_
        refine tt_iald F 8 rfl (by omega) (by omega) (by omega) dMO_higher_98 ?_
        refine tt_cOS F (As := [.int (iZ (wh51 ((y + r) * (W + 2 * r) + (x + r)))), .int (iZ (sM51 ((y + r) * (W + 2 * r) + (x + r)))), .int (iZ (wh51 ((y2 + r) * (W + 2 * r) + (x2 + r)))), .int (iZ (sM51 ((y2 + r) * (W + 2 * r) + (x2 + r))))]) [] (o_cmp (by omega) (by omega) (by omega) (by omega) (by omega)) (va_cwS 4 F.1.2.2.2.2 (gw_S wd798 wd799 wd53 wd800) rfl rfl rfl (by decide +kernel) ⟨(Nat.le_of_ble_eq_true rfl), (Nat.le_of_ble_eq_true rfl)⟩) rfl rfl rfl (Nat.le_of_ble_eq_true rfl) ⟨(Nat.le_of_ble_eq_true rfl), (Nat.le_of_ble_eq_true rfl)⟩ dMO_higher_99 (fun v99 hp => ?_)
        obtain ⟨z99, rfl, hz99⟩ := hp
        exact tt_iret F rfl (Nat.le_of_ble_eq_true rfl) (Nat.le_of_ble_eq_true rfl) dMO_higher_102 ⟨t38, wh51, sM51, _, _, rfl, hm1, hm2, hz99⟩
      · skip
        exact absurd c32 (by omega)
set_option maxHeartbeats 4000000 in
set_option maxRecDepth 100000 in
theorem n_higherM {x y x2 y2 : Int} (hg : 1 ≤ W ∧ W ≤ 12 ∧ 1 ≤ D_ ∧ D_ ≤ 12 ∧ 1 ≤ r ∧ r ≤ 10) (hx : ir x) (hy : ir y) (hx2 : ir x2) (hy2 : ir y2) (h : ¬ (((-r ≤ x ∧ x < W + r) ∧ -r ≤ y ∧ y < D_ + r) ∧ ((-r ≤ x2 ∧ x2 < W + r) ∧ -r ≤ y2 ∧ y2 < D_ + r))) : CI l D vwCl cI cZ cJ SL yMO_higher wsMO_higher rmMO_higher [.ref (ad 0), .int (iZ x), .int (iZ y), .int (iZ x2), .int (iZ y2)] (mW cI cZ ad W D_ r hM rM tM wM mp mk wh sM hi vS cd mn) (fun z w1 => w1 = (mW cI cZ ad W D_ r hM rM tM wM mp mk wh sM hi vS 1 mn)) := by
  refine tt_startI (by decide) rfl (Nat.le_of_ble_eq_true rfl) ?_
  intro p e s m args below meth c hnm F
  obtain ⟨hW1, hW2, hD1, hD2, hr1, hr2⟩ := id hg
  refine tt_aload_n F 0 rfl rfl dMO_higher_0 ?_
  refine tt_aload_n F 0 rfl rfl dMO_higher_1 ?_
  refine tt_iload_n F 1 rfl rfl dMO_higher_2 ?_
  refine tt_iload_n F 2 rfl rfl dMO_higher_3 ?_
  refine tt_cOV F (As := [.int (iZ x), .int (iZ y)]) [] 0 rfl rfl (o_isPlace (hM := hM) (rM := rM) (tM := tM) (wM := wM) (mp := mp) (mk := mk) (wh := wh) (sM := sM) (hi := hi) (vS := vS) (cd := cd) (mn := mn) hg (by omega) (by omega)) (cwV 2 F.1.2.2.2.2 (gw_V wd770 wd772 wd30 wd53 wd773) rfl rfl rfl (by decide +kernel) ⟨(Nat.le_of_ble_eq_true rfl), (Nat.le_of_ble_eq_true rfl)⟩) rfl rfl rfl (Nat.le_of_ble_eq_true rfl) ⟨(Nat.le_of_ble_eq_true rfl), (Nat.le_of_ble_eq_true rfl)⟩ dMO_higher_4 (fun v4 hp => ?_)
  obtain ⟨z4, rfl, hz4⟩ := hp
  have hb4 := zb_b hz4
  refine tt_if_eq F 24 ⟨by omega, by omega⟩ dMO_higher_7 (by decide) (fun c7 => ?_) (fun c7 => ?_)
  · skip
    refine tt_iconst F dMO_higher_24 ?_
    refine tt_put F (fun h => h) inMO tyMO tyMO_ok nmMO 0 rfl rfl 0 (by decide) we698 rfl rfl rfl rfl (show (0 : Nat) + 1 ≤ _ from Nat.le_of_ble_eq_true rfl) dMO_higher_25 ?_
    refine tt_aload_n F 0 rfl rfl dMO_higher_28 ?_
    refine tt_get F inMO 0 rfl rfl 0 (by decide) we698 rfl dMO_higher_29 ?_
    refine tt_if_le F 37 ⟨by omega, by omega⟩ dMO_higher_32 (by decide) (fun c32 => ?_) (fun c32 => ?_)
    · skip
      exact absurd c32 (by omega)
    · skip
      refine tt_iconst F dMO_higher_35 ?_
      exact tt_iret F rfl (Nat.le_of_ble_eq_true rfl) (Nat.le_of_ble_eq_true rfl) dMO_higher_36 rfl
  · skip
    refine tt_aload_n F 0 rfl rfl dMO_higher_10 ?_
    refine tt_iload_n F 3 rfl rfl dMO_higher_11 ?_
    refine tt_iload F 4 rfl dMO_higher_12 ?_
    refine tt_cOV F (As := [.int (iZ x2), .int (iZ y2)]) [] 0 rfl rfl (o_isPlace (hM := hM) (rM := rM) (tM := tM) (wM := wM) (mp := mp) (mk := mk) (wh := wh) (sM := sM) (hi := hi) (vS := vS) (cd := cd) (mn := mn) hg (by omega) (by omega)) (cwV 2 F.1.2.2.2.2 (gw_V wd770 wd772 wd30 wd53 wd773) rfl rfl rfl (by decide +kernel) ⟨(Nat.le_of_ble_eq_true rfl), (Nat.le_of_ble_eq_true rfl)⟩) rfl rfl rfl (Nat.le_of_ble_eq_true rfl) ⟨(Nat.le_of_ble_eq_true rfl), (Nat.le_of_ble_eq_true rfl)⟩ dMO_higher_14 (fun v14 hp => ?_)
    obtain ⟨z14, rfl, hz14⟩ := hp
    have hb14 := zb_b hz14
    refine tt_if_eq F 24 ⟨by omega, by omega⟩ dMO_higher_17 (by decide) (fun c17 => ?_) (fun c17 => ?_)
    · skip
      refine tt_iconst F dMO_higher_24 ?_
      refine tt_put F (fun h => h) inMO tyMO tyMO_ok nmMO 0 rfl rfl 0 (by decide) we698 rfl rfl rfl rfl (show (0 : Nat) + 1 ≤ _ from Nat.le_of_ble_eq_true rfl) dMO_higher_25 ?_
      refine tt_aload_n F 0 rfl rfl dMO_higher_28 ?_
      refine tt_get F inMO 0 rfl rfl 0 (by decide) we698 rfl dMO_higher_29 ?_
      refine tt_if_le F 37 ⟨by omega, by omega⟩ dMO_higher_32 (by decide) (fun c32 => ?_) (fun c32 => ?_)
      · skip
        exact absurd c32 (by omega)
      · skip
        refine tt_iconst F dMO_higher_35 ?_
        exact tt_iret F rfl (Nat.le_of_ble_eq_true rfl) (Nat.le_of_ble_eq_true rfl) dMO_higher_36 rfl
    · skip
      exact (h (by omega)).elim
abbrev rmMO_tops : Room := { frames := 5, cells := 0, slots := 0, locals := 115 }
set_option maxHeartbeats 4000000 in
set_option maxRecDepth 100000 in
theorem lp_topsM  (F : FX p s m args meth c cMO_tops 5 (some .int) wsMO_tops RMO D vwCl cI cZ cJ SL A) (hg : 1 ≤ W ∧ W ≤ 12 ∧ 1 ≤ D_ ∧ D_ ≤ 12 ∧ 1 ≤ r ∧ r ≤ 10) (hRL : RLI W D_ r tM wh sM hi ((W + 2 * r) * (D_ + 2 * r)))
    (k95 : ∀ (bst : Int) (n_ : Int) (p_ : Int), (TPI wh sM ((W + 2 * r) * (D_ + 2 * r)) ((W + 2 * r) * (D_ + 2 * r)) bst n_) → TT p l e rmMO_tops s m args below meth c D vwCl A 5 False Q 95 [(2, .int (iZ n_))] [] (mW cI cZ ad W D_ r hM rM tM wM mp mk wh sM hi vS cd mn) 0 0) :
    ∀ (n : Nat) (bst : Int) (n_ : Int) (p_ : Int), (((W + 2 * r) * (D_ + 2 * r)) - p_).toNat < n → (0 ≤ p_ ∧ p_ ≤ ((W + 2 * r) * (D_ + 2 * r))) → (TPI wh sM ((W + 2 * r) * (D_ + 2 * r)) p_ bst n_) → TT p l e rmMO_tops s m args below meth c D vwCl A 5 False Q 19 [(0, .ref (ad 0)), (1, .int (iZ bst)), (2, .int (iZ n_)), (3, .int (iZ p_))] [] (mW cI cZ ad W D_ r hM rM tM wM mp mk wh sM hi vS cd mn) 0 0 := by
  intro n
  induction n with
  | zero => intro bst n_ p_ hn; omega
  | succ n ih =>
    intro bst n_ p_ hn hk I
    obtain ⟨hW1, hW2, hD1, hD2, hr1, hr2⟩ := id hg
    have hrr := rr_b hr1 hr2
    have hPL := pl_b hW1 hW2 hD1 hD2 hr1 hr2
    refine tt_iload_n F 3 rfl rfl dMO_tops_19 ?_
    refine tt_aload_n F 0 rfl rfl dMO_tops_20 ?_
    refine tt_cOV F (As := []) [] 0 rfl rfl (o_places (hM := hM) (rM := rM) (tM := tM) (wM := wM) (mp := mp) (mk := mk) (wh := wh) (sM := sM) (hi := hi) (vS := vS) (cd := cd) (mn := mn)) (cwV 0 F.1.2.2.2.2 (gw_V wd824 wd826 wd39 wd53 wd827) rfl rfl rfl (by decide +kernel) ⟨(Nat.le_of_ble_eq_true rfl), (Nat.le_of_ble_eq_true rfl)⟩) rfl rfl rfl (Nat.le_of_ble_eq_true rfl) ⟨(Nat.le_of_ble_eq_true rfl), (Nat.le_of_ble_eq_true rfl)⟩ dMO_tops_21 (fun v21 hp => ?_)
    subst hp
    refine tt_icmp_ge F 95 ⟨by omega, by omega⟩ ⟨by omega, by omega⟩ dMO_tops_24 (by decide) (fun c24 => ?_) (fun c24 => ?_)
    · skip
      refine tt_sub [2] rfl ?_
      exact k95 bst n_ p_ (by have e : p_ = ((W + 2 * r) * (D_ + 2 * r)) := (by omega); rw [e] at I; exact I)
    · skip
      have hb1 := hRL.1 p_ (by omega) (by omega)
      have hb2 := hRL.1 bst I.1.1 I.1.2
      have g1 := hb1.1
      have g2 := hb1.2.1
      have g3 := hb2.1
      have g4 := hb2.2.1
      have g5 := I.1
      have e1 : LV wh sM p_ = wh p_ * 1048576 + rt (sM p_) := rfl
      have e2 : LV wh sM bst = wh bst * 1048576 + rt (sM bst) := rfl
      refine tt_aload_n F 0 rfl rfl dMO_tops_27 ?_
      refine tt_get F inMO 0 rfl rfl 11 (by decide) we709 rfl dMO_tops_28 ?_
      refine tt_iload_n F 3 rfl rfl dMO_tops_31 ?_
      refine tt_iald F 7 rfl (by omega) (by omega) (by omega) dMO_tops_32 ?_
      refine tt_aload_n F 0 rfl rfl dMO_tops_33 ?_
      refine tt_get F inMO 0 rfl rfl 12 (by decide) we710 rfl dMO_tops_34 ?_
      refine tt_iload_n F 3 rfl rfl dMO_tops_37 ?_
      refine tt_iald F 8 rfl (by omega) (by omega) (by omega) dMO_tops_38 ?_
      refine tt_aload_n F 0 rfl rfl dMO_tops_39 ?_
      refine tt_get F inMO 0 rfl rfl 11 (by decide) we709 rfl dMO_tops_40 ?_
      refine tt_iload_n F 1 rfl rfl dMO_tops_43 ?_
      refine tt_iald F 7 rfl (by omega) (by omega) (by omega) dMO_tops_44 ?_
      refine tt_aload_n F 0 rfl rfl dMO_tops_45 ?_
      refine tt_get F inMO 0 rfl rfl 12 (by decide) we710 rfl dMO_tops_46 ?_
      refine tt_iload_n F 1 rfl rfl dMO_tops_49 ?_
      refine tt_iald F 8 rfl (by omega) (by omega) (by omega) dMO_tops_50 ?_
      refine tt_cOS F (As := [.int (iZ (wh p_)), .int (iZ (sM p_)), .int (iZ (wh bst)), .int (iZ (sM bst))]) [] (o_cmp (by omega) (by omega) (by omega) (by omega) (by omega)) (va_cwS 4 F.1.2.2.2.2 (gw_S wd798 wd799 wd53 wd800) rfl rfl rfl (by decide +kernel) ⟨(Nat.le_of_ble_eq_true rfl), (Nat.le_of_ble_eq_true rfl)⟩) rfl rfl rfl (Nat.le_of_ble_eq_true rfl) ⟨(Nat.le_of_ble_eq_true rfl), (Nat.le_of_ble_eq_true rfl)⟩ dMO_tops_51 (fun v51 hp => ?_)
      obtain ⟨z51, rfl, hz51⟩ := hp
      refine tt_istore F [(4, .int (iZ z51)), (0, .ref (ad 0)), (1, .int (iZ bst)), (2, .int (iZ n_)), (3, .int (iZ p_))] (by decide) rfl dMO_tops_54 ?_
      refine tt_iload F 0 rfl dMO_tops_56 ?_
      refine tt_if_le F 65 ⟨by omega, by omega⟩ dMO_tops_58 (by decide) (fun c58 => ?_) (fun c58 => ?_)
      · skip
        refine tt_iload F 0 rfl dMO_tops_65 ?_
        refine tt_if_ne F 76 ⟨by omega, by omega⟩ dMO_tops_67 (by decide) (fun c67 => ?_) (fun c67 => ?_)
        · skip
          refine tt_iload_n F 3 rfl rfl dMO_tops_76 ?_
          refine tt_istore_n F [(2, .int (iZ n_)), (4, .int (iZ z51)), (0, .ref (ad 0)), (1, .int (iZ bst)), (3, .int (iZ p_))] rfl (by decide) rfl dMO_tops_77 ?_
          refine tt_iload F 1 rfl dMO_tops_78 ?_
          refine tt_if_le F 87 ⟨by omega, by omega⟩ dMO_tops_80 (by decide) (fun c80 => ?_) (fun c80 => ?_)
          · skip
            refine tt_iload_n F 3 rfl rfl dMO_tops_87 ?_
            refine tt_istore_n F [(1, .int (iZ bst)), (2, .int (iZ n_)), (4, .int (iZ z51)), (0, .ref (ad 0)), (3, .int (iZ p_))] rfl (by decide) rfl dMO_tops_88 ?_
            refine tt_iinc F 4 [(3, .int (iZ (p_ + 1))), (1, .int (iZ bst)), (2, .int (iZ n_)), (4, .int (iZ z51)), (0, .ref (ad 0))] rfl (by decide) rfl dMO_tops_89 ?_
            refine tt_goto F 19 (by decide) dMO_tops_92 ?_
            refine tt_sub [4, 1, 2, 0] rfl ?_
            exact ih bst n_ (p_ + 1) (by omega) (⟨by omega, by omega⟩) (tp_lt (by omega) (by omega) I)
          · skip
            refine tt_iload_n F 4 rfl rfl dMO_tops_83 ?_
            refine tt_goto F 88 (by decide) dMO_tops_84 ?_
            refine tt_istore_n F [(1, .int (iZ p_)), (2, .int (iZ n_)), (4, .int (iZ z51)), (0, .ref (ad 0)), (3, .int (iZ p_))] rfl (by decide) rfl dMO_tops_88 ?_
            refine tt_iinc F 4 [(3, .int (iZ (p_ + 1))), (1, .int (iZ p_)), (2, .int (iZ n_)), (4, .int (iZ z51)), (0, .ref (ad 0))] rfl (by decide) rfl dMO_tops_89 ?_
            refine tt_goto F 19 (by decide) dMO_tops_92 ?_
            refine tt_sub [4, 1, 2, 0] rfl ?_
            exact ih p_ n_ (p_ + 1) (by omega) (⟨by omega, by omega⟩) (absurd c80 (by omega))
        · skip
          refine tt_iload_n F 3 rfl rfl dMO_tops_70 ?_
          refine tt_iconst F dMO_tops_71 ?_
          refine tt_iadd F dMO_tops_72 ?_
          refine tt_goto F 77 (by decide) dMO_tops_73 ?_
          refine tt_istore_n F [(2, .int (iZ (n_ + 1))), (4, .int (iZ z51)), (0, .ref (ad 0)), (1, .int (iZ bst)), (3, .int (iZ p_))] rfl (by decide) rfl dMO_tops_77 ?_
          refine tt_iload F 1 rfl dMO_tops_78 ?_
          refine tt_if_le F 87 ⟨by omega, by omega⟩ dMO_tops_80 (by decide) (fun c80 => ?_) (fun c80 => ?_)
          · skip
            refine tt_iload_n F 3 rfl rfl dMO_tops_87 ?_
            refine tt_istore_n F [(1, .int (iZ bst)), (2, .int (iZ (n_ + 1))), (4, .int (iZ z51)), (0, .ref (ad 0)), (3, .int (iZ p_))] rfl (by decide) rfl dMO_tops_88 ?_
            refine tt_iinc F 4 [(3, .int (iZ (p_ + 1))), (1, .int (iZ bst)), (2, .int (iZ (n_ + 1))), (4, .int (iZ z51)), (0, .ref (ad 0))] rfl (by decide) rfl dMO_tops_89 ?_
            refine tt_goto F 19 (by decide) dMO_tops_92 ?_
            refine tt_sub [4, 1, 2, 0] rfl ?_
            exact ih bst (n_ + 1) (p_ + 1) (by omega) (⟨by omega, by omega⟩) (tp_eq (by omega) (by omega) I)
          · skip
            refine tt_iload_n F 4 rfl rfl dMO_tops_83 ?_
            refine tt_goto F 88 (by decide) dMO_tops_84 ?_
            refine tt_istore_n F [(1, .int (iZ p_)), (2, .int (iZ (n_ + 1))), (4, .int (iZ z51)), (0, .ref (ad 0)), (3, .int (iZ p_))] rfl (by decide) rfl dMO_tops_88 ?_
            refine tt_iinc F 4 [(3, .int (iZ (p_ + 1))), (1, .int (iZ p_)), (2, .int (iZ (n_ + 1))), (4, .int (iZ z51)), (0, .ref (ad 0))] rfl (by decide) rfl dMO_tops_89 ?_
            refine tt_goto F 19 (by decide) dMO_tops_92 ?_
            refine tt_sub [4, 1, 2, 0] rfl ?_
            exact ih p_ (n_ + 1) (p_ + 1) (by omega) (⟨by omega, by omega⟩) (absurd c80 (by omega))
      · skip
        refine tt_iconst F dMO_tops_61 ?_
        refine tt_goto F 77 (by decide) dMO_tops_62 ?_
        refine tt_istore_n F [(2, .int (iZ 1)), (4, .int (iZ z51)), (0, .ref (ad 0)), (1, .int (iZ bst)), (3, .int (iZ p_))] rfl (by decide) rfl dMO_tops_77 ?_
        refine tt_iload F 1 rfl dMO_tops_78 ?_
        refine tt_if_le F 87 ⟨by omega, by omega⟩ dMO_tops_80 (by decide) (fun c80 => ?_) (fun c80 => ?_)
        · skip
          refine tt_iload_n F 3 rfl rfl dMO_tops_87 ?_
          refine tt_istore_n F [(1, .int (iZ bst)), (2, .int (iZ 1)), (4, .int (iZ z51)), (0, .ref (ad 0)), (3, .int (iZ p_))] rfl (by decide) rfl dMO_tops_88 ?_
          refine tt_iinc F 4 [(3, .int (iZ (p_ + 1))), (1, .int (iZ bst)), (2, .int (iZ 1)), (4, .int (iZ z51)), (0, .ref (ad 0))] rfl (by decide) rfl dMO_tops_89 ?_
          refine tt_goto F 19 (by decide) dMO_tops_92 ?_
          refine tt_sub [4, 1, 2, 0] rfl ?_
          exact ih bst 1 (p_ + 1) (by omega) (⟨by omega, by omega⟩) (absurd c58 (by omega))
        · skip
          refine tt_iload_n F 4 rfl rfl dMO_tops_83 ?_
          refine tt_goto F 88 (by decide) dMO_tops_84 ?_
          refine tt_istore_n F [(1, .int (iZ p_)), (2, .int (iZ 1)), (4, .int (iZ z51)), (0, .ref (ad 0)), (3, .int (iZ p_))] rfl (by decide) rfl dMO_tops_88 ?_
          refine tt_iinc F 4 [(3, .int (iZ (p_ + 1))), (1, .int (iZ p_)), (2, .int (iZ 1)), (4, .int (iZ z51)), (0, .ref (ad 0))] rfl (by decide) rfl dMO_tops_89 ?_
          refine tt_goto F 19 (by decide) dMO_tops_92 ?_
          refine tt_sub [4, 1, 2, 0] rfl ?_
          exact ih p_ 1 (p_ + 1) (by omega) (⟨by omega, by omega⟩) (tp_gt (by omega) (by omega) (by omega) I)
set_option maxHeartbeats 4000000 in
set_option maxRecDepth 100000 in
theorem c_topsM  (hg : 1 ≤ W ∧ W ≤ 12 ∧ 1 ≤ D_ ∧ D_ ≤ 12 ∧ 1 ≤ r ∧ r ≤ 10) (hB : ∀ k, 0 ≤ k → k < 144 → (0 ≤ hM k ∧ hM k ≤ 200) ∧ 0 ≤ rM k ∧ rM k ≤ 50) : CI l D vwCl cI cZ cJ SL yMO_tops wsMO_tops rmMO_tops [.ref (ad 0)] (mW cI cZ ad W D_ r hM rM tM wM mp mk wh sM hi vS cd mn) (fun z w1 => ∃ (t' wh' sM' hi' : Int → Int) (bst : Int), w1 = (mW cI cZ ad W D_ r hM rM t' wM mp mk wh' sM' hi' vS 0 mn) ∧ RLI W D_ r (fun k => hM k + rM k) wh' sM' hi' ((W + 2 * r) * (D_ + 2 * r)) ∧ TPI wh' sM' ((W + 2 * r) * (D_ + 2 * r)) ((W + 2 * r) * (D_ + 2 * r)) bst z) := by
  refine tt_startI (by decide) rfl (Nat.le_of_ble_eq_true rfl) ?_
  intro p e s m args below meth c hnm F
  obtain ⟨hW1, hW2, hD1, hD2, hr1, hr2⟩ := id hg
  have hrr := rr_b hr1 hr2
  have hPL := pl_b hW1 hW2 hD1 hD2 hr1 hr2
  refine tt_aload_n F 0 rfl rfl dMO_tops_0 ?_
  refine tt_iconst F dMO_tops_1 ?_
  refine tt_put F (fun h => h) inMO tyMO tyMO_ok nmMO 0 rfl rfl 0 (by decide) we698 rfl rfl rfl rfl (show (0 : Nat) + 1 ≤ _ from Nat.le_of_ble_eq_true rfl) dMO_tops_2 ?_
  refine tt_aload_n F 0 rfl rfl dMO_tops_5 ?_
  refine tt_cVV0 F (fun h => h) (As := []) 0 rfl rfl (c_stand (hM := hM) (rM := rM) (tM := tM) (wM := wM) (mp := mp) (mk := mk) (wh := wh) (sM := sM) (hi := hi) (vS := vS) (cd := 0) (mn := mn)) (cwV 0 F.1.2.2.2.2 (gw_V wd774 wd776 wd31 wd53 wd777) rfl rfl rfl (by decide +kernel) ⟨(Nat.le_of_ble_eq_true rfl), (Nat.le_of_ble_eq_true rfl)⟩) rfl rfl rfl (Nat.le_of_ble_eq_true rfl) ⟨(Nat.le_of_ble_eq_true rfl), (Nat.le_of_ble_eq_true rfl)⟩ dMO_tops_6 (fun w1 hp => ?_)
  obtain ⟨t6, rfl, ht6⟩ := hp
  refine tt_aload_n F 0 rfl rfl dMO_tops_9 ?_
  refine tt_cVV0 F (fun h => h) (As := []) 0 rfl rfl (c_roll (hM := hM) (rM := rM) (tM := t6) (wM := wM) (mp := mp) (mk := mk) (wh := wh) (sM := sM) (hi := hi) (vS := vS) (cd := 0) (mn := mn) hg (fun k k0 k1 => by rw [ht6 k k0 k1]; have := hB k k0 k1; omega)) (cwV 0 F.1.2.2.2.2 (gw_V wd820 wd822 wd38 wd53 wd823) rfl rfl rfl (by decide +kernel) ⟨(Nat.le_of_ble_eq_true rfl), (Nat.le_of_ble_eq_true rfl)⟩) rfl rfl rfl (Nat.le_of_ble_eq_true rfl) ⟨(Nat.le_of_ble_eq_true rfl), (Nat.le_of_ble_eq_true rfl)⟩ dMO_tops_10 (fun w1 hp => ?_)
  obtain ⟨wh10, sM10, hi10, rfl, hRL10⟩ := hp
  refine tt_iconst F dMO_tops_13 ?_
  refine tt_istore_n F [(1, .int (iZ 0)), (0, .ref (ad 0))] rfl (by decide) rfl dMO_tops_14 ?_
  refine tt_iconst F dMO_tops_15 ?_
  refine tt_istore_n F [(2, .int (iZ 0)), (1, .int (iZ 0)), (0, .ref (ad 0))] rfl (by decide) rfl dMO_tops_16 ?_
  refine tt_iconst F dMO_tops_17 ?_
  refine tt_istore_n F [(3, .int (iZ 0)), (2, .int (iZ 0)), (1, .int (iZ 0)), (0, .ref (ad 0))] rfl (by decide) rfl dMO_tops_18 ?_
  refine tt_sub [3, 2, 1, 0] rfl ?_
  refine lp_topsM F hg hRL10 (fun bst n_ p_ h => ?_) (((W + 2 * r) * (D_ + 2 * r)).toNat + 1) 0 0 0 (by omega) (by omega) ⟨⟨by omega, by omega⟩, fun P p0 p1 => by omega, by rw [cz_0 _ (Int.le_refl 0)]⟩
  refine tt_iload_n F 0 rfl rfl dMO_tops_95 ?_
  exact tt_iret F rfl (Nat.le_of_ble_eq_true rfl) (Nat.le_of_ble_eq_true rfl) dMO_tops_96 ⟨t6, wh10, sM10, hi10, bst, rfl, RLI_c (fun k k0 k1 => (ht6 k k0 k1).symm) hRL10, h⟩
abbrev rmMO_hits : Room := { frames := 5, cells := 0, slots := 0, locals := 115 }
set_option maxHeartbeats 4000000 in
set_option maxRecDepth 100000 in
theorem c_hitsM {x y : Int} (hg : 1 ≤ W ∧ W ≤ 12 ∧ 1 ≤ D_ ∧ D_ ≤ 12 ∧ 1 ≤ r ∧ r ≤ 10) (hB : ∀ k, 0 ≤ k → k < 144 → (0 ≤ hM k ∧ hM k ≤ 200) ∧ 0 ≤ rM k ∧ rM k ≤ 50) (hp : (0 ≤ x ∧ x < W) ∧ 0 ≤ y ∧ y < D_) : CI l D vwCl cI cZ cJ SL yMO_hits wsMO_hits rmMO_hits [.ref (ad 0), .int (iZ x), .int (iZ y)] (mW cI cZ ad W D_ r hM rM tM wM mp mk wh sM hi vS cd mn) (fun z w1 => ∃ (t' wh' sM' hi' : Int → Int), w1 = (mW cI cZ ad W D_ r hM rM t' wM mp mk wh' sM' hi' vS 0 mn) ∧ RLI W D_ r (fun k => hM k + rM k) wh' sM' hi' ((W + 2 * r) * (D_ + 2 * r)) ∧ z = hi' (12 * y + x)) := by
  refine tt_startI (by decide) rfl (Nat.le_of_ble_eq_true rfl) ?_
  intro p e s m args below meth c hnm F
  obtain ⟨hW1, hW2, hD1, hD2, hr1, hr2⟩ := id hg
  have hrr := rr_b hr1 hr2
  have hPL := pl_b hW1 hW2 hD1 hD2 hr1 hr2
  refine tt_aload_n F 0 rfl rfl dMO_hits_0 ?_
  refine tt_aload_n F 0 rfl rfl dMO_hits_1 ?_
  refine tt_iload_n F 1 rfl rfl dMO_hits_2 ?_
  refine tt_iload_n F 2 rfl rfl dMO_hits_3 ?_
  refine tt_cOV F (As := [.int (iZ x), .int (iZ y)]) [] 0 rfl rfl (o_isPoint (hM := hM) (rM := rM) (tM := tM) (wM := wM) (mp := mp) (mk := mk) (wh := wh) (sM := sM) (hi := hi) (vS := vS) (cd := cd) (mn := mn) hg (by omega) (by omega)) (cwV 2 F.1.2.2.2.2 (gw_V wd752 wd754 wd29 wd53 wd755) rfl rfl rfl (by decide +kernel) ⟨(Nat.le_of_ble_eq_true rfl), (Nat.le_of_ble_eq_true rfl)⟩) rfl rfl rfl (Nat.le_of_ble_eq_true rfl) ⟨(Nat.le_of_ble_eq_true rfl), (Nat.le_of_ble_eq_true rfl)⟩ dMO_hits_4 (fun v4 hp => ?_)
  obtain ⟨z4, rfl, hz4⟩ := hp
  have hb4 := zb_b hz4
  refine tt_if_eq F 14 ⟨by omega, by omega⟩ dMO_hits_7 (by decide) (fun c7 => ?_) (fun c7 => ?_)
  · skip
    exfalso; omega
  · skip
    refine tt_iconst F dMO_hits_10 ?_
    refine tt_goto F 15 (by decide) dMO_hits_11 ?_
    refine tt_put F (fun h => h) inMO tyMO tyMO_ok nmMO 0 rfl rfl 0 (by decide) we698 rfl rfl rfl rfl (show (0 : Nat) + 1 ≤ _ from Nat.le_of_ble_eq_true rfl) dMO_hits_15 ?_
    refine tt_aload_n F 0 rfl rfl dMO_hits_18 ?_
    refine tt_get F inMO 0 rfl rfl 0 (by decide) we698 rfl dMO_hits_19 ?_
    refine tt_if_le F 27 ⟨by omega, by omega⟩ dMO_hits_22 (by decide) (fun c22 => ?_) (fun c22 => ?_)
    · skip
      refine tt_aload_n F 0 rfl rfl dMO_hits_27 ?_
      refine tt_cVV0 F (fun h => h) (As := []) 0 rfl rfl (c_stand (hM := hM) (rM := rM) (tM := tM) (wM := wM) (mp := mp) (mk := mk) (wh := wh) (sM := sM) (hi := hi) (vS := vS) (cd := 0) (mn := mn)) (cwV 0 F.1.2.2.2.2 (gw_V wd774 wd776 wd31 wd53 wd777) rfl rfl rfl (by decide +kernel) ⟨(Nat.le_of_ble_eq_true rfl), (Nat.le_of_ble_eq_true rfl)⟩) rfl rfl rfl (Nat.le_of_ble_eq_true rfl) ⟨(Nat.le_of_ble_eq_true rfl), (Nat.le_of_ble_eq_true rfl)⟩ dMO_hits_28 (fun w1 hp => ?_)
      obtain ⟨t28, rfl, ht28⟩ := hp
      refine tt_aload_n F 0 rfl rfl dMO_hits_31 ?_
      refine tt_cVV0 F (fun h => h) (As := []) 0 rfl rfl (c_roll (hM := hM) (rM := rM) (tM := t28) (wM := wM) (mp := mp) (mk := mk) (wh := wh) (sM := sM) (hi := hi) (vS := vS) (cd := 0) (mn := mn) hg (fun k k0 k1 => by rw [ht28 k k0 k1]; have := hB k k0 k1; omega)) (cwV 0 F.1.2.2.2.2 (gw_V wd820 wd822 wd38 wd53 wd823) rfl rfl rfl (by decide +kernel) ⟨(Nat.le_of_ble_eq_true rfl), (Nat.le_of_ble_eq_true rfl)⟩) rfl rfl rfl (Nat.le_of_ble_eq_true rfl) ⟨(Nat.le_of_ble_eq_true rfl), (Nat.le_of_ble_eq_true rfl)⟩ dMO_hits_32 (fun w1 hp => ?_)
      obtain ⟨wh32, sM32, hi32, rfl, hRL32⟩ := hp
      refine tt_aload_n F 0 rfl rfl dMO_hits_35 ?_
      refine tt_get F inMO 0 rfl rfl 13 (by decide) we711 rfl dMO_hits_36 ?_
      refine tt_iload_n F 1 rfl rfl dMO_hits_39 ?_
      refine tt_iload_n F 2 rfl rfl dMO_hits_40 ?_
      refine tt_cOS F (As := [.int (iZ x), .int (iZ y)]) [] o_spot (va_cwS 2 F.1.2.2.2.2 (gw_S wd759 wd760 wd53 wd761) rfl rfl rfl (by decide +kernel) ⟨(Nat.le_of_ble_eq_true rfl), (Nat.le_of_ble_eq_true rfl)⟩) rfl rfl rfl (Nat.le_of_ble_eq_true rfl) ⟨(Nat.le_of_ble_eq_true rfl), (Nat.le_of_ble_eq_true rfl)⟩ dMO_hits_41 (fun v41 hp => ?_)
      subst hp
      refine tt_iald F 9 rfl (by omega) (by omega) (by omega) dMO_hits_44 ?_
      exact tt_iret F rfl (Nat.le_of_ble_eq_true rfl) (Nat.le_of_ble_eq_true rfl) dMO_hits_45 ⟨t28, wh32, sM32, hi32, rfl, RLI_c (fun k k0 k1 => (ht28 k k0 k1).symm) hRL32, rfl⟩
    · skip
      exact absurd c22 (by omega)
set_option maxHeartbeats 4000000 in
set_option maxRecDepth 100000 in
theorem n_hitsM {x y : Int} (hg : 1 ≤ W ∧ W ≤ 12 ∧ 1 ≤ D_ ∧ D_ ≤ 12 ∧ 1 ≤ r ∧ r ≤ 10) (hx : ir x) (hy : ir y) (h : ¬ ((0 ≤ x ∧ x < W) ∧ 0 ≤ y ∧ y < D_)) : CI l D vwCl cI cZ cJ SL yMO_hits wsMO_hits rmMO_hits [.ref (ad 0), .int (iZ x), .int (iZ y)] (mW cI cZ ad W D_ r hM rM tM wM mp mk wh sM hi vS cd mn) (fun z w1 => w1 = (mW cI cZ ad W D_ r hM rM tM wM mp mk wh sM hi vS 1 mn)) := by
  refine tt_startI (by decide) rfl (Nat.le_of_ble_eq_true rfl) ?_
  intro p e s m args below meth c hnm F
  obtain ⟨hW1, hW2, hD1, hD2, hr1, hr2⟩ := id hg
  refine tt_aload_n F 0 rfl rfl dMO_hits_0 ?_
  refine tt_aload_n F 0 rfl rfl dMO_hits_1 ?_
  refine tt_iload_n F 1 rfl rfl dMO_hits_2 ?_
  refine tt_iload_n F 2 rfl rfl dMO_hits_3 ?_
  refine tt_cOV F (As := [.int (iZ x), .int (iZ y)]) [] 0 rfl rfl (o_isPoint (hM := hM) (rM := rM) (tM := tM) (wM := wM) (mp := mp) (mk := mk) (wh := wh) (sM := sM) (hi := hi) (vS := vS) (cd := cd) (mn := mn) hg (by omega) (by omega)) (cwV 2 F.1.2.2.2.2 (gw_V wd752 wd754 wd29 wd53 wd755) rfl rfl rfl (by decide +kernel) ⟨(Nat.le_of_ble_eq_true rfl), (Nat.le_of_ble_eq_true rfl)⟩) rfl rfl rfl (Nat.le_of_ble_eq_true rfl) ⟨(Nat.le_of_ble_eq_true rfl), (Nat.le_of_ble_eq_true rfl)⟩ dMO_hits_4 (fun v4 hp => ?_)
  obtain ⟨z4, rfl, hz4⟩ := hp
  have hb4 := zb_b hz4
  refine tt_if_eq F 14 ⟨by omega, by omega⟩ dMO_hits_7 (by decide) (fun c7 => ?_) (fun c7 => ?_)
  · skip
    refine tt_iconst F dMO_hits_14 ?_
    refine tt_put F (fun h => h) inMO tyMO tyMO_ok nmMO 0 rfl rfl 0 (by decide) we698 rfl rfl rfl rfl (show (0 : Nat) + 1 ≤ _ from Nat.le_of_ble_eq_true rfl) dMO_hits_15 ?_
    refine tt_aload_n F 0 rfl rfl dMO_hits_18 ?_
    refine tt_get F inMO 0 rfl rfl 0 (by decide) we698 rfl dMO_hits_19 ?_
    refine tt_if_le F 27 ⟨by omega, by omega⟩ dMO_hits_22 (by decide) (fun c22 => ?_) (fun c22 => ?_)
    · skip
      exact absurd c22 (by omega)
    · skip
      refine tt_iconst F dMO_hits_25 ?_
      exact tt_iret F rfl (Nat.le_of_ble_eq_true rfl) (Nat.le_of_ble_eq_true rfl) dMO_hits_26 rfl
  · skip
    exact (h (by omega)).elim
def sfM (W D_ : Int) (hi : Int → Int) (k : Int) : Bool := ptM W D_ k && decide (hi k = 0)
theorem sfM_t {W D_ k : Int} {hi : Int → Int} : sfM W D_ hi k = true ↔ (k % 12 < W ∧ k / 12 < D_) ∧ hi k = 0 := by simp [sfM, ptM]
theorem sfM_f {W D_ k : Int} {hi : Int → Int} : sfM W D_ hi k = false ↔ ¬ ((k % 12 < W ∧ k / 12 < D_) ∧ hi k = 0) := by rw [← sfM_t]; simp
theorem rli_b {W D_ r k : Int} {t wh sM hi : Int → Int} (hg : 1 ≤ W ∧ W ≤ 12 ∧ 1 ≤ D_ ∧ D_ ≤ 12 ∧ 1 ≤ r ∧ r ≤ 10) (I : RLI W D_ r t wh sM hi ((W + 2 * r) * (D_ + 2 * r))) (k0 : 0 ≤ k) (k1 : k < 144) : 0 ≤ hi k ∧ hi k ≤ 1024 := by
  have hPL := pl_b hg.1 hg.2.1 hg.2.2.1 hg.2.2.2.1 hg.2.2.2.2.1 hg.2.2.2.2.2
  have a := cz_b (HK W D_ r t wh sM k) (z := ((W + 2 * r) * (D_ + 2 * r))) (by omega)
  rw [I.2 k k0 k1]; omega
abbrev rmMO_isSafe : Room := { frames := 2, cells := 0, slots := 0, locals := 44 }
set_option maxHeartbeats 4000000 in
set_option maxRecDepth 100000 in
theorem o_isSafe {k : Int} (hg : 1 ≤ W ∧ W ≤ 12 ∧ 1 ≤ D_ ∧ D_ ≤ 12 ∧ 1 ≤ r ∧ r ≤ 10) (hk : 0 ≤ k ∧ k < 144) (hh : 0 ≤ hi k ∧ hi k ≤ 1024) : CO l D vwCl cI cZ cJ SL yMO_isSafe wsMO_isSafe rmMO_isSafe [.ref (ad 0), .int (iZ k)] (mW cI cZ ad W D_ r hM rM tM wM mp mk wh sM hi vS cd mn) (fun v => ∃ z, v = some (.int (iZ z)) ∧ ((z = 1 ∧ sfM W D_ hi k = true) ∨ (z = 0 ∧ sfM W D_ hi k = false))) := by
  refine tt_startO (by decide) rfl (Nat.le_of_ble_eq_true rfl) ?_
  intro p e s m args below meth c hnm F
  obtain ⟨hW1, hW2, hD1, hD2, hr1, hr2⟩ := id hg
  refine tt_aload_n F 0 rfl rfl dMO_isSafe_0 ?_
  refine tt_iload_n F 1 rfl rfl dMO_isSafe_1 ?_
  refine tt_bipush F (by decide) dMO_isSafe_2 ?_
  refine tt_irem F (by omega) (by omega) (by omega) (by omega) dMO_isSafe_4 ?_
  refine tt_iload_n F 1 rfl rfl dMO_isSafe_5 ?_
  refine tt_bipush F (by decide) dMO_isSafe_6 ?_
  refine tt_idiv F (by omega) (by omega) (by omega) (by omega) dMO_isSafe_8 ?_
  refine tt_cOV F (As := [.int (iZ (k % 12)), .int (iZ (k / 12))]) [] 0 rfl rfl (o_isPoint (hM := hM) (rM := rM) (tM := tM) (wM := wM) (mp := mp) (mk := mk) (wh := wh) (sM := sM) (hi := hi) (vS := vS) (cd := cd) (mn := mn) hg (by omega) (by omega)) (cwV 2 F.1.2.2.2.2 (gw_V wd752 wd754 wd29 wd53 wd755) rfl rfl rfl (by decide +kernel) ⟨(Nat.le_of_ble_eq_true rfl), (Nat.le_of_ble_eq_true rfl)⟩) rfl rfl rfl (Nat.le_of_ble_eq_true rfl) ⟨(Nat.le_of_ble_eq_true rfl), (Nat.le_of_ble_eq_true rfl)⟩ dMO_isSafe_9 (fun v9 hp => ?_)
  obtain ⟨z9, rfl, hz9⟩ := hp
  have hb9 := zb_b hz9
  refine tt_if_eq F 28 ⟨by omega, by omega⟩ dMO_isSafe_12 (by decide) (fun c12 => ?_) (fun c12 => ?_)
  · skip
    have hq := zb_0 hz9 c12
    refine tt_iconst F dMO_isSafe_28 ?_
    exact tt_zretO F rfl (by omega) dMO_isSafe_29 (⟨_, rfl, Or.inr ⟨rfl, sfM_f.mpr (by omega)⟩⟩)
  · skip
    have hq := zb_1 hz9 c12
    refine tt_aload_n F 0 rfl rfl dMO_isSafe_15 ?_
    refine tt_get F inMO 0 rfl rfl 13 (by decide) we711 rfl dMO_isSafe_16 ?_
    refine tt_iload_n F 1 rfl rfl dMO_isSafe_19 ?_
    refine tt_iald F 9 rfl (by omega) (by omega) (by omega) dMO_isSafe_20 ?_
    refine tt_if_ne F 28 ⟨by omega, by omega⟩ dMO_isSafe_21 (by decide) (fun c21 => ?_) (fun c21 => ?_)
    · skip
      refine tt_iconst F dMO_isSafe_28 ?_
      exact tt_zretO F rfl (by omega) dMO_isSafe_29 (⟨_, rfl, Or.inr ⟨rfl, sfM_f.mpr (by omega)⟩⟩)
    · skip
      refine tt_iconst F dMO_isSafe_24 ?_
      refine tt_goto F 29 (by decide) dMO_isSafe_25 ?_
      exact tt_zretO F rfl (by omega) dMO_isSafe_29 (⟨_, rfl, Or.inl ⟨rfl, sfM_t.mpr (by omega)⟩⟩)
abbrev rmMO_safe : Room := { frames := 5, cells := 0, slots := 0, locals := 115 }
set_option maxHeartbeats 4000000 in
set_option maxRecDepth 100000 in
theorem lp_safeM {q_ : Int} (F : FX p s m args meth c cMO_safe 4 (some .int) wsMO_safe RMO D vwCl cI cZ cJ SL A) (hg : 1 ≤ W ∧ W ≤ 12 ∧ 1 ≤ D_ ∧ D_ ≤ 12 ∧ 1 ≤ r ∧ r ≤ 10) (hRL : RLI W D_ r tM wh sM hi ((W + 2 * r) * (D_ + 2 * r))) (hq_ : 0 ≤ q_ ∧ q_ < 2147483648)
    (k54 : ∀ (n_ : Int) (k : Int), ((0 ≤ k ∧ k < 144) ∧ sfM W D_ hi k = true ∧ cz (sfM W D_ hi) k = q_) → TT p l e rmMO_safe s m args below meth c D vwCl A 4 False Q 54 [(0, .ref (ad 0)), (3, .int (iZ k))] [] (mW cI cZ ad W D_ r hM rM tM wM mp mk wh sM hi vS cd mn) 0 0)
    (k76 : ∀ (n_ : Int) (k : Int), (cz (sfM W D_ hi) 144 ≤ q_) → TT p l e rmMO_safe s m args below meth c D vwCl A 4 False Q 76 [] [] (mW cI cZ ad W D_ r hM rM tM wM mp mk wh sM hi vS cd mn) 0 0) :
    ∀ (n : Nat) (n_ : Int) (k : Int), (144 - k).toNat < n → (0 ≤ k ∧ k ≤ 144) → (n_ = cz (sfM W D_ hi) k) → (n_ ≤ q_) → TT p l e rmMO_safe s m args below meth c D vwCl A 4 False Q 34 [(0, .ref (ad 0)), (1, .int (iZ q_)), (2, .int (iZ n_)), (3, .int (iZ k))] [] (mW cI cZ ad W D_ r hM rM tM wM mp mk wh sM hi vS cd mn) 0 0 := by
  intro n
  induction n with
  | zero => intro n_ k hn; omega
  | succ n ih =>
    intro n_ k hn hk hn_ hq
    obtain ⟨hW1, hW2, hD1, hD2, hr1, hr2⟩ := id hg
    have hrr := rr_b hr1 hr2
    have hPL := pl_b hW1 hW2 hD1 hD2 hr1 hr2
    have hcb := cz_b (sfM W D_ hi) (z := k) hk.1
    refine tt_iload_n F 3 rfl rfl dMO_safe_34 ?_
    refine tt_sipush F (by decide) dMO_safe_35 ?_
    refine tt_icmp_ge F 76 ⟨by omega, by omega⟩ ⟨by omega, by omega⟩ dMO_safe_38 (by decide) (fun c38 => ?_) (fun c38 => ?_)
    · skip
      refine tt_sub [] rfl ?_
      exact k76 n_ k (by rw [show (144 : Int) = k by omega]; omega)
    · skip
      refine tt_aload_n F 0 rfl rfl dMO_safe_41 ?_
      refine tt_iload_n F 3 rfl rfl dMO_safe_42 ?_
      refine tt_cOV F (As := [.int (iZ k)]) [] 0 rfl rfl (o_isSafe (hM := hM) (rM := rM) (tM := tM) (wM := wM) (mp := mp) (mk := mk) (wh := wh) (sM := sM) (hi := hi) (vS := vS) (cd := cd) (mn := mn) hg (by omega) (rli_b hg hRL (by omega) (by omega))) (cwV 1 F.1.2.2.2.2 (gw_V wd836 wd838 wd40 wd53 wd839) rfl rfl rfl (by decide +kernel) ⟨(Nat.le_of_ble_eq_true rfl), (Nat.le_of_ble_eq_true rfl)⟩) rfl rfl rfl (Nat.le_of_ble_eq_true rfl) ⟨(Nat.le_of_ble_eq_true rfl), (Nat.le_of_ble_eq_true rfl)⟩ dMO_safe_43 (fun v43 hp => ?_)
      obtain ⟨z43, rfl, hz43⟩ := hp
      have hb43 := zb_b hz43
      refine tt_if_eq F 70 ⟨by omega, by omega⟩ dMO_safe_46 (by decide) (fun c46 => ?_) (fun c46 => ?_)
      · skip
        refine tt_iinc F 3 [(3, .int (iZ (k + 1))), (0, .ref (ad 0)), (1, .int (iZ q_)), (2, .int (iZ n_))] rfl (by decide) rfl dMO_safe_70 ?_
        refine tt_goto F 34 (by decide) dMO_safe_73 ?_
        refine tt_sub [1, 2, 3, 0] rfl ?_
        exact ih n_ (k + 1) (by omega) (⟨by omega, by omega⟩) (by rw [cz_s _ (by omega), bi_f (zb_0 hz43 c46)]; omega) (by omega)
      · skip
        refine tt_iload_n F 2 rfl rfl dMO_safe_49 ?_
        refine tt_iload_n F 1 rfl rfl dMO_safe_50 ?_
        refine tt_icmp_ne F 67 ⟨by omega, by omega⟩ ⟨by omega, by omega⟩ dMO_safe_51 (by decide) (fun c51 => ?_) (fun c51 => ?_)
        · skip
          refine tt_iinc F 2 [(2, .int (iZ (n_ + 1))), (0, .ref (ad 0)), (1, .int (iZ q_)), (3, .int (iZ k))] rfl (by decide) rfl dMO_safe_67 ?_
          refine tt_iinc F 3 [(3, .int (iZ (k + 1))), (2, .int (iZ (n_ + 1))), (0, .ref (ad 0)), (1, .int (iZ q_))] rfl (by decide) rfl dMO_safe_70 ?_
          refine tt_goto F 34 (by decide) dMO_safe_73 ?_
          refine tt_sub [2, 3, 1, 0] rfl ?_
          exact ih (n_ + 1) (k + 1) (by omega) (⟨by omega, by omega⟩) (by rw [cz_s _ (by omega), bi_t (zb_1 hz43 c46)]; omega) (by omega)
        · skip
          refine tt_sub [0, 3] rfl ?_
          exact k54 n_ k (⟨⟨by omega, by omega⟩, zb_1 hz43 c46, by omega⟩)
set_option maxHeartbeats 4000000 in
set_option maxRecDepth 100000 in
theorem c_safeM {q_ : Int} (hg : 1 ≤ W ∧ W ≤ 12 ∧ 1 ≤ D_ ∧ D_ ≤ 12 ∧ 1 ≤ r ∧ r ≤ 10) (hB : ∀ k, 0 ≤ k → k < 144 → (0 ≤ hM k ∧ hM k ≤ 200) ∧ 0 ≤ rM k ∧ rM k ≤ 50) (hq_ : 0 ≤ q_ ∧ q_ < 2147483648) : CI l D vwCl cI cZ cJ SL yMO_safe wsMO_safe rmMO_safe [.ref (ad 0), .int (iZ q_)] (mW cI cZ ad W D_ r hM rM tM wM mp mk wh sM hi vS cd mn) (fun z w1 => ∃ (t' wh' sM' hi' : Int → Int), w1 = (mW cI cZ ad W D_ r hM rM t' wM mp mk wh' sM' hi' vS 0 mn) ∧ RLI W D_ r (fun k => hM k + rM k) wh' sM' hi' ((W + 2 * r) * (D_ + 2 * r)) ∧ ((∃ k, 0 ≤ k ∧ k < 144 ∧ sfM W D_ hi' k = true ∧ cz (sfM W D_ hi') k = q_ ∧ z = 100 * (k / 12) + k % 12) ∨ (z = -1 ∧ cz (sfM W D_ hi') 144 ≤ q_))) := by
  refine tt_startI (by decide) rfl (Nat.le_of_ble_eq_true rfl) ?_
  intro p e s m args below meth c hnm F
  obtain ⟨hW1, hW2, hD1, hD2, hr1, hr2⟩ := id hg
  have hrr := rr_b hr1 hr2
  have hPL := pl_b hW1 hW2 hD1 hD2 hr1 hr2
  refine tt_aload_n F 0 rfl rfl dMO_safe_0 ?_
  refine tt_iload_n F 1 rfl rfl dMO_safe_1 ?_
  refine tt_if_lt F 9 ⟨by omega, by omega⟩ dMO_safe_2 (by decide) (fun c2 => ?_) (fun c2 => ?_)
  · skip
    exfalso; omega
  · skip
    refine tt_iconst F dMO_safe_5 ?_
    refine tt_goto F 10 (by decide) dMO_safe_6 ?_
    refine tt_put F (fun h => h) inMO tyMO tyMO_ok nmMO 0 rfl rfl 0 (by decide) we698 rfl rfl rfl rfl (show (0 : Nat) + 1 ≤ _ from Nat.le_of_ble_eq_true rfl) dMO_safe_10 ?_
    refine tt_aload_n F 0 rfl rfl dMO_safe_13 ?_
    refine tt_get F inMO 0 rfl rfl 0 (by decide) we698 rfl dMO_safe_14 ?_
    refine tt_if_le F 22 ⟨by omega, by omega⟩ dMO_safe_17 (by decide) (fun c17 => ?_) (fun c17 => ?_)
    · skip
      refine tt_aload_n F 0 rfl rfl dMO_safe_22 ?_
      refine tt_cVV0 F (fun h => h) (As := []) 0 rfl rfl (c_stand (hM := hM) (rM := rM) (tM := tM) (wM := wM) (mp := mp) (mk := mk) (wh := wh) (sM := sM) (hi := hi) (vS := vS) (cd := 0) (mn := mn)) (cwV 0 F.1.2.2.2.2 (gw_V wd774 wd776 wd31 wd53 wd777) rfl rfl rfl (by decide +kernel) ⟨(Nat.le_of_ble_eq_true rfl), (Nat.le_of_ble_eq_true rfl)⟩) rfl rfl rfl (Nat.le_of_ble_eq_true rfl) ⟨(Nat.le_of_ble_eq_true rfl), (Nat.le_of_ble_eq_true rfl)⟩ dMO_safe_23 (fun w1 hp => ?_)
      obtain ⟨t23, rfl, ht23⟩ := hp
      refine tt_aload_n F 0 rfl rfl dMO_safe_26 ?_
      refine tt_cVV0 F (fun h => h) (As := []) 0 rfl rfl (c_roll (hM := hM) (rM := rM) (tM := t23) (wM := wM) (mp := mp) (mk := mk) (wh := wh) (sM := sM) (hi := hi) (vS := vS) (cd := 0) (mn := mn) hg (fun k k0 k1 => by rw [ht23 k k0 k1]; have := hB k k0 k1; omega)) (cwV 0 F.1.2.2.2.2 (gw_V wd820 wd822 wd38 wd53 wd823) rfl rfl rfl (by decide +kernel) ⟨(Nat.le_of_ble_eq_true rfl), (Nat.le_of_ble_eq_true rfl)⟩) rfl rfl rfl (Nat.le_of_ble_eq_true rfl) ⟨(Nat.le_of_ble_eq_true rfl), (Nat.le_of_ble_eq_true rfl)⟩ dMO_safe_27 (fun w1 hp => ?_)
      obtain ⟨wh27, sM27, hi27, rfl, hRL27⟩ := hp
      refine tt_iconst F dMO_safe_30 ?_
      refine tt_istore_n F [(2, .int (iZ 0)), (0, .ref (ad 0)), (1, .int (iZ q_))] rfl (by decide) rfl dMO_safe_31 ?_
      refine tt_iconst F dMO_safe_32 ?_
      refine tt_istore_n F [(3, .int (iZ 0)), (2, .int (iZ 0)), (0, .ref (ad 0)), (1, .int (iZ q_))] rfl (by decide) rfl dMO_safe_33 ?_
      refine tt_sub [2, 3, 1, 0] rfl ?_
      refine lp_safeM F hg hRL27 hq_ (fun n_ k h => ?_) (fun n_ k h => ?_) 145 0 0 (by omega) (by omega) (by rw [cz_0 _ (Int.le_refl 0)]) (by omega)
      · skip
        refine tt_bipush F (by decide) dMO_safe_54 ?_
        refine tt_iload_n F 1 rfl rfl dMO_safe_56 ?_
        refine tt_bipush F (by decide) dMO_safe_57 ?_
        refine tt_idiv F (by omega) (by omega) (by omega) (by omega) dMO_safe_59 ?_
        refine tt_imul F dMO_safe_60 ?_
        refine tt_iload_n F 1 rfl rfl dMO_safe_61 ?_
        refine tt_bipush F (by decide) dMO_safe_62 ?_
        refine tt_irem F (by omega) (by omega) (by omega) (by omega) dMO_safe_64 ?_
        refine tt_iadd F dMO_safe_65 ?_
        exact tt_iret F rfl (Nat.le_of_ble_eq_true rfl) (Nat.le_of_ble_eq_true rfl) dMO_safe_66 ⟨t23, wh27, sM27, hi27, rfl, RLI_c (fun k k0 k1 => (ht23 k k0 k1).symm) hRL27, Or.inl ⟨k, h.1.1, h.1.2, h.2.1, h.2.2, rfl⟩⟩
      · skip
        refine tt_iconst F dMO_safe_76 ?_
        exact tt_iret F rfl (Nat.le_of_ble_eq_true rfl) (Nat.le_of_ble_eq_true rfl) dMO_safe_77 ⟨t23, wh27, sM27, hi27, rfl, RLI_c (fun k k0 k1 => (ht23 k k0 k1).symm) hRL27, Or.inr ⟨rfl, h⟩⟩
    · skip
      exact absurd c17 (by omega)
set_option maxHeartbeats 4000000 in
set_option maxRecDepth 100000 in
theorem n_safeM {q_ : Int} (hq_ : ir q_) (h : ¬ 0 ≤ q_) : CI l D vwCl cI cZ cJ SL yMO_safe wsMO_safe rmMO_safe [.ref (ad 0), .int (iZ q_)] (mW cI cZ ad W D_ r hM rM tM wM mp mk wh sM hi vS cd mn) (fun z w1 => w1 = (mW cI cZ ad W D_ r hM rM tM wM mp mk wh sM hi vS 1 mn)) := by
  refine tt_startI (by decide) rfl (Nat.le_of_ble_eq_true rfl) ?_
  intro p e s m args below meth c hnm F
  refine tt_aload_n F 0 rfl rfl dMO_safe_0 ?_
  refine tt_iload_n F 1 rfl rfl dMO_safe_1 ?_
  refine tt_if_lt F 9 ⟨by omega, by omega⟩ dMO_safe_2 (by decide) (fun c2 => ?_) (fun c2 => ?_)
  · skip
    refine tt_iconst F dMO_safe_9 ?_
    refine tt_put F (fun h => h) inMO tyMO tyMO_ok nmMO 0 rfl rfl 0 (by decide) we698 rfl rfl rfl rfl (show (0 : Nat) + 1 ≤ _ from Nat.le_of_ble_eq_true rfl) dMO_safe_10 ?_
    refine tt_aload_n F 0 rfl rfl dMO_safe_13 ?_
    refine tt_get F inMO 0 rfl rfl 0 (by decide) we698 rfl dMO_safe_14 ?_
    refine tt_if_le F 22 ⟨by omega, by omega⟩ dMO_safe_17 (by decide) (fun c17 => ?_) (fun c17 => ?_)
    · skip
      exact absurd c17 (by omega)
    · skip
      refine tt_iconst F dMO_safe_20 ?_
      exact tt_iret F rfl (Nat.le_of_ble_eq_true rfl) (Nat.le_of_ble_eq_true rfl) dMO_safe_21 rfl
  · skip
    exact (h (by omega)).elim
abbrev rmMO_cover : Room := { frames := 5, cells := 0, slots := 0, locals := 115 }
set_option maxHeartbeats 4000000 in
set_option maxRecDepth 100000 in
theorem lp_cov0 {x y bst py px s_ P_ dn : Int} (F : FX p s m args meth c cMO_cover 10 (some .int) wsMO_cover RMO D vwCl cI cZ cJ SL A) (hP : 0 ≤ P_ ∧ P_ < 1024) (hdn : 0 ≤ dn ∧ dn ≤ 100) (hs : 0 ≤ sM P_ ∧ sM P_ ≤ 100)
    (k164 : ∀ (k : Int), ((-10 ≤ k ∧ k ≤ 10) ∧ k * 1048576 + rt dn ≤ rt (sM P_) ∧ (k = 10 ∨ rt (sM P_) < (k + 1) * 1048576 + rt dn)) → TT p l e rmMO_cover s m args below meth c D vwCl A 10 False Q 164 [(0, .ref (ad 0)), (1, .int (iZ x)), (2, .int (iZ y)), (3, .int (iZ bst)), (4, .int (iZ py)), (5, .int (iZ px)), (6, .int (iZ s_)), (7, .int (iZ P_)), (8, .int (iZ dn)), (9, .int (iZ k))] [] (mW cI cZ ad W D_ r hM rM tM wM mp mk wh sM hi vS cd mn) 0 0) :
    ∀ (n : Nat) (k : Int), (k + 11).toNat < n → (-10 ≤ k ∧ k ≤ 10) → (k = 10 ∨ rt (sM P_) < (k + 1) * 1048576 + rt dn) → TT p l e rmMO_cover s m args below meth c D vwCl A 10 False Q 140 [(0, .ref (ad 0)), (1, .int (iZ x)), (2, .int (iZ y)), (3, .int (iZ bst)), (4, .int (iZ py)), (5, .int (iZ px)), (6, .int (iZ s_)), (7, .int (iZ P_)), (8, .int (iZ dn)), (9, .int (iZ k))] [] (mW cI cZ ad W D_ r hM rM tM wM mp mk wh sM hi vS cd mn) 0 0 := by
  intro n
  induction n with
  | zero => intro k hn; omega
  | succ n ih =>
    intro k hn hk hk2
    have h1 := rt_b hdn.1 hdn.2
    have h2 := rt_b hs.1 hs.2
    have h0 : rt 0 = 0 := by decide +kernel
    refine tt_iload F 9 rfl dMO_cover_140 ?_
    refine tt_iload F 8 rfl dMO_cover_142 ?_
    refine tt_iconst F dMO_cover_144 ?_
    refine tt_aload_n F 0 rfl rfl dMO_cover_145 ?_
    refine tt_get F inMO 0 rfl rfl 12 (by decide) we710 rfl dMO_cover_146 ?_
    refine tt_iload F 7 rfl dMO_cover_149 ?_
    refine tt_iald F 8 rfl (by omega) (by omega) (by omega) dMO_cover_151 ?_
    refine tt_cOS F (As := [.int (iZ k), .int (iZ dn), .int (iZ 0), .int (iZ (sM P_))]) [] (o_cmp (by omega) (by omega) (by omega) (by omega) (by omega)) (va_cwS 4 F.1.2.2.2.2 (gw_S wd798 wd799 wd53 wd800) rfl rfl rfl (by decide +kernel) ⟨(Nat.le_of_ble_eq_true rfl), (Nat.le_of_ble_eq_true rfl)⟩) rfl rfl rfl (Nat.le_of_ble_eq_true rfl) ⟨(Nat.le_of_ble_eq_true rfl), (Nat.le_of_ble_eq_true rfl)⟩ dMO_cover_152 (fun v152 hp => ?_)
    obtain ⟨z152, rfl, hz152⟩ := hp
    refine tt_if_le F 164 ⟨by omega, by omega⟩ dMO_cover_155 (by decide) (fun c155 => ?_) (fun c155 => ?_)
    · skip
      refine tt_sub [0, 1, 2, 3, 4, 5, 6, 7, 8, 9] rfl ?_
      exact k164 k (⟨by omega, by omega, by omega⟩)
    · skip
      have hkk : -10 < k := by omega
      refine tt_iinc F 9 [(9, .int (iZ (k + (-1)))), (0, .ref (ad 0)), (1, .int (iZ x)), (2, .int (iZ y)), (3, .int (iZ bst)), (4, .int (iZ py)), (5, .int (iZ px)), (6, .int (iZ s_)), (7, .int (iZ P_)), (8, .int (iZ dn))] rfl (by decide) rfl dMO_cover_158 ?_
      refine tt_goto F 140 (by decide) dMO_cover_161 ?_
      refine tt_sub [1, 2, 3, 4, 5, 6, 7, 8, 9, 0] rfl ?_
      exact ih (k + (-1)) (by omega) (⟨by omega, by omega⟩) (Or.inr (by rw [show k + (-1) + 1 = k by omega]; omega))
set_option maxHeartbeats 4000000 in
set_option maxRecDepth 100000 in
theorem lp_covx {x y py : Int} (F : FX p s m args meth c cMO_cover 10 (some .int) wsMO_cover RMO D vwCl cI cZ cJ SL A) (hg : 1 ≤ W ∧ W ≤ 12 ∧ 1 ≤ D_ ∧ D_ ≤ 12 ∧ 1 ≤ r ∧ r ≤ 10) (hRL : RLI W D_ r tM wh sM hi ((W + 2 * r) * (D_ + 2 * r))) (hp : (0 ≤ x ∧ x < W) ∧ 0 ≤ y ∧ y < D_) (hpy : y - r ≤ py ∧ py ≤ y + r)
    (k199 : ∀ (bst : Int) (px : Int), (-10 ≤ bst ∧ bst ≤ 1000) → (CVI wh sM W r x y ((py + 1 - y + r) * (2 * r + 1) + (x - r - x + r)) bst) → TT p l e rmMO_cover s m args below meth c D vwCl A 10 False Q 199 [(0, .ref (ad 0)), (1, .int (iZ x)), (2, .int (iZ y)), (3, .int (iZ bst)), (4, .int (iZ py))] [] (mW cI cZ ad W D_ r hM rM tM wM mp mk wh sM hi vS cd mn) 0 0) :
    ∀ (n : Nat) (bst : Int) (px : Int), (x + r + 1 - px).toNat < n → (x - r ≤ px ∧ px ≤ x + r + 1) → (-10 ≤ bst ∧ bst ≤ 1000) → (CVI wh sM W r x y ((py - y + r) * (2 * r + 1) + (px - x + r)) bst) → TT p l e rmMO_cover s m args below meth c D vwCl A 10 False Q 66 [(0, .ref (ad 0)), (1, .int (iZ x)), (2, .int (iZ y)), (3, .int (iZ bst)), (4, .int (iZ py)), (5, .int (iZ px))] [] (mW cI cZ ad W D_ r hM rM tM wM mp mk wh sM hi vS cd mn) 0 0 := by
  intro n
  induction n with
  | zero => intro bst px hn; omega
  | succ n ih =>
    intro bst px hn hk hb I
    obtain ⟨hW1, hW2, hD1, hD2, hr1, hr2⟩ := id hg
    have hrr := rr_b hr1 hr2
    have hPL := pl_b hW1 hW2 hD1 hD2 hr1 hr2
    refine tt_iload F 5 rfl dMO_cover_66 ?_
    refine tt_iload_n F 1 rfl rfl dMO_cover_68 ?_
    refine tt_aload_n F 0 rfl rfl dMO_cover_69 ?_
    refine tt_get F inMO 0 rfl rfl 3 (by decide) we701 rfl dMO_cover_70 ?_
    refine tt_iadd F dMO_cover_73 ?_
    refine tt_icmp_gt F 199 ⟨by omega, by omega⟩ ⟨by omega, by omega⟩ dMO_cover_74 (by decide) (fun c74 => ?_) (fun c74 => ?_)
    · skip
      refine tt_sub [0, 1, 2, 3, 4] rfl ?_
      exact k199 bst px (hb) (by have e1 : (py + 1 - y + r) * (2 * r + 1) + (x - r - x + r) = ((py - y + r) * (2 * r + 1) + (px - x + r)) := (by rw [show py + 1 - y + r = (py - y + r) + 1 by omega, rw_s]; omega); rw [e1]; exact I)
    · skip
      have hxx := sqb (a := px - x) (r := r) (by omega) (by omega)
      have hyy := sqb (a := py - y) (r := r) (by omega) (by omega)
      have hx0 := sq_0 (px - x)
      have hy0 := sq_0 (py - y)
      have hpi := pl_in (W := W) (D_ := D_) (r := r) (x := px) (y := py) (by omega) (by omega) (by omega) (by omega)
      have hRn := hRL.1 ((py + r) * (W + 2 * r) + (px + r)) hpi.1 hpi.2
      have g1 := hRn.1
      have g2 := hRn.2.1
      refine tt_iload F 5 rfl dMO_cover_77 ?_
      refine tt_iload_n F 1 rfl rfl dMO_cover_79 ?_
      refine tt_isub F dMO_cover_80 ?_
      refine tt_iload F 5 rfl dMO_cover_81 ?_
      refine tt_iload_n F 1 rfl rfl dMO_cover_83 ?_
      refine tt_isub F dMO_cover_84 ?_
      refine tt_imul F dMO_cover_85 ?_
      refine tt_iload F 4 rfl dMO_cover_86 ?_
      refine tt_iload_n F 2 rfl rfl dMO_cover_88 ?_
      refine tt_isub F dMO_cover_89 ?_
      refine tt_iload F 4 rfl dMO_cover_90 ?_
      refine tt_iload_n F 2 rfl rfl dMO_cover_92 ?_
      refine tt_isub F dMO_cover_93 ?_
      refine tt_imul F dMO_cover_94 ?_
      refine tt_iadd F dMO_cover_95 ?_
      refine tt_name (fun s6 hs6 => ?_)
      refine tt_istore F [(6, .int (iZ s6)), (0, .ref (ad 0)), (1, .int (iZ x)), (2, .int (iZ y)), (3, .int (iZ bst)), (4, .int (iZ py)), (5, .int (iZ px))] (by decide) rfl dMO_cover_96 ?_
      refine tt_iload F 0 rfl dMO_cover_98 ?_
      refine tt_aload_n F 1 rfl rfl dMO_cover_100 ?_
      refine tt_get F inMO 0 rfl rfl 3 (by decide) we701 rfl dMO_cover_101 ?_
      refine tt_aload_n F 1 rfl rfl dMO_cover_104 ?_
      refine tt_get F inMO 0 rfl rfl 3 (by decide) we701 rfl dMO_cover_105 ?_
      refine tt_imul F dMO_cover_108 ?_
      refine tt_icmp_gt F 193 ⟨by omega, by omega⟩ ⟨by omega, by omega⟩ dMO_cover_109 (by decide) (fun c109 => ?_) (fun c109 => ?_)
      · skip
        refine tt_iinc F 6 [(5, .int (iZ (px + 1))), (6, .int (iZ s6)), (0, .ref (ad 0)), (1, .int (iZ x)), (2, .int (iZ y)), (3, .int (iZ bst)), (4, .int (iZ py))] rfl (by decide) rfl dMO_cover_193 ?_
        refine tt_goto F 66 (by decide) dMO_cover_196 ?_
        refine tt_sub [2, 3, 4, 5, 6, 0] rfl ?_
        exact ih bst (px + 1) (by omega) (⟨by omega, by omega⟩) (by omega) (by have e1 : (py - y + r) * (2 * r + 1) + (px + 1 - x + r) = ((py - y + r) * (2 * r + 1) + (px - x + r)) + 1 := (by omega); rw [e1]; exact cv_far (dx := px - x) (dy := py - y) (by omega) rfl (by omega) I)
      · skip
        refine tt_aload_n F 1 rfl rfl dMO_cover_112 ?_
        refine tt_iload F 6 rfl dMO_cover_113 ?_
        refine tt_iload F 5 rfl dMO_cover_115 ?_
        refine tt_cOV F (As := [.int (iZ px), .int (iZ py)]) [] 0 rfl rfl (o_placeAt (hM := hM) (rM := rM) (tM := tM) (wM := wM) (mp := mp) (mk := mk) (wh := wh) (sM := sM) (hi := hi) (vS := vS) (cd := cd) (mn := mn)) (cwV 2 F.1.2.2.2.2 (gw_V wd782 wd784 wd33 wd53 wd785) rfl rfl rfl (by decide +kernel) ⟨(Nat.le_of_ble_eq_true rfl), (Nat.le_of_ble_eq_true rfl)⟩) rfl rfl rfl (Nat.le_of_ble_eq_true rfl) ⟨(Nat.le_of_ble_eq_true rfl), (Nat.le_of_ble_eq_true rfl)⟩ dMO_cover_117 (fun v117 hp => ?_)
        subst hp
        refine tt_istore F [(7, .int (iZ ((py + r) * (W + 2 * r) + (px + r)))), (6, .int (iZ s6)), (0, .ref (ad 0)), (1, .int (iZ x)), (2, .int (iZ y)), (3, .int (iZ bst)), (4, .int (iZ py)), (5, .int (iZ px))] (by decide) rfl dMO_cover_120 ?_
        refine tt_aload_n F 2 rfl rfl dMO_cover_122 ?_
        refine tt_get F inMO 0 rfl rfl 3 (by decide) we701 rfl dMO_cover_123 ?_
        refine tt_aload_n F 2 rfl rfl dMO_cover_126 ?_
        refine tt_get F inMO 0 rfl rfl 3 (by decide) we701 rfl dMO_cover_127 ?_
        refine tt_imul F dMO_cover_130 ?_
        refine tt_iload F 1 rfl dMO_cover_131 ?_
        refine tt_isub F dMO_cover_133 ?_
        refine tt_name (fun dn hdn => ?_)
        refine tt_istore F [(8, .int (iZ dn)), (7, .int (iZ ((py + r) * (W + 2 * r) + (px + r)))), (6, .int (iZ s6)), (0, .ref (ad 0)), (1, .int (iZ x)), (2, .int (iZ y)), (3, .int (iZ bst)), (4, .int (iZ py)), (5, .int (iZ px))] (by decide) rfl dMO_cover_134 ?_
        refine tt_bipush F (by decide) dMO_cover_136 ?_
        refine tt_istore F [(9, .int (iZ 10)), (8, .int (iZ dn)), (7, .int (iZ ((py + r) * (W + 2 * r) + (px + r)))), (6, .int (iZ s6)), (0, .ref (ad 0)), (1, .int (iZ x)), (2, .int (iZ y)), (3, .int (iZ bst)), (4, .int (iZ py)), (5, .int (iZ px))] (by decide) rfl dMO_cover_138 ?_
        refine tt_sub [4, 5, 6, 7, 8, 9, 3, 2, 1, 0] rfl ?_
        refine lp_cov0 F (by omega) (by omega) g2 (fun k h => ?_) 22 10 (by omega) (by omega) (Or.inl rfl)
        have hrb1 := rt_b g2.1 g2.2
        have hrb2 := rt_b (a := dn) (by omega) (by omega)
        have hvv : wh ((py + r) * (W + 2 * r) + (px + r)) + k = cvV wh sM W r x y (px - x) (py - y) := by rw [cvV, show y + (py - y) + r = py + r by omega, show x + (px - x) + r = px + r by omega, LV, ← hs6, ← hdn]; omega
        refine tt_aload_n F 0 rfl rfl dMO_cover_164 ?_
        refine tt_get F inMO 0 rfl rfl 11 (by decide) we709 rfl dMO_cover_165 ?_
        refine tt_iload F 7 rfl dMO_cover_168 ?_
        refine tt_iald F 7 rfl (by omega) (by omega) (by omega) dMO_cover_170 ?_
        refine tt_iload F 9 rfl dMO_cover_171 ?_
        refine tt_iadd F dMO_cover_173 ?_
        refine tt_iload_n F 3 rfl rfl dMO_cover_174 ?_
        refine tt_icmp_ge F 191 ⟨by omega, by omega⟩ ⟨by omega, by omega⟩ dMO_cover_175 (by decide) (fun c175 => ?_) (fun c175 => ?_)
        · skip
          refine tt_iload_n F 3 rfl rfl dMO_cover_191 ?_
          refine tt_istore_n F [(3, .int (iZ bst)), (0, .ref (ad 0)), (1, .int (iZ x)), (2, .int (iZ y)), (4, .int (iZ py)), (5, .int (iZ px)), (6, .int (iZ s6)), (7, .int (iZ ((py + r) * (W + 2 * r) + (px + r)))), (8, .int (iZ dn)), (9, .int (iZ k))] rfl (by decide) rfl dMO_cover_192 ?_
          refine tt_iinc F 5 [(5, .int (iZ (px + 1))), (3, .int (iZ bst)), (0, .ref (ad 0)), (1, .int (iZ x)), (2, .int (iZ y)), (4, .int (iZ py)), (6, .int (iZ s6)), (7, .int (iZ ((py + r) * (W + 2 * r) + (px + r)))), (8, .int (iZ dn)), (9, .int (iZ k))] rfl (by decide) rfl dMO_cover_193 ?_
          refine tt_goto F 66 (by decide) dMO_cover_196 ?_
          refine tt_sub [2, 3, 4, 1, 5, 0] rfl ?_
          exact ih bst (px + 1) (by omega) (⟨by omega, by omega⟩) (by omega) (by have e1 : (py - y + r) * (2 * r + 1) + (px + 1 - x + r) = ((py - y + r) * (2 * r + 1) + (px - x + r)) + 1 := (by omega); rw [e1]; exact cv_min (dx := px - x) (dy := py - y) (by omega) rfl (by omega) hvv I _ (Or.inr ⟨by omega, rfl⟩))
        · skip
          refine tt_aload_n F 0 rfl rfl dMO_cover_178 ?_
          refine tt_get F inMO 0 rfl rfl 11 (by decide) we709 rfl dMO_cover_179 ?_
          refine tt_iload F 7 rfl dMO_cover_182 ?_
          refine tt_iald F 7 rfl (by omega) (by omega) (by omega) dMO_cover_184 ?_
          refine tt_iload F 9 rfl dMO_cover_185 ?_
          refine tt_iadd F dMO_cover_187 ?_
          refine tt_goto F 192 (by decide) dMO_cover_188 ?_
          refine tt_istore_n F [(3, .int (iZ ((wh ((py + r) * (W + 2 * r) + (px + r))) + k))), (0, .ref (ad 0)), (1, .int (iZ x)), (2, .int (iZ y)), (4, .int (iZ py)), (5, .int (iZ px)), (6, .int (iZ s6)), (7, .int (iZ ((py + r) * (W + 2 * r) + (px + r)))), (8, .int (iZ dn)), (9, .int (iZ k))] rfl (by decide) rfl dMO_cover_192 ?_
          refine tt_iinc F 5 [(5, .int (iZ (px + 1))), (3, .int (iZ ((wh ((py + r) * (W + 2 * r) + (px + r))) + k))), (0, .ref (ad 0)), (1, .int (iZ x)), (2, .int (iZ y)), (4, .int (iZ py)), (6, .int (iZ s6)), (7, .int (iZ ((py + r) * (W + 2 * r) + (px + r)))), (8, .int (iZ dn)), (9, .int (iZ k))] rfl (by decide) rfl dMO_cover_193 ?_
          refine tt_goto F 66 (by decide) dMO_cover_196 ?_
          refine tt_sub [2, 3, 4, 1, 5, 0] rfl ?_
          exact ih ((wh ((py + r) * (W + 2 * r) + (px + r))) + k) (px + 1) (by omega) (⟨by omega, by omega⟩) (by omega) (by have e1 : (py - y + r) * (2 * r + 1) + (px + 1 - x + r) = ((py - y + r) * (2 * r + 1) + (px - x + r)) + 1 := (by omega); rw [e1]; exact cv_min (dx := px - x) (dy := py - y) (by omega) rfl (by omega) hvv I _ (Or.inl ⟨by omega, rfl⟩))
set_option maxHeartbeats 4000000 in
set_option maxRecDepth 100000 in
theorem lp_covy {x y : Int} (F : FX p s m args meth c cMO_cover 10 (some .int) wsMO_cover RMO D vwCl cI cZ cJ SL A) (hg : 1 ≤ W ∧ W ≤ 12 ∧ 1 ≤ D_ ∧ D_ ≤ 12 ∧ 1 ≤ r ∧ r ≤ 10) (hRL : RLI W D_ r tM wh sM hi ((W + 2 * r) * (D_ + 2 * r))) (hp : (0 ≤ x ∧ x < W) ∧ 0 ≤ y ∧ y < D_)
    (k205 : ∀ (bst : Int) (py : Int), (CVI wh sM W r x y ((2 * r + 1) * (2 * r + 1)) bst) → TT p l e rmMO_cover s m args below meth c D vwCl A 10 False Q 205 [(3, .int (iZ bst))] [] (mW cI cZ ad W D_ r hM rM tM wM mp mk wh sM hi vS cd mn) 0 0) :
    ∀ (n : Nat) (bst : Int) (py : Int), (y + r + 1 - py).toNat < n → (y - r ≤ py ∧ py ≤ y + r + 1) → (-10 ≤ bst ∧ bst ≤ 1000) → (CVI wh sM W r x y ((py - y + r) * (2 * r + 1) + (x - r - x + r)) bst) → TT p l e rmMO_cover s m args below meth c D vwCl A 10 False Q 47 [(0, .ref (ad 0)), (1, .int (iZ x)), (2, .int (iZ y)), (3, .int (iZ bst)), (4, .int (iZ py))] [] (mW cI cZ ad W D_ r hM rM tM wM mp mk wh sM hi vS cd mn) 0 0 := by
  intro n
  induction n with
  | zero => intro bst py hn; omega
  | succ n ih =>
    intro bst py hn hk hb I
    obtain ⟨hW1, hW2, hD1, hD2, hr1, hr2⟩ := id hg
    have hrr := rr_b hr1 hr2
    have hPL := pl_b hW1 hW2 hD1 hD2 hr1 hr2
    refine tt_iload F 4 rfl dMO_cover_47 ?_
    refine tt_iload_n F 2 rfl rfl dMO_cover_49 ?_
    refine tt_aload_n F 0 rfl rfl dMO_cover_50 ?_
    refine tt_get F inMO 0 rfl rfl 3 (by decide) we701 rfl dMO_cover_51 ?_
    refine tt_iadd F dMO_cover_54 ?_
    refine tt_icmp_gt F 205 ⟨by omega, by omega⟩ ⟨by omega, by omega⟩ dMO_cover_55 (by decide) (fun c55 => ?_) (fun c55 => ?_)
    · skip
      refine tt_sub [3] rfl ?_
      exact k205 bst py (by have e1 : (2 * r + 1) * (2 * r + 1) = (py - y + r) * (2 * r + 1) + (x - r - x + r) := (by rw [show py - y + r = 2 * r + 1 by omega]; omega); rw [e1]; exact I)
    · skip
      refine tt_iload_n F 1 rfl rfl dMO_cover_58 ?_
      refine tt_aload_n F 0 rfl rfl dMO_cover_59 ?_
      refine tt_get F inMO 0 rfl rfl 3 (by decide) we701 rfl dMO_cover_60 ?_
      refine tt_isub F dMO_cover_63 ?_
      refine tt_istore F [(5, .int (iZ (x - r))), (0, .ref (ad 0)), (1, .int (iZ x)), (2, .int (iZ y)), (3, .int (iZ bst)), (4, .int (iZ py))] (by decide) rfl dMO_cover_64 ?_
      refine tt_sub [1, 2, 3, 4, 5, 0] rfl ?_
      refine lp_covx F hg hRL hp (by omega) (fun bst px hb I2 => ?_) ((x + r + 1 - (x - r)).toNat + 1) bst (x - r) (by omega) (by omega) hb I
      refine tt_iinc F 4 [(4, .int (iZ (py + 1))), (0, .ref (ad 0)), (1, .int (iZ x)), (2, .int (iZ y)), (3, .int (iZ bst))] rfl (by decide) rfl dMO_cover_199 ?_
      refine tt_goto F 47 (by decide) dMO_cover_202 ?_
      refine tt_sub [1, 2, 3, 4, 0] rfl ?_
      exact ih bst (py + 1) (by omega) (⟨by omega, by omega⟩) (hb) (I2)
set_option maxHeartbeats 4000000 in
set_option maxRecDepth 100000 in
theorem c_coverM {x y : Int} (hg : 1 ≤ W ∧ W ≤ 12 ∧ 1 ≤ D_ ∧ D_ ≤ 12 ∧ 1 ≤ r ∧ r ≤ 10) (hB : ∀ k, 0 ≤ k → k < 144 → (0 ≤ hM k ∧ hM k ≤ 200) ∧ 0 ≤ rM k ∧ rM k ≤ 50) (hp : (0 ≤ x ∧ x < W) ∧ 0 ≤ y ∧ y < D_) : CI l D vwCl cI cZ cJ SL yMO_cover wsMO_cover rmMO_cover [.ref (ad 0), .int (iZ x), .int (iZ y)] (mW cI cZ ad W D_ r hM rM tM wM mp mk wh sM hi vS cd mn) (fun z w1 => ∃ (t' wh' sM' hi' : Int → Int), w1 = (mW cI cZ ad W D_ r hM rM t' wM mp mk wh' sM' hi' vS 0 mn) ∧ RLI W D_ r (fun k => hM k + rM k) wh' sM' hi' ((W + 2 * r) * (D_ + 2 * r)) ∧ CVI wh' sM' W r x y ((2 * r + 1) * (2 * r + 1)) z) := by
  refine tt_startI (by decide) rfl (Nat.le_of_ble_eq_true rfl) ?_
  intro p e s m args below meth c hnm F
  obtain ⟨hW1, hW2, hD1, hD2, hr1, hr2⟩ := id hg
  have hrr := rr_b hr1 hr2
  have hPL := pl_b hW1 hW2 hD1 hD2 hr1 hr2
  refine tt_aload_n F 0 rfl rfl dMO_cover_0 ?_
  refine tt_aload_n F 0 rfl rfl dMO_cover_1 ?_
  refine tt_iload_n F 1 rfl rfl dMO_cover_2 ?_
  refine tt_iload_n F 2 rfl rfl dMO_cover_3 ?_
  refine tt_cOV F (As := [.int (iZ x), .int (iZ y)]) [] 0 rfl rfl (o_isPoint (hM := hM) (rM := rM) (tM := tM) (wM := wM) (mp := mp) (mk := mk) (wh := wh) (sM := sM) (hi := hi) (vS := vS) (cd := cd) (mn := mn) hg (by omega) (by omega)) (cwV 2 F.1.2.2.2.2 (gw_V wd752 wd754 wd29 wd53 wd755) rfl rfl rfl (by decide +kernel) ⟨(Nat.le_of_ble_eq_true rfl), (Nat.le_of_ble_eq_true rfl)⟩) rfl rfl rfl (Nat.le_of_ble_eq_true rfl) ⟨(Nat.le_of_ble_eq_true rfl), (Nat.le_of_ble_eq_true rfl)⟩ dMO_cover_4 (fun v4 hp => ?_)
  obtain ⟨z4, rfl, hz4⟩ := hp
  have hb4 := zb_b hz4
  refine tt_if_eq F 14 ⟨by omega, by omega⟩ dMO_cover_7 (by decide) (fun c7 => ?_) (fun c7 => ?_)
  · skip
    exfalso; omega
  · skip
    refine tt_iconst F dMO_cover_10 ?_
    refine tt_goto F 15 (by decide) dMO_cover_11 ?_
    refine tt_put F (fun h => h) inMO tyMO tyMO_ok nmMO 0 rfl rfl 0 (by decide) we698 rfl rfl rfl rfl (show (0 : Nat) + 1 ≤ _ from Nat.le_of_ble_eq_true rfl) dMO_cover_15 ?_
    refine tt_aload_n F 0 rfl rfl dMO_cover_18 ?_
    refine tt_get F inMO 0 rfl rfl 0 (by decide) we698 rfl dMO_cover_19 ?_
    refine tt_if_le F 27 ⟨by omega, by omega⟩ dMO_cover_22 (by decide) (fun c22 => ?_) (fun c22 => ?_)
    · skip
      refine tt_aload_n F 0 rfl rfl dMO_cover_27 ?_
      refine tt_cVV0 F (fun h => h) (As := []) 0 rfl rfl (c_stand (hM := hM) (rM := rM) (tM := tM) (wM := wM) (mp := mp) (mk := mk) (wh := wh) (sM := sM) (hi := hi) (vS := vS) (cd := 0) (mn := mn)) (cwV 0 F.1.2.2.2.2 (gw_V wd774 wd776 wd31 wd53 wd777) rfl rfl rfl (by decide +kernel) ⟨(Nat.le_of_ble_eq_true rfl), (Nat.le_of_ble_eq_true rfl)⟩) rfl rfl rfl (Nat.le_of_ble_eq_true rfl) ⟨(Nat.le_of_ble_eq_true rfl), (Nat.le_of_ble_eq_true rfl)⟩ dMO_cover_28 (fun w1 hp => ?_)
      obtain ⟨t28, rfl, ht28⟩ := hp
      refine tt_aload_n F 0 rfl rfl dMO_cover_31 ?_
      refine tt_cVV0 F (fun h => h) (As := []) 0 rfl rfl (c_roll (hM := hM) (rM := rM) (tM := t28) (wM := wM) (mp := mp) (mk := mk) (wh := wh) (sM := sM) (hi := hi) (vS := vS) (cd := 0) (mn := mn) hg (fun k k0 k1 => by rw [ht28 k k0 k1]; have := hB k k0 k1; omega)) (cwV 0 F.1.2.2.2.2 (gw_V wd820 wd822 wd38 wd53 wd823) rfl rfl rfl (by decide +kernel) ⟨(Nat.le_of_ble_eq_true rfl), (Nat.le_of_ble_eq_true rfl)⟩) rfl rfl rfl (Nat.le_of_ble_eq_true rfl) ⟨(Nat.le_of_ble_eq_true rfl), (Nat.le_of_ble_eq_true rfl)⟩ dMO_cover_32 (fun w1 hp => ?_)
      obtain ⟨wh32, sM32, hi32, rfl, hRL32⟩ := hp
      refine tt_sipush F (by decide) dMO_cover_35 ?_
      refine tt_istore_n F [(3, .int (iZ 1000)), (0, .ref (ad 0)), (1, .int (iZ x)), (2, .int (iZ y))] rfl (by decide) rfl dMO_cover_38 ?_
      refine tt_iload_n F 3 rfl rfl dMO_cover_39 ?_
      refine tt_aload_n F 1 rfl rfl dMO_cover_40 ?_
      refine tt_get F inMO 0 rfl rfl 3 (by decide) we701 rfl dMO_cover_41 ?_
      refine tt_isub F dMO_cover_44 ?_
      refine tt_istore F [(4, .int (iZ (y - r))), (3, .int (iZ 1000)), (0, .ref (ad 0)), (1, .int (iZ x)), (2, .int (iZ y))] (by decide) rfl dMO_cover_45 ?_
      refine tt_sub [2, 3, 4, 1, 0] rfl ?_
      refine lp_covy F hg hRL32 hp (fun bst py h => ?_) ((y + r + 1 - (y - r)).toNat + 1) 1000 (y - r) (by omega) (by omega) (by omega) ⟨fun dx dy g1 g2 g3 g4 g5 g6 => ?_, Or.inl rfl⟩
      · skip
        refine tt_iload_n F 0 rfl rfl dMO_cover_205 ?_
        exact tt_iret F rfl (Nat.le_of_ble_eq_true rfl) (Nat.le_of_ble_eq_true rfl) dMO_cover_206 ⟨t28, wh32, sM32, hi32, rfl, RLI_c (fun k k0 k1 => (ht28 k k0 k1).symm) hRL32, h⟩
      · skip
        have hq := (ix_b (i := dx + r) (j := dy + r) (W := 2 * r + 1) (D := 2 * r + 1) (by omega) (by omega) (by omega) (by omega)).1
        rw [show y - r - y + r = 0 by omega, Int.zero_mul] at g6
        omega
    · skip
      exact absurd c22 (by omega)
set_option maxHeartbeats 4000000 in
set_option maxRecDepth 100000 in
theorem n_coverM {x y : Int} (hg : 1 ≤ W ∧ W ≤ 12 ∧ 1 ≤ D_ ∧ D_ ≤ 12 ∧ 1 ≤ r ∧ r ≤ 10) (hx : ir x) (hy : ir y) (h : ¬ ((0 ≤ x ∧ x < W) ∧ 0 ≤ y ∧ y < D_)) : CI l D vwCl cI cZ cJ SL yMO_cover wsMO_cover rmMO_cover [.ref (ad 0), .int (iZ x), .int (iZ y)] (mW cI cZ ad W D_ r hM rM tM wM mp mk wh sM hi vS cd mn) (fun z w1 => w1 = (mW cI cZ ad W D_ r hM rM tM wM mp mk wh sM hi vS 1 mn)) := by
  refine tt_startI (by decide) rfl (Nat.le_of_ble_eq_true rfl) ?_
  intro p e s m args below meth c hnm F
  obtain ⟨hW1, hW2, hD1, hD2, hr1, hr2⟩ := id hg
  refine tt_aload_n F 0 rfl rfl dMO_cover_0 ?_
  refine tt_aload_n F 0 rfl rfl dMO_cover_1 ?_
  refine tt_iload_n F 1 rfl rfl dMO_cover_2 ?_
  refine tt_iload_n F 2 rfl rfl dMO_cover_3 ?_
  refine tt_cOV F (As := [.int (iZ x), .int (iZ y)]) [] 0 rfl rfl (o_isPoint (hM := hM) (rM := rM) (tM := tM) (wM := wM) (mp := mp) (mk := mk) (wh := wh) (sM := sM) (hi := hi) (vS := vS) (cd := cd) (mn := mn) hg (by omega) (by omega)) (cwV 2 F.1.2.2.2.2 (gw_V wd752 wd754 wd29 wd53 wd755) rfl rfl rfl (by decide +kernel) ⟨(Nat.le_of_ble_eq_true rfl), (Nat.le_of_ble_eq_true rfl)⟩) rfl rfl rfl (Nat.le_of_ble_eq_true rfl) ⟨(Nat.le_of_ble_eq_true rfl), (Nat.le_of_ble_eq_true rfl)⟩ dMO_cover_4 (fun v4 hp => ?_)
  obtain ⟨z4, rfl, hz4⟩ := hp
  have hb4 := zb_b hz4
  refine tt_if_eq F 14 ⟨by omega, by omega⟩ dMO_cover_7 (by decide) (fun c7 => ?_) (fun c7 => ?_)
  · skip
    refine tt_iconst F dMO_cover_14 ?_
    refine tt_put F (fun h => h) inMO tyMO tyMO_ok nmMO 0 rfl rfl 0 (by decide) we698 rfl rfl rfl rfl (show (0 : Nat) + 1 ≤ _ from Nat.le_of_ble_eq_true rfl) dMO_cover_15 ?_
    refine tt_aload_n F 0 rfl rfl dMO_cover_18 ?_
    refine tt_get F inMO 0 rfl rfl 0 (by decide) we698 rfl dMO_cover_19 ?_
    refine tt_if_le F 27 ⟨by omega, by omega⟩ dMO_cover_22 (by decide) (fun c22 => ?_) (fun c22 => ?_)
    · skip
      exact absurd c22 (by omega)
    · skip
      refine tt_iconst F dMO_cover_25 ?_
      exact tt_iret F rfl (Nat.le_of_ble_eq_true rfl) (Nat.le_of_ble_eq_true rfl) dMO_cover_26 rfl
  · skip
    exact (h (by omega)).elim
end MOD3
