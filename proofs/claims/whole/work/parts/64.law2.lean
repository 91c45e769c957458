/-- what holds between the law's calls -/
def LI (cI cZ cJ : ClassId) (a ad : Nat → Nat) (o : Nat) (W D_ r sz : Int) (co ro ho ac al sd lf sq : Int → Int) (ws : va_W) : Prop := ∃ (f : Int → Int) (hs rs ts rt_ hc li re ow tc cp ck wa qp qt qs lo sb : Int → Int) (lc cn ch sk : Int) (hM rM tM wM mp mk wh sM hi vS : Int → Int) (cd mn : Int), ws = (mW cI cZ ad W D_ r hM rM tM wM mp mk wh sM hi vS cd mn) ++ ((o, aJ cJ 1 f) :: (cW cI cZ a W D_ r sz co ro ho ac al sd lf sq hs rs ts rt_ hc li re ow tc cp ck wa qp qt qs lo sb lc cn ch sk)) ∧ PUB W D_ r hs rs ts rt_ hc re ow tc cp ck wa cn ∧ REL W D_ hs rs cp ck wa cn hM rM wM mp mk mn
set_option maxHeartbeats 4000000 in
set_option maxRecDepth 100000 in
theorem cs_height {p : Program} {l : Launch} {e : Env} {s : State} {m : MethodId} {below : List Frame} {meth : Method} {c : Code} {Q : State → Prop} {cq : Cond} {D : va_G} {cI cZ cJ : ClassId} {SL : List zS} {A : Nat → Prop} {b L o aS : Nat} {xs : Nat → Int32} {ad : Nat → Nat} {a : Nat → Nat} {W D_ r sz : Int} {co ro ho ac al sd lf sq : Int → Int} {i : Int} {c0 s0 : Nat} (F : FX p s m #[Value.ref b] meth c cLW_law 7 (some .boolean) (cq :: gT) RLW D vwCl cI cZ cJ SL A) (hst : l.stackTraces = false) (hX : va_X b L xs s s.heap) (hbl : b < s.heap.size) (hbA : ¬ A b) (hL : L ≤ 2563) (hsp : SRx RRB ssL s) (hAo : ∀ q, q < s.heap.size → ¬ A q) (hG : GE W D_ r sz co ro ho ac al sd lf sq) (hsw : SL[1]? = some ("RollingBalls$Plan", "SETS_WITH", "[I", aS, 4, fun j : Nat => Value.int (iZ (SWv (j : Int))))) (hc0 : c0 ≤ 20000) (hs0 : s0 ≤ 100000) (hi : 3 ≤ i ∧ i ≤ (L : Int) - 5)
    (k : ∀ ws, LI cI cZ cJ a ad o W D_ r sz co ro ho ac al sd lf sq ws → TT p l e room_1 s m #[Value.ref b] below meth c D vwCl A 7 False Q 991 [(0, .ref b), (1, .ref (a 0)), (2, .ref (ad 0)), (3, .ref o), (4, .int (iZ i))] [] ws (c0 + 1) (s0 + 6)) (ws : va_W) (hI : LI cI cZ cJ a ad o W D_ r sz co ro ho ac al sd lf sq ws) : TT p l e room_1 s m #[Value.ref b] below meth c D vwCl A 7 False Q 140 [(0, .ref b), (1, .ref (a 0)), (2, .ref (ad 0)), (3, .ref o), (4, .int (iZ i))] [] ws (c0) (s0) := by
  obtain ⟨f, hs, rs, ts, rt_, hc, li, re, ow, tc, cp, ck, wa, qp, qt, qs, lo, sb, lc, cn, ch, sk, hM, rM, tM, wM, mp, mk, wh, sM, hi, vS, cd, mn, rfl, hU, hR⟩ := hI
  have hg : 1 ≤ W ∧ W ≤ 12 ∧ 1 ≤ D_ ∧ D_ ≤ 12 ∧ 1 ≤ r ∧ r ≤ 10 := hG.1
  refine tt_aload_n F 1 rfl rfl dLW_law_140 ?_
  refine tt_aload_n F 0 rfl rfl dLW_law_141 ?_
  refine tt_iload F 4 rfl dLW_law_142 ?_
  refine tt_iconst F dLW_law_144 ?_
  refine tt_iadd F dLW_law_145 ?_
  refine tt_sld F hX hbl hbA (by omega) (by omega) (by omega) dLW_law_146 ?_
  refine tt_aload_n F 0 rfl rfl dLW_law_147 ?_
  refine tt_iload F 4 rfl dLW_law_148 ?_
  refine tt_iconst F dLW_law_150 ?_
  refine tt_iadd F dLW_law_151 ?_
  refine tt_sld F hX hbl hbA (by omega) (by omega) (by omega) dLW_law_152 ?_
  refine tt_aload_n F 0 rfl rfl dLW_law_153 ?_
  refine tt_iload F 4 rfl dLW_law_154 ?_
  refine tt_iconst F dLW_law_156 ?_
  refine tt_iadd F dLW_law_157 ?_
  refine tt_sld F hX hbl hbA (by omega) (by omega) (by omega) dLW_law_158 ?_
  refine tt_aload_n F 3 rfl rfl dLW_law_159 ?_
  refine tk_call F (fun h => h) hsp hAo (As := [.ref (a 0), .int (iZ (scv xs (i + 1))), .int (iZ (scv xs (i + 2))), .int (iZ (scv xs (i + 3))), .ref o]) (mW cI cZ ad W D_ r hM rM tM wM mp mk wh sM hi vS cd mn) (k_height (f := f) (hs := hs) (rs := rs) (ts := ts) (rt_ := rt_) (hc := hc) (li := li) (re := re) (ow := ow) (tc := tc) (cp := cp) (ck := ck) (wa := wa) (qp := qp) (qt := qt) (qs := qs) (lo := lo) (sb := sb) (lc := lc) (cn := cn) (ch := ch) (sk := sk) hst hG hU (scv_ir _ _) (scv_ir _ _) (scv_ir _ _)) (callK_of 5 F.1.2.2.2.2 (gw_S wd477 wd478 wd44 wd479) rfl (by decide +kernel) ⟨(Nat.le_of_ble_eq_true rfl), (Nat.le_of_ble_eq_true rfl)⟩) rfl rfl rfl (Nat.le_of_ble_eq_true rfl) ⟨by show c0 + 1 ≤ 601024; omega, by show s0 + 6 ≤ 7293000; omega⟩ dLW_law_160 (fun k_ w1 hp => ?_)
  refine tt_wid (k := c0 + 1) (n := s0 + 6) (by first | exact Nat.le_refl _ | (show c0 + 0 ≤ c0 + 1; omega)) (by first | exact Nat.le_refl _ | (show s0 + 0 ≤ s0 + 6; omega)) ?_
  refine tt_comm ?_
  rcases hp with ⟨hv, rfl, z1, wc, rfl, hp⟩ | ⟨hv, rfl, rfl⟩
  · skip
    refine tt_istore F [(5, .int (iZ 0)), (0, .ref b), (1, .ref (a 0)), (2, .ref (ad 0)), (3, .ref o), (4, .int (iZ i))] (by decide) rfl dLW_law_163 ?_
    refine tt_aload_n F 3 rfl rfl dLW_law_165 ?_
    refine tt_aload_n F 1 rfl rfl dLW_law_166 ?_
    refine tt_iload F 5 rfl dLW_law_167 ?_
    refine tt_iconst F dLW_law_169 ?_
    refine tt_iadd F dLW_law_170 ?_
    refine tt_sld F hX hbl hbA (by omega) (by omega) (by omega) dLW_law_171 ?_
    refine tt_aload_n F 1 rfl rfl dLW_law_172 ?_
    refine tt_iload F 5 rfl dLW_law_173 ?_
    refine tt_iconst F dLW_law_175 ?_
    refine tt_iadd F dLW_law_176 ?_
    refine tt_sld F hX hbl hbA (by omega) (by omega) (by omega) dLW_law_177 ?_
    refine tt_aload_n F 1 rfl rfl dLW_law_178 ?_
    refine tt_iload F 5 rfl dLW_law_179 ?_
    refine tt_iconst F dLW_law_181 ?_
    refine tt_iadd F dLW_law_182 ?_
    refine tt_sld F hX hbl hbA (by omega) (by omega) (by omega) dLW_law_183 ?_
    refine tt_cIV F (fun h => h) (As := [.int (iZ (scv xs (i + 1))), .int (iZ (scv xs (i + 2))), .int (iZ (scv xs (i + 3)))]) ((o, aJ cJ 1 (zu f 0 (nz z1))) :: wc) 0 rfl rfl (c_heightM (hM := hM) (rM := rM) (tM := tM) (wM := wM) (mp := mp) (mk := mk) (wh := wh) (sM := sM) (hi := hi) (vS := vS) (cd := cd) (mn := mn) hg hv.1 hv.2) (cwV 3 F.1.2.2.2.2 (gw_V wd748 wd749 wd750 wd53 wd751) rfl rfl rfl (by decide +kernel) ⟨(Nat.le_of_ble_eq_true rfl), (Nat.le_of_ble_eq_true rfl)⟩) rfl rfl rfl (Nat.le_of_ble_eq_true rfl) ⟨by show c0 + 1 + _ ≤ 601024; show c0 + 1 + 0 ≤ 601024; omega, by show s0 + 6 + 0 ≤ 7293000; omega⟩ dLW_law_184 (fun z2 w2 hp2 => ?_)
    refine tt_wid (k := c0 + 1) (n := s0 + 6) (by first | exact Nat.le_refl _ | (show c0 + 0 ≤ c0 + 1; omega)) (by first | exact Nat.le_refl _ | (show s0 + 0 ≤ s0 + 6; omega)) ?_
    obtain ⟨hz2, rfl⟩ := hp2
    obtain ⟨hz1, ts', rt', hc', li', re', ow', tc', lc', rfl, hU'⟩ := hp
    have heq : z1 = z2 := by rw [hz1, hz2]; exact (hR.1 _ _ hv.1.1.1 hv.1.1.2 hv.1.2.1 hv.1.2.2).1.symm
    refine tt_istore F [(6, .int (iZ z2)), (5, .int (iZ 0)), (0, .ref b), (1, .ref (a 0)), (2, .ref (ad 0)), (3, .ref o), (4, .int (iZ i))] (by decide) rfl dLW_law_187 ?_
    refine tt_aload_n F 4 rfl rfl dLW_law_189 ?_
    refine tt_cOV F (As := []) _ 0 rfl rfl o_thrown (cwV 0 F.1.2.2.2.2 (gw_V wd744 wd745 wd746 wd53 wd747) rfl rfl rfl (by decide +kernel) ⟨(Nat.le_of_ble_eq_true rfl), (Nat.le_of_ble_eq_true rfl)⟩) rfl rfl rfl (Nat.le_of_ble_eq_true rfl) ⟨by show c0 + 1 ≤ 601024; omega, by show s0 + 6 ≤ 7293000; omega⟩ dLW_law_190 (fun v hv3 => ?_)
    subst hv3
    refine tt_iload F 1 rfl dLW_law_193 ?_
    refine tt_icmp_eq F 200 ⟨by omega, by omega⟩ ⟨by omega, by omega⟩ dLW_law_195 (by decide) (fun c195 => ?_) (fun c195 => ?_)
    · skip
      refine tt_iload F 1 rfl dLW_law_200 ?_
      refine tt_if_ne F 217 ⟨by omega, by omega⟩ dLW_law_202 (by decide) (fun c202 => ?_) (fun c202 => ?_)
      · skip
        exact absurd rfl c202
      · skip
        refine tt_aload_n F 5 rfl rfl dLW_law_205 ?_
        refine tt_iconst F dLW_law_206 ?_
        refine tt_jald F 0 rfl (by omega) (by omega) (by omega) dLW_law_207 ?_
        refine tt_iload F 0 rfl dLW_law_208 ?_
        refine tt_i2ln F dLW_law_210 ?_
        refine tt_lcmp F (by rw [zu_s]; exact nz_ir _) (nz_ir _) dLW_law_211 (fun z211 hr211 hz211 => ?_)
        refine tt_if_eq F 217 ⟨by omega, by omega⟩ dLW_law_212 (by decide) (fun c212 => ?_) (fun c212 => ?_)
        · skip
          refine tt_goto F 991 (by decide) dLW_law_217 ?_
          refine tt_sub [2, 3, 4, 5, 6] rfl ?_
          refine tt_comm ?_
          exact k _ ⟨_, _, _, _, _, _, _, _, _, _, _, _, _, _, _, _, _, _, _, _, _, _, _, _, _, _, _, _, _, _, _, _, _, _, rfl, hU', rel_h hg.2.1 hg.2.2.2.1 hv.1 hv.2 hR⟩
        · skip
          exact absurd (hz211.mpr (by rw [zu_s, heq])) c212
    · skip
      exact absurd rfl c195
  · skip
    refine tt_istore F [(5, .int (iZ 1)), (0, .ref b), (1, .ref (a 0)), (2, .ref (ad 0)), (3, .ref o), (4, .int (iZ i))] (by decide) rfl dLW_law_163 ?_
    refine tt_aload_n F 3 rfl rfl dLW_law_165 ?_
    refine tt_aload_n F 1 rfl rfl dLW_law_166 ?_
    refine tt_iload F 5 rfl dLW_law_167 ?_
    refine tt_iconst F dLW_law_169 ?_
    refine tt_iadd F dLW_law_170 ?_
    refine tt_sld F hX hbl hbA (by omega) (by omega) (by omega) dLW_law_171 ?_
    refine tt_aload_n F 1 rfl rfl dLW_law_172 ?_
    refine tt_iload F 5 rfl dLW_law_173 ?_
    refine tt_iconst F dLW_law_175 ?_
    refine tt_iadd F dLW_law_176 ?_
    refine tt_sld F hX hbl hbA (by omega) (by omega) (by omega) dLW_law_177 ?_
    refine tt_aload_n F 1 rfl rfl dLW_law_178 ?_
    refine tt_iload F 5 rfl dLW_law_179 ?_
    refine tt_iconst F dLW_law_181 ?_
    refine tt_iadd F dLW_law_182 ?_
    refine tt_sld F hX hbl hbA (by omega) (by omega) (by omega) dLW_law_183 ?_
    refine tt_cIV F (fun h => h) (As := [.int (iZ (scv xs (i + 1))), .int (iZ (scv xs (i + 2))), .int (iZ (scv xs (i + 3)))]) ((o, aJ cJ 1 f) :: (cW cI cZ a W D_ r sz co ro ho ac al sd lf sq hs rs ts rt_ hc li re ow tc cp ck wa qp qt qs lo sb lc cn ch sk)) 0 rfl rfl (n_heightM (hM := hM) (rM := rM) (tM := tM) (wM := wM) (mp := mp) (mk := mk) (wh := wh) (sM := sM) (hi := hi) (vS := vS) (cd := cd) (mn := mn) hg (scv_ir _ _) (scv_ir _ _) (scv_ir _ _) hv) (cwV 3 F.1.2.2.2.2 (gw_V wd748 wd749 wd750 wd53 wd751) rfl rfl rfl (by decide +kernel) ⟨(Nat.le_of_ble_eq_true rfl), (Nat.le_of_ble_eq_true rfl)⟩) rfl rfl rfl (Nat.le_of_ble_eq_true rfl) ⟨by show c0 + 1 + _ ≤ 601024; show c0 + 1 + 0 ≤ 601024; omega, by show s0 + 6 + 0 ≤ 7293000; omega⟩ dLW_law_184 (fun z2 w2 hp2 => ?_)
    refine tt_wid (k := c0 + 1) (n := s0 + 6) (by first | exact Nat.le_refl _ | (show c0 + 0 ≤ c0 + 1; omega)) (by first | exact Nat.le_refl _ | (show s0 + 0 ≤ s0 + 6; omega)) ?_
    subst hp2
    refine tt_istore F [(6, .int (iZ z2)), (5, .int (iZ 1)), (0, .ref b), (1, .ref (a 0)), (2, .ref (ad 0)), (3, .ref o), (4, .int (iZ i))] (by decide) rfl dLW_law_187 ?_
    refine tt_aload_n F 4 rfl rfl dLW_law_189 ?_
    refine tt_cOV F (As := []) _ 0 rfl rfl o_thrown (cwV 0 F.1.2.2.2.2 (gw_V wd744 wd745 wd746 wd53 wd747) rfl rfl rfl (by decide +kernel) ⟨(Nat.le_of_ble_eq_true rfl), (Nat.le_of_ble_eq_true rfl)⟩) rfl rfl rfl (Nat.le_of_ble_eq_true rfl) ⟨by show c0 + 1 ≤ 601024; omega, by show s0 + 6 ≤ 7293000; omega⟩ dLW_law_190 (fun v hv3 => ?_)
    subst hv3
    refine tt_iload F 1 rfl dLW_law_193 ?_
    refine tt_icmp_eq F 200 ⟨by omega, by omega⟩ ⟨by omega, by omega⟩ dLW_law_195 (by decide) (fun c195 => ?_) (fun c195 => ?_)
    · skip
      refine tt_iload F 1 rfl dLW_law_200 ?_
      refine tt_if_ne F 217 ⟨by omega, by omega⟩ dLW_law_202 (by decide) (fun c202 => ?_) (fun c202 => ?_)
      · skip
        refine tt_goto F 991 (by decide) dLW_law_217 ?_
        refine tt_sub [2, 3, 4, 5, 6] rfl ?_
        refine tt_comm ?_
        exact k _ ⟨_, _, _, _, _, _, _, _, _, _, _, _, _, _, _, _, _, _, _, _, _, _, _, _, _, _, _, _, _, _, _, _, _, _, rfl, hU, hR⟩
      · skip
        exact absurd c202 (by decide)
    · skip
      exact absurd rfl c195
set_option maxHeartbeats 4000000 in
set_option maxRecDepth 100000 in
theorem cs_rod {p : Program} {l : Launch} {e : Env} {s : State} {m : MethodId} {below : List Frame} {meth : Method} {c : Code} {Q : State → Prop} {cq : Cond} {D : va_G} {cI cZ cJ : ClassId} {SL : List zS} {A : Nat → Prop} {b L o aS : Nat} {xs : Nat → Int32} {ad : Nat → Nat} {a : Nat → Nat} {W D_ r sz : Int} {co ro ho ac al sd lf sq : Int → Int} {i : Int} {c0 s0 : Nat} (F : FX p s m #[Value.ref b] meth c cLW_law 7 (some .boolean) (cq :: gT) RLW D vwCl cI cZ cJ SL A) (hst : l.stackTraces = false) (hX : va_X b L xs s s.heap) (hbl : b < s.heap.size) (hbA : ¬ A b) (hL : L ≤ 2563) (hsp : SRx RRB ssL s) (hAo : ∀ q, q < s.heap.size → ¬ A q) (hG : GE W D_ r sz co ro ho ac al sd lf sq) (hsw : SL[1]? = some ("RollingBalls$Plan", "SETS_WITH", "[I", aS, 4, fun j : Nat => Value.int (iZ (SWv (j : Int))))) (hc0 : c0 ≤ 20000) (hs0 : s0 ≤ 100000) (hi : 3 ≤ i ∧ i ≤ (L : Int) - 5)
    (k : ∀ ws, LI cI cZ cJ a ad o W D_ r sz co ro ho ac al sd lf sq ws → TT p l e room_1 s m #[Value.ref b] below meth c D vwCl A 7 False Q 991 [(0, .ref b), (1, .ref (a 0)), (2, .ref (ad 0)), (3, .ref o), (4, .int (iZ i))] [] ws (c0 + 1) (s0 + 6)) (ws : va_W) (hI : LI cI cZ cJ a ad o W D_ r sz co ro ho ac al sd lf sq ws) : TT p l e room_1 s m #[Value.ref b] below meth c D vwCl A 7 False Q 220 [(0, .ref b), (1, .ref (a 0)), (2, .ref (ad 0)), (3, .ref o), (4, .int (iZ i))] [] ws (c0) (s0) := by
  obtain ⟨f, hs, rs, ts, rt_, hc, li, re, ow, tc, cp, ck, wa, qp, qt, qs, lo, sb, lc, cn, ch, sk, hM, rM, tM, wM, mp, mk, wh, sM, hi, vS, cd, mn, rfl, hU, hR⟩ := hI
  have hg : 1 ≤ W ∧ W ≤ 12 ∧ 1 ≤ D_ ∧ D_ ≤ 12 ∧ 1 ≤ r ∧ r ≤ 10 := hG.1
  refine tt_aload_n F 1 rfl rfl dLW_law_220 ?_
  refine tt_aload_n F 0 rfl rfl dLW_law_221 ?_
  refine tt_iload F 4 rfl dLW_law_222 ?_
  refine tt_iconst F dLW_law_224 ?_
  refine tt_iadd F dLW_law_225 ?_
  refine tt_sld F hX hbl hbA (by omega) (by omega) (by omega) dLW_law_226 ?_
  refine tt_aload_n F 0 rfl rfl dLW_law_227 ?_
  refine tt_iload F 4 rfl dLW_law_228 ?_
  refine tt_iconst F dLW_law_230 ?_
  refine tt_iadd F dLW_law_231 ?_
  refine tt_sld F hX hbl hbA (by omega) (by omega) (by omega) dLW_law_232 ?_
  refine tt_aload_n F 0 rfl rfl dLW_law_233 ?_
  refine tt_iload F 4 rfl dLW_law_234 ?_
  refine tt_iconst F dLW_law_236 ?_
  refine tt_iadd F dLW_law_237 ?_
  refine tt_sld F hX hbl hbA (by omega) (by omega) (by omega) dLW_law_238 ?_
  refine tt_aload_n F 3 rfl rfl dLW_law_239 ?_
  refine tk_call F (fun h => h) hsp hAo (As := [.ref (a 0), .int (iZ (scv xs (i + 1))), .int (iZ (scv xs (i + 2))), .int (iZ (scv xs (i + 3))), .ref o]) (mW cI cZ ad W D_ r hM rM tM wM mp mk wh sM hi vS cd mn) (k_rod (f := f) (hs := hs) (rs := rs) (ts := ts) (rt_ := rt_) (hc := hc) (li := li) (re := re) (ow := ow) (tc := tc) (cp := cp) (ck := ck) (wa := wa) (qp := qp) (qt := qt) (qs := qs) (lo := lo) (sb := sb) (lc := lc) (cn := cn) (ch := ch) (sk := sk) hst hG hU (scv_ir _ _) (scv_ir _ _) (scv_ir _ _)) (callK_of 5 F.1.2.2.2.2 (gw_S wd559 wd560 wd44 wd561) rfl (by decide +kernel) ⟨(Nat.le_of_ble_eq_true rfl), (Nat.le_of_ble_eq_true rfl)⟩) rfl rfl rfl (Nat.le_of_ble_eq_true rfl) ⟨by show c0 + 1 ≤ 601024; omega, by show s0 + 6 ≤ 7293000; omega⟩ dLW_law_240 (fun k_ w1 hp => ?_)
  refine tt_wid (k := c0 + 1) (n := s0 + 6) (by first | exact Nat.le_refl _ | (show c0 + 0 ≤ c0 + 1; omega)) (by first | exact Nat.le_refl _ | (show s0 + 0 ≤ s0 + 6; omega)) ?_
  refine tt_comm ?_
  rcases hp with ⟨hv, rfl, z1, wc, rfl, hp⟩ | ⟨hv, rfl, rfl⟩
  · skip
    refine tt_istore F [(5, .int (iZ 0)), (0, .ref b), (1, .ref (a 0)), (2, .ref (ad 0)), (3, .ref o), (4, .int (iZ i))] (by decide) rfl dLW_law_243 ?_
    refine tt_aload_n F 3 rfl rfl dLW_law_245 ?_
    refine tt_aload_n F 1 rfl rfl dLW_law_246 ?_
    refine tt_iload F 5 rfl dLW_law_247 ?_
    refine tt_iconst F dLW_law_249 ?_
    refine tt_iadd F dLW_law_250 ?_
    refine tt_sld F hX hbl hbA (by omega) (by omega) (by omega) dLW_law_251 ?_
    refine tt_aload_n F 1 rfl rfl dLW_law_252 ?_
    refine tt_iload F 5 rfl dLW_law_253 ?_
    refine tt_iconst F dLW_law_255 ?_
    refine tt_iadd F dLW_law_256 ?_
    refine tt_sld F hX hbl hbA (by omega) (by omega) (by omega) dLW_law_257 ?_
    refine tt_aload_n F 1 rfl rfl dLW_law_258 ?_
    refine tt_iload F 5 rfl dLW_law_259 ?_
    refine tt_iconst F dLW_law_261 ?_
    refine tt_iadd F dLW_law_262 ?_
    refine tt_sld F hX hbl hbA (by omega) (by omega) (by omega) dLW_law_263 ?_
    refine tt_cIV F (fun h => h) (As := [.int (iZ (scv xs (i + 1))), .int (iZ (scv xs (i + 2))), .int (iZ (scv xs (i + 3)))]) ((o, aJ cJ 1 (zu f 0 (nz z1))) :: wc) 0 rfl rfl (c_rodM (hM := hM) (rM := rM) (tM := tM) (wM := wM) (mp := mp) (mk := mk) (wh := wh) (sM := sM) (hi := hi) (vS := vS) (cd := cd) (mn := mn) hg hv.1 hv.2) (cwV 3 F.1.2.2.2.2 (gw_V wd762 wd763 wd764 wd53 wd765) rfl rfl rfl (by decide +kernel) ⟨(Nat.le_of_ble_eq_true rfl), (Nat.le_of_ble_eq_true rfl)⟩) rfl rfl rfl (Nat.le_of_ble_eq_true rfl) ⟨by show c0 + 1 + _ ≤ 601024; show c0 + 1 + 0 ≤ 601024; omega, by show s0 + 6 + 0 ≤ 7293000; omega⟩ dLW_law_264 (fun z2 w2 hp2 => ?_)
    refine tt_wid (k := c0 + 1) (n := s0 + 6) (by first | exact Nat.le_refl _ | (show c0 + 0 ≤ c0 + 1; omega)) (by first | exact Nat.le_refl _ | (show s0 + 0 ≤ s0 + 6; omega)) ?_
    obtain ⟨hz2, rfl⟩ := hp2
    obtain ⟨hz1, ts', rt', hc', li', re', ow', tc', lc', rfl, hU'⟩ := hp
    have heq : z1 = z2 := by rw [hz1, hz2]; exact (hR.1 _ _ hv.1.1.1 hv.1.1.2 hv.1.2.1 hv.1.2.2).2.1.symm
    refine tt_istore F [(6, .int (iZ z2)), (5, .int (iZ 0)), (0, .ref b), (1, .ref (a 0)), (2, .ref (ad 0)), (3, .ref o), (4, .int (iZ i))] (by decide) rfl dLW_law_267 ?_
    refine tt_aload_n F 4 rfl rfl dLW_law_269 ?_
    refine tt_cOV F (As := []) _ 0 rfl rfl o_thrown (cwV 0 F.1.2.2.2.2 (gw_V wd744 wd745 wd746 wd53 wd747) rfl rfl rfl (by decide +kernel) ⟨(Nat.le_of_ble_eq_true rfl), (Nat.le_of_ble_eq_true rfl)⟩) rfl rfl rfl (Nat.le_of_ble_eq_true rfl) ⟨by show c0 + 1 ≤ 601024; omega, by show s0 + 6 ≤ 7293000; omega⟩ dLW_law_270 (fun v hv3 => ?_)
    subst hv3
    refine tt_iload F 1 rfl dLW_law_273 ?_
    refine tt_icmp_eq F 280 ⟨by omega, by omega⟩ ⟨by omega, by omega⟩ dLW_law_275 (by decide) (fun c275 => ?_) (fun c275 => ?_)
    · skip
      refine tt_iload F 1 rfl dLW_law_280 ?_
      refine tt_if_ne F 297 ⟨by omega, by omega⟩ dLW_law_282 (by decide) (fun c282 => ?_) (fun c282 => ?_)
      · skip
        exact absurd rfl c282
      · skip
        refine tt_aload_n F 5 rfl rfl dLW_law_285 ?_
        refine tt_iconst F dLW_law_286 ?_
        refine tt_jald F 0 rfl (by omega) (by omega) (by omega) dLW_law_287 ?_
        refine tt_iload F 0 rfl dLW_law_288 ?_
        refine tt_i2ln F dLW_law_290 ?_
        refine tt_lcmp F (by rw [zu_s]; exact nz_ir _) (nz_ir _) dLW_law_291 (fun z291 hr291 hz291 => ?_)
        refine tt_if_eq F 297 ⟨by omega, by omega⟩ dLW_law_292 (by decide) (fun c292 => ?_) (fun c292 => ?_)
        · skip
          refine tt_goto F 991 (by decide) dLW_law_297 ?_
          refine tt_sub [2, 3, 4, 5, 6] rfl ?_
          refine tt_comm ?_
          exact k _ ⟨_, _, _, _, _, _, _, _, _, _, _, _, _, _, _, _, _, _, _, _, _, _, _, _, _, _, _, _, _, _, _, _, _, _, rfl, hU', rel_r hg.2.1 hg.2.2.2.1 hv.1 hv.2 hR⟩
        · skip
          exact absurd (hz291.mpr (by rw [zu_s, heq])) c292
    · skip
      exact absurd rfl c275
  · skip
    refine tt_istore F [(5, .int (iZ 1)), (0, .ref b), (1, .ref (a 0)), (2, .ref (ad 0)), (3, .ref o), (4, .int (iZ i))] (by decide) rfl dLW_law_243 ?_
    refine tt_aload_n F 3 rfl rfl dLW_law_245 ?_
    refine tt_aload_n F 1 rfl rfl dLW_law_246 ?_
    refine tt_iload F 5 rfl dLW_law_247 ?_
    refine tt_iconst F dLW_law_249 ?_
    refine tt_iadd F dLW_law_250 ?_
    refine tt_sld F hX hbl hbA (by omega) (by omega) (by omega) dLW_law_251 ?_
    refine tt_aload_n F 1 rfl rfl dLW_law_252 ?_
    refine tt_iload F 5 rfl dLW_law_253 ?_
    refine tt_iconst F dLW_law_255 ?_
    refine tt_iadd F dLW_law_256 ?_
    refine tt_sld F hX hbl hbA (by omega) (by omega) (by omega) dLW_law_257 ?_
    refine tt_aload_n F 1 rfl rfl dLW_law_258 ?_
    refine tt_iload F 5 rfl dLW_law_259 ?_
    refine tt_iconst F dLW_law_261 ?_
    refine tt_iadd F dLW_law_262 ?_
    refine tt_sld F hX hbl hbA (by omega) (by omega) (by omega) dLW_law_263 ?_
    refine tt_cIV F (fun h => h) (As := [.int (iZ (scv xs (i + 1))), .int (iZ (scv xs (i + 2))), .int (iZ (scv xs (i + 3)))]) ((o, aJ cJ 1 f) :: (cW cI cZ a W D_ r sz co ro ho ac al sd lf sq hs rs ts rt_ hc li re ow tc cp ck wa qp qt qs lo sb lc cn ch sk)) 0 rfl rfl (n_rodM (hM := hM) (rM := rM) (tM := tM) (wM := wM) (mp := mp) (mk := mk) (wh := wh) (sM := sM) (hi := hi) (vS := vS) (cd := cd) (mn := mn) hg (scv_ir _ _) (scv_ir _ _) (scv_ir _ _) hv) (cwV 3 F.1.2.2.2.2 (gw_V wd762 wd763 wd764 wd53 wd765) rfl rfl rfl (by decide +kernel) ⟨(Nat.le_of_ble_eq_true rfl), (Nat.le_of_ble_eq_true rfl)⟩) rfl rfl rfl (Nat.le_of_ble_eq_true rfl) ⟨by show c0 + 1 + _ ≤ 601024; show c0 + 1 + 0 ≤ 601024; omega, by show s0 + 6 + 0 ≤ 7293000; omega⟩ dLW_law_264 (fun z2 w2 hp2 => ?_)
    refine tt_wid (k := c0 + 1) (n := s0 + 6) (by first | exact Nat.le_refl _ | (show c0 + 0 ≤ c0 + 1; omega)) (by first | exact Nat.le_refl _ | (show s0 + 0 ≤ s0 + 6; omega)) ?_
    subst hp2
    refine tt_istore F [(6, .int (iZ z2)), (5, .int (iZ 1)), (0, .ref b), (1, .ref (a 0)), (2, .ref (ad 0)), (3, .ref o), (4, .int (iZ i))] (by decide) rfl dLW_law_267 ?_
    refine tt_aload_n F 4 rfl rfl dLW_law_269 ?_
    refine tt_cOV F (As := []) _ 0 rfl rfl o_thrown (cwV 0 F.1.2.2.2.2 (gw_V wd744 wd745 wd746 wd53 wd747) rfl rfl rfl (by decide +kernel) ⟨(Nat.le_of_ble_eq_true rfl), (Nat.le_of_ble_eq_true rfl)⟩) rfl rfl rfl (Nat.le_of_ble_eq_true rfl) ⟨by show c0 + 1 ≤ 601024; omega, by show s0 + 6 ≤ 7293000; omega⟩ dLW_law_270 (fun v hv3 => ?_)
    subst hv3
    refine tt_iload F 1 rfl dLW_law_273 ?_
    refine tt_icmp_eq F 280 ⟨by omega, by omega⟩ ⟨by omega, by omega⟩ dLW_law_275 (by decide) (fun c275 => ?_) (fun c275 => ?_)
    · skip
      refine tt_iload F 1 rfl dLW_law_280 ?_
      refine tt_if_ne F 297 ⟨by omega, by omega⟩ dLW_law_282 (by decide) (fun c282 => ?_) (fun c282 => ?_)
      · skip
        refine tt_goto F 991 (by decide) dLW_law_297 ?_
        refine tt_sub [2, 3, 4, 5, 6] rfl ?_
        refine tt_comm ?_
        exact k _ ⟨_, _, _, _, _, _, _, _, _, _, _, _, _, _, _, _, _, _, _, _, _, _, _, _, _, _, _, _, _, _, _, _, _, _, rfl, hU, hR⟩
      · skip
        exact absurd c282 (by decide)
    · skip
      exact absurd rfl c275
set_option maxHeartbeats 4000000 in
set_option maxRecDepth 100000 in
theorem cs_rest {p : Program} {l : Launch} {e : Env} {s : State} {m : MethodId} {below : List Frame} {meth : Method} {c : Code} {Q : State → Prop} {cq : Cond} {D : va_G} {cI cZ cJ : ClassId} {SL : List zS} {A : Nat → Prop} {b L o aS : Nat} {xs : Nat → Int32} {ad : Nat → Nat} {a : Nat → Nat} {W D_ r sz : Int} {co ro ho ac al sd lf sq : Int → Int} {i : Int} {c0 s0 : Nat} (F : FX p s m #[Value.ref b] meth c cLW_law 7 (some .boolean) (cq :: gT) RLW D vwCl cI cZ cJ SL A) (hst : l.stackTraces = false) (hX : va_X b L xs s s.heap) (hbl : b < s.heap.size) (hbA : ¬ A b) (hL : L ≤ 2563) (hsp : SRx RRB ssL s) (hAo : ∀ q, q < s.heap.size → ¬ A q) (hG : GE W D_ r sz co ro ho ac al sd lf sq) (hsw : SL[1]? = some ("RollingBalls$Plan", "SETS_WITH", "[I", aS, 4, fun j : Nat => Value.int (iZ (SWv (j : Int))))) (hc0 : c0 ≤ 20000) (hs0 : s0 ≤ 100000) (hi : 3 ≤ i ∧ i ≤ (L : Int) - 5)
    (k : ∀ ws, LI cI cZ cJ a ad o W D_ r sz co ro ho ac al sd lf sq ws → TT p l e room_1 s m #[Value.ref b] below meth c D vwCl A 7 False Q 991 [(0, .ref b), (1, .ref (a 0)), (2, .ref (ad 0)), (3, .ref o), (4, .int (iZ i))] [] ws (c0 + 1) (s0 + 6)) (ws : va_W) (hI : LI cI cZ cJ a ad o W D_ r sz co ro ho ac al sd lf sq ws) : TT p l e room_1 s m #[Value.ref b] below meth c D vwCl A 7 False Q 300 [(0, .ref b), (1, .ref (a 0)), (2, .ref (ad 0)), (3, .ref o), (4, .int (iZ i))] [] ws (c0) (s0) := by
  obtain ⟨f, hs, rs, ts, rt_, hc, li, re, ow, tc, cp, ck, wa, qp, qt, qs, lo, sb, lc, cn, ch, sk, hM, rM, tM, wM, mp, mk, wh, sM, hi, vS, cd, mn, rfl, hU, hR⟩ := hI
  have hg : 1 ≤ W ∧ W ≤ 12 ∧ 1 ≤ D_ ∧ D_ ≤ 12 ∧ 1 ≤ r ∧ r ≤ 10 := hG.1
  refine tt_aload_n F 1 rfl rfl dLW_law_300 ?_
  refine tt_aload_n F 0 rfl rfl dLW_law_301 ?_
  refine tt_iload F 4 rfl dLW_law_302 ?_
  refine tt_iconst F dLW_law_304 ?_
  refine tt_iadd F dLW_law_305 ?_
  refine tt_sld F hX hbl hbA (by omega) (by omega) (by omega) dLW_law_306 ?_
  refine tt_aload_n F 0 rfl rfl dLW_law_307 ?_
  refine tt_iload F 4 rfl dLW_law_308 ?_
  refine tt_iconst F dLW_law_310 ?_
  refine tt_iadd F dLW_law_311 ?_
  refine tt_sld F hX hbl hbA (by omega) (by omega) (by omega) dLW_law_312 ?_
  refine tt_aload_n F 0 rfl rfl dLW_law_313 ?_
  refine tt_iload F 4 rfl dLW_law_314 ?_
  refine tt_iconst F dLW_law_316 ?_
  refine tt_iadd F dLW_law_317 ?_
  refine tt_sld F hX hbl hbA (by omega) (by omega) (by omega) dLW_law_318 ?_
  refine tt_aload_n F 3 rfl rfl dLW_law_319 ?_
  refine tk_call F (fun h => h) hsp hAo (As := [.ref (a 0), .int (iZ (scv xs (i + 1))), .int (iZ (scv xs (i + 2))), .int (iZ (scv xs (i + 3))), .ref o]) (mW cI cZ ad W D_ r hM rM tM wM mp mk wh sM hi vS cd mn) (k_rest (f := f) (hs := hs) (rs := rs) (ts := ts) (rt_ := rt_) (hc := hc) (li := li) (re := re) (ow := ow) (tc := tc) (cp := cp) (ck := ck) (wa := wa) (qp := qp) (qt := qt) (qs := qs) (lo := lo) (sb := sb) (lc := lc) (cn := cn) (ch := ch) (sk := sk) hst hG hU (scv_ir _ _) (scv_ir _ _) (scv_ir _ _)) (callK_of 5 F.1.2.2.2.2 (gw_S wd566 wd567 wd44 wd568) rfl (by decide +kernel) ⟨(Nat.le_of_ble_eq_true rfl), (Nat.le_of_ble_eq_true rfl)⟩) rfl rfl rfl (Nat.le_of_ble_eq_true rfl) ⟨by show c0 + 1 ≤ 601024; omega, by show s0 + 6 ≤ 7293000; omega⟩ dLW_law_320 (fun k_ w1 hp => ?_)
  refine tt_wid (k := c0 + 1) (n := s0 + 6) (by first | exact Nat.le_refl _ | (show c0 + 0 ≤ c0 + 1; omega)) (by first | exact Nat.le_refl _ | (show s0 + 0 ≤ s0 + 6; omega)) ?_
  refine tt_comm ?_
  rcases hp with ⟨hv, rfl, z1, wc, rfl, hp⟩ | ⟨hv, rfl, rfl⟩
  · skip
    refine tt_istore F [(5, .int (iZ 0)), (0, .ref b), (1, .ref (a 0)), (2, .ref (ad 0)), (3, .ref o), (4, .int (iZ i))] (by decide) rfl dLW_law_323 ?_
    refine tt_aload_n F 3 rfl rfl dLW_law_325 ?_
    refine tt_aload_n F 1 rfl rfl dLW_law_326 ?_
    refine tt_iload F 5 rfl dLW_law_327 ?_
    refine tt_iconst F dLW_law_329 ?_
    refine tt_iadd F dLW_law_330 ?_
    refine tt_sld F hX hbl hbA (by omega) (by omega) (by omega) dLW_law_331 ?_
    refine tt_aload_n F 1 rfl rfl dLW_law_332 ?_
    refine tt_iload F 5 rfl dLW_law_333 ?_
    refine tt_iconst F dLW_law_335 ?_
    refine tt_iadd F dLW_law_336 ?_
    refine tt_sld F hX hbl hbA (by omega) (by omega) (by omega) dLW_law_337 ?_
    refine tt_aload_n F 1 rfl rfl dLW_law_338 ?_
    refine tt_iload F 5 rfl dLW_law_339 ?_
    refine tt_iconst F dLW_law_341 ?_
    refine tt_iadd F dLW_law_342 ?_
    refine tt_sld F hX hbl hbA (by omega) (by omega) (by omega) dLW_law_343 ?_
    refine tt_cIV F (fun h => h) (As := [.int (iZ (scv xs (i + 1))), .int (iZ (scv xs (i + 2))), .int (iZ (scv xs (i + 3)))]) ((o, aJ cJ 1 (zu f 0 (nz z1))) :: wc) 0 rfl rfl (c_restM (hM := hM) (rM := rM) (tM := tM) (wM := wM) (mp := mp) (mk := mk) (wh := wh) (sM := sM) (hi := hi) (vS := vS) (cd := cd) (mn := mn) hg (rel_hB hR) hv.1 hv.2) (cwV 3 F.1.2.2.2.2 (gw_V wd766 wd767 wd768 wd53 wd769) rfl rfl rfl (by decide +kernel) ⟨(Nat.le_of_ble_eq_true rfl), (Nat.le_of_ble_eq_true rfl)⟩) rfl rfl rfl (Nat.le_of_ble_eq_true rfl) ⟨by show c0 + 1 + _ ≤ 601024; show c0 + 1 + 0 ≤ 601024; omega, by show s0 + 6 + 0 ≤ 7293000; omega⟩ dLW_law_344 (fun z2 w2 hp2 => ?_)
    refine tt_wid (k := c0 + 1) (n := s0 + 6) (by first | exact Nat.le_refl _ | (show c0 + 0 ≤ c0 + 1; omega)) (by first | exact Nat.le_refl _ | (show s0 + 0 ≤ s0 + 6; omega)) ?_
    obtain ⟨t', wh', sM', L_, rfl, hmR, hc2⟩ := hp2
    obtain ⟨hc1, rfl⟩ := hp
    have heq : z1 = z2 := tie_rest hG hU.1 (rel_tp hR hU) hv.1 hc1 hmR hc2
    refine tt_istore F [(6, .int (iZ z2)), (5, .int (iZ 0)), (0, .ref b), (1, .ref (a 0)), (2, .ref (ad 0)), (3, .ref o), (4, .int (iZ i))] (by decide) rfl dLW_law_347 ?_
    refine tt_aload_n F 4 rfl rfl dLW_law_349 ?_
    refine tt_cOV F (As := []) _ 0 rfl rfl o_thrown (cwV 0 F.1.2.2.2.2 (gw_V wd744 wd745 wd746 wd53 wd747) rfl rfl rfl (by decide +kernel) ⟨(Nat.le_of_ble_eq_true rfl), (Nat.le_of_ble_eq_true rfl)⟩) rfl rfl rfl (Nat.le_of_ble_eq_true rfl) ⟨by show c0 + 1 ≤ 601024; omega, by show s0 + 6 ≤ 7293000; omega⟩ dLW_law_350 (fun v hv3 => ?_)
    subst hv3
    refine tt_iload F 1 rfl dLW_law_353 ?_
    refine tt_icmp_eq F 360 ⟨by omega, by omega⟩ ⟨by omega, by omega⟩ dLW_law_355 (by decide) (fun c355 => ?_) (fun c355 => ?_)
    · skip
      refine tt_iload F 1 rfl dLW_law_360 ?_
      refine tt_if_ne F 377 ⟨by omega, by omega⟩ dLW_law_362 (by decide) (fun c362 => ?_) (fun c362 => ?_)
      · skip
        exact absurd rfl c362
      · skip
        refine tt_aload_n F 5 rfl rfl dLW_law_365 ?_
        refine tt_iconst F dLW_law_366 ?_
        refine tt_jald F 0 rfl (by omega) (by omega) (by omega) dLW_law_367 ?_
        refine tt_iload F 0 rfl dLW_law_368 ?_
        refine tt_i2ln F dLW_law_370 ?_
        refine tt_lcmp F (by rw [zu_s]; exact nz_ir _) (nz_ir _) dLW_law_371 (fun z371 hr371 hz371 => ?_)
        refine tt_if_eq F 377 ⟨by omega, by omega⟩ dLW_law_372 (by decide) (fun c372 => ?_) (fun c372 => ?_)
        · skip
          refine tt_goto F 991 (by decide) dLW_law_377 ?_
          refine tt_sub [2, 3, 4, 5, 6] rfl ?_
          refine tt_comm ?_
          exact k _ ⟨_, _, _, _, _, _, _, _, _, _, _, _, _, _, _, _, _, _, _, _, _, _, _, _, _, _, _, _, _, _, _, _, _, _, rfl, hU, hR⟩
        · skip
          exact absurd (hz371.mpr (by rw [zu_s, heq])) c372
    · skip
      exact absurd rfl c355
  · skip
    refine tt_istore F [(5, .int (iZ 1)), (0, .ref b), (1, .ref (a 0)), (2, .ref (ad 0)), (3, .ref o), (4, .int (iZ i))] (by decide) rfl dLW_law_323 ?_
    refine tt_aload_n F 3 rfl rfl dLW_law_325 ?_
    refine tt_aload_n F 1 rfl rfl dLW_law_326 ?_
    refine tt_iload F 5 rfl dLW_law_327 ?_
    refine tt_iconst F dLW_law_329 ?_
    refine tt_iadd F dLW_law_330 ?_
    refine tt_sld F hX hbl hbA (by omega) (by omega) (by omega) dLW_law_331 ?_
    refine tt_aload_n F 1 rfl rfl dLW_law_332 ?_
    refine tt_iload F 5 rfl dLW_law_333 ?_
    refine tt_iconst F dLW_law_335 ?_
    refine tt_iadd F dLW_law_336 ?_
    refine tt_sld F hX hbl hbA (by omega) (by omega) (by omega) dLW_law_337 ?_
    refine tt_aload_n F 1 rfl rfl dLW_law_338 ?_
    refine tt_iload F 5 rfl dLW_law_339 ?_
    refine tt_iconst F dLW_law_341 ?_
    refine tt_iadd F dLW_law_342 ?_
    refine tt_sld F hX hbl hbA (by omega) (by omega) (by omega) dLW_law_343 ?_
    refine tt_cIV F (fun h => h) (As := [.int (iZ (scv xs (i + 1))), .int (iZ (scv xs (i + 2))), .int (iZ (scv xs (i + 3)))]) ((o, aJ cJ 1 f) :: (cW cI cZ a W D_ r sz co ro ho ac al sd lf sq hs rs ts rt_ hc li re ow tc cp ck wa qp qt qs lo sb lc cn ch sk)) 0 rfl rfl (n_restM (hM := hM) (rM := rM) (tM := tM) (wM := wM) (mp := mp) (mk := mk) (wh := wh) (sM := sM) (hi := hi) (vS := vS) (cd := cd) (mn := mn) hg (scv_ir _ _) (scv_ir _ _) (scv_ir _ _) hv) (cwV 3 F.1.2.2.2.2 (gw_V wd766 wd767 wd768 wd53 wd769) rfl rfl rfl (by decide +kernel) ⟨(Nat.le_of_ble_eq_true rfl), (Nat.le_of_ble_eq_true rfl)⟩) rfl rfl rfl (Nat.le_of_ble_eq_true rfl) ⟨by show c0 + 1 + _ ≤ 601024; show c0 + 1 + 0 ≤ 601024; omega, by show s0 + 6 + 0 ≤ 7293000; omega⟩ dLW_law_344 (fun z2 w2 hp2 => ?_)
    refine tt_wid (k := c0 + 1) (n := s0 + 6) (by first | exact Nat.le_refl _ | (show c0 + 0 ≤ c0 + 1; omega)) (by first | exact Nat.le_refl _ | (show s0 + 0 ≤ s0 + 6; omega)) ?_
    subst hp2
    refine tt_istore F [(6, .int (iZ z2)), (5, .int (iZ 1)), (0, .ref b), (1, .ref (a 0)), (2, .ref (ad 0)), (3, .ref o), (4, .int (iZ i))] (by decide) rfl dLW_law_347 ?_
    refine tt_aload_n F 4 rfl rfl dLW_law_349 ?_
    refine tt_cOV F (As := []) _ 0 rfl rfl o_thrown (cwV 0 F.1.2.2.2.2 (gw_V wd744 wd745 wd746 wd53 wd747) rfl rfl rfl (by decide +kernel) ⟨(Nat.le_of_ble_eq_true rfl), (Nat.le_of_ble_eq_true rfl)⟩) rfl rfl rfl (Nat.le_of_ble_eq_true rfl) ⟨by show c0 + 1 ≤ 601024; omega, by show s0 + 6 ≤ 7293000; omega⟩ dLW_law_350 (fun v hv3 => ?_)
    subst hv3
    refine tt_iload F 1 rfl dLW_law_353 ?_
    refine tt_icmp_eq F 360 ⟨by omega, by omega⟩ ⟨by omega, by omega⟩ dLW_law_355 (by decide) (fun c355 => ?_) (fun c355 => ?_)
    · skip
      refine tt_iload F 1 rfl dLW_law_360 ?_
      refine tt_if_ne F 377 ⟨by omega, by omega⟩ dLW_law_362 (by decide) (fun c362 => ?_) (fun c362 => ?_)
      · skip
        refine tt_goto F 991 (by decide) dLW_law_377 ?_
        refine tt_sub [2, 3, 4, 5, 6] rfl ?_
        refine tt_comm ?_
        exact k _ ⟨_, _, _, _, _, _, _, _, _, _, _, _, _, _, _, _, _, _, _, _, _, _, _, _, _, _, _, _, _, _, _, _, _, _, rfl, hU, hR⟩
      · skip
        exact absurd c362 (by decide)
    · skip
      exact absurd rfl c355
set_option maxHeartbeats 4000000 in
set_option maxRecDepth 100000 in
theorem cs_touched {p : Program} {l : Launch} {e : Env} {s : State} {m : MethodId} {below : List Frame} {meth : Method} {c : Code} {Q : State → Prop} {cq : Cond} {D : va_G} {cI cZ cJ : ClassId} {SL : List zS} {A : Nat → Prop} {b L o aS : Nat} {xs : Nat → Int32} {ad : Nat → Nat} {a : Nat → Nat} {W D_ r sz : Int} {co ro ho ac al sd lf sq : Int → Int} {i : Int} {c0 s0 : Nat} (F : FX p s m #[Value.ref b] meth c cLW_law 7 (some .boolean) (cq :: gT) RLW D vwCl cI cZ cJ SL A) (hst : l.stackTraces = false) (hX : va_X b L xs s s.heap) (hbl : b < s.heap.size) (hbA : ¬ A b) (hL : L ≤ 2563) (hsp : SRx RRB ssL s) (hAo : ∀ q, q < s.heap.size → ¬ A q) (hG : GE W D_ r sz co ro ho ac al sd lf sq) (hsw : SL[1]? = some ("RollingBalls$Plan", "SETS_WITH", "[I", aS, 4, fun j : Nat => Value.int (iZ (SWv (j : Int))))) (hc0 : c0 ≤ 20000) (hs0 : s0 ≤ 100000) (hi : 3 ≤ i ∧ i ≤ (L : Int) - 5)
    (k : ∀ ws, LI cI cZ cJ a ad o W D_ r sz co ro ho ac al sd lf sq ws → TT p l e room_1 s m #[Value.ref b] below meth c D vwCl A 7 False Q 991 [(0, .ref b), (1, .ref (a 0)), (2, .ref (ad 0)), (3, .ref o), (4, .int (iZ i))] [] ws (c0 + 1) (s0 + 6)) (ws : va_W) (hI : LI cI cZ cJ a ad o W D_ r sz co ro ho ac al sd lf sq ws) : TT p l e room_1 s m #[Value.ref b] below meth c D vwCl A 7 False Q 380 [(0, .ref b), (1, .ref (a 0)), (2, .ref (ad 0)), (3, .ref o), (4, .int (iZ i))] [] ws (c0) (s0) := by
  obtain ⟨f, hs, rs, ts, rt_, hc, li, re, ow, tc, cp, ck, wa, qp, qt, qs, lo, sb, lc, cn, ch, sk, hM, rM, tM, wM, mp, mk, wh, sM, hi, vS, cd, mn, rfl, hU, hR⟩ := hI
  have hg : 1 ≤ W ∧ W ≤ 12 ∧ 1 ≤ D_ ∧ D_ ≤ 12 ∧ 1 ≤ r ∧ r ≤ 10 := hG.1
  refine tt_aload_n F 1 rfl rfl dLW_law_380 ?_
  refine tt_aload_n F 0 rfl rfl dLW_law_381 ?_
  refine tt_iload F 4 rfl dLW_law_382 ?_
  refine tt_iconst F dLW_law_384 ?_
  refine tt_iadd F dLW_law_385 ?_
  refine tt_sld F hX hbl hbA (by omega) (by omega) (by omega) dLW_law_386 ?_
  refine tt_aload_n F 0 rfl rfl dLW_law_387 ?_
  refine tt_iload F 4 rfl dLW_law_388 ?_
  refine tt_iconst F dLW_law_390 ?_
  refine tt_iadd F dLW_law_391 ?_
  refine tt_sld F hX hbl hbA (by omega) (by omega) (by omega) dLW_law_392 ?_
  refine tt_aload_n F 0 rfl rfl dLW_law_393 ?_
  refine tt_iload F 4 rfl dLW_law_394 ?_
  refine tt_iconst F dLW_law_396 ?_
  refine tt_iadd F dLW_law_397 ?_
  refine tt_sld F hX hbl hbA (by omega) (by omega) (by omega) dLW_law_398 ?_
  refine tt_aload_n F 3 rfl rfl dLW_law_399 ?_
  refine tk_call F (fun h => h) hsp hAo (As := [.ref (a 0), .int (iZ (scv xs (i + 1))), .int (iZ (scv xs (i + 2))), .int (iZ (scv xs (i + 3))), .ref o]) (mW cI cZ ad W D_ r hM rM tM wM mp mk wh sM hi vS cd mn) (k_touched (f := f) (hs := hs) (rs := rs) (ts := ts) (rt_ := rt_) (hc := hc) (li := li) (re := re) (ow := ow) (tc := tc) (cp := cp) (ck := ck) (wa := wa) (qp := qp) (qt := qt) (qs := qs) (lo := lo) (sb := sb) (lc := lc) (cn := cn) (ch := ch) (sk := sk) hst hG hU (scv_ir _ _) (scv_ir _ _) (scv_ir _ _)) (callK_of 5 F.1.2.2.2.2 (gw_S wd594 wd595 wd44 wd596) rfl (by decide +kernel) ⟨(Nat.le_of_ble_eq_true rfl), (Nat.le_of_ble_eq_true rfl)⟩) rfl rfl rfl (Nat.le_of_ble_eq_true rfl) ⟨by show c0 + 1 ≤ 601024; omega, by show s0 + 6 ≤ 7293000; omega⟩ dLW_law_400 (fun k_ w1 hp => ?_)
  refine tt_wid (k := c0 + 1) (n := s0 + 6) (by first | exact Nat.le_refl _ | (show c0 + 0 ≤ c0 + 1; omega)) (by first | exact Nat.le_refl _ | (show s0 + 0 ≤ s0 + 6; omega)) ?_
  refine tt_comm ?_
  rcases hp with ⟨hv, rfl, z1, wc, rfl, hp⟩ | ⟨hv, rfl, rfl⟩
  · skip
    refine tt_istore F [(5, .int (iZ 0)), (0, .ref b), (1, .ref (a 0)), (2, .ref (ad 0)), (3, .ref o), (4, .int (iZ i))] (by decide) rfl dLW_law_403 ?_
    refine tt_aload_n F 3 rfl rfl dLW_law_405 ?_
    refine tt_aload_n F 1 rfl rfl dLW_law_406 ?_
    refine tt_iload F 5 rfl dLW_law_407 ?_
    refine tt_iconst F dLW_law_409 ?_
    refine tt_iadd F dLW_law_410 ?_
    refine tt_sld F hX hbl hbA (by omega) (by omega) (by omega) dLW_law_411 ?_
    refine tt_aload_n F 1 rfl rfl dLW_law_412 ?_
    refine tt_iload F 5 rfl dLW_law_413 ?_
    refine tt_iconst F dLW_law_415 ?_
    refine tt_iadd F dLW_law_416 ?_
    refine tt_sld F hX hbl hbA (by omega) (by omega) (by omega) dLW_law_417 ?_
    refine tt_aload_n F 1 rfl rfl dLW_law_418 ?_
    refine tt_iload F 5 rfl dLW_law_419 ?_
    refine tt_iconst F dLW_law_421 ?_
    refine tt_iadd F dLW_law_422 ?_
    refine tt_sld F hX hbl hbA (by omega) (by omega) (by omega) dLW_law_423 ?_
    refine tt_cIV F (fun h => h) (As := [.int (iZ (scv xs (i + 1))), .int (iZ (scv xs (i + 2))), .int (iZ (scv xs (i + 3)))]) ((o, aJ cJ 1 (zu f 0 (nz z1))) :: wc) 0 rfl rfl (c_touchedM (hM := hM) (rM := rM) (tM := tM) (wM := wM) (mp := mp) (mk := mk) (wh := wh) (sM := sM) (hi := hi) (vS := vS) (cd := cd) (mn := mn) hg (rel_hB hR) hv.1 ⟨hv.2, (scv_ir _ _).2⟩) (cwV 3 F.1.2.2.2.2 (gw_V wd808 wd809 wd810 wd53 wd811) rfl rfl rfl (by decide +kernel) ⟨(Nat.le_of_ble_eq_true rfl), (Nat.le_of_ble_eq_true rfl)⟩) rfl rfl rfl (Nat.le_of_ble_eq_true rfl) ⟨by show c0 + 1 + _ ≤ 601024; show c0 + 1 + 0 ≤ 601024; omega, by show s0 + 6 + 0 ≤ 7293000; omega⟩ dLW_law_424 (fun z2 w2 hp2 => ?_)
    refine tt_wid (k := c0 + 1) (n := s0 + 6) (by first | exact Nat.le_refl _ | (show c0 + 0 ≤ c0 + 1; omega)) (by first | exact Nat.le_refl _ | (show s0 + 0 ≤ s0 + 6; omega)) ?_
    obtain ⟨t', wh', sM', L_, rfl, hmR, hc2⟩ := hp2
    obtain ⟨hc1, li', lc', rfl⟩ := hp
    have heq : z1 = z2 := tie_touched hG hU.1 (rel_tp hR hU) hv.1 hc1 hmR hc2
    refine tt_istore F [(6, .int (iZ z2)), (5, .int (iZ 0)), (0, .ref b), (1, .ref (a 0)), (2, .ref (ad 0)), (3, .ref o), (4, .int (iZ i))] (by decide) rfl dLW_law_427 ?_
    refine tt_aload_n F 4 rfl rfl dLW_law_429 ?_
    refine tt_cOV F (As := []) _ 0 rfl rfl o_thrown (cwV 0 F.1.2.2.2.2 (gw_V wd744 wd745 wd746 wd53 wd747) rfl rfl rfl (by decide +kernel) ⟨(Nat.le_of_ble_eq_true rfl), (Nat.le_of_ble_eq_true rfl)⟩) rfl rfl rfl (Nat.le_of_ble_eq_true rfl) ⟨by show c0 + 1 ≤ 601024; omega, by show s0 + 6 ≤ 7293000; omega⟩ dLW_law_430 (fun v hv3 => ?_)
    subst hv3
    refine tt_iload F 1 rfl dLW_law_433 ?_
    refine tt_icmp_eq F 440 ⟨by omega, by omega⟩ ⟨by omega, by omega⟩ dLW_law_435 (by decide) (fun c435 => ?_) (fun c435 => ?_)
    · skip
      refine tt_iload F 1 rfl dLW_law_440 ?_
      refine tt_if_ne F 457 ⟨by omega, by omega⟩ dLW_law_442 (by decide) (fun c442 => ?_) (fun c442 => ?_)
      · skip
        exact absurd rfl c442
      · skip
        refine tt_aload_n F 5 rfl rfl dLW_law_445 ?_
        refine tt_iconst F dLW_law_446 ?_
        refine tt_jald F 0 rfl (by omega) (by omega) (by omega) dLW_law_447 ?_
        refine tt_iload F 0 rfl dLW_law_448 ?_
        refine tt_i2ln F dLW_law_450 ?_
        refine tt_lcmp F (by rw [zu_s]; exact nz_ir _) (nz_ir _) dLW_law_451 (fun z451 hr451 hz451 => ?_)
        refine tt_if_eq F 457 ⟨by omega, by omega⟩ dLW_law_452 (by decide) (fun c452 => ?_) (fun c452 => ?_)
        · skip
          refine tt_goto F 991 (by decide) dLW_law_457 ?_
          refine tt_sub [2, 3, 4, 5, 6] rfl ?_
          refine tt_comm ?_
          exact k _ ⟨_, _, _, _, _, _, _, _, _, _, _, _, _, _, _, _, _, _, _, _, _, _, _, _, _, _, _, _, _, _, _, _, _, _, rfl, hU, hR⟩
        · skip
          exact absurd (hz451.mpr (by rw [zu_s, heq])) c452
    · skip
      exact absurd rfl c435
  · skip
    refine tt_istore F [(5, .int (iZ 1)), (0, .ref b), (1, .ref (a 0)), (2, .ref (ad 0)), (3, .ref o), (4, .int (iZ i))] (by decide) rfl dLW_law_403 ?_
    refine tt_aload_n F 3 rfl rfl dLW_law_405 ?_
    refine tt_aload_n F 1 rfl rfl dLW_law_406 ?_
    refine tt_iload F 5 rfl dLW_law_407 ?_
    refine tt_iconst F dLW_law_409 ?_
    refine tt_iadd F dLW_law_410 ?_
    refine tt_sld F hX hbl hbA (by omega) (by omega) (by omega) dLW_law_411 ?_
    refine tt_aload_n F 1 rfl rfl dLW_law_412 ?_
    refine tt_iload F 5 rfl dLW_law_413 ?_
    refine tt_iconst F dLW_law_415 ?_
    refine tt_iadd F dLW_law_416 ?_
    refine tt_sld F hX hbl hbA (by omega) (by omega) (by omega) dLW_law_417 ?_
    refine tt_aload_n F 1 rfl rfl dLW_law_418 ?_
    refine tt_iload F 5 rfl dLW_law_419 ?_
    refine tt_iconst F dLW_law_421 ?_
    refine tt_iadd F dLW_law_422 ?_
    refine tt_sld F hX hbl hbA (by omega) (by omega) (by omega) dLW_law_423 ?_
    refine tt_cIV F (fun h => h) (As := [.int (iZ (scv xs (i + 1))), .int (iZ (scv xs (i + 2))), .int (iZ (scv xs (i + 3)))]) ((o, aJ cJ 1 f) :: (cW cI cZ a W D_ r sz co ro ho ac al sd lf sq hs rs ts rt_ hc li re ow tc cp ck wa qp qt qs lo sb lc cn ch sk)) 0 rfl rfl (n_touchedM (hM := hM) (rM := rM) (tM := tM) (wM := wM) (mp := mp) (mk := mk) (wh := wh) (sM := sM) (hi := hi) (vS := vS) (cd := cd) (mn := mn) hg (scv_ir _ _) (scv_ir _ _) (scv_ir _ _) hv) (cwV 3 F.1.2.2.2.2 (gw_V wd808 wd809 wd810 wd53 wd811) rfl rfl rfl (by decide +kernel) ⟨(Nat.le_of_ble_eq_true rfl), (Nat.le_of_ble_eq_true rfl)⟩) rfl rfl rfl (Nat.le_of_ble_eq_true rfl) ⟨by show c0 + 1 + _ ≤ 601024; show c0 + 1 + 0 ≤ 601024; omega, by show s0 + 6 + 0 ≤ 7293000; omega⟩ dLW_law_424 (fun z2 w2 hp2 => ?_)
    refine tt_wid (k := c0 + 1) (n := s0 + 6) (by first | exact Nat.le_refl _ | (show c0 + 0 ≤ c0 + 1; omega)) (by first | exact Nat.le_refl _ | (show s0 + 0 ≤ s0 + 6; omega)) ?_
    subst hp2
    refine tt_istore F [(6, .int (iZ z2)), (5, .int (iZ 1)), (0, .ref b), (1, .ref (a 0)), (2, .ref (ad 0)), (3, .ref o), (4, .int (iZ i))] (by decide) rfl dLW_law_427 ?_
    refine tt_aload_n F 4 rfl rfl dLW_law_429 ?_
    refine tt_cOV F (As := []) _ 0 rfl rfl o_thrown (cwV 0 F.1.2.2.2.2 (gw_V wd744 wd745 wd746 wd53 wd747) rfl rfl rfl (by decide +kernel) ⟨(Nat.le_of_ble_eq_true rfl), (Nat.le_of_ble_eq_true rfl)⟩) rfl rfl rfl (Nat.le_of_ble_eq_true rfl) ⟨by show c0 + 1 ≤ 601024; omega, by show s0 + 6 ≤ 7293000; omega⟩ dLW_law_430 (fun v hv3 => ?_)
    subst hv3
    refine tt_iload F 1 rfl dLW_law_433 ?_
    refine tt_icmp_eq F 440 ⟨by omega, by omega⟩ ⟨by omega, by omega⟩ dLW_law_435 (by decide) (fun c435 => ?_) (fun c435 => ?_)
    · skip
      refine tt_iload F 1 rfl dLW_law_440 ?_
      refine tt_if_ne F 457 ⟨by omega, by omega⟩ dLW_law_442 (by decide) (fun c442 => ?_) (fun c442 => ?_)
      · skip
        refine tt_goto F 991 (by decide) dLW_law_457 ?_
        refine tt_sub [2, 3, 4, 5, 6] rfl ?_
        refine tt_comm ?_
        exact k _ ⟨_, _, _, _, _, _, _, _, _, _, _, _, _, _, _, _, _, _, _, _, _, _, _, _, _, _, _, _, _, _, _, _, _, _, rfl, hU, hR⟩
      · skip
        exact absurd c442 (by decide)
    · skip
      exact absurd rfl c435
set_option maxHeartbeats 4000000 in
set_option maxRecDepth 100000 in
theorem cs_higher {p : Program} {l : Launch} {e : Env} {s : State} {m : MethodId} {below : List Frame} {meth : Method} {c : Code} {Q : State → Prop} {cq : Cond} {D : va_G} {cI cZ cJ : ClassId} {SL : List zS} {A : Nat → Prop} {b L o aS : Nat} {xs : Nat → Int32} {ad : Nat → Nat} {a : Nat → Nat} {W D_ r sz : Int} {co ro ho ac al sd lf sq : Int → Int} {i : Int} {c0 s0 : Nat} (F : FX p s m #[Value.ref b] meth c cLW_law 7 (some .boolean) (cq :: gT) RLW D vwCl cI cZ cJ SL A) (hst : l.stackTraces = false) (hX : va_X b L xs s s.heap) (hbl : b < s.heap.size) (hbA : ¬ A b) (hL : L ≤ 2563) (hsp : SRx RRB ssL s) (hAo : ∀ q, q < s.heap.size → ¬ A q) (hG : GE W D_ r sz co ro ho ac al sd lf sq) (hsw : SL[1]? = some ("RollingBalls$Plan", "SETS_WITH", "[I", aS, 4, fun j : Nat => Value.int (iZ (SWv (j : Int))))) (hc0 : c0 ≤ 20000) (hs0 : s0 ≤ 100000) (hi : 3 ≤ i ∧ i ≤ (L : Int) - 5)
    (k : ∀ ws, LI cI cZ cJ a ad o W D_ r sz co ro ho ac al sd lf sq ws → TT p l e room_1 s m #[Value.ref b] below meth c D vwCl A 7 False Q 991 [(0, .ref b), (1, .ref (a 0)), (2, .ref (ad 0)), (3, .ref o), (4, .int (iZ i))] [] ws (c0 + 1) (s0 + 6)) (ws : va_W) (hI : LI cI cZ cJ a ad o W D_ r sz co ro ho ac al sd lf sq ws) : TT p l e room_1 s m #[Value.ref b] below meth c D vwCl A 7 False Q 460 [(0, .ref b), (1, .ref (a 0)), (2, .ref (ad 0)), (3, .ref o), (4, .int (iZ i))] [] ws (c0) (s0) := by
  obtain ⟨f, hs, rs, ts, rt_, hc, li, re, ow, tc, cp, ck, wa, qp, qt, qs, lo, sb, lc, cn, ch, sk, hM, rM, tM, wM, mp, mk, wh, sM, hi, vS, cd, mn, rfl, hU, hR⟩ := hI
  have hg : 1 ≤ W ∧ W ≤ 12 ∧ 1 ≤ D_ ∧ D_ ≤ 12 ∧ 1 ≤ r ∧ r ≤ 10 := hG.1
  refine tt_aload_n F 1 rfl rfl dLW_law_460 ?_
  refine tt_aload_n F 0 rfl rfl dLW_law_461 ?_
  refine tt_iload F 4 rfl dLW_law_462 ?_
  refine tt_iconst F dLW_law_464 ?_
  refine tt_iadd F dLW_law_465 ?_
  refine tt_sld F hX hbl hbA (by omega) (by omega) (by omega) dLW_law_466 ?_
  refine tt_aload_n F 0 rfl rfl dLW_law_467 ?_
  refine tt_iload F 4 rfl dLW_law_468 ?_
  refine tt_iconst F dLW_law_470 ?_
  refine tt_iadd F dLW_law_471 ?_
  refine tt_sld F hX hbl hbA (by omega) (by omega) (by omega) dLW_law_472 ?_
  refine tt_aload_n F 0 rfl rfl dLW_law_473 ?_
  refine tt_iload F 4 rfl dLW_law_474 ?_
  refine tt_iconst F dLW_law_476 ?_
  refine tt_iadd F dLW_law_477 ?_
  refine tt_sld F hX hbl hbA (by omega) (by omega) (by omega) dLW_law_478 ?_
  refine tt_aload_n F 0 rfl rfl dLW_law_479 ?_
  refine tt_iload F 4 rfl dLW_law_480 ?_
  refine tt_iconst F dLW_law_482 ?_
  refine tt_iadd F dLW_law_483 ?_
  refine tt_sld F hX hbl hbA (by omega) (by omega) (by omega) dLW_law_484 ?_
  refine tt_aload_n F 3 rfl rfl dLW_law_485 ?_
  refine tk_call F (fun h => h) hsp hAo (As := [.ref (a 0), .int (iZ (scv xs (i + 1))), .int (iZ (scv xs (i + 2))), .int (iZ (scv xs (i + 3))), .int (iZ (scv xs (i + 4))), .ref o]) (mW cI cZ ad W D_ r hM rM tM wM mp mk wh sM hi vS cd mn) (k_higher (f := f) (hs := hs) (rs := rs) (ts := ts) (rt_ := rt_) (hc := hc) (li := li) (re := re) (ow := ow) (tc := tc) (cp := cp) (ck := ck) (wa := wa) (qp := qp) (qt := qt) (qs := qs) (lo := lo) (sb := sb) (lc := lc) (cn := cn) (ch := ch) (sk := sk) hst hG hU (scv_ir _ _) (scv_ir _ _) (scv_ir _ _) (scv_ir _ _)) (callK_of 6 F.1.2.2.2.2 (gw_S wd614 wd615 wd44 wd616) rfl (by decide +kernel) ⟨(Nat.le_of_ble_eq_true rfl), (Nat.le_of_ble_eq_true rfl)⟩) rfl rfl rfl (Nat.le_of_ble_eq_true rfl) ⟨by show c0 + 1 ≤ 601024; omega, by show s0 + 6 ≤ 7293000; omega⟩ dLW_law_486 (fun k_ w1 hp => ?_)
  refine tt_wid (k := c0 + 1) (n := s0 + 6) (by first | exact Nat.le_refl _ | (show c0 + 0 ≤ c0 + 1; omega)) (by first | exact Nat.le_refl _ | (show s0 + 0 ≤ s0 + 6; omega)) ?_
  refine tt_comm ?_
  rcases hp with ⟨hv, rfl, z1, wc, rfl, hp⟩ | ⟨hv, rfl, rfl⟩
  · skip
    refine tt_istore F [(5, .int (iZ 0)), (0, .ref b), (1, .ref (a 0)), (2, .ref (ad 0)), (3, .ref o), (4, .int (iZ i))] (by decide) rfl dLW_law_489 ?_
    refine tt_aload_n F 3 rfl rfl dLW_law_491 ?_
    refine tt_aload_n F 1 rfl rfl dLW_law_492 ?_
    refine tt_iload F 5 rfl dLW_law_493 ?_
    refine tt_iconst F dLW_law_495 ?_
    refine tt_iadd F dLW_law_496 ?_
    refine tt_sld F hX hbl hbA (by omega) (by omega) (by omega) dLW_law_497 ?_
    refine tt_aload_n F 1 rfl rfl dLW_law_498 ?_
    refine tt_iload F 5 rfl dLW_law_499 ?_
    refine tt_iconst F dLW_law_501 ?_
    refine tt_iadd F dLW_law_502 ?_
    refine tt_sld F hX hbl hbA (by omega) (by omega) (by omega) dLW_law_503 ?_
    refine tt_aload_n F 1 rfl rfl dLW_law_504 ?_
    refine tt_iload F 5 rfl dLW_law_505 ?_
    refine tt_iconst F dLW_law_507 ?_
    refine tt_iadd F dLW_law_508 ?_
    refine tt_sld F hX hbl hbA (by omega) (by omega) (by omega) dLW_law_509 ?_
    refine tt_aload_n F 1 rfl rfl dLW_law_510 ?_
    refine tt_iload F 5 rfl dLW_law_511 ?_
    refine tt_iconst F dLW_law_513 ?_
    refine tt_iadd F dLW_law_514 ?_
    refine tt_sld F hX hbl hbA (by omega) (by omega) (by omega) dLW_law_515 ?_
    refine tt_cIV F (fun h => h) (As := [.int (iZ (scv xs (i + 1))), .int (iZ (scv xs (i + 2))), .int (iZ (scv xs (i + 3))), .int (iZ (scv xs (i + 4)))]) ((o, aJ cJ 1 (zu f 0 (nz z1))) :: wc) 0 rfl rfl (c_higherM (hM := hM) (rM := rM) (tM := tM) (wM := wM) (mp := mp) (mk := mk) (wh := wh) (sM := sM) (hi := hi) (vS := vS) (cd := cd) (mn := mn) hg (rel_hB hR) hv.1 hv.2) (cwV 4 F.1.2.2.2.2 (gw_V wd812 wd813 wd814 wd53 wd815) rfl rfl rfl (by decide +kernel) ⟨(Nat.le_of_ble_eq_true rfl), (Nat.le_of_ble_eq_true rfl)⟩) rfl rfl rfl (Nat.le_of_ble_eq_true rfl) ⟨by show c0 + 1 + _ ≤ 601024; show c0 + 1 + 0 ≤ 601024; omega, by show s0 + 6 + 0 ≤ 7293000; omega⟩ dLW_law_516 (fun z2 w2 hp2 => ?_)
    refine tt_wid (k := c0 + 1) (n := s0 + 6) (by first | exact Nat.le_refl _ | (show c0 + 0 ≤ c0 + 1; omega)) (by first | exact Nat.le_refl _ | (show s0 + 0 ≤ s0 + 6; omega)) ?_
    obtain ⟨t', wh', sM', L_, L2_, rfl, hm1, hm2, hc2⟩ := hp2
    obtain ⟨hc1, rfl⟩ := hp
    have heq : z1 = z2 := tie_higher hG hU.1 (rel_tp hR hU) hv.1 hv.2 hc1 hm1 hm2 hc2
    refine tt_istore F [(6, .int (iZ z2)), (5, .int (iZ 0)), (0, .ref b), (1, .ref (a 0)), (2, .ref (ad 0)), (3, .ref o), (4, .int (iZ i))] (by decide) rfl dLW_law_519 ?_
    refine tt_aload_n F 4 rfl rfl dLW_law_521 ?_
    refine tt_cOV F (As := []) _ 0 rfl rfl o_thrown (cwV 0 F.1.2.2.2.2 (gw_V wd744 wd745 wd746 wd53 wd747) rfl rfl rfl (by decide +kernel) ⟨(Nat.le_of_ble_eq_true rfl), (Nat.le_of_ble_eq_true rfl)⟩) rfl rfl rfl (Nat.le_of_ble_eq_true rfl) ⟨by show c0 + 1 ≤ 601024; omega, by show s0 + 6 ≤ 7293000; omega⟩ dLW_law_522 (fun v hv3 => ?_)
    subst hv3
    refine tt_iload F 1 rfl dLW_law_525 ?_
    refine tt_icmp_eq F 532 ⟨by omega, by omega⟩ ⟨by omega, by omega⟩ dLW_law_527 (by decide) (fun c527 => ?_) (fun c527 => ?_)
    · skip
      refine tt_iload F 1 rfl dLW_law_532 ?_
      refine tt_if_ne F 549 ⟨by omega, by omega⟩ dLW_law_534 (by decide) (fun c534 => ?_) (fun c534 => ?_)
      · skip
        exact absurd rfl c534
      · skip
        refine tt_aload_n F 5 rfl rfl dLW_law_537 ?_
        refine tt_iconst F dLW_law_538 ?_
        refine tt_jald F 0 rfl (by omega) (by omega) (by omega) dLW_law_539 ?_
        refine tt_iload F 0 rfl dLW_law_540 ?_
        refine tt_i2ln F dLW_law_542 ?_
        refine tt_lcmp F (by rw [zu_s]; exact nz_ir _) (nz_ir _) dLW_law_543 (fun z543 hr543 hz543 => ?_)
        refine tt_if_eq F 549 ⟨by omega, by omega⟩ dLW_law_544 (by decide) (fun c544 => ?_) (fun c544 => ?_)
        · skip
          refine tt_goto F 991 (by decide) dLW_law_549 ?_
          refine tt_sub [2, 3, 4, 5, 6] rfl ?_
          refine tt_comm ?_
          exact k _ ⟨_, _, _, _, _, _, _, _, _, _, _, _, _, _, _, _, _, _, _, _, _, _, _, _, _, _, _, _, _, _, _, _, _, _, rfl, hU, hR⟩
        · skip
          exact absurd (hz543.mpr (by rw [zu_s, heq])) c544
    · skip
      exact absurd rfl c527
  · skip
    refine tt_istore F [(5, .int (iZ 1)), (0, .ref b), (1, .ref (a 0)), (2, .ref (ad 0)), (3, .ref o), (4, .int (iZ i))] (by decide) rfl dLW_law_489 ?_
    refine tt_aload_n F 3 rfl rfl dLW_law_491 ?_
    refine tt_aload_n F 1 rfl rfl dLW_law_492 ?_
    refine tt_iload F 5 rfl dLW_law_493 ?_
    refine tt_iconst F dLW_law_495 ?_
    refine tt_iadd F dLW_law_496 ?_
    refine tt_sld F hX hbl hbA (by omega) (by omega) (by omega) dLW_law_497 ?_
    refine tt_aload_n F 1 rfl rfl dLW_law_498 ?_
    refine tt_iload F 5 rfl dLW_law_499 ?_
    refine tt_iconst F dLW_law_501 ?_
    refine tt_iadd F dLW_law_502 ?_
    refine tt_sld F hX hbl hbA (by omega) (by omega) (by omega) dLW_law_503 ?_
    refine tt_aload_n F 1 rfl rfl dLW_law_504 ?_
    refine tt_iload F 5 rfl dLW_law_505 ?_
    refine tt_iconst F dLW_law_507 ?_
    refine tt_iadd F dLW_law_508 ?_
    refine tt_sld F hX hbl hbA (by omega) (by omega) (by omega) dLW_law_509 ?_
    refine tt_aload_n F 1 rfl rfl dLW_law_510 ?_
    refine tt_iload F 5 rfl dLW_law_511 ?_
    refine tt_iconst F dLW_law_513 ?_
    refine tt_iadd F dLW_law_514 ?_
    refine tt_sld F hX hbl hbA (by omega) (by omega) (by omega) dLW_law_515 ?_
    refine tt_cIV F (fun h => h) (As := [.int (iZ (scv xs (i + 1))), .int (iZ (scv xs (i + 2))), .int (iZ (scv xs (i + 3))), .int (iZ (scv xs (i + 4)))]) ((o, aJ cJ 1 f) :: (cW cI cZ a W D_ r sz co ro ho ac al sd lf sq hs rs ts rt_ hc li re ow tc cp ck wa qp qt qs lo sb lc cn ch sk)) 0 rfl rfl (n_higherM (hM := hM) (rM := rM) (tM := tM) (wM := wM) (mp := mp) (mk := mk) (wh := wh) (sM := sM) (hi := hi) (vS := vS) (cd := cd) (mn := mn) hg (scv_ir _ _) (scv_ir _ _) (scv_ir _ _) (scv_ir _ _) hv) (cwV 4 F.1.2.2.2.2 (gw_V wd812 wd813 wd814 wd53 wd815) rfl rfl rfl (by decide +kernel) ⟨(Nat.le_of_ble_eq_true rfl), (Nat.le_of_ble_eq_true rfl)⟩) rfl rfl rfl (Nat.le_of_ble_eq_true rfl) ⟨by show c0 + 1 + _ ≤ 601024; show c0 + 1 + 0 ≤ 601024; omega, by show s0 + 6 + 0 ≤ 7293000; omega⟩ dLW_law_516 (fun z2 w2 hp2 => ?_)
    refine tt_wid (k := c0 + 1) (n := s0 + 6) (by first | exact Nat.le_refl _ | (show c0 + 0 ≤ c0 + 1; omega)) (by first | exact Nat.le_refl _ | (show s0 + 0 ≤ s0 + 6; omega)) ?_
    subst hp2
    refine tt_istore F [(6, .int (iZ z2)), (5, .int (iZ 1)), (0, .ref b), (1, .ref (a 0)), (2, .ref (ad 0)), (3, .ref o), (4, .int (iZ i))] (by decide) rfl dLW_law_519 ?_
    refine tt_aload_n F 4 rfl rfl dLW_law_521 ?_
    refine tt_cOV F (As := []) _ 0 rfl rfl o_thrown (cwV 0 F.1.2.2.2.2 (gw_V wd744 wd745 wd746 wd53 wd747) rfl rfl rfl (by decide +kernel) ⟨(Nat.le_of_ble_eq_true rfl), (Nat.le_of_ble_eq_true rfl)⟩) rfl rfl rfl (Nat.le_of_ble_eq_true rfl) ⟨by show c0 + 1 ≤ 601024; omega, by show s0 + 6 ≤ 7293000; omega⟩ dLW_law_522 (fun v hv3 => ?_)
    subst hv3
    refine tt_iload F 1 rfl dLW_law_525 ?_
    refine tt_icmp_eq F 532 ⟨by omega, by omega⟩ ⟨by omega, by omega⟩ dLW_law_527 (by decide) (fun c527 => ?_) (fun c527 => ?_)
    · skip
      refine tt_iload F 1 rfl dLW_law_532 ?_
      refine tt_if_ne F 549 ⟨by omega, by omega⟩ dLW_law_534 (by decide) (fun c534 => ?_) (fun c534 => ?_)
      · skip
        refine tt_goto F 991 (by decide) dLW_law_549 ?_
        refine tt_sub [2, 3, 4, 5, 6] rfl ?_
        refine tt_comm ?_
        exact k _ ⟨_, _, _, _, _, _, _, _, _, _, _, _, _, _, _, _, _, _, _, _, _, _, _, _, _, _, _, _, _, _, _, _, _, _, rfl, hU, hR⟩
      · skip
        exact absurd c534 (by decide)
    · skip
      exact absurd rfl c527
set_option maxHeartbeats 4000000 in
set_option maxRecDepth 100000 in
theorem cs_tops {p : Program} {l : Launch} {e : Env} {s : State} {m : MethodId} {below : List Frame} {meth : Method} {c : Code} {Q : State → Prop} {cq : Cond} {D : va_G} {cI cZ cJ : ClassId} {SL : List zS} {A : Nat → Prop} {b L o aS : Nat} {xs : Nat → Int32} {ad : Nat → Nat} {a : Nat → Nat} {W D_ r sz : Int} {co ro ho ac al sd lf sq : Int → Int} {i : Int} {c0 s0 : Nat} (F : FX p s m #[Value.ref b] meth c cLW_law 7 (some .boolean) (cq :: gT) RLW D vwCl cI cZ cJ SL A) (hst : l.stackTraces = false) (hX : va_X b L xs s s.heap) (hbl : b < s.heap.size) (hbA : ¬ A b) (hL : L ≤ 2563) (hsp : SRx RRB ssL s) (hAo : ∀ q, q < s.heap.size → ¬ A q) (hG : GE W D_ r sz co ro ho ac al sd lf sq) (hsw : SL[1]? = some ("RollingBalls$Plan", "SETS_WITH", "[I", aS, 4, fun j : Nat => Value.int (iZ (SWv (j : Int))))) (hc0 : c0 ≤ 20000) (hs0 : s0 ≤ 100000) (hi : 3 ≤ i ∧ i ≤ (L : Int) - 5)
    (k : ∀ ws, LI cI cZ cJ a ad o W D_ r sz co ro ho ac al sd lf sq ws → TT p l e room_1 s m #[Value.ref b] below meth c D vwCl A 7 False Q 991 [(0, .ref b), (1, .ref (a 0)), (2, .ref (ad 0)), (3, .ref o), (4, .int (iZ i))] [] ws (c0 + 1) (s0 + 6)) (ws : va_W) (hI : LI cI cZ cJ a ad o W D_ r sz co ro ho ac al sd lf sq ws) : TT p l e room_1 s m #[Value.ref b] below meth c D vwCl A 7 False Q 552 [(0, .ref b), (1, .ref (a 0)), (2, .ref (ad 0)), (3, .ref o), (4, .int (iZ i))] [] ws (c0) (s0) := by
  obtain ⟨f, hs, rs, ts, rt_, hc, li, re, ow, tc, cp, ck, wa, qp, qt, qs, lo, sb, lc, cn, ch, sk, hM, rM, tM, wM, mp, mk, wh, sM, hi, vS, cd, mn, rfl, hU, hR⟩ := hI
  have hg : 1 ≤ W ∧ W ≤ 12 ∧ 1 ≤ D_ ∧ D_ ≤ 12 ∧ 1 ≤ r ∧ r ≤ 10 := hG.1
  refine tt_aload_n F 1 rfl rfl dLW_law_552 ?_
  refine tt_cIV F (fun h => h) (As := []) ((mW cI cZ ad W D_ r hM rM tM wM mp mk wh sM hi vS cd mn) ++ [(o, aJ cJ 1 f)]) 0 rfl rfl (c_tops (hs := hs) (rs := rs) (ts := ts) (rt_ := rt_) (hc := hc) (li := li) (re := re) (ow := ow) (tc := tc) (cp := cp) (ck := ck) (wa := wa) (qp := qp) (qt := qt) (qs := qs) (lo := lo) (sb := sb) (lc := lc) (cn := cn) (ch := ch) (sk := sk) hG hU) (cwV 0 F.1.2.2.2.2 (gw_V wd308 wd309 wd310 wd45 wd311) rfl rfl rfl (by decide +kernel) ⟨(Nat.le_of_ble_eq_true rfl), (Nat.le_of_ble_eq_true rfl)⟩) rfl rfl rfl (Nat.le_of_ble_eq_true rfl) ⟨by show c0 + _ ≤ 601024; show c0 + 0 ≤ 601024; omega, by show s0 + 0 ≤ 7293000; omega⟩ dLW_law_553 (fun z1 wc hp => ?_)
  refine tt_wid (k := c0 + 1) (n := s0 + 6) (by first | exact Nat.le_refl _ | (show c0 + 0 ≤ c0 + 1; omega)) (by first | exact Nat.le_refl _ | (show s0 + 0 ≤ s0 + 6; omega)) ?_
  refine tt_nrm (ws' := (mW cI cZ ad W D_ r hM rM tM wM mp mk wh sM hi vS cd mn) ++ ((o, aJ cJ 1 f) :: wc)) (Nat.le_refl _) (Nat.le_refl _) rfl ?_
  refine tt_comm ?_
  refine tt_aload_n F 2 rfl rfl dLW_law_556 ?_
  refine tt_cIV F (fun h => h) (As := []) ((o, aJ cJ 1 f) :: wc) 0 rfl rfl (c_topsM (hM := hM) (rM := rM) (tM := tM) (wM := wM) (mp := mp) (mk := mk) (wh := wh) (sM := sM) (hi := hi) (vS := vS) (cd := cd) (mn := mn) hg (rel_hB hR)) (cwV 0 F.1.2.2.2.2 (gw_V wd816 wd817 wd818 wd53 wd819) rfl rfl rfl (by decide +kernel) ⟨(Nat.le_of_ble_eq_true rfl), (Nat.le_of_ble_eq_true rfl)⟩) rfl rfl rfl (Nat.le_of_ble_eq_true rfl) ⟨by show c0 + 1 + _ ≤ 601024; show c0 + 1 + 0 ≤ 601024; omega, by show s0 + 6 + 0 ≤ 7293000; omega⟩ dLW_law_557 (fun z2 w2 hp2 => ?_)
  refine tt_wid (k := c0 + 1) (n := s0 + 6) (by first | exact Nat.le_refl _ | (show c0 + 0 ≤ c0 + 1; omega)) (by first | exact Nat.le_refl _ | (show s0 + 0 ≤ s0 + 6; omega)) ?_
  obtain ⟨t', wh', sM', hi', bst, rfl, hRL, hc2⟩ := hp2
  obtain ⟨hc1, rfl⟩ := hp
  have heq : z1 = z2 := tie_tops hG hU.1 (rel_tp hR hU) hc1 hRL hc2
  refine tt_eqT F 991 heq dLW_law_560 (by decide) ?_
  refine tt_sub [0, 1, 2, 3, 4] rfl ?_
  refine tt_comm ?_
  exact k _ ⟨_, _, _, _, _, _, _, _, _, _, _, _, _, _, _, _, _, _, _, _, _, _, _, _, _, _, _, _, _, _, _, _, _, _, rfl, hU, hR⟩
set_option maxHeartbeats 4000000 in
set_option maxRecDepth 100000 in
theorem cs_hits {p : Program} {l : Launch} {e : Env} {s : State} {m : MethodId} {below : List Frame} {meth : Method} {c : Code} {Q : State → Prop} {cq : Cond} {D : va_G} {cI cZ cJ : ClassId} {SL : List zS} {A : Nat → Prop} {b L o aS : Nat} {xs : Nat → Int32} {ad : Nat → Nat} {a : Nat → Nat} {W D_ r sz : Int} {co ro ho ac al sd lf sq : Int → Int} {i : Int} {c0 s0 : Nat} (F : FX p s m #[Value.ref b] meth c cLW_law 7 (some .boolean) (cq :: gT) RLW D vwCl cI cZ cJ SL A) (hst : l.stackTraces = false) (hX : va_X b L xs s s.heap) (hbl : b < s.heap.size) (hbA : ¬ A b) (hL : L ≤ 2563) (hsp : SRx RRB ssL s) (hAo : ∀ q, q < s.heap.size → ¬ A q) (hG : GE W D_ r sz co ro ho ac al sd lf sq) (hsw : SL[1]? = some ("RollingBalls$Plan", "SETS_WITH", "[I", aS, 4, fun j : Nat => Value.int (iZ (SWv (j : Int))))) (hc0 : c0 ≤ 20000) (hs0 : s0 ≤ 100000) (hi : 3 ≤ i ∧ i ≤ (L : Int) - 5)
    (k : ∀ ws, LI cI cZ cJ a ad o W D_ r sz co ro ho ac al sd lf sq ws → TT p l e room_1 s m #[Value.ref b] below meth c D vwCl A 7 False Q 991 [(0, .ref b), (1, .ref (a 0)), (2, .ref (ad 0)), (3, .ref o), (4, .int (iZ i))] [] ws (c0 + 1) (s0 + 6)) (ws : va_W) (hI : LI cI cZ cJ a ad o W D_ r sz co ro ho ac al sd lf sq ws) : TT p l e room_1 s m #[Value.ref b] below meth c D vwCl A 7 False Q 565 [(0, .ref b), (1, .ref (a 0)), (2, .ref (ad 0)), (3, .ref o), (4, .int (iZ i))] [] ws (c0) (s0) := by
  obtain ⟨f, hs, rs, ts, rt_, hc, li, re, ow, tc, cp, ck, wa, qp, qt, qs, lo, sb, lc, cn, ch, sk, hM, rM, tM, wM, mp, mk, wh, sM, hi, vS, cd, mn, rfl, hU, hR⟩ := hI
  have hg : 1 ≤ W ∧ W ≤ 12 ∧ 1 ≤ D_ ∧ D_ ≤ 12 ∧ 1 ≤ r ∧ r ≤ 10 := hG.1
  refine tt_aload_n F 1 rfl rfl dLW_law_565 ?_
  refine tt_aload_n F 0 rfl rfl dLW_law_566 ?_
  refine tt_iload F 4 rfl dLW_law_567 ?_
  refine tt_iconst F dLW_law_569 ?_
  refine tt_iadd F dLW_law_570 ?_
  refine tt_sld F hX hbl hbA (by omega) (by omega) (by omega) dLW_law_571 ?_
  refine tt_aload_n F 0 rfl rfl dLW_law_572 ?_
  refine tt_iload F 4 rfl dLW_law_573 ?_
  refine tt_iconst F dLW_law_575 ?_
  refine tt_iadd F dLW_law_576 ?_
  refine tt_sld F hX hbl hbA (by omega) (by omega) (by omega) dLW_law_577 ?_
  refine tt_aload_n F 3 rfl rfl dLW_law_578 ?_
  refine tk_call F (fun h => h) hsp hAo (As := [.ref (a 0), .int (iZ (scv xs (i + 1))), .int (iZ (scv xs (i + 2))), .ref o]) (mW cI cZ ad W D_ r hM rM tM wM mp mk wh sM hi vS cd mn) (k_hits (f := f) (hs := hs) (rs := rs) (ts := ts) (rt_ := rt_) (hc := hc) (li := li) (re := re) (ow := ow) (tc := tc) (cp := cp) (ck := ck) (wa := wa) (qp := qp) (qt := qt) (qs := qs) (lo := lo) (sb := sb) (lc := lc) (cn := cn) (ch := ch) (sk := sk) hst hG hU (scv_ir _ _) (scv_ir _ _)) (callK_of 4 F.1.2.2.2.2 (gw_S wd624 wd625 wd44 wd626) rfl (by decide +kernel) ⟨(Nat.le_of_ble_eq_true rfl), (Nat.le_of_ble_eq_true rfl)⟩) rfl rfl rfl (Nat.le_of_ble_eq_true rfl) ⟨by show c0 + 1 ≤ 601024; omega, by show s0 + 6 ≤ 7293000; omega⟩ dLW_law_579 (fun k_ w1 hp => ?_)
  refine tt_wid (k := c0 + 1) (n := s0 + 6) (by first | exact Nat.le_refl _ | (show c0 + 0 ≤ c0 + 1; omega)) (by first | exact Nat.le_refl _ | (show s0 + 0 ≤ s0 + 6; omega)) ?_
  refine tt_comm ?_
  rcases hp with ⟨hv, rfl, z1, wc, rfl, hp⟩ | ⟨hv, rfl, rfl⟩
  · skip
    refine tt_istore F [(5, .int (iZ 0)), (0, .ref b), (1, .ref (a 0)), (2, .ref (ad 0)), (3, .ref o), (4, .int (iZ i))] (by decide) rfl dLW_law_582 ?_
    refine tt_aload_n F 3 rfl rfl dLW_law_584 ?_
    refine tt_aload_n F 1 rfl rfl dLW_law_585 ?_
    refine tt_iload F 5 rfl dLW_law_586 ?_
    refine tt_iconst F dLW_law_588 ?_
    refine tt_iadd F dLW_law_589 ?_
    refine tt_sld F hX hbl hbA (by omega) (by omega) (by omega) dLW_law_590 ?_
    refine tt_aload_n F 1 rfl rfl dLW_law_591 ?_
    refine tt_iload F 5 rfl dLW_law_592 ?_
    refine tt_iconst F dLW_law_594 ?_
    refine tt_iadd F dLW_law_595 ?_
    refine tt_sld F hX hbl hbA (by omega) (by omega) (by omega) dLW_law_596 ?_
    refine tt_cIV F (fun h => h) (As := [.int (iZ (scv xs (i + 1))), .int (iZ (scv xs (i + 2)))]) ((o, aJ cJ 1 (zu f 0 (nz z1))) :: wc) 0 rfl rfl (c_hitsM (hM := hM) (rM := rM) (tM := tM) (wM := wM) (mp := mp) (mk := mk) (wh := wh) (sM := sM) (hi := hi) (vS := vS) (cd := cd) (mn := mn) hg (rel_hB hR) hv) (cwV 2 F.1.2.2.2.2 (gw_V wd828 wd829 wd830 wd53 wd831) rfl rfl rfl (by decide +kernel) ⟨(Nat.le_of_ble_eq_true rfl), (Nat.le_of_ble_eq_true rfl)⟩) rfl rfl rfl (Nat.le_of_ble_eq_true rfl) ⟨by show c0 + 1 + _ ≤ 601024; show c0 + 1 + 0 ≤ 601024; omega, by show s0 + 6 + 0 ≤ 7293000; omega⟩ dLW_law_597 (fun z2 w2 hp2 => ?_)
    refine tt_wid (k := c0 + 1) (n := s0 + 6) (by first | exact Nat.le_refl _ | (show c0 + 0 ≤ c0 + 1; omega)) (by first | exact Nat.le_refl _ | (show s0 + 0 ≤ s0 + 6; omega)) ?_
    obtain ⟨t', wh', sM', hi', rfl, hRL, hc2⟩ := hp2
    obtain ⟨hc1, rfl⟩ := hp
    have heq : z1 = z2 := by rw [hc1, hc2]; exact hit_eq hG hU.1 (rel_tp hR hU) hRL hv.1.1 hv.1.2 hv.2.1 hv.2.2
    refine tt_istore F [(6, .int (iZ z2)), (5, .int (iZ 0)), (0, .ref b), (1, .ref (a 0)), (2, .ref (ad 0)), (3, .ref o), (4, .int (iZ i))] (by decide) rfl dLW_law_600 ?_
    refine tt_aload_n F 4 rfl rfl dLW_law_602 ?_
    refine tt_cOV F (As := []) _ 0 rfl rfl o_thrown (cwV 0 F.1.2.2.2.2 (gw_V wd744 wd745 wd746 wd53 wd747) rfl rfl rfl (by decide +kernel) ⟨(Nat.le_of_ble_eq_true rfl), (Nat.le_of_ble_eq_true rfl)⟩) rfl rfl rfl (Nat.le_of_ble_eq_true rfl) ⟨by show c0 + 1 ≤ 601024; omega, by show s0 + 6 ≤ 7293000; omega⟩ dLW_law_603 (fun v hv3 => ?_)
    subst hv3
    refine tt_iload F 1 rfl dLW_law_606 ?_
    refine tt_icmp_eq F 613 ⟨by omega, by omega⟩ ⟨by omega, by omega⟩ dLW_law_608 (by decide) (fun c608 => ?_) (fun c608 => ?_)
    · skip
      refine tt_iload F 1 rfl dLW_law_613 ?_
      refine tt_if_ne F 630 ⟨by omega, by omega⟩ dLW_law_615 (by decide) (fun c615 => ?_) (fun c615 => ?_)
      · skip
        exact absurd rfl c615
      · skip
        refine tt_aload_n F 5 rfl rfl dLW_law_618 ?_
        refine tt_iconst F dLW_law_619 ?_
        refine tt_jald F 0 rfl (by omega) (by omega) (by omega) dLW_law_620 ?_
        refine tt_iload F 0 rfl dLW_law_621 ?_
        refine tt_i2ln F dLW_law_623 ?_
        refine tt_lcmp F (by rw [zu_s]; exact nz_ir _) (nz_ir _) dLW_law_624 (fun z624 hr624 hz624 => ?_)
        refine tt_if_eq F 630 ⟨by omega, by omega⟩ dLW_law_625 (by decide) (fun c625 => ?_) (fun c625 => ?_)
        · skip
          refine tt_goto F 991 (by decide) dLW_law_630 ?_
          refine tt_sub [2, 3, 4, 5, 6] rfl ?_
          refine tt_comm ?_
          exact k _ ⟨_, _, _, _, _, _, _, _, _, _, _, _, _, _, _, _, _, _, _, _, _, _, _, _, _, _, _, _, _, _, _, _, _, _, rfl, hU, hR⟩
        · skip
          exact absurd (hz624.mpr (by rw [zu_s, heq])) c625
    · skip
      exact absurd rfl c608
  · skip
    refine tt_istore F [(5, .int (iZ 1)), (0, .ref b), (1, .ref (a 0)), (2, .ref (ad 0)), (3, .ref o), (4, .int (iZ i))] (by decide) rfl dLW_law_582 ?_
    refine tt_aload_n F 3 rfl rfl dLW_law_584 ?_
    refine tt_aload_n F 1 rfl rfl dLW_law_585 ?_
    refine tt_iload F 5 rfl dLW_law_586 ?_
    refine tt_iconst F dLW_law_588 ?_
    refine tt_iadd F dLW_law_589 ?_
    refine tt_sld F hX hbl hbA (by omega) (by omega) (by omega) dLW_law_590 ?_
    refine tt_aload_n F 1 rfl rfl dLW_law_591 ?_
    refine tt_iload F 5 rfl dLW_law_592 ?_
    refine tt_iconst F dLW_law_594 ?_
    refine tt_iadd F dLW_law_595 ?_
    refine tt_sld F hX hbl hbA (by omega) (by omega) (by omega) dLW_law_596 ?_
    refine tt_cIV F (fun h => h) (As := [.int (iZ (scv xs (i + 1))), .int (iZ (scv xs (i + 2)))]) ((o, aJ cJ 1 f) :: (cW cI cZ a W D_ r sz co ro ho ac al sd lf sq hs rs ts rt_ hc li re ow tc cp ck wa qp qt qs lo sb lc cn ch sk)) 0 rfl rfl (n_hitsM (hM := hM) (rM := rM) (tM := tM) (wM := wM) (mp := mp) (mk := mk) (wh := wh) (sM := sM) (hi := hi) (vS := vS) (cd := cd) (mn := mn) hg (scv_ir _ _) (scv_ir _ _) hv) (cwV 2 F.1.2.2.2.2 (gw_V wd828 wd829 wd830 wd53 wd831) rfl rfl rfl (by decide +kernel) ⟨(Nat.le_of_ble_eq_true rfl), (Nat.le_of_ble_eq_true rfl)⟩) rfl rfl rfl (Nat.le_of_ble_eq_true rfl) ⟨by show c0 + 1 + _ ≤ 601024; show c0 + 1 + 0 ≤ 601024; omega, by show s0 + 6 + 0 ≤ 7293000; omega⟩ dLW_law_597 (fun z2 w2 hp2 => ?_)
    refine tt_wid (k := c0 + 1) (n := s0 + 6) (by first | exact Nat.le_refl _ | (show c0 + 0 ≤ c0 + 1; omega)) (by first | exact Nat.le_refl _ | (show s0 + 0 ≤ s0 + 6; omega)) ?_
    subst hp2
    refine tt_istore F [(6, .int (iZ z2)), (5, .int (iZ 1)), (0, .ref b), (1, .ref (a 0)), (2, .ref (ad 0)), (3, .ref o), (4, .int (iZ i))] (by decide) rfl dLW_law_600 ?_
    refine tt_aload_n F 4 rfl rfl dLW_law_602 ?_
    refine tt_cOV F (As := []) _ 0 rfl rfl o_thrown (cwV 0 F.1.2.2.2.2 (gw_V wd744 wd745 wd746 wd53 wd747) rfl rfl rfl (by decide +kernel) ⟨(Nat.le_of_ble_eq_true rfl), (Nat.le_of_ble_eq_true rfl)⟩) rfl rfl rfl (Nat.le_of_ble_eq_true rfl) ⟨by show c0 + 1 ≤ 601024; omega, by show s0 + 6 ≤ 7293000; omega⟩ dLW_law_603 (fun v hv3 => ?_)
    subst hv3
    refine tt_iload F 1 rfl dLW_law_606 ?_
    refine tt_icmp_eq F 613 ⟨by omega, by omega⟩ ⟨by omega, by omega⟩ dLW_law_608 (by decide) (fun c608 => ?_) (fun c608 => ?_)
    · skip
      refine tt_iload F 1 rfl dLW_law_613 ?_
      refine tt_if_ne F 630 ⟨by omega, by omega⟩ dLW_law_615 (by decide) (fun c615 => ?_) (fun c615 => ?_)
      · skip
        refine tt_goto F 991 (by decide) dLW_law_630 ?_
        refine tt_sub [2, 3, 4, 5, 6] rfl ?_
        refine tt_comm ?_
        exact k _ ⟨_, _, _, _, _, _, _, _, _, _, _, _, _, _, _, _, _, _, _, _, _, _, _, _, _, _, _, _, _, _, _, _, _, _, rfl, hU, hR⟩
      · skip
        exact absurd c615 (by decide)
    · skip
      exact absurd rfl c608
set_option maxHeartbeats 4000000 in
set_option maxRecDepth 100000 in
theorem cs_safe {p : Program} {l : Launch} {e : Env} {s : State} {m : MethodId} {below : List Frame} {meth : Method} {c : Code} {Q : State → Prop} {cq : Cond} {D : va_G} {cI cZ cJ : ClassId} {SL : List zS} {A : Nat → Prop} {b L o aS : Nat} {xs : Nat → Int32} {ad : Nat → Nat} {a : Nat → Nat} {W D_ r sz : Int} {co ro ho ac al sd lf sq : Int → Int} {i : Int} {c0 s0 : Nat} (F : FX p s m #[Value.ref b] meth c cLW_law 7 (some .boolean) (cq :: gT) RLW D vwCl cI cZ cJ SL A) (hst : l.stackTraces = false) (hX : va_X b L xs s s.heap) (hbl : b < s.heap.size) (hbA : ¬ A b) (hL : L ≤ 2563) (hsp : SRx RRB ssL s) (hAo : ∀ q, q < s.heap.size → ¬ A q) (hG : GE W D_ r sz co ro ho ac al sd lf sq) (hsw : SL[1]? = some ("RollingBalls$Plan", "SETS_WITH", "[I", aS, 4, fun j : Nat => Value.int (iZ (SWv (j : Int))))) (hc0 : c0 ≤ 20000) (hs0 : s0 ≤ 100000) (hi : 3 ≤ i ∧ i ≤ (L : Int) - 5)
    (k : ∀ ws, LI cI cZ cJ a ad o W D_ r sz co ro ho ac al sd lf sq ws → TT p l e room_1 s m #[Value.ref b] below meth c D vwCl A 7 False Q 991 [(0, .ref b), (1, .ref (a 0)), (2, .ref (ad 0)), (3, .ref o), (4, .int (iZ i))] [] ws (c0 + 1) (s0 + 6)) (ws : va_W) (hI : LI cI cZ cJ a ad o W D_ r sz co ro ho ac al sd lf sq ws) : TT p l e room_1 s m #[Value.ref b] below meth c D vwCl A 7 False Q 633 [(0, .ref b), (1, .ref (a 0)), (2, .ref (ad 0)), (3, .ref o), (4, .int (iZ i))] [] ws (c0) (s0) := by
  obtain ⟨f, hs, rs, ts, rt_, hc, li, re, ow, tc, cp, ck, wa, qp, qt, qs, lo, sb, lc, cn, ch, sk, hM, rM, tM, wM, mp, mk, wh, sM, hi, vS, cd, mn, rfl, hU, hR⟩ := hI
  have hg : 1 ≤ W ∧ W ≤ 12 ∧ 1 ≤ D_ ∧ D_ ≤ 12 ∧ 1 ≤ r ∧ r ≤ 10 := hG.1
  refine tt_aload_n F 1 rfl rfl dLW_law_633 ?_
  refine tt_aload_n F 0 rfl rfl dLW_law_634 ?_
  refine tt_iload F 4 rfl dLW_law_635 ?_
  refine tt_iconst F dLW_law_637 ?_
  refine tt_iadd F dLW_law_638 ?_
  refine tt_sld F hX hbl hbA (by omega) (by omega) (by omega) dLW_law_639 ?_
  refine tt_aload_n F 3 rfl rfl dLW_law_640 ?_
  refine tk_call F (fun h => h) hsp hAo (As := [.ref (a 0), .int (iZ (scv xs (i + 1))), .ref o]) (mW cI cZ ad W D_ r hM rM tM wM mp mk wh sM hi vS cd mn) (k_safe (f := f) (hs := hs) (rs := rs) (ts := ts) (rt_ := rt_) (hc := hc) (li := li) (re := re) (ow := ow) (tc := tc) (cp := cp) (ck := ck) (wa := wa) (qp := qp) (qt := qt) (qs := qs) (lo := lo) (sb := sb) (lc := lc) (cn := cn) (ch := ch) (sk := sk) hst hG hU (scv_ir _ _)) (callK_of 3 F.1.2.2.2.2 (gw_S wd631 wd632 wd44 wd633) rfl (by decide +kernel) ⟨(Nat.le_of_ble_eq_true rfl), (Nat.le_of_ble_eq_true rfl)⟩) rfl rfl rfl (Nat.le_of_ble_eq_true rfl) ⟨by show c0 + 1 ≤ 601024; omega, by show s0 + 6 ≤ 7293000; omega⟩ dLW_law_641 (fun k_ w1 hp => ?_)
  refine tt_wid (k := c0 + 1) (n := s0 + 6) (by first | exact Nat.le_refl _ | (show c0 + 0 ≤ c0 + 1; omega)) (by first | exact Nat.le_refl _ | (show s0 + 0 ≤ s0 + 6; omega)) ?_
  refine tt_comm ?_
  rcases hp with ⟨hv, rfl, z1, wc, rfl, hp⟩ | ⟨hv, rfl, rfl⟩
  · skip
    refine tt_istore F [(5, .int (iZ 0)), (0, .ref b), (1, .ref (a 0)), (2, .ref (ad 0)), (3, .ref o), (4, .int (iZ i))] (by decide) rfl dLW_law_644 ?_
    refine tt_aload_n F 3 rfl rfl dLW_law_646 ?_
    refine tt_aload_n F 1 rfl rfl dLW_law_647 ?_
    refine tt_iload F 5 rfl dLW_law_648 ?_
    refine tt_iconst F dLW_law_650 ?_
    refine tt_iadd F dLW_law_651 ?_
    refine tt_sld F hX hbl hbA (by omega) (by omega) (by omega) dLW_law_652 ?_
    refine tt_cIV F (fun h => h) (As := [.int (iZ (scv xs (i + 1)))]) ((o, aJ cJ 1 (zu f 0 (nz z1))) :: wc) 0 rfl rfl (c_safeM (hM := hM) (rM := rM) (tM := tM) (wM := wM) (mp := mp) (mk := mk) (wh := wh) (sM := sM) (hi := hi) (vS := vS) (cd := cd) (mn := mn) hg (rel_hB hR) ⟨hv, (scv_ir _ _).2⟩) (cwV 1 F.1.2.2.2.2 (gw_V wd832 wd833 wd834 wd53 wd835) rfl rfl rfl (by decide +kernel) ⟨(Nat.le_of_ble_eq_true rfl), (Nat.le_of_ble_eq_true rfl)⟩) rfl rfl rfl (Nat.le_of_ble_eq_true rfl) ⟨by show c0 + 1 + _ ≤ 601024; show c0 + 1 + 0 ≤ 601024; omega, by show s0 + 6 + 0 ≤ 7293000; omega⟩ dLW_law_653 (fun z2 w2 hp2 => ?_)
    refine tt_wid (k := c0 + 1) (n := s0 + 6) (by first | exact Nat.le_refl _ | (show c0 + 0 ≤ c0 + 1; omega)) (by first | exact Nat.le_refl _ | (show s0 + 0 ≤ s0 + 6; omega)) ?_
    obtain ⟨t', wh', sM', hi', rfl, hRL, hc2⟩ := hp2
    obtain ⟨hc1, rfl⟩ := hp
    have heq : z1 = z2 := tie_safe hG hU.1 (rel_tp hR hU) hc1 hRL hc2
    refine tt_istore F [(6, .int (iZ z2)), (5, .int (iZ 0)), (0, .ref b), (1, .ref (a 0)), (2, .ref (ad 0)), (3, .ref o), (4, .int (iZ i))] (by decide) rfl dLW_law_656 ?_
    refine tt_aload_n F 4 rfl rfl dLW_law_658 ?_
    refine tt_cOV F (As := []) _ 0 rfl rfl o_thrown (cwV 0 F.1.2.2.2.2 (gw_V wd744 wd745 wd746 wd53 wd747) rfl rfl rfl (by decide +kernel) ⟨(Nat.le_of_ble_eq_true rfl), (Nat.le_of_ble_eq_true rfl)⟩) rfl rfl rfl (Nat.le_of_ble_eq_true rfl) ⟨by show c0 + 1 ≤ 601024; omega, by show s0 + 6 ≤ 7293000; omega⟩ dLW_law_659 (fun v hv3 => ?_)
    subst hv3
    refine tt_iload F 1 rfl dLW_law_662 ?_
    refine tt_icmp_eq F 669 ⟨by omega, by omega⟩ ⟨by omega, by omega⟩ dLW_law_664 (by decide) (fun c664 => ?_) (fun c664 => ?_)
    · skip
      refine tt_iload F 1 rfl dLW_law_669 ?_
      refine tt_if_ne F 686 ⟨by omega, by omega⟩ dLW_law_671 (by decide) (fun c671 => ?_) (fun c671 => ?_)
      · skip
        exact absurd rfl c671
      · skip
        refine tt_aload_n F 5 rfl rfl dLW_law_674 ?_
        refine tt_iconst F dLW_law_675 ?_
        refine tt_jald F 0 rfl (by omega) (by omega) (by omega) dLW_law_676 ?_
        refine tt_iload F 0 rfl dLW_law_677 ?_
        refine tt_i2ln F dLW_law_679 ?_
        refine tt_lcmp F (by rw [zu_s]; exact nz_ir _) (nz_ir _) dLW_law_680 (fun z680 hr680 hz680 => ?_)
        refine tt_if_eq F 686 ⟨by omega, by omega⟩ dLW_law_681 (by decide) (fun c681 => ?_) (fun c681 => ?_)
        · skip
          refine tt_goto F 991 (by decide) dLW_law_686 ?_
          refine tt_sub [2, 3, 4, 5, 6] rfl ?_
          refine tt_comm ?_
          exact k _ ⟨_, _, _, _, _, _, _, _, _, _, _, _, _, _, _, _, _, _, _, _, _, _, _, _, _, _, _, _, _, _, _, _, _, _, rfl, hU, hR⟩
        · skip
          exact absurd (hz680.mpr (by rw [zu_s, heq])) c681
    · skip
      exact absurd rfl c664
  · skip
    refine tt_istore F [(5, .int (iZ 1)), (0, .ref b), (1, .ref (a 0)), (2, .ref (ad 0)), (3, .ref o), (4, .int (iZ i))] (by decide) rfl dLW_law_644 ?_
    refine tt_aload_n F 3 rfl rfl dLW_law_646 ?_
    refine tt_aload_n F 1 rfl rfl dLW_law_647 ?_
    refine tt_iload F 5 rfl dLW_law_648 ?_
    refine tt_iconst F dLW_law_650 ?_
    refine tt_iadd F dLW_law_651 ?_
    refine tt_sld F hX hbl hbA (by omega) (by omega) (by omega) dLW_law_652 ?_
    refine tt_cIV F (fun h => h) (As := [.int (iZ (scv xs (i + 1)))]) ((o, aJ cJ 1 f) :: (cW cI cZ a W D_ r sz co ro ho ac al sd lf sq hs rs ts rt_ hc li re ow tc cp ck wa qp qt qs lo sb lc cn ch sk)) 0 rfl rfl (n_safeM (hM := hM) (rM := rM) (tM := tM) (wM := wM) (mp := mp) (mk := mk) (wh := wh) (sM := sM) (hi := hi) (vS := vS) (cd := cd) (mn := mn) (scv_ir _ _) hv) (cwV 1 F.1.2.2.2.2 (gw_V wd832 wd833 wd834 wd53 wd835) rfl rfl rfl (by decide +kernel) ⟨(Nat.le_of_ble_eq_true rfl), (Nat.le_of_ble_eq_true rfl)⟩) rfl rfl rfl (Nat.le_of_ble_eq_true rfl) ⟨by show c0 + 1 + _ ≤ 601024; show c0 + 1 + 0 ≤ 601024; omega, by show s0 + 6 + 0 ≤ 7293000; omega⟩ dLW_law_653 (fun z2 w2 hp2 => ?_)
    refine tt_wid (k := c0 + 1) (n := s0 + 6) (by first | exact Nat.le_refl _ | (show c0 + 0 ≤ c0 + 1; omega)) (by first | exact Nat.le_refl _ | (show s0 + 0 ≤ s0 + 6; omega)) ?_
    subst hp2
    refine tt_istore F [(6, .int (iZ z2)), (5, .int (iZ 1)), (0, .ref b), (1, .ref (a 0)), (2, .ref (ad 0)), (3, .ref o), (4, .int (iZ i))] (by decide) rfl dLW_law_656 ?_
    refine tt_aload_n F 4 rfl rfl dLW_law_658 ?_
    refine tt_cOV F (As := []) _ 0 rfl rfl o_thrown (cwV 0 F.1.2.2.2.2 (gw_V wd744 wd745 wd746 wd53 wd747) rfl rfl rfl (by decide +kernel) ⟨(Nat.le_of_ble_eq_true rfl), (Nat.le_of_ble_eq_true rfl)⟩) rfl rfl rfl (Nat.le_of_ble_eq_true rfl) ⟨by show c0 + 1 ≤ 601024; omega, by show s0 + 6 ≤ 7293000; omega⟩ dLW_law_659 (fun v hv3 => ?_)
    subst hv3
    refine tt_iload F 1 rfl dLW_law_662 ?_
    refine tt_icmp_eq F 669 ⟨by omega, by omega⟩ ⟨by omega, by omega⟩ dLW_law_664 (by decide) (fun c664 => ?_) (fun c664 => ?_)
    · skip
      refine tt_iload F 1 rfl dLW_law_669 ?_
      refine tt_if_ne F 686 ⟨by omega, by omega⟩ dLW_law_671 (by decide) (fun c671 => ?_) (fun c671 => ?_)
      · skip
        refine tt_goto F 991 (by decide) dLW_law_686 ?_
        refine tt_sub [2, 3, 4, 5, 6] rfl ?_
        refine tt_comm ?_
        exact k _ ⟨_, _, _, _, _, _, _, _, _, _, _, _, _, _, _, _, _, _, _, _, _, _, _, _, _, _, _, _, _, _, _, _, _, _, rfl, hU, hR⟩
      · skip
        exact absurd c671 (by decide)
    · skip
      exact absurd rfl c664
set_option maxHeartbeats 4000000 in
set_option maxRecDepth 100000 in
theorem cs_cover {p : Program} {l : Launch} {e : Env} {s : State} {m : MethodId} {below : List Frame} {meth : Method} {c : Code} {Q : State → Prop} {cq : Cond} {D : va_G} {cI cZ cJ : ClassId} {SL : List zS} {A : Nat → Prop} {b L o aS : Nat} {xs : Nat → Int32} {ad : Nat → Nat} {a : Nat → Nat} {W D_ r sz : Int} {co ro ho ac al sd lf sq : Int → Int} {i : Int} {c0 s0 : Nat} (F : FX p s m #[Value.ref b] meth c cLW_law 7 (some .boolean) (cq :: gT) RLW D vwCl cI cZ cJ SL A) (hst : l.stackTraces = false) (hX : va_X b L xs s s.heap) (hbl : b < s.heap.size) (hbA : ¬ A b) (hL : L ≤ 2563) (hsp : SRx RRB ssL s) (hAo : ∀ q, q < s.heap.size → ¬ A q) (hG : GE W D_ r sz co ro ho ac al sd lf sq) (hsw : SL[1]? = some ("RollingBalls$Plan", "SETS_WITH", "[I", aS, 4, fun j : Nat => Value.int (iZ (SWv (j : Int))))) (hc0 : c0 ≤ 20000) (hs0 : s0 ≤ 100000) (hi : 3 ≤ i ∧ i ≤ (L : Int) - 5)
    (k : ∀ ws, LI cI cZ cJ a ad o W D_ r sz co ro ho ac al sd lf sq ws → TT p l e room_1 s m #[Value.ref b] below meth c D vwCl A 7 False Q 991 [(0, .ref b), (1, .ref (a 0)), (2, .ref (ad 0)), (3, .ref o), (4, .int (iZ i))] [] ws (c0 + 1) (s0 + 6)) (ws : va_W) (hI : LI cI cZ cJ a ad o W D_ r sz co ro ho ac al sd lf sq ws) : TT p l e room_1 s m #[Value.ref b] below meth c D vwCl A 7 False Q 689 [(0, .ref b), (1, .ref (a 0)), (2, .ref (ad 0)), (3, .ref o), (4, .int (iZ i))] [] ws (c0) (s0) := by
  obtain ⟨f, hs, rs, ts, rt_, hc, li, re, ow, tc, cp, ck, wa, qp, qt, qs, lo, sb, lc, cn, ch, sk, hM, rM, tM, wM, mp, mk, wh, sM, hi, vS, cd, mn, rfl, hU, hR⟩ := hI
  have hg : 1 ≤ W ∧ W ≤ 12 ∧ 1 ≤ D_ ∧ D_ ≤ 12 ∧ 1 ≤ r ∧ r ≤ 10 := hG.1
  refine tt_aload_n F 1 rfl rfl dLW_law_689 ?_
  refine tt_aload_n F 0 rfl rfl dLW_law_690 ?_
  refine tt_iload F 4 rfl dLW_law_691 ?_
  refine tt_iconst F dLW_law_693 ?_
  refine tt_iadd F dLW_law_694 ?_
  refine tt_sld F hX hbl hbA (by omega) (by omega) (by omega) dLW_law_695 ?_
  refine tt_aload_n F 0 rfl rfl dLW_law_696 ?_
  refine tt_iload F 4 rfl dLW_law_697 ?_
  refine tt_iconst F dLW_law_699 ?_
  refine tt_iadd F dLW_law_700 ?_
  refine tt_sld F hX hbl hbA (by omega) (by omega) (by omega) dLW_law_701 ?_
  refine tt_aload_n F 3 rfl rfl dLW_law_702 ?_
  refine tk_call F (fun h => h) hsp hAo (As := [.ref (a 0), .int (iZ (scv xs (i + 1))), .int (iZ (scv xs (i + 2))), .ref o]) (mW cI cZ ad W D_ r hM rM tM wM mp mk wh sM hi vS cd mn) (k_cover (f := f) (hs := hs) (rs := rs) (ts := ts) (rt_ := rt_) (hc := hc) (li := li) (re := re) (ow := ow) (tc := tc) (cp := cp) (ck := ck) (wa := wa) (qp := qp) (qt := qt) (qs := qs) (lo := lo) (sb := sb) (lc := lc) (cn := cn) (ch := ch) (sk := sk) hst hG hU (scv_ir _ _) (scv_ir _ _)) (callK_of 4 F.1.2.2.2.2 (gw_S wd638 wd639 wd44 wd640) rfl (by decide +kernel) ⟨(Nat.le_of_ble_eq_true rfl), (Nat.le_of_ble_eq_true rfl)⟩) rfl rfl rfl (Nat.le_of_ble_eq_true rfl) ⟨by show c0 + 1 ≤ 601024; omega, by show s0 + 6 ≤ 7293000; omega⟩ dLW_law_703 (fun k_ w1 hp => ?_)
  refine tt_wid (k := c0 + 1) (n := s0 + 6) (by first | exact Nat.le_refl _ | (show c0 + 0 ≤ c0 + 1; omega)) (by first | exact Nat.le_refl _ | (show s0 + 0 ≤ s0 + 6; omega)) ?_
  refine tt_comm ?_
  rcases hp with ⟨hv, rfl, z1, wc, rfl, hp⟩ | ⟨hv, rfl, rfl⟩
  · skip
    refine tt_istore F [(5, .int (iZ 0)), (0, .ref b), (1, .ref (a 0)), (2, .ref (ad 0)), (3, .ref o), (4, .int (iZ i))] (by decide) rfl dLW_law_706 ?_
    refine tt_aload_n F 3 rfl rfl dLW_law_708 ?_
    refine tt_aload_n F 1 rfl rfl dLW_law_709 ?_
    refine tt_iload F 5 rfl dLW_law_710 ?_
    refine tt_iconst F dLW_law_712 ?_
    refine tt_iadd F dLW_law_713 ?_
    refine tt_sld F hX hbl hbA (by omega) (by omega) (by omega) dLW_law_714 ?_
    refine tt_aload_n F 1 rfl rfl dLW_law_715 ?_
    refine tt_iload F 5 rfl dLW_law_716 ?_
    refine tt_iconst F dLW_law_718 ?_
    refine tt_iadd F dLW_law_719 ?_
    refine tt_sld F hX hbl hbA (by omega) (by omega) (by omega) dLW_law_720 ?_
    refine tt_cIV F (fun h => h) (As := [.int (iZ (scv xs (i + 1))), .int (iZ (scv xs (i + 2)))]) ((o, aJ cJ 1 (zu f 0 (nz z1))) :: wc) 0 rfl rfl (c_coverM (hM := hM) (rM := rM) (tM := tM) (wM := wM) (mp := mp) (mk := mk) (wh := wh) (sM := sM) (hi := hi) (vS := vS) (cd := cd) (mn := mn) hg (rel_hB hR) hv) (cwV 2 F.1.2.2.2.2 (gw_V wd840 wd841 wd842 wd53 wd843) rfl rfl rfl (by decide +kernel) ⟨(Nat.le_of_ble_eq_true rfl), (Nat.le_of_ble_eq_true rfl)⟩) rfl rfl rfl (Nat.le_of_ble_eq_true rfl) ⟨by show c0 + 1 + _ ≤ 601024; show c0 + 1 + 0 ≤ 601024; omega, by show s0 + 6 + 0 ≤ 7293000; omega⟩ dLW_law_721 (fun z2 w2 hp2 => ?_)
    refine tt_wid (k := c0 + 1) (n := s0 + 6) (by first | exact Nat.le_refl _ | (show c0 + 0 ≤ c0 + 1; omega)) (by first | exact Nat.le_refl _ | (show s0 + 0 ≤ s0 + 6; omega)) ?_
    obtain ⟨t', wh', sM', hi', rfl, hRL, hc2⟩ := hp2
    obtain ⟨hc1, rfl⟩ := hp
    have heq : z1 = z2 := tie_cover hG hU.1 (rel_tp hR hU) (pub_re hG hU) hv hc1 hRL hc2
    refine tt_istore F [(6, .int (iZ z2)), (5, .int (iZ 0)), (0, .ref b), (1, .ref (a 0)), (2, .ref (ad 0)), (3, .ref o), (4, .int (iZ i))] (by decide) rfl dLW_law_724 ?_
    refine tt_aload_n F 4 rfl rfl dLW_law_726 ?_
    refine tt_cOV F (As := []) _ 0 rfl rfl o_thrown (cwV 0 F.1.2.2.2.2 (gw_V wd744 wd745 wd746 wd53 wd747) rfl rfl rfl (by decide +kernel) ⟨(Nat.le_of_ble_eq_true rfl), (Nat.le_of_ble_eq_true rfl)⟩) rfl rfl rfl (Nat.le_of_ble_eq_true rfl) ⟨by show c0 + 1 ≤ 601024; omega, by show s0 + 6 ≤ 7293000; omega⟩ dLW_law_727 (fun v hv3 => ?_)
    subst hv3
    refine tt_iload F 1 rfl dLW_law_730 ?_
    refine tt_icmp_eq F 737 ⟨by omega, by omega⟩ ⟨by omega, by omega⟩ dLW_law_732 (by decide) (fun c732 => ?_) (fun c732 => ?_)
    · skip
      refine tt_iload F 1 rfl dLW_law_737 ?_
      refine tt_if_ne F 754 ⟨by omega, by omega⟩ dLW_law_739 (by decide) (fun c739 => ?_) (fun c739 => ?_)
      · skip
        exact absurd rfl c739
      · skip
        refine tt_aload_n F 5 rfl rfl dLW_law_742 ?_
        refine tt_iconst F dLW_law_743 ?_
        refine tt_jald F 0 rfl (by omega) (by omega) (by omega) dLW_law_744 ?_
        refine tt_iload F 0 rfl dLW_law_745 ?_
        refine tt_i2ln F dLW_law_747 ?_
        refine tt_lcmp F (by rw [zu_s]; exact nz_ir _) (nz_ir _) dLW_law_748 (fun z748 hr748 hz748 => ?_)
        refine tt_if_eq F 754 ⟨by omega, by omega⟩ dLW_law_749 (by decide) (fun c749 => ?_) (fun c749 => ?_)
        · skip
          refine tt_goto F 991 (by decide) dLW_law_754 ?_
          refine tt_sub [2, 3, 4, 5, 6] rfl ?_
          refine tt_comm ?_
          exact k _ ⟨_, _, _, _, _, _, _, _, _, _, _, _, _, _, _, _, _, _, _, _, _, _, _, _, _, _, _, _, _, _, _, _, _, _, rfl, hU, hR⟩
        · skip
          exact absurd (hz748.mpr (by rw [zu_s, heq])) c749
    · skip
      exact absurd rfl c732
  · skip
    refine tt_istore F [(5, .int (iZ 1)), (0, .ref b), (1, .ref (a 0)), (2, .ref (ad 0)), (3, .ref o), (4, .int (iZ i))] (by decide) rfl dLW_law_706 ?_
    refine tt_aload_n F 3 rfl rfl dLW_law_708 ?_
    refine tt_aload_n F 1 rfl rfl dLW_law_709 ?_
    refine tt_iload F 5 rfl dLW_law_710 ?_
    refine tt_iconst F dLW_law_712 ?_
    refine tt_iadd F dLW_law_713 ?_
    refine tt_sld F hX hbl hbA (by omega) (by omega) (by omega) dLW_law_714 ?_
    refine tt_aload_n F 1 rfl rfl dLW_law_715 ?_
    refine tt_iload F 5 rfl dLW_law_716 ?_
    refine tt_iconst F dLW_law_718 ?_
    refine tt_iadd F dLW_law_719 ?_
    refine tt_sld F hX hbl hbA (by omega) (by omega) (by omega) dLW_law_720 ?_
    refine tt_cIV F (fun h => h) (As := [.int (iZ (scv xs (i + 1))), .int (iZ (scv xs (i + 2)))]) ((o, aJ cJ 1 f) :: (cW cI cZ a W D_ r sz co ro ho ac al sd lf sq hs rs ts rt_ hc li re ow tc cp ck wa qp qt qs lo sb lc cn ch sk)) 0 rfl rfl (n_coverM (hM := hM) (rM := rM) (tM := tM) (wM := wM) (mp := mp) (mk := mk) (wh := wh) (sM := sM) (hi := hi) (vS := vS) (cd := cd) (mn := mn) hg (scv_ir _ _) (scv_ir _ _) hv) (cwV 2 F.1.2.2.2.2 (gw_V wd840 wd841 wd842 wd53 wd843) rfl rfl rfl (by decide +kernel) ⟨(Nat.le_of_ble_eq_true rfl), (Nat.le_of_ble_eq_true rfl)⟩) rfl rfl rfl (Nat.le_of_ble_eq_true rfl) ⟨by show c0 + 1 + _ ≤ 601024; show c0 + 1 + 0 ≤ 601024; omega, by show s0 + 6 + 0 ≤ 7293000; omega⟩ dLW_law_721 (fun z2 w2 hp2 => ?_)
    refine tt_wid (k := c0 + 1) (n := s0 + 6) (by first | exact Nat.le_refl _ | (show c0 + 0 ≤ c0 + 1; omega)) (by first | exact Nat.le_refl _ | (show s0 + 0 ≤ s0 + 6; omega)) ?_
    subst hp2
    refine tt_istore F [(6, .int (iZ z2)), (5, .int (iZ 1)), (0, .ref b), (1, .ref (a 0)), (2, .ref (ad 0)), (3, .ref o), (4, .int (iZ i))] (by decide) rfl dLW_law_724 ?_
    refine tt_aload_n F 4 rfl rfl dLW_law_726 ?_
    refine tt_cOV F (As := []) _ 0 rfl rfl o_thrown (cwV 0 F.1.2.2.2.2 (gw_V wd744 wd745 wd746 wd53 wd747) rfl rfl rfl (by decide +kernel) ⟨(Nat.le_of_ble_eq_true rfl), (Nat.le_of_ble_eq_true rfl)⟩) rfl rfl rfl (Nat.le_of_ble_eq_true rfl) ⟨by show c0 + 1 ≤ 601024; omega, by show s0 + 6 ≤ 7293000; omega⟩ dLW_law_727 (fun v hv3 => ?_)
    subst hv3
    refine tt_iload F 1 rfl dLW_law_730 ?_
    refine tt_icmp_eq F 737 ⟨by omega, by omega⟩ ⟨by omega, by omega⟩ dLW_law_732 (by decide) (fun c732 => ?_) (fun c732 => ?_)
    · skip
      refine tt_iload F 1 rfl dLW_law_737 ?_
      refine tt_if_ne F 754 ⟨by omega, by omega⟩ dLW_law_739 (by decide) (fun c739 => ?_) (fun c739 => ?_)
      · skip
        refine tt_goto F 991 (by decide) dLW_law_754 ?_
        refine tt_sub [2, 3, 4, 5, 6] rfl ?_
        refine tt_comm ?_
        exact k _ ⟨_, _, _, _, _, _, _, _, _, _, _, _, _, _, _, _, _, _, _, _, _, _, _, _, _, _, _, _, _, _, _, _, _, _, rfl, hU, hR⟩
      · skip
        exact absurd c739 (by decide)
    · skip
      exact absurd rfl c732
set_option maxHeartbeats 4000000 in
set_option maxRecDepth 100000 in
theorem cs_may {p : Program} {l : Launch} {e : Env} {s : State} {m : MethodId} {below : List Frame} {meth : Method} {c : Code} {Q : State → Prop} {cq : Cond} {D : va_G} {cI cZ cJ : ClassId} {SL : List zS} {A : Nat → Prop} {b L o aS : Nat} {xs : Nat → Int32} {ad : Nat → Nat} {a : Nat → Nat} {W D_ r sz : Int} {co ro ho ac al sd lf sq : Int → Int} {i : Int} {c0 s0 : Nat} (F : FX p s m #[Value.ref b] meth c cLW_law 7 (some .boolean) (cq :: gT) RLW D vwCl cI cZ cJ SL A) (hst : l.stackTraces = false) (hX : va_X b L xs s s.heap) (hbl : b < s.heap.size) (hbA : ¬ A b) (hL : L ≤ 2563) (hsp : SRx RRB ssL s) (hAo : ∀ q, q < s.heap.size → ¬ A q) (hG : GE W D_ r sz co ro ho ac al sd lf sq) (hsw : SL[1]? = some ("RollingBalls$Plan", "SETS_WITH", "[I", aS, 4, fun j : Nat => Value.int (iZ (SWv (j : Int))))) (hc0 : c0 ≤ 20000) (hs0 : s0 ≤ 100000) (hi : 3 ≤ i ∧ i ≤ (L : Int) - 5)
    (k : ∀ ws, LI cI cZ cJ a ad o W D_ r sz co ro ho ac al sd lf sq ws → TT p l e room_1 s m #[Value.ref b] below meth c D vwCl A 7 False Q 991 [(0, .ref b), (1, .ref (a 0)), (2, .ref (ad 0)), (3, .ref o), (4, .int (iZ i))] [] ws (c0 + 1) (s0 + 6)) (ws : va_W) (hI : LI cI cZ cJ a ad o W D_ r sz co ro ho ac al sd lf sq ws) : TT p l e room_1 s m #[Value.ref b] below meth c D vwCl A 7 False Q 757 [(0, .ref b), (1, .ref (a 0)), (2, .ref (ad 0)), (3, .ref o), (4, .int (iZ i))] [] ws (c0) (s0) := by
  obtain ⟨f, hs, rs, ts, rt_, hc, li, re, ow, tc, cp, ck, wa, qp, qt, qs, lo, sb, lc, cn, ch, sk, hM, rM, tM, wM, mp, mk, wh, sM, hi, vS, cd, mn, rfl, hU, hR⟩ := hI
  have hg : 1 ≤ W ∧ W ≤ 12 ∧ 1 ≤ D_ ∧ D_ ≤ 12 ∧ 1 ≤ r ∧ r ≤ 10 := hG.1
  refine tt_aload_n F 1 rfl rfl dLW_law_757 ?_
  refine tt_aload_n F 0 rfl rfl dLW_law_758 ?_
  refine tt_iload F 4 rfl dLW_law_759 ?_
  refine tt_iconst F dLW_law_761 ?_
  refine tt_iadd F dLW_law_762 ?_
  refine tt_sld F hX hbl hbA (by omega) (by omega) (by omega) dLW_law_763 ?_
  refine tt_aload_n F 0 rfl rfl dLW_law_764 ?_
  refine tt_iload F 4 rfl dLW_law_765 ?_
  refine tt_iconst F dLW_law_767 ?_
  refine tt_iadd F dLW_law_768 ?_
  refine tt_sld F hX hbl hbA (by omega) (by omega) (by omega) dLW_law_769 ?_
  refine tt_aload_n F 0 rfl rfl dLW_law_770 ?_
  refine tt_iload F 4 rfl dLW_law_771 ?_
  refine tt_iconst F dLW_law_773 ?_
  refine tt_iadd F dLW_law_774 ?_
  refine tt_sld F hX hbl hbA (by omega) (by omega) (by omega) dLW_law_775 ?_
  refine tt_aload_n F 3 rfl rfl dLW_law_776 ?_
  refine tk_call F (fun h => h) hsp hAo (As := [.ref (a 0), .int (iZ (scv xs (i + 1))), .int (iZ (scv xs (i + 2))), .int (iZ (scv xs (i + 3))), .ref o]) (mW cI cZ ad W D_ r hM rM tM wM mp mk wh sM hi vS cd mn) (k_may (f := f) (hs := hs) (rs := rs) (ts := ts) (rt_ := rt_) (hc := hc) (li := li) (re := re) (ow := ow) (tc := tc) (cp := cp) (ck := ck) (wa := wa) (qp := qp) (qt := qt) (qs := qs) (lo := lo) (sb := sb) (lc := lc) (cn := cn) (ch := ch) (sk := sk) hst hG hU (scv_ir _ _) (scv_ir _ _) (scv_ir _ _)) (callK_of 5 F.1.2.2.2.2 (gw_S wd650 wd651 wd44 wd652) rfl (by decide +kernel) ⟨(Nat.le_of_ble_eq_true rfl), (Nat.le_of_ble_eq_true rfl)⟩) rfl rfl rfl (Nat.le_of_ble_eq_true rfl) ⟨by show c0 + 1 ≤ 601024; omega, by show s0 + 6 ≤ 7293000; omega⟩ dLW_law_777 (fun k_ w1 hp => ?_)
  refine tt_wid (k := c0 + 1) (n := s0 + 6) (by first | exact Nat.le_refl _ | (show c0 + 0 ≤ c0 + 1; omega)) (by first | exact Nat.le_refl _ | (show s0 + 0 ≤ s0 + 6; omega)) ?_
  refine tt_comm ?_
  rcases hp with ⟨hv, rfl, z1, wc, rfl, hp⟩ | ⟨hv, rfl, rfl⟩ | ⟨hv, rfl, rfl⟩
  · skip
    refine tt_istore F [(5, .int (iZ 0)), (0, .ref b), (1, .ref (a 0)), (2, .ref (ad 0)), (3, .ref o), (4, .int (iZ i))] (by decide) rfl dLW_law_780 ?_
    refine tt_aload_n F 3 rfl rfl dLW_law_782 ?_
    refine tt_aload_n F 1 rfl rfl dLW_law_783 ?_
    refine tt_iload F 5 rfl dLW_law_784 ?_
    refine tt_iconst F dLW_law_786 ?_
    refine tt_iadd F dLW_law_787 ?_
    refine tt_sld F hX hbl hbA (by omega) (by omega) (by omega) dLW_law_788 ?_
    refine tt_aload_n F 1 rfl rfl dLW_law_789 ?_
    refine tt_iload F 5 rfl dLW_law_790 ?_
    refine tt_iconst F dLW_law_792 ?_
    refine tt_iadd F dLW_law_793 ?_
    refine tt_sld F hX hbl hbA (by omega) (by omega) (by omega) dLW_law_794 ?_
    refine tt_aload_n F 1 rfl rfl dLW_law_795 ?_
    refine tt_iload F 5 rfl dLW_law_796 ?_
    refine tt_iconst F dLW_law_798 ?_
    refine tt_iadd F dLW_law_799 ?_
    refine tt_sld F hX hbl hbA (by omega) (by omega) (by omega) dLW_law_800 ?_
    refine tt_cIV F (fun h => h) (As := [.int (iZ (scv xs (i + 1))), .int (iZ (scv xs (i + 2))), .int (iZ (scv xs (i + 3)))]) ((o, aJ cJ 1 (zu f 0 (nz z1))) :: wc) 0 rfl rfl (c_mayM (hM := hM) (rM := rM) (tM := tM) (wM := wM) (mp := mp) (mk := mk) (wh := wh) (sM := sM) (hi := hi) (vS := vS) (cd := cd) (mn := mn) hg hv.1.1 hv.1.2 ⟨hR.2.2.2.1.1, by rw [hR.2.2.1]; exact hv.2⟩) (cwV 3 F.1.2.2.2.2 (gw_V wd844 wd845 wd846 wd53 wd847) rfl rfl rfl (by decide +kernel) ⟨(Nat.le_of_ble_eq_true rfl), (Nat.le_of_ble_eq_true rfl)⟩) rfl rfl rfl (Nat.le_of_ble_eq_true rfl) ⟨by show c0 + 1 + _ ≤ 601024; show c0 + 1 + 0 ≤ 601024; omega, by show s0 + 6 + 0 ≤ 7293000; omega⟩ dLW_law_801 (fun z2 w2 hp2 => ?_)
    refine tt_wid (k := c0 + 1) (n := s0 + 6) (by first | exact Nat.le_refl _ | (show c0 + 0 ≤ c0 + 1; omega)) (by first | exact Nat.le_refl _ | (show s0 + 0 ≤ s0 + 6; omega)) ?_
    obtain ⟨hz2, rfl⟩ := hp2
    obtain ⟨⟨hz1, rfl⟩, hU'⟩ := hp
    have heq : z1 = z2 := by rw [hz1, hz2, hR.2.2.1]
    refine tt_istore F [(6, .int (iZ z2)), (5, .int (iZ 0)), (0, .ref b), (1, .ref (a 0)), (2, .ref (ad 0)), (3, .ref o), (4, .int (iZ i))] (by decide) rfl dLW_law_804 ?_
    refine tt_aload_n F 4 rfl rfl dLW_law_806 ?_
    refine tt_cOV F (As := []) _ 0 rfl rfl o_thrown (cwV 0 F.1.2.2.2.2 (gw_V wd744 wd745 wd746 wd53 wd747) rfl rfl rfl (by decide +kernel) ⟨(Nat.le_of_ble_eq_true rfl), (Nat.le_of_ble_eq_true rfl)⟩) rfl rfl rfl (Nat.le_of_ble_eq_true rfl) ⟨by show c0 + 1 ≤ 601024; omega, by show s0 + 6 ≤ 7293000; omega⟩ dLW_law_807 (fun v hv3 => ?_)
    subst hv3
    refine tt_iload F 1 rfl dLW_law_810 ?_
    refine tt_icmp_eq F 817 ⟨by omega, by omega⟩ ⟨by omega, by omega⟩ dLW_law_812 (by decide) (fun c812 => ?_) (fun c812 => ?_)
    · skip
      refine tt_iload F 1 rfl dLW_law_817 ?_
      refine tt_if_ne F 834 ⟨by omega, by omega⟩ dLW_law_819 (by decide) (fun c819 => ?_) (fun c819 => ?_)
      · skip
        exact absurd rfl c819
      · skip
        refine tt_aload_n F 5 rfl rfl dLW_law_822 ?_
        refine tt_iconst F dLW_law_823 ?_
        refine tt_jald F 0 rfl (by omega) (by omega) (by omega) dLW_law_824 ?_
        refine tt_iload F 0 rfl dLW_law_825 ?_
        refine tt_i2ln F dLW_law_827 ?_
        refine tt_lcmp F (by rw [zu_s]; exact nz_ir _) (nz_ir _) dLW_law_828 (fun z828 hr828 hz828 => ?_)
        refine tt_if_eq F 834 ⟨by omega, by omega⟩ dLW_law_829 (by decide) (fun c829 => ?_) (fun c829 => ?_)
        · skip
          refine tt_goto F 991 (by decide) dLW_law_834 ?_
          refine tt_sub [2, 3, 4, 5, 6] rfl ?_
          refine tt_comm ?_
          exact k _ ⟨_, _, _, _, _, _, _, _, _, _, _, _, _, _, _, _, _, _, _, _, _, _, _, _, _, _, _, _, _, _, _, _, _, _, rfl, hU', rel_may hv.1.1 hv.1.2 hv.2 hR⟩
        · skip
          exact absurd (hz828.mpr (by rw [zu_s, heq])) c829
    · skip
      exact absurd rfl c812
  · skip
    refine tt_istore F [(5, .int (iZ 1)), (0, .ref b), (1, .ref (a 0)), (2, .ref (ad 0)), (3, .ref o), (4, .int (iZ i))] (by decide) rfl dLW_law_780 ?_
    refine tt_aload_n F 3 rfl rfl dLW_law_782 ?_
    refine tt_aload_n F 1 rfl rfl dLW_law_783 ?_
    refine tt_iload F 5 rfl dLW_law_784 ?_
    refine tt_iconst F dLW_law_786 ?_
    refine tt_iadd F dLW_law_787 ?_
    refine tt_sld F hX hbl hbA (by omega) (by omega) (by omega) dLW_law_788 ?_
    refine tt_aload_n F 1 rfl rfl dLW_law_789 ?_
    refine tt_iload F 5 rfl dLW_law_790 ?_
    refine tt_iconst F dLW_law_792 ?_
    refine tt_iadd F dLW_law_793 ?_
    refine tt_sld F hX hbl hbA (by omega) (by omega) (by omega) dLW_law_794 ?_
    refine tt_aload_n F 1 rfl rfl dLW_law_795 ?_
    refine tt_iload F 5 rfl dLW_law_796 ?_
    refine tt_iconst F dLW_law_798 ?_
    refine tt_iadd F dLW_law_799 ?_
    refine tt_sld F hX hbl hbA (by omega) (by omega) (by omega) dLW_law_800 ?_
    refine tt_cIV F (fun h => h) (As := [.int (iZ (scv xs (i + 1))), .int (iZ (scv xs (i + 2))), .int (iZ (scv xs (i + 3)))]) ((o, aJ cJ 1 f) :: (cW cI cZ a W D_ r sz co ro ho ac al sd lf sq hs rs ts rt_ hc li re ow tc cp ck wa qp qt qs lo sb lc cn ch sk)) 0 rfl rfl (n_mayM (hM := hM) (rM := rM) (tM := tM) (wM := wM) (mp := mp) (mk := mk) (wh := wh) (sM := sM) (hi := hi) (vS := vS) (cd := cd) (mn := mn) hg (scv_ir _ _) (scv_ir _ _) (scv_ir _ _) hv) (cwV 3 F.1.2.2.2.2 (gw_V wd844 wd845 wd846 wd53 wd847) rfl rfl rfl (by decide +kernel) ⟨(Nat.le_of_ble_eq_true rfl), (Nat.le_of_ble_eq_true rfl)⟩) rfl rfl rfl (Nat.le_of_ble_eq_true rfl) ⟨by show c0 + 1 + _ ≤ 601024; show c0 + 1 + 0 ≤ 601024; omega, by show s0 + 6 + 0 ≤ 7293000; omega⟩ dLW_law_801 (fun z2 w2 hp2 => ?_)
    refine tt_wid (k := c0 + 1) (n := s0 + 6) (by first | exact Nat.le_refl _ | (show c0 + 0 ≤ c0 + 1; omega)) (by first | exact Nat.le_refl _ | (show s0 + 0 ≤ s0 + 6; omega)) ?_
    subst hp2
    refine tt_istore F [(6, .int (iZ z2)), (5, .int (iZ 1)), (0, .ref b), (1, .ref (a 0)), (2, .ref (ad 0)), (3, .ref o), (4, .int (iZ i))] (by decide) rfl dLW_law_804 ?_
    refine tt_aload_n F 4 rfl rfl dLW_law_806 ?_
    refine tt_cOV F (As := []) _ 0 rfl rfl o_thrown (cwV 0 F.1.2.2.2.2 (gw_V wd744 wd745 wd746 wd53 wd747) rfl rfl rfl (by decide +kernel) ⟨(Nat.le_of_ble_eq_true rfl), (Nat.le_of_ble_eq_true rfl)⟩) rfl rfl rfl (Nat.le_of_ble_eq_true rfl) ⟨by show c0 + 1 ≤ 601024; omega, by show s0 + 6 ≤ 7293000; omega⟩ dLW_law_807 (fun v hv3 => ?_)
    subst hv3
    refine tt_iload F 1 rfl dLW_law_810 ?_
    refine tt_icmp_eq F 817 ⟨by omega, by omega⟩ ⟨by omega, by omega⟩ dLW_law_812 (by decide) (fun c812 => ?_) (fun c812 => ?_)
    · skip
      refine tt_iload F 1 rfl dLW_law_817 ?_
      refine tt_if_ne F 834 ⟨by omega, by omega⟩ dLW_law_819 (by decide) (fun c819 => ?_) (fun c819 => ?_)
      · skip
        refine tt_goto F 991 (by decide) dLW_law_834 ?_
        refine tt_sub [2, 3, 4, 5, 6] rfl ?_
        refine tt_comm ?_
        exact k _ ⟨_, _, _, _, _, _, _, _, _, _, _, _, _, _, _, _, _, _, _, _, _, _, _, _, _, _, _, _, _, _, _, _, _, _, rfl, hU, hR⟩
      · skip
        exact absurd c819 (by decide)
    · skip
      exact absurd rfl c812
  · skip
    refine tt_istore F [(5, .int (iZ 2)), (0, .ref b), (1, .ref (a 0)), (2, .ref (ad 0)), (3, .ref o), (4, .int (iZ i))] (by decide) rfl dLW_law_780 ?_
    refine tt_aload_n F 3 rfl rfl dLW_law_782 ?_
    refine tt_aload_n F 1 rfl rfl dLW_law_783 ?_
    refine tt_iload F 5 rfl dLW_law_784 ?_
    refine tt_iconst F dLW_law_786 ?_
    refine tt_iadd F dLW_law_787 ?_
    refine tt_sld F hX hbl hbA (by omega) (by omega) (by omega) dLW_law_788 ?_
    refine tt_aload_n F 1 rfl rfl dLW_law_789 ?_
    refine tt_iload F 5 rfl dLW_law_790 ?_
    refine tt_iconst F dLW_law_792 ?_
    refine tt_iadd F dLW_law_793 ?_
    refine tt_sld F hX hbl hbA (by omega) (by omega) (by omega) dLW_law_794 ?_
    refine tt_aload_n F 1 rfl rfl dLW_law_795 ?_
    refine tt_iload F 5 rfl dLW_law_796 ?_
    refine tt_iconst F dLW_law_798 ?_
    refine tt_iadd F dLW_law_799 ?_
    refine tt_sld F hX hbl hbA (by omega) (by omega) (by omega) dLW_law_800 ?_
    refine tt_cIV F (fun h => h) (As := [.int (iZ (scv xs (i + 1))), .int (iZ (scv xs (i + 2))), .int (iZ (scv xs (i + 3)))]) ((o, aJ cJ 1 f) :: (cW cI cZ a W D_ r sz co ro ho ac al sd lf sq hs rs ts rt_ hc li re ow tc cp ck wa qp qt qs lo sb lc cn ch sk)) 0 rfl rfl (f_mayM (hM := hM) (rM := rM) (tM := tM) (wM := wM) (mp := mp) (mk := mk) (wh := wh) (sM := sM) (hi := hi) (vS := vS) (cd := cd) (mn := mn) hg hv.1.1 hv.1.2 (by rw [hR.2.2.1]; exact hv.2)) (cwV 3 F.1.2.2.2.2 (gw_V wd844 wd845 wd846 wd53 wd847) rfl rfl rfl (by decide +kernel) ⟨(Nat.le_of_ble_eq_true rfl), (Nat.le_of_ble_eq_true rfl)⟩) rfl rfl rfl (Nat.le_of_ble_eq_true rfl) ⟨by show c0 + 1 + _ ≤ 601024; show c0 + 1 + 0 ≤ 601024; omega, by show s0 + 6 + 0 ≤ 7293000; omega⟩ dLW_law_801 (fun z2 w2 hp2 => ?_)
    refine tt_wid (k := c0 + 1) (n := s0 + 6) (by first | exact Nat.le_refl _ | (show c0 + 0 ≤ c0 + 1; omega)) (by first | exact Nat.le_refl _ | (show s0 + 0 ≤ s0 + 6; omega)) ?_
    subst hp2
    refine tt_istore F [(6, .int (iZ z2)), (5, .int (iZ 2)), (0, .ref b), (1, .ref (a 0)), (2, .ref (ad 0)), (3, .ref o), (4, .int (iZ i))] (by decide) rfl dLW_law_804 ?_
    refine tt_aload_n F 4 rfl rfl dLW_law_806 ?_
    refine tt_cOV F (As := []) _ 0 rfl rfl o_thrown (cwV 0 F.1.2.2.2.2 (gw_V wd744 wd745 wd746 wd53 wd747) rfl rfl rfl (by decide +kernel) ⟨(Nat.le_of_ble_eq_true rfl), (Nat.le_of_ble_eq_true rfl)⟩) rfl rfl rfl (Nat.le_of_ble_eq_true rfl) ⟨by show c0 + 1 ≤ 601024; omega, by show s0 + 6 ≤ 7293000; omega⟩ dLW_law_807 (fun v hv3 => ?_)
    subst hv3
    refine tt_iload F 1 rfl dLW_law_810 ?_
    refine tt_icmp_eq F 817 ⟨by omega, by omega⟩ ⟨by omega, by omega⟩ dLW_law_812 (by decide) (fun c812 => ?_) (fun c812 => ?_)
    · skip
      refine tt_iload F 1 rfl dLW_law_817 ?_
      refine tt_if_ne F 834 ⟨by omega, by omega⟩ dLW_law_819 (by decide) (fun c819 => ?_) (fun c819 => ?_)
      · skip
        refine tt_goto F 991 (by decide) dLW_law_834 ?_
        refine tt_sub [2, 3, 4, 5, 6] rfl ?_
        refine tt_comm ?_
        exact k _ ⟨_, _, _, _, _, _, _, _, _, _, _, _, _, _, _, _, _, _, _, _, _, _, _, _, _, _, _, _, _, _, _, _, _, _, rfl, hU, hR⟩
      · skip
        exact absurd c819 (by decide)
    · skip
      exact absurd rfl c812
set_option maxHeartbeats 4000000 in
set_option maxRecDepth 100000 in
theorem cs_forget {p : Program} {l : Launch} {e : Env} {s : State} {m : MethodId} {below : List Frame} {meth : Method} {c : Code} {Q : State → Prop} {cq : Cond} {D : va_G} {cI cZ cJ : ClassId} {SL : List zS} {A : Nat → Prop} {b L o aS : Nat} {xs : Nat → Int32} {ad : Nat → Nat} {a : Nat → Nat} {W D_ r sz : Int} {co ro ho ac al sd lf sq : Int → Int} {i : Int} {c0 s0 : Nat} (F : FX p s m #[Value.ref b] meth c cLW_law 7 (some .boolean) (cq :: gT) RLW D vwCl cI cZ cJ SL A) (hst : l.stackTraces = false) (hX : va_X b L xs s s.heap) (hbl : b < s.heap.size) (hbA : ¬ A b) (hL : L ≤ 2563) (hsp : SRx RRB ssL s) (hAo : ∀ q, q < s.heap.size → ¬ A q) (hG : GE W D_ r sz co ro ho ac al sd lf sq) (hsw : SL[1]? = some ("RollingBalls$Plan", "SETS_WITH", "[I", aS, 4, fun j : Nat => Value.int (iZ (SWv (j : Int))))) (hc0 : c0 ≤ 20000) (hs0 : s0 ≤ 100000) (hi : 3 ≤ i ∧ i ≤ (L : Int) - 5)
    (k : ∀ ws, LI cI cZ cJ a ad o W D_ r sz co ro ho ac al sd lf sq ws → TT p l e room_1 s m #[Value.ref b] below meth c D vwCl A 7 False Q 991 [(0, .ref b), (1, .ref (a 0)), (2, .ref (ad 0)), (3, .ref o), (4, .int (iZ i))] [] ws (c0 + 1) (s0 + 6)) (ws : va_W) (hI : LI cI cZ cJ a ad o W D_ r sz co ro ho ac al sd lf sq ws) : TT p l e room_1 s m #[Value.ref b] below meth c D vwCl A 7 False Q 837 [(0, .ref b), (1, .ref (a 0)), (2, .ref (ad 0)), (3, .ref o), (4, .int (iZ i))] [] ws (c0) (s0) := by
  obtain ⟨f, hs, rs, ts, rt_, hc, li, re, ow, tc, cp, ck, wa, qp, qt, qs, lo, sb, lc, cn, ch, sk, hM, rM, tM, wM, mp, mk, wh, sM, hi, vS, cd, mn, rfl, hU, hR⟩ := hI
  have hg : 1 ≤ W ∧ W ≤ 12 ∧ 1 ≤ D_ ∧ D_ ≤ 12 ∧ 1 ≤ r ∧ r ≤ 10 := hG.1
  refine tt_aload_n F 1 rfl rfl dLW_law_837 ?_
  refine tt_cIV F (fun h => h) (As := []) ((mW cI cZ ad W D_ r hM rM tM wM mp mk wh sM hi vS cd mn) ++ [(o, aJ cJ 1 f)]) 0 rfl rfl (c_forget (hs := hs) (rs := rs) (ts := ts) (rt_ := rt_) (hc := hc) (li := li) (re := re) (ow := ow) (tc := tc) (cp := cp) (ck := ck) (wa := wa) (qp := qp) (qt := qt) (qs := qs) (lo := lo) (sb := sb) (lc := lc) (cn := cn) (ch := ch) (sk := sk) hU) (cwV 0 F.1.2.2.2.2 (gw_V wd316 wd317 wd318 wd45 wd319) rfl rfl rfl (by decide +kernel) ⟨(Nat.le_of_ble_eq_true rfl), (Nat.le_of_ble_eq_true rfl)⟩) rfl rfl rfl (Nat.le_of_ble_eq_true rfl) ⟨by show c0 + _ ≤ 601024; show c0 + 0 ≤ 601024; omega, by show s0 + 0 ≤ 7293000; omega⟩ dLW_law_838 (fun z1 wc hp => ?_)
  refine tt_wid (k := c0 + 1) (n := s0 + 6) (by first | exact Nat.le_refl _ | (show c0 + 0 ≤ c0 + 1; omega)) (by first | exact Nat.le_refl _ | (show s0 + 0 ≤ s0 + 6; omega)) ?_
  refine tt_nrm (ws' := (mW cI cZ ad W D_ r hM rM tM wM mp mk wh sM hi vS cd mn) ++ ((o, aJ cJ 1 f) :: wc)) (Nat.le_refl _) (Nat.le_refl _) rfl ?_
  refine tt_comm ?_
  refine tt_aload_n F 2 rfl rfl dLW_law_841 ?_
  refine tt_cIV F (fun h => h) (As := []) ((o, aJ cJ 1 f) :: wc) 0 rfl rfl (c_forgetM (hM := hM) (rM := rM) (tM := tM) (wM := wM) (mp := mp) (mk := mk) (wh := wh) (sM := sM) (hi := hi) (vS := vS) (cd := cd) (mn := mn)) (cwV 0 F.1.2.2.2.2 (gw_V wd848 wd849 wd850 wd53 wd851) rfl rfl rfl (by decide +kernel) ⟨(Nat.le_of_ble_eq_true rfl), (Nat.le_of_ble_eq_true rfl)⟩) rfl rfl rfl (Nat.le_of_ble_eq_true rfl) ⟨by show c0 + 1 + _ ≤ 601024; show c0 + 1 + 0 ≤ 601024; omega, by show s0 + 6 + 0 ≤ 7293000; omega⟩ dLW_law_842 (fun z2 w2 hp2 => ?_)
  refine tt_wid (k := c0 + 1) (n := s0 + 6) (by first | exact Nat.le_refl _ | (show c0 + 0 ≤ c0 + 1; omega)) (by first | exact Nat.le_refl _ | (show s0 + 0 ≤ s0 + 6; omega)) ?_
  obtain ⟨hz2, rfl⟩ := hp2
  obtain ⟨⟨hz1, rfl⟩, hU'⟩ := hp
  have heq : z1 = z2 := by rw [hz1, hz2, hR.2.2.1]
  refine tt_eqT F 991 heq dLW_law_845 (by decide) ?_
  refine tt_sub [0, 1, 2, 3, 4] rfl ?_
  refine tt_comm ?_
  exact k _ ⟨_, _, _, _, _, _, _, _, _, _, _, _, _, _, _, _, _, _, _, _, _, _, _, _, _, _, _, _, _, _, _, _, _, _, rfl, hU', rel_forget hR⟩
set_option maxHeartbeats 4000000 in
set_option maxRecDepth 100000 in
theorem cs_want {p : Program} {l : Launch} {e : Env} {s : State} {m : MethodId} {below : List Frame} {meth : Method} {c : Code} {Q : State → Prop} {cq : Cond} {D : va_G} {cI cZ cJ : ClassId} {SL : List zS} {A : Nat → Prop} {b L o aS : Nat} {xs : Nat → Int32} {ad : Nat → Nat} {a : Nat → Nat} {W D_ r sz : Int} {co ro ho ac al sd lf sq : Int → Int} {i : Int} {c0 s0 : Nat} (F : FX p s m #[Value.ref b] meth c cLW_law 7 (some .boolean) (cq :: gT) RLW D vwCl cI cZ cJ SL A) (hst : l.stackTraces = false) (hX : va_X b L xs s s.heap) (hbl : b < s.heap.size) (hbA : ¬ A b) (hL : L ≤ 2563) (hsp : SRx RRB ssL s) (hAo : ∀ q, q < s.heap.size → ¬ A q) (hG : GE W D_ r sz co ro ho ac al sd lf sq) (hsw : SL[1]? = some ("RollingBalls$Plan", "SETS_WITH", "[I", aS, 4, fun j : Nat => Value.int (iZ (SWv (j : Int))))) (hc0 : c0 ≤ 20000) (hs0 : s0 ≤ 100000) (hi : 3 ≤ i ∧ i ≤ (L : Int) - 5)
    (k : ∀ ws, LI cI cZ cJ a ad o W D_ r sz co ro ho ac al sd lf sq ws → TT p l e room_1 s m #[Value.ref b] below meth c D vwCl A 7 False Q 991 [(0, .ref b), (1, .ref (a 0)), (2, .ref (ad 0)), (3, .ref o), (4, .int (iZ i))] [] ws (c0 + 1) (s0 + 6)) (ws : va_W) (hI : LI cI cZ cJ a ad o W D_ r sz co ro ho ac al sd lf sq ws) : TT p l e room_1 s m #[Value.ref b] below meth c D vwCl A 7 False Q 850 [(0, .ref b), (1, .ref (a 0)), (2, .ref (ad 0)), (3, .ref o), (4, .int (iZ i))] [] ws (c0) (s0) := by
  obtain ⟨f, hs, rs, ts, rt_, hc, li, re, ow, tc, cp, ck, wa, qp, qt, qs, lo, sb, lc, cn, ch, sk, hM, rM, tM, wM, mp, mk, wh, sM, hi, vS, cd, mn, rfl, hU, hR⟩ := hI
  have hg : 1 ≤ W ∧ W ≤ 12 ∧ 1 ≤ D_ ∧ D_ ≤ 12 ∧ 1 ≤ r ∧ r ≤ 10 := hG.1
  refine tt_aload_n F 1 rfl rfl dLW_law_850 ?_
  refine tt_aload_n F 0 rfl rfl dLW_law_851 ?_
  refine tt_iload F 4 rfl dLW_law_852 ?_
  refine tt_iconst F dLW_law_854 ?_
  refine tt_iadd F dLW_law_855 ?_
  refine tt_sld F hX hbl hbA (by omega) (by omega) (by omega) dLW_law_856 ?_
  refine tt_aload_n F 0 rfl rfl dLW_law_857 ?_
  refine tt_iload F 4 rfl dLW_law_858 ?_
  refine tt_iconst F dLW_law_860 ?_
  refine tt_iadd F dLW_law_861 ?_
  refine tt_sld F hX hbl hbA (by omega) (by omega) (by omega) dLW_law_862 ?_
  refine tt_aload_n F 0 rfl rfl dLW_law_863 ?_
  refine tt_iload F 4 rfl dLW_law_864 ?_
  refine tt_iconst F dLW_law_866 ?_
  refine tt_iadd F dLW_law_867 ?_
  refine tt_sld F hX hbl hbA (by omega) (by omega) (by omega) dLW_law_868 ?_
  refine tt_if_eq F 876 (scv_ir _ _) dLW_law_869 (by decide) (fun c869 => ?_) (fun c869 => ?_)
  · skip
    refine tt_iconst F dLW_law_876 ?_
    refine tt_aload_n F 3 rfl rfl dLW_law_877 ?_
    refine tk_call F (fun h => h) hsp hAo (As := [.ref (a 0), .int (iZ (scv xs (i + 1))), .int (iZ (scv xs (i + 2))), .int (iZ 0), .ref o]) (mW cI cZ ad W D_ r hM rM tM wM mp mk wh sM hi vS cd mn) (k_want (f := f) (hs := hs) (rs := rs) (ts := ts) (rt_ := rt_) (hc := hc) (li := li) (re := re) (ow := ow) (tc := tc) (cp := cp) (ck := ck) (wa := wa) (qp := qp) (qt := qt) (qs := qs) (lo := lo) (sb := sb) (lc := lc) (cn := cn) (ch := ch) (sk := sk) hst hG hU (scv_ir _ _) (scv_ir _ _) ⟨by decide, by decide⟩ (Or.inl rfl)) (callK_of 5 F.1.2.2.2.2 (gw_S wd682 wd683 wd44 wd684) rfl (by decide +kernel) ⟨(Nat.le_of_ble_eq_true rfl), (Nat.le_of_ble_eq_true rfl)⟩) rfl rfl rfl (Nat.le_of_ble_eq_true rfl) ⟨by show c0 + 1 ≤ 601024; omega, by show s0 + 6 ≤ 7293000; omega⟩ dLW_law_878 (fun k_ w1 hp => ?_)
    refine tt_wid (k := c0 + 1) (n := s0 + 6) (by first | exact Nat.le_refl _ | (show c0 + 0 ≤ c0 + 1; omega)) (by first | exact Nat.le_refl _ | (show s0 + 0 ≤ s0 + 6; omega)) ?_
    refine tt_comm ?_
    rcases hp with ⟨hv, rfl, z1, wc, rfl, hp⟩ | ⟨hv, rfl, rfl⟩
    · skip
      refine tt_istore F [(5, .int (iZ 0)), (0, .ref b), (1, .ref (a 0)), (2, .ref (ad 0)), (3, .ref o), (4, .int (iZ i))] (by decide) rfl dLW_law_881 ?_
      refine tt_aload_n F 3 rfl rfl dLW_law_883 ?_
      refine tt_aload_n F 1 rfl rfl dLW_law_884 ?_
      refine tt_iload F 5 rfl dLW_law_885 ?_
      refine tt_iconst F dLW_law_887 ?_
      refine tt_iadd F dLW_law_888 ?_
      refine tt_sld F hX hbl hbA (by omega) (by omega) (by omega) dLW_law_889 ?_
      refine tt_aload_n F 1 rfl rfl dLW_law_890 ?_
      refine tt_iload F 5 rfl dLW_law_891 ?_
      refine tt_iconst F dLW_law_893 ?_
      refine tt_iadd F dLW_law_894 ?_
      refine tt_sld F hX hbl hbA (by omega) (by omega) (by omega) dLW_law_895 ?_
      refine tt_aload_n F 1 rfl rfl dLW_law_896 ?_
      refine tt_iload F 5 rfl dLW_law_897 ?_
      refine tt_iconst F dLW_law_899 ?_
      refine tt_iadd F dLW_law_900 ?_
      refine tt_sld F hX hbl hbA (by omega) (by omega) (by omega) dLW_law_901 ?_
      refine tt_if_eq F 909 (scv_ir _ _) dLW_law_902 (by decide) (fun c902 => ?_) (fun c902 => ?_)
      · skip
        refine tt_iconst F dLW_law_909 ?_
        refine tt_cIV F (fun h => h) (As := [.int (iZ (scv xs (i + 1))), .int (iZ (scv xs (i + 2))), .int (iZ 0)]) ((o, aJ cJ 1 (zu f 0 (nz z1))) :: wc) 0 rfl rfl (c_wantM (hM := hM) (rM := rM) (tM := tM) (wM := wM) (mp := mp) (mk := mk) (wh := wh) (sM := sM) (hi := hi) (vS := vS) (cd := cd) (mn := mn) hg hv (Or.inl rfl) (rel_wM hR _ (by omega) (by omega))) (cwV 3 F.1.2.2.2.2 (gw_V wd852 wd853 wd854 wd53 wd855) rfl rfl rfl (by decide +kernel) ⟨(Nat.le_of_ble_eq_true rfl), (Nat.le_of_ble_eq_true rfl)⟩) rfl rfl rfl (Nat.le_of_ble_eq_true rfl) ⟨by show c0 + 1 + _ ≤ 601024; show c0 + 1 + 0 ≤ 601024; omega, by show s0 + 6 + 0 ≤ 7293000; omega⟩ dLW_law_910 (fun z2 w2 hp2 => ?_)
        refine tt_wid (k := c0 + 1) (n := s0 + 6) (by first | exact Nat.le_refl _ | (show c0 + 0 ≤ c0 + 1; omega)) (by first | exact Nat.le_refl _ | (show s0 + 0 ≤ s0 + 6; omega)) ?_
        obtain ⟨hz2, rfl⟩ := hp2
        obtain ⟨⟨hz1, rfl⟩, hU'⟩ := hp
        have heq : z1 = z2 := by rw [hz1, hz2]; exact (hR.1 _ _ hv.1.1 hv.1.2 hv.2.1 hv.2.2).2.2.symm
        refine tt_istore F [(6, .int (iZ z2)), (5, .int (iZ 0)), (0, .ref b), (1, .ref (a 0)), (2, .ref (ad 0)), (3, .ref o), (4, .int (iZ i))] (by decide) rfl dLW_law_913 ?_
        refine tt_aload_n F 4 rfl rfl dLW_law_915 ?_
        refine tt_cOV F (As := []) _ 0 rfl rfl o_thrown (cwV 0 F.1.2.2.2.2 (gw_V wd744 wd745 wd746 wd53 wd747) rfl rfl rfl (by decide +kernel) ⟨(Nat.le_of_ble_eq_true rfl), (Nat.le_of_ble_eq_true rfl)⟩) rfl rfl rfl (Nat.le_of_ble_eq_true rfl) ⟨by show c0 + 1 ≤ 601024; omega, by show s0 + 6 ≤ 7293000; omega⟩ dLW_law_916 (fun v hv3 => ?_)
        subst hv3
        refine tt_iload F 1 rfl dLW_law_919 ?_
        refine tt_icmp_eq F 926 ⟨by omega, by omega⟩ ⟨by omega, by omega⟩ dLW_law_921 (by decide) (fun c921 => ?_) (fun c921 => ?_)
        · skip
          refine tt_iload F 1 rfl dLW_law_926 ?_
          refine tt_if_ne F 950 ⟨by omega, by omega⟩ dLW_law_928 (by decide) (fun c928 => ?_) (fun c928 => ?_)
          · skip
            exact absurd rfl c928
          · skip
            refine tt_aload_n F 5 rfl rfl dLW_law_931 ?_
            refine tt_iconst F dLW_law_932 ?_
            refine tt_jald F 0 rfl (by omega) (by omega) (by omega) dLW_law_933 ?_
            refine tt_iload F 0 rfl dLW_law_934 ?_
            refine tt_if_eq F 943 (by have := rel_wM hR (12 * (scv xs (i + 2)) + (scv xs (i + 1))) (by omega) (by omega); exact ⟨by omega, by omega⟩) dLW_law_936 (by decide) (fun c936 => ?_) (fun c936 => ?_)
            · skip
              have hn1 : nz z1 = 0 := by rw [heq, c936]; decide
              refine tt_lconst F (z := 0) (by decide) dLW_law_943 ?_
              refine tt_lcmp F (by rw [zu_s]; exact nz_ir _) (by decide) dLW_law_944 (fun z944 hr944 hz944 => ?_)
              refine tt_if_eq F 950 ⟨by omega, by omega⟩ dLW_law_945 (by decide) (fun c945 => ?_) (fun c945 => ?_)
              · skip
                refine tt_goto F 991 (by decide) dLW_law_950 ?_
                refine tt_sub [2, 3, 4, 5, 6] rfl ?_
                refine tt_comm ?_
                exact k _ ⟨_, _, _, _, _, _, _, _, _, _, _, _, _, _, _, _, _, _, _, _, _, _, _, _, _, _, _, _, _, _, _, _, _, _, rfl, hU', rel_w hg.2.1 hg.2.2.2.1 hv (Or.inl rfl) hR⟩
              · skip
                exact absurd (hz944.mpr (by rw [zu_s, hn1])) c945
            · skip
              have hz3 : z2 = 1 := by have := rel_wM hR (12 * (scv xs (i + 2)) + (scv xs (i + 1))) (by omega) (by omega); omega
              have hn1 : nz z1 = 1 := by rw [heq, hz3]; decide
              refine tt_lconst F (z := 1) (by decide) dLW_law_939 ?_
              refine tt_goto F 944 (by decide) dLW_law_940 ?_
              refine tt_lcmp F (by rw [zu_s]; exact nz_ir _) (by decide) dLW_law_944 (fun z944 hr944 hz944 => ?_)
              refine tt_if_eq F 950 ⟨by omega, by omega⟩ dLW_law_945 (by decide) (fun c945 => ?_) (fun c945 => ?_)
              · skip
                refine tt_goto F 991 (by decide) dLW_law_950 ?_
                refine tt_sub [2, 3, 4, 5, 6] rfl ?_
                refine tt_comm ?_
                exact k _ ⟨_, _, _, _, _, _, _, _, _, _, _, _, _, _, _, _, _, _, _, _, _, _, _, _, _, _, _, _, _, _, _, _, _, _, rfl, hU', rel_w hg.2.1 hg.2.2.2.1 hv (Or.inl rfl) hR⟩
              · skip
                exact absurd (hz944.mpr (by rw [zu_s, hn1])) c945
        · skip
          exact absurd rfl c921
      · skip
        exact absurd c869 c902
    · skip
      refine tt_istore F [(5, .int (iZ 1)), (0, .ref b), (1, .ref (a 0)), (2, .ref (ad 0)), (3, .ref o), (4, .int (iZ i))] (by decide) rfl dLW_law_881 ?_
      refine tt_aload_n F 3 rfl rfl dLW_law_883 ?_
      refine tt_aload_n F 1 rfl rfl dLW_law_884 ?_
      refine tt_iload F 5 rfl dLW_law_885 ?_
      refine tt_iconst F dLW_law_887 ?_
      refine tt_iadd F dLW_law_888 ?_
      refine tt_sld F hX hbl hbA (by omega) (by omega) (by omega) dLW_law_889 ?_
      refine tt_aload_n F 1 rfl rfl dLW_law_890 ?_
      refine tt_iload F 5 rfl dLW_law_891 ?_
      refine tt_iconst F dLW_law_893 ?_
      refine tt_iadd F dLW_law_894 ?_
      refine tt_sld F hX hbl hbA (by omega) (by omega) (by omega) dLW_law_895 ?_
      refine tt_aload_n F 1 rfl rfl dLW_law_896 ?_
      refine tt_iload F 5 rfl dLW_law_897 ?_
      refine tt_iconst F dLW_law_899 ?_
      refine tt_iadd F dLW_law_900 ?_
      refine tt_sld F hX hbl hbA (by omega) (by omega) (by omega) dLW_law_901 ?_
      refine tt_if_eq F 909 (scv_ir _ _) dLW_law_902 (by decide) (fun c902 => ?_) (fun c902 => ?_)
      · skip
        refine tt_iconst F dLW_law_909 ?_
        refine tt_cIV F (fun h => h) (As := [.int (iZ (scv xs (i + 1))), .int (iZ (scv xs (i + 2))), .int (iZ 0)]) ((o, aJ cJ 1 f) :: (cW cI cZ a W D_ r sz co ro ho ac al sd lf sq hs rs ts rt_ hc li re ow tc cp ck wa qp qt qs lo sb lc cn ch sk)) 0 rfl rfl (n_wantM (hM := hM) (rM := rM) (tM := tM) (wM := wM) (mp := mp) (mk := mk) (wh := wh) (sM := sM) (hi := hi) (vS := vS) (cd := cd) (mn := mn) hg (scv_ir _ _) (scv_ir _ _) hv) (cwV 3 F.1.2.2.2.2 (gw_V wd852 wd853 wd854 wd53 wd855) rfl rfl rfl (by decide +kernel) ⟨(Nat.le_of_ble_eq_true rfl), (Nat.le_of_ble_eq_true rfl)⟩) rfl rfl rfl (Nat.le_of_ble_eq_true rfl) ⟨by show c0 + 1 + _ ≤ 601024; show c0 + 1 + 0 ≤ 601024; omega, by show s0 + 6 + 0 ≤ 7293000; omega⟩ dLW_law_910 (fun z2 w2 hp2 => ?_)
        refine tt_wid (k := c0 + 1) (n := s0 + 6) (by first | exact Nat.le_refl _ | (show c0 + 0 ≤ c0 + 1; omega)) (by first | exact Nat.le_refl _ | (show s0 + 0 ≤ s0 + 6; omega)) ?_
        subst hp2
        refine tt_istore F [(6, .int (iZ z2)), (5, .int (iZ 1)), (0, .ref b), (1, .ref (a 0)), (2, .ref (ad 0)), (3, .ref o), (4, .int (iZ i))] (by decide) rfl dLW_law_913 ?_
        refine tt_aload_n F 4 rfl rfl dLW_law_915 ?_
        refine tt_cOV F (As := []) _ 0 rfl rfl o_thrown (cwV 0 F.1.2.2.2.2 (gw_V wd744 wd745 wd746 wd53 wd747) rfl rfl rfl (by decide +kernel) ⟨(Nat.le_of_ble_eq_true rfl), (Nat.le_of_ble_eq_true rfl)⟩) rfl rfl rfl (Nat.le_of_ble_eq_true rfl) ⟨by show c0 + 1 ≤ 601024; omega, by show s0 + 6 ≤ 7293000; omega⟩ dLW_law_916 (fun v hv3 => ?_)
        subst hv3
        refine tt_iload F 1 rfl dLW_law_919 ?_
        refine tt_icmp_eq F 926 ⟨by omega, by omega⟩ ⟨by omega, by omega⟩ dLW_law_921 (by decide) (fun c921 => ?_) (fun c921 => ?_)
        · skip
          refine tt_iload F 1 rfl dLW_law_926 ?_
          refine tt_if_ne F 950 ⟨by omega, by omega⟩ dLW_law_928 (by decide) (fun c928 => ?_) (fun c928 => ?_)
          · skip
            refine tt_goto F 991 (by decide) dLW_law_950 ?_
            refine tt_sub [2, 3, 4, 5, 6] rfl ?_
            refine tt_comm ?_
            exact k _ ⟨_, _, _, _, _, _, _, _, _, _, _, _, _, _, _, _, _, _, _, _, _, _, _, _, _, _, _, _, _, _, _, _, _, _, rfl, hU, hR⟩
          · skip
            exact absurd c928 (by decide)
        · skip
          exact absurd rfl c921
      · skip
        exact absurd c869 c902
  · skip
    refine tt_iconst F dLW_law_872 ?_
    refine tt_goto F 877 (by decide) dLW_law_873 ?_
    refine tt_aload_n F 3 rfl rfl dLW_law_877 ?_
    refine tk_call F (fun h => h) hsp hAo (As := [.ref (a 0), .int (iZ (scv xs (i + 1))), .int (iZ (scv xs (i + 2))), .int (iZ 1), .ref o]) (mW cI cZ ad W D_ r hM rM tM wM mp mk wh sM hi vS cd mn) (k_want (f := f) (hs := hs) (rs := rs) (ts := ts) (rt_ := rt_) (hc := hc) (li := li) (re := re) (ow := ow) (tc := tc) (cp := cp) (ck := ck) (wa := wa) (qp := qp) (qt := qt) (qs := qs) (lo := lo) (sb := sb) (lc := lc) (cn := cn) (ch := ch) (sk := sk) hst hG hU (scv_ir _ _) (scv_ir _ _) ⟨by decide, by decide⟩ (Or.inr rfl)) (callK_of 5 F.1.2.2.2.2 (gw_S wd682 wd683 wd44 wd684) rfl (by decide +kernel) ⟨(Nat.le_of_ble_eq_true rfl), (Nat.le_of_ble_eq_true rfl)⟩) rfl rfl rfl (Nat.le_of_ble_eq_true rfl) ⟨by show c0 + 1 ≤ 601024; omega, by show s0 + 6 ≤ 7293000; omega⟩ dLW_law_878 (fun k_ w1 hp => ?_)
    refine tt_wid (k := c0 + 1) (n := s0 + 6) (by first | exact Nat.le_refl _ | (show c0 + 0 ≤ c0 + 1; omega)) (by first | exact Nat.le_refl _ | (show s0 + 0 ≤ s0 + 6; omega)) ?_
    refine tt_comm ?_
    rcases hp with ⟨hv, rfl, z1, wc, rfl, hp⟩ | ⟨hv, rfl, rfl⟩
    · skip
      refine tt_istore F [(5, .int (iZ 0)), (0, .ref b), (1, .ref (a 0)), (2, .ref (ad 0)), (3, .ref o), (4, .int (iZ i))] (by decide) rfl dLW_law_881 ?_
      refine tt_aload_n F 3 rfl rfl dLW_law_883 ?_
      refine tt_aload_n F 1 rfl rfl dLW_law_884 ?_
      refine tt_iload F 5 rfl dLW_law_885 ?_
      refine tt_iconst F dLW_law_887 ?_
      refine tt_iadd F dLW_law_888 ?_
      refine tt_sld F hX hbl hbA (by omega) (by omega) (by omega) dLW_law_889 ?_
      refine tt_aload_n F 1 rfl rfl dLW_law_890 ?_
      refine tt_iload F 5 rfl dLW_law_891 ?_
      refine tt_iconst F dLW_law_893 ?_
      refine tt_iadd F dLW_law_894 ?_
      refine tt_sld F hX hbl hbA (by omega) (by omega) (by omega) dLW_law_895 ?_
      refine tt_aload_n F 1 rfl rfl dLW_law_896 ?_
      refine tt_iload F 5 rfl dLW_law_897 ?_
      refine tt_iconst F dLW_law_899 ?_
      refine tt_iadd F dLW_law_900 ?_
      refine tt_sld F hX hbl hbA (by omega) (by omega) (by omega) dLW_law_901 ?_
      refine tt_if_eq F 909 (scv_ir _ _) dLW_law_902 (by decide) (fun c902 => ?_) (fun c902 => ?_)
      · skip
        exact absurd c902 c869
      · skip
        refine tt_iconst F dLW_law_905 ?_
        refine tt_goto F 910 (by decide) dLW_law_906 ?_
        refine tt_cIV F (fun h => h) (As := [.int (iZ (scv xs (i + 1))), .int (iZ (scv xs (i + 2))), .int (iZ 1)]) ((o, aJ cJ 1 (zu f 0 (nz z1))) :: wc) 0 rfl rfl (c_wantM (hM := hM) (rM := rM) (tM := tM) (wM := wM) (mp := mp) (mk := mk) (wh := wh) (sM := sM) (hi := hi) (vS := vS) (cd := cd) (mn := mn) hg hv (Or.inr rfl) (rel_wM hR _ (by omega) (by omega))) (cwV 3 F.1.2.2.2.2 (gw_V wd852 wd853 wd854 wd53 wd855) rfl rfl rfl (by decide +kernel) ⟨(Nat.le_of_ble_eq_true rfl), (Nat.le_of_ble_eq_true rfl)⟩) rfl rfl rfl (Nat.le_of_ble_eq_true rfl) ⟨by show c0 + 1 + _ ≤ 601024; show c0 + 1 + 0 ≤ 601024; omega, by show s0 + 6 + 0 ≤ 7293000; omega⟩ dLW_law_910 (fun z2 w2 hp2 => ?_)
        refine tt_wid (k := c0 + 1) (n := s0 + 6) (by first | exact Nat.le_refl _ | (show c0 + 0 ≤ c0 + 1; omega)) (by first | exact Nat.le_refl _ | (show s0 + 0 ≤ s0 + 6; omega)) ?_
        obtain ⟨hz2, rfl⟩ := hp2
        obtain ⟨⟨hz1, rfl⟩, hU'⟩ := hp
        have heq : z1 = z2 := by rw [hz1, hz2]; exact (hR.1 _ _ hv.1.1 hv.1.2 hv.2.1 hv.2.2).2.2.symm
        refine tt_istore F [(6, .int (iZ z2)), (5, .int (iZ 0)), (0, .ref b), (1, .ref (a 0)), (2, .ref (ad 0)), (3, .ref o), (4, .int (iZ i))] (by decide) rfl dLW_law_913 ?_
        refine tt_aload_n F 4 rfl rfl dLW_law_915 ?_
        refine tt_cOV F (As := []) _ 0 rfl rfl o_thrown (cwV 0 F.1.2.2.2.2 (gw_V wd744 wd745 wd746 wd53 wd747) rfl rfl rfl (by decide +kernel) ⟨(Nat.le_of_ble_eq_true rfl), (Nat.le_of_ble_eq_true rfl)⟩) rfl rfl rfl (Nat.le_of_ble_eq_true rfl) ⟨by show c0 + 1 ≤ 601024; omega, by show s0 + 6 ≤ 7293000; omega⟩ dLW_law_916 (fun v hv3 => ?_)
        subst hv3
        refine tt_iload F 1 rfl dLW_law_919 ?_
        refine tt_icmp_eq F 926 ⟨by omega, by omega⟩ ⟨by omega, by omega⟩ dLW_law_921 (by decide) (fun c921 => ?_) (fun c921 => ?_)
        · skip
          refine tt_iload F 1 rfl dLW_law_926 ?_
          refine tt_if_ne F 950 ⟨by omega, by omega⟩ dLW_law_928 (by decide) (fun c928 => ?_) (fun c928 => ?_)
          · skip
            exact absurd rfl c928
          · skip
            refine tt_aload_n F 5 rfl rfl dLW_law_931 ?_
            refine tt_iconst F dLW_law_932 ?_
            refine tt_jald F 0 rfl (by omega) (by omega) (by omega) dLW_law_933 ?_
            refine tt_iload F 0 rfl dLW_law_934 ?_
            refine tt_if_eq F 943 (by have := rel_wM hR (12 * (scv xs (i + 2)) + (scv xs (i + 1))) (by omega) (by omega); exact ⟨by omega, by omega⟩) dLW_law_936 (by decide) (fun c936 => ?_) (fun c936 => ?_)
            · skip
              have hn1 : nz z1 = 0 := by rw [heq, c936]; decide
              refine tt_lconst F (z := 0) (by decide) dLW_law_943 ?_
              refine tt_lcmp F (by rw [zu_s]; exact nz_ir _) (by decide) dLW_law_944 (fun z944 hr944 hz944 => ?_)
              refine tt_if_eq F 950 ⟨by omega, by omega⟩ dLW_law_945 (by decide) (fun c945 => ?_) (fun c945 => ?_)
              · skip
                refine tt_goto F 991 (by decide) dLW_law_950 ?_
                refine tt_sub [2, 3, 4, 5, 6] rfl ?_
                refine tt_comm ?_
                exact k _ ⟨_, _, _, _, _, _, _, _, _, _, _, _, _, _, _, _, _, _, _, _, _, _, _, _, _, _, _, _, _, _, _, _, _, _, rfl, hU', rel_w hg.2.1 hg.2.2.2.1 hv (Or.inr rfl) hR⟩
              · skip
                exact absurd (hz944.mpr (by rw [zu_s, hn1])) c945
            · skip
              have hz3 : z2 = 1 := by have := rel_wM hR (12 * (scv xs (i + 2)) + (scv xs (i + 1))) (by omega) (by omega); omega
              have hn1 : nz z1 = 1 := by rw [heq, hz3]; decide
              refine tt_lconst F (z := 1) (by decide) dLW_law_939 ?_
              refine tt_goto F 944 (by decide) dLW_law_940 ?_
              refine tt_lcmp F (by rw [zu_s]; exact nz_ir _) (by decide) dLW_law_944 (fun z944 hr944 hz944 => ?_)
              refine tt_if_eq F 950 ⟨by omega, by omega⟩ dLW_law_945 (by decide) (fun c945 => ?_) (fun c945 => ?_)
              · skip
                refine tt_goto F 991 (by decide) dLW_law_950 ?_
                refine tt_sub [2, 3, 4, 5, 6] rfl ?_
                refine tt_comm ?_
                exact k _ ⟨_, _, _, _, _, _, _, _, _, _, _, _, _, _, _, _, _, _, _, _, _, _, _, _, _, _, _, _, _, _, _, _, _, _, rfl, hU', rel_w hg.2.1 hg.2.2.2.1 hv (Or.inr rfl) hR⟩
              · skip
                exact absurd (hz944.mpr (by rw [zu_s, hn1])) c945
        · skip
          exact absurd rfl c921
    · skip
      refine tt_istore F [(5, .int (iZ 1)), (0, .ref b), (1, .ref (a 0)), (2, .ref (ad 0)), (3, .ref o), (4, .int (iZ i))] (by decide) rfl dLW_law_881 ?_
      refine tt_aload_n F 3 rfl rfl dLW_law_883 ?_
      refine tt_aload_n F 1 rfl rfl dLW_law_884 ?_
      refine tt_iload F 5 rfl dLW_law_885 ?_
      refine tt_iconst F dLW_law_887 ?_
      refine tt_iadd F dLW_law_888 ?_
      refine tt_sld F hX hbl hbA (by omega) (by omega) (by omega) dLW_law_889 ?_
      refine tt_aload_n F 1 rfl rfl dLW_law_890 ?_
      refine tt_iload F 5 rfl dLW_law_891 ?_
      refine tt_iconst F dLW_law_893 ?_
      refine tt_iadd F dLW_law_894 ?_
      refine tt_sld F hX hbl hbA (by omega) (by omega) (by omega) dLW_law_895 ?_
      refine tt_aload_n F 1 rfl rfl dLW_law_896 ?_
      refine tt_iload F 5 rfl dLW_law_897 ?_
      refine tt_iconst F dLW_law_899 ?_
      refine tt_iadd F dLW_law_900 ?_
      refine tt_sld F hX hbl hbA (by omega) (by omega) (by omega) dLW_law_901 ?_
      refine tt_if_eq F 909 (scv_ir _ _) dLW_law_902 (by decide) (fun c902 => ?_) (fun c902 => ?_)
      · skip
        exact absurd c902 c869
      · skip
        refine tt_iconst F dLW_law_905 ?_
        refine tt_goto F 910 (by decide) dLW_law_906 ?_
        refine tt_cIV F (fun h => h) (As := [.int (iZ (scv xs (i + 1))), .int (iZ (scv xs (i + 2))), .int (iZ 1)]) ((o, aJ cJ 1 f) :: (cW cI cZ a W D_ r sz co ro ho ac al sd lf sq hs rs ts rt_ hc li re ow tc cp ck wa qp qt qs lo sb lc cn ch sk)) 0 rfl rfl (n_wantM (hM := hM) (rM := rM) (tM := tM) (wM := wM) (mp := mp) (mk := mk) (wh := wh) (sM := sM) (hi := hi) (vS := vS) (cd := cd) (mn := mn) hg (scv_ir _ _) (scv_ir _ _) hv) (cwV 3 F.1.2.2.2.2 (gw_V wd852 wd853 wd854 wd53 wd855) rfl rfl rfl (by decide +kernel) ⟨(Nat.le_of_ble_eq_true rfl), (Nat.le_of_ble_eq_true rfl)⟩) rfl rfl rfl (Nat.le_of_ble_eq_true rfl) ⟨by show c0 + 1 + _ ≤ 601024; show c0 + 1 + 0 ≤ 601024; omega, by show s0 + 6 + 0 ≤ 7293000; omega⟩ dLW_law_910 (fun z2 w2 hp2 => ?_)
        refine tt_wid (k := c0 + 1) (n := s0 + 6) (by first | exact Nat.le_refl _ | (show c0 + 0 ≤ c0 + 1; omega)) (by first | exact Nat.le_refl _ | (show s0 + 0 ≤ s0 + 6; omega)) ?_
        subst hp2
        refine tt_istore F [(6, .int (iZ z2)), (5, .int (iZ 1)), (0, .ref b), (1, .ref (a 0)), (2, .ref (ad 0)), (3, .ref o), (4, .int (iZ i))] (by decide) rfl dLW_law_913 ?_
        refine tt_aload_n F 4 rfl rfl dLW_law_915 ?_
        refine tt_cOV F (As := []) _ 0 rfl rfl o_thrown (cwV 0 F.1.2.2.2.2 (gw_V wd744 wd745 wd746 wd53 wd747) rfl rfl rfl (by decide +kernel) ⟨(Nat.le_of_ble_eq_true rfl), (Nat.le_of_ble_eq_true rfl)⟩) rfl rfl rfl (Nat.le_of_ble_eq_true rfl) ⟨by show c0 + 1 ≤ 601024; omega, by show s0 + 6 ≤ 7293000; omega⟩ dLW_law_916 (fun v hv3 => ?_)
        subst hv3
        refine tt_iload F 1 rfl dLW_law_919 ?_
        refine tt_icmp_eq F 926 ⟨by omega, by omega⟩ ⟨by omega, by omega⟩ dLW_law_921 (by decide) (fun c921 => ?_) (fun c921 => ?_)
        · skip
          refine tt_iload F 1 rfl dLW_law_926 ?_
          refine tt_if_ne F 950 ⟨by omega, by omega⟩ dLW_law_928 (by decide) (fun c928 => ?_) (fun c928 => ?_)
          · skip
            refine tt_goto F 991 (by decide) dLW_law_950 ?_
            refine tt_sub [2, 3, 4, 5, 6] rfl ?_
            refine tt_comm ?_
            exact k _ ⟨_, _, _, _, _, _, _, _, _, _, _, _, _, _, _, _, _, _, _, _, _, _, _, _, _, _, _, _, _, _, _, _, _, _, rfl, hU, hR⟩
          · skip
            exact absurd c928 (by decide)
        · skip
          exact absurd rfl c921
set_option maxHeartbeats 4000000 in
set_option maxRecDepth 100000 in
theorem cs_choose {p : Program} {l : Launch} {e : Env} {s : State} {m : MethodId} {below : List Frame} {meth : Method} {c : Code} {Q : State → Prop} {cq : Cond} {D : va_G} {cI cZ cJ : ClassId} {SL : List zS} {A : Nat → Prop} {b L o aS : Nat} {xs : Nat → Int32} {ad : Nat → Nat} {a : Nat → Nat} {W D_ r sz : Int} {co ro ho ac al sd lf sq : Int → Int} {i : Int} {c0 s0 : Nat} (F : FX p s m #[Value.ref b] meth c cLW_law 7 (some .boolean) (cq :: gT) RLW D vwCl cI cZ cJ SL A) (hst : l.stackTraces = false) (hX : va_X b L xs s s.heap) (hbl : b < s.heap.size) (hbA : ¬ A b) (hL : L ≤ 2563) (hsp : SRx RRB ssL s) (hAo : ∀ q, q < s.heap.size → ¬ A q) (hG : GE W D_ r sz co ro ho ac al sd lf sq) (hsw : SL[1]? = some ("RollingBalls$Plan", "SETS_WITH", "[I", aS, 4, fun j : Nat => Value.int (iZ (SWv (j : Int))))) (hc0 : c0 ≤ 20000) (hs0 : s0 ≤ 100000) (hi : 3 ≤ i ∧ i ≤ (L : Int) - 5)
    (k : ∀ ws, LI cI cZ cJ a ad o W D_ r sz co ro ho ac al sd lf sq ws → TT p l e room_1 s m #[Value.ref b] below meth c D vwCl A 7 False Q 991 [(0, .ref b), (1, .ref (a 0)), (2, .ref (ad 0)), (3, .ref o), (4, .int (iZ i))] [] ws (c0 + 1) (s0 + 6)) (ws : va_W) (hI : LI cI cZ cJ a ad o W D_ r sz co ro ho ac al sd lf sq ws) : TT p l e room_1 s m #[Value.ref b] below meth c D vwCl A 7 False Q 953 [(0, .ref b), (1, .ref (a 0)), (2, .ref (ad 0)), (3, .ref o), (4, .int (iZ i))] [] ws (c0) (s0) := by
  obtain ⟨f, hs, rs, ts, rt_, hc, li, re, ow, tc, cp, ck, wa, qp, qt, qs, lo, sb, lc, cn, ch, sk, hM, rM, tM, wM, mp, mk, wh, sM, hi, vS, cd, mn, rfl, hU, hR⟩ := hI
  have hg : 1 ≤ W ∧ W ≤ 12 ∧ 1 ≤ D_ ∧ D_ ≤ 12 ∧ 1 ≤ r ∧ r ≤ 10 := hG.1
  refine tt_aload_n F 1 rfl rfl dLW_law_953 ?_
  refine tt_cIV F (fun h => h) (As := []) ((mW cI cZ ad W D_ r hM rM tM wM mp mk wh sM hi vS cd mn) ++ [(o, aJ cJ 1 f)]) 0 rfl rfl (c_choose (hs := hs) (rs := rs) (ts := ts) (rt_ := rt_) (hc := hc) (li := li) (re := re) (ow := ow) (tc := tc) (cp := cp) (ck := ck) (wa := wa) (qp := qp) (qt := qt) (qs := qs) (lo := lo) (sb := sb) (lc := lc) (cn := cn) (ch := ch) (sk := sk) hG hU hsw) (cwV 0 F.1.2.2.2.2 (gw_V wd320 wd321 wd322 wd45 wd323) rfl rfl rfl (by decide +kernel) ⟨(Nat.le_of_ble_eq_true rfl), (Nat.le_of_ble_eq_true rfl)⟩) rfl rfl rfl (Nat.le_of_ble_eq_true rfl) ⟨by show c0 + _ ≤ 601024; show c0 + 0 ≤ 601024; omega, by show s0 + 0 ≤ 7293000; omega⟩ dLW_law_954 (fun z1 wc hp => ?_)
  refine tt_wid (k := c0 + 1) (n := s0 + 6) (by first | exact Nat.le_refl _ | (show c0 + 0 ≤ c0 + 1; omega)) (by first | exact Nat.le_refl _ | (show s0 + 0 ≤ s0 + 6; omega)) ?_
  refine tt_nrm (ws' := (mW cI cZ ad W D_ r hM rM tM wM mp mk wh sM hi vS cd mn) ++ ((o, aJ cJ 1 f) :: wc)) (Nat.le_refl _) (Nat.le_refl _) rfl ?_
  refine tt_comm ?_
  refine tt_aload_n F 2 rfl rfl dLW_law_957 ?_
  refine tt_cIV F (fun h => h) (As := []) ((o, aJ cJ 1 f) :: wc) 0 rfl rfl (c_chooseM (hM := hM) (rM := rM) (tM := tM) (wM := wM) (mp := mp) (mk := mk) (wh := wh) (sM := sM) (hi := hi) (vS := vS) (cd := cd) (mn := mn) hg (rel_hB hR) hR.2.2.2.1 (rel_mp hg.2.1 hg.2.2.2.1 hR) (rel_wM hR)) (cwV 0 F.1.2.2.2.2 (gw_V wd856 wd857 wd858 wd53 wd859) rfl rfl rfl (by decide +kernel) ⟨(Nat.le_of_ble_eq_true rfl), (Nat.le_of_ble_eq_true rfl)⟩) rfl rfl rfl (Nat.le_of_ble_eq_true rfl) ⟨by show c0 + 1 + _ ≤ 601024; show c0 + 1 + 0 ≤ 601024; omega, by show s0 + 6 + 0 ≤ 7293000; omega⟩ dLW_law_958 (fun z2 w2 hp2 => ?_)
  refine tt_wid (k := c0 + 1) (n := s0 + 6) (by first | exact Nat.le_refl _ | (show c0 + 0 ≤ c0 + 1; omega)) (by first | exact Nat.le_refl _ | (show s0 + 0 ≤ s0 + 6; omega)) ?_
  obtain ⟨t', wh', sM', hi', rfl, hc2⟩ := hp2
  obtain ⟨hc1, li', qp', qt', qs', lo', lc', ch', sk', rfl⟩ := hp
  have heq : z1 = z2 := tie_choose hg hR hU hc1 hc2
  refine tt_eqT F 991 heq dLW_law_961 (by decide) ?_
  refine tt_sub [0, 1, 2, 3, 4] rfl ?_
  refine tt_comm ?_
  exact k _ ⟨_, _, _, _, _, _, _, _, _, _, _, _, _, _, _, _, _, _, _, _, _, _, _, _, _, _, _, _, _, _, _, _, _, _, rfl, hU, hR⟩
set_option maxHeartbeats 4000000 in
set_option maxRecDepth 100000 in
theorem cs_put {p : Program} {l : Launch} {e : Env} {s : State} {m : MethodId} {below : List Frame} {meth : Method} {c : Code} {Q : State → Prop} {cq : Cond} {D : va_G} {cI cZ cJ : ClassId} {SL : List zS} {A : Nat → Prop} {b L o aS : Nat} {xs : Nat → Int32} {ad : Nat → Nat} {a : Nat → Nat} {W D_ r sz : Int} {co ro ho ac al sd lf sq : Int → Int} {i : Int} {c0 s0 : Nat} (F : FX p s m #[Value.ref b] meth c cLW_law 7 (some .boolean) (cq :: gT) RLW D vwCl cI cZ cJ SL A) (hst : l.stackTraces = false) (hX : va_X b L xs s s.heap) (hbl : b < s.heap.size) (hbA : ¬ A b) (hL : L ≤ 2563) (hsp : SRx RRB ssL s) (hAo : ∀ q, q < s.heap.size → ¬ A q) (hG : GE W D_ r sz co ro ho ac al sd lf sq) (hsw : SL[1]? = some ("RollingBalls$Plan", "SETS_WITH", "[I", aS, 4, fun j : Nat => Value.int (iZ (SWv (j : Int))))) (hc0 : c0 ≤ 20000) (hs0 : s0 ≤ 100000) (hi : 3 ≤ i ∧ i ≤ (L : Int) - 5)
    (k : ∀ ws, LI cI cZ cJ a ad o W D_ r sz co ro ho ac al sd lf sq ws → TT p l e room_1 s m #[Value.ref b] below meth c D vwCl A 7 False Q 991 [(0, .ref b), (1, .ref (a 0)), (2, .ref (ad 0)), (3, .ref o), (4, .int (iZ i))] [] ws (c0 + 1) (s0 + 6)) (ws : va_W) (hI : LI cI cZ cJ a ad o W D_ r sz co ro ho ac al sd lf sq ws) : TT p l e room_1 s m #[Value.ref b] below meth c D vwCl A 7 False Q 966 [(0, .ref b), (1, .ref (a 0)), (2, .ref (ad 0)), (3, .ref o), (4, .int (iZ i))] [] ws (c0) (s0) := by
  obtain ⟨f, hs, rs, ts, rt_, hc, li, re, ow, tc, cp, ck, wa, qp, qt, qs, lo, sb, lc, cn, ch, sk, hM, rM, tM, wM, mp, mk, wh, sM, hi, vS, cd, mn, rfl, hU, hR⟩ := hI
  have hg : 1 ≤ W ∧ W ≤ 12 ∧ 1 ≤ D_ ∧ D_ ≤ 12 ∧ 1 ≤ r ∧ r ≤ 10 := hG.1
  refine tt_aload_n F 1 rfl rfl dLW_law_966 ?_
  refine tt_aload_n F 0 rfl rfl dLW_law_967 ?_
  refine tt_iload F 4 rfl dLW_law_968 ?_
  refine tt_iconst F dLW_law_970 ?_
  refine tt_iadd F dLW_law_971 ?_
  refine tt_sld F hX hbl hbA (by omega) (by omega) (by omega) dLW_law_972 ?_
  refine tt_cIV F (fun h => h) (As := [.int (iZ (scv xs (i + 1)))]) ((mW cI cZ ad W D_ r hM rM tM wM mp mk wh sM hi vS cd mn) ++ [(o, aJ cJ 1 f)]) 0 rfl rfl (c_put (hs := hs) (rs := rs) (ts := ts) (rt_ := rt_) (hc := hc) (li := li) (re := re) (ow := ow) (tc := tc) (cp := cp) (ck := ck) (wa := wa) (qp := qp) (qt := qt) (qs := qs) (lo := lo) (sb := sb) (lc := lc) (cn := cn) (ch := ch) (sk := sk) hG hU) (cwV 1 F.1.2.2.2.2 (gw_V wd433 wd434 wd435 wd45 wd436) rfl rfl rfl (by decide +kernel) ⟨(Nat.le_of_ble_eq_true rfl), (Nat.le_of_ble_eq_true rfl)⟩) rfl rfl rfl (Nat.le_of_ble_eq_true rfl) ⟨by show c0 + _ ≤ 601024; show c0 + 0 ≤ 601024; omega, by show s0 + 0 ≤ 7293000; omega⟩ dLW_law_973 (fun z1 wc hp => ?_)
  refine tt_wid (k := c0 + 1) (n := s0 + 6) (by first | exact Nat.le_refl _ | (show c0 + 0 ≤ c0 + 1; omega)) (by first | exact Nat.le_refl _ | (show s0 + 0 ≤ s0 + 6; omega)) ?_
  refine tt_nrm (ws' := (mW cI cZ ad W D_ r hM rM tM wM mp mk wh sM hi vS cd mn) ++ ((o, aJ cJ 1 f) :: wc)) (Nat.le_refl _) (Nat.le_refl _) rfl ?_
  refine tt_comm ?_
  refine tt_aload_n F 2 rfl rfl dLW_law_976 ?_
  refine tt_aload_n F 0 rfl rfl dLW_law_977 ?_
  refine tt_iload F 4 rfl dLW_law_978 ?_
  refine tt_iconst F dLW_law_980 ?_
  refine tt_iadd F dLW_law_981 ?_
  refine tt_sld F hX hbl hbA (by omega) (by omega) (by omega) dLW_law_982 ?_
  refine tt_cIV F (fun h => h) (As := [.int (iZ (scv xs (i + 1)))]) ((o, aJ cJ 1 f) :: wc) 0 rfl rfl (c_putM (hM := hM) (rM := rM) (tM := tM) (wM := wM) (mp := mp) (mk := mk) (wh := wh) (sM := sM) (hi := hi) (vS := vS) (cd := cd) (mn := mn) hg (rel_hB hR) hR.2.2.2.1 (rel_mp hg.2.1 hg.2.2.2.1 hR)) (cwV 1 F.1.2.2.2.2 (gw_V wd872 wd873 wd874 wd53 wd875) rfl rfl rfl (by decide +kernel) ⟨(Nat.le_of_ble_eq_true rfl), (Nat.le_of_ble_eq_true rfl)⟩) rfl rfl rfl (Nat.le_of_ble_eq_true rfl) ⟨by show c0 + 1 + _ ≤ 601024; show c0 + 1 + 0 ≤ 601024; omega, by show s0 + 6 + 0 ≤ 7293000; omega⟩ dLW_law_983 (fun z2 w2 hp2 => ?_)
  refine tt_wid (k := c0 + 1) (n := s0 + 6) (by first | exact Nat.le_refl _ | (show c0 + 0 ≤ c0 + 1; omega)) (by first | exact Nat.le_refl _ | (show s0 + 0 ≤ s0 + 6; omega)) ?_
  obtain ⟨t', wh', sM', hi', v', wh1, sM1, hi1, rfl, hI1, hI2, hc2⟩ := hp2
  obtain ⟨rt', hc', li', re', ow', tc', sb', lc', ⟨rfl, hU'⟩, hc1⟩ := hp
  have heq : z1 = z2 := tie_put hG hR hU hU' hc1 hI1 hI2 hc2
  refine tt_eqT F 991 heq dLW_law_986 (by decide) ?_
  refine tt_sub [0, 1, 2, 3, 4] rfl ?_
  refine tt_comm ?_
  exact k _ ⟨_, _, _, _, _, _, _, _, _, _, _, _, _, _, _, _, _, _, _, _, _, _, _, _, _, _, _, _, _, _, _, _, _, _, rfl, hU', rel_put hg.2.1 hg.2.2.2.1 hR⟩
