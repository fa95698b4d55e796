theorem RS.at0 {G : mg} {s : St} {g : gR} {M : mw} {H : Heap} (hR : RS G s g M) (hP : mP G.1 M H) : va_at G.1 vwCl (g.1 0 0, .inr (10, [.ref (g.1 1 0), .ref (g.1 2 0), .int (gS s 2), .int (gS s 3), .int (gS s 1), .int (gS s 0), .int (thR g)])) H := hP _ _ ((hR.1 0 0 ro0).trans (congrArg some (celR_0 G s g 0)))
theorem me_n {st : St} (hV : Inv st) {p0 : Int32} (h : (m_meanError st p0).1 = 0) : vf_n64 (FP.ddiv (FP.i2d (m_meanError st p0).2.1) (FP.i2d (nI (rnS st (ix p0))))) := by
  by_cases h1 : iok st p0
  · by_cases h2 : ¬ rnS st (ix p0) = 0
    · exact ddiv_num _ _ (hV.rn h1.2) h2
    · unfold m_meanError at h
      rw [chk_p h1, chk_n h2] at h
      exact absurd h (by show ¬ (2 : Nat) = 0; omega)
  · unfold m_meanError at h
    rw [chk_n h1] at h
    exact absurd h (by show ¬ (1 : Nat) = 0; omega)
theorem le_draw (st : St) (p0 p1 : Int32) : (m_draw st p0 p1).1 < 100 := by
  unfold m_draw
  first | exact le_0 | exact chk_le (by omega) (le_0) | exact chk_le (by omega) (chk_le (by omega) (le_0)) | exact chk_le (by omega) (chk_le (by omega) (chk_le (by omega) (le_0))) | exact chk_le (by omega) (chk_le (by omega) (chk_le (by omega) (chk_le (by omega) (le_0)))) | exact chk_le (by omega) (chk_le (by omega) (chk_le (by omega) (chk_le (by omega) (chk_le (by omega) (le_0))))) | exact chk_le (by omega) (chk_le (by omega) (chk_le (by omega) (chk_le (by omega) (chk_le (by omega) (chk_le (by omega) (le_0)))))) | exact chk_le (by omega) (chk_le (by omega) (chk_le (by omega) (chk_le (by omega) (chk_le (by omega) (chk_le (by omega) (chk_le (by omega) (le_0))))))) | exact chk_le (by omega) (chk_le (by omega) (chk_le (by omega) (chk_le (by omega) (chk_le (by omega) (chk_le (by omega) (chk_le (by omega) (chk_le (by omega) (le_0))))))))
set_option maxHeartbeats 4000000 in
set_option maxRecDepth 100000 in
theorem law_draw {p : Program} {l : Launch} {e : Env} {s : State} {m : MethodId} {below : List Frame} {meth : Method} {c : Code} {Q : State → Prop} {b L : Nat} {xs : Nat → Int32} {G : mg} (C0 : TwC p l s m c b L xs G) {H : Heap} {locs : List Loc} {ls : Array Slot} {cells slots : Nat} (hcs : cells + 1100 ≤ 845199 ∧ slots + 4500 ≤ 6560506) {cw rw o1 o2 : Nat} {st : St} {x5 p1 p2 p3 p4 : Int32} (hLI : TwI G s.heap.size H cw rw o1 o2 st) (hS : va_S (aH s.heap.size) s.heap H locs) (hl : lv_has ls 9 [(0, .ref b), (1, .ref cw), (2, .ref rw), (3, .ref o1), (4, .ref o2), (5, .int x5)]) (hi1 : vp_in (x5 + 1) L) (hi2 : vp_in (x5 + 2) L) (hi3 : vp_in (x5 + 3) L) (hi4 : vp_in (x5 + 4) L) (hv1 : xs (x5 + 1).toNatClampNeg = p1) (hv2 : xs (x5 + 2).toNatClampNeg = p2) (hv3 : xs (x5 + 3).toNatClampNeg = p3) (hv4 : xs (x5 + 4).toNatClampNeg = p4)
    (kk : ∀ (st1 : St) (H1 : Heap) (locs1 : List Loc) (ls1 : Array Slot), TwI G s.heap.size H1 cw rw o1 o2 st1 → va_S (aH s.heap.size) s.heap H1 locs1 → lv_has ls1 9 [(0, .ref b), (1, .ref cw), (2, .ref rw), (3, .ref o1), (4, .ref o2), (5, .int x5)] → W p l e room_1 s m #[Value.ref b] below meth c H1 locs1 (cells + 1100) (slots + 4500) Q (F0 m 2675 ls1 [])) : W p l e room_1 s m #[Value.ref b] below meth c H locs cells slots Q (F0 m 220 ls []) := by
  obtain ⟨hx, hb, hml, hown, hts, hX, hbl, hG, hl9⟩ := C0
  obtain ⟨ad, g, Mc, Mr, f1, f2, hC, hR, hV, rfl, rfl, hLS⟩ := hLI
  have hA : ∀ q : Nat, s.heap.size ≤ q → aH s.heap.size q := fun _ h => h
  have hK := hG.K
  refine lv_aload_n hx hb dL_law_220 rfl (lv_at hl 1 rfl) ?_
  refine lv_aload_n hx hb dL_law_221 rfl (lv_at hl 0 rfl) ?_
  refine lv_iload hx hb dL_law_222 (lv_at hl 5 rfl) ?_
  refine lv_iconst (v := 1) hx hb dL_law_224 (by decide) ?_
  refine lv_iadd hx hb dL_law_225 ?_
  refine lm_sld hx hb hX hbl hS hi1 hv1 dL_law_226 ?_
  refine lv_aload_n hx hb dL_law_227 rfl (lv_at hl 0 rfl) ?_
  refine lv_iload hx hb dL_law_228 (lv_at hl 5 rfl) ?_
  refine lv_iconst (v := 2) hx hb dL_law_230 (by decide) ?_
  refine lv_iadd hx hb dL_law_231 ?_
  refine lm_sld hx hb hX hbl hS hi2 hv2 dL_law_232 ?_
  refine lv_aload_n hx hb dL_law_233 rfl (lv_at hl 3 rfl) ?_
  have hLo := hLS
  have hz : s.heap.size ≤ H.size := hS.1
  have hPM : mP G.1 (mu Mc o1 (.inl (G.2.1 1, 1, .inr (.inl f1)))) H := mP_o hLo.1 hLo.2.2.1
  have hIM : mI (aH s.heap.size) (mu Mc o1 (.inl (G.2.1 1, 1, .inr (.inl f1)))) := mI.mu hLo.2.2.2.2.1.1 hLo.2.2.2.2.1.2.2.1
  refine ls_calli (vx_runSX (As := [.ref (ad 0 0), .int p1, .int p2, .ref o1]) (rest := []) ⟨hx, hb, hml, hown, hts⟩ (c_L_draw l G (aS H (mu Mc o1 (.inl (G.2.1 1, 1, .inr (.inl f1))))) Mc hl9 st ad p1 p2 o1 hLo.2.2.2.2.2.2.1 hC hV) (vx_cwSW 4 hts gL_law_L_draw rfl rfl rfl (by decide +kernel) ⟨Nat.le_of_ble_eq_true rfl, Nat.le_of_ble_eq_true rfl⟩) (sPreS hG hS hPM hIM hA) rfl rfl hl.1 rfl (lv_room (Nat.le_of_ble_eq_true rfl)) dL_law_234 ⟨by show cells + 4 ≤ 845199; omega, by show slots + 34 ≤ 6560506; omega⟩) hIM hS hA (fun r6 M9 H locs hp9 hP9 hI9 hk9 hS => ?_)
  obtain ⟨ad1, Mc1, f9, e6, hn9, rfl, hC1, ha1, hf1⟩ := hp9
  have hLS := TwS.c1 hLo hz hP9 hn9 hI9 hk9
  refine lv_istore (lv' := [(6, .int r6), (0, .ref b), (1, .ref (ad 0 0)), (2, .ref (g.1 0 0)), (3, .ref o1), (4, .ref o2), (5, .int x5)]) hx hb dL_law_237 hl (by decide) rfl (fun ls hl => ?_)
  refine lv_aload_n hx hb dL_law_239 rfl (lv_at hl 3 rfl) ?_
  refine lv_aload_n hx hb dL_law_240 rfl (lv_at hl 1 rfl) ?_
  refine lv_iload hx hb dL_law_241 (lv_at hl 6 rfl) ?_
  refine lv_iconst (v := 1) hx hb dL_law_243 (by decide) ?_
  refine lv_iadd hx hb dL_law_244 ?_
  refine lm_sld hx hb hX hbl hS hi1 hv1 dL_law_245 ?_
  refine lv_aload_n hx hb dL_law_246 rfl (lv_at hl 1 rfl) ?_
  refine lv_iload hx hb dL_law_247 (lv_at hl 6 rfl) ?_
  refine lv_iconst (v := 2) hx hb dL_law_249 (by decide) ?_
  refine lv_iadd hx hb dL_law_250 ?_
  refine lm_sld hx hb hX hbl hS hi2 hv2 dL_law_251 ?_
  have hz : s.heap.size ≤ H.size := hS.1
  refine lm_calli (va_runV (As := [.int p1, .int p2]) (rest := []) ⟨hx, hb, hml, hown, hts⟩ (c_X7_draw l G (aS H Mr) Mr st g p1 p2 hR hV) (cwV 2 hts gL_law_X7_draw rfl rfl rfl (by decide +kernel) ⟨Nat.le_of_ble_eq_true rfl, Nat.le_of_ble_eq_true rfl⟩) (sPreV hG hS hLS.2.1 hLS.2.2.2.2.1.2.1 hA (RS.at0 hR hLS.2.1) (r := (RX7, TX7, 7)) rfl) rfl rfl hl.1 rfl (lv_room (Nat.le_of_ble_eq_true rfl)) dL_law_252 ⟨by show cells + 4 + 3 ≤ 845199; omega, by show slots + 34 + 32 ≤ 6560506; omega⟩) hLS.2.2.2.2.1.2.1 hS hA (fun r7 Mr1 H locs hp9 hP9 hI9 hk9 hS => ?_)
  obtain ⟨g1, hR1, ht1, hr1, hg1⟩ := hp9
  have hLS := (TwS.c hLS.sw hz hP9 hI9 hk9).sw
  refine lv_istore (lv' := [(7, .int r7), (6, .int r6), (0, .ref b), (1, .ref (ad 0 0)), (2, .ref (g.1 0 0)), (3, .ref o1), (4, .ref o2), (5, .int x5)]) hx hb dL_law_255 hl (by decide) rfl (fun ls hl => ?_)
  refine lv_aload_n hx hb dL_law_257 rfl (lv_at hl 4 rfl) ?_
  have hz : s.heap.size ≤ H.size := hS.1
  have hX9 : Mr1 (g.1 0 0) = some (.inr (10, [.ref (g1.1 1 0), .ref (g1.1 2 0), .int (gS (m_draw st p1 p2).2.2 2), .int (gS (m_draw st p1 p2).2.2 3), .int (gS (m_draw st p1 p2).2.2 1), .int (gS (m_draw st p1 p2).2.2 0), .int (thR g1)])) := by rw [← hg1]; exact (hR1.1 0 0 ro0).trans (congrArg some (celR_0 G (m_draw st p1 p2).2.2 g1 0))
  refine lm_calli (va_runV (As := []) (rest := []) ⟨hx, hb, hml, hown, hts⟩ (c_X7_thrown l G (aS H Mr1) Mr1 hX9) (cwV 0 hts gL_law_X7_thrown rfl rfl rfl (by decide +kernel) ⟨Nat.le_of_ble_eq_true rfl, Nat.le_of_ble_eq_true rfl⟩) (sPreV hG hS hLS.2.1 hLS.2.2.2.2.1.2.1 hA (hLS.2.1 _ _ hX9) (r := (RX7, TX7, 7)) rfl) rfl rfl hl.1 rfl (lv_room (Nat.le_of_ble_eq_true rfl)) dL_law_258 ⟨by show cells + 4 + 3 + 0 ≤ 845199; omega, by show slots + 34 + 32 + 0 ≤ 6560506; omega⟩) hLS.2.2.2.2.1.2.1 hS hA (fun r8 M9 H locs hp9 hP9 hI9 hk9 hS => ?_)
  obtain ⟨e8, hm9⟩ := hp9
  subst M9
  have hLS := (TwS.c hLS.sw hz hP9 hI9 hk9).sw
  refine lv_iload hx hb dL_law_261 (lv_at hl 1 rfl) ?_
  refine lv_icmp_eq (tgt := 268) hx hb dL_law_263 (by decide) (fun c1 => ?_) (fun c1 => absurd c1 (fun z => z (by rw [e8, ht1, e6])))
  refine lv_iload hx hb dL_law_268 (lv_at hl 1 rfl) ?_
  refine lv_if_ne (tgt := 285) hx hb dL_law_270 (by decide) (fun c2 => ?_) (fun c2 => ?_)
  · skip
    refine lv_goto (tgt := 2675) hx hb dL_law_285 (by decide) ?_
    refine W.widen (k := cells + 1100) (n := slots + 4500) (by omega) (by omega) ?_
    exact kk _ H locs ls ⟨ad1, g1, Mc1, Mr1, f9, f2, hC1, hR1, (I_draw hV p1 p2), ha1, hg1, hLS⟩ hS (lv_sub hl [2, 3, 4, 5, 6, 7] rfl)
  · skip
    have h0 := nI_z (le_draw st p1 p2) (e6.symm.trans c2)
    refine lv_aload_n hx hb dL_law_273 rfl (lv_at hl 5 rfl) ?_
    refine lv_iconst (v := 0) hx hb dL_law_274 (by decide) ?_
    refine lm_lald hx hb hK 1 hLS.2.2.1 rfl (show vp_in 0 1 by unfold vp_in; decide) (hf1 h0) dL_law_275 ?_
    refine lv_iload hx hb dL_law_276 (lv_at hl 0 rfl) ?_
    refine lv_i2l (v := r7.toInt64) hx hb dL_law_278 rfl ?_
    refine m_lcmp_eq (tgt := 285) hx hb dL_law_279 dL_law_280 (by decide) (fun c3 => ?_) (fun c3 => ?_)
    · skip
      refine lv_goto (tgt := 2675) hx hb dL_law_285 (by decide) ?_
      refine W.widen (k := cells + 1100) (n := slots + 4500) (by omega) (by omega) ?_
      exact kk _ H locs ls ⟨ad1, g1, Mc1, Mr1, f9, f2, hC1, hR1, (I_draw hV p1 p2), ha1, hg1, hLS⟩ hS (lv_sub hl [2, 3, 4, 5, 6, 7] rfl)
    · skip
      exact absurd (by rw [hr1 h0]) c3
theorem le_section (st : St) (p0 p1 p2 : Int32) : (m_section st p0 p1 p2).1 < 100 := by
  unfold m_section
  first | exact le_0 | exact chk_le (by omega) (le_0) | exact chk_le (by omega) (chk_le (by omega) (le_0)) | exact chk_le (by omega) (chk_le (by omega) (chk_le (by omega) (le_0))) | exact chk_le (by omega) (chk_le (by omega) (chk_le (by omega) (chk_le (by omega) (le_0)))) | exact chk_le (by omega) (chk_le (by omega) (chk_le (by omega) (chk_le (by omega) (chk_le (by omega) (le_0))))) | exact chk_le (by omega) (chk_le (by omega) (chk_le (by omega) (chk_le (by omega) (chk_le (by omega) (chk_le (by omega) (le_0)))))) | exact chk_le (by omega) (chk_le (by omega) (chk_le (by omega) (chk_le (by omega) (chk_le (by omega) (chk_le (by omega) (chk_le (by omega) (le_0))))))) | exact chk_le (by omega) (chk_le (by omega) (chk_le (by omega) (chk_le (by omega) (chk_le (by omega) (chk_le (by omega) (chk_le (by omega) (chk_le (by omega) (le_0))))))))
set_option maxHeartbeats 4000000 in
set_option maxRecDepth 100000 in
theorem law_section {p : Program} {l : Launch} {e : Env} {s : State} {m : MethodId} {below : List Frame} {meth : Method} {c : Code} {Q : State → Prop} {b L : Nat} {xs : Nat → Int32} {G : mg} (C0 : TwC p l s m c b L xs G) {H : Heap} {locs : List Loc} {ls : Array Slot} {cells slots : Nat} (hcs : cells + 1100 ≤ 845199 ∧ slots + 4500 ≤ 6560506) {cw rw o1 o2 : Nat} {st : St} {x5 p1 p2 p3 p4 : Int32} (hLI : TwI G s.heap.size H cw rw o1 o2 st) (hS : va_S (aH s.heap.size) s.heap H locs) (hl : lv_has ls 9 [(0, .ref b), (1, .ref cw), (2, .ref rw), (3, .ref o1), (4, .ref o2), (5, .int x5)]) (hi1 : vp_in (x5 + 1) L) (hi2 : vp_in (x5 + 2) L) (hi3 : vp_in (x5 + 3) L) (hi4 : vp_in (x5 + 4) L) (hv1 : xs (x5 + 1).toNatClampNeg = p1) (hv2 : xs (x5 + 2).toNatClampNeg = p2) (hv3 : xs (x5 + 3).toNatClampNeg = p3) (hv4 : xs (x5 + 4).toNatClampNeg = p4)
    (kk : ∀ (st1 : St) (H1 : Heap) (locs1 : List Loc) (ls1 : Array Slot), TwI G s.heap.size H1 cw rw o1 o2 st1 → va_S (aH s.heap.size) s.heap H1 locs1 → lv_has ls1 9 [(0, .ref b), (1, .ref cw), (2, .ref rw), (3, .ref o1), (4, .ref o2), (5, .int x5)] → W p l e room_1 s m #[Value.ref b] below meth c H1 locs1 (cells + 1100) (slots + 4500) Q (F0 m 2675 ls1 [])) : W p l e room_1 s m #[Value.ref b] below meth c H locs cells slots Q (F0 m 288 ls []) := by
  obtain ⟨hx, hb, hml, hown, hts, hX, hbl, hG, hl9⟩ := C0
  obtain ⟨ad, g, Mc, Mr, f1, f2, hC, hR, hV, rfl, rfl, hLS⟩ := hLI
  have hA : ∀ q : Nat, s.heap.size ≤ q → aH s.heap.size q := fun _ h => h
  have hK := hG.K
  refine lv_aload_n hx hb dL_law_288 rfl (lv_at hl 1 rfl) ?_
  refine lv_aload_n hx hb dL_law_289 rfl (lv_at hl 0 rfl) ?_
  refine lv_iload hx hb dL_law_290 (lv_at hl 5 rfl) ?_
  refine lv_iconst (v := 1) hx hb dL_law_292 (by decide) ?_
  refine lv_iadd hx hb dL_law_293 ?_
  refine lm_sld hx hb hX hbl hS hi1 hv1 dL_law_294 ?_
  refine lv_aload_n hx hb dL_law_295 rfl (lv_at hl 0 rfl) ?_
  refine lv_iload hx hb dL_law_296 (lv_at hl 5 rfl) ?_
  refine lv_iconst (v := 2) hx hb dL_law_298 (by decide) ?_
  refine lv_iadd hx hb dL_law_299 ?_
  refine lm_sld hx hb hX hbl hS hi2 hv2 dL_law_300 ?_
  refine lv_aload_n hx hb dL_law_301 rfl (lv_at hl 0 rfl) ?_
  refine lv_iload hx hb dL_law_302 (lv_at hl 5 rfl) ?_
  refine lv_iconst (v := 3) hx hb dL_law_304 (by decide) ?_
  refine lv_iadd hx hb dL_law_305 ?_
  refine lm_sld hx hb hX hbl hS hi3 hv3 dL_law_306 ?_
  refine lv_aload_n hx hb dL_law_307 rfl (lv_at hl 3 rfl) ?_
  have hLo := hLS
  have hz : s.heap.size ≤ H.size := hS.1
  have hPM : mP G.1 (mu Mc o1 (.inl (G.2.1 1, 1, .inr (.inl f1)))) H := mP_o hLo.1 hLo.2.2.1
  have hIM : mI (aH s.heap.size) (mu Mc o1 (.inl (G.2.1 1, 1, .inr (.inl f1)))) := mI.mu hLo.2.2.2.2.1.1 hLo.2.2.2.2.1.2.2.1
  refine ls_calli (vx_runSX (As := [.ref (ad 0 0), .int p1, .int p2, .int p3, .ref o1]) (rest := []) ⟨hx, hb, hml, hown, hts⟩ (c_L_section l G (aS H (mu Mc o1 (.inl (G.2.1 1, 1, .inr (.inl f1))))) Mc hl9 st ad p1 p2 p3 o1 hLo.2.2.2.2.2.2.1 hC hV) (vx_cwSW 5 hts gL_law_L_section rfl rfl rfl (by decide +kernel) ⟨Nat.le_of_ble_eq_true rfl, Nat.le_of_ble_eq_true rfl⟩) (sPreS hG hS hPM hIM hA) rfl rfl hl.1 rfl (lv_room (Nat.le_of_ble_eq_true rfl)) dL_law_308 ⟨by show cells + 4 ≤ 845199; omega, by show slots + 24 ≤ 6560506; omega⟩) hIM hS hA (fun r6 M9 H locs hp9 hP9 hI9 hk9 hS => ?_)
  obtain ⟨ad1, Mc1, f9, e6, hn9, rfl, hC1, ha1, hf1⟩ := hp9
  have hLS := TwS.c1 hLo hz hP9 hn9 hI9 hk9
  refine lv_istore (lv' := [(6, .int r6), (0, .ref b), (1, .ref (ad 0 0)), (2, .ref (g.1 0 0)), (3, .ref o1), (4, .ref o2), (5, .int x5)]) hx hb dL_law_311 hl (by decide) rfl (fun ls hl => ?_)
  refine lv_aload_n hx hb dL_law_313 rfl (lv_at hl 3 rfl) ?_
  refine lv_aload_n hx hb dL_law_314 rfl (lv_at hl 1 rfl) ?_
  refine lv_iload hx hb dL_law_315 (lv_at hl 6 rfl) ?_
  refine lv_iconst (v := 1) hx hb dL_law_317 (by decide) ?_
  refine lv_iadd hx hb dL_law_318 ?_
  refine lm_sld hx hb hX hbl hS hi1 hv1 dL_law_319 ?_
  refine lv_aload_n hx hb dL_law_320 rfl (lv_at hl 1 rfl) ?_
  refine lv_iload hx hb dL_law_321 (lv_at hl 6 rfl) ?_
  refine lv_iconst (v := 2) hx hb dL_law_323 (by decide) ?_
  refine lv_iadd hx hb dL_law_324 ?_
  refine lm_sld hx hb hX hbl hS hi2 hv2 dL_law_325 ?_
  refine lv_aload_n hx hb dL_law_326 rfl (lv_at hl 1 rfl) ?_
  refine lv_iload hx hb dL_law_327 (lv_at hl 6 rfl) ?_
  refine lv_iconst (v := 3) hx hb dL_law_329 (by decide) ?_
  refine lv_iadd hx hb dL_law_330 ?_
  refine lm_sld hx hb hX hbl hS hi3 hv3 dL_law_331 ?_
  have hz : s.heap.size ≤ H.size := hS.1
  refine lm_calli (va_runV (As := [.int p1, .int p2, .int p3]) (rest := []) ⟨hx, hb, hml, hown, hts⟩ (c_X7_section l G (aS H Mr) Mr st g p1 p2 p3 hR hV) (cwV 3 hts gL_law_X7_section rfl rfl rfl (by decide +kernel) ⟨Nat.le_of_ble_eq_true rfl, Nat.le_of_ble_eq_true rfl⟩) (sPreV hG hS hLS.2.1 hLS.2.2.2.2.1.2.1 hA (RS.at0 hR hLS.2.1) (r := (RX7, TX7, 7)) rfl) rfl rfl hl.1 rfl (lv_room (Nat.le_of_ble_eq_true rfl)) dL_law_332 ⟨by show cells + 4 + 0 ≤ 845199; omega, by show slots + 24 + 0 ≤ 6560506; omega⟩) hLS.2.2.2.2.1.2.1 hS hA (fun r7 Mr1 H locs hp9 hP9 hI9 hk9 hS => ?_)
  obtain ⟨g1, hR1, ht1, hr1, hg1⟩ := hp9
  have hLS := (TwS.c hLS.sw hz hP9 hI9 hk9).sw
  refine lv_istore (lv' := [(7, .int r7), (6, .int r6), (0, .ref b), (1, .ref (ad 0 0)), (2, .ref (g.1 0 0)), (3, .ref o1), (4, .ref o2), (5, .int x5)]) hx hb dL_law_335 hl (by decide) rfl (fun ls hl => ?_)
  refine lv_aload_n hx hb dL_law_337 rfl (lv_at hl 4 rfl) ?_
  have hz : s.heap.size ≤ H.size := hS.1
  have hX9 : Mr1 (g.1 0 0) = some (.inr (10, [.ref (g1.1 1 0), .ref (g1.1 2 0), .int (gS (m_section st p1 p2 p3).2.2 2), .int (gS (m_section st p1 p2 p3).2.2 3), .int (gS (m_section st p1 p2 p3).2.2 1), .int (gS (m_section st p1 p2 p3).2.2 0), .int (thR g1)])) := by rw [← hg1]; exact (hR1.1 0 0 ro0).trans (congrArg some (celR_0 G (m_section st p1 p2 p3).2.2 g1 0))
  refine lm_calli (va_runV (As := []) (rest := []) ⟨hx, hb, hml, hown, hts⟩ (c_X7_thrown l G (aS H Mr1) Mr1 hX9) (cwV 0 hts gL_law_X7_thrown rfl rfl rfl (by decide +kernel) ⟨Nat.le_of_ble_eq_true rfl, Nat.le_of_ble_eq_true rfl⟩) (sPreV hG hS hLS.2.1 hLS.2.2.2.2.1.2.1 hA (hLS.2.1 _ _ hX9) (r := (RX7, TX7, 7)) rfl) rfl rfl hl.1 rfl (lv_room (Nat.le_of_ble_eq_true rfl)) dL_law_338 ⟨by show cells + 4 + 0 + 0 ≤ 845199; omega, by show slots + 24 + 0 + 0 ≤ 6560506; omega⟩) hLS.2.2.2.2.1.2.1 hS hA (fun r8 M9 H locs hp9 hP9 hI9 hk9 hS => ?_)
  obtain ⟨e8, hm9⟩ := hp9
  subst M9
  have hLS := (TwS.c hLS.sw hz hP9 hI9 hk9).sw
  refine lv_iload hx hb dL_law_341 (lv_at hl 1 rfl) ?_
  refine lv_icmp_eq (tgt := 348) hx hb dL_law_343 (by decide) (fun c1 => ?_) (fun c1 => absurd c1 (fun z => z (by rw [e8, ht1, e6])))
  refine lv_iload hx hb dL_law_348 (lv_at hl 1 rfl) ?_
  refine lv_if_ne (tgt := 365) hx hb dL_law_350 (by decide) (fun c2 => ?_) (fun c2 => ?_)
  · skip
    refine lv_goto (tgt := 2675) hx hb dL_law_365 (by decide) ?_
    refine W.widen (k := cells + 1100) (n := slots + 4500) (by omega) (by omega) ?_
    exact kk _ H locs ls ⟨ad1, g1, Mc1, Mr1, f9, f2, hC1, hR1, (I_section hV p1 p2 p3), ha1, hg1, hLS⟩ hS (lv_sub hl [2, 3, 4, 5, 6, 7] rfl)
  · skip
    have h0 := nI_z (le_section st p1 p2 p3) (e6.symm.trans c2)
    refine lv_aload_n hx hb dL_law_353 rfl (lv_at hl 5 rfl) ?_
    refine lv_iconst (v := 0) hx hb dL_law_354 (by decide) ?_
    refine lm_lald hx hb hK 1 hLS.2.2.1 rfl (show vp_in 0 1 by unfold vp_in; decide) (hf1 h0) dL_law_355 ?_
    refine lv_iload hx hb dL_law_356 (lv_at hl 0 rfl) ?_
    refine lv_i2l (v := r7.toInt64) hx hb dL_law_358 rfl ?_
    refine m_lcmp_eq (tgt := 365) hx hb dL_law_359 dL_law_360 (by decide) (fun c3 => ?_) (fun c3 => ?_)
    · skip
      refine lv_goto (tgt := 2675) hx hb dL_law_365 (by decide) ?_
      refine W.widen (k := cells + 1100) (n := slots + 4500) (by omega) (by omega) ?_
      exact kk _ H locs ls ⟨ad1, g1, Mc1, Mr1, f9, f2, hC1, hR1, (I_section hV p1 p2 p3), ha1, hg1, hLS⟩ hS (lv_sub hl [2, 3, 4, 5, 6, 7] rfl)
    · skip
      exact absurd (by rw [hr1 h0]) c3
theorem le_bore (st : St) (p0 p1 : Int32) : (m_bore st p0 p1).1 < 100 := by
  unfold m_bore
  first | exact le_0 | exact chk_le (by omega) (le_0) | exact chk_le (by omega) (chk_le (by omega) (le_0)) | exact chk_le (by omega) (chk_le (by omega) (chk_le (by omega) (le_0))) | exact chk_le (by omega) (chk_le (by omega) (chk_le (by omega) (chk_le (by omega) (le_0)))) | exact chk_le (by omega) (chk_le (by omega) (chk_le (by omega) (chk_le (by omega) (chk_le (by omega) (le_0))))) | exact chk_le (by omega) (chk_le (by omega) (chk_le (by omega) (chk_le (by omega) (chk_le (by omega) (chk_le (by omega) (le_0)))))) | exact chk_le (by omega) (chk_le (by omega) (chk_le (by omega) (chk_le (by omega) (chk_le (by omega) (chk_le (by omega) (chk_le (by omega) (le_0))))))) | exact chk_le (by omega) (chk_le (by omega) (chk_le (by omega) (chk_le (by omega) (chk_le (by omega) (chk_le (by omega) (chk_le (by omega) (chk_le (by omega) (le_0))))))))
theorem I_bore {st : St} (h : Inv st) (p0 p1 : Int32) : Inv (m_bore st p0 p1).2.2 := by
  unfold m_bore
  first | exact h | exact chk_I h (fun _ => h) | exact chk_I h (fun _ => chk_I h (fun _ => h)) | exact chk_I h (fun _ => chk_I h (fun _ => chk_I h (fun _ => h))) | exact chk_I h (fun _ => chk_I h (fun _ => chk_I h (fun _ => chk_I h (fun _ => h)))) | exact chk_I h (fun _ => chk_I h (fun _ => chk_I h (fun _ => chk_I h (fun _ => chk_I h (fun _ => h))))) | exact chk_I h (fun _ => chk_I h (fun _ => chk_I h (fun _ => chk_I h (fun _ => chk_I h (fun _ => chk_I h (fun _ => h)))))) | exact chk_I h (fun _ => chk_I h (fun _ => chk_I h (fun _ => chk_I h (fun _ => chk_I h (fun _ => chk_I h (fun _ => chk_I h (fun _ => h))))))) | exact chk_I h (fun _ => chk_I h (fun _ => chk_I h (fun _ => chk_I h (fun _ => chk_I h (fun _ => chk_I h (fun _ => chk_I h (fun _ => chk_I h (fun _ => h))))))))
set_option maxHeartbeats 4000000 in
set_option maxRecDepth 100000 in
theorem law_bore {p : Program} {l : Launch} {e : Env} {s : State} {m : MethodId} {below : List Frame} {meth : Method} {c : Code} {Q : State → Prop} {b L : Nat} {xs : Nat → Int32} {G : mg} (C0 : TwC p l s m c b L xs G) {H : Heap} {locs : List Loc} {ls : Array Slot} {cells slots : Nat} (hcs : cells + 1100 ≤ 845199 ∧ slots + 4500 ≤ 6560506) {cw rw o1 o2 : Nat} {st : St} {x5 p1 p2 p3 p4 : Int32} (hLI : TwI G s.heap.size H cw rw o1 o2 st) (hS : va_S (aH s.heap.size) s.heap H locs) (hl : lv_has ls 9 [(0, .ref b), (1, .ref cw), (2, .ref rw), (3, .ref o1), (4, .ref o2), (5, .int x5)]) (hi1 : vp_in (x5 + 1) L) (hi2 : vp_in (x5 + 2) L) (hi3 : vp_in (x5 + 3) L) (hi4 : vp_in (x5 + 4) L) (hv1 : xs (x5 + 1).toNatClampNeg = p1) (hv2 : xs (x5 + 2).toNatClampNeg = p2) (hv3 : xs (x5 + 3).toNatClampNeg = p3) (hv4 : xs (x5 + 4).toNatClampNeg = p4)
    (kk : ∀ (st1 : St) (H1 : Heap) (locs1 : List Loc) (ls1 : Array Slot), TwI G s.heap.size H1 cw rw o1 o2 st1 → va_S (aH s.heap.size) s.heap H1 locs1 → lv_has ls1 9 [(0, .ref b), (1, .ref cw), (2, .ref rw), (3, .ref o1), (4, .ref o2), (5, .int x5)] → W p l e room_1 s m #[Value.ref b] below meth c H1 locs1 (cells + 1100) (slots + 4500) Q (F0 m 2675 ls1 [])) : W p l e room_1 s m #[Value.ref b] below meth c H locs cells slots Q (F0 m 368 ls []) := by
  obtain ⟨hx, hb, hml, hown, hts, hX, hbl, hG, hl9⟩ := C0
  obtain ⟨ad, g, Mc, Mr, f1, f2, hC, hR, hV, rfl, rfl, hLS⟩ := hLI
  have hA : ∀ q : Nat, s.heap.size ≤ q → aH s.heap.size q := fun _ h => h
  have hK := hG.K
  refine lv_aload_n hx hb dL_law_368 rfl (lv_at hl 1 rfl) ?_
  refine lv_aload_n hx hb dL_law_369 rfl (lv_at hl 0 rfl) ?_
  refine lv_iload hx hb dL_law_370 (lv_at hl 5 rfl) ?_
  refine lv_iconst (v := 1) hx hb dL_law_372 (by decide) ?_
  refine lv_iadd hx hb dL_law_373 ?_
  refine lm_sld hx hb hX hbl hS hi1 hv1 dL_law_374 ?_
  refine lv_aload_n hx hb dL_law_375 rfl (lv_at hl 0 rfl) ?_
  refine lv_iload hx hb dL_law_376 (lv_at hl 5 rfl) ?_
  refine lv_iconst (v := 2) hx hb dL_law_378 (by decide) ?_
  refine lv_iadd hx hb dL_law_379 ?_
  refine lm_sld hx hb hX hbl hS hi2 hv2 dL_law_380 ?_
  refine lv_aload_n hx hb dL_law_381 rfl (lv_at hl 3 rfl) ?_
  have hLo := hLS
  have hz : s.heap.size ≤ H.size := hS.1
  have hPM : mP G.1 (mu Mc o1 (.inl (G.2.1 1, 1, .inr (.inl f1)))) H := mP_o hLo.1 hLo.2.2.1
  have hIM : mI (aH s.heap.size) (mu Mc o1 (.inl (G.2.1 1, 1, .inr (.inl f1)))) := mI.mu hLo.2.2.2.2.1.1 hLo.2.2.2.2.1.2.2.1
  refine ls_calli (vx_runSX (As := [.ref (ad 0 0), .int p1, .int p2, .ref o1]) (rest := []) ⟨hx, hb, hml, hown, hts⟩ (c_L_bore l G (aS H (mu Mc o1 (.inl (G.2.1 1, 1, .inr (.inl f1))))) Mc hl9 st ad p1 p2 o1 hLo.2.2.2.2.2.2.1 hC hV) (vx_cwSW 4 hts gL_law_L_bore rfl rfl rfl (by decide +kernel) ⟨Nat.le_of_ble_eq_true rfl, Nat.le_of_ble_eq_true rfl⟩) (sPreS hG hS hPM hIM hA) rfl rfl hl.1 rfl (lv_room (Nat.le_of_ble_eq_true rfl)) dL_law_382 ⟨by show cells + 2 ≤ 845199; omega, by show slots + 12 ≤ 6560506; omega⟩) hIM hS hA (fun r6 M9 H locs hp9 hP9 hI9 hk9 hS => ?_)
  obtain ⟨ad1, Mc1, f9, e6, hn9, rfl, hC1, ha1, hf1⟩ := hp9
  have hLS := TwS.c1 hLo hz hP9 hn9 hI9 hk9
  refine lv_istore (lv' := [(6, .int r6), (0, .ref b), (1, .ref (ad 0 0)), (2, .ref (g.1 0 0)), (3, .ref o1), (4, .ref o2), (5, .int x5)]) hx hb dL_law_385 hl (by decide) rfl (fun ls hl => ?_)
  refine lv_aload_n hx hb dL_law_387 rfl (lv_at hl 3 rfl) ?_
  refine lv_aload_n hx hb dL_law_388 rfl (lv_at hl 1 rfl) ?_
  refine lv_iload hx hb dL_law_389 (lv_at hl 6 rfl) ?_
  refine lv_iconst (v := 1) hx hb dL_law_391 (by decide) ?_
  refine lv_iadd hx hb dL_law_392 ?_
  refine lm_sld hx hb hX hbl hS hi1 hv1 dL_law_393 ?_
  refine lv_aload_n hx hb dL_law_394 rfl (lv_at hl 1 rfl) ?_
  refine lv_iload hx hb dL_law_395 (lv_at hl 6 rfl) ?_
  refine lv_iconst (v := 2) hx hb dL_law_397 (by decide) ?_
  refine lv_iadd hx hb dL_law_398 ?_
  refine lm_sld hx hb hX hbl hS hi2 hv2 dL_law_399 ?_
  have hz : s.heap.size ≤ H.size := hS.1
  refine lm_calli (va_runV (As := [.int p1, .int p2]) (rest := []) ⟨hx, hb, hml, hown, hts⟩ (c_X7_bore l G (aS H Mr) Mr st g p1 p2 hR hV) (cwV 2 hts gL_law_X7_bore rfl rfl rfl (by decide +kernel) ⟨Nat.le_of_ble_eq_true rfl, Nat.le_of_ble_eq_true rfl⟩) (sPreV hG hS hLS.2.1 hLS.2.2.2.2.1.2.1 hA (RS.at0 hR hLS.2.1) (r := (RX7, TX7, 7)) rfl) rfl rfl hl.1 rfl (lv_room (Nat.le_of_ble_eq_true rfl)) dL_law_400 ⟨by show cells + 2 + 0 ≤ 845199; omega, by show slots + 12 + 0 ≤ 6560506; omega⟩) hLS.2.2.2.2.1.2.1 hS hA (fun r7 Mr1 H locs hp9 hP9 hI9 hk9 hS => ?_)
  obtain ⟨g1, hR1, ht1, hr1, hg1⟩ := hp9
  have hLS := (TwS.c hLS.sw hz hP9 hI9 hk9).sw
  refine lv_istore (lv' := [(7, .int r7), (6, .int r6), (0, .ref b), (1, .ref (ad 0 0)), (2, .ref (g.1 0 0)), (3, .ref o1), (4, .ref o2), (5, .int x5)]) hx hb dL_law_403 hl (by decide) rfl (fun ls hl => ?_)
  refine lv_aload_n hx hb dL_law_405 rfl (lv_at hl 4 rfl) ?_
  have hz : s.heap.size ≤ H.size := hS.1
  have hX9 : Mr1 (g.1 0 0) = some (.inr (10, [.ref (g1.1 1 0), .ref (g1.1 2 0), .int (gS (m_bore st p1 p2).2.2 2), .int (gS (m_bore st p1 p2).2.2 3), .int (gS (m_bore st p1 p2).2.2 1), .int (gS (m_bore st p1 p2).2.2 0), .int (thR g1)])) := by rw [← hg1]; exact (hR1.1 0 0 ro0).trans (congrArg some (celR_0 G (m_bore st p1 p2).2.2 g1 0))
  refine lm_calli (va_runV (As := []) (rest := []) ⟨hx, hb, hml, hown, hts⟩ (c_X7_thrown l G (aS H Mr1) Mr1 hX9) (cwV 0 hts gL_law_X7_thrown rfl rfl rfl (by decide +kernel) ⟨Nat.le_of_ble_eq_true rfl, Nat.le_of_ble_eq_true rfl⟩) (sPreV hG hS hLS.2.1 hLS.2.2.2.2.1.2.1 hA (hLS.2.1 _ _ hX9) (r := (RX7, TX7, 7)) rfl) rfl rfl hl.1 rfl (lv_room (Nat.le_of_ble_eq_true rfl)) dL_law_406 ⟨by show cells + 2 + 0 + 0 ≤ 845199; omega, by show slots + 12 + 0 + 0 ≤ 6560506; omega⟩) hLS.2.2.2.2.1.2.1 hS hA (fun r8 M9 H locs hp9 hP9 hI9 hk9 hS => ?_)
  obtain ⟨e8, hm9⟩ := hp9
  subst M9
  have hLS := (TwS.c hLS.sw hz hP9 hI9 hk9).sw
  refine lv_iload hx hb dL_law_409 (lv_at hl 1 rfl) ?_
  refine lv_icmp_eq (tgt := 416) hx hb dL_law_411 (by decide) (fun c1 => ?_) (fun c1 => absurd c1 (fun z => z (by rw [e8, ht1, e6])))
  refine lv_iload hx hb dL_law_416 (lv_at hl 1 rfl) ?_
  refine lv_if_ne (tgt := 433) hx hb dL_law_418 (by decide) (fun c2 => ?_) (fun c2 => ?_)
  · skip
    refine lv_goto (tgt := 2675) hx hb dL_law_433 (by decide) ?_
    refine W.widen (k := cells + 1100) (n := slots + 4500) (by omega) (by omega) ?_
    exact kk _ H locs ls ⟨ad1, g1, Mc1, Mr1, f9, f2, hC1, hR1, (I_bore hV p1 p2), ha1, hg1, hLS⟩ hS (lv_sub hl [2, 3, 4, 5, 6, 7] rfl)
  · skip
    have h0 := nI_z (le_bore st p1 p2) (e6.symm.trans c2)
    refine lv_aload_n hx hb dL_law_421 rfl (lv_at hl 5 rfl) ?_
    refine lv_iconst (v := 0) hx hb dL_law_422 (by decide) ?_
    refine lm_lald hx hb hK 1 hLS.2.2.1 rfl (show vp_in 0 1 by unfold vp_in; decide) (hf1 h0) dL_law_423 ?_
    refine lv_iload hx hb dL_law_424 (lv_at hl 0 rfl) ?_
    refine lv_i2l (v := r7.toInt64) hx hb dL_law_426 rfl ?_
    refine m_lcmp_eq (tgt := 433) hx hb dL_law_427 dL_law_428 (by decide) (fun c3 => ?_) (fun c3 => ?_)
    · skip
      refine lv_goto (tgt := 2675) hx hb dL_law_433 (by decide) ?_
      refine W.widen (k := cells + 1100) (n := slots + 4500) (by omega) (by omega) ?_
      exact kk _ H locs ls ⟨ad1, g1, Mc1, Mr1, f9, f2, hC1, hR1, (I_bore hV p1 p2), ha1, hg1, hLS⟩ hS (lv_sub hl [2, 3, 4, 5, 6, 7] rfl)
    · skip
      exact absurd (by rw [hr1 h0]) c3
theorem le_volume (st : St) (p0 p1 : Int32) : (m_volume st p0 p1).1 < 100 := by
  unfold m_volume
  first | exact le_0 | exact chk_le (by omega) (le_0) | exact chk_le (by omega) (chk_le (by omega) (le_0)) | exact chk_le (by omega) (chk_le (by omega) (chk_le (by omega) (le_0))) | exact chk_le (by omega) (chk_le (by omega) (chk_le (by omega) (chk_le (by omega) (le_0)))) | exact chk_le (by omega) (chk_le (by omega) (chk_le (by omega) (chk_le (by omega) (chk_le (by omega) (le_0))))) | exact chk_le (by omega) (chk_le (by omega) (chk_le (by omega) (chk_le (by omega) (chk_le (by omega) (chk_le (by omega) (le_0)))))) | exact chk_le (by omega) (chk_le (by omega) (chk_le (by omega) (chk_le (by omega) (chk_le (by omega) (chk_le (by omega) (chk_le (by omega) (le_0))))))) | exact chk_le (by omega) (chk_le (by omega) (chk_le (by omega) (chk_le (by omega) (chk_le (by omega) (chk_le (by omega) (chk_le (by omega) (chk_le (by omega) (le_0))))))))
theorem I_volume {st : St} (h : Inv st) (p0 p1 : Int32) : Inv (m_volume st p0 p1).2.2 := by
  unfold m_volume
  first | exact h | exact chk_I h (fun _ => h) | exact chk_I h (fun _ => chk_I h (fun _ => h)) | exact chk_I h (fun _ => chk_I h (fun _ => chk_I h (fun _ => h))) | exact chk_I h (fun _ => chk_I h (fun _ => chk_I h (fun _ => chk_I h (fun _ => h)))) | exact chk_I h (fun _ => chk_I h (fun _ => chk_I h (fun _ => chk_I h (fun _ => chk_I h (fun _ => h))))) | exact chk_I h (fun _ => chk_I h (fun _ => chk_I h (fun _ => chk_I h (fun _ => chk_I h (fun _ => chk_I h (fun _ => h)))))) | exact chk_I h (fun _ => chk_I h (fun _ => chk_I h (fun _ => chk_I h (fun _ => chk_I h (fun _ => chk_I h (fun _ => chk_I h (fun _ => h))))))) | exact chk_I h (fun _ => chk_I h (fun _ => chk_I h (fun _ => chk_I h (fun _ => chk_I h (fun _ => chk_I h (fun _ => chk_I h (fun _ => chk_I h (fun _ => h))))))))
set_option maxHeartbeats 4000000 in
set_option maxRecDepth 100000 in
theorem law_volume {p : Program} {l : Launch} {e : Env} {s : State} {m : MethodId} {below : List Frame} {meth : Method} {c : Code} {Q : State → Prop} {b L : Nat} {xs : Nat → Int32} {G : mg} (C0 : TwC p l s m c b L xs G) {H : Heap} {locs : List Loc} {ls : Array Slot} {cells slots : Nat} (hcs : cells + 1100 ≤ 845199 ∧ slots + 4500 ≤ 6560506) {cw rw o1 o2 : Nat} {st : St} {x5 p1 p2 p3 p4 : Int32} (hLI : TwI G s.heap.size H cw rw o1 o2 st) (hS : va_S (aH s.heap.size) s.heap H locs) (hl : lv_has ls 9 [(0, .ref b), (1, .ref cw), (2, .ref rw), (3, .ref o1), (4, .ref o2), (5, .int x5)]) (hi1 : vp_in (x5 + 1) L) (hi2 : vp_in (x5 + 2) L) (hi3 : vp_in (x5 + 3) L) (hi4 : vp_in (x5 + 4) L) (hv1 : xs (x5 + 1).toNatClampNeg = p1) (hv2 : xs (x5 + 2).toNatClampNeg = p2) (hv3 : xs (x5 + 3).toNatClampNeg = p3) (hv4 : xs (x5 + 4).toNatClampNeg = p4)
    (kk : ∀ (st1 : St) (H1 : Heap) (locs1 : List Loc) (ls1 : Array Slot), TwI G s.heap.size H1 cw rw o1 o2 st1 → va_S (aH s.heap.size) s.heap H1 locs1 → lv_has ls1 9 [(0, .ref b), (1, .ref cw), (2, .ref rw), (3, .ref o1), (4, .ref o2), (5, .int x5)] → W p l e room_1 s m #[Value.ref b] below meth c H1 locs1 (cells + 1100) (slots + 4500) Q (F0 m 2675 ls1 [])) : W p l e room_1 s m #[Value.ref b] below meth c H locs cells slots Q (F0 m 436 ls []) := by
  obtain ⟨hx, hb, hml, hown, hts, hX, hbl, hG, hl9⟩ := C0
  obtain ⟨ad, g, Mc, Mr, f1, f2, hC, hR, hV, rfl, rfl, hLS⟩ := hLI
  have hA : ∀ q : Nat, s.heap.size ≤ q → aH s.heap.size q := fun _ h => h
  have hK := hG.K
  refine lv_aload_n hx hb dL_law_436 rfl (lv_at hl 1 rfl) ?_
  refine lv_aload_n hx hb dL_law_437 rfl (lv_at hl 0 rfl) ?_
  refine lv_iload hx hb dL_law_438 (lv_at hl 5 rfl) ?_
  refine lv_iconst (v := 1) hx hb dL_law_440 (by decide) ?_
  refine lv_iadd hx hb dL_law_441 ?_
  refine lm_sld hx hb hX hbl hS hi1 hv1 dL_law_442 ?_
  refine lv_aload_n hx hb dL_law_443 rfl (lv_at hl 0 rfl) ?_
  refine lv_iload hx hb dL_law_444 (lv_at hl 5 rfl) ?_
  refine lv_iconst (v := 2) hx hb dL_law_446 (by decide) ?_
  refine lv_iadd hx hb dL_law_447 ?_
  refine lm_sld hx hb hX hbl hS hi2 hv2 dL_law_448 ?_
  refine lv_aload_n hx hb dL_law_449 rfl (lv_at hl 3 rfl) ?_
  have hLo := hLS
  have hz : s.heap.size ≤ H.size := hS.1
  have hPM : mP G.1 (mu Mc o1 (.inl (G.2.1 1, 1, .inr (.inl f1)))) H := mP_o hLo.1 hLo.2.2.1
  have hIM : mI (aH s.heap.size) (mu Mc o1 (.inl (G.2.1 1, 1, .inr (.inl f1)))) := mI.mu hLo.2.2.2.2.1.1 hLo.2.2.2.2.1.2.2.1
  refine ls_calli (vx_runSX (As := [.ref (ad 0 0), .int p1, .int p2, .ref o1]) (rest := []) ⟨hx, hb, hml, hown, hts⟩ (c_L_volume l G (aS H (mu Mc o1 (.inl (G.2.1 1, 1, .inr (.inl f1))))) Mc hl9 st ad p1 p2 o1 hLo.2.2.2.2.2.2.1 hC hV) (vx_cwSW 4 hts gL_law_L_volume rfl rfl rfl (by decide +kernel) ⟨Nat.le_of_ble_eq_true rfl, Nat.le_of_ble_eq_true rfl⟩) (sPreS hG hS hPM hIM hA) rfl rfl hl.1 rfl (lv_room (Nat.le_of_ble_eq_true rfl)) dL_law_450 ⟨by show cells + 2 ≤ 845199; omega, by show slots + 12 ≤ 6560506; omega⟩) hIM hS hA (fun r6 M9 H locs hp9 hP9 hI9 hk9 hS => ?_)
  obtain ⟨ad1, Mc1, f9, e6, hn9, rfl, hC1, ha1, hf1⟩ := hp9
  have hLS := TwS.c1 hLo hz hP9 hn9 hI9 hk9
  refine lv_istore (lv' := [(6, .int r6), (0, .ref b), (1, .ref (ad 0 0)), (2, .ref (g.1 0 0)), (3, .ref o1), (4, .ref o2), (5, .int x5)]) hx hb dL_law_453 hl (by decide) rfl (fun ls hl => ?_)
  refine lv_aload_n hx hb dL_law_455 rfl (lv_at hl 3 rfl) ?_
  refine lv_aload_n hx hb dL_law_456 rfl (lv_at hl 1 rfl) ?_
  refine lv_iload hx hb dL_law_457 (lv_at hl 6 rfl) ?_
  refine lv_iconst (v := 1) hx hb dL_law_459 (by decide) ?_
  refine lv_iadd hx hb dL_law_460 ?_
  refine lm_sld hx hb hX hbl hS hi1 hv1 dL_law_461 ?_
  refine lv_aload_n hx hb dL_law_462 rfl (lv_at hl 1 rfl) ?_
  refine lv_iload hx hb dL_law_463 (lv_at hl 6 rfl) ?_
  refine lv_iconst (v := 2) hx hb dL_law_465 (by decide) ?_
  refine lv_iadd hx hb dL_law_466 ?_
  refine lm_sld hx hb hX hbl hS hi2 hv2 dL_law_467 ?_
  have hz : s.heap.size ≤ H.size := hS.1
  refine lm_calli (va_runV (As := [.int p1, .int p2]) (rest := []) ⟨hx, hb, hml, hown, hts⟩ (c_X7_volume l G (aS H Mr) Mr st g p1 p2 hR hV) (cwV 2 hts gL_law_X7_volume rfl rfl rfl (by decide +kernel) ⟨Nat.le_of_ble_eq_true rfl, Nat.le_of_ble_eq_true rfl⟩) (sPreV hG hS hLS.2.1 hLS.2.2.2.2.1.2.1 hA (RS.at0 hR hLS.2.1) (r := (RX7, TX7, 7)) rfl) rfl rfl hl.1 rfl (lv_room (Nat.le_of_ble_eq_true rfl)) dL_law_468 ⟨by show cells + 2 + 0 ≤ 845199; omega, by show slots + 12 + 0 ≤ 6560506; omega⟩) hLS.2.2.2.2.1.2.1 hS hA (fun r7 Mr1 H locs hp9 hP9 hI9 hk9 hS => ?_)
  obtain ⟨g1, hR1, ht1, hr1, hg1⟩ := hp9
  have hLS := (TwS.c hLS.sw hz hP9 hI9 hk9).sw
  refine lv_istore (lv' := [(7, .int r7), (6, .int r6), (0, .ref b), (1, .ref (ad 0 0)), (2, .ref (g.1 0 0)), (3, .ref o1), (4, .ref o2), (5, .int x5)]) hx hb dL_law_471 hl (by decide) rfl (fun ls hl => ?_)
  refine lv_aload_n hx hb dL_law_473 rfl (lv_at hl 4 rfl) ?_
  have hz : s.heap.size ≤ H.size := hS.1
  have hX9 : Mr1 (g.1 0 0) = some (.inr (10, [.ref (g1.1 1 0), .ref (g1.1 2 0), .int (gS (m_volume st p1 p2).2.2 2), .int (gS (m_volume st p1 p2).2.2 3), .int (gS (m_volume st p1 p2).2.2 1), .int (gS (m_volume st p1 p2).2.2 0), .int (thR g1)])) := by rw [← hg1]; exact (hR1.1 0 0 ro0).trans (congrArg some (celR_0 G (m_volume st p1 p2).2.2 g1 0))
  refine lm_calli (va_runV (As := []) (rest := []) ⟨hx, hb, hml, hown, hts⟩ (c_X7_thrown l G (aS H Mr1) Mr1 hX9) (cwV 0 hts gL_law_X7_thrown rfl rfl rfl (by decide +kernel) ⟨Nat.le_of_ble_eq_true rfl, Nat.le_of_ble_eq_true rfl⟩) (sPreV hG hS hLS.2.1 hLS.2.2.2.2.1.2.1 hA (hLS.2.1 _ _ hX9) (r := (RX7, TX7, 7)) rfl) rfl rfl hl.1 rfl (lv_room (Nat.le_of_ble_eq_true rfl)) dL_law_474 ⟨by show cells + 2 + 0 + 0 ≤ 845199; omega, by show slots + 12 + 0 + 0 ≤ 6560506; omega⟩) hLS.2.2.2.2.1.2.1 hS hA (fun r8 M9 H locs hp9 hP9 hI9 hk9 hS => ?_)
  obtain ⟨e8, hm9⟩ := hp9
  subst M9
  have hLS := (TwS.c hLS.sw hz hP9 hI9 hk9).sw
  refine lv_iload hx hb dL_law_477 (lv_at hl 1 rfl) ?_
  refine lv_icmp_eq (tgt := 484) hx hb dL_law_479 (by decide) (fun c1 => ?_) (fun c1 => absurd c1 (fun z => z (by rw [e8, ht1, e6])))
  refine lv_iload hx hb dL_law_484 (lv_at hl 1 rfl) ?_
  refine lv_if_ne (tgt := 501) hx hb dL_law_486 (by decide) (fun c2 => ?_) (fun c2 => ?_)
  · skip
    refine lv_goto (tgt := 2675) hx hb dL_law_501 (by decide) ?_
    refine W.widen (k := cells + 1100) (n := slots + 4500) (by omega) (by omega) ?_
    exact kk _ H locs ls ⟨ad1, g1, Mc1, Mr1, f9, f2, hC1, hR1, (I_volume hV p1 p2), ha1, hg1, hLS⟩ hS (lv_sub hl [2, 3, 4, 5, 6, 7] rfl)
  · skip
    have h0 := nI_z (le_volume st p1 p2) (e6.symm.trans c2)
    refine lv_aload_n hx hb dL_law_489 rfl (lv_at hl 5 rfl) ?_
    refine lv_iconst (v := 0) hx hb dL_law_490 (by decide) ?_
    refine lm_lald hx hb hK 1 hLS.2.2.1 rfl (show vp_in 0 1 by unfold vp_in; decide) (hf1 h0) dL_law_491 ?_
    refine lv_iload hx hb dL_law_492 (lv_at hl 0 rfl) ?_
    refine lv_i2l (v := r7.toInt64) hx hb dL_law_494 rfl ?_
    refine m_lcmp_eq (tgt := 501) hx hb dL_law_495 dL_law_496 (by decide) (fun c3 => ?_) (fun c3 => ?_)
    · skip
      refine lv_goto (tgt := 2675) hx hb dL_law_501 (by decide) ?_
      refine W.widen (k := cells + 1100) (n := slots + 4500) (by omega) (by omega) ?_
      exact kk _ H locs ls ⟨ad1, g1, Mc1, Mr1, f9, f2, hC1, hR1, (I_volume hV p1 p2), ha1, hg1, hLS⟩ hS (lv_sub hl [2, 3, 4, 5, 6, 7] rfl)
    · skip
      exact absurd (by rw [hr1 h0]) c3
theorem le_thread (st : St) (p0 p1 p2 : Int32) : (m_thread st p0 p1 p2).1 < 100 := by
  unfold m_thread
  first | exact le_0 | exact chk_le (by omega) (le_0) | exact chk_le (by omega) (chk_le (by omega) (le_0)) | exact chk_le (by omega) (chk_le (by omega) (chk_le (by omega) (le_0))) | exact chk_le (by omega) (chk_le (by omega) (chk_le (by omega) (chk_le (by omega) (le_0)))) | exact chk_le (by omega) (chk_le (by omega) (chk_le (by omega) (chk_le (by omega) (chk_le (by omega) (le_0))))) | exact chk_le (by omega) (chk_le (by omega) (chk_le (by omega) (chk_le (by omega) (chk_le (by omega) (chk_le (by omega) (le_0)))))) | exact chk_le (by omega) (chk_le (by omega) (chk_le (by omega) (chk_le (by omega) (chk_le (by omega) (chk_le (by omega) (chk_le (by omega) (le_0))))))) | exact chk_le (by omega) (chk_le (by omega) (chk_le (by omega) (chk_le (by omega) (chk_le (by omega) (chk_le (by omega) (chk_le (by omega) (chk_le (by omega) (le_0))))))))
theorem I_thread {st : St} (h : Inv st) (p0 p1 p2 : Int32) : Inv (m_thread st p0 p1 p2).2.2 := by
  unfold m_thread
  first | exact h | exact chk_I h (fun _ => h) | exact chk_I h (fun _ => chk_I h (fun _ => h)) | exact chk_I h (fun _ => chk_I h (fun _ => chk_I h (fun _ => h))) | exact chk_I h (fun _ => chk_I h (fun _ => chk_I h (fun _ => chk_I h (fun _ => h)))) | exact chk_I h (fun _ => chk_I h (fun _ => chk_I h (fun _ => chk_I h (fun _ => chk_I h (fun _ => h))))) | exact chk_I h (fun _ => chk_I h (fun _ => chk_I h (fun _ => chk_I h (fun _ => chk_I h (fun _ => chk_I h (fun _ => h)))))) | exact chk_I h (fun _ => chk_I h (fun _ => chk_I h (fun _ => chk_I h (fun _ => chk_I h (fun _ => chk_I h (fun _ => chk_I h (fun _ => h))))))) | exact chk_I h (fun _ => chk_I h (fun _ => chk_I h (fun _ => chk_I h (fun _ => chk_I h (fun _ => chk_I h (fun _ => chk_I h (fun _ => chk_I h (fun _ => h))))))))
set_option maxHeartbeats 4000000 in
set_option maxRecDepth 100000 in
theorem law_thread {p : Program} {l : Launch} {e : Env} {s : State} {m : MethodId} {below : List Frame} {meth : Method} {c : Code} {Q : State → Prop} {b L : Nat} {xs : Nat → Int32} {G : mg} (C0 : TwC p l s m c b L xs G) {H : Heap} {locs : List Loc} {ls : Array Slot} {cells slots : Nat} (hcs : cells + 1100 ≤ 845199 ∧ slots + 4500 ≤ 6560506) {cw rw o1 o2 : Nat} {st : St} {x5 p1 p2 p3 p4 : Int32} (hLI : TwI G s.heap.size H cw rw o1 o2 st) (hS : va_S (aH s.heap.size) s.heap H locs) (hl : lv_has ls 9 [(0, .ref b), (1, .ref cw), (2, .ref rw), (3, .ref o1), (4, .ref o2), (5, .int x5)]) (hi1 : vp_in (x5 + 1) L) (hi2 : vp_in (x5 + 2) L) (hi3 : vp_in (x5 + 3) L) (hi4 : vp_in (x5 + 4) L) (hv1 : xs (x5 + 1).toNatClampNeg = p1) (hv2 : xs (x5 + 2).toNatClampNeg = p2) (hv3 : xs (x5 + 3).toNatClampNeg = p3) (hv4 : xs (x5 + 4).toNatClampNeg = p4)
    (kk : ∀ (st1 : St) (H1 : Heap) (locs1 : List Loc) (ls1 : Array Slot), TwI G s.heap.size H1 cw rw o1 o2 st1 → va_S (aH s.heap.size) s.heap H1 locs1 → lv_has ls1 9 [(0, .ref b), (1, .ref cw), (2, .ref rw), (3, .ref o1), (4, .ref o2), (5, .int x5)] → W p l e room_1 s m #[Value.ref b] below meth c H1 locs1 (cells + 1100) (slots + 4500) Q (F0 m 2675 ls1 [])) : W p l e room_1 s m #[Value.ref b] below meth c H locs cells slots Q (F0 m 504 ls []) := by
  obtain ⟨hx, hb, hml, hown, hts, hX, hbl, hG, hl9⟩ := C0
  obtain ⟨ad, g, Mc, Mr, f1, f2, hC, hR, hV, rfl, rfl, hLS⟩ := hLI
  have hA : ∀ q : Nat, s.heap.size ≤ q → aH s.heap.size q := fun _ h => h
  have hK := hG.K
  refine lv_aload_n hx hb dL_law_504 rfl (lv_at hl 1 rfl) ?_
  refine lv_aload_n hx hb dL_law_505 rfl (lv_at hl 0 rfl) ?_
  refine lv_iload hx hb dL_law_506 (lv_at hl 5 rfl) ?_
  refine lv_iconst (v := 1) hx hb dL_law_508 (by decide) ?_
  refine lv_iadd hx hb dL_law_509 ?_
  refine lm_sld hx hb hX hbl hS hi1 hv1 dL_law_510 ?_
  refine lv_aload_n hx hb dL_law_511 rfl (lv_at hl 0 rfl) ?_
  refine lv_iload hx hb dL_law_512 (lv_at hl 5 rfl) ?_
  refine lv_iconst (v := 2) hx hb dL_law_514 (by decide) ?_
  refine lv_iadd hx hb dL_law_515 ?_
  refine lm_sld hx hb hX hbl hS hi2 hv2 dL_law_516 ?_
  refine lv_aload_n hx hb dL_law_517 rfl (lv_at hl 0 rfl) ?_
  refine lv_iload hx hb dL_law_518 (lv_at hl 5 rfl) ?_
  refine lv_iconst (v := 3) hx hb dL_law_520 (by decide) ?_
  refine lv_iadd hx hb dL_law_521 ?_
  refine lm_sld hx hb hX hbl hS hi3 hv3 dL_law_522 ?_
  refine lv_aload_n hx hb dL_law_523 rfl (lv_at hl 3 rfl) ?_
  have hLo := hLS
  have hz : s.heap.size ≤ H.size := hS.1
  have hPM : mP G.1 (mu Mc o1 (.inl (G.2.1 1, 1, .inr (.inl f1)))) H := mP_o hLo.1 hLo.2.2.1
  have hIM : mI (aH s.heap.size) (mu Mc o1 (.inl (G.2.1 1, 1, .inr (.inl f1)))) := mI.mu hLo.2.2.2.2.1.1 hLo.2.2.2.2.1.2.2.1
  refine ls_calli (vx_runSX (As := [.ref (ad 0 0), .int p1, .int p2, .int p3, .ref o1]) (rest := []) ⟨hx, hb, hml, hown, hts⟩ (c_L_thread l G (aS H (mu Mc o1 (.inl (G.2.1 1, 1, .inr (.inl f1))))) Mc hl9 st ad p1 p2 p3 o1 hLo.2.2.2.2.2.2.1 hC hV) (vx_cwSW 5 hts gL_law_L_thread rfl rfl rfl (by decide +kernel) ⟨Nat.le_of_ble_eq_true rfl, Nat.le_of_ble_eq_true rfl⟩) (sPreS hG hS hPM hIM hA) rfl rfl hl.1 rfl (lv_room (Nat.le_of_ble_eq_true rfl)) dL_law_524 ⟨by show cells + 4 ≤ 845199; omega, by show slots + 24 ≤ 6560506; omega⟩) hIM hS hA (fun r6 M9 H locs hp9 hP9 hI9 hk9 hS => ?_)
  obtain ⟨ad1, Mc1, f9, e6, hn9, rfl, hC1, ha1, hf1⟩ := hp9
  have hLS := TwS.c1 hLo hz hP9 hn9 hI9 hk9
  refine lv_istore (lv' := [(6, .int r6), (0, .ref b), (1, .ref (ad 0 0)), (2, .ref (g.1 0 0)), (3, .ref o1), (4, .ref o2), (5, .int x5)]) hx hb dL_law_527 hl (by decide) rfl (fun ls hl => ?_)
  refine lv_aload_n hx hb dL_law_529 rfl (lv_at hl 3 rfl) ?_
  refine lv_aload_n hx hb dL_law_530 rfl (lv_at hl 1 rfl) ?_
  refine lv_iload hx hb dL_law_531 (lv_at hl 6 rfl) ?_
  refine lv_iconst (v := 1) hx hb dL_law_533 (by decide) ?_
  refine lv_iadd hx hb dL_law_534 ?_
  refine lm_sld hx hb hX hbl hS hi1 hv1 dL_law_535 ?_
  refine lv_aload_n hx hb dL_law_536 rfl (lv_at hl 1 rfl) ?_
  refine lv_iload hx hb dL_law_537 (lv_at hl 6 rfl) ?_
  refine lv_iconst (v := 2) hx hb dL_law_539 (by decide) ?_
  refine lv_iadd hx hb dL_law_540 ?_
  refine lm_sld hx hb hX hbl hS hi2 hv2 dL_law_541 ?_
  refine lv_aload_n hx hb dL_law_542 rfl (lv_at hl 1 rfl) ?_
  refine lv_iload hx hb dL_law_543 (lv_at hl 6 rfl) ?_
  refine lv_iconst (v := 3) hx hb dL_law_545 (by decide) ?_
  refine lv_iadd hx hb dL_law_546 ?_
  refine lm_sld hx hb hX hbl hS hi3 hv3 dL_law_547 ?_
  have hz : s.heap.size ≤ H.size := hS.1
  refine lm_calli (va_runV (As := [.int p1, .int p2, .int p3]) (rest := []) ⟨hx, hb, hml, hown, hts⟩ (c_X7_thread l G (aS H Mr) Mr st g p1 p2 p3 hR hV) (cwV 3 hts gL_law_X7_thread rfl rfl rfl (by decide +kernel) ⟨Nat.le_of_ble_eq_true rfl, Nat.le_of_ble_eq_true rfl⟩) (sPreV hG hS hLS.2.1 hLS.2.2.2.2.1.2.1 hA (RS.at0 hR hLS.2.1) (r := (RX7, TX7, 7)) rfl) rfl rfl hl.1 rfl (lv_room (Nat.le_of_ble_eq_true rfl)) dL_law_548 ⟨by show cells + 4 + 0 ≤ 845199; omega, by show slots + 24 + 0 ≤ 6560506; omega⟩) hLS.2.2.2.2.1.2.1 hS hA (fun r7 Mr1 H locs hp9 hP9 hI9 hk9 hS => ?_)
  obtain ⟨g1, hR1, ht1, hr1, hg1⟩ := hp9
  have hLS := (TwS.c hLS.sw hz hP9 hI9 hk9).sw
  refine lv_istore (lv' := [(7, .int r7), (6, .int r6), (0, .ref b), (1, .ref (ad 0 0)), (2, .ref (g.1 0 0)), (3, .ref o1), (4, .ref o2), (5, .int x5)]) hx hb dL_law_551 hl (by decide) rfl (fun ls hl => ?_)
  refine lv_aload_n hx hb dL_law_553 rfl (lv_at hl 4 rfl) ?_
  have hz : s.heap.size ≤ H.size := hS.1
  have hX9 : Mr1 (g.1 0 0) = some (.inr (10, [.ref (g1.1 1 0), .ref (g1.1 2 0), .int (gS (m_thread st p1 p2 p3).2.2 2), .int (gS (m_thread st p1 p2 p3).2.2 3), .int (gS (m_thread st p1 p2 p3).2.2 1), .int (gS (m_thread st p1 p2 p3).2.2 0), .int (thR g1)])) := by rw [← hg1]; exact (hR1.1 0 0 ro0).trans (congrArg some (celR_0 G (m_thread st p1 p2 p3).2.2 g1 0))
  refine lm_calli (va_runV (As := []) (rest := []) ⟨hx, hb, hml, hown, hts⟩ (c_X7_thrown l G (aS H Mr1) Mr1 hX9) (cwV 0 hts gL_law_X7_thrown rfl rfl rfl (by decide +kernel) ⟨Nat.le_of_ble_eq_true rfl, Nat.le_of_ble_eq_true rfl⟩) (sPreV hG hS hLS.2.1 hLS.2.2.2.2.1.2.1 hA (hLS.2.1 _ _ hX9) (r := (RX7, TX7, 7)) rfl) rfl rfl hl.1 rfl (lv_room (Nat.le_of_ble_eq_true rfl)) dL_law_554 ⟨by show cells + 4 + 0 + 0 ≤ 845199; omega, by show slots + 24 + 0 + 0 ≤ 6560506; omega⟩) hLS.2.2.2.2.1.2.1 hS hA (fun r8 M9 H locs hp9 hP9 hI9 hk9 hS => ?_)
  obtain ⟨e8, hm9⟩ := hp9
  subst M9
  have hLS := (TwS.c hLS.sw hz hP9 hI9 hk9).sw
  refine lv_iload hx hb dL_law_557 (lv_at hl 1 rfl) ?_
  refine lv_icmp_eq (tgt := 564) hx hb dL_law_559 (by decide) (fun c1 => ?_) (fun c1 => absurd c1 (fun z => z (by rw [e8, ht1, e6])))
  refine lv_iload hx hb dL_law_564 (lv_at hl 1 rfl) ?_
  refine lv_if_ne (tgt := 581) hx hb dL_law_566 (by decide) (fun c2 => ?_) (fun c2 => ?_)
  · skip
    refine lv_goto (tgt := 2675) hx hb dL_law_581 (by decide) ?_
    refine W.widen (k := cells + 1100) (n := slots + 4500) (by omega) (by omega) ?_
    exact kk _ H locs ls ⟨ad1, g1, Mc1, Mr1, f9, f2, hC1, hR1, (I_thread hV p1 p2 p3), ha1, hg1, hLS⟩ hS (lv_sub hl [2, 3, 4, 5, 6, 7] rfl)
  · skip
    have h0 := nI_z (le_thread st p1 p2 p3) (e6.symm.trans c2)
    refine lv_aload_n hx hb dL_law_569 rfl (lv_at hl 5 rfl) ?_
    refine lv_iconst (v := 0) hx hb dL_law_570 (by decide) ?_
    refine lm_lald hx hb hK 1 hLS.2.2.1 rfl (show vp_in 0 1 by unfold vp_in; decide) (hf1 h0) dL_law_571 ?_
    refine lv_iload hx hb dL_law_572 (lv_at hl 0 rfl) ?_
    refine lv_i2l (v := r7.toInt64) hx hb dL_law_574 rfl ?_
    refine m_lcmp_eq (tgt := 581) hx hb dL_law_575 dL_law_576 (by decide) (fun c3 => ?_) (fun c3 => ?_)
    · skip
      refine lv_goto (tgt := 2675) hx hb dL_law_581 (by decide) ?_
      refine W.widen (k := cells + 1100) (n := slots + 4500) (by omega) (by omega) ?_
      exact kk _ H locs ls ⟨ad1, g1, Mc1, Mr1, f9, f2, hC1, hR1, (I_thread hV p1 p2 p3), ha1, hg1, hLS⟩ hS (lv_sub hl [2, 3, 4, 5, 6, 7] rfl)
    · skip
      exact absurd (by rw [hr1 h0]) c3
theorem le_widest (st : St) (p0 : Int32) : (m_widest st p0).1 < 100 := by
  unfold m_widest
  first | exact le_0 | exact chk_le (by omega) (le_0) | exact chk_le (by omega) (chk_le (by omega) (le_0)) | exact chk_le (by omega) (chk_le (by omega) (chk_le (by omega) (le_0))) | exact chk_le (by omega) (chk_le (by omega) (chk_le (by omega) (chk_le (by omega) (le_0)))) | exact chk_le (by omega) (chk_le (by omega) (chk_le (by omega) (chk_le (by omega) (chk_le (by omega) (le_0))))) | exact chk_le (by omega) (chk_le (by omega) (chk_le (by omega) (chk_le (by omega) (chk_le (by omega) (chk_le (by omega) (le_0)))))) | exact chk_le (by omega) (chk_le (by omega) (chk_le (by omega) (chk_le (by omega) (chk_le (by omega) (chk_le (by omega) (chk_le (by omega) (le_0))))))) | exact chk_le (by omega) (chk_le (by omega) (chk_le (by omega) (chk_le (by omega) (chk_le (by omega) (chk_le (by omega) (chk_le (by omega) (chk_le (by omega) (le_0))))))))
theorem I_widest {st : St} (h : Inv st) (p0 : Int32) : Inv (m_widest st p0).2.2 := by
  unfold m_widest
  first | exact h | exact chk_I h (fun _ => h) | exact chk_I h (fun _ => chk_I h (fun _ => h)) | exact chk_I h (fun _ => chk_I h (fun _ => chk_I h (fun _ => h))) | exact chk_I h (fun _ => chk_I h (fun _ => chk_I h (fun _ => chk_I h (fun _ => h)))) | exact chk_I h (fun _ => chk_I h (fun _ => chk_I h (fun _ => chk_I h (fun _ => chk_I h (fun _ => h))))) | exact chk_I h (fun _ => chk_I h (fun _ => chk_I h (fun _ => chk_I h (fun _ => chk_I h (fun _ => chk_I h (fun _ => h)))))) | exact chk_I h (fun _ => chk_I h (fun _ => chk_I h (fun _ => chk_I h (fun _ => chk_I h (fun _ => chk_I h (fun _ => chk_I h (fun _ => h))))))) | exact chk_I h (fun _ => chk_I h (fun _ => chk_I h (fun _ => chk_I h (fun _ => chk_I h (fun _ => chk_I h (fun _ => chk_I h (fun _ => chk_I h (fun _ => h))))))))
set_option maxHeartbeats 4000000 in
set_option maxRecDepth 100000 in
theorem law_widest {p : Program} {l : Launch} {e : Env} {s : State} {m : MethodId} {below : List Frame} {meth : Method} {c : Code} {Q : State → Prop} {b L : Nat} {xs : Nat → Int32} {G : mg} (C0 : TwC p l s m c b L xs G) {H : Heap} {locs : List Loc} {ls : Array Slot} {cells slots : Nat} (hcs : cells + 1100 ≤ 845199 ∧ slots + 4500 ≤ 6560506) {cw rw o1 o2 : Nat} {st : St} {x5 p1 p2 p3 p4 : Int32} (hLI : TwI G s.heap.size H cw rw o1 o2 st) (hS : va_S (aH s.heap.size) s.heap H locs) (hl : lv_has ls 9 [(0, .ref b), (1, .ref cw), (2, .ref rw), (3, .ref o1), (4, .ref o2), (5, .int x5)]) (hi1 : vp_in (x5 + 1) L) (hi2 : vp_in (x5 + 2) L) (hi3 : vp_in (x5 + 3) L) (hi4 : vp_in (x5 + 4) L) (hv1 : xs (x5 + 1).toNatClampNeg = p1) (hv2 : xs (x5 + 2).toNatClampNeg = p2) (hv3 : xs (x5 + 3).toNatClampNeg = p3) (hv4 : xs (x5 + 4).toNatClampNeg = p4)
    (kk : ∀ (st1 : St) (H1 : Heap) (locs1 : List Loc) (ls1 : Array Slot), TwI G s.heap.size H1 cw rw o1 o2 st1 → va_S (aH s.heap.size) s.heap H1 locs1 → lv_has ls1 9 [(0, .ref b), (1, .ref cw), (2, .ref rw), (3, .ref o1), (4, .ref o2), (5, .int x5)] → W p l e room_1 s m #[Value.ref b] below meth c H1 locs1 (cells + 1100) (slots + 4500) Q (F0 m 2675 ls1 [])) : W p l e room_1 s m #[Value.ref b] below meth c H locs cells slots Q (F0 m 584 ls []) := by
  obtain ⟨hx, hb, hml, hown, hts, hX, hbl, hG, hl9⟩ := C0
  obtain ⟨ad, g, Mc, Mr, f1, f2, hC, hR, hV, rfl, rfl, hLS⟩ := hLI
  have hA : ∀ q : Nat, s.heap.size ≤ q → aH s.heap.size q := fun _ h => h
  have hK := hG.K
  refine lv_aload_n hx hb dL_law_584 rfl (lv_at hl 1 rfl) ?_
  refine lv_aload_n hx hb dL_law_585 rfl (lv_at hl 0 rfl) ?_
  refine lv_iload hx hb dL_law_586 (lv_at hl 5 rfl) ?_
  refine lv_iconst (v := 1) hx hb dL_law_588 (by decide) ?_
  refine lv_iadd hx hb dL_law_589 ?_
  refine lm_sld hx hb hX hbl hS hi1 hv1 dL_law_590 ?_
  refine lv_aload_n hx hb dL_law_591 rfl (lv_at hl 3 rfl) ?_
  have hLo := hLS
  have hz : s.heap.size ≤ H.size := hS.1
  have hPM : mP G.1 (mu Mc o1 (.inl (G.2.1 1, 1, .inr (.inl f1)))) H := mP_o hLo.1 hLo.2.2.1
  have hIM : mI (aH s.heap.size) (mu Mc o1 (.inl (G.2.1 1, 1, .inr (.inl f1)))) := mI.mu hLo.2.2.2.2.1.1 hLo.2.2.2.2.1.2.2.1
  refine ls_calli (vx_runSX (As := [.ref (ad 0 0), .int p1, .ref o1]) (rest := []) ⟨hx, hb, hml, hown, hts⟩ (c_L_widest l G (aS H (mu Mc o1 (.inl (G.2.1 1, 1, .inr (.inl f1))))) Mc hl9 st ad p1 o1 hLo.2.2.2.2.2.2.1 hC hV) (vx_cwSW 3 hts gL_law_L_widest rfl rfl rfl (by decide +kernel) ⟨Nat.le_of_ble_eq_true rfl, Nat.le_of_ble_eq_true rfl⟩) (sPreS hG hS hPM hIM hA) rfl rfl hl.1 rfl (lv_room (Nat.le_of_ble_eq_true rfl)) dL_law_592 ⟨by show cells + 1 ≤ 845199; omega, by show slots + 6 ≤ 6560506; omega⟩) hIM hS hA (fun r6 M9 H locs hp9 hP9 hI9 hk9 hS => ?_)
  obtain ⟨ad1, Mc1, f9, e6, hn9, rfl, hC1, ha1, hf1⟩ := hp9
  have hLS := TwS.c1 hLo hz hP9 hn9 hI9 hk9
  refine lv_istore (lv' := [(6, .int r6), (0, .ref b), (1, .ref (ad 0 0)), (2, .ref (g.1 0 0)), (3, .ref o1), (4, .ref o2), (5, .int x5)]) hx hb dL_law_595 hl (by decide) rfl (fun ls hl => ?_)
  refine lv_aload_n hx hb dL_law_597 rfl (lv_at hl 3 rfl) ?_
  refine lv_aload_n hx hb dL_law_598 rfl (lv_at hl 1 rfl) ?_
  refine lv_iload hx hb dL_law_599 (lv_at hl 6 rfl) ?_
  refine lv_iconst (v := 1) hx hb dL_law_601 (by decide) ?_
  refine lv_iadd hx hb dL_law_602 ?_
  refine lm_sld hx hb hX hbl hS hi1 hv1 dL_law_603 ?_
  have hz : s.heap.size ≤ H.size := hS.1
  refine lm_calli (va_runV (As := [.int p1]) (rest := []) ⟨hx, hb, hml, hown, hts⟩ (c_X7_widest l G (aS H Mr) Mr st g p1 hR hV) (cwV 1 hts gL_law_X7_widest rfl rfl rfl (by decide +kernel) ⟨Nat.le_of_ble_eq_true rfl, Nat.le_of_ble_eq_true rfl⟩) (sPreV hG hS hLS.2.1 hLS.2.2.2.2.1.2.1 hA (RS.at0 hR hLS.2.1) (r := (RX7, TX7, 7)) rfl) rfl rfl hl.1 rfl (lv_room (Nat.le_of_ble_eq_true rfl)) dL_law_604 ⟨by show cells + 1 + 0 ≤ 845199; omega, by show slots + 6 + 0 ≤ 6560506; omega⟩) hLS.2.2.2.2.1.2.1 hS hA (fun r7 Mr1 H locs hp9 hP9 hI9 hk9 hS => ?_)
  obtain ⟨g1, hR1, ht1, hr1, hg1⟩ := hp9
  have hLS := (TwS.c hLS.sw hz hP9 hI9 hk9).sw
  refine lv_istore (lv' := [(7, .int r7), (6, .int r6), (0, .ref b), (1, .ref (ad 0 0)), (2, .ref (g.1 0 0)), (3, .ref o1), (4, .ref o2), (5, .int x5)]) hx hb dL_law_607 hl (by decide) rfl (fun ls hl => ?_)
  refine lv_aload_n hx hb dL_law_609 rfl (lv_at hl 4 rfl) ?_
  have hz : s.heap.size ≤ H.size := hS.1
  have hX9 : Mr1 (g.1 0 0) = some (.inr (10, [.ref (g1.1 1 0), .ref (g1.1 2 0), .int (gS (m_widest st p1).2.2 2), .int (gS (m_widest st p1).2.2 3), .int (gS (m_widest st p1).2.2 1), .int (gS (m_widest st p1).2.2 0), .int (thR g1)])) := by rw [← hg1]; exact (hR1.1 0 0 ro0).trans (congrArg some (celR_0 G (m_widest st p1).2.2 g1 0))
  refine lm_calli (va_runV (As := []) (rest := []) ⟨hx, hb, hml, hown, hts⟩ (c_X7_thrown l G (aS H Mr1) Mr1 hX9) (cwV 0 hts gL_law_X7_thrown rfl rfl rfl (by decide +kernel) ⟨Nat.le_of_ble_eq_true rfl, Nat.le_of_ble_eq_true rfl⟩) (sPreV hG hS hLS.2.1 hLS.2.2.2.2.1.2.1 hA (hLS.2.1 _ _ hX9) (r := (RX7, TX7, 7)) rfl) rfl rfl hl.1 rfl (lv_room (Nat.le_of_ble_eq_true rfl)) dL_law_610 ⟨by show cells + 1 + 0 + 0 ≤ 845199; omega, by show slots + 6 + 0 + 0 ≤ 6560506; omega⟩) hLS.2.2.2.2.1.2.1 hS hA (fun r8 M9 H locs hp9 hP9 hI9 hk9 hS => ?_)
  obtain ⟨e8, hm9⟩ := hp9
  subst M9
  have hLS := (TwS.c hLS.sw hz hP9 hI9 hk9).sw
  refine lv_iload hx hb dL_law_613 (lv_at hl 1 rfl) ?_
  refine lv_icmp_eq (tgt := 620) hx hb dL_law_615 (by decide) (fun c1 => ?_) (fun c1 => absurd c1 (fun z => z (by rw [e8, ht1, e6])))
  refine lv_iload hx hb dL_law_620 (lv_at hl 1 rfl) ?_
  refine lv_if_ne (tgt := 637) hx hb dL_law_622 (by decide) (fun c2 => ?_) (fun c2 => ?_)
  · skip
    refine lv_goto (tgt := 2675) hx hb dL_law_637 (by decide) ?_
    refine W.widen (k := cells + 1100) (n := slots + 4500) (by omega) (by omega) ?_
    exact kk _ H locs ls ⟨ad1, g1, Mc1, Mr1, f9, f2, hC1, hR1, (I_widest hV p1), ha1, hg1, hLS⟩ hS (lv_sub hl [2, 3, 4, 5, 6, 7] rfl)
  · skip
    have h0 := nI_z (le_widest st p1) (e6.symm.trans c2)
    refine lv_aload_n hx hb dL_law_625 rfl (lv_at hl 5 rfl) ?_
    refine lv_iconst (v := 0) hx hb dL_law_626 (by decide) ?_
    refine lm_lald hx hb hK 1 hLS.2.2.1 rfl (show vp_in 0 1 by unfold vp_in; decide) (hf1 h0) dL_law_627 ?_
    refine lv_iload hx hb dL_law_628 (lv_at hl 0 rfl) ?_
    refine lv_i2l (v := r7.toInt64) hx hb dL_law_630 rfl ?_
    refine m_lcmp_eq (tgt := 637) hx hb dL_law_631 dL_law_632 (by decide) (fun c3 => ?_) (fun c3 => ?_)
    · skip
      refine lv_goto (tgt := 2675) hx hb dL_law_637 (by decide) ?_
      refine W.widen (k := cells + 1100) (n := slots + 4500) (by omega) (by omega) ?_
      exact kk _ H locs ls ⟨ad1, g1, Mc1, Mr1, f9, f2, hC1, hR1, (I_widest hV p1), ha1, hg1, hLS⟩ hS (lv_sub hl [2, 3, 4, 5, 6, 7] rfl)
    · skip
      exact absurd (by rw [hr1 h0]) c3
theorem le_deliver (st : St) (p0 p1 p2 p3 : Int32) : (m_deliver st p0 p1 p2 p3).1 < 100 := by
  unfold m_deliver
  first | exact le_0 | exact chk_le (by omega) (le_0) | exact chk_le (by omega) (chk_le (by omega) (le_0)) | exact chk_le (by omega) (chk_le (by omega) (chk_le (by omega) (le_0))) | exact chk_le (by omega) (chk_le (by omega) (chk_le (by omega) (chk_le (by omega) (le_0)))) | exact chk_le (by omega) (chk_le (by omega) (chk_le (by omega) (chk_le (by omega) (chk_le (by omega) (le_0))))) | exact chk_le (by omega) (chk_le (by omega) (chk_le (by omega) (chk_le (by omega) (chk_le (by omega) (chk_le (by omega) (le_0)))))) | exact chk_le (by omega) (chk_le (by omega) (chk_le (by omega) (chk_le (by omega) (chk_le (by omega) (chk_le (by omega) (chk_le (by omega) (le_0))))))) | exact chk_le (by omega) (chk_le (by omega) (chk_le (by omega) (chk_le (by omega) (chk_le (by omega) (chk_le (by omega) (chk_le (by omega) (chk_le (by omega) (le_0))))))))
theorem I_deliver {st : St} (h : Inv st) (p0 p1 p2 p3 : Int32) : Inv (m_deliver st p0 p1 p2 p3).2.2 := by
  unfold m_deliver
  first | exact h | exact chk_I h (fun _ => h) | exact chk_I h (fun _ => chk_I h (fun _ => h)) | exact chk_I h (fun _ => chk_I h (fun _ => chk_I h (fun _ => h))) | exact chk_I h (fun _ => chk_I h (fun _ => chk_I h (fun _ => chk_I h (fun _ => h)))) | exact chk_I h (fun _ => chk_I h (fun _ => chk_I h (fun _ => chk_I h (fun _ => chk_I h (fun _ => h))))) | exact chk_I h (fun _ => chk_I h (fun _ => chk_I h (fun _ => chk_I h (fun _ => chk_I h (fun _ => chk_I h (fun _ => h)))))) | exact chk_I h (fun _ => chk_I h (fun _ => chk_I h (fun _ => chk_I h (fun _ => chk_I h (fun _ => chk_I h (fun _ => chk_I h (fun _ => h))))))) | exact chk_I h (fun _ => chk_I h (fun _ => chk_I h (fun _ => chk_I h (fun _ => chk_I h (fun _ => chk_I h (fun _ => chk_I h (fun _ => chk_I h (fun _ => h))))))))
set_option maxHeartbeats 4000000 in
set_option maxRecDepth 100000 in
theorem law_deliver {p : Program} {l : Launch} {e : Env} {s : State} {m : MethodId} {below : List Frame} {meth : Method} {c : Code} {Q : State → Prop} {b L : Nat} {xs : Nat → Int32} {G : mg} (C0 : TwC p l s m c b L xs G) {H : Heap} {locs : List Loc} {ls : Array Slot} {cells slots : Nat} (hcs : cells + 1100 ≤ 845199 ∧ slots + 4500 ≤ 6560506) {cw rw o1 o2 : Nat} {st : St} {x5 p1 p2 p3 p4 : Int32} (hLI : TwI G s.heap.size H cw rw o1 o2 st) (hS : va_S (aH s.heap.size) s.heap H locs) (hl : lv_has ls 9 [(0, .ref b), (1, .ref cw), (2, .ref rw), (3, .ref o1), (4, .ref o2), (5, .int x5)]) (hi1 : vp_in (x5 + 1) L) (hi2 : vp_in (x5 + 2) L) (hi3 : vp_in (x5 + 3) L) (hi4 : vp_in (x5 + 4) L) (hv1 : xs (x5 + 1).toNatClampNeg = p1) (hv2 : xs (x5 + 2).toNatClampNeg = p2) (hv3 : xs (x5 + 3).toNatClampNeg = p3) (hv4 : xs (x5 + 4).toNatClampNeg = p4)
    (kk : ∀ (st1 : St) (H1 : Heap) (locs1 : List Loc) (ls1 : Array Slot), TwI G s.heap.size H1 cw rw o1 o2 st1 → va_S (aH s.heap.size) s.heap H1 locs1 → lv_has ls1 9 [(0, .ref b), (1, .ref cw), (2, .ref rw), (3, .ref o1), (4, .ref o2), (5, .int x5)] → W p l e room_1 s m #[Value.ref b] below meth c H1 locs1 (cells + 1100) (slots + 4500) Q (F0 m 2675 ls1 [])) : W p l e room_1 s m #[Value.ref b] below meth c H locs cells slots Q (F0 m 640 ls []) := by
  obtain ⟨hx, hb, hml, hown, hts, hX, hbl, hG, hl9⟩ := C0
  obtain ⟨ad, g, Mc, Mr, f1, f2, hC, hR, hV, rfl, rfl, hLS⟩ := hLI
  have hA : ∀ q : Nat, s.heap.size ≤ q → aH s.heap.size q := fun _ h => h
  have hK := hG.K
  refine lv_aload_n hx hb dL_law_640 rfl (lv_at hl 1 rfl) ?_
  refine lv_aload_n hx hb dL_law_641 rfl (lv_at hl 0 rfl) ?_
  refine lv_iload hx hb dL_law_642 (lv_at hl 5 rfl) ?_
  refine lv_iconst (v := 1) hx hb dL_law_644 (by decide) ?_
  refine lv_iadd hx hb dL_law_645 ?_
  refine lm_sld hx hb hX hbl hS hi1 hv1 dL_law_646 ?_
  refine lv_aload_n hx hb dL_law_647 rfl (lv_at hl 0 rfl) ?_
  refine lv_iload hx hb dL_law_648 (lv_at hl 5 rfl) ?_
  refine lv_iconst (v := 2) hx hb dL_law_650 (by decide) ?_
  refine lv_iadd hx hb dL_law_651 ?_
  refine lm_sld hx hb hX hbl hS hi2 hv2 dL_law_652 ?_
  refine lv_aload_n hx hb dL_law_653 rfl (lv_at hl 0 rfl) ?_
  refine lv_iload hx hb dL_law_654 (lv_at hl 5 rfl) ?_
  refine lv_iconst (v := 3) hx hb dL_law_656 (by decide) ?_
  refine lv_iadd hx hb dL_law_657 ?_
  refine lm_sld hx hb hX hbl hS hi3 hv3 dL_law_658 ?_
  refine lv_aload_n hx hb dL_law_659 rfl (lv_at hl 0 rfl) ?_
  refine lv_iload hx hb dL_law_660 (lv_at hl 5 rfl) ?_
  refine lv_iconst (v := 4) hx hb dL_law_662 (by decide) ?_
  refine lv_iadd hx hb dL_law_663 ?_
  refine lm_sld hx hb hX hbl hS hi4 hv4 dL_law_664 ?_
  refine lv_aload_n hx hb dL_law_665 rfl (lv_at hl 3 rfl) ?_
  have hLo := hLS
  have hz : s.heap.size ≤ H.size := hS.1
  have hPM : mP G.1 (mu Mc o1 (.inl (G.2.1 1, 1, .inr (.inl f1)))) H := mP_o hLo.1 hLo.2.2.1
  have hIM : mI (aH s.heap.size) (mu Mc o1 (.inl (G.2.1 1, 1, .inr (.inl f1)))) := mI.mu hLo.2.2.2.2.1.1 hLo.2.2.2.2.1.2.2.1
  refine ls_calli (vx_runSX (As := [.ref (ad 0 0), .int p1, .int p2, .int p3, .int p4, .ref o1]) (rest := []) ⟨hx, hb, hml, hown, hts⟩ (c_L_deliver l G (aS H (mu Mc o1 (.inl (G.2.1 1, 1, .inr (.inl f1))))) Mc hl9 st ad p1 p2 p3 p4 o1 hLo.2.2.2.2.2.2.1 hC hV) (vx_cwSW 6 hts gL_law_L_deliver rfl rfl rfl (by decide +kernel) ⟨Nat.le_of_ble_eq_true rfl, Nat.le_of_ble_eq_true rfl⟩) (sPreS hG hS hPM hIM hA) rfl rfl hl.1 rfl (lv_room (Nat.le_of_ble_eq_true rfl)) dL_law_666 ⟨by show cells + 5 ≤ 845199; omega, by show slots + 30 ≤ 6560506; omega⟩) hIM hS hA (fun r6 M9 H locs hp9 hP9 hI9 hk9 hS => ?_)
  obtain ⟨ad1, Mc1, f9, e6, hn9, rfl, hC1, ha1, hf1⟩ := hp9
  have hLS := TwS.c1 hLo hz hP9 hn9 hI9 hk9
  refine lv_istore (lv' := [(6, .int r6), (0, .ref b), (1, .ref (ad 0 0)), (2, .ref (g.1 0 0)), (3, .ref o1), (4, .ref o2), (5, .int x5)]) hx hb dL_law_669 hl (by decide) rfl (fun ls hl => ?_)
  refine lv_aload_n hx hb dL_law_671 rfl (lv_at hl 3 rfl) ?_
  refine lv_aload_n hx hb dL_law_672 rfl (lv_at hl 1 rfl) ?_
  refine lv_iload hx hb dL_law_673 (lv_at hl 6 rfl) ?_
  refine lv_iconst (v := 1) hx hb dL_law_675 (by decide) ?_
  refine lv_iadd hx hb dL_law_676 ?_
  refine lm_sld hx hb hX hbl hS hi1 hv1 dL_law_677 ?_
  refine lv_aload_n hx hb dL_law_678 rfl (lv_at hl 1 rfl) ?_
  refine lv_iload hx hb dL_law_679 (lv_at hl 6 rfl) ?_
  refine lv_iconst (v := 2) hx hb dL_law_681 (by decide) ?_
  refine lv_iadd hx hb dL_law_682 ?_
  refine lm_sld hx hb hX hbl hS hi2 hv2 dL_law_683 ?_
  refine lv_aload_n hx hb dL_law_684 rfl (lv_at hl 1 rfl) ?_
  refine lv_iload hx hb dL_law_685 (lv_at hl 6 rfl) ?_
  refine lv_iconst (v := 3) hx hb dL_law_687 (by decide) ?_
  refine lv_iadd hx hb dL_law_688 ?_
  refine lm_sld hx hb hX hbl hS hi3 hv3 dL_law_689 ?_
  refine lv_aload_n hx hb dL_law_690 rfl (lv_at hl 1 rfl) ?_
  refine lv_iload hx hb dL_law_691 (lv_at hl 6 rfl) ?_
  refine lv_iconst (v := 4) hx hb dL_law_693 (by decide) ?_
  refine lv_iadd hx hb dL_law_694 ?_
  refine lm_sld hx hb hX hbl hS hi4 hv4 dL_law_695 ?_
  have hz : s.heap.size ≤ H.size := hS.1
  refine lm_calli (va_runV (As := [.int p1, .int p2, .int p3, .int p4]) (rest := []) ⟨hx, hb, hml, hown, hts⟩ (c_X7_deliver l G (aS H Mr) Mr st g p1 p2 p3 p4 hR hV) (cwV 4 hts gL_law_X7_deliver rfl rfl rfl (by decide +kernel) ⟨Nat.le_of_ble_eq_true rfl, Nat.le_of_ble_eq_true rfl⟩) (sPreV hG hS hLS.2.1 hLS.2.2.2.2.1.2.1 hA (RS.at0 hR hLS.2.1) (r := (RX7, TX7, 7)) rfl) rfl rfl hl.1 rfl (lv_room (Nat.le_of_ble_eq_true rfl)) dL_law_696 ⟨by show cells + 5 + 0 ≤ 845199; omega, by show slots + 30 + 0 ≤ 6560506; omega⟩) hLS.2.2.2.2.1.2.1 hS hA (fun r7 Mr1 H locs hp9 hP9 hI9 hk9 hS => ?_)
  obtain ⟨g1, hR1, ht1, hr1, hg1⟩ := hp9
  have hLS := (TwS.c hLS.sw hz hP9 hI9 hk9).sw
  refine lv_istore (lv' := [(7, .int r7), (6, .int r6), (0, .ref b), (1, .ref (ad 0 0)), (2, .ref (g.1 0 0)), (3, .ref o1), (4, .ref o2), (5, .int x5)]) hx hb dL_law_699 hl (by decide) rfl (fun ls hl => ?_)
  refine lv_aload_n hx hb dL_law_701 rfl (lv_at hl 4 rfl) ?_
  have hz : s.heap.size ≤ H.size := hS.1
  have hX9 : Mr1 (g.1 0 0) = some (.inr (10, [.ref (g1.1 1 0), .ref (g1.1 2 0), .int (gS (m_deliver st p1 p2 p3 p4).2.2 2), .int (gS (m_deliver st p1 p2 p3 p4).2.2 3), .int (gS (m_deliver st p1 p2 p3 p4).2.2 1), .int (gS (m_deliver st p1 p2 p3 p4).2.2 0), .int (thR g1)])) := by rw [← hg1]; exact (hR1.1 0 0 ro0).trans (congrArg some (celR_0 G (m_deliver st p1 p2 p3 p4).2.2 g1 0))
  refine lm_calli (va_runV (As := []) (rest := []) ⟨hx, hb, hml, hown, hts⟩ (c_X7_thrown l G (aS H Mr1) Mr1 hX9) (cwV 0 hts gL_law_X7_thrown rfl rfl rfl (by decide +kernel) ⟨Nat.le_of_ble_eq_true rfl, Nat.le_of_ble_eq_true rfl⟩) (sPreV hG hS hLS.2.1 hLS.2.2.2.2.1.2.1 hA (hLS.2.1 _ _ hX9) (r := (RX7, TX7, 7)) rfl) rfl rfl hl.1 rfl (lv_room (Nat.le_of_ble_eq_true rfl)) dL_law_702 ⟨by show cells + 5 + 0 + 0 ≤ 845199; omega, by show slots + 30 + 0 + 0 ≤ 6560506; omega⟩) hLS.2.2.2.2.1.2.1 hS hA (fun r8 M9 H locs hp9 hP9 hI9 hk9 hS => ?_)
  obtain ⟨e8, hm9⟩ := hp9
  subst M9
  have hLS := (TwS.c hLS.sw hz hP9 hI9 hk9).sw
  refine lv_iload hx hb dL_law_705 (lv_at hl 1 rfl) ?_
  refine lv_icmp_eq (tgt := 712) hx hb dL_law_707 (by decide) (fun c1 => ?_) (fun c1 => absurd c1 (fun z => z (by rw [e8, ht1, e6])))
  refine lv_iload hx hb dL_law_712 (lv_at hl 1 rfl) ?_
  refine lv_if_ne (tgt := 729) hx hb dL_law_714 (by decide) (fun c2 => ?_) (fun c2 => ?_)
  · skip
    refine lv_goto (tgt := 2675) hx hb dL_law_729 (by decide) ?_
    refine W.widen (k := cells + 1100) (n := slots + 4500) (by omega) (by omega) ?_
    exact kk _ H locs ls ⟨ad1, g1, Mc1, Mr1, f9, f2, hC1, hR1, (I_deliver hV p1 p2 p3 p4), ha1, hg1, hLS⟩ hS (lv_sub hl [2, 3, 4, 5, 6, 7] rfl)
  · skip
    have h0 := nI_z (le_deliver st p1 p2 p3 p4) (e6.symm.trans c2)
    refine lv_aload_n hx hb dL_law_717 rfl (lv_at hl 5 rfl) ?_
    refine lv_iconst (v := 0) hx hb dL_law_718 (by decide) ?_
    refine lm_lald hx hb hK 1 hLS.2.2.1 rfl (show vp_in 0 1 by unfold vp_in; decide) (hf1 h0) dL_law_719 ?_
    refine lv_iload hx hb dL_law_720 (lv_at hl 0 rfl) ?_
    refine lv_i2l (v := r7.toInt64) hx hb dL_law_722 rfl ?_
    refine m_lcmp_eq (tgt := 729) hx hb dL_law_723 dL_law_724 (by decide) (fun c3 => ?_) (fun c3 => ?_)
    · skip
      refine lv_goto (tgt := 2675) hx hb dL_law_729 (by decide) ?_
      refine W.widen (k := cells + 1100) (n := slots + 4500) (by omega) (by omega) ?_
      exact kk _ H locs ls ⟨ad1, g1, Mc1, Mr1, f9, f2, hC1, hR1, (I_deliver hV p1 p2 p3 p4), ha1, hg1, hLS⟩ hS (lv_sub hl [2, 3, 4, 5, 6, 7] rfl)
    · skip
      exact absurd (by rw [hr1 h0]) c3
theorem le_make (st : St) (p0 p1 p2 : Int32) : (m_make st p0 p1 p2).1 < 100 := by
  unfold m_make
  first | exact le_0 | exact chk_le (by omega) (le_0) | exact chk_le (by omega) (chk_le (by omega) (le_0)) | exact chk_le (by omega) (chk_le (by omega) (chk_le (by omega) (le_0))) | exact chk_le (by omega) (chk_le (by omega) (chk_le (by omega) (chk_le (by omega) (le_0)))) | exact chk_le (by omega) (chk_le (by omega) (chk_le (by omega) (chk_le (by omega) (chk_le (by omega) (le_0))))) | exact chk_le (by omega) (chk_le (by omega) (chk_le (by omega) (chk_le (by omega) (chk_le (by omega) (chk_le (by omega) (le_0)))))) | exact chk_le (by omega) (chk_le (by omega) (chk_le (by omega) (chk_le (by omega) (chk_le (by omega) (chk_le (by omega) (chk_le (by omega) (le_0))))))) | exact chk_le (by omega) (chk_le (by omega) (chk_le (by omega) (chk_le (by omega) (chk_le (by omega) (chk_le (by omega) (chk_le (by omega) (chk_le (by omega) (le_0))))))))
set_option maxHeartbeats 4000000 in
set_option maxRecDepth 100000 in
theorem law_make {p : Program} {l : Launch} {e : Env} {s : State} {m : MethodId} {below : List Frame} {meth : Method} {c : Code} {Q : State → Prop} {b L : Nat} {xs : Nat → Int32} {G : mg} (C0 : TwC p l s m c b L xs G) {H : Heap} {locs : List Loc} {ls : Array Slot} {cells slots : Nat} (hcs : cells + 1100 ≤ 845199 ∧ slots + 4500 ≤ 6560506) {cw rw o1 o2 : Nat} {st : St} {x5 p1 p2 p3 p4 : Int32} (hLI : TwI G s.heap.size H cw rw o1 o2 st) (hS : va_S (aH s.heap.size) s.heap H locs) (hl : lv_has ls 9 [(0, .ref b), (1, .ref cw), (2, .ref rw), (3, .ref o1), (4, .ref o2), (5, .int x5)]) (hi1 : vp_in (x5 + 1) L) (hi2 : vp_in (x5 + 2) L) (hi3 : vp_in (x5 + 3) L) (hi4 : vp_in (x5 + 4) L) (hv1 : xs (x5 + 1).toNatClampNeg = p1) (hv2 : xs (x5 + 2).toNatClampNeg = p2) (hv3 : xs (x5 + 3).toNatClampNeg = p3) (hv4 : xs (x5 + 4).toNatClampNeg = p4)
    (kk : ∀ (st1 : St) (H1 : Heap) (locs1 : List Loc) (ls1 : Array Slot), TwI G s.heap.size H1 cw rw o1 o2 st1 → va_S (aH s.heap.size) s.heap H1 locs1 → lv_has ls1 9 [(0, .ref b), (1, .ref cw), (2, .ref rw), (3, .ref o1), (4, .ref o2), (5, .int x5)] → W p l e room_1 s m #[Value.ref b] below meth c H1 locs1 (cells + 1100) (slots + 4500) Q (F0 m 2675 ls1 [])) : W p l e room_1 s m #[Value.ref b] below meth c H locs cells slots Q (F0 m 732 ls []) := by
  obtain ⟨hx, hb, hml, hown, hts, hX, hbl, hG, hl9⟩ := C0
  obtain ⟨ad, g, Mc, Mr, f1, f2, hC, hR, hV, rfl, rfl, hLS⟩ := hLI
  have hA : ∀ q : Nat, s.heap.size ≤ q → aH s.heap.size q := fun _ h => h
  have hK := hG.K
  refine lv_aload_n hx hb dL_law_732 rfl (lv_at hl 1 rfl) ?_
  refine lv_aload_n hx hb dL_law_733 rfl (lv_at hl 0 rfl) ?_
  refine lv_iload hx hb dL_law_734 (lv_at hl 5 rfl) ?_
  refine lv_iconst (v := 1) hx hb dL_law_736 (by decide) ?_
  refine lv_iadd hx hb dL_law_737 ?_
  refine lm_sld hx hb hX hbl hS hi1 hv1 dL_law_738 ?_
  refine lv_aload_n hx hb dL_law_739 rfl (lv_at hl 0 rfl) ?_
  refine lv_iload hx hb dL_law_740 (lv_at hl 5 rfl) ?_
  refine lv_iconst (v := 2) hx hb dL_law_742 (by decide) ?_
  refine lv_iadd hx hb dL_law_743 ?_
  refine lm_sld hx hb hX hbl hS hi2 hv2 dL_law_744 ?_
  refine lv_aload_n hx hb dL_law_745 rfl (lv_at hl 0 rfl) ?_
  refine lv_iload hx hb dL_law_746 (lv_at hl 5 rfl) ?_
  refine lv_iconst (v := 3) hx hb dL_law_748 (by decide) ?_
  refine lv_iadd hx hb dL_law_749 ?_
  refine lm_sld hx hb hX hbl hS hi3 hv3 dL_law_750 ?_
  refine lv_i2c (v := (p3.toUInt32 % 65536).toInt32) hx hb dL_law_751 rfl ?_
  refine lv_aload_n hx hb dL_law_752 rfl (lv_at hl 3 rfl) ?_
  have hLo := hLS
  have hz : s.heap.size ≤ H.size := hS.1
  have hPM : mP G.1 (mu Mc o1 (.inl (G.2.1 1, 1, .inr (.inl f1)))) H := mP_o hLo.1 hLo.2.2.1
  have hIM : mI (aH s.heap.size) (mu Mc o1 (.inl (G.2.1 1, 1, .inr (.inl f1)))) := mI.mu hLo.2.2.2.2.1.1 hLo.2.2.2.2.1.2.2.1
  refine ls_calli (vx_runSX (As := [.ref (ad 0 0), .int p1, .int p2, .int ((p3.toUInt32 % 65536).toInt32), .ref o1]) (rest := []) ⟨hx, hb, hml, hown, hts⟩ (c_L_make l G (aS H (mu Mc o1 (.inl (G.2.1 1, 1, .inr (.inl f1))))) Mc hl9 st ad p1 p2 ((p3.toUInt32 % 65536).toInt32) o1 hLo.2.2.2.2.2.2.1 hC hV) (vx_cwSW 5 hts gL_law_L_make rfl rfl rfl (by decide +kernel) ⟨Nat.le_of_ble_eq_true rfl, Nat.le_of_ble_eq_true rfl⟩) (sPreS hG hS hPM hIM hA) rfl rfl hl.1 rfl (lv_room (Nat.le_of_ble_eq_true rfl)) dL_law_753 ⟨by show cells + 9 ≤ 845199; omega, by show slots + 63 ≤ 6560506; omega⟩) hIM hS hA (fun r6 M9 H locs hp9 hP9 hI9 hk9 hS => ?_)
  obtain ⟨ad1, Mc1, f9, e6, hn9, rfl, hC1, ha1, hf1⟩ := hp9
  have hLS := TwS.c1 hLo hz hP9 hn9 hI9 hk9
  refine lv_istore (lv' := [(6, .int r6), (0, .ref b), (1, .ref (ad 0 0)), (2, .ref (g.1 0 0)), (3, .ref o1), (4, .ref o2), (5, .int x5)]) hx hb dL_law_756 hl (by decide) rfl (fun ls hl => ?_)
  refine lv_aload_n hx hb dL_law_758 rfl (lv_at hl 3 rfl) ?_
  refine lv_aload_n hx hb dL_law_759 rfl (lv_at hl 1 rfl) ?_
  refine lv_iload hx hb dL_law_760 (lv_at hl 6 rfl) ?_
  refine lv_iconst (v := 1) hx hb dL_law_762 (by decide) ?_
  refine lv_iadd hx hb dL_law_763 ?_
  refine lm_sld hx hb hX hbl hS hi1 hv1 dL_law_764 ?_
  refine lv_aload_n hx hb dL_law_765 rfl (lv_at hl 1 rfl) ?_
  refine lv_iload hx hb dL_law_766 (lv_at hl 6 rfl) ?_
  refine lv_iconst (v := 2) hx hb dL_law_768 (by decide) ?_
  refine lv_iadd hx hb dL_law_769 ?_
  refine lm_sld hx hb hX hbl hS hi2 hv2 dL_law_770 ?_
  refine lv_aload_n hx hb dL_law_771 rfl (lv_at hl 1 rfl) ?_
  refine lv_iload hx hb dL_law_772 (lv_at hl 6 rfl) ?_
  refine lv_iconst (v := 3) hx hb dL_law_774 (by decide) ?_
  refine lv_iadd hx hb dL_law_775 ?_
  refine lm_sld hx hb hX hbl hS hi3 hv3 dL_law_776 ?_
  refine lv_i2c (v := (p3.toUInt32 % 65536).toInt32) hx hb dL_law_777 rfl ?_
  have hz : s.heap.size ≤ H.size := hS.1
  refine lm_calli (va_runV (As := [.int p1, .int p2, .int ((p3.toUInt32 % 65536).toInt32)]) (rest := []) ⟨hx, hb, hml, hown, hts⟩ (c_X7_make l G (aS H Mr) Mr st g p1 p2 ((p3.toUInt32 % 65536).toInt32) hR hV) (cwV 3 hts gL_law_X7_make rfl rfl rfl (by decide +kernel) ⟨Nat.le_of_ble_eq_true rfl, Nat.le_of_ble_eq_true rfl⟩) (sPreV hG hS hLS.2.1 hLS.2.2.2.2.1.2.1 hA (RS.at0 hR hLS.2.1) (r := (RX7, TX7, 7)) rfl) rfl rfl hl.1 rfl (lv_room (Nat.le_of_ble_eq_true rfl)) dL_law_778 ⟨by show cells + 9 + 4 ≤ 845199; omega, by show slots + 63 + 33 ≤ 6560506; omega⟩) hLS.2.2.2.2.1.2.1 hS hA (fun r7 Mr1 H locs hp9 hP9 hI9 hk9 hS => ?_)
  obtain ⟨g1, hR1, ht1, hr1, hg1⟩ := hp9
  have hLS := (TwS.c hLS.sw hz hP9 hI9 hk9).sw
  refine lv_istore (lv' := [(7, .int r7), (6, .int r6), (0, .ref b), (1, .ref (ad 0 0)), (2, .ref (g.1 0 0)), (3, .ref o1), (4, .ref o2), (5, .int x5)]) hx hb dL_law_781 hl (by decide) rfl (fun ls hl => ?_)
  refine lv_aload_n hx hb dL_law_783 rfl (lv_at hl 4 rfl) ?_
  have hz : s.heap.size ≤ H.size := hS.1
  have hX9 : Mr1 (g.1 0 0) = some (.inr (10, [.ref (g1.1 1 0), .ref (g1.1 2 0), .int (gS (m_make st p1 p2 ((p3.toUInt32 % 65536).toInt32)).2.2 2), .int (gS (m_make st p1 p2 ((p3.toUInt32 % 65536).toInt32)).2.2 3), .int (gS (m_make st p1 p2 ((p3.toUInt32 % 65536).toInt32)).2.2 1), .int (gS (m_make st p1 p2 ((p3.toUInt32 % 65536).toInt32)).2.2 0), .int (thR g1)])) := by rw [← hg1]; exact (hR1.1 0 0 ro0).trans (congrArg some (celR_0 G (m_make st p1 p2 ((p3.toUInt32 % 65536).toInt32)).2.2 g1 0))
  refine lm_calli (va_runV (As := []) (rest := []) ⟨hx, hb, hml, hown, hts⟩ (c_X7_thrown l G (aS H Mr1) Mr1 hX9) (cwV 0 hts gL_law_X7_thrown rfl rfl rfl (by decide +kernel) ⟨Nat.le_of_ble_eq_true rfl, Nat.le_of_ble_eq_true rfl⟩) (sPreV hG hS hLS.2.1 hLS.2.2.2.2.1.2.1 hA (hLS.2.1 _ _ hX9) (r := (RX7, TX7, 7)) rfl) rfl rfl hl.1 rfl (lv_room (Nat.le_of_ble_eq_true rfl)) dL_law_784 ⟨by show cells + 9 + 4 + 0 ≤ 845199; omega, by show slots + 63 + 33 + 0 ≤ 6560506; omega⟩) hLS.2.2.2.2.1.2.1 hS hA (fun r8 M9 H locs hp9 hP9 hI9 hk9 hS => ?_)
  obtain ⟨e8, hm9⟩ := hp9
  subst M9
  have hLS := (TwS.c hLS.sw hz hP9 hI9 hk9).sw
  refine lv_iload hx hb dL_law_787 (lv_at hl 1 rfl) ?_
  refine lv_icmp_eq (tgt := 794) hx hb dL_law_789 (by decide) (fun c1 => ?_) (fun c1 => absurd c1 (fun z => z (by rw [e8, ht1, e6])))
  refine lv_iload hx hb dL_law_794 (lv_at hl 1 rfl) ?_
  refine lv_if_ne (tgt := 811) hx hb dL_law_796 (by decide) (fun c2 => ?_) (fun c2 => ?_)
  · skip
    refine lv_goto (tgt := 2675) hx hb dL_law_811 (by decide) ?_
    refine W.widen (k := cells + 1100) (n := slots + 4500) (by omega) (by omega) ?_
    exact kk _ H locs ls ⟨ad1, g1, Mc1, Mr1, f9, f2, hC1, hR1, (I_make hV p1 p2 ((p3.toUInt32 % 65536).toInt32)), ha1, hg1, hLS⟩ hS (lv_sub hl [2, 3, 4, 5, 6, 7] rfl)
  · skip
    have h0 := nI_z (le_make st p1 p2 ((p3.toUInt32 % 65536).toInt32)) (e6.symm.trans c2)
    refine lv_aload_n hx hb dL_law_799 rfl (lv_at hl 5 rfl) ?_
    refine lv_iconst (v := 0) hx hb dL_law_800 (by decide) ?_
    refine lm_lald hx hb hK 1 hLS.2.2.1 rfl (show vp_in 0 1 by unfold vp_in; decide) (hf1 h0) dL_law_801 ?_
    refine lv_iload hx hb dL_law_802 (lv_at hl 0 rfl) ?_
    refine lv_i2l (v := r7.toInt64) hx hb dL_law_804 rfl ?_
    refine m_lcmp_eq (tgt := 811) hx hb dL_law_805 dL_law_806 (by decide) (fun c3 => ?_) (fun c3 => ?_)
    · skip
      refine lv_goto (tgt := 2675) hx hb dL_law_811 (by decide) ?_
      refine W.widen (k := cells + 1100) (n := slots + 4500) (by omega) (by omega) ?_
      exact kk _ H locs ls ⟨ad1, g1, Mc1, Mr1, f9, f2, hC1, hR1, (I_make hV p1 p2 ((p3.toUInt32 % 65536).toInt32)), ha1, hg1, hLS⟩ hS (lv_sub hl [2, 3, 4, 5, 6, 7] rfl)
    · skip
      exact absurd (by rw [hr1 h0]) c3
theorem le_buy (st : St) (p0 : Int32) : (m_buy st p0).1 < 100 := by
  unfold m_buy
  first | exact le_0 | exact chk_le (by omega) (le_0) | exact chk_le (by omega) (chk_le (by omega) (le_0)) | exact chk_le (by omega) (chk_le (by omega) (chk_le (by omega) (le_0))) | exact chk_le (by omega) (chk_le (by omega) (chk_le (by omega) (chk_le (by omega) (le_0)))) | exact chk_le (by omega) (chk_le (by omega) (chk_le (by omega) (chk_le (by omega) (chk_le (by omega) (le_0))))) | exact chk_le (by omega) (chk_le (by omega) (chk_le (by omega) (chk_le (by omega) (chk_le (by omega) (chk_le (by omega) (le_0)))))) | exact chk_le (by omega) (chk_le (by omega) (chk_le (by omega) (chk_le (by omega) (chk_le (by omega) (chk_le (by omega) (chk_le (by omega) (le_0))))))) | exact chk_le (by omega) (chk_le (by omega) (chk_le (by omega) (chk_le (by omega) (chk_le (by omega) (chk_le (by omega) (chk_le (by omega) (chk_le (by omega) (le_0))))))))
set_option maxHeartbeats 4000000 in
set_option maxRecDepth 100000 in
theorem law_buy {p : Program} {l : Launch} {e : Env} {s : State} {m : MethodId} {below : List Frame} {meth : Method} {c : Code} {Q : State → Prop} {b L : Nat} {xs : Nat → Int32} {G : mg} (C0 : TwC p l s m c b L xs G) {H : Heap} {locs : List Loc} {ls : Array Slot} {cells slots : Nat} (hcs : cells + 1100 ≤ 845199 ∧ slots + 4500 ≤ 6560506) {cw rw o1 o2 : Nat} {st : St} {x5 p1 p2 p3 p4 : Int32} (hLI : TwI G s.heap.size H cw rw o1 o2 st) (hS : va_S (aH s.heap.size) s.heap H locs) (hl : lv_has ls 9 [(0, .ref b), (1, .ref cw), (2, .ref rw), (3, .ref o1), (4, .ref o2), (5, .int x5)]) (hi1 : vp_in (x5 + 1) L) (hi2 : vp_in (x5 + 2) L) (hi3 : vp_in (x5 + 3) L) (hi4 : vp_in (x5 + 4) L) (hv1 : xs (x5 + 1).toNatClampNeg = p1) (hv2 : xs (x5 + 2).toNatClampNeg = p2) (hv3 : xs (x5 + 3).toNatClampNeg = p3) (hv4 : xs (x5 + 4).toNatClampNeg = p4)
    (kk : ∀ (st1 : St) (H1 : Heap) (locs1 : List Loc) (ls1 : Array Slot), TwI G s.heap.size H1 cw rw o1 o2 st1 → va_S (aH s.heap.size) s.heap H1 locs1 → lv_has ls1 9 [(0, .ref b), (1, .ref cw), (2, .ref rw), (3, .ref o1), (4, .ref o2), (5, .int x5)] → W p l e room_1 s m #[Value.ref b] below meth c H1 locs1 (cells + 1100) (slots + 4500) Q (F0 m 2675 ls1 [])) : W p l e room_1 s m #[Value.ref b] below meth c H locs cells slots Q (F0 m 814 ls []) := by
  obtain ⟨hx, hb, hml, hown, hts, hX, hbl, hG, hl9⟩ := C0
  obtain ⟨ad, g, Mc, Mr, f1, f2, hC, hR, hV, rfl, rfl, hLS⟩ := hLI
  have hA : ∀ q : Nat, s.heap.size ≤ q → aH s.heap.size q := fun _ h => h
  have hK := hG.K
  refine lv_aload_n hx hb dL_law_814 rfl (lv_at hl 1 rfl) ?_
  refine lv_aload_n hx hb dL_law_815 rfl (lv_at hl 0 rfl) ?_
  refine lv_iload hx hb dL_law_816 (lv_at hl 5 rfl) ?_
  refine lv_iconst (v := 1) hx hb dL_law_818 (by decide) ?_
  refine lv_iadd hx hb dL_law_819 ?_
  refine lm_sld hx hb hX hbl hS hi1 hv1 dL_law_820 ?_
  refine lv_aload_n hx hb dL_law_821 rfl (lv_at hl 3 rfl) ?_
  have hLo := hLS
  have hz : s.heap.size ≤ H.size := hS.1
  have hPM : mP G.1 (mu Mc o1 (.inl (G.2.1 1, 1, .inr (.inl f1)))) H := mP_o hLo.1 hLo.2.2.1
  have hIM : mI (aH s.heap.size) (mu Mc o1 (.inl (G.2.1 1, 1, .inr (.inl f1)))) := mI.mu hLo.2.2.2.2.1.1 hLo.2.2.2.2.1.2.2.1
  refine ls_calli (vx_runSX (As := [.ref (ad 0 0), .int p1, .ref o1]) (rest := []) ⟨hx, hb, hml, hown, hts⟩ (c_L_buy l G (aS H (mu Mc o1 (.inl (G.2.1 1, 1, .inr (.inl f1))))) Mc hl9 st ad p1 o1 hLo.2.2.2.2.2.2.1 hC hV) (vx_cwSW 3 hts gL_law_L_buy rfl rfl rfl (by decide +kernel) ⟨Nat.le_of_ble_eq_true rfl, Nat.le_of_ble_eq_true rfl⟩) (sPreS hG hS hPM hIM hA) rfl rfl hl.1 rfl (lv_room (Nat.le_of_ble_eq_true rfl)) dL_law_822 ⟨by show cells + 1 ≤ 845199; omega, by show slots + 6 ≤ 6560506; omega⟩) hIM hS hA (fun r6 M9 H locs hp9 hP9 hI9 hk9 hS => ?_)
  obtain ⟨ad1, Mc1, f9, e6, hn9, rfl, hC1, ha1, hf1⟩ := hp9
  have hLS := TwS.c1 hLo hz hP9 hn9 hI9 hk9
  refine lv_istore (lv' := [(6, .int r6), (0, .ref b), (1, .ref (ad 0 0)), (2, .ref (g.1 0 0)), (3, .ref o1), (4, .ref o2), (5, .int x5)]) hx hb dL_law_825 hl (by decide) rfl (fun ls hl => ?_)
  refine lv_aload_n hx hb dL_law_827 rfl (lv_at hl 3 rfl) ?_
  refine lv_aload_n hx hb dL_law_828 rfl (lv_at hl 1 rfl) ?_
  refine lv_iload hx hb dL_law_829 (lv_at hl 6 rfl) ?_
  refine lv_iconst (v := 1) hx hb dL_law_831 (by decide) ?_
  refine lv_iadd hx hb dL_law_832 ?_
  refine lm_sld hx hb hX hbl hS hi1 hv1 dL_law_833 ?_
  have hz : s.heap.size ≤ H.size := hS.1
  refine lm_calli (va_runV (As := [.int p1]) (rest := []) ⟨hx, hb, hml, hown, hts⟩ (c_X7_buy l G (aS H Mr) Mr st g p1 hR hV) (cwV 1 hts gL_law_X7_buy rfl rfl rfl (by decide +kernel) ⟨Nat.le_of_ble_eq_true rfl, Nat.le_of_ble_eq_true rfl⟩) (sPreV hG hS hLS.2.1 hLS.2.2.2.2.1.2.1 hA (RS.at0 hR hLS.2.1) (r := (RX7, TX7, 7)) rfl) rfl rfl hl.1 rfl (lv_room (Nat.le_of_ble_eq_true rfl)) dL_law_834 ⟨by show cells + 1 + 0 ≤ 845199; omega, by show slots + 6 + 0 ≤ 6560506; omega⟩) hLS.2.2.2.2.1.2.1 hS hA (fun r7 Mr1 H locs hp9 hP9 hI9 hk9 hS => ?_)
  obtain ⟨g1, hR1, ht1, hr1, hg1⟩ := hp9
  have hLS := (TwS.c hLS.sw hz hP9 hI9 hk9).sw
  refine lv_istore (lv' := [(7, .int r7), (6, .int r6), (0, .ref b), (1, .ref (ad 0 0)), (2, .ref (g.1 0 0)), (3, .ref o1), (4, .ref o2), (5, .int x5)]) hx hb dL_law_837 hl (by decide) rfl (fun ls hl => ?_)
  refine lv_aload_n hx hb dL_law_839 rfl (lv_at hl 4 rfl) ?_
  have hz : s.heap.size ≤ H.size := hS.1
  have hX9 : Mr1 (g.1 0 0) = some (.inr (10, [.ref (g1.1 1 0), .ref (g1.1 2 0), .int (gS (m_buy st p1).2.2 2), .int (gS (m_buy st p1).2.2 3), .int (gS (m_buy st p1).2.2 1), .int (gS (m_buy st p1).2.2 0), .int (thR g1)])) := by rw [← hg1]; exact (hR1.1 0 0 ro0).trans (congrArg some (celR_0 G (m_buy st p1).2.2 g1 0))
  refine lm_calli (va_runV (As := []) (rest := []) ⟨hx, hb, hml, hown, hts⟩ (c_X7_thrown l G (aS H Mr1) Mr1 hX9) (cwV 0 hts gL_law_X7_thrown rfl rfl rfl (by decide +kernel) ⟨Nat.le_of_ble_eq_true rfl, Nat.le_of_ble_eq_true rfl⟩) (sPreV hG hS hLS.2.1 hLS.2.2.2.2.1.2.1 hA (hLS.2.1 _ _ hX9) (r := (RX7, TX7, 7)) rfl) rfl rfl hl.1 rfl (lv_room (Nat.le_of_ble_eq_true rfl)) dL_law_840 ⟨by show cells + 1 + 0 + 0 ≤ 845199; omega, by show slots + 6 + 0 + 0 ≤ 6560506; omega⟩) hLS.2.2.2.2.1.2.1 hS hA (fun r8 M9 H locs hp9 hP9 hI9 hk9 hS => ?_)
  obtain ⟨e8, hm9⟩ := hp9
  subst M9
  have hLS := (TwS.c hLS.sw hz hP9 hI9 hk9).sw
  refine lv_iload hx hb dL_law_843 (lv_at hl 1 rfl) ?_
  refine lv_icmp_eq (tgt := 850) hx hb dL_law_845 (by decide) (fun c1 => ?_) (fun c1 => absurd c1 (fun z => z (by rw [e8, ht1, e6])))
  refine lv_iload hx hb dL_law_850 (lv_at hl 1 rfl) ?_
  refine lv_if_ne (tgt := 867) hx hb dL_law_852 (by decide) (fun c2 => ?_) (fun c2 => ?_)
  · skip
    refine lv_goto (tgt := 2675) hx hb dL_law_867 (by decide) ?_
    refine W.widen (k := cells + 1100) (n := slots + 4500) (by omega) (by omega) ?_
    exact kk _ H locs ls ⟨ad1, g1, Mc1, Mr1, f9, f2, hC1, hR1, (I_buy hV p1), ha1, hg1, hLS⟩ hS (lv_sub hl [2, 3, 4, 5, 6, 7] rfl)
  · skip
    have h0 := nI_z (le_buy st p1) (e6.symm.trans c2)
    refine lv_aload_n hx hb dL_law_855 rfl (lv_at hl 5 rfl) ?_
    refine lv_iconst (v := 0) hx hb dL_law_856 (by decide) ?_
    refine lm_lald hx hb hK 1 hLS.2.2.1 rfl (show vp_in 0 1 by unfold vp_in; decide) (hf1 h0) dL_law_857 ?_
    refine lv_iload hx hb dL_law_858 (lv_at hl 0 rfl) ?_
    refine lv_i2l (v := r7.toInt64) hx hb dL_law_860 rfl ?_
    refine m_lcmp_eq (tgt := 867) hx hb dL_law_861 dL_law_862 (by decide) (fun c3 => ?_) (fun c3 => ?_)
    · skip
      refine lv_goto (tgt := 2675) hx hb dL_law_867 (by decide) ?_
      refine W.widen (k := cells + 1100) (n := slots + 4500) (by omega) (by omega) ?_
      exact kk _ H locs ls ⟨ad1, g1, Mc1, Mr1, f9, f2, hC1, hR1, (I_buy hV p1), ha1, hg1, hLS⟩ hS (lv_sub hl [2, 3, 4, 5, 6, 7] rfl)
    · skip
      exact absurd (by rw [hr1 h0]) c3
theorem le_fill (st : St) (p0 p1 p2 : Int32) : (m_fill st p0 p1 p2).1 < 100 := by
  unfold m_fill
  first | exact le_0 | exact chk_le (by omega) (le_0) | exact chk_le (by omega) (chk_le (by omega) (le_0)) | exact chk_le (by omega) (chk_le (by omega) (chk_le (by omega) (le_0))) | exact chk_le (by omega) (chk_le (by omega) (chk_le (by omega) (chk_le (by omega) (le_0)))) | exact chk_le (by omega) (chk_le (by omega) (chk_le (by omega) (chk_le (by omega) (chk_le (by omega) (le_0))))) | exact chk_le (by omega) (chk_le (by omega) (chk_le (by omega) (chk_le (by omega) (chk_le (by omega) (chk_le (by omega) (le_0)))))) | exact chk_le (by omega) (chk_le (by omega) (chk_le (by omega) (chk_le (by omega) (chk_le (by omega) (chk_le (by omega) (chk_le (by omega) (le_0))))))) | exact chk_le (by omega) (chk_le (by omega) (chk_le (by omega) (chk_le (by omega) (chk_le (by omega) (chk_le (by omega) (chk_le (by omega) (chk_le (by omega) (le_0))))))))
set_option maxHeartbeats 4000000 in
set_option maxRecDepth 100000 in
theorem law_fill {p : Program} {l : Launch} {e : Env} {s : State} {m : MethodId} {below : List Frame} {meth : Method} {c : Code} {Q : State → Prop} {b L : Nat} {xs : Nat → Int32} {G : mg} (C0 : TwC p l s m c b L xs G) {H : Heap} {locs : List Loc} {ls : Array Slot} {cells slots : Nat} (hcs : cells + 1100 ≤ 845199 ∧ slots + 4500 ≤ 6560506) {cw rw o1 o2 : Nat} {st : St} {x5 p1 p2 p3 p4 : Int32} (hLI : TwI G s.heap.size H cw rw o1 o2 st) (hS : va_S (aH s.heap.size) s.heap H locs) (hl : lv_has ls 9 [(0, .ref b), (1, .ref cw), (2, .ref rw), (3, .ref o1), (4, .ref o2), (5, .int x5)]) (hi1 : vp_in (x5 + 1) L) (hi2 : vp_in (x5 + 2) L) (hi3 : vp_in (x5 + 3) L) (hi4 : vp_in (x5 + 4) L) (hv1 : xs (x5 + 1).toNatClampNeg = p1) (hv2 : xs (x5 + 2).toNatClampNeg = p2) (hv3 : xs (x5 + 3).toNatClampNeg = p3) (hv4 : xs (x5 + 4).toNatClampNeg = p4)
    (kk : ∀ (st1 : St) (H1 : Heap) (locs1 : List Loc) (ls1 : Array Slot), TwI G s.heap.size H1 cw rw o1 o2 st1 → va_S (aH s.heap.size) s.heap H1 locs1 → lv_has ls1 9 [(0, .ref b), (1, .ref cw), (2, .ref rw), (3, .ref o1), (4, .ref o2), (5, .int x5)] → W p l e room_1 s m #[Value.ref b] below meth c H1 locs1 (cells + 1100) (slots + 4500) Q (F0 m 2675 ls1 [])) : W p l e room_1 s m #[Value.ref b] below meth c H locs cells slots Q (F0 m 870 ls []) := by
  obtain ⟨hx, hb, hml, hown, hts, hX, hbl, hG, hl9⟩ := C0
  obtain ⟨ad, g, Mc, Mr, f1, f2, hC, hR, hV, rfl, rfl, hLS⟩ := hLI
  have hA : ∀ q : Nat, s.heap.size ≤ q → aH s.heap.size q := fun _ h => h
  have hK := hG.K
  refine lv_aload_n hx hb dL_law_870 rfl (lv_at hl 1 rfl) ?_
  refine lv_aload_n hx hb dL_law_871 rfl (lv_at hl 0 rfl) ?_
  refine lv_iload hx hb dL_law_872 (lv_at hl 5 rfl) ?_
  refine lv_iconst (v := 1) hx hb dL_law_874 (by decide) ?_
  refine lv_iadd hx hb dL_law_875 ?_
  refine lm_sld hx hb hX hbl hS hi1 hv1 dL_law_876 ?_
  refine lv_aload_n hx hb dL_law_877 rfl (lv_at hl 0 rfl) ?_
  refine lv_iload hx hb dL_law_878 (lv_at hl 5 rfl) ?_
  refine lv_iconst (v := 2) hx hb dL_law_880 (by decide) ?_
  refine lv_iadd hx hb dL_law_881 ?_
  refine lm_sld hx hb hX hbl hS hi2 hv2 dL_law_882 ?_
  refine lv_i2c (v := (p2.toUInt32 % 65536).toInt32) hx hb dL_law_883 rfl ?_
  refine lv_aload_n hx hb dL_law_884 rfl (lv_at hl 0 rfl) ?_
  refine lv_iload hx hb dL_law_885 (lv_at hl 5 rfl) ?_
  refine lv_iconst (v := 3) hx hb dL_law_887 (by decide) ?_
  refine lv_iadd hx hb dL_law_888 ?_
  refine lm_sld hx hb hX hbl hS hi3 hv3 dL_law_889 ?_
  refine lv_aload_n hx hb dL_law_890 rfl (lv_at hl 3 rfl) ?_
  have hLo := hLS
  have hz : s.heap.size ≤ H.size := hS.1
  have hPM : mP G.1 (mu Mc o1 (.inl (G.2.1 1, 1, .inr (.inl f1)))) H := mP_o hLo.1 hLo.2.2.1
  have hIM : mI (aH s.heap.size) (mu Mc o1 (.inl (G.2.1 1, 1, .inr (.inl f1)))) := mI.mu hLo.2.2.2.2.1.1 hLo.2.2.2.2.1.2.2.1
  refine ls_calli (vx_runSX (As := [.ref (ad 0 0), .int p1, .int ((p2.toUInt32 % 65536).toInt32), .int p3, .ref o1]) (rest := []) ⟨hx, hb, hml, hown, hts⟩ (c_L_fill l G (aS H (mu Mc o1 (.inl (G.2.1 1, 1, .inr (.inl f1))))) Mc hl9 st ad p1 ((p2.toUInt32 % 65536).toInt32) p3 o1 hLo.2.2.2.2.2.2.1 hC hV) (vx_cwSW 5 hts gL_law_L_fill rfl rfl rfl (by decide +kernel) ⟨Nat.le_of_ble_eq_true rfl, Nat.le_of_ble_eq_true rfl⟩) (sPreS hG hS hPM hIM hA) rfl rfl hl.1 rfl (lv_room (Nat.le_of_ble_eq_true rfl)) dL_law_891 ⟨by show cells + 4 ≤ 845199; omega, by show slots + 24 ≤ 6560506; omega⟩) hIM hS hA (fun r6 M9 H locs hp9 hP9 hI9 hk9 hS => ?_)
  obtain ⟨ad1, Mc1, f9, e6, hn9, rfl, hC1, ha1, hf1⟩ := hp9
  have hLS := TwS.c1 hLo hz hP9 hn9 hI9 hk9
  refine lv_istore (lv' := [(6, .int r6), (0, .ref b), (1, .ref (ad 0 0)), (2, .ref (g.1 0 0)), (3, .ref o1), (4, .ref o2), (5, .int x5)]) hx hb dL_law_894 hl (by decide) rfl (fun ls hl => ?_)
  refine lv_aload_n hx hb dL_law_896 rfl (lv_at hl 3 rfl) ?_
  refine lv_aload_n hx hb dL_law_897 rfl (lv_at hl 1 rfl) ?_
  refine lv_iload hx hb dL_law_898 (lv_at hl 6 rfl) ?_
  refine lv_iconst (v := 1) hx hb dL_law_900 (by decide) ?_
  refine lv_iadd hx hb dL_law_901 ?_
  refine lm_sld hx hb hX hbl hS hi1 hv1 dL_law_902 ?_
  refine lv_aload_n hx hb dL_law_903 rfl (lv_at hl 1 rfl) ?_
  refine lv_iload hx hb dL_law_904 (lv_at hl 6 rfl) ?_
  refine lv_iconst (v := 2) hx hb dL_law_906 (by decide) ?_
  refine lv_iadd hx hb dL_law_907 ?_
  refine lm_sld hx hb hX hbl hS hi2 hv2 dL_law_908 ?_
  refine lv_i2c (v := (p2.toUInt32 % 65536).toInt32) hx hb dL_law_909 rfl ?_
  refine lv_aload_n hx hb dL_law_910 rfl (lv_at hl 1 rfl) ?_
  refine lv_iload hx hb dL_law_911 (lv_at hl 6 rfl) ?_
  refine lv_iconst (v := 3) hx hb dL_law_913 (by decide) ?_
  refine lv_iadd hx hb dL_law_914 ?_
  refine lm_sld hx hb hX hbl hS hi3 hv3 dL_law_915 ?_
  have hz : s.heap.size ≤ H.size := hS.1
  refine lm_calli (va_runV (As := [.int p1, .int ((p2.toUInt32 % 65536).toInt32), .int p3]) (rest := []) ⟨hx, hb, hml, hown, hts⟩ (c_X7_fill l G (aS H Mr) Mr st g p1 ((p2.toUInt32 % 65536).toInt32) p3 hR hV) (cwV 3 hts gL_law_X7_fill rfl rfl rfl (by decide +kernel) ⟨Nat.le_of_ble_eq_true rfl, Nat.le_of_ble_eq_true rfl⟩) (sPreV hG hS hLS.2.1 hLS.2.2.2.2.1.2.1 hA (RS.at0 hR hLS.2.1) (r := (RX7, TX7, 7)) rfl) rfl rfl hl.1 rfl (lv_room (Nat.le_of_ble_eq_true rfl)) dL_law_916 ⟨by show cells + 4 + 0 ≤ 845199; omega, by show slots + 24 + 0 ≤ 6560506; omega⟩) hLS.2.2.2.2.1.2.1 hS hA (fun r7 Mr1 H locs hp9 hP9 hI9 hk9 hS => ?_)
  obtain ⟨g1, hR1, ht1, hr1, hg1⟩ := hp9
  have hLS := (TwS.c hLS.sw hz hP9 hI9 hk9).sw
  refine lv_istore (lv' := [(7, .int r7), (6, .int r6), (0, .ref b), (1, .ref (ad 0 0)), (2, .ref (g.1 0 0)), (3, .ref o1), (4, .ref o2), (5, .int x5)]) hx hb dL_law_919 hl (by decide) rfl (fun ls hl => ?_)
  refine lv_aload_n hx hb dL_law_921 rfl (lv_at hl 4 rfl) ?_
  have hz : s.heap.size ≤ H.size := hS.1
  have hX9 : Mr1 (g.1 0 0) = some (.inr (10, [.ref (g1.1 1 0), .ref (g1.1 2 0), .int (gS (m_fill st p1 ((p2.toUInt32 % 65536).toInt32) p3).2.2 2), .int (gS (m_fill st p1 ((p2.toUInt32 % 65536).toInt32) p3).2.2 3), .int (gS (m_fill st p1 ((p2.toUInt32 % 65536).toInt32) p3).2.2 1), .int (gS (m_fill st p1 ((p2.toUInt32 % 65536).toInt32) p3).2.2 0), .int (thR g1)])) := by rw [← hg1]; exact (hR1.1 0 0 ro0).trans (congrArg some (celR_0 G (m_fill st p1 ((p2.toUInt32 % 65536).toInt32) p3).2.2 g1 0))
  refine lm_calli (va_runV (As := []) (rest := []) ⟨hx, hb, hml, hown, hts⟩ (c_X7_thrown l G (aS H Mr1) Mr1 hX9) (cwV 0 hts gL_law_X7_thrown rfl rfl rfl (by decide +kernel) ⟨Nat.le_of_ble_eq_true rfl, Nat.le_of_ble_eq_true rfl⟩) (sPreV hG hS hLS.2.1 hLS.2.2.2.2.1.2.1 hA (hLS.2.1 _ _ hX9) (r := (RX7, TX7, 7)) rfl) rfl rfl hl.1 rfl (lv_room (Nat.le_of_ble_eq_true rfl)) dL_law_922 ⟨by show cells + 4 + 0 + 0 ≤ 845199; omega, by show slots + 24 + 0 + 0 ≤ 6560506; omega⟩) hLS.2.2.2.2.1.2.1 hS hA (fun r8 M9 H locs hp9 hP9 hI9 hk9 hS => ?_)
  obtain ⟨e8, hm9⟩ := hp9
  subst M9
  have hLS := (TwS.c hLS.sw hz hP9 hI9 hk9).sw
  refine lv_iload hx hb dL_law_925 (lv_at hl 1 rfl) ?_
  refine lv_icmp_eq (tgt := 932) hx hb dL_law_927 (by decide) (fun c1 => ?_) (fun c1 => absurd c1 (fun z => z (by rw [e8, ht1, e6])))
  refine lv_iload hx hb dL_law_932 (lv_at hl 1 rfl) ?_
  refine lv_if_ne (tgt := 949) hx hb dL_law_934 (by decide) (fun c2 => ?_) (fun c2 => ?_)
  · skip
    refine lv_goto (tgt := 2675) hx hb dL_law_949 (by decide) ?_
    refine W.widen (k := cells + 1100) (n := slots + 4500) (by omega) (by omega) ?_
    exact kk _ H locs ls ⟨ad1, g1, Mc1, Mr1, f9, f2, hC1, hR1, (I_fill hV p1 ((p2.toUInt32 % 65536).toInt32) p3), ha1, hg1, hLS⟩ hS (lv_sub hl [2, 3, 4, 5, 6, 7] rfl)
  · skip
    have h0 := nI_z (le_fill st p1 ((p2.toUInt32 % 65536).toInt32) p3) (e6.symm.trans c2)
    refine lv_aload_n hx hb dL_law_937 rfl (lv_at hl 5 rfl) ?_
    refine lv_iconst (v := 0) hx hb dL_law_938 (by decide) ?_
    refine lm_lald hx hb hK 1 hLS.2.2.1 rfl (show vp_in 0 1 by unfold vp_in; decide) (hf1 h0) dL_law_939 ?_
    refine lv_iload hx hb dL_law_940 (lv_at hl 0 rfl) ?_
    refine lv_i2l (v := r7.toInt64) hx hb dL_law_942 rfl ?_
    refine m_lcmp_eq (tgt := 949) hx hb dL_law_943 dL_law_944 (by decide) (fun c3 => ?_) (fun c3 => ?_)
    · skip
      refine lv_goto (tgt := 2675) hx hb dL_law_949 (by decide) ?_
      refine W.widen (k := cells + 1100) (n := slots + 4500) (by omega) (by omega) ?_
      exact kk _ H locs ls ⟨ad1, g1, Mc1, Mr1, f9, f2, hC1, hR1, (I_fill hV p1 ((p2.toUInt32 % 65536).toInt32) p3), ha1, hg1, hLS⟩ hS (lv_sub hl [2, 3, 4, 5, 6, 7] rfl)
    · skip
      exact absurd (by rw [hr1 h0]) c3
theorem le_smash (st : St) (p0 : Int32) : (m_smash st p0).1 < 100 := by
  unfold m_smash
  first | exact le_0 | exact chk_le (by omega) (le_0) | exact chk_le (by omega) (chk_le (by omega) (le_0)) | exact chk_le (by omega) (chk_le (by omega) (chk_le (by omega) (le_0))) | exact chk_le (by omega) (chk_le (by omega) (chk_le (by omega) (chk_le (by omega) (le_0)))) | exact chk_le (by omega) (chk_le (by omega) (chk_le (by omega) (chk_le (by omega) (chk_le (by omega) (le_0))))) | exact chk_le (by omega) (chk_le (by omega) (chk_le (by omega) (chk_le (by omega) (chk_le (by omega) (chk_le (by omega) (le_0)))))) | exact chk_le (by omega) (chk_le (by omega) (chk_le (by omega) (chk_le (by omega) (chk_le (by omega) (chk_le (by omega) (chk_le (by omega) (le_0))))))) | exact chk_le (by omega) (chk_le (by omega) (chk_le (by omega) (chk_le (by omega) (chk_le (by omega) (chk_le (by omega) (chk_le (by omega) (chk_le (by omega) (le_0))))))))
set_option maxHeartbeats 4000000 in
set_option maxRecDepth 100000 in
theorem law_smash {p : Program} {l : Launch} {e : Env} {s : State} {m : MethodId} {below : List Frame} {meth : Method} {c : Code} {Q : State → Prop} {b L : Nat} {xs : Nat → Int32} {G : mg} (C0 : TwC p l s m c b L xs G) {H : Heap} {locs : List Loc} {ls : Array Slot} {cells slots : Nat} (hcs : cells + 1100 ≤ 845199 ∧ slots + 4500 ≤ 6560506) {cw rw o1 o2 : Nat} {st : St} {x5 p1 p2 p3 p4 : Int32} (hLI : TwI G s.heap.size H cw rw o1 o2 st) (hS : va_S (aH s.heap.size) s.heap H locs) (hl : lv_has ls 9 [(0, .ref b), (1, .ref cw), (2, .ref rw), (3, .ref o1), (4, .ref o2), (5, .int x5)]) (hi1 : vp_in (x5 + 1) L) (hi2 : vp_in (x5 + 2) L) (hi3 : vp_in (x5 + 3) L) (hi4 : vp_in (x5 + 4) L) (hv1 : xs (x5 + 1).toNatClampNeg = p1) (hv2 : xs (x5 + 2).toNatClampNeg = p2) (hv3 : xs (x5 + 3).toNatClampNeg = p3) (hv4 : xs (x5 + 4).toNatClampNeg = p4)
    (kk : ∀ (st1 : St) (H1 : Heap) (locs1 : List Loc) (ls1 : Array Slot), TwI G s.heap.size H1 cw rw o1 o2 st1 → va_S (aH s.heap.size) s.heap H1 locs1 → lv_has ls1 9 [(0, .ref b), (1, .ref cw), (2, .ref rw), (3, .ref o1), (4, .ref o2), (5, .int x5)] → W p l e room_1 s m #[Value.ref b] below meth c H1 locs1 (cells + 1100) (slots + 4500) Q (F0 m 2675 ls1 [])) : W p l e room_1 s m #[Value.ref b] below meth c H locs cells slots Q (F0 m 952 ls []) := by
  obtain ⟨hx, hb, hml, hown, hts, hX, hbl, hG, hl9⟩ := C0
  obtain ⟨ad, g, Mc, Mr, f1, f2, hC, hR, hV, rfl, rfl, hLS⟩ := hLI
  have hA : ∀ q : Nat, s.heap.size ≤ q → aH s.heap.size q := fun _ h => h
  have hK := hG.K
  refine lv_aload_n hx hb dL_law_952 rfl (lv_at hl 1 rfl) ?_
  refine lv_aload_n hx hb dL_law_953 rfl (lv_at hl 0 rfl) ?_
  refine lv_iload hx hb dL_law_954 (lv_at hl 5 rfl) ?_
  refine lv_iconst (v := 1) hx hb dL_law_956 (by decide) ?_
  refine lv_iadd hx hb dL_law_957 ?_
  refine lm_sld hx hb hX hbl hS hi1 hv1 dL_law_958 ?_
  refine lv_aload_n hx hb dL_law_959 rfl (lv_at hl 3 rfl) ?_
  have hLo := hLS
  have hz : s.heap.size ≤ H.size := hS.1
  have hPM : mP G.1 (mu Mc o1 (.inl (G.2.1 1, 1, .inr (.inl f1)))) H := mP_o hLo.1 hLo.2.2.1
  have hIM : mI (aH s.heap.size) (mu Mc o1 (.inl (G.2.1 1, 1, .inr (.inl f1)))) := mI.mu hLo.2.2.2.2.1.1 hLo.2.2.2.2.1.2.2.1
  refine ls_calli (vx_runSX (As := [.ref (ad 0 0), .int p1, .ref o1]) (rest := []) ⟨hx, hb, hml, hown, hts⟩ (c_L_smash l G (aS H (mu Mc o1 (.inl (G.2.1 1, 1, .inr (.inl f1))))) Mc hl9 st ad p1 o1 hLo.2.2.2.2.2.2.1 hC hV) (vx_cwSW 3 hts gL_law_L_smash rfl rfl rfl (by decide +kernel) ⟨Nat.le_of_ble_eq_true rfl, Nat.le_of_ble_eq_true rfl⟩) (sPreS hG hS hPM hIM hA) rfl rfl hl.1 rfl (lv_room (Nat.le_of_ble_eq_true rfl)) dL_law_960 ⟨by show cells + 2 ≤ 845199; omega, by show slots + 12 ≤ 6560506; omega⟩) hIM hS hA (fun r6 M9 H locs hp9 hP9 hI9 hk9 hS => ?_)
  obtain ⟨ad1, Mc1, f9, e6, hn9, rfl, hC1, ha1, hf1⟩ := hp9
  have hLS := TwS.c1 hLo hz hP9 hn9 hI9 hk9
  refine lv_istore (lv' := [(6, .int r6), (0, .ref b), (1, .ref (ad 0 0)), (2, .ref (g.1 0 0)), (3, .ref o1), (4, .ref o2), (5, .int x5)]) hx hb dL_law_963 hl (by decide) rfl (fun ls hl => ?_)
  refine lv_aload_n hx hb dL_law_965 rfl (lv_at hl 3 rfl) ?_
  refine lv_aload_n hx hb dL_law_966 rfl (lv_at hl 1 rfl) ?_
  refine lv_iload hx hb dL_law_967 (lv_at hl 6 rfl) ?_
  refine lv_iconst (v := 1) hx hb dL_law_969 (by decide) ?_
  refine lv_iadd hx hb dL_law_970 ?_
  refine lm_sld hx hb hX hbl hS hi1 hv1 dL_law_971 ?_
  have hz : s.heap.size ≤ H.size := hS.1
  refine lm_calli (va_runV (As := [.int p1]) (rest := []) ⟨hx, hb, hml, hown, hts⟩ (c_X7_smash l G (aS H Mr) Mr st g p1 hR hV) (cwV 1 hts gL_law_X7_smash rfl rfl rfl (by decide +kernel) ⟨Nat.le_of_ble_eq_true rfl, Nat.le_of_ble_eq_true rfl⟩) (sPreV hG hS hLS.2.1 hLS.2.2.2.2.1.2.1 hA (RS.at0 hR hLS.2.1) (r := (RX7, TX7, 7)) rfl) rfl rfl hl.1 rfl (lv_room (Nat.le_of_ble_eq_true rfl)) dL_law_972 ⟨by show cells + 2 + 0 ≤ 845199; omega, by show slots + 12 + 0 ≤ 6560506; omega⟩) hLS.2.2.2.2.1.2.1 hS hA (fun r7 Mr1 H locs hp9 hP9 hI9 hk9 hS => ?_)
  obtain ⟨g1, hR1, ht1, hr1, hg1⟩ := hp9
  have hLS := (TwS.c hLS.sw hz hP9 hI9 hk9).sw
  refine lv_istore (lv' := [(7, .int r7), (6, .int r6), (0, .ref b), (1, .ref (ad 0 0)), (2, .ref (g.1 0 0)), (3, .ref o1), (4, .ref o2), (5, .int x5)]) hx hb dL_law_975 hl (by decide) rfl (fun ls hl => ?_)
  refine lv_aload_n hx hb dL_law_977 rfl (lv_at hl 4 rfl) ?_
  have hz : s.heap.size ≤ H.size := hS.1
  have hX9 : Mr1 (g.1 0 0) = some (.inr (10, [.ref (g1.1 1 0), .ref (g1.1 2 0), .int (gS (m_smash st p1).2.2 2), .int (gS (m_smash st p1).2.2 3), .int (gS (m_smash st p1).2.2 1), .int (gS (m_smash st p1).2.2 0), .int (thR g1)])) := by rw [← hg1]; exact (hR1.1 0 0 ro0).trans (congrArg some (celR_0 G (m_smash st p1).2.2 g1 0))
  refine lm_calli (va_runV (As := []) (rest := []) ⟨hx, hb, hml, hown, hts⟩ (c_X7_thrown l G (aS H Mr1) Mr1 hX9) (cwV 0 hts gL_law_X7_thrown rfl rfl rfl (by decide +kernel) ⟨Nat.le_of_ble_eq_true rfl, Nat.le_of_ble_eq_true rfl⟩) (sPreV hG hS hLS.2.1 hLS.2.2.2.2.1.2.1 hA (hLS.2.1 _ _ hX9) (r := (RX7, TX7, 7)) rfl) rfl rfl hl.1 rfl (lv_room (Nat.le_of_ble_eq_true rfl)) dL_law_978 ⟨by show cells + 2 + 0 + 0 ≤ 845199; omega, by show slots + 12 + 0 + 0 ≤ 6560506; omega⟩) hLS.2.2.2.2.1.2.1 hS hA (fun r8 M9 H locs hp9 hP9 hI9 hk9 hS => ?_)
  obtain ⟨e8, hm9⟩ := hp9
  subst M9
  have hLS := (TwS.c hLS.sw hz hP9 hI9 hk9).sw
  refine lv_iload hx hb dL_law_981 (lv_at hl 1 rfl) ?_
  refine lv_icmp_eq (tgt := 988) hx hb dL_law_983 (by decide) (fun c1 => ?_) (fun c1 => absurd c1 (fun z => z (by rw [e8, ht1, e6])))
  refine lv_iload hx hb dL_law_988 (lv_at hl 1 rfl) ?_
  refine lv_if_ne (tgt := 1005) hx hb dL_law_990 (by decide) (fun c2 => ?_) (fun c2 => ?_)
  · skip
    refine lv_goto (tgt := 2675) hx hb dL_law_1005 (by decide) ?_
    refine W.widen (k := cells + 1100) (n := slots + 4500) (by omega) (by omega) ?_
    exact kk _ H locs ls ⟨ad1, g1, Mc1, Mr1, f9, f2, hC1, hR1, (I_smash hV p1), ha1, hg1, hLS⟩ hS (lv_sub hl [2, 3, 4, 5, 6, 7] rfl)
  · skip
    have h0 := nI_z (le_smash st p1) (e6.symm.trans c2)
    refine lv_aload_n hx hb dL_law_993 rfl (lv_at hl 5 rfl) ?_
    refine lv_iconst (v := 0) hx hb dL_law_994 (by decide) ?_
    refine lm_lald hx hb hK 1 hLS.2.2.1 rfl (show vp_in 0 1 by unfold vp_in; decide) (hf1 h0) dL_law_995 ?_
    refine lv_iload hx hb dL_law_996 (lv_at hl 0 rfl) ?_
    refine lv_i2l (v := r7.toInt64) hx hb dL_law_998 rfl ?_
    refine m_lcmp_eq (tgt := 1005) hx hb dL_law_999 dL_law_1000 (by decide) (fun c3 => ?_) (fun c3 => ?_)
    · skip
      refine lv_goto (tgt := 2675) hx hb dL_law_1005 (by decide) ?_
      refine W.widen (k := cells + 1100) (n := slots + 4500) (by omega) (by omega) ?_
      exact kk _ H locs ls ⟨ad1, g1, Mc1, Mr1, f9, f2, hC1, hR1, (I_smash hV p1), ha1, hg1, hLS⟩ hS (lv_sub hl [2, 3, 4, 5, 6, 7] rfl)
    · skip
      exact absurd (by rw [hr1 h0]) c3
theorem le_inside (st : St) (p0 : Int32) : (m_inside st p0).1 < 100 := by
  unfold m_inside
  first | exact le_0 | exact chk_le (by omega) (le_0) | exact chk_le (by omega) (chk_le (by omega) (le_0)) | exact chk_le (by omega) (chk_le (by omega) (chk_le (by omega) (le_0))) | exact chk_le (by omega) (chk_le (by omega) (chk_le (by omega) (chk_le (by omega) (le_0)))) | exact chk_le (by omega) (chk_le (by omega) (chk_le (by omega) (chk_le (by omega) (chk_le (by omega) (le_0))))) | exact chk_le (by omega) (chk_le (by omega) (chk_le (by omega) (chk_le (by omega) (chk_le (by omega) (chk_le (by omega) (le_0)))))) | exact chk_le (by omega) (chk_le (by omega) (chk_le (by omega) (chk_le (by omega) (chk_le (by omega) (chk_le (by omega) (chk_le (by omega) (le_0))))))) | exact chk_le (by omega) (chk_le (by omega) (chk_le (by omega) (chk_le (by omega) (chk_le (by omega) (chk_le (by omega) (chk_le (by omega) (chk_le (by omega) (le_0))))))))
theorem I_inside {st : St} (h : Inv st) (p0 : Int32) : Inv (m_inside st p0).2.2 := by
  unfold m_inside
  first | exact h | exact chk_I h (fun _ => h) | exact chk_I h (fun _ => chk_I h (fun _ => h)) | exact chk_I h (fun _ => chk_I h (fun _ => chk_I h (fun _ => h))) | exact chk_I h (fun _ => chk_I h (fun _ => chk_I h (fun _ => chk_I h (fun _ => h)))) | exact chk_I h (fun _ => chk_I h (fun _ => chk_I h (fun _ => chk_I h (fun _ => chk_I h (fun _ => h))))) | exact chk_I h (fun _ => chk_I h (fun _ => chk_I h (fun _ => chk_I h (fun _ => chk_I h (fun _ => chk_I h (fun _ => h)))))) | exact chk_I h (fun _ => chk_I h (fun _ => chk_I h (fun _ => chk_I h (fun _ => chk_I h (fun _ => chk_I h (fun _ => chk_I h (fun _ => h))))))) | exact chk_I h (fun _ => chk_I h (fun _ => chk_I h (fun _ => chk_I h (fun _ => chk_I h (fun _ => chk_I h (fun _ => chk_I h (fun _ => chk_I h (fun _ => h))))))))
set_option maxHeartbeats 4000000 in
set_option maxRecDepth 100000 in
theorem law_inside {p : Program} {l : Launch} {e : Env} {s : State} {m : MethodId} {below : List Frame} {meth : Method} {c : Code} {Q : State → Prop} {b L : Nat} {xs : Nat → Int32} {G : mg} (C0 : TwC p l s m c b L xs G) {H : Heap} {locs : List Loc} {ls : Array Slot} {cells slots : Nat} (hcs : cells + 1100 ≤ 845199 ∧ slots + 4500 ≤ 6560506) {cw rw o1 o2 : Nat} {st : St} {x5 p1 p2 p3 p4 : Int32} (hLI : TwI G s.heap.size H cw rw o1 o2 st) (hS : va_S (aH s.heap.size) s.heap H locs) (hl : lv_has ls 9 [(0, .ref b), (1, .ref cw), (2, .ref rw), (3, .ref o1), (4, .ref o2), (5, .int x5)]) (hi1 : vp_in (x5 + 1) L) (hi2 : vp_in (x5 + 2) L) (hi3 : vp_in (x5 + 3) L) (hi4 : vp_in (x5 + 4) L) (hv1 : xs (x5 + 1).toNatClampNeg = p1) (hv2 : xs (x5 + 2).toNatClampNeg = p2) (hv3 : xs (x5 + 3).toNatClampNeg = p3) (hv4 : xs (x5 + 4).toNatClampNeg = p4)
    (kk : ∀ (st1 : St) (H1 : Heap) (locs1 : List Loc) (ls1 : Array Slot), TwI G s.heap.size H1 cw rw o1 o2 st1 → va_S (aH s.heap.size) s.heap H1 locs1 → lv_has ls1 9 [(0, .ref b), (1, .ref cw), (2, .ref rw), (3, .ref o1), (4, .ref o2), (5, .int x5)] → W p l e room_1 s m #[Value.ref b] below meth c H1 locs1 (cells + 1100) (slots + 4500) Q (F0 m 2675 ls1 [])) : W p l e room_1 s m #[Value.ref b] below meth c H locs cells slots Q (F0 m 1008 ls []) := by
  obtain ⟨hx, hb, hml, hown, hts, hX, hbl, hG, hl9⟩ := C0
  obtain ⟨ad, g, Mc, Mr, f1, f2, hC, hR, hV, rfl, rfl, hLS⟩ := hLI
  have hA : ∀ q : Nat, s.heap.size ≤ q → aH s.heap.size q := fun _ h => h
  have hK := hG.K
  refine lv_aload_n hx hb dL_law_1008 rfl (lv_at hl 1 rfl) ?_
  refine lv_aload_n hx hb dL_law_1009 rfl (lv_at hl 0 rfl) ?_
  refine lv_iload hx hb dL_law_1010 (lv_at hl 5 rfl) ?_
  refine lv_iconst (v := 1) hx hb dL_law_1012 (by decide) ?_
  refine lv_iadd hx hb dL_law_1013 ?_
  refine lm_sld hx hb hX hbl hS hi1 hv1 dL_law_1014 ?_
  refine lv_aload_n hx hb dL_law_1015 rfl (lv_at hl 3 rfl) ?_
  have hLo := hLS
  have hz : s.heap.size ≤ H.size := hS.1
  have hPM : mP G.1 (mu Mc o1 (.inl (G.2.1 1, 1, .inr (.inl f1)))) H := mP_o hLo.1 hLo.2.2.1
  have hIM : mI (aH s.heap.size) (mu Mc o1 (.inl (G.2.1 1, 1, .inr (.inl f1)))) := mI.mu hLo.2.2.2.2.1.1 hLo.2.2.2.2.1.2.2.1
  refine ls_calli (vx_runSX (As := [.ref (ad 0 0), .int p1, .ref o1]) (rest := []) ⟨hx, hb, hml, hown, hts⟩ (c_L_inside l G (aS H (mu Mc o1 (.inl (G.2.1 1, 1, .inr (.inl f1))))) Mc hl9 st ad p1 o1 hLo.2.2.2.2.2.2.1 hC hV) (vx_cwSW 3 hts gL_law_L_inside rfl rfl rfl (by decide +kernel) ⟨Nat.le_of_ble_eq_true rfl, Nat.le_of_ble_eq_true rfl⟩) (sPreS hG hS hPM hIM hA) rfl rfl hl.1 rfl (lv_room (Nat.le_of_ble_eq_true rfl)) dL_law_1016 ⟨by show cells + 1 ≤ 845199; omega, by show slots + 6 ≤ 6560506; omega⟩) hIM hS hA (fun r6 M9 H locs hp9 hP9 hI9 hk9 hS => ?_)
  obtain ⟨ad1, Mc1, f9, e6, hn9, rfl, hC1, ha1, hf1⟩ := hp9
  have hLS := TwS.c1 hLo hz hP9 hn9 hI9 hk9
  refine lv_istore (lv' := [(6, .int r6), (0, .ref b), (1, .ref (ad 0 0)), (2, .ref (g.1 0 0)), (3, .ref o1), (4, .ref o2), (5, .int x5)]) hx hb dL_law_1019 hl (by decide) rfl (fun ls hl => ?_)
  refine lv_aload_n hx hb dL_law_1021 rfl (lv_at hl 3 rfl) ?_
  refine lv_aload_n hx hb dL_law_1022 rfl (lv_at hl 1 rfl) ?_
  refine lv_iload hx hb dL_law_1023 (lv_at hl 6 rfl) ?_
  refine lv_iconst (v := 1) hx hb dL_law_1025 (by decide) ?_
  refine lv_iadd hx hb dL_law_1026 ?_
  refine lm_sld hx hb hX hbl hS hi1 hv1 dL_law_1027 ?_
  have hz : s.heap.size ≤ H.size := hS.1
  refine lm_calli (va_runV (As := [.int p1]) (rest := []) ⟨hx, hb, hml, hown, hts⟩ (c_X7_inside l G (aS H Mr) Mr st g p1 hR hV) (cwV 1 hts gL_law_X7_inside rfl rfl rfl (by decide +kernel) ⟨Nat.le_of_ble_eq_true rfl, Nat.le_of_ble_eq_true rfl⟩) (sPreV hG hS hLS.2.1 hLS.2.2.2.2.1.2.1 hA (RS.at0 hR hLS.2.1) (r := (RX7, TX7, 7)) rfl) rfl rfl hl.1 rfl (lv_room (Nat.le_of_ble_eq_true rfl)) dL_law_1028 ⟨by show cells + 1 + 0 ≤ 845199; omega, by show slots + 6 + 0 ≤ 6560506; omega⟩) hLS.2.2.2.2.1.2.1 hS hA (fun r7 Mr1 H locs hp9 hP9 hI9 hk9 hS => ?_)
  obtain ⟨g1, hR1, ht1, hr1, hg1⟩ := hp9
  have hLS := (TwS.c hLS.sw hz hP9 hI9 hk9).sw
  refine lv_istore (lv' := [(7, .int r7), (6, .int r6), (0, .ref b), (1, .ref (ad 0 0)), (2, .ref (g.1 0 0)), (3, .ref o1), (4, .ref o2), (5, .int x5)]) hx hb dL_law_1031 hl (by decide) rfl (fun ls hl => ?_)
  refine lv_aload_n hx hb dL_law_1033 rfl (lv_at hl 4 rfl) ?_
  have hz : s.heap.size ≤ H.size := hS.1
  have hX9 : Mr1 (g.1 0 0) = some (.inr (10, [.ref (g1.1 1 0), .ref (g1.1 2 0), .int (gS (m_inside st p1).2.2 2), .int (gS (m_inside st p1).2.2 3), .int (gS (m_inside st p1).2.2 1), .int (gS (m_inside st p1).2.2 0), .int (thR g1)])) := by rw [← hg1]; exact (hR1.1 0 0 ro0).trans (congrArg some (celR_0 G (m_inside st p1).2.2 g1 0))
  refine lm_calli (va_runV (As := []) (rest := []) ⟨hx, hb, hml, hown, hts⟩ (c_X7_thrown l G (aS H Mr1) Mr1 hX9) (cwV 0 hts gL_law_X7_thrown rfl rfl rfl (by decide +kernel) ⟨Nat.le_of_ble_eq_true rfl, Nat.le_of_ble_eq_true rfl⟩) (sPreV hG hS hLS.2.1 hLS.2.2.2.2.1.2.1 hA (hLS.2.1 _ _ hX9) (r := (RX7, TX7, 7)) rfl) rfl rfl hl.1 rfl (lv_room (Nat.le_of_ble_eq_true rfl)) dL_law_1034 ⟨by show cells + 1 + 0 + 0 ≤ 845199; omega, by show slots + 6 + 0 + 0 ≤ 6560506; omega⟩) hLS.2.2.2.2.1.2.1 hS hA (fun r8 M9 H locs hp9 hP9 hI9 hk9 hS => ?_)
  obtain ⟨e8, hm9⟩ := hp9
  subst M9
  have hLS := (TwS.c hLS.sw hz hP9 hI9 hk9).sw
  refine lv_iload hx hb dL_law_1037 (lv_at hl 1 rfl) ?_
  refine lv_icmp_eq (tgt := 1044) hx hb dL_law_1039 (by decide) (fun c1 => ?_) (fun c1 => absurd c1 (fun z => z (by rw [e8, ht1, e6])))
  refine lv_iload hx hb dL_law_1044 (lv_at hl 1 rfl) ?_
  refine lv_if_ne (tgt := 1061) hx hb dL_law_1046 (by decide) (fun c2 => ?_) (fun c2 => ?_)
  · skip
    refine lv_goto (tgt := 2675) hx hb dL_law_1061 (by decide) ?_
    refine W.widen (k := cells + 1100) (n := slots + 4500) (by omega) (by omega) ?_
    exact kk _ H locs ls ⟨ad1, g1, Mc1, Mr1, f9, f2, hC1, hR1, (I_inside hV p1), ha1, hg1, hLS⟩ hS (lv_sub hl [2, 3, 4, 5, 6, 7] rfl)
  · skip
    have h0 := nI_z (le_inside st p1) (e6.symm.trans c2)
    refine lv_aload_n hx hb dL_law_1049 rfl (lv_at hl 5 rfl) ?_
    refine lv_iconst (v := 0) hx hb dL_law_1050 (by decide) ?_
    refine lm_lald hx hb hK 1 hLS.2.2.1 rfl (show vp_in 0 1 by unfold vp_in; decide) (hf1 h0) dL_law_1051 ?_
    refine lv_iload hx hb dL_law_1052 (lv_at hl 0 rfl) ?_
    refine lv_i2l (v := r7.toInt64) hx hb dL_law_1054 rfl ?_
    refine m_lcmp_eq (tgt := 1061) hx hb dL_law_1055 dL_law_1056 (by decide) (fun c3 => ?_) (fun c3 => ?_)
    · skip
      refine lv_goto (tgt := 2675) hx hb dL_law_1061 (by decide) ?_
      refine W.widen (k := cells + 1100) (n := slots + 4500) (by omega) (by omega) ?_
      exact kk _ H locs ls ⟨ad1, g1, Mc1, Mr1, f9, f2, hC1, hR1, (I_inside hV p1), ha1, hg1, hLS⟩ hS (lv_sub hl [2, 3, 4, 5, 6, 7] rfl)
    · skip
      exact absurd (by rw [hr1 h0]) c3
theorem le_crept (st : St) (p0 : Int32) : (m_crept st p0).1 < 100 := by
  unfold m_crept
  first | exact le_0 | exact chk_le (by omega) (le_0) | exact chk_le (by omega) (chk_le (by omega) (le_0)) | exact chk_le (by omega) (chk_le (by omega) (chk_le (by omega) (le_0))) | exact chk_le (by omega) (chk_le (by omega) (chk_le (by omega) (chk_le (by omega) (le_0)))) | exact chk_le (by omega) (chk_le (by omega) (chk_le (by omega) (chk_le (by omega) (chk_le (by omega) (le_0))))) | exact chk_le (by omega) (chk_le (by omega) (chk_le (by omega) (chk_le (by omega) (chk_le (by omega) (chk_le (by omega) (le_0)))))) | exact chk_le (by omega) (chk_le (by omega) (chk_le (by omega) (chk_le (by omega) (chk_le (by omega) (chk_le (by omega) (chk_le (by omega) (le_0))))))) | exact chk_le (by omega) (chk_le (by omega) (chk_le (by omega) (chk_le (by omega) (chk_le (by omega) (chk_le (by omega) (chk_le (by omega) (chk_le (by omega) (le_0))))))))
theorem I_crept {st : St} (h : Inv st) (p0 : Int32) : Inv (m_crept st p0).2.2 := by
  unfold m_crept
  first | exact h | exact chk_I h (fun _ => h) | exact chk_I h (fun _ => chk_I h (fun _ => h)) | exact chk_I h (fun _ => chk_I h (fun _ => chk_I h (fun _ => h))) | exact chk_I h (fun _ => chk_I h (fun _ => chk_I h (fun _ => chk_I h (fun _ => h)))) | exact chk_I h (fun _ => chk_I h (fun _ => chk_I h (fun _ => chk_I h (fun _ => chk_I h (fun _ => h))))) | exact chk_I h (fun _ => chk_I h (fun _ => chk_I h (fun _ => chk_I h (fun _ => chk_I h (fun _ => chk_I h (fun _ => h)))))) | exact chk_I h (fun _ => chk_I h (fun _ => chk_I h (fun _ => chk_I h (fun _ => chk_I h (fun _ => chk_I h (fun _ => chk_I h (fun _ => h))))))) | exact chk_I h (fun _ => chk_I h (fun _ => chk_I h (fun _ => chk_I h (fun _ => chk_I h (fun _ => chk_I h (fun _ => chk_I h (fun _ => chk_I h (fun _ => h))))))))
set_option maxHeartbeats 4000000 in
set_option maxRecDepth 100000 in
theorem law_crept {p : Program} {l : Launch} {e : Env} {s : State} {m : MethodId} {below : List Frame} {meth : Method} {c : Code} {Q : State → Prop} {b L : Nat} {xs : Nat → Int32} {G : mg} (C0 : TwC p l s m c b L xs G) {H : Heap} {locs : List Loc} {ls : Array Slot} {cells slots : Nat} (hcs : cells + 1100 ≤ 845199 ∧ slots + 4500 ≤ 6560506) {cw rw o1 o2 : Nat} {st : St} {x5 p1 p2 p3 p4 : Int32} (hLI : TwI G s.heap.size H cw rw o1 o2 st) (hS : va_S (aH s.heap.size) s.heap H locs) (hl : lv_has ls 9 [(0, .ref b), (1, .ref cw), (2, .ref rw), (3, .ref o1), (4, .ref o2), (5, .int x5)]) (hi1 : vp_in (x5 + 1) L) (hi2 : vp_in (x5 + 2) L) (hi3 : vp_in (x5 + 3) L) (hi4 : vp_in (x5 + 4) L) (hv1 : xs (x5 + 1).toNatClampNeg = p1) (hv2 : xs (x5 + 2).toNatClampNeg = p2) (hv3 : xs (x5 + 3).toNatClampNeg = p3) (hv4 : xs (x5 + 4).toNatClampNeg = p4)
    (kk : ∀ (st1 : St) (H1 : Heap) (locs1 : List Loc) (ls1 : Array Slot), TwI G s.heap.size H1 cw rw o1 o2 st1 → va_S (aH s.heap.size) s.heap H1 locs1 → lv_has ls1 9 [(0, .ref b), (1, .ref cw), (2, .ref rw), (3, .ref o1), (4, .ref o2), (5, .int x5)] → W p l e room_1 s m #[Value.ref b] below meth c H1 locs1 (cells + 1100) (slots + 4500) Q (F0 m 2675 ls1 [])) : W p l e room_1 s m #[Value.ref b] below meth c H locs cells slots Q (F0 m 1064 ls []) := by
  obtain ⟨hx, hb, hml, hown, hts, hX, hbl, hG, hl9⟩ := C0
  obtain ⟨ad, g, Mc, Mr, f1, f2, hC, hR, hV, rfl, rfl, hLS⟩ := hLI
  have hA : ∀ q : Nat, s.heap.size ≤ q → aH s.heap.size q := fun _ h => h
  have hK := hG.K
  refine lv_aload_n hx hb dL_law_1064 rfl (lv_at hl 1 rfl) ?_
  refine lv_aload_n hx hb dL_law_1065 rfl (lv_at hl 0 rfl) ?_
  refine lv_iload hx hb dL_law_1066 (lv_at hl 5 rfl) ?_
  refine lv_iconst (v := 1) hx hb dL_law_1068 (by decide) ?_
  refine lv_iadd hx hb dL_law_1069 ?_
  refine lm_sld hx hb hX hbl hS hi1 hv1 dL_law_1070 ?_
  refine lv_aload_n hx hb dL_law_1071 rfl (lv_at hl 3 rfl) ?_
  have hLo := hLS
  have hz : s.heap.size ≤ H.size := hS.1
  have hPM : mP G.1 (mu Mc o1 (.inl (G.2.1 1, 1, .inr (.inl f1)))) H := mP_o hLo.1 hLo.2.2.1
  have hIM : mI (aH s.heap.size) (mu Mc o1 (.inl (G.2.1 1, 1, .inr (.inl f1)))) := mI.mu hLo.2.2.2.2.1.1 hLo.2.2.2.2.1.2.2.1
  refine ls_calli (vx_runSX (As := [.ref (ad 0 0), .int p1, .ref o1]) (rest := []) ⟨hx, hb, hml, hown, hts⟩ (c_L_crept l G (aS H (mu Mc o1 (.inl (G.2.1 1, 1, .inr (.inl f1))))) Mc hl9 st ad p1 o1 hLo.2.2.2.2.2.2.1 hC hV) (vx_cwSW 3 hts gL_law_L_crept rfl rfl rfl (by decide +kernel) ⟨Nat.le_of_ble_eq_true rfl, Nat.le_of_ble_eq_true rfl⟩) (sPreS hG hS hPM hIM hA) rfl rfl hl.1 rfl (lv_room (Nat.le_of_ble_eq_true rfl)) dL_law_1072 ⟨by show cells + 1 ≤ 845199; omega, by show slots + 6 ≤ 6560506; omega⟩) hIM hS hA (fun r6 M9 H locs hp9 hP9 hI9 hk9 hS => ?_)
  obtain ⟨ad1, Mc1, f9, e6, hn9, rfl, hC1, ha1, hf1⟩ := hp9
  have hLS := TwS.c1 hLo hz hP9 hn9 hI9 hk9
  refine lv_istore (lv' := [(6, .int r6), (0, .ref b), (1, .ref (ad 0 0)), (2, .ref (g.1 0 0)), (3, .ref o1), (4, .ref o2), (5, .int x5)]) hx hb dL_law_1075 hl (by decide) rfl (fun ls hl => ?_)
  refine lv_aload_n hx hb dL_law_1077 rfl (lv_at hl 3 rfl) ?_
  refine lv_aload_n hx hb dL_law_1078 rfl (lv_at hl 1 rfl) ?_
  refine lv_iload hx hb dL_law_1079 (lv_at hl 6 rfl) ?_
  refine lv_iconst (v := 1) hx hb dL_law_1081 (by decide) ?_
  refine lv_iadd hx hb dL_law_1082 ?_
  refine lm_sld hx hb hX hbl hS hi1 hv1 dL_law_1083 ?_
  have hz : s.heap.size ≤ H.size := hS.1
  refine lm_calli (va_runV (As := [.int p1]) (rest := []) ⟨hx, hb, hml, hown, hts⟩ (c_X7_crept l G (aS H Mr) Mr st g p1 hR hV) (cwV 1 hts gL_law_X7_crept rfl rfl rfl (by decide +kernel) ⟨Nat.le_of_ble_eq_true rfl, Nat.le_of_ble_eq_true rfl⟩) (sPreV hG hS hLS.2.1 hLS.2.2.2.2.1.2.1 hA (RS.at0 hR hLS.2.1) (r := (RX7, TX7, 7)) rfl) rfl rfl hl.1 rfl (lv_room (Nat.le_of_ble_eq_true rfl)) dL_law_1084 ⟨by show cells + 1 + 0 ≤ 845199; omega, by show slots + 6 + 0 ≤ 6560506; omega⟩) hLS.2.2.2.2.1.2.1 hS hA (fun r7 Mr1 H locs hp9 hP9 hI9 hk9 hS => ?_)
  obtain ⟨g1, hR1, ht1, hr1, hg1⟩ := hp9
  have hLS := (TwS.c hLS.sw hz hP9 hI9 hk9).sw
  refine lv_istore (lv' := [(7, .int r7), (6, .int r6), (0, .ref b), (1, .ref (ad 0 0)), (2, .ref (g.1 0 0)), (3, .ref o1), (4, .ref o2), (5, .int x5)]) hx hb dL_law_1087 hl (by decide) rfl (fun ls hl => ?_)
  refine lv_aload_n hx hb dL_law_1089 rfl (lv_at hl 4 rfl) ?_
  have hz : s.heap.size ≤ H.size := hS.1
  have hX9 : Mr1 (g.1 0 0) = some (.inr (10, [.ref (g1.1 1 0), .ref (g1.1 2 0), .int (gS (m_crept st p1).2.2 2), .int (gS (m_crept st p1).2.2 3), .int (gS (m_crept st p1).2.2 1), .int (gS (m_crept st p1).2.2 0), .int (thR g1)])) := by rw [← hg1]; exact (hR1.1 0 0 ro0).trans (congrArg some (celR_0 G (m_crept st p1).2.2 g1 0))
  refine lm_calli (va_runV (As := []) (rest := []) ⟨hx, hb, hml, hown, hts⟩ (c_X7_thrown l G (aS H Mr1) Mr1 hX9) (cwV 0 hts gL_law_X7_thrown rfl rfl rfl (by decide +kernel) ⟨Nat.le_of_ble_eq_true rfl, Nat.le_of_ble_eq_true rfl⟩) (sPreV hG hS hLS.2.1 hLS.2.2.2.2.1.2.1 hA (hLS.2.1 _ _ hX9) (r := (RX7, TX7, 7)) rfl) rfl rfl hl.1 rfl (lv_room (Nat.le_of_ble_eq_true rfl)) dL_law_1090 ⟨by show cells + 1 + 0 + 0 ≤ 845199; omega, by show slots + 6 + 0 + 0 ≤ 6560506; omega⟩) hLS.2.2.2.2.1.2.1 hS hA (fun r8 M9 H locs hp9 hP9 hI9 hk9 hS => ?_)
  obtain ⟨e8, hm9⟩ := hp9
  subst M9
  have hLS := (TwS.c hLS.sw hz hP9 hI9 hk9).sw
  refine lv_iload hx hb dL_law_1093 (lv_at hl 1 rfl) ?_
  refine lv_icmp_eq (tgt := 1100) hx hb dL_law_1095 (by decide) (fun c1 => ?_) (fun c1 => absurd c1 (fun z => z (by rw [e8, ht1, e6])))
  refine lv_iload hx hb dL_law_1100 (lv_at hl 1 rfl) ?_
  refine lv_if_ne (tgt := 1117) hx hb dL_law_1102 (by decide) (fun c2 => ?_) (fun c2 => ?_)
  · skip
    refine lv_goto (tgt := 2675) hx hb dL_law_1117 (by decide) ?_
    refine W.widen (k := cells + 1100) (n := slots + 4500) (by omega) (by omega) ?_
    exact kk _ H locs ls ⟨ad1, g1, Mc1, Mr1, f9, f2, hC1, hR1, (I_crept hV p1), ha1, hg1, hLS⟩ hS (lv_sub hl [2, 3, 4, 5, 6, 7] rfl)
  · skip
    have h0 := nI_z (le_crept st p1) (e6.symm.trans c2)
    refine lv_aload_n hx hb dL_law_1105 rfl (lv_at hl 5 rfl) ?_
    refine lv_iconst (v := 0) hx hb dL_law_1106 (by decide) ?_
    refine lm_lald hx hb hK 1 hLS.2.2.1 rfl (show vp_in 0 1 by unfold vp_in; decide) (hf1 h0) dL_law_1107 ?_
    refine lv_iload hx hb dL_law_1108 (lv_at hl 0 rfl) ?_
    refine lv_i2l (v := r7.toInt64) hx hb dL_law_1110 rfl ?_
    refine m_lcmp_eq (tgt := 1117) hx hb dL_law_1111 dL_law_1112 (by decide) (fun c3 => ?_) (fun c3 => ?_)
    · skip
      refine lv_goto (tgt := 2675) hx hb dL_law_1117 (by decide) ?_
      refine W.widen (k := cells + 1100) (n := slots + 4500) (by omega) (by omega) ?_
      exact kk _ H locs ls ⟨ad1, g1, Mc1, Mr1, f9, f2, hC1, hR1, (I_crept hV p1), ha1, hg1, hLS⟩ hS (lv_sub hl [2, 3, 4, 5, 6, 7] rfl)
    · skip
      exact absurd (by rw [hr1 h0]) c3
theorem le_days (st : St) (p0 : Int32) : (m_days st p0).1 < 100 := by
  unfold m_days
  first | exact le_0 | exact chk_le (by omega) (le_0) | exact chk_le (by omega) (chk_le (by omega) (le_0)) | exact chk_le (by omega) (chk_le (by omega) (chk_le (by omega) (le_0))) | exact chk_le (by omega) (chk_le (by omega) (chk_le (by omega) (chk_le (by omega) (le_0)))) | exact chk_le (by omega) (chk_le (by omega) (chk_le (by omega) (chk_le (by omega) (chk_le (by omega) (le_0))))) | exact chk_le (by omega) (chk_le (by omega) (chk_le (by omega) (chk_le (by omega) (chk_le (by omega) (chk_le (by omega) (le_0)))))) | exact chk_le (by omega) (chk_le (by omega) (chk_le (by omega) (chk_le (by omega) (chk_le (by omega) (chk_le (by omega) (chk_le (by omega) (le_0))))))) | exact chk_le (by omega) (chk_le (by omega) (chk_le (by omega) (chk_le (by omega) (chk_le (by omega) (chk_le (by omega) (chk_le (by omega) (chk_le (by omega) (le_0))))))))
set_option maxHeartbeats 4000000 in
set_option maxRecDepth 100000 in
theorem law_days {p : Program} {l : Launch} {e : Env} {s : State} {m : MethodId} {below : List Frame} {meth : Method} {c : Code} {Q : State → Prop} {b L : Nat} {xs : Nat → Int32} {G : mg} (C0 : TwC p l s m c b L xs G) {H : Heap} {locs : List Loc} {ls : Array Slot} {cells slots : Nat} (hcs : cells + 1100 ≤ 845199 ∧ slots + 4500 ≤ 6560506) {cw rw o1 o2 : Nat} {st : St} {x5 p1 p2 p3 p4 : Int32} (hLI : TwI G s.heap.size H cw rw o1 o2 st) (hS : va_S (aH s.heap.size) s.heap H locs) (hl : lv_has ls 9 [(0, .ref b), (1, .ref cw), (2, .ref rw), (3, .ref o1), (4, .ref o2), (5, .int x5)]) (hi1 : vp_in (x5 + 1) L) (hi2 : vp_in (x5 + 2) L) (hi3 : vp_in (x5 + 3) L) (hi4 : vp_in (x5 + 4) L) (hv1 : xs (x5 + 1).toNatClampNeg = p1) (hv2 : xs (x5 + 2).toNatClampNeg = p2) (hv3 : xs (x5 + 3).toNatClampNeg = p3) (hv4 : xs (x5 + 4).toNatClampNeg = p4)
    (kk : ∀ (st1 : St) (H1 : Heap) (locs1 : List Loc) (ls1 : Array Slot), TwI G s.heap.size H1 cw rw o1 o2 st1 → va_S (aH s.heap.size) s.heap H1 locs1 → lv_has ls1 9 [(0, .ref b), (1, .ref cw), (2, .ref rw), (3, .ref o1), (4, .ref o2), (5, .int x5)] → W p l e room_1 s m #[Value.ref b] below meth c H1 locs1 (cells + 1100) (slots + 4500) Q (F0 m 2675 ls1 [])) : W p l e room_1 s m #[Value.ref b] below meth c H locs cells slots Q (F0 m 1120 ls []) := by
  obtain ⟨hx, hb, hml, hown, hts, hX, hbl, hG, hl9⟩ := C0
  obtain ⟨ad, g, Mc, Mr, f1, f2, hC, hR, hV, rfl, rfl, hLS⟩ := hLI
  have hA : ∀ q : Nat, s.heap.size ≤ q → aH s.heap.size q := fun _ h => h
  have hK := hG.K
  refine lv_aload_n hx hb dL_law_1120 rfl (lv_at hl 1 rfl) ?_
  refine lv_aload_n hx hb dL_law_1121 rfl (lv_at hl 0 rfl) ?_
  refine lv_iload hx hb dL_law_1122 (lv_at hl 5 rfl) ?_
  refine lv_iconst (v := 1) hx hb dL_law_1124 (by decide) ?_
  refine lv_iadd hx hb dL_law_1125 ?_
  refine lm_sld hx hb hX hbl hS hi1 hv1 dL_law_1126 ?_
  refine lv_aload_n hx hb dL_law_1127 rfl (lv_at hl 3 rfl) ?_
  have hLo := hLS
  have hz : s.heap.size ≤ H.size := hS.1
  have hPM : mP G.1 (mu Mc o1 (.inl (G.2.1 1, 1, .inr (.inl f1)))) H := mP_o hLo.1 hLo.2.2.1
  have hIM : mI (aH s.heap.size) (mu Mc o1 (.inl (G.2.1 1, 1, .inr (.inl f1)))) := mI.mu hLo.2.2.2.2.1.1 hLo.2.2.2.2.1.2.2.1
  refine ls_calli (vx_runSX (As := [.ref (ad 0 0), .int p1, .ref o1]) (rest := []) ⟨hx, hb, hml, hown, hts⟩ (c_L_days l G (aS H (mu Mc o1 (.inl (G.2.1 1, 1, .inr (.inl f1))))) Mc hl9 st ad p1 o1 hLo.2.2.2.2.2.2.1 hC hV) (vx_cwSW 3 hts gL_law_L_days rfl rfl rfl (by decide +kernel) ⟨Nat.le_of_ble_eq_true rfl, Nat.le_of_ble_eq_true rfl⟩) (sPreS hG hS hPM hIM hA) rfl rfl hl.1 rfl (lv_room (Nat.le_of_ble_eq_true rfl)) dL_law_1128 ⟨by show cells + 2 ≤ 845199; omega, by show slots + 12 ≤ 6560506; omega⟩) hIM hS hA (fun r6 M9 H locs hp9 hP9 hI9 hk9 hS => ?_)
  obtain ⟨ad1, Mc1, f9, e6, hn9, rfl, hC1, ha1, hf1⟩ := hp9
  have hLS := TwS.c1 hLo hz hP9 hn9 hI9 hk9
  refine lv_istore (lv' := [(6, .int r6), (0, .ref b), (1, .ref (ad 0 0)), (2, .ref (g.1 0 0)), (3, .ref o1), (4, .ref o2), (5, .int x5)]) hx hb dL_law_1131 hl (by decide) rfl (fun ls hl => ?_)
  refine lv_aload_n hx hb dL_law_1133 rfl (lv_at hl 3 rfl) ?_
  refine lv_aload_n hx hb dL_law_1134 rfl (lv_at hl 1 rfl) ?_
  refine lv_iload hx hb dL_law_1135 (lv_at hl 6 rfl) ?_
  refine lv_iconst (v := 1) hx hb dL_law_1137 (by decide) ?_
  refine lv_iadd hx hb dL_law_1138 ?_
  refine lm_sld hx hb hX hbl hS hi1 hv1 dL_law_1139 ?_
  have hz : s.heap.size ≤ H.size := hS.1
  refine lm_calli (va_runV (As := [.int p1]) (rest := []) ⟨hx, hb, hml, hown, hts⟩ (c_X7_days l G (aS H Mr) Mr st g p1 hR hV) (cwV 1 hts gL_law_X7_days rfl rfl rfl (by decide +kernel) ⟨Nat.le_of_ble_eq_true rfl, Nat.le_of_ble_eq_true rfl⟩) (sPreV hG hS hLS.2.1 hLS.2.2.2.2.1.2.1 hA (RS.at0 hR hLS.2.1) (r := (RX7, TX7, 7)) rfl) rfl rfl hl.1 rfl (lv_room (Nat.le_of_ble_eq_true rfl)) dL_law_1140 ⟨by show cells + 2 + 1000 ≤ 845199; omega, by show slots + 12 + 4000 ≤ 6560506; omega⟩) hLS.2.2.2.2.1.2.1 hS hA (fun r7 Mr1 H locs hp9 hP9 hI9 hk9 hS => ?_)
  obtain ⟨g1, hR1, ht1, hr1, hg1⟩ := hp9
  have hLS := (TwS.c hLS.sw hz hP9 hI9 hk9).sw
  refine lv_istore (lv' := [(7, .int r7), (6, .int r6), (0, .ref b), (1, .ref (ad 0 0)), (2, .ref (g.1 0 0)), (3, .ref o1), (4, .ref o2), (5, .int x5)]) hx hb dL_law_1143 hl (by decide) rfl (fun ls hl => ?_)
  refine lv_aload_n hx hb dL_law_1145 rfl (lv_at hl 4 rfl) ?_
  have hz : s.heap.size ≤ H.size := hS.1
  have hX9 : Mr1 (g.1 0 0) = some (.inr (10, [.ref (g1.1 1 0), .ref (g1.1 2 0), .int (gS (m_days st p1).2.2 2), .int (gS (m_days st p1).2.2 3), .int (gS (m_days st p1).2.2 1), .int (gS (m_days st p1).2.2 0), .int (thR g1)])) := by rw [← hg1]; exact (hR1.1 0 0 ro0).trans (congrArg some (celR_0 G (m_days st p1).2.2 g1 0))
  refine lm_calli (va_runV (As := []) (rest := []) ⟨hx, hb, hml, hown, hts⟩ (c_X7_thrown l G (aS H Mr1) Mr1 hX9) (cwV 0 hts gL_law_X7_thrown rfl rfl rfl (by decide +kernel) ⟨Nat.le_of_ble_eq_true rfl, Nat.le_of_ble_eq_true rfl⟩) (sPreV hG hS hLS.2.1 hLS.2.2.2.2.1.2.1 hA (hLS.2.1 _ _ hX9) (r := (RX7, TX7, 7)) rfl) rfl rfl hl.1 rfl (lv_room (Nat.le_of_ble_eq_true rfl)) dL_law_1146 ⟨by show cells + 2 + 1000 + 0 ≤ 845199; omega, by show slots + 12 + 4000 + 0 ≤ 6560506; omega⟩) hLS.2.2.2.2.1.2.1 hS hA (fun r8 M9 H locs hp9 hP9 hI9 hk9 hS => ?_)
  obtain ⟨e8, hm9⟩ := hp9
  subst M9
  have hLS := (TwS.c hLS.sw hz hP9 hI9 hk9).sw
  refine lv_iload hx hb dL_law_1149 (lv_at hl 1 rfl) ?_
  refine lv_icmp_eq (tgt := 1156) hx hb dL_law_1151 (by decide) (fun c1 => ?_) (fun c1 => absurd c1 (fun z => z (by rw [e8, ht1, e6])))
  refine lv_iload hx hb dL_law_1156 (lv_at hl 1 rfl) ?_
  refine lv_if_ne (tgt := 1173) hx hb dL_law_1158 (by decide) (fun c2 => ?_) (fun c2 => ?_)
  · skip
    refine lv_goto (tgt := 2675) hx hb dL_law_1173 (by decide) ?_
    refine W.widen (k := cells + 1100) (n := slots + 4500) (by omega) (by omega) ?_
    exact kk _ H locs ls ⟨ad1, g1, Mc1, Mr1, f9, f2, hC1, hR1, (I_days hV p1), ha1, hg1, hLS⟩ hS (lv_sub hl [2, 3, 4, 5, 6, 7] rfl)
  · skip
    have h0 := nI_z (le_days st p1) (e6.symm.trans c2)
    refine lv_aload_n hx hb dL_law_1161 rfl (lv_at hl 5 rfl) ?_
    refine lv_iconst (v := 0) hx hb dL_law_1162 (by decide) ?_
    refine lm_lald hx hb hK 1 hLS.2.2.1 rfl (show vp_in 0 1 by unfold vp_in; decide) (hf1 h0) dL_law_1163 ?_
    refine lv_iload hx hb dL_law_1164 (lv_at hl 0 rfl) ?_
    refine lv_i2l (v := r7.toInt64) hx hb dL_law_1166 rfl ?_
    refine m_lcmp_eq (tgt := 1173) hx hb dL_law_1167 dL_law_1168 (by decide) (fun c3 => ?_) (fun c3 => ?_)
    · skip
      refine lv_goto (tgt := 2675) hx hb dL_law_1173 (by decide) ?_
      refine W.widen (k := cells + 1100) (n := slots + 4500) (by omega) (by omega) ?_
      exact kk _ H locs ls ⟨ad1, g1, Mc1, Mr1, f9, f2, hC1, hR1, (I_days hV p1), ha1, hg1, hLS⟩ hS (lv_sub hl [2, 3, 4, 5, 6, 7] rfl)
    · skip
      exact absurd (by rw [hr1 h0]) c3
theorem le_air (st : St) (p0 : Int32) : (m_air st p0).1 < 100 := by
  unfold m_air
  first | exact le_0 | exact chk_le (by omega) (le_0) | exact chk_le (by omega) (chk_le (by omega) (le_0)) | exact chk_le (by omega) (chk_le (by omega) (chk_le (by omega) (le_0))) | exact chk_le (by omega) (chk_le (by omega) (chk_le (by omega) (chk_le (by omega) (le_0)))) | exact chk_le (by omega) (chk_le (by omega) (chk_le (by omega) (chk_le (by omega) (chk_le (by omega) (le_0))))) | exact chk_le (by omega) (chk_le (by omega) (chk_le (by omega) (chk_le (by omega) (chk_le (by omega) (chk_le (by omega) (le_0)))))) | exact chk_le (by omega) (chk_le (by omega) (chk_le (by omega) (chk_le (by omega) (chk_le (by omega) (chk_le (by omega) (chk_le (by omega) (le_0))))))) | exact chk_le (by omega) (chk_le (by omega) (chk_le (by omega) (chk_le (by omega) (chk_le (by omega) (chk_le (by omega) (chk_le (by omega) (chk_le (by omega) (le_0))))))))
set_option maxHeartbeats 4000000 in
set_option maxRecDepth 100000 in
theorem law_air {p : Program} {l : Launch} {e : Env} {s : State} {m : MethodId} {below : List Frame} {meth : Method} {c : Code} {Q : State → Prop} {b L : Nat} {xs : Nat → Int32} {G : mg} (C0 : TwC p l s m c b L xs G) {H : Heap} {locs : List Loc} {ls : Array Slot} {cells slots : Nat} (hcs : cells + 1100 ≤ 845199 ∧ slots + 4500 ≤ 6560506) {cw rw o1 o2 : Nat} {st : St} {x5 p1 p2 p3 p4 : Int32} (hLI : TwI G s.heap.size H cw rw o1 o2 st) (hS : va_S (aH s.heap.size) s.heap H locs) (hl : lv_has ls 9 [(0, .ref b), (1, .ref cw), (2, .ref rw), (3, .ref o1), (4, .ref o2), (5, .int x5)]) (hi1 : vp_in (x5 + 1) L) (hi2 : vp_in (x5 + 2) L) (hi3 : vp_in (x5 + 3) L) (hi4 : vp_in (x5 + 4) L) (hv1 : xs (x5 + 1).toNatClampNeg = p1) (hv2 : xs (x5 + 2).toNatClampNeg = p2) (hv3 : xs (x5 + 3).toNatClampNeg = p3) (hv4 : xs (x5 + 4).toNatClampNeg = p4)
    (kk : ∀ (st1 : St) (H1 : Heap) (locs1 : List Loc) (ls1 : Array Slot), TwI G s.heap.size H1 cw rw o1 o2 st1 → va_S (aH s.heap.size) s.heap H1 locs1 → lv_has ls1 9 [(0, .ref b), (1, .ref cw), (2, .ref rw), (3, .ref o1), (4, .ref o2), (5, .int x5)] → W p l e room_1 s m #[Value.ref b] below meth c H1 locs1 (cells + 1100) (slots + 4500) Q (F0 m 2675 ls1 [])) : W p l e room_1 s m #[Value.ref b] below meth c H locs cells slots Q (F0 m 1176 ls []) := by
  obtain ⟨hx, hb, hml, hown, hts, hX, hbl, hG, hl9⟩ := C0
  obtain ⟨ad, g, Mc, Mr, f1, f2, hC, hR, hV, rfl, rfl, hLS⟩ := hLI
  have hA : ∀ q : Nat, s.heap.size ≤ q → aH s.heap.size q := fun _ h => h
  have hK := hG.K
  refine lv_aload_n hx hb dL_law_1176 rfl (lv_at hl 1 rfl) ?_
  refine lv_aload_n hx hb dL_law_1177 rfl (lv_at hl 0 rfl) ?_
  refine lv_iload hx hb dL_law_1178 (lv_at hl 5 rfl) ?_
  refine lv_iconst (v := 1) hx hb dL_law_1180 (by decide) ?_
  refine lv_iadd hx hb dL_law_1181 ?_
  refine lm_sld hx hb hX hbl hS hi1 hv1 dL_law_1182 ?_
  refine lv_aload_n hx hb dL_law_1183 rfl (lv_at hl 3 rfl) ?_
  have hLo := hLS
  have hz : s.heap.size ≤ H.size := hS.1
  have hPM : mP G.1 (mu Mc o1 (.inl (G.2.1 1, 1, .inr (.inl f1)))) H := mP_o hLo.1 hLo.2.2.1
  have hIM : mI (aH s.heap.size) (mu Mc o1 (.inl (G.2.1 1, 1, .inr (.inl f1)))) := mI.mu hLo.2.2.2.2.1.1 hLo.2.2.2.2.1.2.2.1
  refine ls_calli (vx_runSX (As := [.ref (ad 0 0), .int p1, .ref o1]) (rest := []) ⟨hx, hb, hml, hown, hts⟩ (c_L_air l G (aS H (mu Mc o1 (.inl (G.2.1 1, 1, .inr (.inl f1))))) Mc hl9 st ad p1 o1 hLo.2.2.2.2.2.2.1 hC hV) (vx_cwSW 3 hts gL_law_L_air rfl rfl rfl (by decide +kernel) ⟨Nat.le_of_ble_eq_true rfl, Nat.le_of_ble_eq_true rfl⟩) (sPreS hG hS hPM hIM hA) rfl rfl hl.1 rfl (lv_room (Nat.le_of_ble_eq_true rfl)) dL_law_1184 ⟨by show cells + 1 ≤ 845199; omega, by show slots + 6 ≤ 6560506; omega⟩) hIM hS hA (fun r6 M9 H locs hp9 hP9 hI9 hk9 hS => ?_)
  obtain ⟨ad1, Mc1, f9, e6, hn9, rfl, hC1, ha1, hf1⟩ := hp9
  have hLS := TwS.c1 hLo hz hP9 hn9 hI9 hk9
  refine lv_istore (lv' := [(6, .int r6), (0, .ref b), (1, .ref (ad 0 0)), (2, .ref (g.1 0 0)), (3, .ref o1), (4, .ref o2), (5, .int x5)]) hx hb dL_law_1187 hl (by decide) rfl (fun ls hl => ?_)
  refine lv_aload_n hx hb dL_law_1189 rfl (lv_at hl 3 rfl) ?_
  refine lv_aload_n hx hb dL_law_1190 rfl (lv_at hl 1 rfl) ?_
  refine lv_iload hx hb dL_law_1191 (lv_at hl 6 rfl) ?_
  refine lv_iconst (v := 1) hx hb dL_law_1193 (by decide) ?_
  refine lv_iadd hx hb dL_law_1194 ?_
  refine lm_sld hx hb hX hbl hS hi1 hv1 dL_law_1195 ?_
  have hz : s.heap.size ≤ H.size := hS.1
  refine lm_calli (va_runV (As := [.int p1]) (rest := []) ⟨hx, hb, hml, hown, hts⟩ (c_X7_air l G (aS H Mr) Mr st g p1 hR hV) (cwV 1 hts gL_law_X7_air rfl rfl rfl (by decide +kernel) ⟨Nat.le_of_ble_eq_true rfl, Nat.le_of_ble_eq_true rfl⟩) (sPreV hG hS hLS.2.1 hLS.2.2.2.2.1.2.1 hA (RS.at0 hR hLS.2.1) (r := (RX7, TX7, 7)) rfl) rfl rfl hl.1 rfl (lv_room (Nat.le_of_ble_eq_true rfl)) dL_law_1196 ⟨by show cells + 1 + 0 ≤ 845199; omega, by show slots + 6 + 0 ≤ 6560506; omega⟩) hLS.2.2.2.2.1.2.1 hS hA (fun r7 Mr1 H locs hp9 hP9 hI9 hk9 hS => ?_)
  obtain ⟨g1, hR1, ht1, hr1, hg1⟩ := hp9
  have hLS := (TwS.c hLS.sw hz hP9 hI9 hk9).sw
  refine lv_istore (lv' := [(7, .int r7), (6, .int r6), (0, .ref b), (1, .ref (ad 0 0)), (2, .ref (g.1 0 0)), (3, .ref o1), (4, .ref o2), (5, .int x5)]) hx hb dL_law_1199 hl (by decide) rfl (fun ls hl => ?_)
  refine lv_aload_n hx hb dL_law_1201 rfl (lv_at hl 4 rfl) ?_
  have hz : s.heap.size ≤ H.size := hS.1
  have hX9 : Mr1 (g.1 0 0) = some (.inr (10, [.ref (g1.1 1 0), .ref (g1.1 2 0), .int (gS (m_air st p1).2.2 2), .int (gS (m_air st p1).2.2 3), .int (gS (m_air st p1).2.2 1), .int (gS (m_air st p1).2.2 0), .int (thR g1)])) := by rw [← hg1]; exact (hR1.1 0 0 ro0).trans (congrArg some (celR_0 G (m_air st p1).2.2 g1 0))
  refine lm_calli (va_runV (As := []) (rest := []) ⟨hx, hb, hml, hown, hts⟩ (c_X7_thrown l G (aS H Mr1) Mr1 hX9) (cwV 0 hts gL_law_X7_thrown rfl rfl rfl (by decide +kernel) ⟨Nat.le_of_ble_eq_true rfl, Nat.le_of_ble_eq_true rfl⟩) (sPreV hG hS hLS.2.1 hLS.2.2.2.2.1.2.1 hA (hLS.2.1 _ _ hX9) (r := (RX7, TX7, 7)) rfl) rfl rfl hl.1 rfl (lv_room (Nat.le_of_ble_eq_true rfl)) dL_law_1202 ⟨by show cells + 1 + 0 + 0 ≤ 845199; omega, by show slots + 6 + 0 + 0 ≤ 6560506; omega⟩) hLS.2.2.2.2.1.2.1 hS hA (fun r8 M9 H locs hp9 hP9 hI9 hk9 hS => ?_)
  obtain ⟨e8, hm9⟩ := hp9
  subst M9
  have hLS := (TwS.c hLS.sw hz hP9 hI9 hk9).sw
  refine lv_iload hx hb dL_law_1205 (lv_at hl 1 rfl) ?_
  refine lv_icmp_eq (tgt := 1212) hx hb dL_law_1207 (by decide) (fun c1 => ?_) (fun c1 => absurd c1 (fun z => z (by rw [e8, ht1, e6])))
  refine lv_iload hx hb dL_law_1212 (lv_at hl 1 rfl) ?_
  refine lv_if_ne (tgt := 1229) hx hb dL_law_1214 (by decide) (fun c2 => ?_) (fun c2 => ?_)
  · skip
    refine lv_goto (tgt := 2675) hx hb dL_law_1229 (by decide) ?_
    refine W.widen (k := cells + 1100) (n := slots + 4500) (by omega) (by omega) ?_
    exact kk _ H locs ls ⟨ad1, g1, Mc1, Mr1, f9, f2, hC1, hR1, (I_air hV p1), ha1, hg1, hLS⟩ hS (lv_sub hl [2, 3, 4, 5, 6, 7] rfl)
  · skip
    have h0 := nI_z (le_air st p1) (e6.symm.trans c2)
    refine lv_aload_n hx hb dL_law_1217 rfl (lv_at hl 5 rfl) ?_
    refine lv_iconst (v := 0) hx hb dL_law_1218 (by decide) ?_
    refine lm_lald hx hb hK 1 hLS.2.2.1 rfl (show vp_in 0 1 by unfold vp_in; decide) (hf1 h0) dL_law_1219 ?_
    refine lv_iload hx hb dL_law_1220 (lv_at hl 0 rfl) ?_
    refine lv_i2l (v := r7.toInt64) hx hb dL_law_1222 rfl ?_
    refine m_lcmp_eq (tgt := 1229) hx hb dL_law_1223 dL_law_1224 (by decide) (fun c3 => ?_) (fun c3 => ?_)
    · skip
      refine lv_goto (tgt := 2675) hx hb dL_law_1229 (by decide) ?_
      refine W.widen (k := cells + 1100) (n := slots + 4500) (by omega) (by omega) ?_
      exact kk _ H locs ls ⟨ad1, g1, Mc1, Mr1, f9, f2, hC1, hR1, (I_air hV p1), ha1, hg1, hLS⟩ hS (lv_sub hl [2, 3, 4, 5, 6, 7] rfl)
    · skip
      exact absurd (by rw [hr1 h0]) c3
theorem le_level (st : St) (p0 p1 p2 : Int32) : (m_level st p0 p1 p2).1 < 100 := by
  unfold m_level
  first | exact le_0 | exact chk_le (by omega) (le_0) | exact chk_le (by omega) (chk_le (by omega) (le_0)) | exact chk_le (by omega) (chk_le (by omega) (chk_le (by omega) (le_0))) | exact chk_le (by omega) (chk_le (by omega) (chk_le (by omega) (chk_le (by omega) (le_0)))) | exact chk_le (by omega) (chk_le (by omega) (chk_le (by omega) (chk_le (by omega) (chk_le (by omega) (le_0))))) | exact chk_le (by omega) (chk_le (by omega) (chk_le (by omega) (chk_le (by omega) (chk_le (by omega) (chk_le (by omega) (le_0)))))) | exact chk_le (by omega) (chk_le (by omega) (chk_le (by omega) (chk_le (by omega) (chk_le (by omega) (chk_le (by omega) (chk_le (by omega) (le_0))))))) | exact chk_le (by omega) (chk_le (by omega) (chk_le (by omega) (chk_le (by omega) (chk_le (by omega) (chk_le (by omega) (chk_le (by omega) (chk_le (by omega) (le_0))))))))
theorem I_level {st : St} (h : Inv st) (p0 p1 p2 : Int32) : Inv (m_level st p0 p1 p2).2.2 := by
  unfold m_level
  first | exact h | exact chk_I h (fun _ => h) | exact chk_I h (fun _ => chk_I h (fun _ => h)) | exact chk_I h (fun _ => chk_I h (fun _ => chk_I h (fun _ => h))) | exact chk_I h (fun _ => chk_I h (fun _ => chk_I h (fun _ => chk_I h (fun _ => h)))) | exact chk_I h (fun _ => chk_I h (fun _ => chk_I h (fun _ => chk_I h (fun _ => chk_I h (fun _ => h))))) | exact chk_I h (fun _ => chk_I h (fun _ => chk_I h (fun _ => chk_I h (fun _ => chk_I h (fun _ => chk_I h (fun _ => h)))))) | exact chk_I h (fun _ => chk_I h (fun _ => chk_I h (fun _ => chk_I h (fun _ => chk_I h (fun _ => chk_I h (fun _ => chk_I h (fun _ => h))))))) | exact chk_I h (fun _ => chk_I h (fun _ => chk_I h (fun _ => chk_I h (fun _ => chk_I h (fun _ => chk_I h (fun _ => chk_I h (fun _ => chk_I h (fun _ => h))))))))
set_option maxHeartbeats 4000000 in
set_option maxRecDepth 100000 in
theorem law_level {p : Program} {l : Launch} {e : Env} {s : State} {m : MethodId} {below : List Frame} {meth : Method} {c : Code} {Q : State → Prop} {b L : Nat} {xs : Nat → Int32} {G : mg} (C0 : TwC p l s m c b L xs G) {H : Heap} {locs : List Loc} {ls : Array Slot} {cells slots : Nat} (hcs : cells + 1100 ≤ 845199 ∧ slots + 4500 ≤ 6560506) {cw rw o1 o2 : Nat} {st : St} {x5 p1 p2 p3 p4 : Int32} (hLI : TwI G s.heap.size H cw rw o1 o2 st) (hS : va_S (aH s.heap.size) s.heap H locs) (hl : lv_has ls 9 [(0, .ref b), (1, .ref cw), (2, .ref rw), (3, .ref o1), (4, .ref o2), (5, .int x5)]) (hi1 : vp_in (x5 + 1) L) (hi2 : vp_in (x5 + 2) L) (hi3 : vp_in (x5 + 3) L) (hi4 : vp_in (x5 + 4) L) (hv1 : xs (x5 + 1).toNatClampNeg = p1) (hv2 : xs (x5 + 2).toNatClampNeg = p2) (hv3 : xs (x5 + 3).toNatClampNeg = p3) (hv4 : xs (x5 + 4).toNatClampNeg = p4)
    (kk : ∀ (st1 : St) (H1 : Heap) (locs1 : List Loc) (ls1 : Array Slot), TwI G s.heap.size H1 cw rw o1 o2 st1 → va_S (aH s.heap.size) s.heap H1 locs1 → lv_has ls1 9 [(0, .ref b), (1, .ref cw), (2, .ref rw), (3, .ref o1), (4, .ref o2), (5, .int x5)] → W p l e room_1 s m #[Value.ref b] below meth c H1 locs1 (cells + 1100) (slots + 4500) Q (F0 m 2675 ls1 [])) : W p l e room_1 s m #[Value.ref b] below meth c H locs cells slots Q (F0 m 1232 ls []) := by
  obtain ⟨hx, hb, hml, hown, hts, hX, hbl, hG, hl9⟩ := C0
  obtain ⟨ad, g, Mc, Mr, f1, f2, hC, hR, hV, rfl, rfl, hLS⟩ := hLI
  have hA : ∀ q : Nat, s.heap.size ≤ q → aH s.heap.size q := fun _ h => h
  have hK := hG.K
  refine lv_aload_n hx hb dL_law_1232 rfl (lv_at hl 1 rfl) ?_
  refine lv_aload_n hx hb dL_law_1233 rfl (lv_at hl 0 rfl) ?_
  refine lv_iload hx hb dL_law_1234 (lv_at hl 5 rfl) ?_
  refine lv_iconst (v := 1) hx hb dL_law_1236 (by decide) ?_
  refine lv_iadd hx hb dL_law_1237 ?_
  refine lm_sld hx hb hX hbl hS hi1 hv1 dL_law_1238 ?_
  refine lv_aload_n hx hb dL_law_1239 rfl (lv_at hl 0 rfl) ?_
  refine lv_iload hx hb dL_law_1240 (lv_at hl 5 rfl) ?_
  refine lv_iconst (v := 2) hx hb dL_law_1242 (by decide) ?_
  refine lv_iadd hx hb dL_law_1243 ?_
  refine lm_sld hx hb hX hbl hS hi2 hv2 dL_law_1244 ?_
  refine lv_aload_n hx hb dL_law_1245 rfl (lv_at hl 0 rfl) ?_
  refine lv_iload hx hb dL_law_1246 (lv_at hl 5 rfl) ?_
  refine lv_iconst (v := 3) hx hb dL_law_1248 (by decide) ?_
  refine lv_iadd hx hb dL_law_1249 ?_
  refine lm_sld hx hb hX hbl hS hi3 hv3 dL_law_1250 ?_
  refine lv_aload_n hx hb dL_law_1251 rfl (lv_at hl 3 rfl) ?_
  have hLo := hLS
  have hz : s.heap.size ≤ H.size := hS.1
  have hPM : mP G.1 (mu Mc o1 (.inl (G.2.1 1, 1, .inr (.inl f1)))) H := mP_o hLo.1 hLo.2.2.1
  have hIM : mI (aH s.heap.size) (mu Mc o1 (.inl (G.2.1 1, 1, .inr (.inl f1)))) := mI.mu hLo.2.2.2.2.1.1 hLo.2.2.2.2.1.2.2.1
  refine ls_calli (vx_runSX (As := [.ref (ad 0 0), .int p1, .int p2, .int p3, .ref o1]) (rest := []) ⟨hx, hb, hml, hown, hts⟩ (c_L_level l G (aS H (mu Mc o1 (.inl (G.2.1 1, 1, .inr (.inl f1))))) Mc hl9 st ad p1 p2 p3 o1 hLo.2.2.2.2.2.2.1 hC hV) (vx_cwSW 5 hts gL_law_L_level rfl rfl rfl (by decide +kernel) ⟨Nat.le_of_ble_eq_true rfl, Nat.le_of_ble_eq_true rfl⟩) (sPreS hG hS hPM hIM hA) rfl rfl hl.1 rfl (lv_room (Nat.le_of_ble_eq_true rfl)) dL_law_1252 ⟨by show cells + 5 ≤ 845199; omega, by show slots + 30 ≤ 6560506; omega⟩) hIM hS hA (fun r6 M9 H locs hp9 hP9 hI9 hk9 hS => ?_)
  obtain ⟨ad1, Mc1, f9, e6, hn9, rfl, hC1, ha1, hf1⟩ := hp9
  have hLS := TwS.c1 hLo hz hP9 hn9 hI9 hk9
  refine lv_istore (lv' := [(6, .int r6), (0, .ref b), (1, .ref (ad 0 0)), (2, .ref (g.1 0 0)), (3, .ref o1), (4, .ref o2), (5, .int x5)]) hx hb dL_law_1255 hl (by decide) rfl (fun ls hl => ?_)
  refine lv_aload_n hx hb dL_law_1257 rfl (lv_at hl 3 rfl) ?_
  refine lv_aload_n hx hb dL_law_1258 rfl (lv_at hl 1 rfl) ?_
  refine lv_iload hx hb dL_law_1259 (lv_at hl 6 rfl) ?_
  refine lv_iconst (v := 1) hx hb dL_law_1261 (by decide) ?_
  refine lv_iadd hx hb dL_law_1262 ?_
  refine lm_sld hx hb hX hbl hS hi1 hv1 dL_law_1263 ?_
  refine lv_aload_n hx hb dL_law_1264 rfl (lv_at hl 1 rfl) ?_
  refine lv_iload hx hb dL_law_1265 (lv_at hl 6 rfl) ?_
  refine lv_iconst (v := 2) hx hb dL_law_1267 (by decide) ?_
  refine lv_iadd hx hb dL_law_1268 ?_
  refine lm_sld hx hb hX hbl hS hi2 hv2 dL_law_1269 ?_
  refine lv_aload_n hx hb dL_law_1270 rfl (lv_at hl 1 rfl) ?_
  refine lv_iload hx hb dL_law_1271 (lv_at hl 6 rfl) ?_
  refine lv_iconst (v := 3) hx hb dL_law_1273 (by decide) ?_
  refine lv_iadd hx hb dL_law_1274 ?_
  refine lm_sld hx hb hX hbl hS hi3 hv3 dL_law_1275 ?_
  have hz : s.heap.size ≤ H.size := hS.1
  refine lm_calli (va_runV (As := [.int p1, .int p2, .int p3]) (rest := []) ⟨hx, hb, hml, hown, hts⟩ (c_X7_level l G (aS H Mr) Mr st g p1 p2 p3 hR hV) (cwV 3 hts gL_law_X7_level rfl rfl rfl (by decide +kernel) ⟨Nat.le_of_ble_eq_true rfl, Nat.le_of_ble_eq_true rfl⟩) (sPreV hG hS hLS.2.1 hLS.2.2.2.2.1.2.1 hA (RS.at0 hR hLS.2.1) (r := (RX7, TX7, 7)) rfl) rfl rfl hl.1 rfl (lv_room (Nat.le_of_ble_eq_true rfl)) dL_law_1276 ⟨by show cells + 5 + 0 ≤ 845199; omega, by show slots + 30 + 0 ≤ 6560506; omega⟩) hLS.2.2.2.2.1.2.1 hS hA (fun r7 Mr1 H locs hp9 hP9 hI9 hk9 hS => ?_)
  obtain ⟨g1, hR1, ht1, hr1, hg1⟩ := hp9
  have hLS := (TwS.c hLS.sw hz hP9 hI9 hk9).sw
  refine lv_istore (lv' := [(7, .int r7), (6, .int r6), (0, .ref b), (1, .ref (ad 0 0)), (2, .ref (g.1 0 0)), (3, .ref o1), (4, .ref o2), (5, .int x5)]) hx hb dL_law_1279 hl (by decide) rfl (fun ls hl => ?_)
  refine lv_aload_n hx hb dL_law_1281 rfl (lv_at hl 4 rfl) ?_
  have hz : s.heap.size ≤ H.size := hS.1
  have hX9 : Mr1 (g.1 0 0) = some (.inr (10, [.ref (g1.1 1 0), .ref (g1.1 2 0), .int (gS (m_level st p1 p2 p3).2.2 2), .int (gS (m_level st p1 p2 p3).2.2 3), .int (gS (m_level st p1 p2 p3).2.2 1), .int (gS (m_level st p1 p2 p3).2.2 0), .int (thR g1)])) := by rw [← hg1]; exact (hR1.1 0 0 ro0).trans (congrArg some (celR_0 G (m_level st p1 p2 p3).2.2 g1 0))
  refine lm_calli (va_runV (As := []) (rest := []) ⟨hx, hb, hml, hown, hts⟩ (c_X7_thrown l G (aS H Mr1) Mr1 hX9) (cwV 0 hts gL_law_X7_thrown rfl rfl rfl (by decide +kernel) ⟨Nat.le_of_ble_eq_true rfl, Nat.le_of_ble_eq_true rfl⟩) (sPreV hG hS hLS.2.1 hLS.2.2.2.2.1.2.1 hA (hLS.2.1 _ _ hX9) (r := (RX7, TX7, 7)) rfl) rfl rfl hl.1 rfl (lv_room (Nat.le_of_ble_eq_true rfl)) dL_law_1282 ⟨by show cells + 5 + 0 + 0 ≤ 845199; omega, by show slots + 30 + 0 + 0 ≤ 6560506; omega⟩) hLS.2.2.2.2.1.2.1 hS hA (fun r8 M9 H locs hp9 hP9 hI9 hk9 hS => ?_)
  obtain ⟨e8, hm9⟩ := hp9
  subst M9
  have hLS := (TwS.c hLS.sw hz hP9 hI9 hk9).sw
  refine lv_iload hx hb dL_law_1285 (lv_at hl 1 rfl) ?_
  refine lv_icmp_eq (tgt := 1292) hx hb dL_law_1287 (by decide) (fun c1 => ?_) (fun c1 => absurd c1 (fun z => z (by rw [e8, ht1, e6])))
  refine lv_iload hx hb dL_law_1292 (lv_at hl 1 rfl) ?_
  refine lv_if_ne (tgt := 1309) hx hb dL_law_1294 (by decide) (fun c2 => ?_) (fun c2 => ?_)
  · skip
    refine lv_goto (tgt := 2675) hx hb dL_law_1309 (by decide) ?_
    refine W.widen (k := cells + 1100) (n := slots + 4500) (by omega) (by omega) ?_
    exact kk _ H locs ls ⟨ad1, g1, Mc1, Mr1, f9, f2, hC1, hR1, (I_level hV p1 p2 p3), ha1, hg1, hLS⟩ hS (lv_sub hl [2, 3, 4, 5, 6, 7] rfl)
  · skip
    have h0 := nI_z (le_level st p1 p2 p3) (e6.symm.trans c2)
    refine lv_aload_n hx hb dL_law_1297 rfl (lv_at hl 5 rfl) ?_
    refine lv_iconst (v := 0) hx hb dL_law_1298 (by decide) ?_
    refine lm_lald hx hb hK 1 hLS.2.2.1 rfl (show vp_in 0 1 by unfold vp_in; decide) (hf1 h0) dL_law_1299 ?_
    refine lv_iload hx hb dL_law_1300 (lv_at hl 0 rfl) ?_
    refine lv_i2l (v := r7.toInt64) hx hb dL_law_1302 rfl ?_
    refine m_lcmp_eq (tgt := 1309) hx hb dL_law_1303 dL_law_1304 (by decide) (fun c3 => ?_) (fun c3 => ?_)
    · skip
      refine lv_goto (tgt := 2675) hx hb dL_law_1309 (by decide) ?_
      refine W.widen (k := cells + 1100) (n := slots + 4500) (by omega) (by omega) ?_
      exact kk _ H locs ls ⟨ad1, g1, Mc1, Mr1, f9, f2, hC1, hR1, (I_level hV p1 p2 p3), ha1, hg1, hLS⟩ hS (lv_sub hl [2, 3, 4, 5, 6, 7] rfl)
    · skip
      exact absurd (by rw [hr1 h0]) c3
theorem le_ice (st : St) (p0 : Int32) : (m_ice st p0).1 < 100 := by
  unfold m_ice
  first | exact le_0 | exact chk_le (by omega) (le_0) | exact chk_le (by omega) (chk_le (by omega) (le_0)) | exact chk_le (by omega) (chk_le (by omega) (chk_le (by omega) (le_0))) | exact chk_le (by omega) (chk_le (by omega) (chk_le (by omega) (chk_le (by omega) (le_0)))) | exact chk_le (by omega) (chk_le (by omega) (chk_le (by omega) (chk_le (by omega) (chk_le (by omega) (le_0))))) | exact chk_le (by omega) (chk_le (by omega) (chk_le (by omega) (chk_le (by omega) (chk_le (by omega) (chk_le (by omega) (le_0)))))) | exact chk_le (by omega) (chk_le (by omega) (chk_le (by omega) (chk_le (by omega) (chk_le (by omega) (chk_le (by omega) (chk_le (by omega) (le_0))))))) | exact chk_le (by omega) (chk_le (by omega) (chk_le (by omega) (chk_le (by omega) (chk_le (by omega) (chk_le (by omega) (chk_le (by omega) (chk_le (by omega) (le_0))))))))
set_option maxHeartbeats 4000000 in
set_option maxRecDepth 100000 in
theorem law_ice {p : Program} {l : Launch} {e : Env} {s : State} {m : MethodId} {below : List Frame} {meth : Method} {c : Code} {Q : State → Prop} {b L : Nat} {xs : Nat → Int32} {G : mg} (C0 : TwC p l s m c b L xs G) {H : Heap} {locs : List Loc} {ls : Array Slot} {cells slots : Nat} (hcs : cells + 1100 ≤ 845199 ∧ slots + 4500 ≤ 6560506) {cw rw o1 o2 : Nat} {st : St} {x5 p1 p2 p3 p4 : Int32} (hLI : TwI G s.heap.size H cw rw o1 o2 st) (hS : va_S (aH s.heap.size) s.heap H locs) (hl : lv_has ls 9 [(0, .ref b), (1, .ref cw), (2, .ref rw), (3, .ref o1), (4, .ref o2), (5, .int x5)]) (hi1 : vp_in (x5 + 1) L) (hi2 : vp_in (x5 + 2) L) (hi3 : vp_in (x5 + 3) L) (hi4 : vp_in (x5 + 4) L) (hv1 : xs (x5 + 1).toNatClampNeg = p1) (hv2 : xs (x5 + 2).toNatClampNeg = p2) (hv3 : xs (x5 + 3).toNatClampNeg = p3) (hv4 : xs (x5 + 4).toNatClampNeg = p4)
    (kk : ∀ (st1 : St) (H1 : Heap) (locs1 : List Loc) (ls1 : Array Slot), TwI G s.heap.size H1 cw rw o1 o2 st1 → va_S (aH s.heap.size) s.heap H1 locs1 → lv_has ls1 9 [(0, .ref b), (1, .ref cw), (2, .ref rw), (3, .ref o1), (4, .ref o2), (5, .int x5)] → W p l e room_1 s m #[Value.ref b] below meth c H1 locs1 (cells + 1100) (slots + 4500) Q (F0 m 2675 ls1 [])) : W p l e room_1 s m #[Value.ref b] below meth c H locs cells slots Q (F0 m 1312 ls []) := by
  obtain ⟨hx, hb, hml, hown, hts, hX, hbl, hG, hl9⟩ := C0
  obtain ⟨ad, g, Mc, Mr, f1, f2, hC, hR, hV, rfl, rfl, hLS⟩ := hLI
  have hA : ∀ q : Nat, s.heap.size ≤ q → aH s.heap.size q := fun _ h => h
  have hK := hG.K
  refine lv_aload_n hx hb dL_law_1312 rfl (lv_at hl 1 rfl) ?_
  refine lv_aload_n hx hb dL_law_1313 rfl (lv_at hl 0 rfl) ?_
  refine lv_iload hx hb dL_law_1314 (lv_at hl 5 rfl) ?_
  refine lv_iconst (v := 1) hx hb dL_law_1316 (by decide) ?_
  refine lv_iadd hx hb dL_law_1317 ?_
  refine lm_sld hx hb hX hbl hS hi1 hv1 dL_law_1318 ?_
  refine lv_aload_n hx hb dL_law_1319 rfl (lv_at hl 3 rfl) ?_
  have hLo := hLS
  have hz : s.heap.size ≤ H.size := hS.1
  have hPM : mP G.1 (mu Mc o1 (.inl (G.2.1 1, 1, .inr (.inl f1)))) H := mP_o hLo.1 hLo.2.2.1
  have hIM : mI (aH s.heap.size) (mu Mc o1 (.inl (G.2.1 1, 1, .inr (.inl f1)))) := mI.mu hLo.2.2.2.2.1.1 hLo.2.2.2.2.1.2.2.1
  refine ls_calli (vx_runSX (As := [.ref (ad 0 0), .int p1, .ref o1]) (rest := []) ⟨hx, hb, hml, hown, hts⟩ (c_L_ice l G (aS H (mu Mc o1 (.inl (G.2.1 1, 1, .inr (.inl f1))))) Mc hl9 st ad p1 o1 hLo.2.2.2.2.2.2.1 hC hV) (vx_cwSW 3 hts gL_law_L_ice rfl rfl rfl (by decide +kernel) ⟨Nat.le_of_ble_eq_true rfl, Nat.le_of_ble_eq_true rfl⟩) (sPreS hG hS hPM hIM hA) rfl rfl hl.1 rfl (lv_room (Nat.le_of_ble_eq_true rfl)) dL_law_1320 ⟨by show cells + 3 ≤ 845199; omega, by show slots + 18 ≤ 6560506; omega⟩) hIM hS hA (fun r6 M9 H locs hp9 hP9 hI9 hk9 hS => ?_)
  obtain ⟨ad1, Mc1, f9, e6, hn9, rfl, hC1, ha1, hf1⟩ := hp9
  have hLS := TwS.c1 hLo hz hP9 hn9 hI9 hk9
  refine lv_istore (lv' := [(6, .int r6), (0, .ref b), (1, .ref (ad 0 0)), (2, .ref (g.1 0 0)), (3, .ref o1), (4, .ref o2), (5, .int x5)]) hx hb dL_law_1323 hl (by decide) rfl (fun ls hl => ?_)
  refine lv_aload_n hx hb dL_law_1325 rfl (lv_at hl 3 rfl) ?_
  refine lv_aload_n hx hb dL_law_1326 rfl (lv_at hl 1 rfl) ?_
  refine lv_iload hx hb dL_law_1327 (lv_at hl 6 rfl) ?_
  refine lv_iconst (v := 1) hx hb dL_law_1329 (by decide) ?_
  refine lv_iadd hx hb dL_law_1330 ?_
  refine lm_sld hx hb hX hbl hS hi1 hv1 dL_law_1331 ?_
  have hz : s.heap.size ≤ H.size := hS.1
  refine lm_calli (va_runV (As := [.int p1]) (rest := []) ⟨hx, hb, hml, hown, hts⟩ (c_X7_ice l G (aS H Mr) Mr st g p1 hR hV) (cwV 1 hts gL_law_X7_ice rfl rfl rfl (by decide +kernel) ⟨Nat.le_of_ble_eq_true rfl, Nat.le_of_ble_eq_true rfl⟩) (sPreV hG hS hLS.2.1 hLS.2.2.2.2.1.2.1 hA (RS.at0 hR hLS.2.1) (r := (RX7, TX7, 7)) rfl) rfl rfl hl.1 rfl (lv_room (Nat.le_of_ble_eq_true rfl)) dL_law_1332 ⟨by show cells + 3 + 0 ≤ 845199; omega, by show slots + 18 + 0 ≤ 6560506; omega⟩) hLS.2.2.2.2.1.2.1 hS hA (fun r7 Mr1 H locs hp9 hP9 hI9 hk9 hS => ?_)
  obtain ⟨g1, hR1, ht1, hr1, hg1⟩ := hp9
  have hLS := (TwS.c hLS.sw hz hP9 hI9 hk9).sw
  refine lv_istore (lv' := [(7, .int r7), (6, .int r6), (0, .ref b), (1, .ref (ad 0 0)), (2, .ref (g.1 0 0)), (3, .ref o1), (4, .ref o2), (5, .int x5)]) hx hb dL_law_1335 hl (by decide) rfl (fun ls hl => ?_)
  refine lv_aload_n hx hb dL_law_1337 rfl (lv_at hl 4 rfl) ?_
  have hz : s.heap.size ≤ H.size := hS.1
  have hX9 : Mr1 (g.1 0 0) = some (.inr (10, [.ref (g1.1 1 0), .ref (g1.1 2 0), .int (gS (m_ice st p1).2.2 2), .int (gS (m_ice st p1).2.2 3), .int (gS (m_ice st p1).2.2 1), .int (gS (m_ice st p1).2.2 0), .int (thR g1)])) := by rw [← hg1]; exact (hR1.1 0 0 ro0).trans (congrArg some (celR_0 G (m_ice st p1).2.2 g1 0))
  refine lm_calli (va_runV (As := []) (rest := []) ⟨hx, hb, hml, hown, hts⟩ (c_X7_thrown l G (aS H Mr1) Mr1 hX9) (cwV 0 hts gL_law_X7_thrown rfl rfl rfl (by decide +kernel) ⟨Nat.le_of_ble_eq_true rfl, Nat.le_of_ble_eq_true rfl⟩) (sPreV hG hS hLS.2.1 hLS.2.2.2.2.1.2.1 hA (hLS.2.1 _ _ hX9) (r := (RX7, TX7, 7)) rfl) rfl rfl hl.1 rfl (lv_room (Nat.le_of_ble_eq_true rfl)) dL_law_1338 ⟨by show cells + 3 + 0 + 0 ≤ 845199; omega, by show slots + 18 + 0 + 0 ≤ 6560506; omega⟩) hLS.2.2.2.2.1.2.1 hS hA (fun r8 M9 H locs hp9 hP9 hI9 hk9 hS => ?_)
  obtain ⟨e8, hm9⟩ := hp9
  subst M9
  have hLS := (TwS.c hLS.sw hz hP9 hI9 hk9).sw
  refine lv_iload hx hb dL_law_1341 (lv_at hl 1 rfl) ?_
  refine lv_icmp_eq (tgt := 1348) hx hb dL_law_1343 (by decide) (fun c1 => ?_) (fun c1 => absurd c1 (fun z => z (by rw [e8, ht1, e6])))
  refine lv_iload hx hb dL_law_1348 (lv_at hl 1 rfl) ?_
  refine lv_if_ne (tgt := 1365) hx hb dL_law_1350 (by decide) (fun c2 => ?_) (fun c2 => ?_)
  · skip
    refine lv_goto (tgt := 2675) hx hb dL_law_1365 (by decide) ?_
    refine W.widen (k := cells + 1100) (n := slots + 4500) (by omega) (by omega) ?_
    exact kk _ H locs ls ⟨ad1, g1, Mc1, Mr1, f9, f2, hC1, hR1, (I_ice hV p1), ha1, hg1, hLS⟩ hS (lv_sub hl [2, 3, 4, 5, 6, 7] rfl)
  · skip
    have h0 := nI_z (le_ice st p1) (e6.symm.trans c2)
    refine lv_aload_n hx hb dL_law_1353 rfl (lv_at hl 5 rfl) ?_
    refine lv_iconst (v := 0) hx hb dL_law_1354 (by decide) ?_
    refine lm_lald hx hb hK 1 hLS.2.2.1 rfl (show vp_in 0 1 by unfold vp_in; decide) (hf1 h0) dL_law_1355 ?_
    refine lv_iload hx hb dL_law_1356 (lv_at hl 0 rfl) ?_
    refine lv_i2l (v := r7.toInt64) hx hb dL_law_1358 rfl ?_
    refine m_lcmp_eq (tgt := 1365) hx hb dL_law_1359 dL_law_1360 (by decide) (fun c3 => ?_) (fun c3 => ?_)
    · skip
      refine lv_goto (tgt := 2675) hx hb dL_law_1365 (by decide) ?_
      refine W.widen (k := cells + 1100) (n := slots + 4500) (by omega) (by omega) ?_
      exact kk _ H locs ls ⟨ad1, g1, Mc1, Mr1, f9, f2, hC1, hR1, (I_ice hV p1), ha1, hg1, hLS⟩ hS (lv_sub hl [2, 3, 4, 5, 6, 7] rfl)
    · skip
      exact absurd (by rw [hr1 h0]) c3
theorem le_steam (st : St) (p0 p1 : Int32) : (m_steam st p0 p1).1 < 100 := by
  unfold m_steam
  first | exact le_0 | exact chk_le (by omega) (le_0) | exact chk_le (by omega) (chk_le (by omega) (le_0)) | exact chk_le (by omega) (chk_le (by omega) (chk_le (by omega) (le_0))) | exact chk_le (by omega) (chk_le (by omega) (chk_le (by omega) (chk_le (by omega) (le_0)))) | exact chk_le (by omega) (chk_le (by omega) (chk_le (by omega) (chk_le (by omega) (chk_le (by omega) (le_0))))) | exact chk_le (by omega) (chk_le (by omega) (chk_le (by omega) (chk_le (by omega) (chk_le (by omega) (chk_le (by omega) (le_0)))))) | exact chk_le (by omega) (chk_le (by omega) (chk_le (by omega) (chk_le (by omega) (chk_le (by omega) (chk_le (by omega) (chk_le (by omega) (le_0))))))) | exact chk_le (by omega) (chk_le (by omega) (chk_le (by omega) (chk_le (by omega) (chk_le (by omega) (chk_le (by omega) (chk_le (by omega) (chk_le (by omega) (le_0))))))))
set_option maxHeartbeats 4000000 in
set_option maxRecDepth 100000 in
theorem law_steam {p : Program} {l : Launch} {e : Env} {s : State} {m : MethodId} {below : List Frame} {meth : Method} {c : Code} {Q : State → Prop} {b L : Nat} {xs : Nat → Int32} {G : mg} (C0 : TwC p l s m c b L xs G) {H : Heap} {locs : List Loc} {ls : Array Slot} {cells slots : Nat} (hcs : cells + 1100 ≤ 845199 ∧ slots + 4500 ≤ 6560506) {cw rw o1 o2 : Nat} {st : St} {x5 p1 p2 p3 p4 : Int32} (hLI : TwI G s.heap.size H cw rw o1 o2 st) (hS : va_S (aH s.heap.size) s.heap H locs) (hl : lv_has ls 9 [(0, .ref b), (1, .ref cw), (2, .ref rw), (3, .ref o1), (4, .ref o2), (5, .int x5)]) (hi1 : vp_in (x5 + 1) L) (hi2 : vp_in (x5 + 2) L) (hi3 : vp_in (x5 + 3) L) (hi4 : vp_in (x5 + 4) L) (hv1 : xs (x5 + 1).toNatClampNeg = p1) (hv2 : xs (x5 + 2).toNatClampNeg = p2) (hv3 : xs (x5 + 3).toNatClampNeg = p3) (hv4 : xs (x5 + 4).toNatClampNeg = p4)
    (kk : ∀ (st1 : St) (H1 : Heap) (locs1 : List Loc) (ls1 : Array Slot), TwI G s.heap.size H1 cw rw o1 o2 st1 → va_S (aH s.heap.size) s.heap H1 locs1 → lv_has ls1 9 [(0, .ref b), (1, .ref cw), (2, .ref rw), (3, .ref o1), (4, .ref o2), (5, .int x5)] → W p l e room_1 s m #[Value.ref b] below meth c H1 locs1 (cells + 1100) (slots + 4500) Q (F0 m 2675 ls1 [])) : W p l e room_1 s m #[Value.ref b] below meth c H locs cells slots Q (F0 m 1368 ls []) := by
  obtain ⟨hx, hb, hml, hown, hts, hX, hbl, hG, hl9⟩ := C0
  obtain ⟨ad, g, Mc, Mr, f1, f2, hC, hR, hV, rfl, rfl, hLS⟩ := hLI
  have hA : ∀ q : Nat, s.heap.size ≤ q → aH s.heap.size q := fun _ h => h
  have hK := hG.K
  refine lv_aload_n hx hb dL_law_1368 rfl (lv_at hl 1 rfl) ?_
  refine lv_aload_n hx hb dL_law_1369 rfl (lv_at hl 0 rfl) ?_
  refine lv_iload hx hb dL_law_1370 (lv_at hl 5 rfl) ?_
  refine lv_iconst (v := 1) hx hb dL_law_1372 (by decide) ?_
  refine lv_iadd hx hb dL_law_1373 ?_
  refine lm_sld hx hb hX hbl hS hi1 hv1 dL_law_1374 ?_
  refine lv_aload_n hx hb dL_law_1375 rfl (lv_at hl 0 rfl) ?_
  refine lv_iload hx hb dL_law_1376 (lv_at hl 5 rfl) ?_
  refine lv_iconst (v := 2) hx hb dL_law_1378 (by decide) ?_
  refine lv_iadd hx hb dL_law_1379 ?_
  refine lm_sld hx hb hX hbl hS hi2 hv2 dL_law_1380 ?_
  refine lv_aload_n hx hb dL_law_1381 rfl (lv_at hl 3 rfl) ?_
  have hLo := hLS
  have hz : s.heap.size ≤ H.size := hS.1
  have hPM : mP G.1 (mu Mc o1 (.inl (G.2.1 1, 1, .inr (.inl f1)))) H := mP_o hLo.1 hLo.2.2.1
  have hIM : mI (aH s.heap.size) (mu Mc o1 (.inl (G.2.1 1, 1, .inr (.inl f1)))) := mI.mu hLo.2.2.2.2.1.1 hLo.2.2.2.2.1.2.2.1
  refine ls_calli (vx_runSX (As := [.ref (ad 0 0), .int p1, .int p2, .ref o1]) (rest := []) ⟨hx, hb, hml, hown, hts⟩ (c_L_steam l G (aS H (mu Mc o1 (.inl (G.2.1 1, 1, .inr (.inl f1))))) Mc hl9 st ad p1 p2 o1 hLo.2.2.2.2.2.2.1 hC hV) (vx_cwSW 4 hts gL_law_L_steam rfl rfl rfl (by decide +kernel) ⟨Nat.le_of_ble_eq_true rfl, Nat.le_of_ble_eq_true rfl⟩) (sPreS hG hS hPM hIM hA) rfl rfl hl.1 rfl (lv_room (Nat.le_of_ble_eq_true rfl)) dL_law_1382 ⟨by show cells + 4 ≤ 845199; omega, by show slots + 24 ≤ 6560506; omega⟩) hIM hS hA (fun r6 M9 H locs hp9 hP9 hI9 hk9 hS => ?_)
  obtain ⟨ad1, Mc1, f9, e6, hn9, rfl, hC1, ha1, hf1⟩ := hp9
  have hLS := TwS.c1 hLo hz hP9 hn9 hI9 hk9
  refine lv_istore (lv' := [(6, .int r6), (0, .ref b), (1, .ref (ad 0 0)), (2, .ref (g.1 0 0)), (3, .ref o1), (4, .ref o2), (5, .int x5)]) hx hb dL_law_1385 hl (by decide) rfl (fun ls hl => ?_)
  refine lv_aload_n hx hb dL_law_1387 rfl (lv_at hl 3 rfl) ?_
  refine lv_aload_n hx hb dL_law_1388 rfl (lv_at hl 1 rfl) ?_
  refine lv_iload hx hb dL_law_1389 (lv_at hl 6 rfl) ?_
  refine lv_iconst (v := 1) hx hb dL_law_1391 (by decide) ?_
  refine lv_iadd hx hb dL_law_1392 ?_
  refine lm_sld hx hb hX hbl hS hi1 hv1 dL_law_1393 ?_
  refine lv_aload_n hx hb dL_law_1394 rfl (lv_at hl 1 rfl) ?_
  refine lv_iload hx hb dL_law_1395 (lv_at hl 6 rfl) ?_
  refine lv_iconst (v := 2) hx hb dL_law_1397 (by decide) ?_
  refine lv_iadd hx hb dL_law_1398 ?_
  refine lm_sld hx hb hX hbl hS hi2 hv2 dL_law_1399 ?_
  have hz : s.heap.size ≤ H.size := hS.1
  refine lm_calli (va_runV (As := [.int p1, .int p2]) (rest := []) ⟨hx, hb, hml, hown, hts⟩ (c_X7_steam l G (aS H Mr) Mr st g p1 p2 hR hV) (cwV 2 hts gL_law_X7_steam rfl rfl rfl (by decide +kernel) ⟨Nat.le_of_ble_eq_true rfl, Nat.le_of_ble_eq_true rfl⟩) (sPreV hG hS hLS.2.1 hLS.2.2.2.2.1.2.1 hA (RS.at0 hR hLS.2.1) (r := (RX7, TX7, 7)) rfl) rfl rfl hl.1 rfl (lv_room (Nat.le_of_ble_eq_true rfl)) dL_law_1400 ⟨by show cells + 4 + 0 ≤ 845199; omega, by show slots + 24 + 0 ≤ 6560506; omega⟩) hLS.2.2.2.2.1.2.1 hS hA (fun r7 Mr1 H locs hp9 hP9 hI9 hk9 hS => ?_)
  obtain ⟨g1, hR1, ht1, hr1, hg1⟩ := hp9
  have hLS := (TwS.c hLS.sw hz hP9 hI9 hk9).sw
  refine lv_istore (lv' := [(7, .int r7), (6, .int r6), (0, .ref b), (1, .ref (ad 0 0)), (2, .ref (g.1 0 0)), (3, .ref o1), (4, .ref o2), (5, .int x5)]) hx hb dL_law_1403 hl (by decide) rfl (fun ls hl => ?_)
  refine lv_aload_n hx hb dL_law_1405 rfl (lv_at hl 4 rfl) ?_
  have hz : s.heap.size ≤ H.size := hS.1
  have hX9 : Mr1 (g.1 0 0) = some (.inr (10, [.ref (g1.1 1 0), .ref (g1.1 2 0), .int (gS (m_steam st p1 p2).2.2 2), .int (gS (m_steam st p1 p2).2.2 3), .int (gS (m_steam st p1 p2).2.2 1), .int (gS (m_steam st p1 p2).2.2 0), .int (thR g1)])) := by rw [← hg1]; exact (hR1.1 0 0 ro0).trans (congrArg some (celR_0 G (m_steam st p1 p2).2.2 g1 0))
  refine lm_calli (va_runV (As := []) (rest := []) ⟨hx, hb, hml, hown, hts⟩ (c_X7_thrown l G (aS H Mr1) Mr1 hX9) (cwV 0 hts gL_law_X7_thrown rfl rfl rfl (by decide +kernel) ⟨Nat.le_of_ble_eq_true rfl, Nat.le_of_ble_eq_true rfl⟩) (sPreV hG hS hLS.2.1 hLS.2.2.2.2.1.2.1 hA (hLS.2.1 _ _ hX9) (r := (RX7, TX7, 7)) rfl) rfl rfl hl.1 rfl (lv_room (Nat.le_of_ble_eq_true rfl)) dL_law_1406 ⟨by show cells + 4 + 0 + 0 ≤ 845199; omega, by show slots + 24 + 0 + 0 ≤ 6560506; omega⟩) hLS.2.2.2.2.1.2.1 hS hA (fun r8 M9 H locs hp9 hP9 hI9 hk9 hS => ?_)
  obtain ⟨e8, hm9⟩ := hp9
  subst M9
  have hLS := (TwS.c hLS.sw hz hP9 hI9 hk9).sw
  refine lv_iload hx hb dL_law_1409 (lv_at hl 1 rfl) ?_
  refine lv_icmp_eq (tgt := 1416) hx hb dL_law_1411 (by decide) (fun c1 => ?_) (fun c1 => absurd c1 (fun z => z (by rw [e8, ht1, e6])))
  refine lv_iload hx hb dL_law_1416 (lv_at hl 1 rfl) ?_
  refine lv_if_ne (tgt := 1433) hx hb dL_law_1418 (by decide) (fun c2 => ?_) (fun c2 => ?_)
  · skip
    refine lv_goto (tgt := 2675) hx hb dL_law_1433 (by decide) ?_
    refine W.widen (k := cells + 1100) (n := slots + 4500) (by omega) (by omega) ?_
    exact kk _ H locs ls ⟨ad1, g1, Mc1, Mr1, f9, f2, hC1, hR1, (I_steam hV p1 p2), ha1, hg1, hLS⟩ hS (lv_sub hl [2, 3, 4, 5, 6, 7] rfl)
  · skip
    have h0 := nI_z (le_steam st p1 p2) (e6.symm.trans c2)
    refine lv_aload_n hx hb dL_law_1421 rfl (lv_at hl 5 rfl) ?_
    refine lv_iconst (v := 0) hx hb dL_law_1422 (by decide) ?_
    refine lm_lald hx hb hK 1 hLS.2.2.1 rfl (show vp_in 0 1 by unfold vp_in; decide) (hf1 h0) dL_law_1423 ?_
    refine lv_iload hx hb dL_law_1424 (lv_at hl 0 rfl) ?_
    refine lv_i2l (v := r7.toInt64) hx hb dL_law_1426 rfl ?_
    refine m_lcmp_eq (tgt := 1433) hx hb dL_law_1427 dL_law_1428 (by decide) (fun c3 => ?_) (fun c3 => ?_)
    · skip
      refine lv_goto (tgt := 2675) hx hb dL_law_1433 (by decide) ?_
      refine W.widen (k := cells + 1100) (n := slots + 4500) (by omega) (by omega) ?_
      exact kk _ H locs ls ⟨ad1, g1, Mc1, Mr1, f9, f2, hC1, hR1, (I_steam hV p1 p2), ha1, hg1, hLS⟩ hS (lv_sub hl [2, 3, 4, 5, 6, 7] rfl)
    · skip
      exact absurd (by rw [hr1 h0]) c3
theorem le_boiling (st : St) (p0 : Int32) : (m_boiling st p0).1 < 100 := by
  unfold m_boiling
  first | exact le_0 | exact chk_le (by omega) (le_0) | exact chk_le (by omega) (chk_le (by omega) (le_0)) | exact chk_le (by omega) (chk_le (by omega) (chk_le (by omega) (le_0))) | exact chk_le (by omega) (chk_le (by omega) (chk_le (by omega) (chk_le (by omega) (le_0)))) | exact chk_le (by omega) (chk_le (by omega) (chk_le (by omega) (chk_le (by omega) (chk_le (by omega) (le_0))))) | exact chk_le (by omega) (chk_le (by omega) (chk_le (by omega) (chk_le (by omega) (chk_le (by omega) (chk_le (by omega) (le_0)))))) | exact chk_le (by omega) (chk_le (by omega) (chk_le (by omega) (chk_le (by omega) (chk_le (by omega) (chk_le (by omega) (chk_le (by omega) (le_0))))))) | exact chk_le (by omega) (chk_le (by omega) (chk_le (by omega) (chk_le (by omega) (chk_le (by omega) (chk_le (by omega) (chk_le (by omega) (chk_le (by omega) (le_0))))))))
theorem I_boiling {st : St} (h : Inv st) (p0 : Int32) : Inv (m_boiling st p0).2.2 := by
  unfold m_boiling
  first | exact h | exact chk_I h (fun _ => h) | exact chk_I h (fun _ => chk_I h (fun _ => h)) | exact chk_I h (fun _ => chk_I h (fun _ => chk_I h (fun _ => h))) | exact chk_I h (fun _ => chk_I h (fun _ => chk_I h (fun _ => chk_I h (fun _ => h)))) | exact chk_I h (fun _ => chk_I h (fun _ => chk_I h (fun _ => chk_I h (fun _ => chk_I h (fun _ => h))))) | exact chk_I h (fun _ => chk_I h (fun _ => chk_I h (fun _ => chk_I h (fun _ => chk_I h (fun _ => chk_I h (fun _ => h)))))) | exact chk_I h (fun _ => chk_I h (fun _ => chk_I h (fun _ => chk_I h (fun _ => chk_I h (fun _ => chk_I h (fun _ => chk_I h (fun _ => h))))))) | exact chk_I h (fun _ => chk_I h (fun _ => chk_I h (fun _ => chk_I h (fun _ => chk_I h (fun _ => chk_I h (fun _ => chk_I h (fun _ => chk_I h (fun _ => h))))))))
set_option maxHeartbeats 4000000 in
set_option maxRecDepth 100000 in
theorem law_boiling {p : Program} {l : Launch} {e : Env} {s : State} {m : MethodId} {below : List Frame} {meth : Method} {c : Code} {Q : State → Prop} {b L : Nat} {xs : Nat → Int32} {G : mg} (C0 : TwC p l s m c b L xs G) {H : Heap} {locs : List Loc} {ls : Array Slot} {cells slots : Nat} (hcs : cells + 1100 ≤ 845199 ∧ slots + 4500 ≤ 6560506) {cw rw o1 o2 : Nat} {st : St} {x5 p1 p2 p3 p4 : Int32} (hLI : TwI G s.heap.size H cw rw o1 o2 st) (hS : va_S (aH s.heap.size) s.heap H locs) (hl : lv_has ls 9 [(0, .ref b), (1, .ref cw), (2, .ref rw), (3, .ref o1), (4, .ref o2), (5, .int x5)]) (hi1 : vp_in (x5 + 1) L) (hi2 : vp_in (x5 + 2) L) (hi3 : vp_in (x5 + 3) L) (hi4 : vp_in (x5 + 4) L) (hv1 : xs (x5 + 1).toNatClampNeg = p1) (hv2 : xs (x5 + 2).toNatClampNeg = p2) (hv3 : xs (x5 + 3).toNatClampNeg = p3) (hv4 : xs (x5 + 4).toNatClampNeg = p4)
    (kk : ∀ (st1 : St) (H1 : Heap) (locs1 : List Loc) (ls1 : Array Slot), TwI G s.heap.size H1 cw rw o1 o2 st1 → va_S (aH s.heap.size) s.heap H1 locs1 → lv_has ls1 9 [(0, .ref b), (1, .ref cw), (2, .ref rw), (3, .ref o1), (4, .ref o2), (5, .int x5)] → W p l e room_1 s m #[Value.ref b] below meth c H1 locs1 (cells + 1100) (slots + 4500) Q (F0 m 2675 ls1 [])) : W p l e room_1 s m #[Value.ref b] below meth c H locs cells slots Q (F0 m 1436 ls []) := by
  obtain ⟨hx, hb, hml, hown, hts, hX, hbl, hG, hl9⟩ := C0
  obtain ⟨ad, g, Mc, Mr, f1, f2, hC, hR, hV, rfl, rfl, hLS⟩ := hLI
  have hA : ∀ q : Nat, s.heap.size ≤ q → aH s.heap.size q := fun _ h => h
  have hK := hG.K
  refine lv_aload_n hx hb dL_law_1436 rfl (lv_at hl 1 rfl) ?_
  refine lv_aload_n hx hb dL_law_1437 rfl (lv_at hl 0 rfl) ?_
  refine lv_iload hx hb dL_law_1438 (lv_at hl 5 rfl) ?_
  refine lv_iconst (v := 1) hx hb dL_law_1440 (by decide) ?_
  refine lv_iadd hx hb dL_law_1441 ?_
  refine lm_sld hx hb hX hbl hS hi1 hv1 dL_law_1442 ?_
  refine lv_aload_n hx hb dL_law_1443 rfl (lv_at hl 3 rfl) ?_
  have hLo := hLS
  have hz : s.heap.size ≤ H.size := hS.1
  have hPM : mP G.1 (mu Mc o1 (.inl (G.2.1 1, 1, .inr (.inl f1)))) H := mP_o hLo.1 hLo.2.2.1
  have hIM : mI (aH s.heap.size) (mu Mc o1 (.inl (G.2.1 1, 1, .inr (.inl f1)))) := mI.mu hLo.2.2.2.2.1.1 hLo.2.2.2.2.1.2.2.1
  refine ls_calli (vx_runSX (As := [.ref (ad 0 0), .int p1, .ref o1]) (rest := []) ⟨hx, hb, hml, hown, hts⟩ (c_L_boiling l G (aS H (mu Mc o1 (.inl (G.2.1 1, 1, .inr (.inl f1))))) Mc hl9 st ad p1 o1 hLo.2.2.2.2.2.2.1 hC hV) (vx_cwSW 3 hts gL_law_L_boiling rfl rfl rfl (by decide +kernel) ⟨Nat.le_of_ble_eq_true rfl, Nat.le_of_ble_eq_true rfl⟩) (sPreS hG hS hPM hIM hA) rfl rfl hl.1 rfl (lv_room (Nat.le_of_ble_eq_true rfl)) dL_law_1444 ⟨by show cells + 1 ≤ 845199; omega, by show slots + 6 ≤ 6560506; omega⟩) hIM hS hA (fun r6 M9 H locs hp9 hP9 hI9 hk9 hS => ?_)
  obtain ⟨ad1, Mc1, f9, e6, hn9, rfl, hC1, ha1, hf1⟩ := hp9
  have hLS := TwS.c1 hLo hz hP9 hn9 hI9 hk9
  refine lv_istore (lv' := [(6, .int r6), (0, .ref b), (1, .ref (ad 0 0)), (2, .ref (g.1 0 0)), (3, .ref o1), (4, .ref o2), (5, .int x5)]) hx hb dL_law_1447 hl (by decide) rfl (fun ls hl => ?_)
  refine lv_aload_n hx hb dL_law_1449 rfl (lv_at hl 3 rfl) ?_
  refine lv_aload_n hx hb dL_law_1450 rfl (lv_at hl 1 rfl) ?_
  refine lv_iload hx hb dL_law_1451 (lv_at hl 6 rfl) ?_
  refine lv_iconst (v := 1) hx hb dL_law_1453 (by decide) ?_
  refine lv_iadd hx hb dL_law_1454 ?_
  refine lm_sld hx hb hX hbl hS hi1 hv1 dL_law_1455 ?_
  have hz : s.heap.size ≤ H.size := hS.1
  refine lm_calli (va_runV (As := [.int p1]) (rest := []) ⟨hx, hb, hml, hown, hts⟩ (c_X7_boiling l G (aS H Mr) Mr st g p1 hR hV) (cwV 1 hts gL_law_X7_boiling rfl rfl rfl (by decide +kernel) ⟨Nat.le_of_ble_eq_true rfl, Nat.le_of_ble_eq_true rfl⟩) (sPreV hG hS hLS.2.1 hLS.2.2.2.2.1.2.1 hA (RS.at0 hR hLS.2.1) (r := (RX7, TX7, 7)) rfl) rfl rfl hl.1 rfl (lv_room (Nat.le_of_ble_eq_true rfl)) dL_law_1456 ⟨by show cells + 1 + 0 ≤ 845199; omega, by show slots + 6 + 0 ≤ 6560506; omega⟩) hLS.2.2.2.2.1.2.1 hS hA (fun r7 Mr1 H locs hp9 hP9 hI9 hk9 hS => ?_)
  obtain ⟨g1, hR1, ht1, hr1, hg1⟩ := hp9
  have hLS := (TwS.c hLS.sw hz hP9 hI9 hk9).sw
  refine lv_istore (lv' := [(7, .int r7), (6, .int r6), (0, .ref b), (1, .ref (ad 0 0)), (2, .ref (g.1 0 0)), (3, .ref o1), (4, .ref o2), (5, .int x5)]) hx hb dL_law_1459 hl (by decide) rfl (fun ls hl => ?_)
  refine lv_aload_n hx hb dL_law_1461 rfl (lv_at hl 4 rfl) ?_
  have hz : s.heap.size ≤ H.size := hS.1
  have hX9 : Mr1 (g.1 0 0) = some (.inr (10, [.ref (g1.1 1 0), .ref (g1.1 2 0), .int (gS (m_boiling st p1).2.2 2), .int (gS (m_boiling st p1).2.2 3), .int (gS (m_boiling st p1).2.2 1), .int (gS (m_boiling st p1).2.2 0), .int (thR g1)])) := by rw [← hg1]; exact (hR1.1 0 0 ro0).trans (congrArg some (celR_0 G (m_boiling st p1).2.2 g1 0))
  refine lm_calli (va_runV (As := []) (rest := []) ⟨hx, hb, hml, hown, hts⟩ (c_X7_thrown l G (aS H Mr1) Mr1 hX9) (cwV 0 hts gL_law_X7_thrown rfl rfl rfl (by decide +kernel) ⟨Nat.le_of_ble_eq_true rfl, Nat.le_of_ble_eq_true rfl⟩) (sPreV hG hS hLS.2.1 hLS.2.2.2.2.1.2.1 hA (hLS.2.1 _ _ hX9) (r := (RX7, TX7, 7)) rfl) rfl rfl hl.1 rfl (lv_room (Nat.le_of_ble_eq_true rfl)) dL_law_1462 ⟨by show cells + 1 + 0 + 0 ≤ 845199; omega, by show slots + 6 + 0 + 0 ≤ 6560506; omega⟩) hLS.2.2.2.2.1.2.1 hS hA (fun r8 M9 H locs hp9 hP9 hI9 hk9 hS => ?_)
  obtain ⟨e8, hm9⟩ := hp9
  subst M9
  have hLS := (TwS.c hLS.sw hz hP9 hI9 hk9).sw
  refine lv_iload hx hb dL_law_1465 (lv_at hl 1 rfl) ?_
  refine lv_icmp_eq (tgt := 1472) hx hb dL_law_1467 (by decide) (fun c1 => ?_) (fun c1 => absurd c1 (fun z => z (by rw [e8, ht1, e6])))
  refine lv_iload hx hb dL_law_1472 (lv_at hl 1 rfl) ?_
  refine lv_if_ne (tgt := 1489) hx hb dL_law_1474 (by decide) (fun c2 => ?_) (fun c2 => ?_)
  · skip
    refine lv_goto (tgt := 2675) hx hb dL_law_1489 (by decide) ?_
    refine W.widen (k := cells + 1100) (n := slots + 4500) (by omega) (by omega) ?_
    exact kk _ H locs ls ⟨ad1, g1, Mc1, Mr1, f9, f2, hC1, hR1, (I_boiling hV p1), ha1, hg1, hLS⟩ hS (lv_sub hl [2, 3, 4, 5, 6, 7] rfl)
  · skip
    have h0 := nI_z (le_boiling st p1) (e6.symm.trans c2)
    refine lv_aload_n hx hb dL_law_1477 rfl (lv_at hl 5 rfl) ?_
    refine lv_iconst (v := 0) hx hb dL_law_1478 (by decide) ?_
    refine lm_lald hx hb hK 1 hLS.2.2.1 rfl (show vp_in 0 1 by unfold vp_in; decide) (hf1 h0) dL_law_1479 ?_
    refine lv_iload hx hb dL_law_1480 (lv_at hl 0 rfl) ?_
    refine lv_i2l (v := r7.toInt64) hx hb dL_law_1482 rfl ?_
    refine m_lcmp_eq (tgt := 1489) hx hb dL_law_1483 dL_law_1484 (by decide) (fun c3 => ?_) (fun c3 => ?_)
    · skip
      refine lv_goto (tgt := 2675) hx hb dL_law_1489 (by decide) ?_
      refine W.widen (k := cells + 1100) (n := slots + 4500) (by omega) (by omega) ?_
      exact kk _ H locs ls ⟨ad1, g1, Mc1, Mr1, f9, f2, hC1, hR1, (I_boiling hV p1), ha1, hg1, hLS⟩ hS (lv_sub hl [2, 3, 4, 5, 6, 7] rfl)
    · skip
      exact absurd (by rw [hr1 h0]) c3
theorem le_divide (st : St) (p0 p1 : Int32) : (m_divide st p0 p1).1 < 100 := by
  unfold m_divide
  first | exact le_0 | exact chk_le (by omega) (le_0) | exact chk_le (by omega) (chk_le (by omega) (le_0)) | exact chk_le (by omega) (chk_le (by omega) (chk_le (by omega) (le_0))) | exact chk_le (by omega) (chk_le (by omega) (chk_le (by omega) (chk_le (by omega) (le_0)))) | exact chk_le (by omega) (chk_le (by omega) (chk_le (by omega) (chk_le (by omega) (chk_le (by omega) (le_0))))) | exact chk_le (by omega) (chk_le (by omega) (chk_le (by omega) (chk_le (by omega) (chk_le (by omega) (chk_le (by omega) (le_0)))))) | exact chk_le (by omega) (chk_le (by omega) (chk_le (by omega) (chk_le (by omega) (chk_le (by omega) (chk_le (by omega) (chk_le (by omega) (le_0))))))) | exact chk_le (by omega) (chk_le (by omega) (chk_le (by omega) (chk_le (by omega) (chk_le (by omega) (chk_le (by omega) (chk_le (by omega) (chk_le (by omega) (le_0))))))))
set_option maxHeartbeats 4000000 in
set_option maxRecDepth 100000 in
theorem law_divide {p : Program} {l : Launch} {e : Env} {s : State} {m : MethodId} {below : List Frame} {meth : Method} {c : Code} {Q : State → Prop} {b L : Nat} {xs : Nat → Int32} {G : mg} (C0 : TwC p l s m c b L xs G) {H : Heap} {locs : List Loc} {ls : Array Slot} {cells slots : Nat} (hcs : cells + 1100 ≤ 845199 ∧ slots + 4500 ≤ 6560506) {cw rw o1 o2 : Nat} {st : St} {x5 p1 p2 p3 p4 : Int32} (hLI : TwI G s.heap.size H cw rw o1 o2 st) (hS : va_S (aH s.heap.size) s.heap H locs) (hl : lv_has ls 9 [(0, .ref b), (1, .ref cw), (2, .ref rw), (3, .ref o1), (4, .ref o2), (5, .int x5)]) (hi1 : vp_in (x5 + 1) L) (hi2 : vp_in (x5 + 2) L) (hi3 : vp_in (x5 + 3) L) (hi4 : vp_in (x5 + 4) L) (hv1 : xs (x5 + 1).toNatClampNeg = p1) (hv2 : xs (x5 + 2).toNatClampNeg = p2) (hv3 : xs (x5 + 3).toNatClampNeg = p3) (hv4 : xs (x5 + 4).toNatClampNeg = p4)
    (kk : ∀ (st1 : St) (H1 : Heap) (locs1 : List Loc) (ls1 : Array Slot), TwI G s.heap.size H1 cw rw o1 o2 st1 → va_S (aH s.heap.size) s.heap H1 locs1 → lv_has ls1 9 [(0, .ref b), (1, .ref cw), (2, .ref rw), (3, .ref o1), (4, .ref o2), (5, .int x5)] → W p l e room_1 s m #[Value.ref b] below meth c H1 locs1 (cells + 1100) (slots + 4500) Q (F0 m 2675 ls1 [])) : W p l e room_1 s m #[Value.ref b] below meth c H locs cells slots Q (F0 m 1492 ls []) := by
  obtain ⟨hx, hb, hml, hown, hts, hX, hbl, hG, hl9⟩ := C0
  obtain ⟨ad, g, Mc, Mr, f1, f2, hC, hR, hV, rfl, rfl, hLS⟩ := hLI
  have hA : ∀ q : Nat, s.heap.size ≤ q → aH s.heap.size q := fun _ h => h
  have hK := hG.K
  refine lv_aload_n hx hb dL_law_1492 rfl (lv_at hl 1 rfl) ?_
  refine lv_aload_n hx hb dL_law_1493 rfl (lv_at hl 0 rfl) ?_
  refine lv_iload hx hb dL_law_1494 (lv_at hl 5 rfl) ?_
  refine lv_iconst (v := 1) hx hb dL_law_1496 (by decide) ?_
  refine lv_iadd hx hb dL_law_1497 ?_
  refine lm_sld hx hb hX hbl hS hi1 hv1 dL_law_1498 ?_
  refine lv_aload_n hx hb dL_law_1499 rfl (lv_at hl 0 rfl) ?_
  refine lv_iload hx hb dL_law_1500 (lv_at hl 5 rfl) ?_
  refine lv_iconst (v := 2) hx hb dL_law_1502 (by decide) ?_
  refine lv_iadd hx hb dL_law_1503 ?_
  refine lm_sld hx hb hX hbl hS hi2 hv2 dL_law_1504 ?_
  refine lv_i2c (v := (p2.toUInt32 % 65536).toInt32) hx hb dL_law_1505 rfl ?_
  refine lv_aload_n hx hb dL_law_1506 rfl (lv_at hl 3 rfl) ?_
  have hLo := hLS
  have hz : s.heap.size ≤ H.size := hS.1
  have hPM : mP G.1 (mu Mc o1 (.inl (G.2.1 1, 1, .inr (.inl f1)))) H := mP_o hLo.1 hLo.2.2.1
  have hIM : mI (aH s.heap.size) (mu Mc o1 (.inl (G.2.1 1, 1, .inr (.inl f1)))) := mI.mu hLo.2.2.2.2.1.1 hLo.2.2.2.2.1.2.2.1
  refine ls_calli (vx_runSX (As := [.ref (ad 0 0), .int p1, .int ((p2.toUInt32 % 65536).toInt32), .ref o1]) (rest := []) ⟨hx, hb, hml, hown, hts⟩ (c_L_divide l G (aS H (mu Mc o1 (.inl (G.2.1 1, 1, .inr (.inl f1))))) Mc hl9 st ad p1 ((p2.toUInt32 % 65536).toInt32) o1 hLo.2.2.2.2.2.2.1 hC hV) (vx_cwSW 4 hts gL_law_L_divide rfl rfl rfl (by decide +kernel) ⟨Nat.le_of_ble_eq_true rfl, Nat.le_of_ble_eq_true rfl⟩) (sPreS hG hS hPM hIM hA) rfl rfl hl.1 rfl (lv_room (Nat.le_of_ble_eq_true rfl)) dL_law_1507 ⟨by show cells + 4 ≤ 845199; omega, by show slots + 24 ≤ 6560506; omega⟩) hIM hS hA (fun r6 M9 H locs hp9 hP9 hI9 hk9 hS => ?_)
  obtain ⟨ad1, Mc1, f9, e6, hn9, rfl, hC1, ha1, hf1⟩ := hp9
  have hLS := TwS.c1 hLo hz hP9 hn9 hI9 hk9
  refine lv_istore (lv' := [(6, .int r6), (0, .ref b), (1, .ref (ad 0 0)), (2, .ref (g.1 0 0)), (3, .ref o1), (4, .ref o2), (5, .int x5)]) hx hb dL_law_1510 hl (by decide) rfl (fun ls hl => ?_)
  refine lv_aload_n hx hb dL_law_1512 rfl (lv_at hl 3 rfl) ?_
  refine lv_aload_n hx hb dL_law_1513 rfl (lv_at hl 1 rfl) ?_
  refine lv_iload hx hb dL_law_1514 (lv_at hl 6 rfl) ?_
  refine lv_iconst (v := 1) hx hb dL_law_1516 (by decide) ?_
  refine lv_iadd hx hb dL_law_1517 ?_
  refine lm_sld hx hb hX hbl hS hi1 hv1 dL_law_1518 ?_
  refine lv_aload_n hx hb dL_law_1519 rfl (lv_at hl 1 rfl) ?_
  refine lv_iload hx hb dL_law_1520 (lv_at hl 6 rfl) ?_
  refine lv_iconst (v := 2) hx hb dL_law_1522 (by decide) ?_
  refine lv_iadd hx hb dL_law_1523 ?_
  refine lm_sld hx hb hX hbl hS hi2 hv2 dL_law_1524 ?_
  refine lv_i2c (v := (p2.toUInt32 % 65536).toInt32) hx hb dL_law_1525 rfl ?_
  have hz : s.heap.size ≤ H.size := hS.1
  refine lm_calli (va_runV (As := [.int p1, .int ((p2.toUInt32 % 65536).toInt32)]) (rest := []) ⟨hx, hb, hml, hown, hts⟩ (c_X7_divide l G (aS H Mr) Mr st g p1 ((p2.toUInt32 % 65536).toInt32) hR hV) (cwV 2 hts gL_law_X7_divide rfl rfl rfl (by decide +kernel) ⟨Nat.le_of_ble_eq_true rfl, Nat.le_of_ble_eq_true rfl⟩) (sPreV hG hS hLS.2.1 hLS.2.2.2.2.1.2.1 hA (RS.at0 hR hLS.2.1) (r := (RX7, TX7, 7)) rfl) rfl rfl hl.1 rfl (lv_room (Nat.le_of_ble_eq_true rfl)) dL_law_1526 ⟨by show cells + 4 + 0 ≤ 845199; omega, by show slots + 24 + 0 ≤ 6560506; omega⟩) hLS.2.2.2.2.1.2.1 hS hA (fun r7 Mr1 H locs hp9 hP9 hI9 hk9 hS => ?_)
  obtain ⟨g1, hR1, ht1, hr1, hg1⟩ := hp9
  have hLS := (TwS.c hLS.sw hz hP9 hI9 hk9).sw
  refine lv_istore (lv' := [(7, .int r7), (6, .int r6), (0, .ref b), (1, .ref (ad 0 0)), (2, .ref (g.1 0 0)), (3, .ref o1), (4, .ref o2), (5, .int x5)]) hx hb dL_law_1529 hl (by decide) rfl (fun ls hl => ?_)
  refine lv_aload_n hx hb dL_law_1531 rfl (lv_at hl 4 rfl) ?_
  have hz : s.heap.size ≤ H.size := hS.1
  have hX9 : Mr1 (g.1 0 0) = some (.inr (10, [.ref (g1.1 1 0), .ref (g1.1 2 0), .int (gS (m_divide st p1 ((p2.toUInt32 % 65536).toInt32)).2.2 2), .int (gS (m_divide st p1 ((p2.toUInt32 % 65536).toInt32)).2.2 3), .int (gS (m_divide st p1 ((p2.toUInt32 % 65536).toInt32)).2.2 1), .int (gS (m_divide st p1 ((p2.toUInt32 % 65536).toInt32)).2.2 0), .int (thR g1)])) := by rw [← hg1]; exact (hR1.1 0 0 ro0).trans (congrArg some (celR_0 G (m_divide st p1 ((p2.toUInt32 % 65536).toInt32)).2.2 g1 0))
  refine lm_calli (va_runV (As := []) (rest := []) ⟨hx, hb, hml, hown, hts⟩ (c_X7_thrown l G (aS H Mr1) Mr1 hX9) (cwV 0 hts gL_law_X7_thrown rfl rfl rfl (by decide +kernel) ⟨Nat.le_of_ble_eq_true rfl, Nat.le_of_ble_eq_true rfl⟩) (sPreV hG hS hLS.2.1 hLS.2.2.2.2.1.2.1 hA (hLS.2.1 _ _ hX9) (r := (RX7, TX7, 7)) rfl) rfl rfl hl.1 rfl (lv_room (Nat.le_of_ble_eq_true rfl)) dL_law_1532 ⟨by show cells + 4 + 0 + 0 ≤ 845199; omega, by show slots + 24 + 0 + 0 ≤ 6560506; omega⟩) hLS.2.2.2.2.1.2.1 hS hA (fun r8 M9 H locs hp9 hP9 hI9 hk9 hS => ?_)
  obtain ⟨e8, hm9⟩ := hp9
  subst M9
  have hLS := (TwS.c hLS.sw hz hP9 hI9 hk9).sw
  refine lv_iload hx hb dL_law_1535 (lv_at hl 1 rfl) ?_
  refine lv_icmp_eq (tgt := 1542) hx hb dL_law_1537 (by decide) (fun c1 => ?_) (fun c1 => absurd c1 (fun z => z (by rw [e8, ht1, e6])))
  refine lv_iload hx hb dL_law_1542 (lv_at hl 1 rfl) ?_
  refine lv_if_ne (tgt := 1559) hx hb dL_law_1544 (by decide) (fun c2 => ?_) (fun c2 => ?_)
  · skip
    refine lv_goto (tgt := 2675) hx hb dL_law_1559 (by decide) ?_
    refine W.widen (k := cells + 1100) (n := slots + 4500) (by omega) (by omega) ?_
    exact kk _ H locs ls ⟨ad1, g1, Mc1, Mr1, f9, f2, hC1, hR1, (I_divide hV p1 ((p2.toUInt32 % 65536).toInt32)), ha1, hg1, hLS⟩ hS (lv_sub hl [2, 3, 4, 5, 6, 7] rfl)
  · skip
    have h0 := nI_z (le_divide st p1 ((p2.toUInt32 % 65536).toInt32)) (e6.symm.trans c2)
    refine lv_aload_n hx hb dL_law_1547 rfl (lv_at hl 5 rfl) ?_
    refine lv_iconst (v := 0) hx hb dL_law_1548 (by decide) ?_
    refine lm_lald hx hb hK 1 hLS.2.2.1 rfl (show vp_in 0 1 by unfold vp_in; decide) (hf1 h0) dL_law_1549 ?_
    refine lv_iload hx hb dL_law_1550 (lv_at hl 0 rfl) ?_
    refine lv_i2l (v := r7.toInt64) hx hb dL_law_1552 rfl ?_
    refine m_lcmp_eq (tgt := 1559) hx hb dL_law_1553 dL_law_1554 (by decide) (fun c3 => ?_) (fun c3 => ?_)
    · skip
      refine lv_goto (tgt := 2675) hx hb dL_law_1559 (by decide) ?_
      refine W.widen (k := cells + 1100) (n := slots + 4500) (by omega) (by omega) ?_
      exact kk _ H locs ls ⟨ad1, g1, Mc1, Mr1, f9, f2, hC1, hR1, (I_divide hV p1 ((p2.toUInt32 % 65536).toInt32)), ha1, hg1, hLS⟩ hS (lv_sub hl [2, 3, 4, 5, 6, 7] rfl)
    · skip
      exact absurd (by rw [hr1 h0]) c3
