theorem le_readsAt (st : St) (p0 p1 : Int32) : (m_readsAt st p0 p1).1 < 100 := by
  unfold m_readsAt
  first | exact le_0 | exact chk_le (by omega) (le_0) | exact chk_le (by omega) (chk_le (by omega) (le_0)) | exact chk_le (by omega) (chk_le (by omega) (chk_le (by omega) (le_0))) | exact chk_le (by omega) (chk_le (by omega) (chk_le (by omega) (chk_le (by omega) (le_0)))) | exact chk_le (by omega) (chk_le (by omega) (chk_le (by omega) (chk_le (by omega) (chk_le (by omega) (le_0))))) | exact chk_le (by omega) (chk_le (by omega) (chk_le (by omega) (chk_le (by omega) (chk_le (by omega) (chk_le (by omega) (le_0)))))) | exact chk_le (by omega) (chk_le (by omega) (chk_le (by omega) (chk_le (by omega) (chk_le (by omega) (chk_le (by omega) (chk_le (by omega) (le_0))))))) | exact chk_le (by omega) (chk_le (by omega) (chk_le (by omega) (chk_le (by omega) (chk_le (by omega) (chk_le (by omega) (chk_le (by omega) (chk_le (by omega) (le_0))))))))
theorem I_readsAt {st : St} (h : Inv st) (p0 p1 : Int32) : Inv (m_readsAt st p0 p1).2.2 := by
  unfold m_readsAt
  first | exact h | exact chk_I h (fun _ => h) | exact chk_I h (fun _ => chk_I h (fun _ => h)) | exact chk_I h (fun _ => chk_I h (fun _ => chk_I h (fun _ => h))) | exact chk_I h (fun _ => chk_I h (fun _ => chk_I h (fun _ => chk_I h (fun _ => h)))) | exact chk_I h (fun _ => chk_I h (fun _ => chk_I h (fun _ => chk_I h (fun _ => chk_I h (fun _ => h))))) | exact chk_I h (fun _ => chk_I h (fun _ => chk_I h (fun _ => chk_I h (fun _ => chk_I h (fun _ => chk_I h (fun _ => h)))))) | exact chk_I h (fun _ => chk_I h (fun _ => chk_I h (fun _ => chk_I h (fun _ => chk_I h (fun _ => chk_I h (fun _ => chk_I h (fun _ => h))))))) | exact chk_I h (fun _ => chk_I h (fun _ => chk_I h (fun _ => chk_I h (fun _ => chk_I h (fun _ => chk_I h (fun _ => chk_I h (fun _ => chk_I h (fun _ => h))))))))
set_option maxHeartbeats 4000000 in
set_option maxRecDepth 100000 in
theorem law_readsAt {p : Program} {l : Launch} {e : Env} {s : State} {m : MethodId} {below : List Frame} {meth : Method} {c : Code} {Q : State → Prop} {b L : Nat} {xs : Nat → Int32} {G : mg} (C0 : TwC p l s m c b L xs G) {H : Heap} {locs : List Loc} {ls : Array Slot} {cells slots : Nat} (hcs : cells + 1100 ≤ 845199 ∧ slots + 4500 ≤ 6560506) {cw rw o1 o2 : Nat} {st : St} {x5 p1 p2 p3 p4 : Int32} (hLI : TwI G s.heap.size H cw rw o1 o2 st) (hS : va_S (aH s.heap.size) s.heap H locs) (hl : lv_has ls 9 [(0, .ref b), (1, .ref cw), (2, .ref rw), (3, .ref o1), (4, .ref o2), (5, .int x5)]) (hi1 : vp_in (x5 + 1) L) (hi2 : vp_in (x5 + 2) L) (hi3 : vp_in (x5 + 3) L) (hi4 : vp_in (x5 + 4) L) (hv1 : xs (x5 + 1).toNatClampNeg = p1) (hv2 : xs (x5 + 2).toNatClampNeg = p2) (hv3 : xs (x5 + 3).toNatClampNeg = p3) (hv4 : xs (x5 + 4).toNatClampNeg = p4)
    (kk : ∀ (st1 : St) (H1 : Heap) (locs1 : List Loc) (ls1 : Array Slot), TwI G s.heap.size H1 cw rw o1 o2 st1 → va_S (aH s.heap.size) s.heap H1 locs1 → lv_has ls1 9 [(0, .ref b), (1, .ref cw), (2, .ref rw), (3, .ref o1), (4, .ref o2), (5, .int x5)] → W p l e room_1 s m #[Value.ref b] below meth c H1 locs1 (cells + 1100) (slots + 4500) Q (F0 m 2675 ls1 [])) : W p l e room_1 s m #[Value.ref b] below meth c H locs cells slots Q (F0 m 1562 ls []) := by
  obtain ⟨hx, hb, hml, hown, hts, hX, hbl, hG, hl9⟩ := C0
  obtain ⟨ad, g, Mc, Mr, f1, f2, hC, hR, hV, rfl, rfl, hLS⟩ := hLI
  have hA : ∀ q : Nat, s.heap.size ≤ q → aH s.heap.size q := fun _ h => h
  have hK := hG.K
  refine lv_aload_n hx hb dL_law_1562 rfl (lv_at hl 1 rfl) ?_
  refine lv_aload_n hx hb dL_law_1563 rfl (lv_at hl 0 rfl) ?_
  refine lv_iload hx hb dL_law_1564 (lv_at hl 5 rfl) ?_
  refine lv_iconst (v := 1) hx hb dL_law_1566 (by decide) ?_
  refine lv_iadd hx hb dL_law_1567 ?_
  refine lm_sld hx hb hX hbl hS hi1 hv1 dL_law_1568 ?_
  refine lv_aload_n hx hb dL_law_1569 rfl (lv_at hl 0 rfl) ?_
  refine lv_iload hx hb dL_law_1570 (lv_at hl 5 rfl) ?_
  refine lv_iconst (v := 2) hx hb dL_law_1572 (by decide) ?_
  refine lv_iadd hx hb dL_law_1573 ?_
  refine lm_sld hx hb hX hbl hS hi2 hv2 dL_law_1574 ?_
  refine lv_aload_n hx hb dL_law_1575 rfl (lv_at hl 3 rfl) ?_
  have hLo := hLS
  have hz : s.heap.size ≤ H.size := hS.1
  have hPM : mP G.1 (mu Mc o1 (.inl (G.2.1 1, 1, .inr (.inl f1)))) H := mP_o hLo.1 hLo.2.2.1
  have hIM : mI (aH s.heap.size) (mu Mc o1 (.inl (G.2.1 1, 1, .inr (.inl f1)))) := mI.mu hLo.2.2.2.2.1.1 hLo.2.2.2.2.1.2.2.1
  refine ls_calli (vx_runSX (As := [.ref (ad 0 0), .int p1, .int p2, .ref o1]) (rest := []) ⟨hx, hb, hml, hown, hts⟩ (c_L_readsAt l G (aS H (mu Mc o1 (.inl (G.2.1 1, 1, .inr (.inl f1))))) Mc hl9 st ad p1 p2 o1 hLo.2.2.2.2.2.2.1 hC hV) (vx_cwSW 4 hts gL_law_L_readsAt rfl rfl rfl (by decide +kernel) ⟨Nat.le_of_ble_eq_true rfl, Nat.le_of_ble_eq_true rfl⟩) (sPreS hG hS hPM hIM hA) rfl rfl hl.1 rfl (lv_room (Nat.le_of_ble_eq_true rfl)) dL_law_1576 ⟨by show cells + 3 ≤ 845199; omega, by show slots + 18 ≤ 6560506; omega⟩) hIM hS hA (fun r6 M9 H locs hp9 hP9 hI9 hk9 hS => ?_)
  obtain ⟨ad1, Mc1, f9, e6, hn9, rfl, hC1, ha1, hf1⟩ := hp9
  have hLS := TwS.c1 hLo hz hP9 hn9 hI9 hk9
  refine lv_istore (lv' := [(6, .int r6), (0, .ref b), (1, .ref (ad 0 0)), (2, .ref (g.1 0 0)), (3, .ref o1), (4, .ref o2), (5, .int x5)]) hx hb dL_law_1579 hl (by decide) rfl (fun ls hl => ?_)
  refine lv_aload_n hx hb dL_law_1581 rfl (lv_at hl 3 rfl) ?_
  refine lv_aload_n hx hb dL_law_1582 rfl (lv_at hl 1 rfl) ?_
  refine lv_iload hx hb dL_law_1583 (lv_at hl 6 rfl) ?_
  refine lv_iconst (v := 1) hx hb dL_law_1585 (by decide) ?_
  refine lv_iadd hx hb dL_law_1586 ?_
  refine lm_sld hx hb hX hbl hS hi1 hv1 dL_law_1587 ?_
  refine lv_aload_n hx hb dL_law_1588 rfl (lv_at hl 1 rfl) ?_
  refine lv_iload hx hb dL_law_1589 (lv_at hl 6 rfl) ?_
  refine lv_iconst (v := 2) hx hb dL_law_1591 (by decide) ?_
  refine lv_iadd hx hb dL_law_1592 ?_
  refine lm_sld hx hb hX hbl hS hi2 hv2 dL_law_1593 ?_
  have hz : s.heap.size ≤ H.size := hS.1
  refine lm_calli (va_runV (As := [.int p1, .int p2]) (rest := []) ⟨hx, hb, hml, hown, hts⟩ (c_X7_readsAt l G (aS H Mr) Mr st g p1 p2 hR hV) (cwV 2 hts gL_law_X7_readsAt rfl rfl rfl (by decide +kernel) ⟨Nat.le_of_ble_eq_true rfl, Nat.le_of_ble_eq_true rfl⟩) (sPreV hG hS hLS.2.1 hLS.2.2.2.2.1.2.1 hA (RS.at0 hR hLS.2.1) (r := (RX7, TX7, 7)) rfl) rfl rfl hl.1 rfl (lv_room (Nat.le_of_ble_eq_true rfl)) dL_law_1594 ⟨by show cells + 3 + 0 ≤ 845199; omega, by show slots + 18 + 0 ≤ 6560506; omega⟩) hLS.2.2.2.2.1.2.1 hS hA (fun r7 Mr1 H locs hp9 hP9 hI9 hk9 hS => ?_)
  obtain ⟨g1, hR1, ht1, hr1, hg1⟩ := hp9
  have hLS := (TwS.c hLS.sw hz hP9 hI9 hk9).sw
  refine lv_istore (lv' := [(7, .int r7), (6, .int r6), (0, .ref b), (1, .ref (ad 0 0)), (2, .ref (g.1 0 0)), (3, .ref o1), (4, .ref o2), (5, .int x5)]) hx hb dL_law_1597 hl (by decide) rfl (fun ls hl => ?_)
  refine lv_aload_n hx hb dL_law_1599 rfl (lv_at hl 4 rfl) ?_
  have hz : s.heap.size ≤ H.size := hS.1
  have hX9 : Mr1 (g.1 0 0) = some (.inr (10, [.ref (g1.1 1 0), .ref (g1.1 2 0), .int (gS (m_readsAt st p1 p2).2.2 2), .int (gS (m_readsAt st p1 p2).2.2 3), .int (gS (m_readsAt st p1 p2).2.2 1), .int (gS (m_readsAt st p1 p2).2.2 0), .int (thR g1)])) := by rw [← hg1]; exact (hR1.1 0 0 ro0).trans (congrArg some (celR_0 G (m_readsAt st p1 p2).2.2 g1 0))
  refine lm_calli (va_runV (As := []) (rest := []) ⟨hx, hb, hml, hown, hts⟩ (c_X7_thrown l G (aS H Mr1) Mr1 hX9) (cwV 0 hts gL_law_X7_thrown rfl rfl rfl (by decide +kernel) ⟨Nat.le_of_ble_eq_true rfl, Nat.le_of_ble_eq_true rfl⟩) (sPreV hG hS hLS.2.1 hLS.2.2.2.2.1.2.1 hA (hLS.2.1 _ _ hX9) (r := (RX7, TX7, 7)) rfl) rfl rfl hl.1 rfl (lv_room (Nat.le_of_ble_eq_true rfl)) dL_law_1600 ⟨by show cells + 3 + 0 + 0 ≤ 845199; omega, by show slots + 18 + 0 + 0 ≤ 6560506; omega⟩) hLS.2.2.2.2.1.2.1 hS hA (fun r8 M9 H locs hp9 hP9 hI9 hk9 hS => ?_)
  obtain ⟨e8, hm9⟩ := hp9
  subst M9
  have hLS := (TwS.c hLS.sw hz hP9 hI9 hk9).sw
  refine lv_iload hx hb dL_law_1603 (lv_at hl 1 rfl) ?_
  refine lv_icmp_eq (tgt := 1610) hx hb dL_law_1605 (by decide) (fun c1 => ?_) (fun c1 => absurd c1 (fun z => z (by rw [e8, ht1, e6])))
  refine lv_iload hx hb dL_law_1610 (lv_at hl 1 rfl) ?_
  refine lv_if_ne (tgt := 1627) hx hb dL_law_1612 (by decide) (fun c2 => ?_) (fun c2 => ?_)
  · skip
    refine lv_goto (tgt := 2675) hx hb dL_law_1627 (by decide) ?_
    refine W.widen (k := cells + 1100) (n := slots + 4500) (by omega) (by omega) ?_
    exact kk _ H locs ls ⟨ad1, g1, Mc1, Mr1, f9, f2, hC1, hR1, (I_readsAt hV p1 p2), ha1, hg1, hLS⟩ hS (lv_sub hl [2, 3, 4, 5, 6, 7] rfl)
  · skip
    have h0 := nI_z (le_readsAt st p1 p2) (e6.symm.trans c2)
    refine lv_aload_n hx hb dL_law_1615 rfl (lv_at hl 5 rfl) ?_
    refine lv_iconst (v := 0) hx hb dL_law_1616 (by decide) ?_
    refine lm_lald hx hb hK 1 hLS.2.2.1 rfl (show vp_in 0 1 by unfold vp_in; decide) (hf1 h0) dL_law_1617 ?_
    refine lv_iload hx hb dL_law_1618 (lv_at hl 0 rfl) ?_
    refine lv_i2l (v := r7.toInt64) hx hb dL_law_1620 rfl ?_
    refine m_lcmp_eq (tgt := 1627) hx hb dL_law_1621 dL_law_1622 (by decide) (fun c3 => ?_) (fun c3 => ?_)
    · skip
      refine lv_goto (tgt := 2675) hx hb dL_law_1627 (by decide) ?_
      refine W.widen (k := cells + 1100) (n := slots + 4500) (by omega) (by omega) ?_
      exact kk _ H locs ls ⟨ad1, g1, Mc1, Mr1, f9, f2, hC1, hR1, (I_readsAt hV p1 p2), ha1, hg1, hLS⟩ hS (lv_sub hl [2, 3, 4, 5, 6, 7] rfl)
    · skip
      exact absurd (by rw [hr1 h0]) c3
theorem le_bath (st : St) (p0 p1 p2 : Int32) : (m_bath st p0 p1 p2).1 < 100 := by
  unfold m_bath
  first | exact le_0 | exact chk_le (by omega) (le_0) | exact chk_le (by omega) (chk_le (by omega) (le_0)) | exact chk_le (by omega) (chk_le (by omega) (chk_le (by omega) (le_0))) | exact chk_le (by omega) (chk_le (by omega) (chk_le (by omega) (chk_le (by omega) (le_0)))) | exact chk_le (by omega) (chk_le (by omega) (chk_le (by omega) (chk_le (by omega) (chk_le (by omega) (le_0))))) | exact chk_le (by omega) (chk_le (by omega) (chk_le (by omega) (chk_le (by omega) (chk_le (by omega) (chk_le (by omega) (le_0)))))) | exact chk_le (by omega) (chk_le (by omega) (chk_le (by omega) (chk_le (by omega) (chk_le (by omega) (chk_le (by omega) (chk_le (by omega) (le_0))))))) | exact chk_le (by omega) (chk_le (by omega) (chk_le (by omega) (chk_le (by omega) (chk_le (by omega) (chk_le (by omega) (chk_le (by omega) (chk_le (by omega) (le_0))))))))
set_option maxHeartbeats 4000000 in
set_option maxRecDepth 100000 in
theorem law_bath {p : Program} {l : Launch} {e : Env} {s : State} {m : MethodId} {below : List Frame} {meth : Method} {c : Code} {Q : State → Prop} {b L : Nat} {xs : Nat → Int32} {G : mg} (C0 : TwC p l s m c b L xs G) {H : Heap} {locs : List Loc} {ls : Array Slot} {cells slots : Nat} (hcs : cells + 1100 ≤ 845199 ∧ slots + 4500 ≤ 6560506) {cw rw o1 o2 : Nat} {st : St} {x5 p1 p2 p3 p4 : Int32} (hLI : TwI G s.heap.size H cw rw o1 o2 st) (hS : va_S (aH s.heap.size) s.heap H locs) (hl : lv_has ls 9 [(0, .ref b), (1, .ref cw), (2, .ref rw), (3, .ref o1), (4, .ref o2), (5, .int x5)]) (hi1 : vp_in (x5 + 1) L) (hi2 : vp_in (x5 + 2) L) (hi3 : vp_in (x5 + 3) L) (hi4 : vp_in (x5 + 4) L) (hv1 : xs (x5 + 1).toNatClampNeg = p1) (hv2 : xs (x5 + 2).toNatClampNeg = p2) (hv3 : xs (x5 + 3).toNatClampNeg = p3) (hv4 : xs (x5 + 4).toNatClampNeg = p4)
    (kk : ∀ (st1 : St) (H1 : Heap) (locs1 : List Loc) (ls1 : Array Slot), TwI G s.heap.size H1 cw rw o1 o2 st1 → va_S (aH s.heap.size) s.heap H1 locs1 → lv_has ls1 9 [(0, .ref b), (1, .ref cw), (2, .ref rw), (3, .ref o1), (4, .ref o2), (5, .int x5)] → W p l e room_1 s m #[Value.ref b] below meth c H1 locs1 (cells + 1100) (slots + 4500) Q (F0 m 2675 ls1 [])) : W p l e room_1 s m #[Value.ref b] below meth c H locs cells slots Q (F0 m 1630 ls []) := by
  obtain ⟨hx, hb, hml, hown, hts, hX, hbl, hG, hl9⟩ := C0
  obtain ⟨ad, g, Mc, Mr, f1, f2, hC, hR, hV, rfl, rfl, hLS⟩ := hLI
  have hA : ∀ q : Nat, s.heap.size ≤ q → aH s.heap.size q := fun _ h => h
  have hK := hG.K
  refine lv_aload_n hx hb dL_law_1630 rfl (lv_at hl 1 rfl) ?_
  refine lv_aload_n hx hb dL_law_1631 rfl (lv_at hl 0 rfl) ?_
  refine lv_iload hx hb dL_law_1632 (lv_at hl 5 rfl) ?_
  refine lv_iconst (v := 1) hx hb dL_law_1634 (by decide) ?_
  refine lv_iadd hx hb dL_law_1635 ?_
  refine lm_sld hx hb hX hbl hS hi1 hv1 dL_law_1636 ?_
  refine lv_aload_n hx hb dL_law_1637 rfl (lv_at hl 0 rfl) ?_
  refine lv_iload hx hb dL_law_1638 (lv_at hl 5 rfl) ?_
  refine lv_iconst (v := 2) hx hb dL_law_1640 (by decide) ?_
  refine lv_iadd hx hb dL_law_1641 ?_
  refine lm_sld hx hb hX hbl hS hi2 hv2 dL_law_1642 ?_
  refine lv_aload_n hx hb dL_law_1643 rfl (lv_at hl 0 rfl) ?_
  refine lv_iload hx hb dL_law_1644 (lv_at hl 5 rfl) ?_
  refine lv_iconst (v := 3) hx hb dL_law_1646 (by decide) ?_
  refine lv_iadd hx hb dL_law_1647 ?_
  refine lm_sld hx hb hX hbl hS hi3 hv3 dL_law_1648 ?_
  refine lv_aload_n hx hb dL_law_1649 rfl (lv_at hl 3 rfl) ?_
  have hLo := hLS
  have hz : s.heap.size ≤ H.size := hS.1
  have hPM : mP G.1 (mu Mc o1 (.inl (G.2.1 1, 1, .inr (.inl f1)))) H := mP_o hLo.1 hLo.2.2.1
  have hIM : mI (aH s.heap.size) (mu Mc o1 (.inl (G.2.1 1, 1, .inr (.inl f1)))) := mI.mu hLo.2.2.2.2.1.1 hLo.2.2.2.2.1.2.2.1
  refine ls_calli (vx_runSX (As := [.ref (ad 0 0), .int p1, .int p2, .int p3, .ref o1]) (rest := []) ⟨hx, hb, hml, hown, hts⟩ (c_L_bath l G (aS H (mu Mc o1 (.inl (G.2.1 1, 1, .inr (.inl f1))))) Mc hl9 st ad p1 p2 p3 o1 hLo.2.2.2.2.2.2.1 hC hV) (vx_cwSW 5 hts gL_law_L_bath rfl rfl rfl (by decide +kernel) ⟨Nat.le_of_ble_eq_true rfl, Nat.le_of_ble_eq_true rfl⟩) (sPreS hG hS hPM hIM hA) rfl rfl hl.1 rfl (lv_room (Nat.le_of_ble_eq_true rfl)) dL_law_1650 ⟨by show cells + 6 ≤ 845199; omega, by show slots + 36 ≤ 6560506; omega⟩) hIM hS hA (fun r6 M9 H locs hp9 hP9 hI9 hk9 hS => ?_)
  obtain ⟨ad1, Mc1, f9, e6, hn9, rfl, hC1, ha1, hf1⟩ := hp9
  have hLS := TwS.c1 hLo hz hP9 hn9 hI9 hk9
  refine lv_istore (lv' := [(6, .int r6), (0, .ref b), (1, .ref (ad 0 0)), (2, .ref (g.1 0 0)), (3, .ref o1), (4, .ref o2), (5, .int x5)]) hx hb dL_law_1653 hl (by decide) rfl (fun ls hl => ?_)
  refine lv_aload_n hx hb dL_law_1655 rfl (lv_at hl 3 rfl) ?_
  refine lv_aload_n hx hb dL_law_1656 rfl (lv_at hl 1 rfl) ?_
  refine lv_iload hx hb dL_law_1657 (lv_at hl 6 rfl) ?_
  refine lv_iconst (v := 1) hx hb dL_law_1659 (by decide) ?_
  refine lv_iadd hx hb dL_law_1660 ?_
  refine lm_sld hx hb hX hbl hS hi1 hv1 dL_law_1661 ?_
  refine lv_aload_n hx hb dL_law_1662 rfl (lv_at hl 1 rfl) ?_
  refine lv_iload hx hb dL_law_1663 (lv_at hl 6 rfl) ?_
  refine lv_iconst (v := 2) hx hb dL_law_1665 (by decide) ?_
  refine lv_iadd hx hb dL_law_1666 ?_
  refine lm_sld hx hb hX hbl hS hi2 hv2 dL_law_1667 ?_
  refine lv_aload_n hx hb dL_law_1668 rfl (lv_at hl 1 rfl) ?_
  refine lv_iload hx hb dL_law_1669 (lv_at hl 6 rfl) ?_
  refine lv_iconst (v := 3) hx hb dL_law_1671 (by decide) ?_
  refine lv_iadd hx hb dL_law_1672 ?_
  refine lm_sld hx hb hX hbl hS hi3 hv3 dL_law_1673 ?_
  have hz : s.heap.size ≤ H.size := hS.1
  refine lm_calli (va_runV (As := [.int p1, .int p2, .int p3]) (rest := []) ⟨hx, hb, hml, hown, hts⟩ (c_X7_bath l G (aS H Mr) Mr st g p1 p2 p3 hR hV) (cwV 3 hts gL_law_X7_bath rfl rfl rfl (by decide +kernel) ⟨Nat.le_of_ble_eq_true rfl, Nat.le_of_ble_eq_true rfl⟩) (sPreV hG hS hLS.2.1 hLS.2.2.2.2.1.2.1 hA (RS.at0 hR hLS.2.1) (r := (RX7, TX7, 7)) rfl) rfl rfl hl.1 rfl (lv_room (Nat.le_of_ble_eq_true rfl)) dL_law_1674 ⟨by show cells + 6 + 4 ≤ 845199; omega, by show slots + 36 + 22 ≤ 6560506; omega⟩) hLS.2.2.2.2.1.2.1 hS hA (fun r7 Mr1 H locs hp9 hP9 hI9 hk9 hS => ?_)
  obtain ⟨g1, hR1, ht1, hr1, hg1⟩ := hp9
  have hLS := (TwS.c hLS.sw hz hP9 hI9 hk9).sw
  refine lv_istore (lv' := [(7, .int r7), (6, .int r6), (0, .ref b), (1, .ref (ad 0 0)), (2, .ref (g.1 0 0)), (3, .ref o1), (4, .ref o2), (5, .int x5)]) hx hb dL_law_1677 hl (by decide) rfl (fun ls hl => ?_)
  refine lv_aload_n hx hb dL_law_1679 rfl (lv_at hl 4 rfl) ?_
  have hz : s.heap.size ≤ H.size := hS.1
  have hX9 : Mr1 (g.1 0 0) = some (.inr (10, [.ref (g1.1 1 0), .ref (g1.1 2 0), .int (gS (m_bath st p1 p2 p3).2.2 2), .int (gS (m_bath st p1 p2 p3).2.2 3), .int (gS (m_bath st p1 p2 p3).2.2 1), .int (gS (m_bath st p1 p2 p3).2.2 0), .int (thR g1)])) := by rw [← hg1]; exact (hR1.1 0 0 ro0).trans (congrArg some (celR_0 G (m_bath st p1 p2 p3).2.2 g1 0))
  refine lm_calli (va_runV (As := []) (rest := []) ⟨hx, hb, hml, hown, hts⟩ (c_X7_thrown l G (aS H Mr1) Mr1 hX9) (cwV 0 hts gL_law_X7_thrown rfl rfl rfl (by decide +kernel) ⟨Nat.le_of_ble_eq_true rfl, Nat.le_of_ble_eq_true rfl⟩) (sPreV hG hS hLS.2.1 hLS.2.2.2.2.1.2.1 hA (hLS.2.1 _ _ hX9) (r := (RX7, TX7, 7)) rfl) rfl rfl hl.1 rfl (lv_room (Nat.le_of_ble_eq_true rfl)) dL_law_1680 ⟨by show cells + 6 + 4 + 0 ≤ 845199; omega, by show slots + 36 + 22 + 0 ≤ 6560506; omega⟩) hLS.2.2.2.2.1.2.1 hS hA (fun r8 M9 H locs hp9 hP9 hI9 hk9 hS => ?_)
  obtain ⟨e8, hm9⟩ := hp9
  subst M9
  have hLS := (TwS.c hLS.sw hz hP9 hI9 hk9).sw
  refine lv_iload hx hb dL_law_1683 (lv_at hl 1 rfl) ?_
  refine lv_icmp_eq (tgt := 1690) hx hb dL_law_1685 (by decide) (fun c1 => ?_) (fun c1 => absurd c1 (fun z => z (by rw [e8, ht1, e6])))
  refine lv_iload hx hb dL_law_1690 (lv_at hl 1 rfl) ?_
  refine lv_if_ne (tgt := 1707) hx hb dL_law_1692 (by decide) (fun c2 => ?_) (fun c2 => ?_)
  · skip
    refine lv_goto (tgt := 2675) hx hb dL_law_1707 (by decide) ?_
    refine W.widen (k := cells + 1100) (n := slots + 4500) (by omega) (by omega) ?_
    exact kk _ H locs ls ⟨ad1, g1, Mc1, Mr1, f9, f2, hC1, hR1, (I_bath hV p1 p2 p3), ha1, hg1, hLS⟩ hS (lv_sub hl [2, 3, 4, 5, 6, 7] rfl)
  · skip
    have h0 := nI_z (le_bath st p1 p2 p3) (e6.symm.trans c2)
    refine lv_aload_n hx hb dL_law_1695 rfl (lv_at hl 5 rfl) ?_
    refine lv_iconst (v := 0) hx hb dL_law_1696 (by decide) ?_
    refine lm_lald hx hb hK 1 hLS.2.2.1 rfl (show vp_in 0 1 by unfold vp_in; decide) (hf1 h0) dL_law_1697 ?_
    refine lv_iload hx hb dL_law_1698 (lv_at hl 0 rfl) ?_
    refine lv_i2l (v := r7.toInt64) hx hb dL_law_1700 rfl ?_
    refine m_lcmp_eq (tgt := 1707) hx hb dL_law_1701 dL_law_1702 (by decide) (fun c3 => ?_) (fun c3 => ?_)
    · skip
      refine lv_goto (tgt := 2675) hx hb dL_law_1707 (by decide) ?_
      refine W.widen (k := cells + 1100) (n := slots + 4500) (by omega) (by omega) ?_
      exact kk _ H locs ls ⟨ad1, g1, Mc1, Mr1, f9, f2, hC1, hR1, (I_bath hV p1 p2 p3), ha1, hg1, hLS⟩ hS (lv_sub hl [2, 3, 4, 5, 6, 7] rfl)
    · skip
      exact absurd (by rw [hr1 h0]) c3
theorem le_error (st : St) (p0 : Int32) : (m_error st p0).1 < 100 := by
  unfold m_error
  first | exact le_0 | exact chk_le (by omega) (le_0) | exact chk_le (by omega) (chk_le (by omega) (le_0)) | exact chk_le (by omega) (chk_le (by omega) (chk_le (by omega) (le_0))) | exact chk_le (by omega) (chk_le (by omega) (chk_le (by omega) (chk_le (by omega) (le_0)))) | exact chk_le (by omega) (chk_le (by omega) (chk_le (by omega) (chk_le (by omega) (chk_le (by omega) (le_0))))) | exact chk_le (by omega) (chk_le (by omega) (chk_le (by omega) (chk_le (by omega) (chk_le (by omega) (chk_le (by omega) (le_0)))))) | exact chk_le (by omega) (chk_le (by omega) (chk_le (by omega) (chk_le (by omega) (chk_le (by omega) (chk_le (by omega) (chk_le (by omega) (le_0))))))) | exact chk_le (by omega) (chk_le (by omega) (chk_le (by omega) (chk_le (by omega) (chk_le (by omega) (chk_le (by omega) (chk_le (by omega) (chk_le (by omega) (le_0))))))))
theorem I_error {st : St} (h : Inv st) (p0 : Int32) : Inv (m_error st p0).2.2 := by
  unfold m_error
  first | exact h | exact chk_I h (fun _ => h) | exact chk_I h (fun _ => chk_I h (fun _ => h)) | exact chk_I h (fun _ => chk_I h (fun _ => chk_I h (fun _ => h))) | exact chk_I h (fun _ => chk_I h (fun _ => chk_I h (fun _ => chk_I h (fun _ => h)))) | exact chk_I h (fun _ => chk_I h (fun _ => chk_I h (fun _ => chk_I h (fun _ => chk_I h (fun _ => h))))) | exact chk_I h (fun _ => chk_I h (fun _ => chk_I h (fun _ => chk_I h (fun _ => chk_I h (fun _ => chk_I h (fun _ => h)))))) | exact chk_I h (fun _ => chk_I h (fun _ => chk_I h (fun _ => chk_I h (fun _ => chk_I h (fun _ => chk_I h (fun _ => chk_I h (fun _ => h))))))) | exact chk_I h (fun _ => chk_I h (fun _ => chk_I h (fun _ => chk_I h (fun _ => chk_I h (fun _ => chk_I h (fun _ => chk_I h (fun _ => chk_I h (fun _ => h))))))))
set_option maxHeartbeats 4000000 in
set_option maxRecDepth 100000 in
theorem law_error {p : Program} {l : Launch} {e : Env} {s : State} {m : MethodId} {below : List Frame} {meth : Method} {c : Code} {Q : State → Prop} {b L : Nat} {xs : Nat → Int32} {G : mg} (C0 : TwC p l s m c b L xs G) {H : Heap} {locs : List Loc} {ls : Array Slot} {cells slots : Nat} (hcs : cells + 1100 ≤ 845199 ∧ slots + 4500 ≤ 6560506) {cw rw o1 o2 : Nat} {st : St} {x5 p1 p2 p3 p4 : Int32} (hLI : TwI G s.heap.size H cw rw o1 o2 st) (hS : va_S (aH s.heap.size) s.heap H locs) (hl : lv_has ls 9 [(0, .ref b), (1, .ref cw), (2, .ref rw), (3, .ref o1), (4, .ref o2), (5, .int x5)]) (hi1 : vp_in (x5 + 1) L) (hi2 : vp_in (x5 + 2) L) (hi3 : vp_in (x5 + 3) L) (hi4 : vp_in (x5 + 4) L) (hv1 : xs (x5 + 1).toNatClampNeg = p1) (hv2 : xs (x5 + 2).toNatClampNeg = p2) (hv3 : xs (x5 + 3).toNatClampNeg = p3) (hv4 : xs (x5 + 4).toNatClampNeg = p4)
    (kk : ∀ (st1 : St) (H1 : Heap) (locs1 : List Loc) (ls1 : Array Slot), TwI G s.heap.size H1 cw rw o1 o2 st1 → va_S (aH s.heap.size) s.heap H1 locs1 → lv_has ls1 9 [(0, .ref b), (1, .ref cw), (2, .ref rw), (3, .ref o1), (4, .ref o2), (5, .int x5)] → W p l e room_1 s m #[Value.ref b] below meth c H1 locs1 (cells + 1100) (slots + 4500) Q (F0 m 2675 ls1 [])) : W p l e room_1 s m #[Value.ref b] below meth c H locs cells slots Q (F0 m 1710 ls []) := by
  obtain ⟨hx, hb, hml, hown, hts, hX, hbl, hG, hl9⟩ := C0
  obtain ⟨ad, g, Mc, Mr, f1, f2, hC, hR, hV, rfl, rfl, hLS⟩ := hLI
  have hA : ∀ q : Nat, s.heap.size ≤ q → aH s.heap.size q := fun _ h => h
  have hK := hG.K
  refine lv_aload_n hx hb dL_law_1710 rfl (lv_at hl 1 rfl) ?_
  refine lv_aload_n hx hb dL_law_1711 rfl (lv_at hl 0 rfl) ?_
  refine lv_iload hx hb dL_law_1712 (lv_at hl 5 rfl) ?_
  refine lv_iconst (v := 1) hx hb dL_law_1714 (by decide) ?_
  refine lv_iadd hx hb dL_law_1715 ?_
  refine lm_sld hx hb hX hbl hS hi1 hv1 dL_law_1716 ?_
  refine lv_aload_n hx hb dL_law_1717 rfl (lv_at hl 3 rfl) ?_
  have hLo := hLS
  have hz : s.heap.size ≤ H.size := hS.1
  have hPM : mP G.1 (mu Mc o1 (.inl (G.2.1 1, 1, .inr (.inl f1)))) H := mP_o hLo.1 hLo.2.2.1
  have hIM : mI (aH s.heap.size) (mu Mc o1 (.inl (G.2.1 1, 1, .inr (.inl f1)))) := mI.mu hLo.2.2.2.2.1.1 hLo.2.2.2.2.1.2.2.1
  refine ls_calli (vx_runSX (As := [.ref (ad 0 0), .int p1, .ref o1]) (rest := []) ⟨hx, hb, hml, hown, hts⟩ (c_L_error l G (aS H (mu Mc o1 (.inl (G.2.1 1, 1, .inr (.inl f1))))) Mc hl9 st ad p1 o1 hLo.2.2.2.2.2.2.1 hC hV) (vx_cwSW 3 hts gL_law_L_error rfl rfl rfl (by decide +kernel) ⟨Nat.le_of_ble_eq_true rfl, Nat.le_of_ble_eq_true rfl⟩) (sPreS hG hS hPM hIM hA) rfl rfl hl.1 rfl (lv_room (Nat.le_of_ble_eq_true rfl)) dL_law_1718 ⟨by show cells + 2 ≤ 845199; omega, by show slots + 12 ≤ 6560506; omega⟩) hIM hS hA (fun r6 M9 H locs hp9 hP9 hI9 hk9 hS => ?_)
  obtain ⟨ad1, Mc1, f9, e6, hn9, rfl, hC1, ha1, hf1⟩ := hp9
  have hLS := TwS.c1 hLo hz hP9 hn9 hI9 hk9
  refine lv_istore (lv' := [(6, .int r6), (0, .ref b), (1, .ref (ad 0 0)), (2, .ref (g.1 0 0)), (3, .ref o1), (4, .ref o2), (5, .int x5)]) hx hb dL_law_1721 hl (by decide) rfl (fun ls hl => ?_)
  refine lv_aload_n hx hb dL_law_1723 rfl (lv_at hl 3 rfl) ?_
  refine lv_aload_n hx hb dL_law_1724 rfl (lv_at hl 1 rfl) ?_
  refine lv_iload hx hb dL_law_1725 (lv_at hl 6 rfl) ?_
  refine lv_iconst (v := 1) hx hb dL_law_1727 (by decide) ?_
  refine lv_iadd hx hb dL_law_1728 ?_
  refine lm_sld hx hb hX hbl hS hi1 hv1 dL_law_1729 ?_
  have hz : s.heap.size ≤ H.size := hS.1
  refine lm_calli (va_runV (As := [.int p1]) (rest := []) ⟨hx, hb, hml, hown, hts⟩ (c_X7_error l G (aS H Mr) Mr st g p1 hR hV) (cwV 1 hts gL_law_X7_error rfl rfl rfl (by decide +kernel) ⟨Nat.le_of_ble_eq_true rfl, Nat.le_of_ble_eq_true rfl⟩) (sPreV hG hS hLS.2.1 hLS.2.2.2.2.1.2.1 hA (RS.at0 hR hLS.2.1) (r := (RX7, TX7, 7)) rfl) rfl rfl hl.1 rfl (lv_room (Nat.le_of_ble_eq_true rfl)) dL_law_1730 ⟨by show cells + 2 + 0 ≤ 845199; omega, by show slots + 12 + 0 ≤ 6560506; omega⟩) hLS.2.2.2.2.1.2.1 hS hA (fun r7 Mr1 H locs hp9 hP9 hI9 hk9 hS => ?_)
  obtain ⟨g1, hR1, ht1, hr1, hg1⟩ := hp9
  have hLS := (TwS.c hLS.sw hz hP9 hI9 hk9).sw
  refine lv_istore (lv' := [(7, .int r7), (6, .int r6), (0, .ref b), (1, .ref (ad 0 0)), (2, .ref (g.1 0 0)), (3, .ref o1), (4, .ref o2), (5, .int x5)]) hx hb dL_law_1733 hl (by decide) rfl (fun ls hl => ?_)
  refine lv_aload_n hx hb dL_law_1735 rfl (lv_at hl 4 rfl) ?_
  have hz : s.heap.size ≤ H.size := hS.1
  have hX9 : Mr1 (g.1 0 0) = some (.inr (10, [.ref (g1.1 1 0), .ref (g1.1 2 0), .int (gS (m_error st p1).2.2 2), .int (gS (m_error st p1).2.2 3), .int (gS (m_error st p1).2.2 1), .int (gS (m_error st p1).2.2 0), .int (thR g1)])) := by rw [← hg1]; exact (hR1.1 0 0 ro0).trans (congrArg some (celR_0 G (m_error st p1).2.2 g1 0))
  refine lm_calli (va_runV (As := []) (rest := []) ⟨hx, hb, hml, hown, hts⟩ (c_X7_thrown l G (aS H Mr1) Mr1 hX9) (cwV 0 hts gL_law_X7_thrown rfl rfl rfl (by decide +kernel) ⟨Nat.le_of_ble_eq_true rfl, Nat.le_of_ble_eq_true rfl⟩) (sPreV hG hS hLS.2.1 hLS.2.2.2.2.1.2.1 hA (hLS.2.1 _ _ hX9) (r := (RX7, TX7, 7)) rfl) rfl rfl hl.1 rfl (lv_room (Nat.le_of_ble_eq_true rfl)) dL_law_1736 ⟨by show cells + 2 + 0 + 0 ≤ 845199; omega, by show slots + 12 + 0 + 0 ≤ 6560506; omega⟩) hLS.2.2.2.2.1.2.1 hS hA (fun r8 M9 H locs hp9 hP9 hI9 hk9 hS => ?_)
  obtain ⟨e8, hm9⟩ := hp9
  subst M9
  have hLS := (TwS.c hLS.sw hz hP9 hI9 hk9).sw
  refine lv_iload hx hb dL_law_1739 (lv_at hl 1 rfl) ?_
  refine lv_icmp_eq (tgt := 1746) hx hb dL_law_1741 (by decide) (fun c1 => ?_) (fun c1 => absurd c1 (fun z => z (by rw [e8, ht1, e6])))
  refine lv_iload hx hb dL_law_1746 (lv_at hl 1 rfl) ?_
  refine lv_if_ne (tgt := 1763) hx hb dL_law_1748 (by decide) (fun c2 => ?_) (fun c2 => ?_)
  · skip
    refine lv_goto (tgt := 2675) hx hb dL_law_1763 (by decide) ?_
    refine W.widen (k := cells + 1100) (n := slots + 4500) (by omega) (by omega) ?_
    exact kk _ H locs ls ⟨ad1, g1, Mc1, Mr1, f9, f2, hC1, hR1, (I_error hV p1), ha1, hg1, hLS⟩ hS (lv_sub hl [2, 3, 4, 5, 6, 7] rfl)
  · skip
    have h0 := nI_z (le_error st p1) (e6.symm.trans c2)
    refine lv_aload_n hx hb dL_law_1751 rfl (lv_at hl 5 rfl) ?_
    refine lv_iconst (v := 0) hx hb dL_law_1752 (by decide) ?_
    refine lm_lald hx hb hK 1 hLS.2.2.1 rfl (show vp_in 0 1 by unfold vp_in; decide) (hf1 h0) dL_law_1753 ?_
    refine lv_iload hx hb dL_law_1754 (lv_at hl 0 rfl) ?_
    refine lv_i2l (v := r7.toInt64) hx hb dL_law_1756 rfl ?_
    refine m_lcmp_eq (tgt := 1763) hx hb dL_law_1757 dL_law_1758 (by decide) (fun c3 => ?_) (fun c3 => ?_)
    · skip
      refine lv_goto (tgt := 2675) hx hb dL_law_1763 (by decide) ?_
      refine W.widen (k := cells + 1100) (n := slots + 4500) (by omega) (by omega) ?_
      exact kk _ H locs ls ⟨ad1, g1, Mc1, Mr1, f9, f2, hC1, hR1, (I_error hV p1), ha1, hg1, hLS⟩ hS (lv_sub hl [2, 3, 4, 5, 6, 7] rfl)
    · skip
      exact absurd (by rw [hr1 h0]) c3
theorem le_tests (st : St) (p0 : Int32) : (m_tests st p0).1 < 100 := by
  unfold m_tests
  first | exact le_0 | exact chk_le (by omega) (le_0) | exact chk_le (by omega) (chk_le (by omega) (le_0)) | exact chk_le (by omega) (chk_le (by omega) (chk_le (by omega) (le_0))) | exact chk_le (by omega) (chk_le (by omega) (chk_le (by omega) (chk_le (by omega) (le_0)))) | exact chk_le (by omega) (chk_le (by omega) (chk_le (by omega) (chk_le (by omega) (chk_le (by omega) (le_0))))) | exact chk_le (by omega) (chk_le (by omega) (chk_le (by omega) (chk_le (by omega) (chk_le (by omega) (chk_le (by omega) (le_0)))))) | exact chk_le (by omega) (chk_le (by omega) (chk_le (by omega) (chk_le (by omega) (chk_le (by omega) (chk_le (by omega) (chk_le (by omega) (le_0))))))) | exact chk_le (by omega) (chk_le (by omega) (chk_le (by omega) (chk_le (by omega) (chk_le (by omega) (chk_le (by omega) (chk_le (by omega) (chk_le (by omega) (le_0))))))))
theorem I_tests {st : St} (h : Inv st) (p0 : Int32) : Inv (m_tests st p0).2.2 := by
  unfold m_tests
  first | exact h | exact chk_I h (fun _ => h) | exact chk_I h (fun _ => chk_I h (fun _ => h)) | exact chk_I h (fun _ => chk_I h (fun _ => chk_I h (fun _ => h))) | exact chk_I h (fun _ => chk_I h (fun _ => chk_I h (fun _ => chk_I h (fun _ => h)))) | exact chk_I h (fun _ => chk_I h (fun _ => chk_I h (fun _ => chk_I h (fun _ => chk_I h (fun _ => h))))) | exact chk_I h (fun _ => chk_I h (fun _ => chk_I h (fun _ => chk_I h (fun _ => chk_I h (fun _ => chk_I h (fun _ => h)))))) | exact chk_I h (fun _ => chk_I h (fun _ => chk_I h (fun _ => chk_I h (fun _ => chk_I h (fun _ => chk_I h (fun _ => chk_I h (fun _ => h))))))) | exact chk_I h (fun _ => chk_I h (fun _ => chk_I h (fun _ => chk_I h (fun _ => chk_I h (fun _ => chk_I h (fun _ => chk_I h (fun _ => chk_I h (fun _ => h))))))))
set_option maxHeartbeats 4000000 in
set_option maxRecDepth 100000 in
theorem law_tests {p : Program} {l : Launch} {e : Env} {s : State} {m : MethodId} {below : List Frame} {meth : Method} {c : Code} {Q : State → Prop} {b L : Nat} {xs : Nat → Int32} {G : mg} (C0 : TwC p l s m c b L xs G) {H : Heap} {locs : List Loc} {ls : Array Slot} {cells slots : Nat} (hcs : cells + 1100 ≤ 845199 ∧ slots + 4500 ≤ 6560506) {cw rw o1 o2 : Nat} {st : St} {x5 p1 p2 p3 p4 : Int32} (hLI : TwI G s.heap.size H cw rw o1 o2 st) (hS : va_S (aH s.heap.size) s.heap H locs) (hl : lv_has ls 9 [(0, .ref b), (1, .ref cw), (2, .ref rw), (3, .ref o1), (4, .ref o2), (5, .int x5)]) (hi1 : vp_in (x5 + 1) L) (hi2 : vp_in (x5 + 2) L) (hi3 : vp_in (x5 + 3) L) (hi4 : vp_in (x5 + 4) L) (hv1 : xs (x5 + 1).toNatClampNeg = p1) (hv2 : xs (x5 + 2).toNatClampNeg = p2) (hv3 : xs (x5 + 3).toNatClampNeg = p3) (hv4 : xs (x5 + 4).toNatClampNeg = p4)
    (kk : ∀ (st1 : St) (H1 : Heap) (locs1 : List Loc) (ls1 : Array Slot), TwI G s.heap.size H1 cw rw o1 o2 st1 → va_S (aH s.heap.size) s.heap H1 locs1 → lv_has ls1 9 [(0, .ref b), (1, .ref cw), (2, .ref rw), (3, .ref o1), (4, .ref o2), (5, .int x5)] → W p l e room_1 s m #[Value.ref b] below meth c H1 locs1 (cells + 1100) (slots + 4500) Q (F0 m 2675 ls1 [])) : W p l e room_1 s m #[Value.ref b] below meth c H locs cells slots Q (F0 m 1766 ls []) := by
  obtain ⟨hx, hb, hml, hown, hts, hX, hbl, hG, hl9⟩ := C0
  obtain ⟨ad, g, Mc, Mr, f1, f2, hC, hR, hV, rfl, rfl, hLS⟩ := hLI
  have hA : ∀ q : Nat, s.heap.size ≤ q → aH s.heap.size q := fun _ h => h
  have hK := hG.K
  refine lv_aload_n hx hb dL_law_1766 rfl (lv_at hl 1 rfl) ?_
  refine lv_aload_n hx hb dL_law_1767 rfl (lv_at hl 0 rfl) ?_
  refine lv_iload hx hb dL_law_1768 (lv_at hl 5 rfl) ?_
  refine lv_iconst (v := 1) hx hb dL_law_1770 (by decide) ?_
  refine lv_iadd hx hb dL_law_1771 ?_
  refine lm_sld hx hb hX hbl hS hi1 hv1 dL_law_1772 ?_
  refine lv_aload_n hx hb dL_law_1773 rfl (lv_at hl 3 rfl) ?_
  have hLo := hLS
  have hz : s.heap.size ≤ H.size := hS.1
  have hPM : mP G.1 (mu Mc o1 (.inl (G.2.1 1, 1, .inr (.inl f1)))) H := mP_o hLo.1 hLo.2.2.1
  have hIM : mI (aH s.heap.size) (mu Mc o1 (.inl (G.2.1 1, 1, .inr (.inl f1)))) := mI.mu hLo.2.2.2.2.1.1 hLo.2.2.2.2.1.2.2.1
  refine ls_calli (vx_runSX (As := [.ref (ad 0 0), .int p1, .ref o1]) (rest := []) ⟨hx, hb, hml, hown, hts⟩ (c_L_tests l G (aS H (mu Mc o1 (.inl (G.2.1 1, 1, .inr (.inl f1))))) Mc hl9 st ad p1 o1 hLo.2.2.2.2.2.2.1 hC hV) (vx_cwSW 3 hts gL_law_L_tests rfl rfl rfl (by decide +kernel) ⟨Nat.le_of_ble_eq_true rfl, Nat.le_of_ble_eq_true rfl⟩) (sPreS hG hS hPM hIM hA) rfl rfl hl.1 rfl (lv_room (Nat.le_of_ble_eq_true rfl)) dL_law_1774 ⟨by show cells + 1 ≤ 845199; omega, by show slots + 6 ≤ 6560506; omega⟩) hIM hS hA (fun r6 M9 H locs hp9 hP9 hI9 hk9 hS => ?_)
  obtain ⟨ad1, Mc1, f9, e6, hn9, rfl, hC1, ha1, hf1⟩ := hp9
  have hLS := TwS.c1 hLo hz hP9 hn9 hI9 hk9
  refine lv_istore (lv' := [(6, .int r6), (0, .ref b), (1, .ref (ad 0 0)), (2, .ref (g.1 0 0)), (3, .ref o1), (4, .ref o2), (5, .int x5)]) hx hb dL_law_1777 hl (by decide) rfl (fun ls hl => ?_)
  refine lv_aload_n hx hb dL_law_1779 rfl (lv_at hl 3 rfl) ?_
  refine lv_aload_n hx hb dL_law_1780 rfl (lv_at hl 1 rfl) ?_
  refine lv_iload hx hb dL_law_1781 (lv_at hl 6 rfl) ?_
  refine lv_iconst (v := 1) hx hb dL_law_1783 (by decide) ?_
  refine lv_iadd hx hb dL_law_1784 ?_
  refine lm_sld hx hb hX hbl hS hi1 hv1 dL_law_1785 ?_
  have hz : s.heap.size ≤ H.size := hS.1
  refine lm_calli (va_runV (As := [.int p1]) (rest := []) ⟨hx, hb, hml, hown, hts⟩ (c_X7_tests l G (aS H Mr) Mr st g p1 hR hV) (cwV 1 hts gL_law_X7_tests rfl rfl rfl (by decide +kernel) ⟨Nat.le_of_ble_eq_true rfl, Nat.le_of_ble_eq_true rfl⟩) (sPreV hG hS hLS.2.1 hLS.2.2.2.2.1.2.1 hA (RS.at0 hR hLS.2.1) (r := (RX7, TX7, 7)) rfl) rfl rfl hl.1 rfl (lv_room (Nat.le_of_ble_eq_true rfl)) dL_law_1786 ⟨by show cells + 1 + 0 ≤ 845199; omega, by show slots + 6 + 0 ≤ 6560506; omega⟩) hLS.2.2.2.2.1.2.1 hS hA (fun r7 Mr1 H locs hp9 hP9 hI9 hk9 hS => ?_)
  obtain ⟨g1, hR1, ht1, hr1, hg1⟩ := hp9
  have hLS := (TwS.c hLS.sw hz hP9 hI9 hk9).sw
  refine lv_istore (lv' := [(7, .int r7), (6, .int r6), (0, .ref b), (1, .ref (ad 0 0)), (2, .ref (g.1 0 0)), (3, .ref o1), (4, .ref o2), (5, .int x5)]) hx hb dL_law_1789 hl (by decide) rfl (fun ls hl => ?_)
  refine lv_aload_n hx hb dL_law_1791 rfl (lv_at hl 4 rfl) ?_
  have hz : s.heap.size ≤ H.size := hS.1
  have hX9 : Mr1 (g.1 0 0) = some (.inr (10, [.ref (g1.1 1 0), .ref (g1.1 2 0), .int (gS (m_tests st p1).2.2 2), .int (gS (m_tests st p1).2.2 3), .int (gS (m_tests st p1).2.2 1), .int (gS (m_tests st p1).2.2 0), .int (thR g1)])) := by rw [← hg1]; exact (hR1.1 0 0 ro0).trans (congrArg some (celR_0 G (m_tests st p1).2.2 g1 0))
  refine lm_calli (va_runV (As := []) (rest := []) ⟨hx, hb, hml, hown, hts⟩ (c_X7_thrown l G (aS H Mr1) Mr1 hX9) (cwV 0 hts gL_law_X7_thrown rfl rfl rfl (by decide +kernel) ⟨Nat.le_of_ble_eq_true rfl, Nat.le_of_ble_eq_true rfl⟩) (sPreV hG hS hLS.2.1 hLS.2.2.2.2.1.2.1 hA (hLS.2.1 _ _ hX9) (r := (RX7, TX7, 7)) rfl) rfl rfl hl.1 rfl (lv_room (Nat.le_of_ble_eq_true rfl)) dL_law_1792 ⟨by show cells + 1 + 0 + 0 ≤ 845199; omega, by show slots + 6 + 0 + 0 ≤ 6560506; omega⟩) hLS.2.2.2.2.1.2.1 hS hA (fun r8 M9 H locs hp9 hP9 hI9 hk9 hS => ?_)
  obtain ⟨e8, hm9⟩ := hp9
  subst M9
  have hLS := (TwS.c hLS.sw hz hP9 hI9 hk9).sw
  refine lv_iload hx hb dL_law_1795 (lv_at hl 1 rfl) ?_
  refine lv_icmp_eq (tgt := 1802) hx hb dL_law_1797 (by decide) (fun c1 => ?_) (fun c1 => absurd c1 (fun z => z (by rw [e8, ht1, e6])))
  refine lv_iload hx hb dL_law_1802 (lv_at hl 1 rfl) ?_
  refine lv_if_ne (tgt := 1819) hx hb dL_law_1804 (by decide) (fun c2 => ?_) (fun c2 => ?_)
  · skip
    refine lv_goto (tgt := 2675) hx hb dL_law_1819 (by decide) ?_
    refine W.widen (k := cells + 1100) (n := slots + 4500) (by omega) (by omega) ?_
    exact kk _ H locs ls ⟨ad1, g1, Mc1, Mr1, f9, f2, hC1, hR1, (I_tests hV p1), ha1, hg1, hLS⟩ hS (lv_sub hl [2, 3, 4, 5, 6, 7] rfl)
  · skip
    have h0 := nI_z (le_tests st p1) (e6.symm.trans c2)
    refine lv_aload_n hx hb dL_law_1807 rfl (lv_at hl 5 rfl) ?_
    refine lv_iconst (v := 0) hx hb dL_law_1808 (by decide) ?_
    refine lm_lald hx hb hK 1 hLS.2.2.1 rfl (show vp_in 0 1 by unfold vp_in; decide) (hf1 h0) dL_law_1809 ?_
    refine lv_iload hx hb dL_law_1810 (lv_at hl 0 rfl) ?_
    refine lv_i2l (v := r7.toInt64) hx hb dL_law_1812 rfl ?_
    refine m_lcmp_eq (tgt := 1819) hx hb dL_law_1813 dL_law_1814 (by decide) (fun c3 => ?_) (fun c3 => ?_)
    · skip
      refine lv_goto (tgt := 2675) hx hb dL_law_1819 (by decide) ?_
      refine W.widen (k := cells + 1100) (n := slots + 4500) (by omega) (by omega) ?_
      exact kk _ H locs ls ⟨ad1, g1, Mc1, Mr1, f9, f2, hC1, hR1, (I_tests hV p1), ha1, hg1, hLS⟩ hS (lv_sub hl [2, 3, 4, 5, 6, 7] rfl)
    · skip
      exact absurd (by rw [hr1 h0]) c3
theorem le_begin (st : St) (p0 : Int32) : (m_begin st p0).1 < 100 := by
  unfold m_begin
  first | exact le_0 | exact chk_le (by omega) (le_0) | exact chk_le (by omega) (chk_le (by omega) (le_0)) | exact chk_le (by omega) (chk_le (by omega) (chk_le (by omega) (le_0))) | exact chk_le (by omega) (chk_le (by omega) (chk_le (by omega) (chk_le (by omega) (le_0)))) | exact chk_le (by omega) (chk_le (by omega) (chk_le (by omega) (chk_le (by omega) (chk_le (by omega) (le_0))))) | exact chk_le (by omega) (chk_le (by omega) (chk_le (by omega) (chk_le (by omega) (chk_le (by omega) (chk_le (by omega) (le_0)))))) | exact chk_le (by omega) (chk_le (by omega) (chk_le (by omega) (chk_le (by omega) (chk_le (by omega) (chk_le (by omega) (chk_le (by omega) (le_0))))))) | exact chk_le (by omega) (chk_le (by omega) (chk_le (by omega) (chk_le (by omega) (chk_le (by omega) (chk_le (by omega) (chk_le (by omega) (chk_le (by omega) (le_0))))))))
set_option maxHeartbeats 4000000 in
set_option maxRecDepth 100000 in
theorem law_begin {p : Program} {l : Launch} {e : Env} {s : State} {m : MethodId} {below : List Frame} {meth : Method} {c : Code} {Q : State → Prop} {b L : Nat} {xs : Nat → Int32} {G : mg} (C0 : TwC p l s m c b L xs G) {H : Heap} {locs : List Loc} {ls : Array Slot} {cells slots : Nat} (hcs : cells + 1100 ≤ 845199 ∧ slots + 4500 ≤ 6560506) {cw rw o1 o2 : Nat} {st : St} {x5 p1 p2 p3 p4 : Int32} (hLI : TwI G s.heap.size H cw rw o1 o2 st) (hS : va_S (aH s.heap.size) s.heap H locs) (hl : lv_has ls 9 [(0, .ref b), (1, .ref cw), (2, .ref rw), (3, .ref o1), (4, .ref o2), (5, .int x5)]) (hi1 : vp_in (x5 + 1) L) (hi2 : vp_in (x5 + 2) L) (hi3 : vp_in (x5 + 3) L) (hi4 : vp_in (x5 + 4) L) (hv1 : xs (x5 + 1).toNatClampNeg = p1) (hv2 : xs (x5 + 2).toNatClampNeg = p2) (hv3 : xs (x5 + 3).toNatClampNeg = p3) (hv4 : xs (x5 + 4).toNatClampNeg = p4)
    (kk : ∀ (st1 : St) (H1 : Heap) (locs1 : List Loc) (ls1 : Array Slot), TwI G s.heap.size H1 cw rw o1 o2 st1 → va_S (aH s.heap.size) s.heap H1 locs1 → lv_has ls1 9 [(0, .ref b), (1, .ref cw), (2, .ref rw), (3, .ref o1), (4, .ref o2), (5, .int x5)] → W p l e room_1 s m #[Value.ref b] below meth c H1 locs1 (cells + 1100) (slots + 4500) Q (F0 m 2675 ls1 [])) : W p l e room_1 s m #[Value.ref b] below meth c H locs cells slots Q (F0 m 1822 ls []) := by
  obtain ⟨hx, hb, hml, hown, hts, hX, hbl, hG, hl9⟩ := C0
  obtain ⟨ad, g, Mc, Mr, f1, f2, hC, hR, hV, rfl, rfl, hLS⟩ := hLI
  have hA : ∀ q : Nat, s.heap.size ≤ q → aH s.heap.size q := fun _ h => h
  have hK := hG.K
  refine lv_aload_n hx hb dL_law_1822 rfl (lv_at hl 1 rfl) ?_
  refine lv_aload_n hx hb dL_law_1823 rfl (lv_at hl 0 rfl) ?_
  refine lv_iload hx hb dL_law_1824 (lv_at hl 5 rfl) ?_
  refine lv_iconst (v := 1) hx hb dL_law_1826 (by decide) ?_
  refine lv_iadd hx hb dL_law_1827 ?_
  refine lm_sld hx hb hX hbl hS hi1 hv1 dL_law_1828 ?_
  refine lv_aload_n hx hb dL_law_1829 rfl (lv_at hl 3 rfl) ?_
  have hLo := hLS
  have hz : s.heap.size ≤ H.size := hS.1
  have hPM : mP G.1 (mu Mc o1 (.inl (G.2.1 1, 1, .inr (.inl f1)))) H := mP_o hLo.1 hLo.2.2.1
  have hIM : mI (aH s.heap.size) (mu Mc o1 (.inl (G.2.1 1, 1, .inr (.inl f1)))) := mI.mu hLo.2.2.2.2.1.1 hLo.2.2.2.2.1.2.2.1
  refine ls_calli (vx_runSX (As := [.ref (ad 0 0), .int p1, .ref o1]) (rest := []) ⟨hx, hb, hml, hown, hts⟩ (c_L_begin l G (aS H (mu Mc o1 (.inl (G.2.1 1, 1, .inr (.inl f1))))) Mc hl9 st ad p1 o1 hLo.2.2.2.2.2.2.1 hC hV) (vx_cwSW 3 hts gL_law_L_begin rfl rfl rfl (by decide +kernel) ⟨Nat.le_of_ble_eq_true rfl, Nat.le_of_ble_eq_true rfl⟩) (sPreS hG hS hPM hIM hA) rfl rfl hl.1 rfl (lv_room (Nat.le_of_ble_eq_true rfl)) dL_law_1830 ⟨by show cells + 1 ≤ 845199; omega, by show slots + 6 ≤ 6560506; omega⟩) hIM hS hA (fun r6 M9 H locs hp9 hP9 hI9 hk9 hS => ?_)
  obtain ⟨ad1, Mc1, f9, e6, hn9, rfl, hC1, ha1, hf1⟩ := hp9
  have hLS := TwS.c1 hLo hz hP9 hn9 hI9 hk9
  refine lv_istore (lv' := [(6, .int r6), (0, .ref b), (1, .ref (ad 0 0)), (2, .ref (g.1 0 0)), (3, .ref o1), (4, .ref o2), (5, .int x5)]) hx hb dL_law_1833 hl (by decide) rfl (fun ls hl => ?_)
  refine lv_aload_n hx hb dL_law_1835 rfl (lv_at hl 3 rfl) ?_
  refine lv_aload_n hx hb dL_law_1836 rfl (lv_at hl 1 rfl) ?_
  refine lv_iload hx hb dL_law_1837 (lv_at hl 6 rfl) ?_
  refine lv_iconst (v := 1) hx hb dL_law_1839 (by decide) ?_
  refine lv_iadd hx hb dL_law_1840 ?_
  refine lm_sld hx hb hX hbl hS hi1 hv1 dL_law_1841 ?_
  have hz : s.heap.size ≤ H.size := hS.1
  refine lm_calli (va_runV (As := [.int p1]) (rest := []) ⟨hx, hb, hml, hown, hts⟩ (c_X7_begin l G (aS H Mr) Mr st g p1 hR hV) (cwV 1 hts gL_law_X7_begin rfl rfl rfl (by decide +kernel) ⟨Nat.le_of_ble_eq_true rfl, Nat.le_of_ble_eq_true rfl⟩) (sPreV hG hS hLS.2.1 hLS.2.2.2.2.1.2.1 hA (RS.at0 hR hLS.2.1) (r := (RX7, TX7, 7)) rfl) rfl rfl hl.1 rfl (lv_room (Nat.le_of_ble_eq_true rfl)) dL_law_1842 ⟨by show cells + 1 + 0 ≤ 845199; omega, by show slots + 6 + 0 ≤ 6560506; omega⟩) hLS.2.2.2.2.1.2.1 hS hA (fun r7 Mr1 H locs hp9 hP9 hI9 hk9 hS => ?_)
  obtain ⟨g1, hR1, ht1, hr1, hg1⟩ := hp9
  have hLS := (TwS.c hLS.sw hz hP9 hI9 hk9).sw
  refine lv_istore (lv' := [(7, .int r7), (6, .int r6), (0, .ref b), (1, .ref (ad 0 0)), (2, .ref (g.1 0 0)), (3, .ref o1), (4, .ref o2), (5, .int x5)]) hx hb dL_law_1845 hl (by decide) rfl (fun ls hl => ?_)
  refine lv_aload_n hx hb dL_law_1847 rfl (lv_at hl 4 rfl) ?_
  have hz : s.heap.size ≤ H.size := hS.1
  have hX9 : Mr1 (g.1 0 0) = some (.inr (10, [.ref (g1.1 1 0), .ref (g1.1 2 0), .int (gS (m_begin st p1).2.2 2), .int (gS (m_begin st p1).2.2 3), .int (gS (m_begin st p1).2.2 1), .int (gS (m_begin st p1).2.2 0), .int (thR g1)])) := by rw [← hg1]; exact (hR1.1 0 0 ro0).trans (congrArg some (celR_0 G (m_begin st p1).2.2 g1 0))
  refine lm_calli (va_runV (As := []) (rest := []) ⟨hx, hb, hml, hown, hts⟩ (c_X7_thrown l G (aS H Mr1) Mr1 hX9) (cwV 0 hts gL_law_X7_thrown rfl rfl rfl (by decide +kernel) ⟨Nat.le_of_ble_eq_true rfl, Nat.le_of_ble_eq_true rfl⟩) (sPreV hG hS hLS.2.1 hLS.2.2.2.2.1.2.1 hA (hLS.2.1 _ _ hX9) (r := (RX7, TX7, 7)) rfl) rfl rfl hl.1 rfl (lv_room (Nat.le_of_ble_eq_true rfl)) dL_law_1848 ⟨by show cells + 1 + 0 + 0 ≤ 845199; omega, by show slots + 6 + 0 + 0 ≤ 6560506; omega⟩) hLS.2.2.2.2.1.2.1 hS hA (fun r8 M9 H locs hp9 hP9 hI9 hk9 hS => ?_)
  obtain ⟨e8, hm9⟩ := hp9
  subst M9
  have hLS := (TwS.c hLS.sw hz hP9 hI9 hk9).sw
  refine lv_iload hx hb dL_law_1851 (lv_at hl 1 rfl) ?_
  refine lv_icmp_eq (tgt := 1858) hx hb dL_law_1853 (by decide) (fun c1 => ?_) (fun c1 => absurd c1 (fun z => z (by rw [e8, ht1, e6])))
  refine lv_iload hx hb dL_law_1858 (lv_at hl 1 rfl) ?_
  refine lv_if_ne (tgt := 1875) hx hb dL_law_1860 (by decide) (fun c2 => ?_) (fun c2 => ?_)
  · skip
    refine lv_goto (tgt := 2675) hx hb dL_law_1875 (by decide) ?_
    refine W.widen (k := cells + 1100) (n := slots + 4500) (by omega) (by omega) ?_
    exact kk _ H locs ls ⟨ad1, g1, Mc1, Mr1, f9, f2, hC1, hR1, (I_begin hV p1), ha1, hg1, hLS⟩ hS (lv_sub hl [2, 3, 4, 5, 6, 7] rfl)
  · skip
    have h0 := nI_z (le_begin st p1) (e6.symm.trans c2)
    refine lv_aload_n hx hb dL_law_1863 rfl (lv_at hl 5 rfl) ?_
    refine lv_iconst (v := 0) hx hb dL_law_1864 (by decide) ?_
    refine lm_lald hx hb hK 1 hLS.2.2.1 rfl (show vp_in 0 1 by unfold vp_in; decide) (hf1 h0) dL_law_1865 ?_
    refine lv_iload hx hb dL_law_1866 (lv_at hl 0 rfl) ?_
    refine lv_i2l (v := r7.toInt64) hx hb dL_law_1868 rfl ?_
    refine m_lcmp_eq (tgt := 1875) hx hb dL_law_1869 dL_law_1870 (by decide) (fun c3 => ?_) (fun c3 => ?_)
    · skip
      refine lv_goto (tgt := 2675) hx hb dL_law_1875 (by decide) ?_
      refine W.widen (k := cells + 1100) (n := slots + 4500) (by omega) (by omega) ?_
      exact kk _ H locs ls ⟨ad1, g1, Mc1, Mr1, f9, f2, hC1, hR1, (I_begin hV p1), ha1, hg1, hLS⟩ hS (lv_sub hl [2, 3, 4, 5, 6, 7] rfl)
    · skip
      exact absurd (by rw [hr1 h0]) c3
theorem le_worst (st : St) (p0 : Int32) : (m_worst st p0).1 < 100 := by
  unfold m_worst
  first | exact le_0 | exact chk_le (by omega) (le_0) | exact chk_le (by omega) (chk_le (by omega) (le_0)) | exact chk_le (by omega) (chk_le (by omega) (chk_le (by omega) (le_0))) | exact chk_le (by omega) (chk_le (by omega) (chk_le (by omega) (chk_le (by omega) (le_0)))) | exact chk_le (by omega) (chk_le (by omega) (chk_le (by omega) (chk_le (by omega) (chk_le (by omega) (le_0))))) | exact chk_le (by omega) (chk_le (by omega) (chk_le (by omega) (chk_le (by omega) (chk_le (by omega) (chk_le (by omega) (le_0)))))) | exact chk_le (by omega) (chk_le (by omega) (chk_le (by omega) (chk_le (by omega) (chk_le (by omega) (chk_le (by omega) (chk_le (by omega) (le_0))))))) | exact chk_le (by omega) (chk_le (by omega) (chk_le (by omega) (chk_le (by omega) (chk_le (by omega) (chk_le (by omega) (chk_le (by omega) (chk_le (by omega) (le_0))))))))
theorem I_worst {st : St} (h : Inv st) (p0 : Int32) : Inv (m_worst st p0).2.2 := by
  unfold m_worst
  first | exact h | exact chk_I h (fun _ => h) | exact chk_I h (fun _ => chk_I h (fun _ => h)) | exact chk_I h (fun _ => chk_I h (fun _ => chk_I h (fun _ => h))) | exact chk_I h (fun _ => chk_I h (fun _ => chk_I h (fun _ => chk_I h (fun _ => h)))) | exact chk_I h (fun _ => chk_I h (fun _ => chk_I h (fun _ => chk_I h (fun _ => chk_I h (fun _ => h))))) | exact chk_I h (fun _ => chk_I h (fun _ => chk_I h (fun _ => chk_I h (fun _ => chk_I h (fun _ => chk_I h (fun _ => h)))))) | exact chk_I h (fun _ => chk_I h (fun _ => chk_I h (fun _ => chk_I h (fun _ => chk_I h (fun _ => chk_I h (fun _ => chk_I h (fun _ => h))))))) | exact chk_I h (fun _ => chk_I h (fun _ => chk_I h (fun _ => chk_I h (fun _ => chk_I h (fun _ => chk_I h (fun _ => chk_I h (fun _ => chk_I h (fun _ => h))))))))
set_option maxHeartbeats 4000000 in
set_option maxRecDepth 100000 in
theorem law_worst {p : Program} {l : Launch} {e : Env} {s : State} {m : MethodId} {below : List Frame} {meth : Method} {c : Code} {Q : State → Prop} {b L : Nat} {xs : Nat → Int32} {G : mg} (C0 : TwC p l s m c b L xs G) {H : Heap} {locs : List Loc} {ls : Array Slot} {cells slots : Nat} (hcs : cells + 1100 ≤ 845199 ∧ slots + 4500 ≤ 6560506) {cw rw o1 o2 : Nat} {st : St} {x5 p1 p2 p3 p4 : Int32} (hLI : TwI G s.heap.size H cw rw o1 o2 st) (hS : va_S (aH s.heap.size) s.heap H locs) (hl : lv_has ls 9 [(0, .ref b), (1, .ref cw), (2, .ref rw), (3, .ref o1), (4, .ref o2), (5, .int x5)]) (hi1 : vp_in (x5 + 1) L) (hi2 : vp_in (x5 + 2) L) (hi3 : vp_in (x5 + 3) L) (hi4 : vp_in (x5 + 4) L) (hv1 : xs (x5 + 1).toNatClampNeg = p1) (hv2 : xs (x5 + 2).toNatClampNeg = p2) (hv3 : xs (x5 + 3).toNatClampNeg = p3) (hv4 : xs (x5 + 4).toNatClampNeg = p4)
    (kk : ∀ (st1 : St) (H1 : Heap) (locs1 : List Loc) (ls1 : Array Slot), TwI G s.heap.size H1 cw rw o1 o2 st1 → va_S (aH s.heap.size) s.heap H1 locs1 → lv_has ls1 9 [(0, .ref b), (1, .ref cw), (2, .ref rw), (3, .ref o1), (4, .ref o2), (5, .int x5)] → W p l e room_1 s m #[Value.ref b] below meth c H1 locs1 (cells + 1100) (slots + 4500) Q (F0 m 2675 ls1 [])) : W p l e room_1 s m #[Value.ref b] below meth c H locs cells slots Q (F0 m 1878 ls []) := by
  obtain ⟨hx, hb, hml, hown, hts, hX, hbl, hG, hl9⟩ := C0
  obtain ⟨ad, g, Mc, Mr, f1, f2, hC, hR, hV, rfl, rfl, hLS⟩ := hLI
  have hA : ∀ q : Nat, s.heap.size ≤ q → aH s.heap.size q := fun _ h => h
  have hK := hG.K
  refine lv_aload_n hx hb dL_law_1878 rfl (lv_at hl 1 rfl) ?_
  refine lv_aload_n hx hb dL_law_1879 rfl (lv_at hl 0 rfl) ?_
  refine lv_iload hx hb dL_law_1880 (lv_at hl 5 rfl) ?_
  refine lv_iconst (v := 1) hx hb dL_law_1882 (by decide) ?_
  refine lv_iadd hx hb dL_law_1883 ?_
  refine lm_sld hx hb hX hbl hS hi1 hv1 dL_law_1884 ?_
  refine lv_aload_n hx hb dL_law_1885 rfl (lv_at hl 3 rfl) ?_
  have hLo := hLS
  have hz : s.heap.size ≤ H.size := hS.1
  have hPM : mP G.1 (mu Mc o1 (.inl (G.2.1 1, 1, .inr (.inl f1)))) H := mP_o hLo.1 hLo.2.2.1
  have hIM : mI (aH s.heap.size) (mu Mc o1 (.inl (G.2.1 1, 1, .inr (.inl f1)))) := mI.mu hLo.2.2.2.2.1.1 hLo.2.2.2.2.1.2.2.1
  refine ls_calli (vx_runSX (As := [.ref (ad 0 0), .int p1, .ref o1]) (rest := []) ⟨hx, hb, hml, hown, hts⟩ (c_L_worst l G (aS H (mu Mc o1 (.inl (G.2.1 1, 1, .inr (.inl f1))))) Mc hl9 st ad p1 o1 hLo.2.2.2.2.2.2.1 hC hV) (vx_cwSW 3 hts gL_law_L_worst rfl rfl rfl (by decide +kernel) ⟨Nat.le_of_ble_eq_true rfl, Nat.le_of_ble_eq_true rfl⟩) (sPreS hG hS hPM hIM hA) rfl rfl hl.1 rfl (lv_room (Nat.le_of_ble_eq_true rfl)) dL_law_1886 ⟨by show cells + 2 ≤ 845199; omega, by show slots + 12 ≤ 6560506; omega⟩) hIM hS hA (fun r6 M9 H locs hp9 hP9 hI9 hk9 hS => ?_)
  obtain ⟨ad1, Mc1, f9, e6, hn9, rfl, hC1, ha1, hf1⟩ := hp9
  have hLS := TwS.c1 hLo hz hP9 hn9 hI9 hk9
  refine lv_istore (lv' := [(6, .int r6), (0, .ref b), (1, .ref (ad 0 0)), (2, .ref (g.1 0 0)), (3, .ref o1), (4, .ref o2), (5, .int x5)]) hx hb dL_law_1889 hl (by decide) rfl (fun ls hl => ?_)
  refine lv_aload_n hx hb dL_law_1891 rfl (lv_at hl 3 rfl) ?_
  refine lv_aload_n hx hb dL_law_1892 rfl (lv_at hl 1 rfl) ?_
  refine lv_iload hx hb dL_law_1893 (lv_at hl 6 rfl) ?_
  refine lv_iconst (v := 1) hx hb dL_law_1895 (by decide) ?_
  refine lv_iadd hx hb dL_law_1896 ?_
  refine lm_sld hx hb hX hbl hS hi1 hv1 dL_law_1897 ?_
  have hz : s.heap.size ≤ H.size := hS.1
  refine lm_calli (va_runV (As := [.int p1]) (rest := []) ⟨hx, hb, hml, hown, hts⟩ (c_X7_worst l G (aS H Mr) Mr st g p1 hR hV) (cwV 1 hts gL_law_X7_worst rfl rfl rfl (by decide +kernel) ⟨Nat.le_of_ble_eq_true rfl, Nat.le_of_ble_eq_true rfl⟩) (sPreV hG hS hLS.2.1 hLS.2.2.2.2.1.2.1 hA (RS.at0 hR hLS.2.1) (r := (RX7, TX7, 7)) rfl) rfl rfl hl.1 rfl (lv_room (Nat.le_of_ble_eq_true rfl)) dL_law_1898 ⟨by show cells + 2 + 0 ≤ 845199; omega, by show slots + 12 + 0 ≤ 6560506; omega⟩) hLS.2.2.2.2.1.2.1 hS hA (fun r7 Mr1 H locs hp9 hP9 hI9 hk9 hS => ?_)
  obtain ⟨g1, hR1, ht1, hr1, hg1⟩ := hp9
  have hLS := (TwS.c hLS.sw hz hP9 hI9 hk9).sw
  refine lv_istore (lv' := [(7, .int r7), (6, .int r6), (0, .ref b), (1, .ref (ad 0 0)), (2, .ref (g.1 0 0)), (3, .ref o1), (4, .ref o2), (5, .int x5)]) hx hb dL_law_1901 hl (by decide) rfl (fun ls hl => ?_)
  refine lv_aload_n hx hb dL_law_1903 rfl (lv_at hl 4 rfl) ?_
  have hz : s.heap.size ≤ H.size := hS.1
  have hX9 : Mr1 (g.1 0 0) = some (.inr (10, [.ref (g1.1 1 0), .ref (g1.1 2 0), .int (gS (m_worst st p1).2.2 2), .int (gS (m_worst st p1).2.2 3), .int (gS (m_worst st p1).2.2 1), .int (gS (m_worst st p1).2.2 0), .int (thR g1)])) := by rw [← hg1]; exact (hR1.1 0 0 ro0).trans (congrArg some (celR_0 G (m_worst st p1).2.2 g1 0))
  refine lm_calli (va_runV (As := []) (rest := []) ⟨hx, hb, hml, hown, hts⟩ (c_X7_thrown l G (aS H Mr1) Mr1 hX9) (cwV 0 hts gL_law_X7_thrown rfl rfl rfl (by decide +kernel) ⟨Nat.le_of_ble_eq_true rfl, Nat.le_of_ble_eq_true rfl⟩) (sPreV hG hS hLS.2.1 hLS.2.2.2.2.1.2.1 hA (hLS.2.1 _ _ hX9) (r := (RX7, TX7, 7)) rfl) rfl rfl hl.1 rfl (lv_room (Nat.le_of_ble_eq_true rfl)) dL_law_1904 ⟨by show cells + 2 + 0 + 0 ≤ 845199; omega, by show slots + 12 + 0 + 0 ≤ 6560506; omega⟩) hLS.2.2.2.2.1.2.1 hS hA (fun r8 M9 H locs hp9 hP9 hI9 hk9 hS => ?_)
  obtain ⟨e8, hm9⟩ := hp9
  subst M9
  have hLS := (TwS.c hLS.sw hz hP9 hI9 hk9).sw
  refine lv_iload hx hb dL_law_1907 (lv_at hl 1 rfl) ?_
  refine lv_icmp_eq (tgt := 1914) hx hb dL_law_1909 (by decide) (fun c1 => ?_) (fun c1 => absurd c1 (fun z => z (by rw [e8, ht1, e6])))
  refine lv_iload hx hb dL_law_1914 (lv_at hl 1 rfl) ?_
  refine lv_if_ne (tgt := 1931) hx hb dL_law_1916 (by decide) (fun c2 => ?_) (fun c2 => ?_)
  · skip
    refine lv_goto (tgt := 2675) hx hb dL_law_1931 (by decide) ?_
    refine W.widen (k := cells + 1100) (n := slots + 4500) (by omega) (by omega) ?_
    exact kk _ H locs ls ⟨ad1, g1, Mc1, Mr1, f9, f2, hC1, hR1, (I_worst hV p1), ha1, hg1, hLS⟩ hS (lv_sub hl [2, 3, 4, 5, 6, 7] rfl)
  · skip
    have h0 := nI_z (le_worst st p1) (e6.symm.trans c2)
    refine lv_aload_n hx hb dL_law_1919 rfl (lv_at hl 5 rfl) ?_
    refine lv_iconst (v := 0) hx hb dL_law_1920 (by decide) ?_
    refine lm_lald hx hb hK 1 hLS.2.2.1 rfl (show vp_in 0 1 by unfold vp_in; decide) (hf1 h0) dL_law_1921 ?_
    refine lv_iload hx hb dL_law_1922 (lv_at hl 0 rfl) ?_
    refine lv_i2l (v := r7.toInt64) hx hb dL_law_1924 rfl ?_
    refine m_lcmp_eq (tgt := 1931) hx hb dL_law_1925 dL_law_1926 (by decide) (fun c3 => ?_) (fun c3 => ?_)
    · skip
      refine lv_goto (tgt := 2675) hx hb dL_law_1931 (by decide) ?_
      refine W.widen (k := cells + 1100) (n := slots + 4500) (by omega) (by omega) ?_
      exact kk _ H locs ls ⟨ad1, g1, Mc1, Mr1, f9, f2, hC1, hR1, (I_worst hV p1), ha1, hg1, hLS⟩ hS (lv_sub hl [2, 3, 4, 5, 6, 7] rfl)
    · skip
      exact absurd (by rw [hr1 h0]) c3
theorem le_grade (st : St) (p0 : Int32) : (m_grade st p0).1 < 100 := by
  unfold m_grade
  first | exact le_0 | exact chk_le (by omega) (le_0) | exact chk_le (by omega) (chk_le (by omega) (le_0)) | exact chk_le (by omega) (chk_le (by omega) (chk_le (by omega) (le_0))) | exact chk_le (by omega) (chk_le (by omega) (chk_le (by omega) (chk_le (by omega) (le_0)))) | exact chk_le (by omega) (chk_le (by omega) (chk_le (by omega) (chk_le (by omega) (chk_le (by omega) (le_0))))) | exact chk_le (by omega) (chk_le (by omega) (chk_le (by omega) (chk_le (by omega) (chk_le (by omega) (chk_le (by omega) (le_0)))))) | exact chk_le (by omega) (chk_le (by omega) (chk_le (by omega) (chk_le (by omega) (chk_le (by omega) (chk_le (by omega) (chk_le (by omega) (le_0))))))) | exact chk_le (by omega) (chk_le (by omega) (chk_le (by omega) (chk_le (by omega) (chk_le (by omega) (chk_le (by omega) (chk_le (by omega) (chk_le (by omega) (le_0))))))))
theorem I_grade {st : St} (h : Inv st) (p0 : Int32) : Inv (m_grade st p0).2.2 := by
  unfold m_grade
  first | exact h | exact chk_I h (fun _ => h) | exact chk_I h (fun _ => chk_I h (fun _ => h)) | exact chk_I h (fun _ => chk_I h (fun _ => chk_I h (fun _ => h))) | exact chk_I h (fun _ => chk_I h (fun _ => chk_I h (fun _ => chk_I h (fun _ => h)))) | exact chk_I h (fun _ => chk_I h (fun _ => chk_I h (fun _ => chk_I h (fun _ => chk_I h (fun _ => h))))) | exact chk_I h (fun _ => chk_I h (fun _ => chk_I h (fun _ => chk_I h (fun _ => chk_I h (fun _ => chk_I h (fun _ => h)))))) | exact chk_I h (fun _ => chk_I h (fun _ => chk_I h (fun _ => chk_I h (fun _ => chk_I h (fun _ => chk_I h (fun _ => chk_I h (fun _ => h))))))) | exact chk_I h (fun _ => chk_I h (fun _ => chk_I h (fun _ => chk_I h (fun _ => chk_I h (fun _ => chk_I h (fun _ => chk_I h (fun _ => chk_I h (fun _ => h))))))))
set_option maxHeartbeats 4000000 in
set_option maxRecDepth 100000 in
theorem law_grade {p : Program} {l : Launch} {e : Env} {s : State} {m : MethodId} {below : List Frame} {meth : Method} {c : Code} {Q : State → Prop} {b L : Nat} {xs : Nat → Int32} {G : mg} (C0 : TwC p l s m c b L xs G) {H : Heap} {locs : List Loc} {ls : Array Slot} {cells slots : Nat} (hcs : cells + 1100 ≤ 845199 ∧ slots + 4500 ≤ 6560506) {cw rw o1 o2 : Nat} {st : St} {x5 p1 p2 p3 p4 : Int32} (hLI : TwI G s.heap.size H cw rw o1 o2 st) (hS : va_S (aH s.heap.size) s.heap H locs) (hl : lv_has ls 9 [(0, .ref b), (1, .ref cw), (2, .ref rw), (3, .ref o1), (4, .ref o2), (5, .int x5)]) (hi1 : vp_in (x5 + 1) L) (hi2 : vp_in (x5 + 2) L) (hi3 : vp_in (x5 + 3) L) (hi4 : vp_in (x5 + 4) L) (hv1 : xs (x5 + 1).toNatClampNeg = p1) (hv2 : xs (x5 + 2).toNatClampNeg = p2) (hv3 : xs (x5 + 3).toNatClampNeg = p3) (hv4 : xs (x5 + 4).toNatClampNeg = p4)
    (kk : ∀ (st1 : St) (H1 : Heap) (locs1 : List Loc) (ls1 : Array Slot), TwI G s.heap.size H1 cw rw o1 o2 st1 → va_S (aH s.heap.size) s.heap H1 locs1 → lv_has ls1 9 [(0, .ref b), (1, .ref cw), (2, .ref rw), (3, .ref o1), (4, .ref o2), (5, .int x5)] → W p l e room_1 s m #[Value.ref b] below meth c H1 locs1 (cells + 1100) (slots + 4500) Q (F0 m 2675 ls1 [])) : W p l e room_1 s m #[Value.ref b] below meth c H locs cells slots Q (F0 m 1934 ls []) := by
  obtain ⟨hx, hb, hml, hown, hts, hX, hbl, hG, hl9⟩ := C0
  obtain ⟨ad, g, Mc, Mr, f1, f2, hC, hR, hV, rfl, rfl, hLS⟩ := hLI
  have hA : ∀ q : Nat, s.heap.size ≤ q → aH s.heap.size q := fun _ h => h
  have hK := hG.K
  refine lv_aload_n hx hb dL_law_1934 rfl (lv_at hl 1 rfl) ?_
  refine lv_aload_n hx hb dL_law_1935 rfl (lv_at hl 0 rfl) ?_
  refine lv_iload hx hb dL_law_1936 (lv_at hl 5 rfl) ?_
  refine lv_iconst (v := 1) hx hb dL_law_1938 (by decide) ?_
  refine lv_iadd hx hb dL_law_1939 ?_
  refine lm_sld hx hb hX hbl hS hi1 hv1 dL_law_1940 ?_
  refine lv_aload_n hx hb dL_law_1941 rfl (lv_at hl 3 rfl) ?_
  have hLo := hLS
  have hz : s.heap.size ≤ H.size := hS.1
  have hPM : mP G.1 (mu Mc o1 (.inl (G.2.1 1, 1, .inr (.inl f1)))) H := mP_o hLo.1 hLo.2.2.1
  have hIM : mI (aH s.heap.size) (mu Mc o1 (.inl (G.2.1 1, 1, .inr (.inl f1)))) := mI.mu hLo.2.2.2.2.1.1 hLo.2.2.2.2.1.2.2.1
  refine ls_calli (vx_runSX (As := [.ref (ad 0 0), .int p1, .ref o1]) (rest := []) ⟨hx, hb, hml, hown, hts⟩ (c_L_grade l G (aS H (mu Mc o1 (.inl (G.2.1 1, 1, .inr (.inl f1))))) Mc hl9 st ad p1 o1 hLo.2.2.2.2.2.2.1 hC hV) (vx_cwSW 3 hts gL_law_L_grade rfl rfl rfl (by decide +kernel) ⟨Nat.le_of_ble_eq_true rfl, Nat.le_of_ble_eq_true rfl⟩) (sPreS hG hS hPM hIM hA) rfl rfl hl.1 rfl (lv_room (Nat.le_of_ble_eq_true rfl)) dL_law_1942 ⟨by show cells + 2 ≤ 845199; omega, by show slots + 12 ≤ 6560506; omega⟩) hIM hS hA (fun r6 M9 H locs hp9 hP9 hI9 hk9 hS => ?_)
  obtain ⟨ad1, Mc1, f9, e6, hn9, rfl, hC1, ha1, hf1⟩ := hp9
  have hLS := TwS.c1 hLo hz hP9 hn9 hI9 hk9
  refine lv_istore (lv' := [(6, .int r6), (0, .ref b), (1, .ref (ad 0 0)), (2, .ref (g.1 0 0)), (3, .ref o1), (4, .ref o2), (5, .int x5)]) hx hb dL_law_1945 hl (by decide) rfl (fun ls hl => ?_)
  refine lv_aload_n hx hb dL_law_1947 rfl (lv_at hl 3 rfl) ?_
  refine lv_aload_n hx hb dL_law_1948 rfl (lv_at hl 1 rfl) ?_
  refine lv_iload hx hb dL_law_1949 (lv_at hl 6 rfl) ?_
  refine lv_iconst (v := 1) hx hb dL_law_1951 (by decide) ?_
  refine lv_iadd hx hb dL_law_1952 ?_
  refine lm_sld hx hb hX hbl hS hi1 hv1 dL_law_1953 ?_
  have hz : s.heap.size ≤ H.size := hS.1
  refine lm_calli (va_runV (As := [.int p1]) (rest := []) ⟨hx, hb, hml, hown, hts⟩ (c_X7_grade l G (aS H Mr) Mr st g p1 hR hV) (cwV 1 hts gL_law_X7_grade rfl rfl rfl (by decide +kernel) ⟨Nat.le_of_ble_eq_true rfl, Nat.le_of_ble_eq_true rfl⟩) (sPreV hG hS hLS.2.1 hLS.2.2.2.2.1.2.1 hA (RS.at0 hR hLS.2.1) (r := (RX7, TX7, 7)) rfl) rfl rfl hl.1 rfl (lv_room (Nat.le_of_ble_eq_true rfl)) dL_law_1954 ⟨by show cells + 2 + 0 ≤ 845199; omega, by show slots + 12 + 0 ≤ 6560506; omega⟩) hLS.2.2.2.2.1.2.1 hS hA (fun r7 Mr1 H locs hp9 hP9 hI9 hk9 hS => ?_)
  obtain ⟨g1, hR1, ht1, hr1, hg1⟩ := hp9
  have hLS := (TwS.c hLS.sw hz hP9 hI9 hk9).sw
  refine lv_istore (lv' := [(7, .int r7), (6, .int r6), (0, .ref b), (1, .ref (ad 0 0)), (2, .ref (g.1 0 0)), (3, .ref o1), (4, .ref o2), (5, .int x5)]) hx hb dL_law_1957 hl (by decide) rfl (fun ls hl => ?_)
  refine lv_aload_n hx hb dL_law_1959 rfl (lv_at hl 4 rfl) ?_
  have hz : s.heap.size ≤ H.size := hS.1
  have hX9 : Mr1 (g.1 0 0) = some (.inr (10, [.ref (g1.1 1 0), .ref (g1.1 2 0), .int (gS (m_grade st p1).2.2 2), .int (gS (m_grade st p1).2.2 3), .int (gS (m_grade st p1).2.2 1), .int (gS (m_grade st p1).2.2 0), .int (thR g1)])) := by rw [← hg1]; exact (hR1.1 0 0 ro0).trans (congrArg some (celR_0 G (m_grade st p1).2.2 g1 0))
  refine lm_calli (va_runV (As := []) (rest := []) ⟨hx, hb, hml, hown, hts⟩ (c_X7_thrown l G (aS H Mr1) Mr1 hX9) (cwV 0 hts gL_law_X7_thrown rfl rfl rfl (by decide +kernel) ⟨Nat.le_of_ble_eq_true rfl, Nat.le_of_ble_eq_true rfl⟩) (sPreV hG hS hLS.2.1 hLS.2.2.2.2.1.2.1 hA (hLS.2.1 _ _ hX9) (r := (RX7, TX7, 7)) rfl) rfl rfl hl.1 rfl (lv_room (Nat.le_of_ble_eq_true rfl)) dL_law_1960 ⟨by show cells + 2 + 0 + 0 ≤ 845199; omega, by show slots + 12 + 0 + 0 ≤ 6560506; omega⟩) hLS.2.2.2.2.1.2.1 hS hA (fun r8 M9 H locs hp9 hP9 hI9 hk9 hS => ?_)
  obtain ⟨e8, hm9⟩ := hp9
  subst M9
  have hLS := (TwS.c hLS.sw hz hP9 hI9 hk9).sw
  refine lv_iload hx hb dL_law_1963 (lv_at hl 1 rfl) ?_
  refine lv_icmp_eq (tgt := 1970) hx hb dL_law_1965 (by decide) (fun c1 => ?_) (fun c1 => absurd c1 (fun z => z (by rw [e8, ht1, e6])))
  refine lv_iload hx hb dL_law_1970 (lv_at hl 1 rfl) ?_
  refine lv_if_ne (tgt := 1987) hx hb dL_law_1972 (by decide) (fun c2 => ?_) (fun c2 => ?_)
  · skip
    refine lv_goto (tgt := 2675) hx hb dL_law_1987 (by decide) ?_
    refine W.widen (k := cells + 1100) (n := slots + 4500) (by omega) (by omega) ?_
    exact kk _ H locs ls ⟨ad1, g1, Mc1, Mr1, f9, f2, hC1, hR1, (I_grade hV p1), ha1, hg1, hLS⟩ hS (lv_sub hl [2, 3, 4, 5, 6, 7] rfl)
  · skip
    have h0 := nI_z (le_grade st p1) (e6.symm.trans c2)
    refine lv_aload_n hx hb dL_law_1975 rfl (lv_at hl 5 rfl) ?_
    refine lv_iconst (v := 0) hx hb dL_law_1976 (by decide) ?_
    refine lm_lald hx hb hK 1 hLS.2.2.1 rfl (show vp_in 0 1 by unfold vp_in; decide) (hf1 h0) dL_law_1977 ?_
    refine lv_iload hx hb dL_law_1978 (lv_at hl 0 rfl) ?_
    refine lv_i2l (v := r7.toInt64) hx hb dL_law_1980 rfl ?_
    refine m_lcmp_eq (tgt := 1987) hx hb dL_law_1981 dL_law_1982 (by decide) (fun c3 => ?_) (fun c3 => ?_)
    · skip
      refine lv_goto (tgt := 2675) hx hb dL_law_1987 (by decide) ?_
      refine W.widen (k := cells + 1100) (n := slots + 4500) (by omega) (by omega) ?_
      exact kk _ H locs ls ⟨ad1, g1, Mc1, Mr1, f9, f2, hC1, hR1, (I_grade hV p1), ha1, hg1, hLS⟩ hS (lv_sub hl [2, 3, 4, 5, 6, 7] rfl)
    · skip
      exact absurd (by rw [hr1 h0]) c3
theorem le_certify (st : St) (p0 : Int32) : (m_certify st p0).1 < 100 := by
  unfold m_certify
  first | exact le_0 | exact chk_le (by omega) (le_0) | exact chk_le (by omega) (chk_le (by omega) (le_0)) | exact chk_le (by omega) (chk_le (by omega) (chk_le (by omega) (le_0))) | exact chk_le (by omega) (chk_le (by omega) (chk_le (by omega) (chk_le (by omega) (le_0)))) | exact chk_le (by omega) (chk_le (by omega) (chk_le (by omega) (chk_le (by omega) (chk_le (by omega) (le_0))))) | exact chk_le (by omega) (chk_le (by omega) (chk_le (by omega) (chk_le (by omega) (chk_le (by omega) (chk_le (by omega) (le_0)))))) | exact chk_le (by omega) (chk_le (by omega) (chk_le (by omega) (chk_le (by omega) (chk_le (by omega) (chk_le (by omega) (chk_le (by omega) (le_0))))))) | exact chk_le (by omega) (chk_le (by omega) (chk_le (by omega) (chk_le (by omega) (chk_le (by omega) (chk_le (by omega) (chk_le (by omega) (chk_le (by omega) (le_0))))))))
set_option maxHeartbeats 4000000 in
set_option maxRecDepth 100000 in
theorem law_certify {p : Program} {l : Launch} {e : Env} {s : State} {m : MethodId} {below : List Frame} {meth : Method} {c : Code} {Q : State → Prop} {b L : Nat} {xs : Nat → Int32} {G : mg} (C0 : TwC p l s m c b L xs G) {H : Heap} {locs : List Loc} {ls : Array Slot} {cells slots : Nat} (hcs : cells + 1100 ≤ 845199 ∧ slots + 4500 ≤ 6560506) {cw rw o1 o2 : Nat} {st : St} {x5 p1 p2 p3 p4 : Int32} (hLI : TwI G s.heap.size H cw rw o1 o2 st) (hS : va_S (aH s.heap.size) s.heap H locs) (hl : lv_has ls 9 [(0, .ref b), (1, .ref cw), (2, .ref rw), (3, .ref o1), (4, .ref o2), (5, .int x5)]) (hi1 : vp_in (x5 + 1) L) (hi2 : vp_in (x5 + 2) L) (hi3 : vp_in (x5 + 3) L) (hi4 : vp_in (x5 + 4) L) (hv1 : xs (x5 + 1).toNatClampNeg = p1) (hv2 : xs (x5 + 2).toNatClampNeg = p2) (hv3 : xs (x5 + 3).toNatClampNeg = p3) (hv4 : xs (x5 + 4).toNatClampNeg = p4)
    (kk : ∀ (st1 : St) (H1 : Heap) (locs1 : List Loc) (ls1 : Array Slot), TwI G s.heap.size H1 cw rw o1 o2 st1 → va_S (aH s.heap.size) s.heap H1 locs1 → lv_has ls1 9 [(0, .ref b), (1, .ref cw), (2, .ref rw), (3, .ref o1), (4, .ref o2), (5, .int x5)] → W p l e room_1 s m #[Value.ref b] below meth c H1 locs1 (cells + 1100) (slots + 4500) Q (F0 m 2675 ls1 [])) : W p l e room_1 s m #[Value.ref b] below meth c H locs cells slots Q (F0 m 1990 ls []) := by
  obtain ⟨hx, hb, hml, hown, hts, hX, hbl, hG, hl9⟩ := C0
  obtain ⟨ad, g, Mc, Mr, f1, f2, hC, hR, hV, rfl, rfl, hLS⟩ := hLI
  have hA : ∀ q : Nat, s.heap.size ≤ q → aH s.heap.size q := fun _ h => h
  have hK := hG.K
  refine lv_aload_n hx hb dL_law_1990 rfl (lv_at hl 1 rfl) ?_
  refine lv_aload_n hx hb dL_law_1991 rfl (lv_at hl 0 rfl) ?_
  refine lv_iload hx hb dL_law_1992 (lv_at hl 5 rfl) ?_
  refine lv_iconst (v := 1) hx hb dL_law_1994 (by decide) ?_
  refine lv_iadd hx hb dL_law_1995 ?_
  refine lm_sld hx hb hX hbl hS hi1 hv1 dL_law_1996 ?_
  refine lv_aload_n hx hb dL_law_1997 rfl (lv_at hl 3 rfl) ?_
  have hLo := hLS
  have hz : s.heap.size ≤ H.size := hS.1
  have hPM : mP G.1 (mu Mc o1 (.inl (G.2.1 1, 1, .inr (.inl f1)))) H := mP_o hLo.1 hLo.2.2.1
  have hIM : mI (aH s.heap.size) (mu Mc o1 (.inl (G.2.1 1, 1, .inr (.inl f1)))) := mI.mu hLo.2.2.2.2.1.1 hLo.2.2.2.2.1.2.2.1
  refine ls_calli (vx_runSX (As := [.ref (ad 0 0), .int p1, .ref o1]) (rest := []) ⟨hx, hb, hml, hown, hts⟩ (c_L_certify l G (aS H (mu Mc o1 (.inl (G.2.1 1, 1, .inr (.inl f1))))) Mc hl9 st ad p1 o1 hLo.2.2.2.2.2.2.1 hC hV) (vx_cwSW 3 hts gL_law_L_certify rfl rfl rfl (by decide +kernel) ⟨Nat.le_of_ble_eq_true rfl, Nat.le_of_ble_eq_true rfl⟩) (sPreS hG hS hPM hIM hA) rfl rfl hl.1 rfl (lv_room (Nat.le_of_ble_eq_true rfl)) dL_law_1998 ⟨by show cells + 3 ≤ 845199; omega, by show slots + 18 ≤ 6560506; omega⟩) hIM hS hA (fun r6 M9 H locs hp9 hP9 hI9 hk9 hS => ?_)
  obtain ⟨ad1, Mc1, f9, e6, hn9, rfl, hC1, ha1, hf1⟩ := hp9
  have hLS := TwS.c1 hLo hz hP9 hn9 hI9 hk9
  refine lv_istore (lv' := [(6, .int r6), (0, .ref b), (1, .ref (ad 0 0)), (2, .ref (g.1 0 0)), (3, .ref o1), (4, .ref o2), (5, .int x5)]) hx hb dL_law_2001 hl (by decide) rfl (fun ls hl => ?_)
  refine lv_aload_n hx hb dL_law_2003 rfl (lv_at hl 3 rfl) ?_
  refine lv_aload_n hx hb dL_law_2004 rfl (lv_at hl 1 rfl) ?_
  refine lv_iload hx hb dL_law_2005 (lv_at hl 6 rfl) ?_
  refine lv_iconst (v := 1) hx hb dL_law_2007 (by decide) ?_
  refine lv_iadd hx hb dL_law_2008 ?_
  refine lm_sld hx hb hX hbl hS hi1 hv1 dL_law_2009 ?_
  have hz : s.heap.size ≤ H.size := hS.1
  refine lm_calli (va_runV (As := [.int p1]) (rest := []) ⟨hx, hb, hml, hown, hts⟩ (c_X7_certify l G (aS H Mr) Mr st g p1 hR hV) (cwV 1 hts gL_law_X7_certify rfl rfl rfl (by decide +kernel) ⟨Nat.le_of_ble_eq_true rfl, Nat.le_of_ble_eq_true rfl⟩) (sPreV hG hS hLS.2.1 hLS.2.2.2.2.1.2.1 hA (RS.at0 hR hLS.2.1) (r := (RX7, TX7, 7)) rfl) rfl rfl hl.1 rfl (lv_room (Nat.le_of_ble_eq_true rfl)) dL_law_2010 ⟨by show cells + 3 + 0 ≤ 845199; omega, by show slots + 18 + 0 ≤ 6560506; omega⟩) hLS.2.2.2.2.1.2.1 hS hA (fun r7 Mr1 H locs hp9 hP9 hI9 hk9 hS => ?_)
  obtain ⟨g1, hR1, ht1, hr1, hg1⟩ := hp9
  have hLS := (TwS.c hLS.sw hz hP9 hI9 hk9).sw
  refine lv_istore (lv' := [(7, .int r7), (6, .int r6), (0, .ref b), (1, .ref (ad 0 0)), (2, .ref (g.1 0 0)), (3, .ref o1), (4, .ref o2), (5, .int x5)]) hx hb dL_law_2013 hl (by decide) rfl (fun ls hl => ?_)
  refine lv_aload_n hx hb dL_law_2015 rfl (lv_at hl 4 rfl) ?_
  have hz : s.heap.size ≤ H.size := hS.1
  have hX9 : Mr1 (g.1 0 0) = some (.inr (10, [.ref (g1.1 1 0), .ref (g1.1 2 0), .int (gS (m_certify st p1).2.2 2), .int (gS (m_certify st p1).2.2 3), .int (gS (m_certify st p1).2.2 1), .int (gS (m_certify st p1).2.2 0), .int (thR g1)])) := by rw [← hg1]; exact (hR1.1 0 0 ro0).trans (congrArg some (celR_0 G (m_certify st p1).2.2 g1 0))
  refine lm_calli (va_runV (As := []) (rest := []) ⟨hx, hb, hml, hown, hts⟩ (c_X7_thrown l G (aS H Mr1) Mr1 hX9) (cwV 0 hts gL_law_X7_thrown rfl rfl rfl (by decide +kernel) ⟨Nat.le_of_ble_eq_true rfl, Nat.le_of_ble_eq_true rfl⟩) (sPreV hG hS hLS.2.1 hLS.2.2.2.2.1.2.1 hA (hLS.2.1 _ _ hX9) (r := (RX7, TX7, 7)) rfl) rfl rfl hl.1 rfl (lv_room (Nat.le_of_ble_eq_true rfl)) dL_law_2016 ⟨by show cells + 3 + 0 + 0 ≤ 845199; omega, by show slots + 18 + 0 + 0 ≤ 6560506; omega⟩) hLS.2.2.2.2.1.2.1 hS hA (fun r8 M9 H locs hp9 hP9 hI9 hk9 hS => ?_)
  obtain ⟨e8, hm9⟩ := hp9
  subst M9
  have hLS := (TwS.c hLS.sw hz hP9 hI9 hk9).sw
  refine lv_iload hx hb dL_law_2019 (lv_at hl 1 rfl) ?_
  refine lv_icmp_eq (tgt := 2026) hx hb dL_law_2021 (by decide) (fun c1 => ?_) (fun c1 => absurd c1 (fun z => z (by rw [e8, ht1, e6])))
  refine lv_iload hx hb dL_law_2026 (lv_at hl 1 rfl) ?_
  refine lv_if_ne (tgt := 2043) hx hb dL_law_2028 (by decide) (fun c2 => ?_) (fun c2 => ?_)
  · skip
    refine lv_goto (tgt := 2675) hx hb dL_law_2043 (by decide) ?_
    refine W.widen (k := cells + 1100) (n := slots + 4500) (by omega) (by omega) ?_
    exact kk _ H locs ls ⟨ad1, g1, Mc1, Mr1, f9, f2, hC1, hR1, (I_certify hV p1), ha1, hg1, hLS⟩ hS (lv_sub hl [2, 3, 4, 5, 6, 7] rfl)
  · skip
    have h0 := nI_z (le_certify st p1) (e6.symm.trans c2)
    refine lv_aload_n hx hb dL_law_2031 rfl (lv_at hl 5 rfl) ?_
    refine lv_iconst (v := 0) hx hb dL_law_2032 (by decide) ?_
    refine lm_lald hx hb hK 1 hLS.2.2.1 rfl (show vp_in 0 1 by unfold vp_in; decide) (hf1 h0) dL_law_2033 ?_
    refine lv_iload hx hb dL_law_2034 (lv_at hl 0 rfl) ?_
    refine lv_i2l (v := r7.toInt64) hx hb dL_law_2036 rfl ?_
    refine m_lcmp_eq (tgt := 2043) hx hb dL_law_2037 dL_law_2038 (by decide) (fun c3 => ?_) (fun c3 => ?_)
    · skip
      refine lv_goto (tgt := 2675) hx hb dL_law_2043 (by decide) ?_
      refine W.widen (k := cells + 1100) (n := slots + 4500) (by omega) (by omega) ?_
      exact kk _ H locs ls ⟨ad1, g1, Mc1, Mr1, f9, f2, hC1, hR1, (I_certify hV p1), ha1, hg1, hLS⟩ hS (lv_sub hl [2, 3, 4, 5, 6, 7] rfl)
    · skip
      exact absurd (by rw [hr1 h0]) c3
theorem le_isCertified (st : St) (p0 : Int32) : (m_isCertified st p0).1 < 100 := by
  unfold m_isCertified
  first | exact le_0 | exact chk_le (by omega) (le_0) | exact chk_le (by omega) (chk_le (by omega) (le_0)) | exact chk_le (by omega) (chk_le (by omega) (chk_le (by omega) (le_0))) | exact chk_le (by omega) (chk_le (by omega) (chk_le (by omega) (chk_le (by omega) (le_0)))) | exact chk_le (by omega) (chk_le (by omega) (chk_le (by omega) (chk_le (by omega) (chk_le (by omega) (le_0))))) | exact chk_le (by omega) (chk_le (by omega) (chk_le (by omega) (chk_le (by omega) (chk_le (by omega) (chk_le (by omega) (le_0)))))) | exact chk_le (by omega) (chk_le (by omega) (chk_le (by omega) (chk_le (by omega) (chk_le (by omega) (chk_le (by omega) (chk_le (by omega) (le_0))))))) | exact chk_le (by omega) (chk_le (by omega) (chk_le (by omega) (chk_le (by omega) (chk_le (by omega) (chk_le (by omega) (chk_le (by omega) (chk_le (by omega) (le_0))))))))
theorem I_isCertified {st : St} (h : Inv st) (p0 : Int32) : Inv (m_isCertified st p0).2.2 := by
  unfold m_isCertified
  first | exact h | exact chk_I h (fun _ => h) | exact chk_I h (fun _ => chk_I h (fun _ => h)) | exact chk_I h (fun _ => chk_I h (fun _ => chk_I h (fun _ => h))) | exact chk_I h (fun _ => chk_I h (fun _ => chk_I h (fun _ => chk_I h (fun _ => h)))) | exact chk_I h (fun _ => chk_I h (fun _ => chk_I h (fun _ => chk_I h (fun _ => chk_I h (fun _ => h))))) | exact chk_I h (fun _ => chk_I h (fun _ => chk_I h (fun _ => chk_I h (fun _ => chk_I h (fun _ => chk_I h (fun _ => h)))))) | exact chk_I h (fun _ => chk_I h (fun _ => chk_I h (fun _ => chk_I h (fun _ => chk_I h (fun _ => chk_I h (fun _ => chk_I h (fun _ => h))))))) | exact chk_I h (fun _ => chk_I h (fun _ => chk_I h (fun _ => chk_I h (fun _ => chk_I h (fun _ => chk_I h (fun _ => chk_I h (fun _ => chk_I h (fun _ => h))))))))
set_option maxHeartbeats 4000000 in
set_option maxRecDepth 100000 in
theorem law_isCertified {p : Program} {l : Launch} {e : Env} {s : State} {m : MethodId} {below : List Frame} {meth : Method} {c : Code} {Q : State → Prop} {b L : Nat} {xs : Nat → Int32} {G : mg} (C0 : TwC p l s m c b L xs G) {H : Heap} {locs : List Loc} {ls : Array Slot} {cells slots : Nat} (hcs : cells + 1100 ≤ 845199 ∧ slots + 4500 ≤ 6560506) {cw rw o1 o2 : Nat} {st : St} {x5 p1 p2 p3 p4 : Int32} (hLI : TwI G s.heap.size H cw rw o1 o2 st) (hS : va_S (aH s.heap.size) s.heap H locs) (hl : lv_has ls 9 [(0, .ref b), (1, .ref cw), (2, .ref rw), (3, .ref o1), (4, .ref o2), (5, .int x5)]) (hi1 : vp_in (x5 + 1) L) (hi2 : vp_in (x5 + 2) L) (hi3 : vp_in (x5 + 3) L) (hi4 : vp_in (x5 + 4) L) (hv1 : xs (x5 + 1).toNatClampNeg = p1) (hv2 : xs (x5 + 2).toNatClampNeg = p2) (hv3 : xs (x5 + 3).toNatClampNeg = p3) (hv4 : xs (x5 + 4).toNatClampNeg = p4)
    (kk : ∀ (st1 : St) (H1 : Heap) (locs1 : List Loc) (ls1 : Array Slot), TwI G s.heap.size H1 cw rw o1 o2 st1 → va_S (aH s.heap.size) s.heap H1 locs1 → lv_has ls1 9 [(0, .ref b), (1, .ref cw), (2, .ref rw), (3, .ref o1), (4, .ref o2), (5, .int x5)] → W p l e room_1 s m #[Value.ref b] below meth c H1 locs1 (cells + 1100) (slots + 4500) Q (F0 m 2675 ls1 [])) : W p l e room_1 s m #[Value.ref b] below meth c H locs cells slots Q (F0 m 2046 ls []) := by
  obtain ⟨hx, hb, hml, hown, hts, hX, hbl, hG, hl9⟩ := C0
  obtain ⟨ad, g, Mc, Mr, f1, f2, hC, hR, hV, rfl, rfl, hLS⟩ := hLI
  have hA : ∀ q : Nat, s.heap.size ≤ q → aH s.heap.size q := fun _ h => h
  have hK := hG.K
  refine lv_aload_n hx hb dL_law_2046 rfl (lv_at hl 1 rfl) ?_
  refine lv_aload_n hx hb dL_law_2047 rfl (lv_at hl 0 rfl) ?_
  refine lv_iload hx hb dL_law_2048 (lv_at hl 5 rfl) ?_
  refine lv_iconst (v := 1) hx hb dL_law_2050 (by decide) ?_
  refine lv_iadd hx hb dL_law_2051 ?_
  refine lm_sld hx hb hX hbl hS hi1 hv1 dL_law_2052 ?_
  refine lv_aload_n hx hb dL_law_2053 rfl (lv_at hl 3 rfl) ?_
  have hLo := hLS
  have hz : s.heap.size ≤ H.size := hS.1
  have hPM : mP G.1 (mu Mc o1 (.inl (G.2.1 1, 1, .inr (.inl f1)))) H := mP_o hLo.1 hLo.2.2.1
  have hIM : mI (aH s.heap.size) (mu Mc o1 (.inl (G.2.1 1, 1, .inr (.inl f1)))) := mI.mu hLo.2.2.2.2.1.1 hLo.2.2.2.2.1.2.2.1
  refine ls_calli (vx_runSX (As := [.ref (ad 0 0), .int p1, .ref o1]) (rest := []) ⟨hx, hb, hml, hown, hts⟩ (c_L_isCertified l G (aS H (mu Mc o1 (.inl (G.2.1 1, 1, .inr (.inl f1))))) Mc hl9 st ad p1 o1 hLo.2.2.2.2.2.2.1 hC hV) (vx_cwSW 3 hts gL_law_L_isCertified rfl rfl rfl (by decide +kernel) ⟨Nat.le_of_ble_eq_true rfl, Nat.le_of_ble_eq_true rfl⟩) (sPreS hG hS hPM hIM hA) rfl rfl hl.1 rfl (lv_room (Nat.le_of_ble_eq_true rfl)) dL_law_2054 ⟨by show cells + 1 ≤ 845199; omega, by show slots + 6 ≤ 6560506; omega⟩) hIM hS hA (fun r6 M9 H locs hp9 hP9 hI9 hk9 hS => ?_)
  obtain ⟨ad1, Mc1, f9, e6, hn9, rfl, hC1, ha1, hf1⟩ := hp9
  have hLS := TwS.c1 hLo hz hP9 hn9 hI9 hk9
  refine lv_istore (lv' := [(6, .int r6), (0, .ref b), (1, .ref (ad 0 0)), (2, .ref (g.1 0 0)), (3, .ref o1), (4, .ref o2), (5, .int x5)]) hx hb dL_law_2057 hl (by decide) rfl (fun ls hl => ?_)
  refine lv_aload_n hx hb dL_law_2059 rfl (lv_at hl 3 rfl) ?_
  refine lv_aload_n hx hb dL_law_2060 rfl (lv_at hl 1 rfl) ?_
  refine lv_iload hx hb dL_law_2061 (lv_at hl 6 rfl) ?_
  refine lv_iconst (v := 1) hx hb dL_law_2063 (by decide) ?_
  refine lv_iadd hx hb dL_law_2064 ?_
  refine lm_sld hx hb hX hbl hS hi1 hv1 dL_law_2065 ?_
  have hz : s.heap.size ≤ H.size := hS.1
  refine lm_calli (va_runV (As := [.int p1]) (rest := []) ⟨hx, hb, hml, hown, hts⟩ (c_X7_isCertified l G (aS H Mr) Mr st g p1 hR hV) (cwV 1 hts gL_law_X7_isCertified rfl rfl rfl (by decide +kernel) ⟨Nat.le_of_ble_eq_true rfl, Nat.le_of_ble_eq_true rfl⟩) (sPreV hG hS hLS.2.1 hLS.2.2.2.2.1.2.1 hA (RS.at0 hR hLS.2.1) (r := (RX7, TX7, 7)) rfl) rfl rfl hl.1 rfl (lv_room (Nat.le_of_ble_eq_true rfl)) dL_law_2066 ⟨by show cells + 1 + 0 ≤ 845199; omega, by show slots + 6 + 0 ≤ 6560506; omega⟩) hLS.2.2.2.2.1.2.1 hS hA (fun r7 Mr1 H locs hp9 hP9 hI9 hk9 hS => ?_)
  obtain ⟨g1, hR1, ht1, hr1, hg1⟩ := hp9
  have hLS := (TwS.c hLS.sw hz hP9 hI9 hk9).sw
  refine lv_istore (lv' := [(7, .int r7), (6, .int r6), (0, .ref b), (1, .ref (ad 0 0)), (2, .ref (g.1 0 0)), (3, .ref o1), (4, .ref o2), (5, .int x5)]) hx hb dL_law_2069 hl (by decide) rfl (fun ls hl => ?_)
  refine lv_aload_n hx hb dL_law_2071 rfl (lv_at hl 4 rfl) ?_
  have hz : s.heap.size ≤ H.size := hS.1
  have hX9 : Mr1 (g.1 0 0) = some (.inr (10, [.ref (g1.1 1 0), .ref (g1.1 2 0), .int (gS (m_isCertified st p1).2.2 2), .int (gS (m_isCertified st p1).2.2 3), .int (gS (m_isCertified st p1).2.2 1), .int (gS (m_isCertified st p1).2.2 0), .int (thR g1)])) := by rw [← hg1]; exact (hR1.1 0 0 ro0).trans (congrArg some (celR_0 G (m_isCertified st p1).2.2 g1 0))
  refine lm_calli (va_runV (As := []) (rest := []) ⟨hx, hb, hml, hown, hts⟩ (c_X7_thrown l G (aS H Mr1) Mr1 hX9) (cwV 0 hts gL_law_X7_thrown rfl rfl rfl (by decide +kernel) ⟨Nat.le_of_ble_eq_true rfl, Nat.le_of_ble_eq_true rfl⟩) (sPreV hG hS hLS.2.1 hLS.2.2.2.2.1.2.1 hA (hLS.2.1 _ _ hX9) (r := (RX7, TX7, 7)) rfl) rfl rfl hl.1 rfl (lv_room (Nat.le_of_ble_eq_true rfl)) dL_law_2072 ⟨by show cells + 1 + 0 + 0 ≤ 845199; omega, by show slots + 6 + 0 + 0 ≤ 6560506; omega⟩) hLS.2.2.2.2.1.2.1 hS hA (fun r8 M9 H locs hp9 hP9 hI9 hk9 hS => ?_)
  obtain ⟨e8, hm9⟩ := hp9
  subst M9
  have hLS := (TwS.c hLS.sw hz hP9 hI9 hk9).sw
  refine lv_iload hx hb dL_law_2075 (lv_at hl 1 rfl) ?_
  refine lv_icmp_eq (tgt := 2082) hx hb dL_law_2077 (by decide) (fun c1 => ?_) (fun c1 => absurd c1 (fun z => z (by rw [e8, ht1, e6])))
  refine lv_iload hx hb dL_law_2082 (lv_at hl 1 rfl) ?_
  refine lv_if_ne (tgt := 2106) hx hb dL_law_2084 (by decide) (fun c2 => ?_) (fun c2 => ?_)
  · skip
    refine lv_goto (tgt := 2675) hx hb dL_law_2106 (by decide) ?_
    refine W.widen (k := cells + 1100) (n := slots + 4500) (by omega) (by omega) ?_
    exact kk _ H locs ls ⟨ad1, g1, Mc1, Mr1, f9, f2, hC1, hR1, (I_isCertified hV p1), ha1, hg1, hLS⟩ hS (lv_sub hl [2, 3, 4, 5, 6, 7] rfl)
  · skip
    have h0 := nI_z (le_isCertified st p1) (e6.symm.trans c2)
    refine lv_aload_n hx hb dL_law_2087 rfl (lv_at hl 5 rfl) ?_
    refine lv_iconst (v := 0) hx hb dL_law_2088 (by decide) ?_
    refine lm_lald hx hb hK 1 hLS.2.2.1 rfl (show vp_in 0 1 by unfold vp_in; decide) (hf1 h0) dL_law_2089 ?_
    refine lv_iload hx hb dL_law_2090 (lv_at hl 0 rfl) ?_
    refine lv_if_eq (tgt := 2099) hx hb dL_law_2092 (by decide) (fun c3 => ?_) (fun c3 => ?_)
    · skip
      refine lv_lconst (v := 0) hx hb dL_law_2099 (by decide) ?_
      refine m_lcmp_eq (tgt := 2106) hx hb dL_law_2100 dL_law_2101 (by decide) (fun c4 => ?_) (fun c4 => ?_)
      · skip
        refine lv_goto (tgt := 2675) hx hb dL_law_2106 (by decide) ?_
        refine W.widen (k := cells + 1100) (n := slots + 4500) (by omega) (by omega) ?_
        exact kk _ H locs ls ⟨ad1, g1, Mc1, Mr1, f9, f2, hC1, hR1, (I_isCertified hV p1), ha1, hg1, hLS⟩ hS (lv_sub hl [2, 3, 4, 5, 6, 7] rfl)
      · skip
        exact absurd (by rw [← hr1 h0, c3]; rfl) c4
    · skip
      have h1 : r7 = 1 := (by rw [hr1 h0] at c3; exact (hr1 h0).trans ((b01_isCertified st p1).resolve_left c3))
      refine lv_lconst (v := 1) hx hb dL_law_2095 (by decide) ?_
      refine lv_goto (tgt := 2100) hx hb dL_law_2096 (by decide) ?_
      refine m_lcmp_eq (tgt := 2106) hx hb dL_law_2100 dL_law_2101 (by decide) (fun c5 => ?_) (fun c5 => ?_)
      · skip
        refine lv_goto (tgt := 2675) hx hb dL_law_2106 (by decide) ?_
        refine W.widen (k := cells + 1100) (n := slots + 4500) (by omega) (by omega) ?_
        exact kk _ H locs ls ⟨ad1, g1, Mc1, Mr1, f9, f2, hC1, hR1, (I_isCertified hV p1), ha1, hg1, hLS⟩ hS (lv_sub hl [2, 3, 4, 5, 6, 7] rfl)
      · skip
        exact absurd (by rw [← hr1 h0, h1]; rfl) c5
theorem le_breakThread (st : St) (p0 p1 : Int32) : (m_breakThread st p0 p1).1 < 100 := by
  unfold m_breakThread
  first | exact le_0 | exact chk_le (by omega) (le_0) | exact chk_le (by omega) (chk_le (by omega) (le_0)) | exact chk_le (by omega) (chk_le (by omega) (chk_le (by omega) (le_0))) | exact chk_le (by omega) (chk_le (by omega) (chk_le (by omega) (chk_le (by omega) (le_0)))) | exact chk_le (by omega) (chk_le (by omega) (chk_le (by omega) (chk_le (by omega) (chk_le (by omega) (le_0))))) | exact chk_le (by omega) (chk_le (by omega) (chk_le (by omega) (chk_le (by omega) (chk_le (by omega) (chk_le (by omega) (le_0)))))) | exact chk_le (by omega) (chk_le (by omega) (chk_le (by omega) (chk_le (by omega) (chk_le (by omega) (chk_le (by omega) (chk_le (by omega) (le_0))))))) | exact chk_le (by omega) (chk_le (by omega) (chk_le (by omega) (chk_le (by omega) (chk_le (by omega) (chk_le (by omega) (chk_le (by omega) (chk_le (by omega) (le_0))))))))
set_option maxHeartbeats 4000000 in
set_option maxRecDepth 100000 in
theorem law_breakThread {p : Program} {l : Launch} {e : Env} {s : State} {m : MethodId} {below : List Frame} {meth : Method} {c : Code} {Q : State → Prop} {b L : Nat} {xs : Nat → Int32} {G : mg} (C0 : TwC p l s m c b L xs G) {H : Heap} {locs : List Loc} {ls : Array Slot} {cells slots : Nat} (hcs : cells + 1100 ≤ 845199 ∧ slots + 4500 ≤ 6560506) {cw rw o1 o2 : Nat} {st : St} {x5 p1 p2 p3 p4 : Int32} (hLI : TwI G s.heap.size H cw rw o1 o2 st) (hS : va_S (aH s.heap.size) s.heap H locs) (hl : lv_has ls 9 [(0, .ref b), (1, .ref cw), (2, .ref rw), (3, .ref o1), (4, .ref o2), (5, .int x5)]) (hi1 : vp_in (x5 + 1) L) (hi2 : vp_in (x5 + 2) L) (hi3 : vp_in (x5 + 3) L) (hi4 : vp_in (x5 + 4) L) (hv1 : xs (x5 + 1).toNatClampNeg = p1) (hv2 : xs (x5 + 2).toNatClampNeg = p2) (hv3 : xs (x5 + 3).toNatClampNeg = p3) (hv4 : xs (x5 + 4).toNatClampNeg = p4)
    (kk : ∀ (st1 : St) (H1 : Heap) (locs1 : List Loc) (ls1 : Array Slot), TwI G s.heap.size H1 cw rw o1 o2 st1 → va_S (aH s.heap.size) s.heap H1 locs1 → lv_has ls1 9 [(0, .ref b), (1, .ref cw), (2, .ref rw), (3, .ref o1), (4, .ref o2), (5, .int x5)] → W p l e room_1 s m #[Value.ref b] below meth c H1 locs1 (cells + 1100) (slots + 4500) Q (F0 m 2675 ls1 [])) : W p l e room_1 s m #[Value.ref b] below meth c H locs cells slots Q (F0 m 2109 ls []) := by
  obtain ⟨hx, hb, hml, hown, hts, hX, hbl, hG, hl9⟩ := C0
  obtain ⟨ad, g, Mc, Mr, f1, f2, hC, hR, hV, rfl, rfl, hLS⟩ := hLI
  have hA : ∀ q : Nat, s.heap.size ≤ q → aH s.heap.size q := fun _ h => h
  have hK := hG.K
  refine lv_aload_n hx hb dL_law_2109 rfl (lv_at hl 1 rfl) ?_
  refine lv_aload_n hx hb dL_law_2110 rfl (lv_at hl 0 rfl) ?_
  refine lv_iload hx hb dL_law_2111 (lv_at hl 5 rfl) ?_
  refine lv_iconst (v := 1) hx hb dL_law_2113 (by decide) ?_
  refine lv_iadd hx hb dL_law_2114 ?_
  refine lm_sld hx hb hX hbl hS hi1 hv1 dL_law_2115 ?_
  refine lv_aload_n hx hb dL_law_2116 rfl (lv_at hl 0 rfl) ?_
  refine lv_iload hx hb dL_law_2117 (lv_at hl 5 rfl) ?_
  refine lv_iconst (v := 2) hx hb dL_law_2119 (by decide) ?_
  refine lv_iadd hx hb dL_law_2120 ?_
  refine lm_sld hx hb hX hbl hS hi2 hv2 dL_law_2121 ?_
  refine lv_aload_n hx hb dL_law_2122 rfl (lv_at hl 3 rfl) ?_
  have hLo := hLS
  have hz : s.heap.size ≤ H.size := hS.1
  have hPM : mP G.1 (mu Mc o1 (.inl (G.2.1 1, 1, .inr (.inl f1)))) H := mP_o hLo.1 hLo.2.2.1
  have hIM : mI (aH s.heap.size) (mu Mc o1 (.inl (G.2.1 1, 1, .inr (.inl f1)))) := mI.mu hLo.2.2.2.2.1.1 hLo.2.2.2.2.1.2.2.1
  refine ls_calli (vx_runSX (As := [.ref (ad 0 0), .int p1, .int p2, .ref o1]) (rest := []) ⟨hx, hb, hml, hown, hts⟩ (c_L_breakThread l G (aS H (mu Mc o1 (.inl (G.2.1 1, 1, .inr (.inl f1))))) Mc hl9 st ad p1 p2 o1 hLo.2.2.2.2.2.2.1 hC hV) (vx_cwSW 4 hts gL_law_L_breakThread rfl rfl rfl (by decide +kernel) ⟨Nat.le_of_ble_eq_true rfl, Nat.le_of_ble_eq_true rfl⟩) (sPreS hG hS hPM hIM hA) rfl rfl hl.1 rfl (lv_room (Nat.le_of_ble_eq_true rfl)) dL_law_2123 ⟨by show cells + 3 ≤ 845199; omega, by show slots + 18 ≤ 6560506; omega⟩) hIM hS hA (fun r6 M9 H locs hp9 hP9 hI9 hk9 hS => ?_)
  obtain ⟨ad1, Mc1, f9, e6, hn9, rfl, hC1, ha1, hf1⟩ := hp9
  have hLS := TwS.c1 hLo hz hP9 hn9 hI9 hk9
  refine lv_istore (lv' := [(6, .int r6), (0, .ref b), (1, .ref (ad 0 0)), (2, .ref (g.1 0 0)), (3, .ref o1), (4, .ref o2), (5, .int x5)]) hx hb dL_law_2126 hl (by decide) rfl (fun ls hl => ?_)
  refine lv_aload_n hx hb dL_law_2128 rfl (lv_at hl 3 rfl) ?_
  refine lv_aload_n hx hb dL_law_2129 rfl (lv_at hl 1 rfl) ?_
  refine lv_iload hx hb dL_law_2130 (lv_at hl 6 rfl) ?_
  refine lv_iconst (v := 1) hx hb dL_law_2132 (by decide) ?_
  refine lv_iadd hx hb dL_law_2133 ?_
  refine lm_sld hx hb hX hbl hS hi1 hv1 dL_law_2134 ?_
  refine lv_aload_n hx hb dL_law_2135 rfl (lv_at hl 1 rfl) ?_
  refine lv_iload hx hb dL_law_2136 (lv_at hl 6 rfl) ?_
  refine lv_iconst (v := 2) hx hb dL_law_2138 (by decide) ?_
  refine lv_iadd hx hb dL_law_2139 ?_
  refine lm_sld hx hb hX hbl hS hi2 hv2 dL_law_2140 ?_
  have hz : s.heap.size ≤ H.size := hS.1
  refine lm_calli (va_runV (As := [.int p1, .int p2]) (rest := []) ⟨hx, hb, hml, hown, hts⟩ (c_X7_breakThread l G (aS H Mr) Mr st g p1 p2 hR hV) (cwV 2 hts gL_law_X7_breakThread rfl rfl rfl (by decide +kernel) ⟨Nat.le_of_ble_eq_true rfl, Nat.le_of_ble_eq_true rfl⟩) (sPreV hG hS hLS.2.1 hLS.2.2.2.2.1.2.1 hA (RS.at0 hR hLS.2.1) (r := (RX7, TX7, 7)) rfl) rfl rfl hl.1 rfl (lv_room (Nat.le_of_ble_eq_true rfl)) dL_law_2141 ⟨by show cells + 3 + 0 ≤ 845199; omega, by show slots + 18 + 0 ≤ 6560506; omega⟩) hLS.2.2.2.2.1.2.1 hS hA (fun r7 Mr1 H locs hp9 hP9 hI9 hk9 hS => ?_)
  obtain ⟨g1, hR1, ht1, hr1, hg1⟩ := hp9
  have hLS := (TwS.c hLS.sw hz hP9 hI9 hk9).sw
  refine lv_istore (lv' := [(7, .int r7), (6, .int r6), (0, .ref b), (1, .ref (ad 0 0)), (2, .ref (g.1 0 0)), (3, .ref o1), (4, .ref o2), (5, .int x5)]) hx hb dL_law_2144 hl (by decide) rfl (fun ls hl => ?_)
  refine lv_aload_n hx hb dL_law_2146 rfl (lv_at hl 4 rfl) ?_
  have hz : s.heap.size ≤ H.size := hS.1
  have hX9 : Mr1 (g.1 0 0) = some (.inr (10, [.ref (g1.1 1 0), .ref (g1.1 2 0), .int (gS (m_breakThread st p1 p2).2.2 2), .int (gS (m_breakThread st p1 p2).2.2 3), .int (gS (m_breakThread st p1 p2).2.2 1), .int (gS (m_breakThread st p1 p2).2.2 0), .int (thR g1)])) := by rw [← hg1]; exact (hR1.1 0 0 ro0).trans (congrArg some (celR_0 G (m_breakThread st p1 p2).2.2 g1 0))
  refine lm_calli (va_runV (As := []) (rest := []) ⟨hx, hb, hml, hown, hts⟩ (c_X7_thrown l G (aS H Mr1) Mr1 hX9) (cwV 0 hts gL_law_X7_thrown rfl rfl rfl (by decide +kernel) ⟨Nat.le_of_ble_eq_true rfl, Nat.le_of_ble_eq_true rfl⟩) (sPreV hG hS hLS.2.1 hLS.2.2.2.2.1.2.1 hA (hLS.2.1 _ _ hX9) (r := (RX7, TX7, 7)) rfl) rfl rfl hl.1 rfl (lv_room (Nat.le_of_ble_eq_true rfl)) dL_law_2147 ⟨by show cells + 3 + 0 + 0 ≤ 845199; omega, by show slots + 18 + 0 + 0 ≤ 6560506; omega⟩) hLS.2.2.2.2.1.2.1 hS hA (fun r8 M9 H locs hp9 hP9 hI9 hk9 hS => ?_)
  obtain ⟨e8, hm9⟩ := hp9
  subst M9
  have hLS := (TwS.c hLS.sw hz hP9 hI9 hk9).sw
  refine lv_iload hx hb dL_law_2150 (lv_at hl 1 rfl) ?_
  refine lv_icmp_eq (tgt := 2157) hx hb dL_law_2152 (by decide) (fun c1 => ?_) (fun c1 => absurd c1 (fun z => z (by rw [e8, ht1, e6])))
  refine lv_iload hx hb dL_law_2157 (lv_at hl 1 rfl) ?_
  refine lv_if_ne (tgt := 2174) hx hb dL_law_2159 (by decide) (fun c2 => ?_) (fun c2 => ?_)
  · skip
    refine lv_goto (tgt := 2675) hx hb dL_law_2174 (by decide) ?_
    refine W.widen (k := cells + 1100) (n := slots + 4500) (by omega) (by omega) ?_
    exact kk _ H locs ls ⟨ad1, g1, Mc1, Mr1, f9, f2, hC1, hR1, (I_breakThread hV p1 p2), ha1, hg1, hLS⟩ hS (lv_sub hl [2, 3, 4, 5, 6, 7] rfl)
  · skip
    have h0 := nI_z (le_breakThread st p1 p2) (e6.symm.trans c2)
    refine lv_aload_n hx hb dL_law_2162 rfl (lv_at hl 5 rfl) ?_
    refine lv_iconst (v := 0) hx hb dL_law_2163 (by decide) ?_
    refine lm_lald hx hb hK 1 hLS.2.2.1 rfl (show vp_in 0 1 by unfold vp_in; decide) (hf1 h0) dL_law_2164 ?_
    refine lv_iload hx hb dL_law_2165 (lv_at hl 0 rfl) ?_
    refine lv_i2l (v := r7.toInt64) hx hb dL_law_2167 rfl ?_
    refine m_lcmp_eq (tgt := 2174) hx hb dL_law_2168 dL_law_2169 (by decide) (fun c3 => ?_) (fun c3 => ?_)
    · skip
      refine lv_goto (tgt := 2675) hx hb dL_law_2174 (by decide) ?_
      refine W.widen (k := cells + 1100) (n := slots + 4500) (by omega) (by omega) ?_
      exact kk _ H locs ls ⟨ad1, g1, Mc1, Mr1, f9, f2, hC1, hR1, (I_breakThread hV p1 p2), ha1, hg1, hLS⟩ hS (lv_sub hl [2, 3, 4, 5, 6, 7] rfl)
    · skip
      exact absurd (by rw [hr1 h0]) c3
theorem le_isBroken (st : St) (p0 : Int32) : (m_isBroken st p0).1 < 100 := by
  unfold m_isBroken
  first | exact le_0 | exact chk_le (by omega) (le_0) | exact chk_le (by omega) (chk_le (by omega) (le_0)) | exact chk_le (by omega) (chk_le (by omega) (chk_le (by omega) (le_0))) | exact chk_le (by omega) (chk_le (by omega) (chk_le (by omega) (chk_le (by omega) (le_0)))) | exact chk_le (by omega) (chk_le (by omega) (chk_le (by omega) (chk_le (by omega) (chk_le (by omega) (le_0))))) | exact chk_le (by omega) (chk_le (by omega) (chk_le (by omega) (chk_le (by omega) (chk_le (by omega) (chk_le (by omega) (le_0)))))) | exact chk_le (by omega) (chk_le (by omega) (chk_le (by omega) (chk_le (by omega) (chk_le (by omega) (chk_le (by omega) (chk_le (by omega) (le_0))))))) | exact chk_le (by omega) (chk_le (by omega) (chk_le (by omega) (chk_le (by omega) (chk_le (by omega) (chk_le (by omega) (chk_le (by omega) (chk_le (by omega) (le_0))))))))
theorem I_isBroken {st : St} (h : Inv st) (p0 : Int32) : Inv (m_isBroken st p0).2.2 := by
  unfold m_isBroken
  first | exact h | exact chk_I h (fun _ => h) | exact chk_I h (fun _ => chk_I h (fun _ => h)) | exact chk_I h (fun _ => chk_I h (fun _ => chk_I h (fun _ => h))) | exact chk_I h (fun _ => chk_I h (fun _ => chk_I h (fun _ => chk_I h (fun _ => h)))) | exact chk_I h (fun _ => chk_I h (fun _ => chk_I h (fun _ => chk_I h (fun _ => chk_I h (fun _ => h))))) | exact chk_I h (fun _ => chk_I h (fun _ => chk_I h (fun _ => chk_I h (fun _ => chk_I h (fun _ => chk_I h (fun _ => h)))))) | exact chk_I h (fun _ => chk_I h (fun _ => chk_I h (fun _ => chk_I h (fun _ => chk_I h (fun _ => chk_I h (fun _ => chk_I h (fun _ => h))))))) | exact chk_I h (fun _ => chk_I h (fun _ => chk_I h (fun _ => chk_I h (fun _ => chk_I h (fun _ => chk_I h (fun _ => chk_I h (fun _ => chk_I h (fun _ => h))))))))
set_option maxHeartbeats 4000000 in
set_option maxRecDepth 100000 in
theorem law_isBroken {p : Program} {l : Launch} {e : Env} {s : State} {m : MethodId} {below : List Frame} {meth : Method} {c : Code} {Q : State → Prop} {b L : Nat} {xs : Nat → Int32} {G : mg} (C0 : TwC p l s m c b L xs G) {H : Heap} {locs : List Loc} {ls : Array Slot} {cells slots : Nat} (hcs : cells + 1100 ≤ 845199 ∧ slots + 4500 ≤ 6560506) {cw rw o1 o2 : Nat} {st : St} {x5 p1 p2 p3 p4 : Int32} (hLI : TwI G s.heap.size H cw rw o1 o2 st) (hS : va_S (aH s.heap.size) s.heap H locs) (hl : lv_has ls 9 [(0, .ref b), (1, .ref cw), (2, .ref rw), (3, .ref o1), (4, .ref o2), (5, .int x5)]) (hi1 : vp_in (x5 + 1) L) (hi2 : vp_in (x5 + 2) L) (hi3 : vp_in (x5 + 3) L) (hi4 : vp_in (x5 + 4) L) (hv1 : xs (x5 + 1).toNatClampNeg = p1) (hv2 : xs (x5 + 2).toNatClampNeg = p2) (hv3 : xs (x5 + 3).toNatClampNeg = p3) (hv4 : xs (x5 + 4).toNatClampNeg = p4)
    (kk : ∀ (st1 : St) (H1 : Heap) (locs1 : List Loc) (ls1 : Array Slot), TwI G s.heap.size H1 cw rw o1 o2 st1 → va_S (aH s.heap.size) s.heap H1 locs1 → lv_has ls1 9 [(0, .ref b), (1, .ref cw), (2, .ref rw), (3, .ref o1), (4, .ref o2), (5, .int x5)] → W p l e room_1 s m #[Value.ref b] below meth c H1 locs1 (cells + 1100) (slots + 4500) Q (F0 m 2675 ls1 [])) : W p l e room_1 s m #[Value.ref b] below meth c H locs cells slots Q (F0 m 2177 ls []) := by
  obtain ⟨hx, hb, hml, hown, hts, hX, hbl, hG, hl9⟩ := C0
  obtain ⟨ad, g, Mc, Mr, f1, f2, hC, hR, hV, rfl, rfl, hLS⟩ := hLI
  have hA : ∀ q : Nat, s.heap.size ≤ q → aH s.heap.size q := fun _ h => h
  have hK := hG.K
  refine lv_aload_n hx hb dL_law_2177 rfl (lv_at hl 1 rfl) ?_
  refine lv_aload_n hx hb dL_law_2178 rfl (lv_at hl 0 rfl) ?_
  refine lv_iload hx hb dL_law_2179 (lv_at hl 5 rfl) ?_
  refine lv_iconst (v := 1) hx hb dL_law_2181 (by decide) ?_
  refine lv_iadd hx hb dL_law_2182 ?_
  refine lm_sld hx hb hX hbl hS hi1 hv1 dL_law_2183 ?_
  refine lv_aload_n hx hb dL_law_2184 rfl (lv_at hl 3 rfl) ?_
  have hLo := hLS
  have hz : s.heap.size ≤ H.size := hS.1
  have hPM : mP G.1 (mu Mc o1 (.inl (G.2.1 1, 1, .inr (.inl f1)))) H := mP_o hLo.1 hLo.2.2.1
  have hIM : mI (aH s.heap.size) (mu Mc o1 (.inl (G.2.1 1, 1, .inr (.inl f1)))) := mI.mu hLo.2.2.2.2.1.1 hLo.2.2.2.2.1.2.2.1
  refine ls_calli (vx_runSX (As := [.ref (ad 0 0), .int p1, .ref o1]) (rest := []) ⟨hx, hb, hml, hown, hts⟩ (c_L_isBroken l G (aS H (mu Mc o1 (.inl (G.2.1 1, 1, .inr (.inl f1))))) Mc hl9 st ad p1 o1 hLo.2.2.2.2.2.2.1 hC hV) (vx_cwSW 3 hts gL_law_L_isBroken rfl rfl rfl (by decide +kernel) ⟨Nat.le_of_ble_eq_true rfl, Nat.le_of_ble_eq_true rfl⟩) (sPreS hG hS hPM hIM hA) rfl rfl hl.1 rfl (lv_room (Nat.le_of_ble_eq_true rfl)) dL_law_2185 ⟨by show cells + 1 ≤ 845199; omega, by show slots + 6 ≤ 6560506; omega⟩) hIM hS hA (fun r6 M9 H locs hp9 hP9 hI9 hk9 hS => ?_)
  obtain ⟨ad1, Mc1, f9, e6, hn9, rfl, hC1, ha1, hf1⟩ := hp9
  have hLS := TwS.c1 hLo hz hP9 hn9 hI9 hk9
  refine lv_istore (lv' := [(6, .int r6), (0, .ref b), (1, .ref (ad 0 0)), (2, .ref (g.1 0 0)), (3, .ref o1), (4, .ref o2), (5, .int x5)]) hx hb dL_law_2188 hl (by decide) rfl (fun ls hl => ?_)
  refine lv_aload_n hx hb dL_law_2190 rfl (lv_at hl 3 rfl) ?_
  refine lv_aload_n hx hb dL_law_2191 rfl (lv_at hl 1 rfl) ?_
  refine lv_iload hx hb dL_law_2192 (lv_at hl 6 rfl) ?_
  refine lv_iconst (v := 1) hx hb dL_law_2194 (by decide) ?_
  refine lv_iadd hx hb dL_law_2195 ?_
  refine lm_sld hx hb hX hbl hS hi1 hv1 dL_law_2196 ?_
  have hz : s.heap.size ≤ H.size := hS.1
  refine lm_calli (va_runV (As := [.int p1]) (rest := []) ⟨hx, hb, hml, hown, hts⟩ (c_X7_isBroken l G (aS H Mr) Mr st g p1 hR hV) (cwV 1 hts gL_law_X7_isBroken rfl rfl rfl (by decide +kernel) ⟨Nat.le_of_ble_eq_true rfl, Nat.le_of_ble_eq_true rfl⟩) (sPreV hG hS hLS.2.1 hLS.2.2.2.2.1.2.1 hA (RS.at0 hR hLS.2.1) (r := (RX7, TX7, 7)) rfl) rfl rfl hl.1 rfl (lv_room (Nat.le_of_ble_eq_true rfl)) dL_law_2197 ⟨by show cells + 1 + 0 ≤ 845199; omega, by show slots + 6 + 0 ≤ 6560506; omega⟩) hLS.2.2.2.2.1.2.1 hS hA (fun r7 Mr1 H locs hp9 hP9 hI9 hk9 hS => ?_)
  obtain ⟨g1, hR1, ht1, hr1, hg1⟩ := hp9
  have hLS := (TwS.c hLS.sw hz hP9 hI9 hk9).sw
  refine lv_istore (lv' := [(7, .int r7), (6, .int r6), (0, .ref b), (1, .ref (ad 0 0)), (2, .ref (g.1 0 0)), (3, .ref o1), (4, .ref o2), (5, .int x5)]) hx hb dL_law_2200 hl (by decide) rfl (fun ls hl => ?_)
  refine lv_aload_n hx hb dL_law_2202 rfl (lv_at hl 4 rfl) ?_
  have hz : s.heap.size ≤ H.size := hS.1
  have hX9 : Mr1 (g.1 0 0) = some (.inr (10, [.ref (g1.1 1 0), .ref (g1.1 2 0), .int (gS (m_isBroken st p1).2.2 2), .int (gS (m_isBroken st p1).2.2 3), .int (gS (m_isBroken st p1).2.2 1), .int (gS (m_isBroken st p1).2.2 0), .int (thR g1)])) := by rw [← hg1]; exact (hR1.1 0 0 ro0).trans (congrArg some (celR_0 G (m_isBroken st p1).2.2 g1 0))
  refine lm_calli (va_runV (As := []) (rest := []) ⟨hx, hb, hml, hown, hts⟩ (c_X7_thrown l G (aS H Mr1) Mr1 hX9) (cwV 0 hts gL_law_X7_thrown rfl rfl rfl (by decide +kernel) ⟨Nat.le_of_ble_eq_true rfl, Nat.le_of_ble_eq_true rfl⟩) (sPreV hG hS hLS.2.1 hLS.2.2.2.2.1.2.1 hA (hLS.2.1 _ _ hX9) (r := (RX7, TX7, 7)) rfl) rfl rfl hl.1 rfl (lv_room (Nat.le_of_ble_eq_true rfl)) dL_law_2203 ⟨by show cells + 1 + 0 + 0 ≤ 845199; omega, by show slots + 6 + 0 + 0 ≤ 6560506; omega⟩) hLS.2.2.2.2.1.2.1 hS hA (fun r8 M9 H locs hp9 hP9 hI9 hk9 hS => ?_)
  obtain ⟨e8, hm9⟩ := hp9
  subst M9
  have hLS := (TwS.c hLS.sw hz hP9 hI9 hk9).sw
  refine lv_iload hx hb dL_law_2206 (lv_at hl 1 rfl) ?_
  refine lv_icmp_eq (tgt := 2213) hx hb dL_law_2208 (by decide) (fun c1 => ?_) (fun c1 => absurd c1 (fun z => z (by rw [e8, ht1, e6])))
  refine lv_iload hx hb dL_law_2213 (lv_at hl 1 rfl) ?_
  refine lv_if_ne (tgt := 2237) hx hb dL_law_2215 (by decide) (fun c2 => ?_) (fun c2 => ?_)
  · skip
    refine lv_goto (tgt := 2675) hx hb dL_law_2237 (by decide) ?_
    refine W.widen (k := cells + 1100) (n := slots + 4500) (by omega) (by omega) ?_
    exact kk _ H locs ls ⟨ad1, g1, Mc1, Mr1, f9, f2, hC1, hR1, (I_isBroken hV p1), ha1, hg1, hLS⟩ hS (lv_sub hl [2, 3, 4, 5, 6, 7] rfl)
  · skip
    have h0 := nI_z (le_isBroken st p1) (e6.symm.trans c2)
    refine lv_aload_n hx hb dL_law_2218 rfl (lv_at hl 5 rfl) ?_
    refine lv_iconst (v := 0) hx hb dL_law_2219 (by decide) ?_
    refine lm_lald hx hb hK 1 hLS.2.2.1 rfl (show vp_in 0 1 by unfold vp_in; decide) (hf1 h0) dL_law_2220 ?_
    refine lv_iload hx hb dL_law_2221 (lv_at hl 0 rfl) ?_
    refine lv_if_eq (tgt := 2230) hx hb dL_law_2223 (by decide) (fun c3 => ?_) (fun c3 => ?_)
    · skip
      refine lv_lconst (v := 0) hx hb dL_law_2230 (by decide) ?_
      refine m_lcmp_eq (tgt := 2237) hx hb dL_law_2231 dL_law_2232 (by decide) (fun c4 => ?_) (fun c4 => ?_)
      · skip
        refine lv_goto (tgt := 2675) hx hb dL_law_2237 (by decide) ?_
        refine W.widen (k := cells + 1100) (n := slots + 4500) (by omega) (by omega) ?_
        exact kk _ H locs ls ⟨ad1, g1, Mc1, Mr1, f9, f2, hC1, hR1, (I_isBroken hV p1), ha1, hg1, hLS⟩ hS (lv_sub hl [2, 3, 4, 5, 6, 7] rfl)
      · skip
        exact absurd (by rw [← hr1 h0, c3]; rfl) c4
    · skip
      have h1 : r7 = 1 := (by rw [hr1 h0] at c3; exact (hr1 h0).trans ((b01_isBroken st p1).resolve_left c3))
      refine lv_lconst (v := 1) hx hb dL_law_2226 (by decide) ?_
      refine lv_goto (tgt := 2231) hx hb dL_law_2227 (by decide) ?_
      refine m_lcmp_eq (tgt := 2237) hx hb dL_law_2231 dL_law_2232 (by decide) (fun c5 => ?_) (fun c5 => ?_)
      · skip
        refine lv_goto (tgt := 2675) hx hb dL_law_2237 (by decide) ?_
        refine W.widen (k := cells + 1100) (n := slots + 4500) (by omega) (by omega) ?_
        exact kk _ H locs ls ⟨ad1, g1, Mc1, Mr1, f9, f2, hC1, hR1, (I_isBroken hV p1), ha1, hg1, hLS⟩ hS (lv_sub hl [2, 3, 4, 5, 6, 7] rfl)
      · skip
        exact absurd (by rw [← hr1 h0, h1]; rfl) c5
theorem le_keep (st : St) (p0 p1 : Int32) : (m_keep st p0 p1).1 < 100 := by
  unfold m_keep
  first | exact le_0 | exact chk_le (by omega) (le_0) | exact chk_le (by omega) (chk_le (by omega) (le_0)) | exact chk_le (by omega) (chk_le (by omega) (chk_le (by omega) (le_0))) | exact chk_le (by omega) (chk_le (by omega) (chk_le (by omega) (chk_le (by omega) (le_0)))) | exact chk_le (by omega) (chk_le (by omega) (chk_le (by omega) (chk_le (by omega) (chk_le (by omega) (le_0))))) | exact chk_le (by omega) (chk_le (by omega) (chk_le (by omega) (chk_le (by omega) (chk_le (by omega) (chk_le (by omega) (le_0)))))) | exact chk_le (by omega) (chk_le (by omega) (chk_le (by omega) (chk_le (by omega) (chk_le (by omega) (chk_le (by omega) (chk_le (by omega) (le_0))))))) | exact chk_le (by omega) (chk_le (by omega) (chk_le (by omega) (chk_le (by omega) (chk_le (by omega) (chk_le (by omega) (chk_le (by omega) (chk_le (by omega) (le_0))))))))
set_option maxHeartbeats 4000000 in
set_option maxRecDepth 100000 in
theorem law_keep {p : Program} {l : Launch} {e : Env} {s : State} {m : MethodId} {below : List Frame} {meth : Method} {c : Code} {Q : State → Prop} {b L : Nat} {xs : Nat → Int32} {G : mg} (C0 : TwC p l s m c b L xs G) {H : Heap} {locs : List Loc} {ls : Array Slot} {cells slots : Nat} (hcs : cells + 1100 ≤ 845199 ∧ slots + 4500 ≤ 6560506) {cw rw o1 o2 : Nat} {st : St} {x5 p1 p2 p3 p4 : Int32} (hLI : TwI G s.heap.size H cw rw o1 o2 st) (hS : va_S (aH s.heap.size) s.heap H locs) (hl : lv_has ls 9 [(0, .ref b), (1, .ref cw), (2, .ref rw), (3, .ref o1), (4, .ref o2), (5, .int x5)]) (hi1 : vp_in (x5 + 1) L) (hi2 : vp_in (x5 + 2) L) (hi3 : vp_in (x5 + 3) L) (hi4 : vp_in (x5 + 4) L) (hv1 : xs (x5 + 1).toNatClampNeg = p1) (hv2 : xs (x5 + 2).toNatClampNeg = p2) (hv3 : xs (x5 + 3).toNatClampNeg = p3) (hv4 : xs (x5 + 4).toNatClampNeg = p4)
    (kk : ∀ (st1 : St) (H1 : Heap) (locs1 : List Loc) (ls1 : Array Slot), TwI G s.heap.size H1 cw rw o1 o2 st1 → va_S (aH s.heap.size) s.heap H1 locs1 → lv_has ls1 9 [(0, .ref b), (1, .ref cw), (2, .ref rw), (3, .ref o1), (4, .ref o2), (5, .int x5)] → W p l e room_1 s m #[Value.ref b] below meth c H1 locs1 (cells + 1100) (slots + 4500) Q (F0 m 2675 ls1 [])) : W p l e room_1 s m #[Value.ref b] below meth c H locs cells slots Q (F0 m 2240 ls []) := by
  obtain ⟨hx, hb, hml, hown, hts, hX, hbl, hG, hl9⟩ := C0
  obtain ⟨ad, g, Mc, Mr, f1, f2, hC, hR, hV, rfl, rfl, hLS⟩ := hLI
  have hA : ∀ q : Nat, s.heap.size ≤ q → aH s.heap.size q := fun _ h => h
  have hK := hG.K
  refine lv_aload_n hx hb dL_law_2240 rfl (lv_at hl 1 rfl) ?_
  refine lv_aload_n hx hb dL_law_2241 rfl (lv_at hl 0 rfl) ?_
  refine lv_iload hx hb dL_law_2242 (lv_at hl 5 rfl) ?_
  refine lv_iconst (v := 1) hx hb dL_law_2244 (by decide) ?_
  refine lv_iadd hx hb dL_law_2245 ?_
  refine lm_sld hx hb hX hbl hS hi1 hv1 dL_law_2246 ?_
  refine lv_aload_n hx hb dL_law_2247 rfl (lv_at hl 0 rfl) ?_
  refine lv_iload hx hb dL_law_2248 (lv_at hl 5 rfl) ?_
  refine lv_iconst (v := 2) hx hb dL_law_2250 (by decide) ?_
  refine lv_iadd hx hb dL_law_2251 ?_
  refine lm_sld hx hb hX hbl hS hi2 hv2 dL_law_2252 ?_
  refine lv_if_eq (tgt := 2260) hx hb dL_law_2253 (by decide) (fun c1 => ?_) (fun c1 => ?_)
  · skip
    refine lv_iconst (v := 0) hx hb dL_law_2260 (by decide) ?_
    refine lv_aload_n hx hb dL_law_2261 rfl (lv_at hl 3 rfl) ?_
    have hLo := hLS
    have hz : s.heap.size ≤ H.size := hS.1
    have hPM : mP G.1 (mu Mc o1 (.inl (G.2.1 1, 1, .inr (.inl f1)))) H := mP_o hLo.1 hLo.2.2.1
    have hIM : mI (aH s.heap.size) (mu Mc o1 (.inl (G.2.1 1, 1, .inr (.inl f1)))) := mI.mu hLo.2.2.2.2.1.1 hLo.2.2.2.2.1.2.2.1
    refine ls_calli (vx_runSX (As := [.ref (ad 0 0), .int p1, .int 0, .ref o1]) (rest := []) ⟨hx, hb, hml, hown, hts⟩ (c_L_keep l G (aS H (mu Mc o1 (.inl (G.2.1 1, 1, .inr (.inl f1))))) Mc hl9 st ad p1 0 o1 hLo.2.2.2.2.2.2.1 hC hV (Or.inl rfl)) (vx_cwSW 4 hts gL_law_L_keep rfl rfl rfl (by decide +kernel) ⟨Nat.le_of_ble_eq_true rfl, Nat.le_of_ble_eq_true rfl⟩) (sPreS hG hS hPM hIM hA) rfl rfl hl.1 rfl (lv_room (Nat.le_of_ble_eq_true rfl)) dL_law_2262 ⟨by show cells + 1 ≤ 845199; omega, by show slots + 6 ≤ 6560506; omega⟩) hIM hS hA (fun r6 M9 H locs hp9 hP9 hI9 hk9 hS => ?_)
    obtain ⟨ad1, Mc1, f9, e6, hn9, rfl, hC1, ha1, hf1⟩ := hp9
    have hLS := TwS.c1 hLo hz hP9 hn9 hI9 hk9
    refine lv_istore (lv' := [(6, .int r6), (0, .ref b), (1, .ref (ad 0 0)), (2, .ref (g.1 0 0)), (3, .ref o1), (4, .ref o2), (5, .int x5)]) hx hb dL_law_2265 hl (by decide) rfl (fun ls hl => ?_)
    refine lv_aload_n hx hb dL_law_2267 rfl (lv_at hl 3 rfl) ?_
    refine lv_aload_n hx hb dL_law_2268 rfl (lv_at hl 1 rfl) ?_
    refine lv_iload hx hb dL_law_2269 (lv_at hl 6 rfl) ?_
    refine lv_iconst (v := 1) hx hb dL_law_2271 (by decide) ?_
    refine lv_iadd hx hb dL_law_2272 ?_
    refine lm_sld hx hb hX hbl hS hi1 hv1 dL_law_2273 ?_
    refine lv_aload_n hx hb dL_law_2274 rfl (lv_at hl 1 rfl) ?_
    refine lv_iload hx hb dL_law_2275 (lv_at hl 6 rfl) ?_
    refine lv_iconst (v := 2) hx hb dL_law_2277 (by decide) ?_
    refine lv_iadd hx hb dL_law_2278 ?_
    refine lm_sld hx hb hX hbl hS hi2 hv2 dL_law_2279 ?_
    refine lv_if_eq (tgt := 2287) hx hb dL_law_2280 (by decide) (fun c2 => ?_) (fun c2 => absurd c2 (fun z => z c1))
    refine lv_iconst (v := 0) hx hb dL_law_2287 (by decide) ?_
    have hz : s.heap.size ≤ H.size := hS.1
    refine lm_calli (va_runV (As := [.int p1, .int 0]) (rest := []) ⟨hx, hb, hml, hown, hts⟩ (c_X7_keep l G (aS H Mr) Mr st g p1 0 hR hV (Or.inl rfl)) (cwV 2 hts gL_law_X7_keep rfl rfl rfl (by decide +kernel) ⟨Nat.le_of_ble_eq_true rfl, Nat.le_of_ble_eq_true rfl⟩) (sPreV hG hS hLS.2.1 hLS.2.2.2.2.1.2.1 hA (RS.at0 hR hLS.2.1) (r := (RX7, TX7, 7)) rfl) rfl rfl hl.1 rfl (lv_room (Nat.le_of_ble_eq_true rfl)) dL_law_2288 ⟨by show cells + 1 + 0 ≤ 845199; omega, by show slots + 6 + 0 ≤ 6560506; omega⟩) hLS.2.2.2.2.1.2.1 hS hA (fun r7 Mr1 H locs hp9 hP9 hI9 hk9 hS => ?_)
    obtain ⟨g1, hR1, ht1, hr1, hg1⟩ := hp9
    have hLS := (TwS.c hLS.sw hz hP9 hI9 hk9).sw
    refine lv_istore (lv' := [(7, .int r7), (6, .int r6), (0, .ref b), (1, .ref (ad 0 0)), (2, .ref (g.1 0 0)), (3, .ref o1), (4, .ref o2), (5, .int x5)]) hx hb dL_law_2291 hl (by decide) rfl (fun ls hl => ?_)
    refine lv_aload_n hx hb dL_law_2293 rfl (lv_at hl 4 rfl) ?_
    have hz : s.heap.size ≤ H.size := hS.1
    have hX9 : Mr1 (g.1 0 0) = some (.inr (10, [.ref (g1.1 1 0), .ref (g1.1 2 0), .int (gS (m_keep st p1 0).2.2 2), .int (gS (m_keep st p1 0).2.2 3), .int (gS (m_keep st p1 0).2.2 1), .int (gS (m_keep st p1 0).2.2 0), .int (thR g1)])) := by rw [← hg1]; exact (hR1.1 0 0 ro0).trans (congrArg some (celR_0 G (m_keep st p1 0).2.2 g1 0))
    refine lm_calli (va_runV (As := []) (rest := []) ⟨hx, hb, hml, hown, hts⟩ (c_X7_thrown l G (aS H Mr1) Mr1 hX9) (cwV 0 hts gL_law_X7_thrown rfl rfl rfl (by decide +kernel) ⟨Nat.le_of_ble_eq_true rfl, Nat.le_of_ble_eq_true rfl⟩) (sPreV hG hS hLS.2.1 hLS.2.2.2.2.1.2.1 hA (hLS.2.1 _ _ hX9) (r := (RX7, TX7, 7)) rfl) rfl rfl hl.1 rfl (lv_room (Nat.le_of_ble_eq_true rfl)) dL_law_2294 ⟨by show cells + 1 + 0 + 0 ≤ 845199; omega, by show slots + 6 + 0 + 0 ≤ 6560506; omega⟩) hLS.2.2.2.2.1.2.1 hS hA (fun r8 M9 H locs hp9 hP9 hI9 hk9 hS => ?_)
    obtain ⟨e8, hm9⟩ := hp9
    subst M9
    have hLS := (TwS.c hLS.sw hz hP9 hI9 hk9).sw
    refine lv_iload hx hb dL_law_2297 (lv_at hl 1 rfl) ?_
    refine lv_icmp_eq (tgt := 2304) hx hb dL_law_2299 (by decide) (fun c3 => ?_) (fun c3 => absurd c3 (fun z => z (by rw [e8, ht1, e6])))
    refine lv_iload hx hb dL_law_2304 (lv_at hl 1 rfl) ?_
    refine lv_if_ne (tgt := 2328) hx hb dL_law_2306 (by decide) (fun c4 => ?_) (fun c4 => ?_)
    · skip
      refine lv_goto (tgt := 2675) hx hb dL_law_2328 (by decide) ?_
      refine W.widen (k := cells + 1100) (n := slots + 4500) (by omega) (by omega) ?_
      exact kk _ H locs ls ⟨ad1, g1, Mc1, Mr1, f9, f2, hC1, hR1, (I_keep hV p1 0 (Or.inl rfl)), ha1, hg1, hLS⟩ hS (lv_sub hl [2, 3, 4, 5, 6, 7] rfl)
    · skip
      have h0 := nI_z (le_keep st p1 0) (e6.symm.trans c4)
      refine lv_aload_n hx hb dL_law_2309 rfl (lv_at hl 5 rfl) ?_
      refine lv_iconst (v := 0) hx hb dL_law_2310 (by decide) ?_
      refine lm_lald hx hb hK 1 hLS.2.2.1 rfl (show vp_in 0 1 by unfold vp_in; decide) (hf1 h0) dL_law_2311 ?_
      refine lv_iload hx hb dL_law_2312 (lv_at hl 0 rfl) ?_
      refine lv_if_eq (tgt := 2321) hx hb dL_law_2314 (by decide) (fun c5 => ?_) (fun c5 => ?_)
      · skip
        refine lv_lconst (v := 0) hx hb dL_law_2321 (by decide) ?_
        refine m_lcmp_eq (tgt := 2328) hx hb dL_law_2322 dL_law_2323 (by decide) (fun c6 => ?_) (fun c6 => ?_)
        · skip
          refine lv_goto (tgt := 2675) hx hb dL_law_2328 (by decide) ?_
          refine W.widen (k := cells + 1100) (n := slots + 4500) (by omega) (by omega) ?_
          exact kk _ H locs ls ⟨ad1, g1, Mc1, Mr1, f9, f2, hC1, hR1, (I_keep hV p1 0 (Or.inl rfl)), ha1, hg1, hLS⟩ hS (lv_sub hl [2, 3, 4, 5, 6, 7] rfl)
        · skip
          exact absurd (by rw [← hr1 h0, c5]; rfl) c6
      · skip
        have h1 : r7 = 1 := (by rw [hr1 h0] at c5; exact (hr1 h0).trans ((b01_keep hV p1 0).resolve_left c5))
        refine lv_lconst (v := 1) hx hb dL_law_2317 (by decide) ?_
        refine lv_goto (tgt := 2322) hx hb dL_law_2318 (by decide) ?_
        refine m_lcmp_eq (tgt := 2328) hx hb dL_law_2322 dL_law_2323 (by decide) (fun c7 => ?_) (fun c7 => ?_)
        · skip
          refine lv_goto (tgt := 2675) hx hb dL_law_2328 (by decide) ?_
          refine W.widen (k := cells + 1100) (n := slots + 4500) (by omega) (by omega) ?_
          exact kk _ H locs ls ⟨ad1, g1, Mc1, Mr1, f9, f2, hC1, hR1, (I_keep hV p1 0 (Or.inl rfl)), ha1, hg1, hLS⟩ hS (lv_sub hl [2, 3, 4, 5, 6, 7] rfl)
        · skip
          exact absurd (by rw [← hr1 h0, h1]; rfl) c7
  · skip
    refine lv_iconst (v := 1) hx hb dL_law_2256 (by decide) ?_
    refine lv_goto (tgt := 2261) hx hb dL_law_2257 (by decide) ?_
    refine lv_aload_n hx hb dL_law_2261 rfl (lv_at hl 3 rfl) ?_
    have hLo := hLS
    have hz : s.heap.size ≤ H.size := hS.1
    have hPM : mP G.1 (mu Mc o1 (.inl (G.2.1 1, 1, .inr (.inl f1)))) H := mP_o hLo.1 hLo.2.2.1
    have hIM : mI (aH s.heap.size) (mu Mc o1 (.inl (G.2.1 1, 1, .inr (.inl f1)))) := mI.mu hLo.2.2.2.2.1.1 hLo.2.2.2.2.1.2.2.1
    refine ls_calli (vx_runSX (As := [.ref (ad 0 0), .int p1, .int 1, .ref o1]) (rest := []) ⟨hx, hb, hml, hown, hts⟩ (c_L_keep l G (aS H (mu Mc o1 (.inl (G.2.1 1, 1, .inr (.inl f1))))) Mc hl9 st ad p1 1 o1 hLo.2.2.2.2.2.2.1 hC hV (Or.inr rfl)) (vx_cwSW 4 hts gL_law_L_keep rfl rfl rfl (by decide +kernel) ⟨Nat.le_of_ble_eq_true rfl, Nat.le_of_ble_eq_true rfl⟩) (sPreS hG hS hPM hIM hA) rfl rfl hl.1 rfl (lv_room (Nat.le_of_ble_eq_true rfl)) dL_law_2262 ⟨by show cells + 1 ≤ 845199; omega, by show slots + 6 ≤ 6560506; omega⟩) hIM hS hA (fun r6 M9 H locs hp9 hP9 hI9 hk9 hS => ?_)
    obtain ⟨ad1, Mc1, f9, e6, hn9, rfl, hC1, ha1, hf1⟩ := hp9
    have hLS := TwS.c1 hLo hz hP9 hn9 hI9 hk9
    refine lv_istore (lv' := [(6, .int r6), (0, .ref b), (1, .ref (ad 0 0)), (2, .ref (g.1 0 0)), (3, .ref o1), (4, .ref o2), (5, .int x5)]) hx hb dL_law_2265 hl (by decide) rfl (fun ls hl => ?_)
    refine lv_aload_n hx hb dL_law_2267 rfl (lv_at hl 3 rfl) ?_
    refine lv_aload_n hx hb dL_law_2268 rfl (lv_at hl 1 rfl) ?_
    refine lv_iload hx hb dL_law_2269 (lv_at hl 6 rfl) ?_
    refine lv_iconst (v := 1) hx hb dL_law_2271 (by decide) ?_
    refine lv_iadd hx hb dL_law_2272 ?_
    refine lm_sld hx hb hX hbl hS hi1 hv1 dL_law_2273 ?_
    refine lv_aload_n hx hb dL_law_2274 rfl (lv_at hl 1 rfl) ?_
    refine lv_iload hx hb dL_law_2275 (lv_at hl 6 rfl) ?_
    refine lv_iconst (v := 2) hx hb dL_law_2277 (by decide) ?_
    refine lv_iadd hx hb dL_law_2278 ?_
    refine lm_sld hx hb hX hbl hS hi2 hv2 dL_law_2279 ?_
    refine lv_if_eq (tgt := 2287) hx hb dL_law_2280 (by decide) (fun c8 => absurd c8 c1) (fun c8 => ?_)
    refine lv_iconst (v := 1) hx hb dL_law_2283 (by decide) ?_
    refine lv_goto (tgt := 2288) hx hb dL_law_2284 (by decide) ?_
    have hz : s.heap.size ≤ H.size := hS.1
    refine lm_calli (va_runV (As := [.int p1, .int 1]) (rest := []) ⟨hx, hb, hml, hown, hts⟩ (c_X7_keep l G (aS H Mr) Mr st g p1 1 hR hV (Or.inr rfl)) (cwV 2 hts gL_law_X7_keep rfl rfl rfl (by decide +kernel) ⟨Nat.le_of_ble_eq_true rfl, Nat.le_of_ble_eq_true rfl⟩) (sPreV hG hS hLS.2.1 hLS.2.2.2.2.1.2.1 hA (RS.at0 hR hLS.2.1) (r := (RX7, TX7, 7)) rfl) rfl rfl hl.1 rfl (lv_room (Nat.le_of_ble_eq_true rfl)) dL_law_2288 ⟨by show cells + 1 + 0 ≤ 845199; omega, by show slots + 6 + 0 ≤ 6560506; omega⟩) hLS.2.2.2.2.1.2.1 hS hA (fun r7 Mr1 H locs hp9 hP9 hI9 hk9 hS => ?_)
    obtain ⟨g1, hR1, ht1, hr1, hg1⟩ := hp9
    have hLS := (TwS.c hLS.sw hz hP9 hI9 hk9).sw
    refine lv_istore (lv' := [(7, .int r7), (6, .int r6), (0, .ref b), (1, .ref (ad 0 0)), (2, .ref (g.1 0 0)), (3, .ref o1), (4, .ref o2), (5, .int x5)]) hx hb dL_law_2291 hl (by decide) rfl (fun ls hl => ?_)
    refine lv_aload_n hx hb dL_law_2293 rfl (lv_at hl 4 rfl) ?_
    have hz : s.heap.size ≤ H.size := hS.1
    have hX9 : Mr1 (g.1 0 0) = some (.inr (10, [.ref (g1.1 1 0), .ref (g1.1 2 0), .int (gS (m_keep st p1 1).2.2 2), .int (gS (m_keep st p1 1).2.2 3), .int (gS (m_keep st p1 1).2.2 1), .int (gS (m_keep st p1 1).2.2 0), .int (thR g1)])) := by rw [← hg1]; exact (hR1.1 0 0 ro0).trans (congrArg some (celR_0 G (m_keep st p1 1).2.2 g1 0))
    refine lm_calli (va_runV (As := []) (rest := []) ⟨hx, hb, hml, hown, hts⟩ (c_X7_thrown l G (aS H Mr1) Mr1 hX9) (cwV 0 hts gL_law_X7_thrown rfl rfl rfl (by decide +kernel) ⟨Nat.le_of_ble_eq_true rfl, Nat.le_of_ble_eq_true rfl⟩) (sPreV hG hS hLS.2.1 hLS.2.2.2.2.1.2.1 hA (hLS.2.1 _ _ hX9) (r := (RX7, TX7, 7)) rfl) rfl rfl hl.1 rfl (lv_room (Nat.le_of_ble_eq_true rfl)) dL_law_2294 ⟨by show cells + 1 + 0 + 0 ≤ 845199; omega, by show slots + 6 + 0 + 0 ≤ 6560506; omega⟩) hLS.2.2.2.2.1.2.1 hS hA (fun r8 M9 H locs hp9 hP9 hI9 hk9 hS => ?_)
    obtain ⟨e8, hm9⟩ := hp9
    subst M9
    have hLS := (TwS.c hLS.sw hz hP9 hI9 hk9).sw
    refine lv_iload hx hb dL_law_2297 (lv_at hl 1 rfl) ?_
    refine lv_icmp_eq (tgt := 2304) hx hb dL_law_2299 (by decide) (fun c9 => ?_) (fun c9 => absurd c9 (fun z => z (by rw [e8, ht1, e6])))
    refine lv_iload hx hb dL_law_2304 (lv_at hl 1 rfl) ?_
    refine lv_if_ne (tgt := 2328) hx hb dL_law_2306 (by decide) (fun c10 => ?_) (fun c10 => ?_)
    · skip
      refine lv_goto (tgt := 2675) hx hb dL_law_2328 (by decide) ?_
      refine W.widen (k := cells + 1100) (n := slots + 4500) (by omega) (by omega) ?_
      exact kk _ H locs ls ⟨ad1, g1, Mc1, Mr1, f9, f2, hC1, hR1, (I_keep hV p1 1 (Or.inr rfl)), ha1, hg1, hLS⟩ hS (lv_sub hl [2, 3, 4, 5, 6, 7] rfl)
    · skip
      have h0 := nI_z (le_keep st p1 1) (e6.symm.trans c10)
      refine lv_aload_n hx hb dL_law_2309 rfl (lv_at hl 5 rfl) ?_
      refine lv_iconst (v := 0) hx hb dL_law_2310 (by decide) ?_
      refine lm_lald hx hb hK 1 hLS.2.2.1 rfl (show vp_in 0 1 by unfold vp_in; decide) (hf1 h0) dL_law_2311 ?_
      refine lv_iload hx hb dL_law_2312 (lv_at hl 0 rfl) ?_
      refine lv_if_eq (tgt := 2321) hx hb dL_law_2314 (by decide) (fun c11 => ?_) (fun c11 => ?_)
      · skip
        refine lv_lconst (v := 0) hx hb dL_law_2321 (by decide) ?_
        refine m_lcmp_eq (tgt := 2328) hx hb dL_law_2322 dL_law_2323 (by decide) (fun c12 => ?_) (fun c12 => ?_)
        · skip
          refine lv_goto (tgt := 2675) hx hb dL_law_2328 (by decide) ?_
          refine W.widen (k := cells + 1100) (n := slots + 4500) (by omega) (by omega) ?_
          exact kk _ H locs ls ⟨ad1, g1, Mc1, Mr1, f9, f2, hC1, hR1, (I_keep hV p1 1 (Or.inr rfl)), ha1, hg1, hLS⟩ hS (lv_sub hl [2, 3, 4, 5, 6, 7] rfl)
        · skip
          exact absurd (by rw [← hr1 h0, c11]; rfl) c12
      · skip
        have h1 : r7 = 1 := (by rw [hr1 h0] at c11; exact (hr1 h0).trans ((b01_keep hV p1 1).resolve_left c11))
        refine lv_lconst (v := 1) hx hb dL_law_2317 (by decide) ?_
        refine lv_goto (tgt := 2322) hx hb dL_law_2318 (by decide) ?_
        refine m_lcmp_eq (tgt := 2328) hx hb dL_law_2322 dL_law_2323 (by decide) (fun c13 => ?_) (fun c13 => ?_)
        · skip
          refine lv_goto (tgt := 2675) hx hb dL_law_2328 (by decide) ?_
          refine W.widen (k := cells + 1100) (n := slots + 4500) (by omega) (by omega) ?_
          exact kk _ H locs ls ⟨ad1, g1, Mc1, Mr1, f9, f2, hC1, hR1, (I_keep hV p1 1 (Or.inr rfl)), ha1, hg1, hLS⟩ hS (lv_sub hl [2, 3, 4, 5, 6, 7] rfl)
        · skip
          exact absurd (by rw [← hr1 h0, h1]; rfl) c13
theorem le_shake (st : St) (p0 : Int32) : (m_shake st p0).1 < 100 := by
  unfold m_shake
  first | exact le_0 | exact chk_le (by omega) (le_0) | exact chk_le (by omega) (chk_le (by omega) (le_0)) | exact chk_le (by omega) (chk_le (by omega) (chk_le (by omega) (le_0))) | exact chk_le (by omega) (chk_le (by omega) (chk_le (by omega) (chk_le (by omega) (le_0)))) | exact chk_le (by omega) (chk_le (by omega) (chk_le (by omega) (chk_le (by omega) (chk_le (by omega) (le_0))))) | exact chk_le (by omega) (chk_le (by omega) (chk_le (by omega) (chk_le (by omega) (chk_le (by omega) (chk_le (by omega) (le_0)))))) | exact chk_le (by omega) (chk_le (by omega) (chk_le (by omega) (chk_le (by omega) (chk_le (by omega) (chk_le (by omega) (chk_le (by omega) (le_0))))))) | exact chk_le (by omega) (chk_le (by omega) (chk_le (by omega) (chk_le (by omega) (chk_le (by omega) (chk_le (by omega) (chk_le (by omega) (chk_le (by omega) (le_0))))))))
set_option maxHeartbeats 4000000 in
set_option maxRecDepth 100000 in
theorem law_shake {p : Program} {l : Launch} {e : Env} {s : State} {m : MethodId} {below : List Frame} {meth : Method} {c : Code} {Q : State → Prop} {b L : Nat} {xs : Nat → Int32} {G : mg} (C0 : TwC p l s m c b L xs G) {H : Heap} {locs : List Loc} {ls : Array Slot} {cells slots : Nat} (hcs : cells + 1100 ≤ 845199 ∧ slots + 4500 ≤ 6560506) {cw rw o1 o2 : Nat} {st : St} {x5 p1 p2 p3 p4 : Int32} (hLI : TwI G s.heap.size H cw rw o1 o2 st) (hS : va_S (aH s.heap.size) s.heap H locs) (hl : lv_has ls 9 [(0, .ref b), (1, .ref cw), (2, .ref rw), (3, .ref o1), (4, .ref o2), (5, .int x5)]) (hi1 : vp_in (x5 + 1) L) (hi2 : vp_in (x5 + 2) L) (hi3 : vp_in (x5 + 3) L) (hi4 : vp_in (x5 + 4) L) (hv1 : xs (x5 + 1).toNatClampNeg = p1) (hv2 : xs (x5 + 2).toNatClampNeg = p2) (hv3 : xs (x5 + 3).toNatClampNeg = p3) (hv4 : xs (x5 + 4).toNatClampNeg = p4)
    (kk : ∀ (st1 : St) (H1 : Heap) (locs1 : List Loc) (ls1 : Array Slot), TwI G s.heap.size H1 cw rw o1 o2 st1 → va_S (aH s.heap.size) s.heap H1 locs1 → lv_has ls1 9 [(0, .ref b), (1, .ref cw), (2, .ref rw), (3, .ref o1), (4, .ref o2), (5, .int x5)] → W p l e room_1 s m #[Value.ref b] below meth c H1 locs1 (cells + 1100) (slots + 4500) Q (F0 m 2675 ls1 [])) : W p l e room_1 s m #[Value.ref b] below meth c H locs cells slots Q (F0 m 2331 ls []) := by
  obtain ⟨hx, hb, hml, hown, hts, hX, hbl, hG, hl9⟩ := C0
  obtain ⟨ad, g, Mc, Mr, f1, f2, hC, hR, hV, rfl, rfl, hLS⟩ := hLI
  have hA : ∀ q : Nat, s.heap.size ≤ q → aH s.heap.size q := fun _ h => h
  have hK := hG.K
  refine lv_aload_n hx hb dL_law_2331 rfl (lv_at hl 1 rfl) ?_
  refine lv_aload_n hx hb dL_law_2332 rfl (lv_at hl 0 rfl) ?_
  refine lv_iload hx hb dL_law_2333 (lv_at hl 5 rfl) ?_
  refine lv_iconst (v := 1) hx hb dL_law_2335 (by decide) ?_
  refine lv_iadd hx hb dL_law_2336 ?_
  refine lm_sld hx hb hX hbl hS hi1 hv1 dL_law_2337 ?_
  refine lv_aload_n hx hb dL_law_2338 rfl (lv_at hl 3 rfl) ?_
  have hLo := hLS
  have hz : s.heap.size ≤ H.size := hS.1
  have hPM : mP G.1 (mu Mc o1 (.inl (G.2.1 1, 1, .inr (.inl f1)))) H := mP_o hLo.1 hLo.2.2.1
  have hIM : mI (aH s.heap.size) (mu Mc o1 (.inl (G.2.1 1, 1, .inr (.inl f1)))) := mI.mu hLo.2.2.2.2.1.1 hLo.2.2.2.2.1.2.2.1
  refine ls_calli (vx_runSX (As := [.ref (ad 0 0), .int p1, .ref o1]) (rest := []) ⟨hx, hb, hml, hown, hts⟩ (c_L_shake l G (aS H (mu Mc o1 (.inl (G.2.1 1, 1, .inr (.inl f1))))) Mc hl9 st ad p1 o1 hLo.2.2.2.2.2.2.1 hC hV) (vx_cwSW 3 hts gL_law_L_shake rfl rfl rfl (by decide +kernel) ⟨Nat.le_of_ble_eq_true rfl, Nat.le_of_ble_eq_true rfl⟩) (sPreS hG hS hPM hIM hA) rfl rfl hl.1 rfl (lv_room (Nat.le_of_ble_eq_true rfl)) dL_law_2339 ⟨by show cells + 2 ≤ 845199; omega, by show slots + 12 ≤ 6560506; omega⟩) hIM hS hA (fun r6 M9 H locs hp9 hP9 hI9 hk9 hS => ?_)
  obtain ⟨ad1, Mc1, f9, e6, hn9, rfl, hC1, ha1, hf1⟩ := hp9
  have hLS := TwS.c1 hLo hz hP9 hn9 hI9 hk9
  refine lv_istore (lv' := [(6, .int r6), (0, .ref b), (1, .ref (ad 0 0)), (2, .ref (g.1 0 0)), (3, .ref o1), (4, .ref o2), (5, .int x5)]) hx hb dL_law_2342 hl (by decide) rfl (fun ls hl => ?_)
  refine lv_aload_n hx hb dL_law_2344 rfl (lv_at hl 3 rfl) ?_
  refine lv_aload_n hx hb dL_law_2345 rfl (lv_at hl 1 rfl) ?_
  refine lv_iload hx hb dL_law_2346 (lv_at hl 6 rfl) ?_
  refine lv_iconst (v := 1) hx hb dL_law_2348 (by decide) ?_
  refine lv_iadd hx hb dL_law_2349 ?_
  refine lm_sld hx hb hX hbl hS hi1 hv1 dL_law_2350 ?_
  have hz : s.heap.size ≤ H.size := hS.1
  refine lm_calli (va_runV (As := [.int p1]) (rest := []) ⟨hx, hb, hml, hown, hts⟩ (c_X7_shake l G (aS H Mr) Mr st g p1 hR hV) (cwV 1 hts gL_law_X7_shake rfl rfl rfl (by decide +kernel) ⟨Nat.le_of_ble_eq_true rfl, Nat.le_of_ble_eq_true rfl⟩) (sPreV hG hS hLS.2.1 hLS.2.2.2.2.1.2.1 hA (RS.at0 hR hLS.2.1) (r := (RX7, TX7, 7)) rfl) rfl rfl hl.1 rfl (lv_room (Nat.le_of_ble_eq_true rfl)) dL_law_2351 ⟨by show cells + 2 + 0 ≤ 845199; omega, by show slots + 12 + 0 ≤ 6560506; omega⟩) hLS.2.2.2.2.1.2.1 hS hA (fun r7 Mr1 H locs hp9 hP9 hI9 hk9 hS => ?_)
  obtain ⟨g1, hR1, ht1, hr1, hg1⟩ := hp9
  have hLS := (TwS.c hLS.sw hz hP9 hI9 hk9).sw
  refine lv_istore (lv' := [(7, .int r7), (6, .int r6), (0, .ref b), (1, .ref (ad 0 0)), (2, .ref (g.1 0 0)), (3, .ref o1), (4, .ref o2), (5, .int x5)]) hx hb dL_law_2354 hl (by decide) rfl (fun ls hl => ?_)
  refine lv_aload_n hx hb dL_law_2356 rfl (lv_at hl 4 rfl) ?_
  have hz : s.heap.size ≤ H.size := hS.1
  have hX9 : Mr1 (g.1 0 0) = some (.inr (10, [.ref (g1.1 1 0), .ref (g1.1 2 0), .int (gS (m_shake st p1).2.2 2), .int (gS (m_shake st p1).2.2 3), .int (gS (m_shake st p1).2.2 1), .int (gS (m_shake st p1).2.2 0), .int (thR g1)])) := by rw [← hg1]; exact (hR1.1 0 0 ro0).trans (congrArg some (celR_0 G (m_shake st p1).2.2 g1 0))
  refine lm_calli (va_runV (As := []) (rest := []) ⟨hx, hb, hml, hown, hts⟩ (c_X7_thrown l G (aS H Mr1) Mr1 hX9) (cwV 0 hts gL_law_X7_thrown rfl rfl rfl (by decide +kernel) ⟨Nat.le_of_ble_eq_true rfl, Nat.le_of_ble_eq_true rfl⟩) (sPreV hG hS hLS.2.1 hLS.2.2.2.2.1.2.1 hA (hLS.2.1 _ _ hX9) (r := (RX7, TX7, 7)) rfl) rfl rfl hl.1 rfl (lv_room (Nat.le_of_ble_eq_true rfl)) dL_law_2357 ⟨by show cells + 2 + 0 + 0 ≤ 845199; omega, by show slots + 12 + 0 + 0 ≤ 6560506; omega⟩) hLS.2.2.2.2.1.2.1 hS hA (fun r8 M9 H locs hp9 hP9 hI9 hk9 hS => ?_)
  obtain ⟨e8, hm9⟩ := hp9
  subst M9
  have hLS := (TwS.c hLS.sw hz hP9 hI9 hk9).sw
  refine lv_iload hx hb dL_law_2360 (lv_at hl 1 rfl) ?_
  refine lv_icmp_eq (tgt := 2367) hx hb dL_law_2362 (by decide) (fun c1 => ?_) (fun c1 => absurd c1 (fun z => z (by rw [e8, ht1, e6])))
  refine lv_iload hx hb dL_law_2367 (lv_at hl 1 rfl) ?_
  refine lv_if_ne (tgt := 2384) hx hb dL_law_2369 (by decide) (fun c2 => ?_) (fun c2 => ?_)
  · skip
    refine lv_goto (tgt := 2675) hx hb dL_law_2384 (by decide) ?_
    refine W.widen (k := cells + 1100) (n := slots + 4500) (by omega) (by omega) ?_
    exact kk _ H locs ls ⟨ad1, g1, Mc1, Mr1, f9, f2, hC1, hR1, (I_shake hV p1), ha1, hg1, hLS⟩ hS (lv_sub hl [2, 3, 4, 5, 6, 7] rfl)
  · skip
    have h0 := nI_z (le_shake st p1) (e6.symm.trans c2)
    refine lv_aload_n hx hb dL_law_2372 rfl (lv_at hl 5 rfl) ?_
    refine lv_iconst (v := 0) hx hb dL_law_2373 (by decide) ?_
    refine lm_lald hx hb hK 1 hLS.2.2.1 rfl (show vp_in 0 1 by unfold vp_in; decide) (hf1 h0) dL_law_2374 ?_
    refine lv_iload hx hb dL_law_2375 (lv_at hl 0 rfl) ?_
    refine lv_i2l (v := r7.toInt64) hx hb dL_law_2377 rfl ?_
    refine m_lcmp_eq (tgt := 2384) hx hb dL_law_2378 dL_law_2379 (by decide) (fun c3 => ?_) (fun c3 => ?_)
    · skip
      refine lv_goto (tgt := 2675) hx hb dL_law_2384 (by decide) ?_
      refine W.widen (k := cells + 1100) (n := slots + 4500) (by omega) (by omega) ?_
      exact kk _ H locs ls ⟨ad1, g1, Mc1, Mr1, f9, f2, hC1, hR1, (I_shake hV p1), ha1, hg1, hLS⟩ hS (lv_sub hl [2, 3, 4, 5, 6, 7] rfl)
    · skip
      exact absurd (by rw [hr1 h0]) c3
theorem le_barometer (st : St) (p0 p1 p2 p3 : Int32) : (m_barometer st p0 p1 p2 p3).1 < 100 := by
  unfold m_barometer
  first | exact le_0 | exact chk_le (by omega) (le_0) | exact chk_le (by omega) (chk_le (by omega) (le_0)) | exact chk_le (by omega) (chk_le (by omega) (chk_le (by omega) (le_0))) | exact chk_le (by omega) (chk_le (by omega) (chk_le (by omega) (chk_le (by omega) (le_0)))) | exact chk_le (by omega) (chk_le (by omega) (chk_le (by omega) (chk_le (by omega) (chk_le (by omega) (le_0))))) | exact chk_le (by omega) (chk_le (by omega) (chk_le (by omega) (chk_le (by omega) (chk_le (by omega) (chk_le (by omega) (le_0)))))) | exact chk_le (by omega) (chk_le (by omega) (chk_le (by omega) (chk_le (by omega) (chk_le (by omega) (chk_le (by omega) (chk_le (by omega) (le_0))))))) | exact chk_le (by omega) (chk_le (by omega) (chk_le (by omega) (chk_le (by omega) (chk_le (by omega) (chk_le (by omega) (chk_le (by omega) (chk_le (by omega) (le_0))))))))
theorem I_barometer {st : St} (h : Inv st) (p0 p1 p2 p3 : Int32) : Inv (m_barometer st p0 p1 p2 p3).2.2 := by
  unfold m_barometer
  first | exact h | exact chk_I h (fun _ => h) | exact chk_I h (fun _ => chk_I h (fun _ => h)) | exact chk_I h (fun _ => chk_I h (fun _ => chk_I h (fun _ => h))) | exact chk_I h (fun _ => chk_I h (fun _ => chk_I h (fun _ => chk_I h (fun _ => h)))) | exact chk_I h (fun _ => chk_I h (fun _ => chk_I h (fun _ => chk_I h (fun _ => chk_I h (fun _ => h))))) | exact chk_I h (fun _ => chk_I h (fun _ => chk_I h (fun _ => chk_I h (fun _ => chk_I h (fun _ => chk_I h (fun _ => h)))))) | exact chk_I h (fun _ => chk_I h (fun _ => chk_I h (fun _ => chk_I h (fun _ => chk_I h (fun _ => chk_I h (fun _ => chk_I h (fun _ => h))))))) | exact chk_I h (fun _ => chk_I h (fun _ => chk_I h (fun _ => chk_I h (fun _ => chk_I h (fun _ => chk_I h (fun _ => chk_I h (fun _ => chk_I h (fun _ => h))))))))
set_option maxHeartbeats 4000000 in
set_option maxRecDepth 100000 in
theorem law_barometer {p : Program} {l : Launch} {e : Env} {s : State} {m : MethodId} {below : List Frame} {meth : Method} {c : Code} {Q : State → Prop} {b L : Nat} {xs : Nat → Int32} {G : mg} (C0 : TwC p l s m c b L xs G) {H : Heap} {locs : List Loc} {ls : Array Slot} {cells slots : Nat} (hcs : cells + 1100 ≤ 845199 ∧ slots + 4500 ≤ 6560506) {cw rw o1 o2 : Nat} {st : St} {x5 p1 p2 p3 p4 : Int32} (hLI : TwI G s.heap.size H cw rw o1 o2 st) (hS : va_S (aH s.heap.size) s.heap H locs) (hl : lv_has ls 9 [(0, .ref b), (1, .ref cw), (2, .ref rw), (3, .ref o1), (4, .ref o2), (5, .int x5)]) (hi1 : vp_in (x5 + 1) L) (hi2 : vp_in (x5 + 2) L) (hi3 : vp_in (x5 + 3) L) (hi4 : vp_in (x5 + 4) L) (hv1 : xs (x5 + 1).toNatClampNeg = p1) (hv2 : xs (x5 + 2).toNatClampNeg = p2) (hv3 : xs (x5 + 3).toNatClampNeg = p3) (hv4 : xs (x5 + 4).toNatClampNeg = p4)
    (kk : ∀ (st1 : St) (H1 : Heap) (locs1 : List Loc) (ls1 : Array Slot), TwI G s.heap.size H1 cw rw o1 o2 st1 → va_S (aH s.heap.size) s.heap H1 locs1 → lv_has ls1 9 [(0, .ref b), (1, .ref cw), (2, .ref rw), (3, .ref o1), (4, .ref o2), (5, .int x5)] → W p l e room_1 s m #[Value.ref b] below meth c H1 locs1 (cells + 1100) (slots + 4500) Q (F0 m 2675 ls1 [])) : W p l e room_1 s m #[Value.ref b] below meth c H locs cells slots Q (F0 m 2387 ls []) := by
  obtain ⟨hx, hb, hml, hown, hts, hX, hbl, hG, hl9⟩ := C0
  obtain ⟨ad, g, Mc, Mr, f1, f2, hC, hR, hV, rfl, rfl, hLS⟩ := hLI
  have hA : ∀ q : Nat, s.heap.size ≤ q → aH s.heap.size q := fun _ h => h
  have hK := hG.K
  refine lv_aload_n hx hb dL_law_2387 rfl (lv_at hl 1 rfl) ?_
  refine lv_aload_n hx hb dL_law_2388 rfl (lv_at hl 0 rfl) ?_
  refine lv_iload hx hb dL_law_2389 (lv_at hl 5 rfl) ?_
  refine lv_iconst (v := 1) hx hb dL_law_2391 (by decide) ?_
  refine lv_iadd hx hb dL_law_2392 ?_
  refine lm_sld hx hb hX hbl hS hi1 hv1 dL_law_2393 ?_
  refine lv_aload_n hx hb dL_law_2394 rfl (lv_at hl 0 rfl) ?_
  refine lv_iload hx hb dL_law_2395 (lv_at hl 5 rfl) ?_
  refine lv_iconst (v := 2) hx hb dL_law_2397 (by decide) ?_
  refine lv_iadd hx hb dL_law_2398 ?_
  refine lm_sld hx hb hX hbl hS hi2 hv2 dL_law_2399 ?_
  refine lv_aload_n hx hb dL_law_2400 rfl (lv_at hl 0 rfl) ?_
  refine lv_iload hx hb dL_law_2401 (lv_at hl 5 rfl) ?_
  refine lv_iconst (v := 3) hx hb dL_law_2403 (by decide) ?_
  refine lv_iadd hx hb dL_law_2404 ?_
  refine lm_sld hx hb hX hbl hS hi3 hv3 dL_law_2405 ?_
  refine lv_aload_n hx hb dL_law_2406 rfl (lv_at hl 0 rfl) ?_
  refine lv_iload hx hb dL_law_2407 (lv_at hl 5 rfl) ?_
  refine lv_iconst (v := 4) hx hb dL_law_2409 (by decide) ?_
  refine lv_iadd hx hb dL_law_2410 ?_
  refine lm_sld hx hb hX hbl hS hi4 hv4 dL_law_2411 ?_
  refine lv_aload_n hx hb dL_law_2412 rfl (lv_at hl 3 rfl) ?_
  have hLo := hLS
  have hz : s.heap.size ≤ H.size := hS.1
  have hPM : mP G.1 (mu Mc o1 (.inl (G.2.1 1, 1, .inr (.inl f1)))) H := mP_o hLo.1 hLo.2.2.1
  have hIM : mI (aH s.heap.size) (mu Mc o1 (.inl (G.2.1 1, 1, .inr (.inl f1)))) := mI.mu hLo.2.2.2.2.1.1 hLo.2.2.2.2.1.2.2.1
  refine ls_calli (vx_runSX (As := [.ref (ad 0 0), .int p1, .int p2, .int p3, .int p4, .ref o1]) (rest := []) ⟨hx, hb, hml, hown, hts⟩ (c_L_barometer l G (aS H (mu Mc o1 (.inl (G.2.1 1, 1, .inr (.inl f1))))) Mc hl9 st ad p1 p2 p3 p4 o1 hLo.2.2.2.2.2.2.1 hC hV) (vx_cwSW 6 hts gL_law_L_barometer rfl rfl rfl (by decide +kernel) ⟨Nat.le_of_ble_eq_true rfl, Nat.le_of_ble_eq_true rfl⟩) (sPreS hG hS hPM hIM hA) rfl rfl hl.1 rfl (lv_room (Nat.le_of_ble_eq_true rfl)) dL_law_2413 ⟨by show cells + 4 ≤ 845199; omega, by show slots + 24 ≤ 6560506; omega⟩) hIM hS hA (fun r6 M9 H locs hp9 hP9 hI9 hk9 hS => ?_)
  obtain ⟨ad1, Mc1, f9, e6, hn9, rfl, hC1, ha1, hf1⟩ := hp9
  have hLS := TwS.c1 hLo hz hP9 hn9 hI9 hk9
  refine lv_istore (lv' := [(6, .int r6), (0, .ref b), (1, .ref (ad 0 0)), (2, .ref (g.1 0 0)), (3, .ref o1), (4, .ref o2), (5, .int x5)]) hx hb dL_law_2416 hl (by decide) rfl (fun ls hl => ?_)
  refine lv_aload_n hx hb dL_law_2418 rfl (lv_at hl 3 rfl) ?_
  refine lv_aload_n hx hb dL_law_2419 rfl (lv_at hl 1 rfl) ?_
  refine lv_iload hx hb dL_law_2420 (lv_at hl 6 rfl) ?_
  refine lv_iconst (v := 1) hx hb dL_law_2422 (by decide) ?_
  refine lv_iadd hx hb dL_law_2423 ?_
  refine lm_sld hx hb hX hbl hS hi1 hv1 dL_law_2424 ?_
  refine lv_aload_n hx hb dL_law_2425 rfl (lv_at hl 1 rfl) ?_
  refine lv_iload hx hb dL_law_2426 (lv_at hl 6 rfl) ?_
  refine lv_iconst (v := 2) hx hb dL_law_2428 (by decide) ?_
  refine lv_iadd hx hb dL_law_2429 ?_
  refine lm_sld hx hb hX hbl hS hi2 hv2 dL_law_2430 ?_
  refine lv_aload_n hx hb dL_law_2431 rfl (lv_at hl 1 rfl) ?_
  refine lv_iload hx hb dL_law_2432 (lv_at hl 6 rfl) ?_
  refine lv_iconst (v := 3) hx hb dL_law_2434 (by decide) ?_
  refine lv_iadd hx hb dL_law_2435 ?_
  refine lm_sld hx hb hX hbl hS hi3 hv3 dL_law_2436 ?_
  refine lv_aload_n hx hb dL_law_2437 rfl (lv_at hl 1 rfl) ?_
  refine lv_iload hx hb dL_law_2438 (lv_at hl 6 rfl) ?_
  refine lv_iconst (v := 4) hx hb dL_law_2440 (by decide) ?_
  refine lv_iadd hx hb dL_law_2441 ?_
  refine lm_sld hx hb hX hbl hS hi4 hv4 dL_law_2442 ?_
  have hz : s.heap.size ≤ H.size := hS.1
  refine lm_calli (va_runV (As := [.int p1, .int p2, .int p3, .int p4]) (rest := []) ⟨hx, hb, hml, hown, hts⟩ (c_X7_barometer l G (aS H Mr) Mr st g p1 p2 p3 p4 hR hV) (cwV 4 hts gL_law_X7_barometer rfl rfl rfl (by decide +kernel) ⟨Nat.le_of_ble_eq_true rfl, Nat.le_of_ble_eq_true rfl⟩) (sPreV hG hS hLS.2.1 hLS.2.2.2.2.1.2.1 hA (RS.at0 hR hLS.2.1) (r := (RX7, TX7, 7)) rfl) rfl rfl hl.1 rfl (lv_room (Nat.le_of_ble_eq_true rfl)) dL_law_2443 ⟨by show cells + 4 + 0 ≤ 845199; omega, by show slots + 24 + 0 ≤ 6560506; omega⟩) hLS.2.2.2.2.1.2.1 hS hA (fun r7 Mr1 H locs hp9 hP9 hI9 hk9 hS => ?_)
  obtain ⟨g1, hR1, ht1, hr1, hg1⟩ := hp9
  have hLS := (TwS.c hLS.sw hz hP9 hI9 hk9).sw
  refine lv_istore (lv' := [(7, .int r7), (6, .int r6), (0, .ref b), (1, .ref (ad 0 0)), (2, .ref (g.1 0 0)), (3, .ref o1), (4, .ref o2), (5, .int x5)]) hx hb dL_law_2446 hl (by decide) rfl (fun ls hl => ?_)
  refine lv_aload_n hx hb dL_law_2448 rfl (lv_at hl 4 rfl) ?_
  have hz : s.heap.size ≤ H.size := hS.1
  have hX9 : Mr1 (g.1 0 0) = some (.inr (10, [.ref (g1.1 1 0), .ref (g1.1 2 0), .int (gS (m_barometer st p1 p2 p3 p4).2.2 2), .int (gS (m_barometer st p1 p2 p3 p4).2.2 3), .int (gS (m_barometer st p1 p2 p3 p4).2.2 1), .int (gS (m_barometer st p1 p2 p3 p4).2.2 0), .int (thR g1)])) := by rw [← hg1]; exact (hR1.1 0 0 ro0).trans (congrArg some (celR_0 G (m_barometer st p1 p2 p3 p4).2.2 g1 0))
  refine lm_calli (va_runV (As := []) (rest := []) ⟨hx, hb, hml, hown, hts⟩ (c_X7_thrown l G (aS H Mr1) Mr1 hX9) (cwV 0 hts gL_law_X7_thrown rfl rfl rfl (by decide +kernel) ⟨Nat.le_of_ble_eq_true rfl, Nat.le_of_ble_eq_true rfl⟩) (sPreV hG hS hLS.2.1 hLS.2.2.2.2.1.2.1 hA (hLS.2.1 _ _ hX9) (r := (RX7, TX7, 7)) rfl) rfl rfl hl.1 rfl (lv_room (Nat.le_of_ble_eq_true rfl)) dL_law_2449 ⟨by show cells + 4 + 0 + 0 ≤ 845199; omega, by show slots + 24 + 0 + 0 ≤ 6560506; omega⟩) hLS.2.2.2.2.1.2.1 hS hA (fun r8 M9 H locs hp9 hP9 hI9 hk9 hS => ?_)
  obtain ⟨e8, hm9⟩ := hp9
  subst M9
  have hLS := (TwS.c hLS.sw hz hP9 hI9 hk9).sw
  refine lv_iload hx hb dL_law_2452 (lv_at hl 1 rfl) ?_
  refine lv_icmp_eq (tgt := 2459) hx hb dL_law_2454 (by decide) (fun c1 => ?_) (fun c1 => absurd c1 (fun z => z (by rw [e8, ht1, e6])))
  refine lv_iload hx hb dL_law_2459 (lv_at hl 1 rfl) ?_
  refine lv_if_ne (tgt := 2476) hx hb dL_law_2461 (by decide) (fun c2 => ?_) (fun c2 => ?_)
  · skip
    refine lv_goto (tgt := 2675) hx hb dL_law_2476 (by decide) ?_
    refine W.widen (k := cells + 1100) (n := slots + 4500) (by omega) (by omega) ?_
    exact kk _ H locs ls ⟨ad1, g1, Mc1, Mr1, f9, f2, hC1, hR1, (I_barometer hV p1 p2 p3 p4), ha1, hg1, hLS⟩ hS (lv_sub hl [2, 3, 4, 5, 6, 7] rfl)
  · skip
    have h0 := nI_z (le_barometer st p1 p2 p3 p4) (e6.symm.trans c2)
    refine lv_aload_n hx hb dL_law_2464 rfl (lv_at hl 5 rfl) ?_
    refine lv_iconst (v := 0) hx hb dL_law_2465 (by decide) ?_
    refine lm_lald hx hb hK 1 hLS.2.2.1 rfl (show vp_in 0 1 by unfold vp_in; decide) (hf1 h0) dL_law_2466 ?_
    refine lv_iload hx hb dL_law_2467 (lv_at hl 0 rfl) ?_
    refine lv_i2l (v := r7.toInt64) hx hb dL_law_2469 rfl ?_
    refine m_lcmp_eq (tgt := 2476) hx hb dL_law_2470 dL_law_2471 (by decide) (fun c3 => ?_) (fun c3 => ?_)
    · skip
      refine lv_goto (tgt := 2675) hx hb dL_law_2476 (by decide) ?_
      refine W.widen (k := cells + 1100) (n := slots + 4500) (by omega) (by omega) ?_
      exact kk _ H locs ls ⟨ad1, g1, Mc1, Mr1, f9, f2, hC1, hR1, (I_barometer hV p1 p2 p3 p4), ha1, hg1, hLS⟩ hS (lv_sub hl [2, 3, 4, 5, 6, 7] rfl)
    · skip
      exact absurd (by rw [hr1 h0]) c3
set_option maxHeartbeats 4000000 in
set_option maxRecDepth 100000 in
theorem law_stock {p : Program} {l : Launch} {e : Env} {s : State} {m : MethodId} {below : List Frame} {meth : Method} {c : Code} {Q : State → Prop} {b L : Nat} {xs : Nat → Int32} {G : mg} (C0 : TwC p l s m c b L xs G) {H : Heap} {locs : List Loc} {ls : Array Slot} {cells slots : Nat} (hcs : cells + 1100 ≤ 845199 ∧ slots + 4500 ≤ 6560506) {cw rw o1 o2 : Nat} {st : St} {x5 p1 p2 p3 p4 : Int32} (hLI : TwI G s.heap.size H cw rw o1 o2 st) (hS : va_S (aH s.heap.size) s.heap H locs) (hl : lv_has ls 9 [(0, .ref b), (1, .ref cw), (2, .ref rw), (3, .ref o1), (4, .ref o2), (5, .int x5)]) (hi1 : vp_in (x5 + 1) L) (hi2 : vp_in (x5 + 2) L) (hi3 : vp_in (x5 + 3) L) (hi4 : vp_in (x5 + 4) L) (hv1 : xs (x5 + 1).toNatClampNeg = p1) (hv2 : xs (x5 + 2).toNatClampNeg = p2) (hv3 : xs (x5 + 3).toNatClampNeg = p3) (hv4 : xs (x5 + 4).toNatClampNeg = p4)
    (kk : ∀ (st1 : St) (H1 : Heap) (locs1 : List Loc) (ls1 : Array Slot), TwI G s.heap.size H1 cw rw o1 o2 st1 → va_S (aH s.heap.size) s.heap H1 locs1 → lv_has ls1 9 [(0, .ref b), (1, .ref cw), (2, .ref rw), (3, .ref o1), (4, .ref o2), (5, .int x5)] → W p l e room_1 s m #[Value.ref b] below meth c H1 locs1 (cells + 1100) (slots + 4500) Q (F0 m 2675 ls1 [])) : W p l e room_1 s m #[Value.ref b] below meth c H locs cells slots Q (F0 m 2479 ls []) := by
  obtain ⟨hx, hb, hml, hown, hts, hX, hbl, hG, hl9⟩ := C0
  obtain ⟨ad, g, Mc, Mr, f1, f2, hC, hR, hV, rfl, rfl, hLS⟩ := hLI
  have hA : ∀ q : Nat, s.heap.size ≤ q → aH s.heap.size q := fun _ h => h
  have hK := hG.K
  refine lv_aload_n hx hb dL_law_2479 rfl (lv_at hl 1 rfl) ?_
  have hz : s.heap.size ≤ H.size := hS.1
  refine lm_calli (va_runV (As := []) (rest := []) ⟨hx, hb, hml, hown, hts⟩ (c_X4_stock l G (aS H Mc) Mc st ad hC) (cwV 0 hts gL_law_X4_stock rfl rfl rfl (by decide +kernel) ⟨Nat.le_of_ble_eq_true rfl, Nat.le_of_ble_eq_true rfl⟩) (sPreV hG hS hLS.1 hLS.2.2.2.2.1.1 hA (hLS.1 (ad 0 0) _ (hC.1 0 0 (ok0 st))) (r := (RX4, TX4, 9)) rfl) rfl rfl hl.1 rfl (lv_room (Nat.le_of_ble_eq_true rfl)) dL_law_2480 ⟨by show cells + 0 ≤ 845199; omega, by show slots + 0 ≤ 6560506; omega⟩) hLS.2.2.2.2.1.1 hS hA (fun r6 M9 H locs hp9 hP9 hI9 hk9 hS => ?_)
  obtain ⟨e6, hm9⟩ := hp9
  subst M9
  have hLS := TwS.c hLS hz hP9 hI9 hk9
  refine lv_aload_n hx hb dL_law_2483 rfl (lv_at hl 2 rfl) ?_
  have hz : s.heap.size ≤ H.size := hS.1
  refine lm_calli (va_runV (As := []) (rest := [.int r6]) ⟨hx, hb, hml, hown, hts⟩ (c_X7_stock l G (aS H Mr) Mr st g hR) (cwV 0 hts gL_law_X7_stock rfl rfl rfl (by decide +kernel) ⟨Nat.le_of_ble_eq_true rfl, Nat.le_of_ble_eq_true rfl⟩) (sPreV hG hS hLS.2.1 hLS.2.2.2.2.1.2.1 hA (RS.at0 hR hLS.2.1) (r := (RX7, TX7, 7)) rfl) rfl rfl hl.1 rfl (lv_room (Nat.le_of_ble_eq_true rfl)) dL_law_2484 ⟨by show cells + 0 + 0 ≤ 845199; omega, by show slots + 0 + 0 ≤ 6560506; omega⟩) hLS.2.2.2.2.1.2.1 hS hA (fun r7 Mr1 H locs hp9 hP9 hI9 hk9 hS => ?_)
  obtain ⟨e7, hR1⟩ := hp9
  have hLS := (TwS.c hLS.sw hz hP9 hI9 hk9).sw
  refine lv_icmp_eq (tgt := 2675) hx hb dL_law_2487 (by decide) (fun c1 => ?_) (fun c1 => absurd c1 (fun z => z (by rw [e6, e7])))
  refine W.widen (k := cells + 1100) (n := slots + 4500) (by omega) (by omega) ?_
  exact kk _ H locs ls ⟨ad, tG g 0, Mc, Mr1, f1, f2, hC, hR1, hV, rfl, rfl, hLS⟩ hS (lv_sub hl [0, 1, 2, 3, 4, 5] rfl)
set_option maxHeartbeats 4000000 in
set_option maxRecDepth 100000 in
theorem law_spilt {p : Program} {l : Launch} {e : Env} {s : State} {m : MethodId} {below : List Frame} {meth : Method} {c : Code} {Q : State → Prop} {b L : Nat} {xs : Nat → Int32} {G : mg} (C0 : TwC p l s m c b L xs G) {H : Heap} {locs : List Loc} {ls : Array Slot} {cells slots : Nat} (hcs : cells + 1100 ≤ 845199 ∧ slots + 4500 ≤ 6560506) {cw rw o1 o2 : Nat} {st : St} {x5 p1 p2 p3 p4 : Int32} (hLI : TwI G s.heap.size H cw rw o1 o2 st) (hS : va_S (aH s.heap.size) s.heap H locs) (hl : lv_has ls 9 [(0, .ref b), (1, .ref cw), (2, .ref rw), (3, .ref o1), (4, .ref o2), (5, .int x5)]) (hi1 : vp_in (x5 + 1) L) (hi2 : vp_in (x5 + 2) L) (hi3 : vp_in (x5 + 3) L) (hi4 : vp_in (x5 + 4) L) (hv1 : xs (x5 + 1).toNatClampNeg = p1) (hv2 : xs (x5 + 2).toNatClampNeg = p2) (hv3 : xs (x5 + 3).toNatClampNeg = p3) (hv4 : xs (x5 + 4).toNatClampNeg = p4)
    (kk : ∀ (st1 : St) (H1 : Heap) (locs1 : List Loc) (ls1 : Array Slot), TwI G s.heap.size H1 cw rw o1 o2 st1 → va_S (aH s.heap.size) s.heap H1 locs1 → lv_has ls1 9 [(0, .ref b), (1, .ref cw), (2, .ref rw), (3, .ref o1), (4, .ref o2), (5, .int x5)] → W p l e room_1 s m #[Value.ref b] below meth c H1 locs1 (cells + 1100) (slots + 4500) Q (F0 m 2675 ls1 [])) : W p l e room_1 s m #[Value.ref b] below meth c H locs cells slots Q (F0 m 2492 ls []) := by
  obtain ⟨hx, hb, hml, hown, hts, hX, hbl, hG, hl9⟩ := C0
  obtain ⟨ad, g, Mc, Mr, f1, f2, hC, hR, hV, rfl, rfl, hLS⟩ := hLI
  have hA : ∀ q : Nat, s.heap.size ≤ q → aH s.heap.size q := fun _ h => h
  have hK := hG.K
  refine lv_aload_n hx hb dL_law_2492 rfl (lv_at hl 1 rfl) ?_
  have hz : s.heap.size ≤ H.size := hS.1
  refine lm_calli (va_runV (As := []) (rest := []) ⟨hx, hb, hml, hown, hts⟩ (c_X4_spilt l G (aS H Mc) Mc st ad hC) (cwV 0 hts gL_law_X4_spilt rfl rfl rfl (by decide +kernel) ⟨Nat.le_of_ble_eq_true rfl, Nat.le_of_ble_eq_true rfl⟩) (sPreV hG hS hLS.1 hLS.2.2.2.2.1.1 hA (hLS.1 (ad 0 0) _ (hC.1 0 0 (ok0 st))) (r := (RX4, TX4, 9)) rfl) rfl rfl hl.1 rfl (lv_room (Nat.le_of_ble_eq_true rfl)) dL_law_2493 ⟨by show cells + 0 ≤ 845199; omega, by show slots + 0 ≤ 6560506; omega⟩) hLS.2.2.2.2.1.1 hS hA (fun r6 M9 H locs hp9 hP9 hI9 hk9 hS => ?_)
  obtain ⟨e6, hm9⟩ := hp9
  subst M9
  have hLS := TwS.c hLS hz hP9 hI9 hk9
  refine lv_aload_n hx hb dL_law_2496 rfl (lv_at hl 2 rfl) ?_
  have hz : s.heap.size ≤ H.size := hS.1
  refine lm_calli (va_runV (As := []) (rest := [.int r6]) ⟨hx, hb, hml, hown, hts⟩ (c_X7_spilt l G (aS H Mr) Mr st g hR) (cwV 0 hts gL_law_X7_spilt rfl rfl rfl (by decide +kernel) ⟨Nat.le_of_ble_eq_true rfl, Nat.le_of_ble_eq_true rfl⟩) (sPreV hG hS hLS.2.1 hLS.2.2.2.2.1.2.1 hA (RS.at0 hR hLS.2.1) (r := (RX7, TX7, 7)) rfl) rfl rfl hl.1 rfl (lv_room (Nat.le_of_ble_eq_true rfl)) dL_law_2497 ⟨by show cells + 0 + 0 ≤ 845199; omega, by show slots + 0 + 0 ≤ 6560506; omega⟩) hLS.2.2.2.2.1.2.1 hS hA (fun r7 Mr1 H locs hp9 hP9 hI9 hk9 hS => ?_)
  obtain ⟨e7, hR1⟩ := hp9
  have hLS := (TwS.c hLS.sw hz hP9 hI9 hk9).sw
  refine lv_icmp_eq (tgt := 2675) hx hb dL_law_2500 (by decide) (fun c1 => ?_) (fun c1 => absurd c1 (fun z => z (by rw [e6, e7])))
  refine W.widen (k := cells + 1100) (n := slots + 4500) (by omega) (by omega) ?_
  exact kk _ H locs ls ⟨ad, tG g 0, Mc, Mr1, f1, f2, hC, hR1, hV, rfl, rfl, hLS⟩ hS (lv_sub hl [0, 1, 2, 3, 4, 5] rfl)
set_option maxHeartbeats 4000000 in
set_option maxRecDepth 100000 in
theorem law_checksum {p : Program} {l : Launch} {e : Env} {s : State} {m : MethodId} {below : List Frame} {meth : Method} {c : Code} {Q : State → Prop} {b L : Nat} {xs : Nat → Int32} {G : mg} (C0 : TwC p l s m c b L xs G) {H : Heap} {locs : List Loc} {ls : Array Slot} {cells slots : Nat} (hcs : cells + 1100 ≤ 845199 ∧ slots + 4500 ≤ 6560506) {cw rw o1 o2 : Nat} {st : St} {x5 p1 p2 p3 p4 : Int32} (hLI : TwI G s.heap.size H cw rw o1 o2 st) (hS : va_S (aH s.heap.size) s.heap H locs) (hl : lv_has ls 9 [(0, .ref b), (1, .ref cw), (2, .ref rw), (3, .ref o1), (4, .ref o2), (5, .int x5)]) (hi1 : vp_in (x5 + 1) L) (hi2 : vp_in (x5 + 2) L) (hi3 : vp_in (x5 + 3) L) (hi4 : vp_in (x5 + 4) L) (hv1 : xs (x5 + 1).toNatClampNeg = p1) (hv2 : xs (x5 + 2).toNatClampNeg = p2) (hv3 : xs (x5 + 3).toNatClampNeg = p3) (hv4 : xs (x5 + 4).toNatClampNeg = p4)
    (kk : ∀ (st1 : St) (H1 : Heap) (locs1 : List Loc) (ls1 : Array Slot), TwI G s.heap.size H1 cw rw o1 o2 st1 → va_S (aH s.heap.size) s.heap H1 locs1 → lv_has ls1 9 [(0, .ref b), (1, .ref cw), (2, .ref rw), (3, .ref o1), (4, .ref o2), (5, .int x5)] → W p l e room_1 s m #[Value.ref b] below meth c H1 locs1 (cells + 1100) (slots + 4500) Q (F0 m 2675 ls1 [])) : W p l e room_1 s m #[Value.ref b] below meth c H locs cells slots Q (F0 m 2505 ls []) := by
  obtain ⟨hx, hb, hml, hown, hts, hX, hbl, hG, hl9⟩ := C0
  obtain ⟨ad, g, Mc, Mr, f1, f2, hC, hR, hV, rfl, rfl, hLS⟩ := hLI
  have hA : ∀ q : Nat, s.heap.size ≤ q → aH s.heap.size q := fun _ h => h
  have hK := hG.K
  refine lv_aload_n hx hb dL_law_2505 rfl (lv_at hl 1 rfl) ?_
  have hz : s.heap.size ≤ H.size := hS.1
  refine lm_calll (va_runV (As := []) (rest := []) ⟨hx, hb, hml, hown, hts⟩ (c_X4_checksum l G (aS H Mc) Mc st ad hC hV) (cwV 0 hts gL_law_X4_checksum rfl rfl rfl (by decide +kernel) ⟨Nat.le_of_ble_eq_true rfl, Nat.le_of_ble_eq_true rfl⟩) (sPreV hG hS hLS.1 hLS.2.2.2.2.1.1 hA (hLS.1 (ad 0 0) _ (hC.1 0 0 (ok0 st))) (r := (RX4, TX4, 9)) rfl) rfl rfl hl.1 rfl (lv_room (Nat.le_of_ble_eq_true rfl)) dL_law_2506 ⟨by show cells + 0 ≤ 845199; omega, by show slots + 0 ≤ 6560506; omega⟩) hLS.2.2.2.2.1.1 hS hA (fun r6 M9 H locs hp9 hP9 hI9 hk9 hS => ?_)
  obtain ⟨e6, hm9⟩ := hp9
  subst M9
  have hLS := TwS.c hLS hz hP9 hI9 hk9
  refine lv_aload_n hx hb dL_law_2509 rfl (lv_at hl 2 rfl) ?_
  have hz : s.heap.size ≤ H.size := hS.1
  refine lm_calll (va_runV (As := []) (rest := [.long r6]) ⟨hx, hb, hml, hown, hts⟩ (c_X7_checksum l G (aS H Mr) Mr st g hR hV) (cwV 0 hts gL_law_X7_checksum rfl rfl rfl (by decide +kernel) ⟨Nat.le_of_ble_eq_true rfl, Nat.le_of_ble_eq_true rfl⟩) (sPreV hG hS hLS.2.1 hLS.2.2.2.2.1.2.1 hA (RS.at0 hR hLS.2.1) (r := (RX7, TX7, 7)) rfl) rfl rfl hl.1 rfl (lv_room (Nat.le_of_ble_eq_true rfl)) dL_law_2510 ⟨by show cells + 0 + 10 ≤ 845199; omega, by show slots + 0 + 40 ≤ 6560506; omega⟩) hLS.2.2.2.2.1.2.1 hS hA (fun r7 Mr1 H locs hp9 hP9 hI9 hk9 hS => ?_)
  obtain ⟨e7, hR1⟩ := hp9
  have hLS := (TwS.c hLS.sw hz hP9 hI9 hk9).sw
  refine m_lcmp_eq (tgt := 2675) hx hb dL_law_2513 dL_law_2514 (by decide) (fun c1 => ?_) (fun c1 => ?_)
  · skip
    refine W.widen (k := cells + 1100) (n := slots + 4500) (by omega) (by omega) ?_
    exact kk _ H locs ls ⟨ad, tG g 0, Mc, Mr1, f1, f2, hC, hR1, hV, rfl, rfl, hLS⟩ hS (lv_sub hl [0, 1, 2, 3, 4, 5] rfl)
  · skip
    exact absurd (by rw [e6, e7]) c1
theorem le_certifiedShare (st : St) : (m_certifiedShare st).1 < 100 := by
  unfold m_certifiedShare
  first | exact le_0 | exact chk_le (by omega) (le_0) | exact chk_le (by omega) (chk_le (by omega) (le_0)) | exact chk_le (by omega) (chk_le (by omega) (chk_le (by omega) (le_0))) | exact chk_le (by omega) (chk_le (by omega) (chk_le (by omega) (chk_le (by omega) (le_0)))) | exact chk_le (by omega) (chk_le (by omega) (chk_le (by omega) (chk_le (by omega) (chk_le (by omega) (le_0))))) | exact chk_le (by omega) (chk_le (by omega) (chk_le (by omega) (chk_le (by omega) (chk_le (by omega) (chk_le (by omega) (le_0)))))) | exact chk_le (by omega) (chk_le (by omega) (chk_le (by omega) (chk_le (by omega) (chk_le (by omega) (chk_le (by omega) (chk_le (by omega) (le_0))))))) | exact chk_le (by omega) (chk_le (by omega) (chk_le (by omega) (chk_le (by omega) (chk_le (by omega) (chk_le (by omega) (chk_le (by omega) (chk_le (by omega) (le_0))))))))
theorem I_certifiedShare {st : St} (h : Inv st) : Inv (m_certifiedShare st).2.2 := by
  unfold m_certifiedShare
  first | exact h | exact chk_I h (fun _ => h) | exact chk_I h (fun _ => chk_I h (fun _ => h)) | exact chk_I h (fun _ => chk_I h (fun _ => chk_I h (fun _ => h))) | exact chk_I h (fun _ => chk_I h (fun _ => chk_I h (fun _ => chk_I h (fun _ => h)))) | exact chk_I h (fun _ => chk_I h (fun _ => chk_I h (fun _ => chk_I h (fun _ => chk_I h (fun _ => h))))) | exact chk_I h (fun _ => chk_I h (fun _ => chk_I h (fun _ => chk_I h (fun _ => chk_I h (fun _ => chk_I h (fun _ => h)))))) | exact chk_I h (fun _ => chk_I h (fun _ => chk_I h (fun _ => chk_I h (fun _ => chk_I h (fun _ => chk_I h (fun _ => chk_I h (fun _ => h))))))) | exact chk_I h (fun _ => chk_I h (fun _ => chk_I h (fun _ => chk_I h (fun _ => chk_I h (fun _ => chk_I h (fun _ => chk_I h (fun _ => chk_I h (fun _ => h))))))))
set_option maxHeartbeats 4000000 in
set_option maxRecDepth 100000 in
theorem law_certifiedShare {p : Program} {l : Launch} {e : Env} {s : State} {m : MethodId} {below : List Frame} {meth : Method} {c : Code} {Q : State → Prop} {b L : Nat} {xs : Nat → Int32} {G : mg} (C0 : TwC p l s m c b L xs G) {H : Heap} {locs : List Loc} {ls : Array Slot} {cells slots : Nat} (hcs : cells + 1100 ≤ 845199 ∧ slots + 4500 ≤ 6560506) {cw rw o1 o2 : Nat} {st : St} {x5 p1 p2 p3 p4 : Int32} (hLI : TwI G s.heap.size H cw rw o1 o2 st) (hS : va_S (aH s.heap.size) s.heap H locs) (hl : lv_has ls 9 [(0, .ref b), (1, .ref cw), (2, .ref rw), (3, .ref o1), (4, .ref o2), (5, .int x5)]) (hi1 : vp_in (x5 + 1) L) (hi2 : vp_in (x5 + 2) L) (hi3 : vp_in (x5 + 3) L) (hi4 : vp_in (x5 + 4) L) (hv1 : xs (x5 + 1).toNatClampNeg = p1) (hv2 : xs (x5 + 2).toNatClampNeg = p2) (hv3 : xs (x5 + 3).toNatClampNeg = p3) (hv4 : xs (x5 + 4).toNatClampNeg = p4)
    (kk : ∀ (st1 : St) (H1 : Heap) (locs1 : List Loc) (ls1 : Array Slot), TwI G s.heap.size H1 cw rw o1 o2 st1 → va_S (aH s.heap.size) s.heap H1 locs1 → lv_has ls1 9 [(0, .ref b), (1, .ref cw), (2, .ref rw), (3, .ref o1), (4, .ref o2), (5, .int x5)] → W p l e room_1 s m #[Value.ref b] below meth c H1 locs1 (cells + 1100) (slots + 4500) Q (F0 m 2675 ls1 [])) : W p l e room_1 s m #[Value.ref b] below meth c H locs cells slots Q (F0 m 2519 ls []) := by
  obtain ⟨hx, hb, hml, hown, hts, hX, hbl, hG, hl9⟩ := C0
  obtain ⟨ad, g, Mc, Mr, f1, f2, hC, hR, hV, rfl, rfl, hLS⟩ := hLI
  have hA : ∀ q : Nat, s.heap.size ≤ q → aH s.heap.size q := fun _ h => h
  have hK := hG.K
  refine lv_aload_n hx hb dL_law_2519 rfl (lv_at hl 1 rfl) ?_
  refine lv_aload hx hb dL_law_2520 (lv_at hl 4 rfl) ?_
  have hLo := hLS.so
  have hz : s.heap.size ≤ H.size := hS.1
  have hPM : mP G.1 (mu Mc o2 (.inl (G.2.1 2, 1, .inr (.inr (.inr (.inl f2)))))) H := mP_o hLo.1 hLo.2.2.1
  have hIM : mI (aH s.heap.size) (mu Mc o2 (.inl (G.2.1 2, 1, .inr (.inr (.inr (.inl f2)))))) := mI.mu hLo.2.2.2.2.1.1 hLo.2.2.2.2.1.2.2.1
  refine ls_calli (vx_runSX (As := [.ref (ad 0 0), .ref o2]) (rest := []) ⟨hx, hb, hml, hown, hts⟩ (c_L_certifiedShare l G (aS H (mu Mc o2 (.inl (G.2.1 2, 1, .inr (.inr (.inr (.inl f2))))))) Mc hl9 st ad o2 hLo.2.2.2.2.2.2.1 hC hV) (vx_cwSW 2 hts gL_law_L_certifiedShare rfl rfl rfl (by decide +kernel) ⟨Nat.le_of_ble_eq_true rfl, Nat.le_of_ble_eq_true rfl⟩) (sPreS hG hS hPM hIM hA) rfl rfl hl.1 rfl (lv_room (Nat.le_of_ble_eq_true rfl)) dL_law_2522 ⟨by show cells + 1 ≤ 845199; omega, by show slots + 6 ≤ 6560506; omega⟩) hIM hS hA (fun r6 M9 H locs hp9 hP9 hI9 hk9 hS => ?_)
  obtain ⟨ad1, Mc1, f9, e6, hn9, rfl, hC1, ha1, hf1⟩ := hp9
  have hLS := (TwS.c1 hLo hz hP9 hn9 hI9 hk9).so
  refine lv_istore (lv' := [(6, .int r6), (0, .ref b), (1, .ref (ad 0 0)), (2, .ref (g.1 0 0)), (3, .ref o1), (4, .ref o2), (5, .int x5)]) hx hb dL_law_2525 hl (by decide) rfl (fun ls hl => ?_)
  refine lv_aload_n hx hb dL_law_2527 rfl (lv_at hl 3 rfl) ?_
  have hz : s.heap.size ≤ H.size := hS.1
  refine lm_callf (va_runV (As := []) (rest := []) ⟨hx, hb, hml, hown, hts⟩ (c_X7_certifiedShare l G (aS H Mr) Mr st g hR hV) (cwV 0 hts gL_law_X7_certifiedShare rfl rfl rfl (by decide +kernel) ⟨Nat.le_of_ble_eq_true rfl, Nat.le_of_ble_eq_true rfl⟩) (sPreV hG hS hLS.2.1 hLS.2.2.2.2.1.2.1 hA (RS.at0 hR hLS.2.1) (r := (RX7, TX7, 7)) rfl) rfl rfl hl.1 rfl (lv_room (Nat.le_of_ble_eq_true rfl)) dL_law_2528 ⟨by show cells + 1 + 1 ≤ 845199; omega, by show slots + 6 + 4 ≤ 6560506; omega⟩) hLS.2.2.2.2.1.2.1 hS hA (fun r7 Mr1 H locs hp9 hP9 hI9 hk9 hS => ?_)
  obtain ⟨x9, ⟨g1, hR1, ht1, hr1, hg1⟩, hr9⟩ := hp9
  have hLS := (TwS.c hLS.sw hz hP9 hI9 hk9).sw
  refine lv_fstore (lv' := [(7, .float r7), (6, .int r6), (0, .ref b), (1, .ref (ad 0 0)), (2, .ref (g.1 0 0)), (3, .ref o1), (4, .ref o2), (5, .int x5)]) hx hb dL_law_2531 hl (by decide) rfl (fun ls hl => ?_)
  refine lv_aload_n hx hb dL_law_2533 rfl (lv_at hl 4 rfl) ?_
  have hz : s.heap.size ≤ H.size := hS.1
  have hX9 : Mr1 (g.1 0 0) = some (.inr (10, [.ref (g1.1 1 0), .ref (g1.1 2 0), .int (gS (m_certifiedShare st).2.2 2), .int (gS (m_certifiedShare st).2.2 3), .int (gS (m_certifiedShare st).2.2 1), .int (gS (m_certifiedShare st).2.2 0), .int (thR g1)])) := by rw [← hg1]; exact (hR1.1 0 0 ro0).trans (congrArg some (celR_0 G (m_certifiedShare st).2.2 g1 0))
  refine lm_calli (va_runV (As := []) (rest := []) ⟨hx, hb, hml, hown, hts⟩ (c_X7_thrown l G (aS H Mr1) Mr1 hX9) (cwV 0 hts gL_law_X7_thrown rfl rfl rfl (by decide +kernel) ⟨Nat.le_of_ble_eq_true rfl, Nat.le_of_ble_eq_true rfl⟩) (sPreV hG hS hLS.2.1 hLS.2.2.2.2.1.2.1 hA (hLS.2.1 _ _ hX9) (r := (RX7, TX7, 7)) rfl) rfl rfl hl.1 rfl (lv_room (Nat.le_of_ble_eq_true rfl)) dL_law_2534 ⟨by show cells + 1 + 1 + 0 ≤ 845199; omega, by show slots + 6 + 4 + 0 ≤ 6560506; omega⟩) hLS.2.2.2.2.1.2.1 hS hA (fun r8 M9 H locs hp9 hP9 hI9 hk9 hS => ?_)
  obtain ⟨e8, hm9⟩ := hp9
  subst M9
  have hLS := (TwS.c hLS.sw hz hP9 hI9 hk9).sw
  refine lv_iload hx hb dL_law_2537 (lv_at hl 1 rfl) ?_
  refine lv_icmp_eq (tgt := 2544) hx hb dL_law_2539 (by decide) (fun c1 => ?_) (fun c1 => absurd c1 (fun z => z (by rw [e8, ht1, e6])))
  refine lv_iload hx hb dL_law_2544 (lv_at hl 1 rfl) ?_
  refine lv_if_ne (tgt := 2582) hx hb dL_law_2546 (by decide) (fun c2 => ?_) (fun c2 => ?_)
  · skip
    refine lv_goto (tgt := 2675) hx hb dL_law_2582 (by decide) ?_
    refine W.widen (k := cells + 1100) (n := slots + 4500) (by omega) (by omega) ?_
    exact kk _ H locs ls ⟨ad1, g1, Mc1, Mr1, f1, f9, hC1, hR1, (I_certifiedShare hV), ha1, hg1, hLS⟩ hS (lv_sub hl [2, 3, 4, 5, 6, 7] rfl)
  · skip
    have h0 := nI_z (le_certifiedShare st) (e6.symm.trans c2)
    have hop : m_certifiedShare st = (0, (m_certifiedShare st).2.1, (m_certifiedShare st).2.2) := Prod.ext h0 rfl
    have hr7 : r7 = FP.fdiv (FP.i2f (m_certifiedShare st).2.1) (FP.i2f (nI (nN st))) := by rw [hr9 h0, hr1 h0]
    refine lv_aload hx hb dL_law_2549 (lv_at hl 6 rfl) ?_
    refine lv_iconst (v := 0) hx hb dL_law_2551 (by decide) ?_
    refine lm_dald hx hb hK 2 hLS.2.2.2.1 rfl (show vp_in 0 1 by unfold vp_in; decide) (hf1 h0) dL_law_2552 ?_
    refine lv_fload hx hb dL_law_2553 (lv_at hl 0 rfl) ?_
    refine lv_f2d hx hb dL_law_2555 (by rw [hr7]; exact sh2_n hV hop) ?_
    refine lv_dcmp hx hb dL_law_2556 ?_
    refine lv_if_eq (tgt := 2582) hx hb dL_law_2557 (by decide) (fun c3 => ?_) (fun c3 => absurd c3 (fun z => z (dcmp_z (sh2_n hV hop) (by rw [hr7]))))
    refine lv_goto (tgt := 2675) hx hb dL_law_2582 (by decide) ?_
    refine W.widen (k := cells + 1100) (n := slots + 4500) (by omega) (by omega) ?_
    exact kk _ H locs ls ⟨ad1, g1, Mc1, Mr1, f1, f9, hC1, hR1, (I_certifiedShare hV), ha1, hg1, hLS⟩ hS (lv_sub hl [2, 3, 4, 5, 6, 7] rfl)
theorem le_meanError (st : St) (p0 : Int32) : (m_meanError st p0).1 < 100 := by
  unfold m_meanError
  first | exact le_0 | exact chk_le (by omega) (le_0) | exact chk_le (by omega) (chk_le (by omega) (le_0)) | exact chk_le (by omega) (chk_le (by omega) (chk_le (by omega) (le_0))) | exact chk_le (by omega) (chk_le (by omega) (chk_le (by omega) (chk_le (by omega) (le_0)))) | exact chk_le (by omega) (chk_le (by omega) (chk_le (by omega) (chk_le (by omega) (chk_le (by omega) (le_0))))) | exact chk_le (by omega) (chk_le (by omega) (chk_le (by omega) (chk_le (by omega) (chk_le (by omega) (chk_le (by omega) (le_0)))))) | exact chk_le (by omega) (chk_le (by omega) (chk_le (by omega) (chk_le (by omega) (chk_le (by omega) (chk_le (by omega) (chk_le (by omega) (le_0))))))) | exact chk_le (by omega) (chk_le (by omega) (chk_le (by omega) (chk_le (by omega) (chk_le (by omega) (chk_le (by omega) (chk_le (by omega) (chk_le (by omega) (le_0))))))))
theorem I_meanError {st : St} (h : Inv st) (p0 : Int32) : Inv (m_meanError st p0).2.2 := by
  unfold m_meanError
  first | exact h | exact chk_I h (fun _ => h) | exact chk_I h (fun _ => chk_I h (fun _ => h)) | exact chk_I h (fun _ => chk_I h (fun _ => chk_I h (fun _ => h))) | exact chk_I h (fun _ => chk_I h (fun _ => chk_I h (fun _ => chk_I h (fun _ => h)))) | exact chk_I h (fun _ => chk_I h (fun _ => chk_I h (fun _ => chk_I h (fun _ => chk_I h (fun _ => h))))) | exact chk_I h (fun _ => chk_I h (fun _ => chk_I h (fun _ => chk_I h (fun _ => chk_I h (fun _ => chk_I h (fun _ => h)))))) | exact chk_I h (fun _ => chk_I h (fun _ => chk_I h (fun _ => chk_I h (fun _ => chk_I h (fun _ => chk_I h (fun _ => chk_I h (fun _ => h))))))) | exact chk_I h (fun _ => chk_I h (fun _ => chk_I h (fun _ => chk_I h (fun _ => chk_I h (fun _ => chk_I h (fun _ => chk_I h (fun _ => chk_I h (fun _ => h))))))))
set_option maxHeartbeats 4000000 in
set_option maxRecDepth 100000 in
theorem law_meanError {p : Program} {l : Launch} {e : Env} {s : State} {m : MethodId} {below : List Frame} {meth : Method} {c : Code} {Q : State → Prop} {b L : Nat} {xs : Nat → Int32} {G : mg} (C0 : TwC p l s m c b L xs G) {H : Heap} {locs : List Loc} {ls : Array Slot} {cells slots : Nat} (hcs : cells + 1100 ≤ 845199 ∧ slots + 4500 ≤ 6560506) {cw rw o1 o2 : Nat} {st : St} {x5 p1 p2 p3 p4 : Int32} (hLI : TwI G s.heap.size H cw rw o1 o2 st) (hS : va_S (aH s.heap.size) s.heap H locs) (hl : lv_has ls 9 [(0, .ref b), (1, .ref cw), (2, .ref rw), (3, .ref o1), (4, .ref o2), (5, .int x5)]) (hi1 : vp_in (x5 + 1) L) (hi2 : vp_in (x5 + 2) L) (hi3 : vp_in (x5 + 3) L) (hi4 : vp_in (x5 + 4) L) (hv1 : xs (x5 + 1).toNatClampNeg = p1) (hv2 : xs (x5 + 2).toNatClampNeg = p2) (hv3 : xs (x5 + 3).toNatClampNeg = p3) (hv4 : xs (x5 + 4).toNatClampNeg = p4)
    (kk : ∀ (st1 : St) (H1 : Heap) (locs1 : List Loc) (ls1 : Array Slot), TwI G s.heap.size H1 cw rw o1 o2 st1 → va_S (aH s.heap.size) s.heap H1 locs1 → lv_has ls1 9 [(0, .ref b), (1, .ref cw), (2, .ref rw), (3, .ref o1), (4, .ref o2), (5, .int x5)] → W p l e room_1 s m #[Value.ref b] below meth c H1 locs1 (cells + 1100) (slots + 4500) Q (F0 m 2675 ls1 [])) : W p l e room_1 s m #[Value.ref b] below meth c H locs cells slots Q (F0 m 2585 ls []) := by
  obtain ⟨hx, hb, hml, hown, hts, hX, hbl, hG, hl9⟩ := C0
  obtain ⟨ad, g, Mc, Mr, f1, f2, hC, hR, hV, rfl, rfl, hLS⟩ := hLI
  have hA : ∀ q : Nat, s.heap.size ≤ q → aH s.heap.size q := fun _ h => h
  have hK := hG.K
  refine lv_aload_n hx hb dL_law_2585 rfl (lv_at hl 1 rfl) ?_
  refine lv_aload_n hx hb dL_law_2586 rfl (lv_at hl 0 rfl) ?_
  refine lv_iload hx hb dL_law_2587 (lv_at hl 5 rfl) ?_
  refine lv_iconst (v := 1) hx hb dL_law_2589 (by decide) ?_
  refine lv_iadd hx hb dL_law_2590 ?_
  refine lm_sld hx hb hX hbl hS hi1 hv1 dL_law_2591 ?_
  refine lv_aload hx hb dL_law_2592 (lv_at hl 4 rfl) ?_
  have hLo := hLS.so
  have hz : s.heap.size ≤ H.size := hS.1
  have hPM : mP G.1 (mu Mc o2 (.inl (G.2.1 2, 1, .inr (.inr (.inr (.inl f2)))))) H := mP_o hLo.1 hLo.2.2.1
  have hIM : mI (aH s.heap.size) (mu Mc o2 (.inl (G.2.1 2, 1, .inr (.inr (.inr (.inl f2)))))) := mI.mu hLo.2.2.2.2.1.1 hLo.2.2.2.2.1.2.2.1
  refine ls_calli (vx_runSX (As := [.ref (ad 0 0), .int p1, .ref o2]) (rest := []) ⟨hx, hb, hml, hown, hts⟩ (c_L_meanError l G (aS H (mu Mc o2 (.inl (G.2.1 2, 1, .inr (.inr (.inr (.inl f2))))))) Mc hl9 st ad p1 o2 hLo.2.2.2.2.2.2.1 hC hV) (vx_cwSW 3 hts gL_law_L_meanError rfl rfl rfl (by decide +kernel) ⟨Nat.le_of_ble_eq_true rfl, Nat.le_of_ble_eq_true rfl⟩) (sPreS hG hS hPM hIM hA) rfl rfl hl.1 rfl (lv_room (Nat.le_of_ble_eq_true rfl)) dL_law_2594 ⟨by show cells + 2 ≤ 845199; omega, by show slots + 12 ≤ 6560506; omega⟩) hIM hS hA (fun r6 M9 H locs hp9 hP9 hI9 hk9 hS => ?_)
  obtain ⟨ad1, Mc1, f9, e6, hn9, rfl, hC1, ha1, hf1⟩ := hp9
  have hLS := (TwS.c1 hLo hz hP9 hn9 hI9 hk9).so
  refine lv_istore (lv' := [(6, .int r6), (0, .ref b), (1, .ref (ad 0 0)), (2, .ref (g.1 0 0)), (3, .ref o1), (4, .ref o2), (5, .int x5)]) hx hb dL_law_2597 hl (by decide) rfl (fun ls hl => ?_)
  refine lv_aload_n hx hb dL_law_2599 rfl (lv_at hl 3 rfl) ?_
  refine lv_aload_n hx hb dL_law_2600 rfl (lv_at hl 1 rfl) ?_
  refine lv_iload hx hb dL_law_2601 (lv_at hl 6 rfl) ?_
  refine lv_iconst (v := 1) hx hb dL_law_2603 (by decide) ?_
  refine lv_iadd hx hb dL_law_2604 ?_
  refine lm_sld hx hb hX hbl hS hi1 hv1 dL_law_2605 ?_
  have hz : s.heap.size ≤ H.size := hS.1
  refine lm_calld (va_runV (As := [.int p1]) (rest := []) ⟨hx, hb, hml, hown, hts⟩ (c_X7_meanError l G (aS H Mr) Mr st g p1 hR hV) (cwV 1 hts gL_law_X7_meanError rfl rfl rfl (by decide +kernel) ⟨Nat.le_of_ble_eq_true rfl, Nat.le_of_ble_eq_true rfl⟩) (sPreV hG hS hLS.2.1 hLS.2.2.2.2.1.2.1 hA (RS.at0 hR hLS.2.1) (r := (RX7, TX7, 7)) rfl) rfl rfl hl.1 rfl (lv_room (Nat.le_of_ble_eq_true rfl)) dL_law_2606 ⟨by show cells + 2 + 0 ≤ 845199; omega, by show slots + 12 + 0 ≤ 6560506; omega⟩) hLS.2.2.2.2.1.2.1 hS hA (fun r7 Mr1 H locs hp9 hP9 hI9 hk9 hS => ?_)
  obtain ⟨x9, ⟨g1, hR1, ht1, hr1, hg1⟩, hr9⟩ := hp9
  have hLS := (TwS.c hLS.sw hz hP9 hI9 hk9).sw
  refine lv_dstore (lv' := [(7, .double r7), (6, .int r6), (0, .ref b), (1, .ref (ad 0 0)), (2, .ref (g.1 0 0)), (3, .ref o1), (4, .ref o2), (5, .int x5)]) hx hb dL_law_2609 hl (by decide) rfl (fun ls hl => ?_)
  refine lv_aload_n hx hb dL_law_2611 rfl (lv_at hl 4 rfl) ?_
  have hz : s.heap.size ≤ H.size := hS.1
  have hX9 : Mr1 (g.1 0 0) = some (.inr (10, [.ref (g1.1 1 0), .ref (g1.1 2 0), .int (gS (m_meanError st p1).2.2 2), .int (gS (m_meanError st p1).2.2 3), .int (gS (m_meanError st p1).2.2 1), .int (gS (m_meanError st p1).2.2 0), .int (thR g1)])) := by rw [← hg1]; exact (hR1.1 0 0 ro0).trans (congrArg some (celR_0 G (m_meanError st p1).2.2 g1 0))
  refine lm_calli (va_runV (As := []) (rest := []) ⟨hx, hb, hml, hown, hts⟩ (c_X7_thrown l G (aS H Mr1) Mr1 hX9) (cwV 0 hts gL_law_X7_thrown rfl rfl rfl (by decide +kernel) ⟨Nat.le_of_ble_eq_true rfl, Nat.le_of_ble_eq_true rfl⟩) (sPreV hG hS hLS.2.1 hLS.2.2.2.2.1.2.1 hA (hLS.2.1 _ _ hX9) (r := (RX7, TX7, 7)) rfl) rfl rfl hl.1 rfl (lv_room (Nat.le_of_ble_eq_true rfl)) dL_law_2612 ⟨by show cells + 2 + 0 + 0 ≤ 845199; omega, by show slots + 12 + 0 + 0 ≤ 6560506; omega⟩) hLS.2.2.2.2.1.2.1 hS hA (fun r8 M9 H locs hp9 hP9 hI9 hk9 hS => ?_)
  obtain ⟨e8, hm9⟩ := hp9
  subst M9
  have hLS := (TwS.c hLS.sw hz hP9 hI9 hk9).sw
  refine lv_iload hx hb dL_law_2615 (lv_at hl 1 rfl) ?_
  refine lv_icmp_eq (tgt := 2622) hx hb dL_law_2617 (by decide) (fun c1 => ?_) (fun c1 => absurd c1 (fun z => z (by rw [e8, ht1, e6])))
  refine lv_iload hx hb dL_law_2622 (lv_at hl 1 rfl) ?_
  refine lv_if_ne (tgt := 2659) hx hb dL_law_2624 (by decide) (fun c2 => ?_) (fun c2 => ?_)
  · skip
    refine lv_goto (tgt := 2675) hx hb dL_law_2659 (by decide) ?_
    refine W.widen (k := cells + 1100) (n := slots + 4500) (by omega) (by omega) ?_
    exact kk _ H locs ls ⟨ad1, g1, Mc1, Mr1, f1, f9, hC1, hR1, (I_meanError hV p1), ha1, hg1, hLS⟩ hS (lv_sub hl [2, 3, 4, 5, 6, 7] rfl)
  · skip
    have h0 := nI_z (le_meanError st p1) (e6.symm.trans c2)
    have hr7 : r7 = FP.ddiv (FP.i2d (m_meanError st p1).2.1) (FP.i2d (nI (rnS st (ix p1)))) := by rw [hr9 h0, hr1 h0]
    refine lv_aload hx hb dL_law_2627 (lv_at hl 6 rfl) ?_
    refine lv_iconst (v := 0) hx hb dL_law_2629 (by decide) ?_
    refine lm_dald hx hb hK 2 hLS.2.2.2.1 rfl (show vp_in 0 1 by unfold vp_in; decide) (hf1 h0) dL_law_2630 ?_
    refine lv_dload hx hb dL_law_2631 (lv_at hl 0 rfl) ?_
    refine lv_dcmp hx hb dL_law_2633 ?_
    refine lv_if_eq (tgt := 2659) hx hb dL_law_2634 (by decide) (fun c3 => ?_) (fun c3 => absurd c3 (fun z => z (dcmp_z (me_n hV h0) (by rw [hr7]))))
    refine lv_goto (tgt := 2675) hx hb dL_law_2659 (by decide) ?_
    refine W.widen (k := cells + 1100) (n := slots + 4500) (by omega) (by omega) ?_
    exact kk _ H locs ls ⟨ad1, g1, Mc1, Mr1, f1, f9, hC1, hR1, (I_meanError hV p1), ha1, hg1, hLS⟩ hS (lv_sub hl [2, 3, 4, 5, 6, 7] rfl)
set_option maxHeartbeats 4000000 in
set_option maxRecDepth 100000 in
theorem law_isSound {p : Program} {l : Launch} {e : Env} {s : State} {m : MethodId} {below : List Frame} {meth : Method} {c : Code} {Q : State → Prop} {b L : Nat} {xs : Nat → Int32} {G : mg} (C0 : TwC p l s m c b L xs G) {H : Heap} {locs : List Loc} {ls : Array Slot} {cells slots : Nat} (hcs : cells + 1100 ≤ 845199 ∧ slots + 4500 ≤ 6560506) {cw rw o1 o2 : Nat} {st : St} {x5 p1 p2 p3 p4 : Int32} (hLI : TwI G s.heap.size H cw rw o1 o2 st) (hS : va_S (aH s.heap.size) s.heap H locs) (hl : lv_has ls 9 [(0, .ref b), (1, .ref cw), (2, .ref rw), (3, .ref o1), (4, .ref o2), (5, .int x5)]) (hi1 : vp_in (x5 + 1) L) (hi2 : vp_in (x5 + 2) L) (hi3 : vp_in (x5 + 3) L) (hi4 : vp_in (x5 + 4) L) (hv1 : xs (x5 + 1).toNatClampNeg = p1) (hv2 : xs (x5 + 2).toNatClampNeg = p2) (hv3 : xs (x5 + 3).toNatClampNeg = p3) (hv4 : xs (x5 + 4).toNatClampNeg = p4)
    (kk : ∀ (st1 : St) (H1 : Heap) (locs1 : List Loc) (ls1 : Array Slot), TwI G s.heap.size H1 cw rw o1 o2 st1 → va_S (aH s.heap.size) s.heap H1 locs1 → lv_has ls1 9 [(0, .ref b), (1, .ref cw), (2, .ref rw), (3, .ref o1), (4, .ref o2), (5, .int x5)] → W p l e room_1 s m #[Value.ref b] below meth c H1 locs1 (cells + 1100) (slots + 4500) Q (F0 m 2675 ls1 [])) : W p l e room_1 s m #[Value.ref b] below meth c H locs cells slots Q (F0 m 2662 ls []) := by
  obtain ⟨hx, hb, hml, hown, hts, hX, hbl, hG, hl9⟩ := C0
  obtain ⟨ad, g, Mc, Mr, f1, f2, hC, hR, hV, rfl, rfl, hLS⟩ := hLI
  have hA : ∀ q : Nat, s.heap.size ≤ q → aH s.heap.size q := fun _ h => h
  have hK := hG.K
  refine lv_aload_n hx hb dL_law_2662 rfl (lv_at hl 1 rfl) ?_
  have hz : s.heap.size ≤ H.size := hS.1
  refine lm_calli (va_runV (As := []) (rest := []) ⟨hx, hb, hml, hown, hts⟩ (c_X4_isSound l G (aS H Mc) Mc st ad hC hV) (cwV 0 hts gL_law_X4_isSound rfl rfl rfl (by decide +kernel) ⟨Nat.le_of_ble_eq_true rfl, Nat.le_of_ble_eq_true rfl⟩) (sPreV hG hS hLS.1 hLS.2.2.2.2.1.1 hA (hLS.1 (ad 0 0) _ (hC.1 0 0 (ok0 st))) (r := (RX4, TX4, 9)) rfl) rfl rfl hl.1 rfl (lv_room (Nat.le_of_ble_eq_true rfl)) dL_law_2663 ⟨by show cells + 0 ≤ 845199; omega, by show slots + 0 ≤ 6560506; omega⟩) hLS.2.2.2.2.1.1 hS hA (fun r6 M9 H locs hp9 hP9 hI9 hk9 hS => ?_)
  obtain ⟨e6, hm9⟩ := hp9
  subst M9
  have hLS := TwS.c hLS hz hP9 hI9 hk9
  refine lv_aload_n hx hb dL_law_2666 rfl (lv_at hl 2 rfl) ?_
  have hz : s.heap.size ≤ H.size := hS.1
  refine lm_calli (va_runV (As := []) (rest := [.int r6]) ⟨hx, hb, hml, hown, hts⟩ (c_X7_isSound l G (aS H Mr) Mr st g hR) (cwV 0 hts gL_law_X7_isSound rfl rfl rfl (by decide +kernel) ⟨Nat.le_of_ble_eq_true rfl, Nat.le_of_ble_eq_true rfl⟩) (sPreV hG hS hLS.2.1 hLS.2.2.2.2.1.2.1 hA (RS.at0 hR hLS.2.1) (r := (RX7, TX7, 7)) rfl) rfl rfl hl.1 rfl (lv_room (Nat.le_of_ble_eq_true rfl)) dL_law_2667 ⟨by show cells + 0 + 0 ≤ 845199; omega, by show slots + 0 + 0 ≤ 6560506; omega⟩) hLS.2.2.2.2.1.2.1 hS hA (fun r7 Mr1 H locs hp9 hP9 hI9 hk9 hS => ?_)
  obtain ⟨e7, hR1⟩ := hp9
  have hLS := (TwS.c hLS.sw hz hP9 hI9 hk9).sw
  refine lv_icmp_eq (tgt := 2675) hx hb dL_law_2670 (by decide) (fun c1 => ?_) (fun c1 => absurd c1 (fun z => z (by rw [e6, e7])))
  refine W.widen (k := cells + 1100) (n := slots + 4500) (by omega) (by omega) ?_
  exact kk _ H locs ls ⟨ad, tG g 0, Mc, Mr1, f1, f2, hC, hR1, hV, rfl, rfl, hLS⟩ hS (lv_sub hl [0, 1, 2, 3, 4, 5] rfl)
