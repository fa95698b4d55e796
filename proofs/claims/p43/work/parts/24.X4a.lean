set_option maxHeartbeats 4000000 in
set_option maxRecDepth 100000 in
theorem c_X4_bore (l : Launch) (G : mg) (A : Nat → Prop) (Mw : mw) (hl9 : l.stackTraces = false) (st : St) (ad : adr) (p0 p1 : Int32) (hC : CS G st ad Mw) (hV : Inv st) : vx_Met l yX4_bore wsX4_bore ({ frames := 7, cells := 2, slots := 12, locals := 104 }) (va_Pc [.ref (ad 0 0), .int p0, .int p1] (mB G A Mw)) (va_Qi (fun r Mw1 => ∃ (s1 : St) (ad1 : adr), m_bore st p0 p1 = (0, r, s1) ∧ CS G s1 ad1 Mw1 ∧ ad1 0 0 = ad 0 0) (mE G A) A) (xX (fun E => exc ["java/lang/IndexOutOfBoundsException", "java/lang/IllegalArgumentException"] (m_bore st p0 p1) E) G A Mw) 2 12 A := by
  refine vx_ofW (cc := cX4_bore) (maxL := 4) (ret := (some .int)) (by decide) rfl ?_
  intro p e s m args below meth c s₁ B hml hxt hv
  obtain ⟨rfl, hG, hP, hI, hA⟩ := hv
  have hx := B.exec
  have hb := B.bytes
  have hr := B.returns
  have hts := atoms_spec (ws := wsX4_bore) B.pre
  have hown : s.vm.findClass RX4 = some m.cls := findClass_of_methodNamed B.named
  have hlocks := B.notSynchronized
  have hK := hG.K
  have hS : va_S A s.heap s.heap [] := va_S.rf
  have hl := lv_entry ([.ref (ad 0 0), .int p0, .int p1]) (n := 4) (Nat.le_of_ble_eq_true rfl)
  rw [lg_entry_eq]
  generalize (lg_sl ([.ref (ad 0 0), .int p0, .int p1]) ++ List.replicate (4 - (lg_sl ([.ref (ad 0 0), .int p0, .int p1])).length) Slot.unset).toArray = ls at hl ⊢
  have hl : lv_has ls 4 [(0, .ref (ad 0 0)), (1, .int p0), (2, .int p1)] := hl
  have hP : mP G.1 Mw s.heap := hP
  have h_X : Mw (ad 0 0) = some (.inr (4, [.ref (ad 1 0), .ref (ad 2 0), .int (nI (nT st)), .int (nI (nN st)), .int (gS st 0), .int (gS st 1), .int (gS st 2), .int (gS st 3), .int (gS st 4)])) := hC.1 0 0 (ok0 st)
  have h_TA : Mw (ad 1 0) = some (.inl (G.2.1 3, 8, .inr (.inr (.inr (.inr (qf (nT st) (ad 3))))))) := hC.1 1 0 (ok1 st)
  have h_IA : Mw (ad 2 0) = some (.inl (G.2.1 4, 6, .inr (.inr (.inr (.inr (qf (nN st) (ad 5))))))) := hC.1 2 0 (ok2 st)
  have hta9 := hC.ne (ok1 st) (ok2 st) (by omega)
  refine lv_aload_n hx hb dX4_bore_0 rfl (lv_at hl 0 rfl) ?_
  refine lv_iload_n hx hb dX4_bore_1 rfl (lv_at hl 1 rfl) ?_
  refine mx_callq (vx_runV (As := [.int p0]) (rest := []) ⟨hx, hb, hml, hown, hts⟩ (c_X4_tubeNumbered l G A Mw hl9  p0 h_X hV.1.1 h_TA) (cwV 1 hts gX4_bore_X4_tubeNumbered rfl rfl rfl (by decide +kernel) ⟨Nat.le_of_ble_eq_true rfl, Nat.le_of_ble_eq_true rfl⟩) (mPreV hG hS hP hI hA (hP _ _ h_X) (r := (RX4, TX4, 9)) rfl) rfl rfl hl.1 rfl (lv_room (Nat.le_of_ble_eq_true rfl)) dX4_bore_2 ⟨Nat.le_of_ble_eq_true rfl, Nat.le_of_ble_eq_true rfl⟩) hS (fun E9 ce9 q9 H locs hpx9 hP hI hS hc9 hv9 hcl9 => m_out (px := fun E => exc ["java/lang/IndexOutOfBoundsException", "java/lang/IllegalArgumentException"] (m_bore st p0 p1) E) (fun x hx9 => absurd hx9 (fun q => hxt x q)) hlocks hP hI hS hc9 hv9 hcl9 ((by obtain ⟨hE9, hn9⟩ := hpx9; subst hE9; exact exc_of (by unfold m_bore; first | (rw [chk_n hn9]; done) | (rw [chk_n hn9]; rfl)) rfl)) (Nat.le_of_ble_eq_true rfl) (Nat.le_of_ble_eq_true rfl)) (fun r1 Mw1 H locs hp_r1 hP hI hS => ?_)
  obtain ⟨⟨ht9, hr9⟩, hm9⟩ := hp_r1
  subst Mw1
  subst hr9
  have h_T : Mw (ad 3 (ix p0)) = some (.inr (3, [.ref (ad 4 (ix p0)), .int (usS st (ix p0))])) := hC.1 3 _ (ok3 ht9.2)
  have h_B : Mw (ad 4 (ix p0)) = some (.inl (G.2.1 0, 20, .inl (boS st (ix p0)))) := hC.1 4 _ (ok4 ht9.2)
  refine lv_astore_n (lv' := [(3, .ref (ad 3 (ix p0))), (0, .ref (ad 0 0)), (1, .int p0), (2, .int p1)]) hx hb dX4_bore_5 rfl hl (by decide) rfl (fun ls hl => ?_)
  refine lv_iload_n hx hb dX4_bore_6 rfl (lv_at hl 3 rfl) ?_
  refine lv_iconst (v := 0) hx hb dX4_bore_7 (by decide) ?_
  refine lv_bipush (v := (19)) hx hb dX4_bore_8 (by decide) ?_
  refine mx_callv (vx_runS (As := [.int p1, .int 0, .int 19]) (rest := []) ⟨hx, hb, hml, hown, hts⟩ (c_X4_demandRange l G A Mw hl9  p1 0 19) (va_cwS 3 hts gX4_bore_X4_demandRange rfl rfl rfl (by decide +kernel) ⟨Nat.le_of_ble_eq_true rfl, Nat.le_of_ble_eq_true rfl⟩) (mPreS hG hS hP hI hA) rfl rfl hl.1 rfl (lv_room (Nat.le_of_ble_eq_true rfl)) dX4_bore_10 ⟨Nat.le_of_ble_eq_true rfl, Nat.le_of_ble_eq_true rfl⟩) hS (fun E9 ce9 q9 H locs hpx9 hP hI hS hc9 hv9 hcl9 => m_out (px := fun E => exc ["java/lang/IndexOutOfBoundsException", "java/lang/IllegalArgumentException"] (m_bore st p0 p1) E) (fun x hx9 => absurd hx9 (fun q => hxt x q)) hlocks hP hI hS hc9 hv9 hcl9 ((by obtain ⟨hE9, hn9⟩ := hpx9; subst hE9; exact exc_of (by unfold m_bore; first | (rw [chk_p ht9, chk_n hn9]; done) | (rw [chk_p ht9, chk_n hn9]; rfl)) rfl)) (Nat.le_of_ble_eq_true rfl) (Nat.le_of_ble_eq_true rfl)) (fun Mw1 H locs hp_r2 hP hI hS => ?_)
  obtain ⟨hp_r2, hm9⟩ := hp_r2
  subst Mw1
  refine lv_aload_n hx hb dX4_bore_13 rfl (lv_at hl 0 rfl) ?_
  refine lv_iload_n hx hb dX4_bore_14 rfl (lv_at hl 3 rfl) ?_
  refine m_calli (va_runV (As := [.int p1]) (rest := []) ⟨hx, hb, hml, hown, hts⟩ (c_X3_boreOf l G A Mw  p1 h_T h_B) (cwV 1 hts gX4_bore_X3_boreOf rfl rfl rfl (by decide +kernel) ⟨Nat.le_of_ble_eq_true rfl, Nat.le_of_ble_eq_true rfl⟩) (mPreV hG hS hP hI hA (hP _ _ h_T) (r := (RX3, TX3, 2)) rfl) rfl rfl hl.1 rfl (lv_room (Nat.le_of_ble_eq_true rfl)) dX4_bore_15 ⟨Nat.le_of_ble_eq_true rfl, Nat.le_of_ble_eq_true rfl⟩) hS (fun r3 Mw1 H locs hp_r3 hP hI hS => ?_)
  obtain ⟨hp_r3, hm9⟩ := hp_r3
  subst Mw1
  refine W.widen (k := 2) (n := 12) (Nat.le_of_ble_eq_true rfl) (Nat.le_of_ble_eq_true rfl) ?_
  refine vx_ret ?_
  exact W.iret (v := r3) hx hb hr (fun t99 ht99 hW99 => ⟨⟨r3, Mw, rfl, ⟨st, ad, by unfold m_bore; first | (rw [chk_p ht9, chk_p hp_r2, hp_r3]; done) | (rw [chk_p ht9, chk_p hp_r2, hp_r3]; rfl), hC, rfl⟩, by rw [ht99]; exact hP, hI⟩, hS.F ht99⟩) hS.2.2 dX4_bore_18

set_option maxHeartbeats 4000000 in
set_option maxRecDepth 100000 in
theorem c_X4_volume (l : Launch) (G : mg) (A : Nat → Prop) (Mw : mw) (hl9 : l.stackTraces = false) (st : St) (ad : adr) (p0 p1 : Int32) (hC : CS G st ad Mw) (hV : Inv st) : vx_Met l yX4_volume wsX4_volume ({ frames := 8, cells := 2, slots := 12, locals := 124 }) (va_Pc [.ref (ad 0 0), .int p0, .int p1] (mB G A Mw)) (va_Qi (fun r Mw1 => ∃ (s1 : St) (ad1 : adr), m_volume st p0 p1 = (0, r, s1) ∧ CS G s1 ad1 Mw1 ∧ ad1 0 0 = ad 0 0) (mE G A) A) (xX (fun E => exc ["java/lang/IndexOutOfBoundsException", "java/lang/IllegalArgumentException"] (m_volume st p0 p1) E) G A Mw) 2 12 A := by
  refine vx_ofW (cc := cX4_volume) (maxL := 4) (ret := (some .int)) (by decide) rfl ?_
  intro p e s m args below meth c s₁ B hml hxt hv
  obtain ⟨rfl, hG, hP, hI, hA⟩ := hv
  have hx := B.exec
  have hb := B.bytes
  have hr := B.returns
  have hts := atoms_spec (ws := wsX4_volume) B.pre
  have hown : s.vm.findClass RX4 = some m.cls := findClass_of_methodNamed B.named
  have hlocks := B.notSynchronized
  have hK := hG.K
  have hS : va_S A s.heap s.heap [] := va_S.rf
  have hl := lv_entry ([.ref (ad 0 0), .int p0, .int p1]) (n := 4) (Nat.le_of_ble_eq_true rfl)
  rw [lg_entry_eq]
  generalize (lg_sl ([.ref (ad 0 0), .int p0, .int p1]) ++ List.replicate (4 - (lg_sl ([.ref (ad 0 0), .int p0, .int p1])).length) Slot.unset).toArray = ls at hl ⊢
  have hl : lv_has ls 4 [(0, .ref (ad 0 0)), (1, .int p0), (2, .int p1)] := hl
  have hP : mP G.1 Mw s.heap := hP
  have h_X : Mw (ad 0 0) = some (.inr (4, [.ref (ad 1 0), .ref (ad 2 0), .int (nI (nT st)), .int (nI (nN st)), .int (gS st 0), .int (gS st 1), .int (gS st 2), .int (gS st 3), .int (gS st 4)])) := hC.1 0 0 (ok0 st)
  have h_TA : Mw (ad 1 0) = some (.inl (G.2.1 3, 8, .inr (.inr (.inr (.inr (qf (nT st) (ad 3))))))) := hC.1 1 0 (ok1 st)
  have h_IA : Mw (ad 2 0) = some (.inl (G.2.1 4, 6, .inr (.inr (.inr (.inr (qf (nN st) (ad 5))))))) := hC.1 2 0 (ok2 st)
  have hta9 := hC.ne (ok1 st) (ok2 st) (by omega)
  refine lv_aload_n hx hb dX4_volume_0 rfl (lv_at hl 0 rfl) ?_
  refine lv_iload_n hx hb dX4_volume_1 rfl (lv_at hl 1 rfl) ?_
  refine mx_callq (vx_runV (As := [.int p0]) (rest := []) ⟨hx, hb, hml, hown, hts⟩ (c_X4_tubeNumbered l G A Mw hl9  p0 h_X hV.1.1 h_TA) (cwV 1 hts gX4_volume_X4_tubeNumbered rfl rfl rfl (by decide +kernel) ⟨Nat.le_of_ble_eq_true rfl, Nat.le_of_ble_eq_true rfl⟩) (mPreV hG hS hP hI hA (hP _ _ h_X) (r := (RX4, TX4, 9)) rfl) rfl rfl hl.1 rfl (lv_room (Nat.le_of_ble_eq_true rfl)) dX4_volume_2 ⟨Nat.le_of_ble_eq_true rfl, Nat.le_of_ble_eq_true rfl⟩) hS (fun E9 ce9 q9 H locs hpx9 hP hI hS hc9 hv9 hcl9 => m_out (px := fun E => exc ["java/lang/IndexOutOfBoundsException", "java/lang/IllegalArgumentException"] (m_volume st p0 p1) E) (fun x hx9 => absurd hx9 (fun q => hxt x q)) hlocks hP hI hS hc9 hv9 hcl9 ((by obtain ⟨hE9, hn9⟩ := hpx9; subst hE9; exact exc_of (by unfold m_volume; first | (rw [chk_n hn9]; done) | (rw [chk_n hn9]; rfl)) rfl)) (Nat.le_of_ble_eq_true rfl) (Nat.le_of_ble_eq_true rfl)) (fun r1 Mw1 H locs hp_r1 hP hI hS => ?_)
  obtain ⟨⟨ht9, hr9⟩, hm9⟩ := hp_r1
  subst Mw1
  subst hr9
  have h_T : Mw (ad 3 (ix p0)) = some (.inr (3, [.ref (ad 4 (ix p0)), .int (usS st (ix p0))])) := hC.1 3 _ (ok3 ht9.2)
  have h_B : Mw (ad 4 (ix p0)) = some (.inl (G.2.1 0, 20, .inl (boS st (ix p0)))) := hC.1 4 _ (ok4 ht9.2)
  refine lv_astore_n (lv' := [(3, .ref (ad 3 (ix p0))), (0, .ref (ad 0 0)), (1, .int p0), (2, .int p1)]) hx hb dX4_volume_5 rfl hl (by decide) rfl (fun ls hl => ?_)
  refine lv_iload_n hx hb dX4_volume_6 rfl (lv_at hl 3 rfl) ?_
  refine mx_callv (vx_runS (As := [.int p1]) (rest := []) ⟨hx, hb, hml, hown, hts⟩ (c_X4_demandPlace l G A Mw hl9  p1) (va_cwS 1 hts gX4_volume_X4_demandPlace rfl rfl rfl (by decide +kernel) ⟨Nat.le_of_ble_eq_true rfl, Nat.le_of_ble_eq_true rfl⟩) (mPreS hG hS hP hI hA) rfl rfl hl.1 rfl (lv_room (Nat.le_of_ble_eq_true rfl)) dX4_volume_7 ⟨Nat.le_of_ble_eq_true rfl, Nat.le_of_ble_eq_true rfl⟩) hS (fun E9 ce9 q9 H locs hpx9 hP hI hS hc9 hv9 hcl9 => m_out (px := fun E => exc ["java/lang/IndexOutOfBoundsException", "java/lang/IllegalArgumentException"] (m_volume st p0 p1) E) (fun x hx9 => absurd hx9 (fun q => hxt x q)) hlocks hP hI hS hc9 hv9 hcl9 ((by obtain ⟨hE9, hn9⟩ := hpx9; subst hE9; exact exc_of (by unfold m_volume; first | (rw [chk_p ht9, chk_n hn9]; done) | (rw [chk_p ht9, chk_n hn9]; rfl)) rfl)) (Nat.le_of_ble_eq_true rfl) (Nat.le_of_ble_eq_true rfl)) (fun Mw1 H locs hp_r2 hP hI hS => ?_)
  obtain ⟨hp_r2, hm9⟩ := hp_r2
  subst Mw1
  refine lv_aload_n hx hb dX4_volume_10 rfl (lv_at hl 0 rfl) ?_
  refine lv_iload_n hx hb dX4_volume_11 rfl (lv_at hl 3 rfl) ?_
  refine m_calli (va_runV (As := [.int p1]) (rest := []) ⟨hx, hb, hml, hown, hts⟩ (c_X3_volumeUpTo l G A Mw  p1 h_T h_B) (cwV 1 hts gX4_volume_X3_volumeUpTo rfl rfl rfl (by decide +kernel) ⟨Nat.le_of_ble_eq_true rfl, Nat.le_of_ble_eq_true rfl⟩) (mPreV hG hS hP hI hA (hP _ _ h_T) (r := (RX3, TX3, 2)) rfl) rfl rfl hl.1 rfl (lv_room (Nat.le_of_ble_eq_true rfl)) dX4_volume_12 ⟨Nat.le_of_ble_eq_true rfl, Nat.le_of_ble_eq_true rfl⟩) hS (fun r3 Mw1 H locs hp_r3 hP hI hS => ?_)
  obtain ⟨hp_r3, hm9⟩ := hp_r3
  subst Mw1
  refine W.widen (k := 2) (n := 12) (Nat.le_of_ble_eq_true rfl) (Nat.le_of_ble_eq_true rfl) ?_
  refine vx_ret ?_
  exact W.iret (v := r3) hx hb hr (fun t99 ht99 hW99 => ⟨⟨r3, Mw, rfl, ⟨st, ad, by unfold m_volume; first | (rw [chk_p ht9, chk_p hp_r2, hp_r3]; done) | (rw [chk_p ht9, chk_p hp_r2, hp_r3]; rfl), hC, rfl⟩, by rw [ht99]; exact hP, hI⟩, hS.F ht99⟩) hS.2.2 dX4_volume_15

set_option maxHeartbeats 4000000 in
set_option maxRecDepth 100000 in
theorem c_X4_widest (l : Launch) (G : mg) (A : Nat → Prop) (Mw : mw) (hl9 : l.stackTraces = false) (st : St) (ad : adr) (p0 : Int32) (hC : CS G st ad Mw) (hV : Inv st) : vx_Met l yX4_widest wsX4_widest ({ frames := 7, cells := 1, slots := 6, locals := 103 }) (va_Pc [.ref (ad 0 0), .int p0] (mB G A Mw)) (va_Qi (fun r Mw1 => ∃ (s1 : St) (ad1 : adr), m_widest st p0 = (0, r, s1) ∧ CS G s1 ad1 Mw1 ∧ ad1 0 0 = ad 0 0) (mE G A) A) (xX (fun E => exc ["java/lang/IndexOutOfBoundsException"] (m_widest st p0) E) G A Mw) 1 6 A := by
  refine vx_ofW (cc := cX4_widest) (maxL := 2) (ret := (some .int)) (by decide) rfl ?_
  intro p e s m args below meth c s₁ B hml hxt hv
  obtain ⟨rfl, hG, hP, hI, hA⟩ := hv
  have hx := B.exec
  have hb := B.bytes
  have hr := B.returns
  have hts := atoms_spec (ws := wsX4_widest) B.pre
  have hown : s.vm.findClass RX4 = some m.cls := findClass_of_methodNamed B.named
  have hlocks := B.notSynchronized
  have hK := hG.K
  have hS : va_S A s.heap s.heap [] := va_S.rf
  have hl := lv_entry ([.ref (ad 0 0), .int p0]) (n := 2) (Nat.le_of_ble_eq_true rfl)
  rw [lg_entry_eq]
  generalize (lg_sl ([.ref (ad 0 0), .int p0]) ++ List.replicate (2 - (lg_sl ([.ref (ad 0 0), .int p0])).length) Slot.unset).toArray = ls at hl ⊢
  have hl : lv_has ls 2 [(0, .ref (ad 0 0)), (1, .int p0)] := hl
  have hP : mP G.1 Mw s.heap := hP
  have h_X : Mw (ad 0 0) = some (.inr (4, [.ref (ad 1 0), .ref (ad 2 0), .int (nI (nT st)), .int (nI (nN st)), .int (gS st 0), .int (gS st 1), .int (gS st 2), .int (gS st 3), .int (gS st 4)])) := hC.1 0 0 (ok0 st)
  have h_TA : Mw (ad 1 0) = some (.inl (G.2.1 3, 8, .inr (.inr (.inr (.inr (qf (nT st) (ad 3))))))) := hC.1 1 0 (ok1 st)
  have h_IA : Mw (ad 2 0) = some (.inl (G.2.1 4, 6, .inr (.inr (.inr (.inr (qf (nN st) (ad 5))))))) := hC.1 2 0 (ok2 st)
  have hta9 := hC.ne (ok1 st) (ok2 st) (by omega)
  refine lv_aload_n hx hb dX4_widest_0 rfl (lv_at hl 0 rfl) ?_
  refine lv_iload_n hx hb dX4_widest_1 rfl (lv_at hl 1 rfl) ?_
  refine mx_callq (vx_runV (As := [.int p0]) (rest := []) ⟨hx, hb, hml, hown, hts⟩ (c_X4_tubeNumbered l G A Mw hl9  p0 h_X hV.1.1 h_TA) (cwV 1 hts gX4_widest_X4_tubeNumbered rfl rfl rfl (by decide +kernel) ⟨Nat.le_of_ble_eq_true rfl, Nat.le_of_ble_eq_true rfl⟩) (mPreV hG hS hP hI hA (hP _ _ h_X) (r := (RX4, TX4, 9)) rfl) rfl rfl hl.1 rfl (lv_room (Nat.le_of_ble_eq_true rfl)) dX4_widest_2 ⟨Nat.le_of_ble_eq_true rfl, Nat.le_of_ble_eq_true rfl⟩) hS (fun E9 ce9 q9 H locs hpx9 hP hI hS hc9 hv9 hcl9 => m_out (px := fun E => exc ["java/lang/IndexOutOfBoundsException"] (m_widest st p0) E) (fun x hx9 => absurd hx9 (fun q => hxt x q)) hlocks hP hI hS hc9 hv9 hcl9 ((by obtain ⟨hE9, hn9⟩ := hpx9; subst hE9; exact exc_of (by unfold m_widest; first | (rw [chk_n hn9]; done) | (rw [chk_n hn9]; rfl)) rfl)) (Nat.le_of_ble_eq_true rfl) (Nat.le_of_ble_eq_true rfl)) (fun r1 Mw1 H locs hp_r1 hP hI hS => ?_)
  obtain ⟨⟨ht9, hr9⟩, hm9⟩ := hp_r1
  subst Mw1
  subst hr9
  have h_T : Mw (ad 3 (ix p0)) = some (.inr (3, [.ref (ad 4 (ix p0)), .int (usS st (ix p0))])) := hC.1 3 _ (ok3 ht9.2)
  have h_B : Mw (ad 4 (ix p0)) = some (.inl (G.2.1 0, 20, .inl (boS st (ix p0)))) := hC.1 4 _ (ok4 ht9.2)
  refine m_calli (va_runV (As := []) (rest := []) ⟨hx, hb, hml, hown, hts⟩ (c_X3_widestSection l G A Mw  h_T h_B) (cwV 0 hts gX4_widest_X3_widestSection rfl rfl rfl (by decide +kernel) ⟨Nat.le_of_ble_eq_true rfl, Nat.le_of_ble_eq_true rfl⟩) (mPreV hG hS hP hI hA (hP _ _ h_T) (r := (RX3, TX3, 2)) rfl) rfl rfl hl.1 rfl (lv_room (Nat.le_of_ble_eq_true rfl)) dX4_widest_5 ⟨Nat.le_of_ble_eq_true rfl, Nat.le_of_ble_eq_true rfl⟩) hS (fun r2 Mw1 H locs hp_r2 hP hI hS => ?_)
  obtain ⟨hp_r2, hm9⟩ := hp_r2
  subst Mw1
  refine W.widen (k := 1) (n := 6) (Nat.le_of_ble_eq_true rfl) (Nat.le_of_ble_eq_true rfl) ?_
  refine vx_ret ?_
  exact W.iret (v := r2) hx hb hr (fun t99 ht99 hW99 => ⟨⟨r2, Mw, rfl, ⟨st, ad, by unfold m_widest; first | (rw [chk_p ht9, hp_r2]; done) | (rw [chk_p ht9, hp_r2]; rfl), hC, rfl⟩, by rw [ht99]; exact hP, hI⟩, hS.F ht99⟩) hS.2.2 dX4_widest_8

set_option maxHeartbeats 4000000 in
set_option maxRecDepth 100000 in
theorem c_X4_thread (l : Launch) (G : mg) (A : Nat → Prop) (Mw : mw) (hl9 : l.stackTraces = false) (st : St) (ad : adr) (p0 p1 p2 : Int32) (hC : CS G st ad Mw) (hV : Inv st) : vx_Met l yX4_thread wsX4_thread ({ frames := 8, cells := 4, slots := 24, locals := 124 }) (va_Pc [.ref (ad 0 0), .int p0, .int p1, .int p2] (mB G A Mw)) (va_Qi (fun r Mw1 => ∃ (s1 : St) (ad1 : adr), m_thread st p0 p1 p2 = (0, r, s1) ∧ CS G s1 ad1 Mw1 ∧ ad1 0 0 = ad 0 0) (mE G A) A) (xX (fun E => exc ["java/lang/IndexOutOfBoundsException", "java/lang/IllegalArgumentException", "java/util/NoSuchElementException"] (m_thread st p0 p1 p2) E) G A Mw) 4 24 A := by
  refine vx_ofW (cc := cX4_thread) (maxL := 6) (ret := (some .int)) (by decide) rfl ?_
  intro p e s m args below meth c s₁ B hml hxt hv
  obtain ⟨rfl, hG, hP, hI, hA⟩ := hv
  have hx := B.exec
  have hb := B.bytes
  have hr := B.returns
  have hts := atoms_spec (ws := wsX4_thread) B.pre
  have hown : s.vm.findClass RX4 = some m.cls := findClass_of_methodNamed B.named
  have hlocks := B.notSynchronized
  have hK := hG.K
  have hS : va_S A s.heap s.heap [] := va_S.rf
  have hl := lv_entry ([.ref (ad 0 0), .int p0, .int p1, .int p2]) (n := 6) (Nat.le_of_ble_eq_true rfl)
  rw [lg_entry_eq]
  generalize (lg_sl ([.ref (ad 0 0), .int p0, .int p1, .int p2]) ++ List.replicate (6 - (lg_sl ([.ref (ad 0 0), .int p0, .int p1, .int p2])).length) Slot.unset).toArray = ls at hl ⊢
  have hl : lv_has ls 6 [(0, .ref (ad 0 0)), (1, .int p0), (2, .int p1), (3, .int p2)] := hl
  have hP : mP G.1 Mw s.heap := hP
  have h_X : Mw (ad 0 0) = some (.inr (4, [.ref (ad 1 0), .ref (ad 2 0), .int (nI (nT st)), .int (nI (nN st)), .int (gS st 0), .int (gS st 1), .int (gS st 2), .int (gS st 3), .int (gS st 4)])) := hC.1 0 0 (ok0 st)
  have h_TA : Mw (ad 1 0) = some (.inl (G.2.1 3, 8, .inr (.inr (.inr (.inr (qf (nT st) (ad 3))))))) := hC.1 1 0 (ok1 st)
  have h_IA : Mw (ad 2 0) = some (.inl (G.2.1 4, 6, .inr (.inr (.inr (.inr (qf (nN st) (ad 5))))))) := hC.1 2 0 (ok2 st)
  have hta9 := hC.ne (ok1 st) (ok2 st) (by omega)
  refine lv_aload_n hx hb dX4_thread_0 rfl (lv_at hl 0 rfl) ?_
  refine lv_iload_n hx hb dX4_thread_1 rfl (lv_at hl 1 rfl) ?_
  refine mx_callq (vx_runV (As := [.int p0]) (rest := []) ⟨hx, hb, hml, hown, hts⟩ (c_X4_tubeNumbered l G A Mw hl9  p0 h_X hV.1.1 h_TA) (cwV 1 hts gX4_thread_X4_tubeNumbered rfl rfl rfl (by decide +kernel) ⟨Nat.le_of_ble_eq_true rfl, Nat.le_of_ble_eq_true rfl⟩) (mPreV hG hS hP hI hA (hP _ _ h_X) (r := (RX4, TX4, 9)) rfl) rfl rfl hl.1 rfl (lv_room (Nat.le_of_ble_eq_true rfl)) dX4_thread_2 ⟨Nat.le_of_ble_eq_true rfl, Nat.le_of_ble_eq_true rfl⟩) hS (fun E9 ce9 q9 H locs hpx9 hP hI hS hc9 hv9 hcl9 => m_out (px := fun E => exc ["java/lang/IndexOutOfBoundsException", "java/lang/IllegalArgumentException", "java/util/NoSuchElementException"] (m_thread st p0 p1 p2) E) (fun x hx9 => absurd hx9 (fun q => hxt x q)) hlocks hP hI hS hc9 hv9 hcl9 ((by obtain ⟨hE9, hn9⟩ := hpx9; subst hE9; exact exc_of (by unfold m_thread; first | (rw [chk_n hn9]; done) | (rw [chk_n hn9]; rfl)) rfl)) (Nat.le_of_ble_eq_true rfl) (Nat.le_of_ble_eq_true rfl)) (fun r1 Mw1 H locs hp_r1 hP hI hS => ?_)
  obtain ⟨⟨ht9, hr9⟩, hm9⟩ := hp_r1
  subst Mw1
  subst hr9
  have h_T : Mw (ad 3 (ix p0)) = some (.inr (3, [.ref (ad 4 (ix p0)), .int (usS st (ix p0))])) := hC.1 3 _ (ok3 ht9.2)
  have h_B : Mw (ad 4 (ix p0)) = some (.inl (G.2.1 0, 20, .inl (boS st (ix p0)))) := hC.1 4 _ (ok4 ht9.2)
  refine lv_astore (lv' := [(4, .ref (ad 3 (ix p0))), (0, .ref (ad 0 0)), (1, .int p0), (2, .int p1), (3, .int p2)]) hx hb dX4_thread_5 hl (by decide) rfl (fun ls hl => ?_)
  refine lv_iload_n hx hb dX4_thread_7 rfl (lv_at hl 3 rfl) ?_
  refine mx_callv (vx_runS (As := [.int p1]) (rest := []) ⟨hx, hb, hml, hown, hts⟩ (c_X4_demandPlace l G A Mw hl9  p1) (va_cwS 1 hts gX4_thread_X4_demandPlace rfl rfl rfl (by decide +kernel) ⟨Nat.le_of_ble_eq_true rfl, Nat.le_of_ble_eq_true rfl⟩) (mPreS hG hS hP hI hA) rfl rfl hl.1 rfl (lv_room (Nat.le_of_ble_eq_true rfl)) dX4_thread_8 ⟨Nat.le_of_ble_eq_true rfl, Nat.le_of_ble_eq_true rfl⟩) hS (fun E9 ce9 q9 H locs hpx9 hP hI hS hc9 hv9 hcl9 => m_out (px := fun E => exc ["java/lang/IndexOutOfBoundsException", "java/lang/IllegalArgumentException", "java/util/NoSuchElementException"] (m_thread st p0 p1 p2) E) (fun x hx9 => absurd hx9 (fun q => hxt x q)) hlocks hP hI hS hc9 hv9 hcl9 ((by obtain ⟨hE9, hn9⟩ := hpx9; subst hE9; exact exc_of (by unfold m_thread; first | (rw [chk_p ht9, chk_n hn9]; done) | (rw [chk_p ht9, chk_n hn9]; rfl)) rfl)) (Nat.le_of_ble_eq_true rfl) (Nat.le_of_ble_eq_true rfl)) (fun Mw1 H locs hp_r2 hP hI hS => ?_)
  obtain ⟨hp_r2, hm9⟩ := hp_r2
  subst Mw1
  refine lv_iload_n hx hb dX4_thread_11 rfl (lv_at hl 4 rfl) ?_
  refine lv_iconst (v := 1) hx hb dX4_thread_12 (by decide) ?_
  refine lv_ldc (v := 99999) hx hb hown (hts (.constant RX4 64 (99999)) (by decide +kernel)) dX4_thread_13 ?_
  refine mx_callv (vx_runS (As := [.int p2, .int 1, .int 99999]) (rest := []) ⟨hx, hb, hml, hown, hts⟩ (c_X4_demandRange l G A Mw hl9  p2 1 99999) (va_cwS 3 hts gX4_thread_X4_demandRange rfl rfl rfl (by decide +kernel) ⟨Nat.le_of_ble_eq_true rfl, Nat.le_of_ble_eq_true rfl⟩) (mPreS hG hS hP hI hA) rfl rfl hl.1 rfl (lv_room (Nat.le_of_ble_eq_true rfl)) dX4_thread_15 ⟨Nat.le_of_ble_eq_true rfl, Nat.le_of_ble_eq_true rfl⟩) hS (fun E9 ce9 q9 H locs hpx9 hP hI hS hc9 hv9 hcl9 => m_out (px := fun E => exc ["java/lang/IndexOutOfBoundsException", "java/lang/IllegalArgumentException", "java/util/NoSuchElementException"] (m_thread st p0 p1 p2) E) (fun x hx9 => absurd hx9 (fun q => hxt x q)) hlocks hP hI hS hc9 hv9 hcl9 ((by obtain ⟨hE9, hn9⟩ := hpx9; subst hE9; exact exc_of (by unfold m_thread; first | (rw [chk_p ht9, chk_p hp_r2, chk_n hn9]; done) | (rw [chk_p ht9, chk_p hp_r2, chk_n hn9]; rfl)) rfl)) (Nat.le_of_ble_eq_true rfl) (Nat.le_of_ble_eq_true rfl)) (fun Mw1 H locs hp_r3 hP hI hS => ?_)
  obtain ⟨hp_r3, hm9⟩ := hp_r3
  subst Mw1
  refine lv_aload hx hb dX4_thread_18 (lv_at hl 0 rfl) ?_
  refine lv_aload hx hb dX4_thread_20 (lv_at hl 0 rfl) ?_
  refine lv_iload_n hx hb dX4_thread_22 rfl (lv_at hl 3 rfl) ?_
  refine m_calli (va_runV (As := [.int p1]) (rest := [.ref (ad 3 (ix p0))]) ⟨hx, hb, hml, hown, hts⟩ (c_X3_volumeUpTo l G A Mw  p1 h_T h_B) (cwV 1 hts gX4_thread_X3_volumeUpTo rfl rfl rfl (by decide +kernel) ⟨Nat.le_of_ble_eq_true rfl, Nat.le_of_ble_eq_true rfl⟩) (mPreV hG hS hP hI hA (hP _ _ h_T) (r := (RX3, TX3, 2)) rfl) rfl rfl hl.1 rfl (lv_room (Nat.le_of_ble_eq_true rfl)) dX4_thread_23 ⟨Nat.le_of_ble_eq_true rfl, Nat.le_of_ble_eq_true rfl⟩) hS (fun r4 Mw1 H locs hp_r4 hP hI hS => ?_)
  obtain ⟨hp_r4, hm9⟩ := hp_r4
  subst Mw1
  refine lv_iload_n hx hb dX4_thread_26 rfl (lv_at hl 4 rfl) ?_
  refine lv_iadd hx hb dX4_thread_27 ?_
  refine m_calli (va_runV (As := [.int (r4 + p2)]) (rest := []) ⟨hx, hb, hml, hown, hts⟩ (c_X3_firstPlaceHolding l G A Mw  (r4 + p2) h_T h_B) (cwV 1 hts gX4_thread_X3_firstPlaceHolding rfl rfl rfl (by decide +kernel) ⟨Nat.le_of_ble_eq_true rfl, Nat.le_of_ble_eq_true rfl⟩) (mPreV hG hS hP hI hA (hP _ _ h_T) (r := (RX3, TX3, 2)) rfl) rfl rfl hl.1 rfl (lv_room (Nat.le_of_ble_eq_true rfl)) dX4_thread_28 ⟨Nat.le_of_ble_eq_true rfl, Nat.le_of_ble_eq_true rfl⟩) hS (fun r5 Mw1 H locs hp_r5 hP hI hS => ?_)
  obtain ⟨hp_r5, hm9⟩ := hp_r5
  subst Mw1
  refine lv_istore (lv' := [(5, .int r5), (4, .ref (ad 3 (ix p0))), (0, .ref (ad 0 0)), (1, .int p0), (2, .int p1), (3, .int p2)]) hx hb dX4_thread_31 hl (by decide) rfl (fun ls hl => ?_)
  refine lv_iload hx hb dX4_thread_33 (lv_at hl 0 rfl) ?_
  refine lv_iconst (v := (-1)) hx hb dX4_thread_35 (by decide) ?_
  refine lv_icmp_ne (tgt := 49) hx hb dX4_thread_36 (by decide) (fun c6 => ?_) (fun c6 => ?_)
  · skip
    have hf8 : fphR (boS st (ix p0)) (vsum (boS st (ix p0)) p1 20 + p2) r5 := by rw [← hp_r4]; exact hp_r5
    have hf9 := thr_eq hf8
    have hq9 : ¬ thr st (ix p0) p1 p2 = -1 := by rw [hf9]; exact c6
    refine lv_iload hx hb dX4_thread_49 (lv_at hl 0 rfl) ?_
    refine W.widen (k := 4) (n := 24) (Nat.le_of_ble_eq_true rfl) (Nat.le_of_ble_eq_true rfl) ?_
    refine vx_ret ?_
    exact W.iret (v := r5) hx hb hr (fun t99 ht99 hW99 => ⟨⟨r5, Mw, rfl, ⟨st, ad, by unfold m_thread; first | (rw [chk_p ht9, chk_p hp_r2, chk_p hp_r3, chk_p hq9, hf9]; done) | (rw [chk_p ht9, chk_p hp_r2, chk_p hp_r3, chk_p hq9, hf9]; rfl), hC, rfl⟩, by rw [ht99]; exact hP, hI⟩, hS.F ht99⟩) hS.2.2 dX4_thread_51
  · skip
    have hf8 : fphR (boS st (ix p0)) (vsum (boS st (ix p0)) p1 20 + p2) r5 := by rw [← hp_r4]; exact hp_r5
    have hf9 := thr_eq hf8
    rw [c6] at hf9
    obtain ⟨sa9, hsa9⟩ := hG.2.1.2.2.2.2.2.1 (70, "the thread goes beyond the tube") (by decide +kernel)
    exact vn_throwS (text := "the thread goes beyond the tube") hx hb hl9 hown (hts (.classLink RX4 68 "java/util/NoSuchElementException") (by decide +kernel)) (hts (.initialized "java/util/NoSuchElementException") (by decide +kernel)) hsa9 (m_hatN hG (fun w h => hts w (List.mem_cons_of_mem _ (List.mem_append_left _ (List.mem_append_left _ (List.mem_append_right _ h))))) (by decide +kernel) (by decide +kernel)) (by decide +kernel) hG.2.2.1 hG.2.2.2.1 hS (hl.1.trans hml.symm) dX4_thread_39 dX4_thread_42 dX4_thread_43 dX4_thread_45 dX4_thread_48 (fun x hx9 => absurd hx9 (fun q => hxt x q)) (Nat.le_of_ble_eq_true rfl) (Nat.le_of_ble_eq_true rfl) (Nat.le_of_ble_eq_true rfl) (Nat.le_of_ble_eq_true rfl) hlocks (fun t9 _ h92 h93 => m_thrown (px := fun E => exc ["java/lang/IndexOutOfBoundsException", "java/lang/IllegalArgumentException", "java/util/NoSuchElementException"] (m_thread st p0 p1 p2) E) (E := vnN) hP hI hS (exc_of (by unfold m_thread; first | (rw [chk_p ht9, chk_p hp_r2, chk_p hp_r3, chk_n (fun q9 => q9 hf9)]; done) | (rw [chk_p ht9, chk_p hp_r2, chk_p hp_r3, chk_n (fun q9 => q9 hf9)]; rfl)) rfl) t9 h92 h93) hS.2.2 (Nat.le_of_ble_eq_true rfl) (Nat.le_of_ble_eq_true rfl)

set_option maxHeartbeats 4000000 in
set_option maxRecDepth 100000 in
theorem c_X4_deliver (l : Launch) (G : mg) (A : Nat → Prop) (Mw : mw) (hl9 : l.stackTraces = false) (st : St) (ad : adr) (p0 p1 p2 p3 : Int32) (hC : CS G st ad Mw) (hV : Inv st) : vx_Met l yX4_deliver wsX4_deliver ({ frames := 8, cells := 5, slots := 30, locals := 124 }) (va_Pc [.ref (ad 0 0), .int p0, .int p1, .int p2, .int p3] (mB G A Mw)) (va_Qi (fun r Mw1 => ∃ (s1 : St) (ad1 : adr), m_deliver st p0 p1 p2 p3 = (0, r, s1) ∧ CS G s1 ad1 Mw1 ∧ ad1 0 0 = ad 0 0) (mE G A) A) (xX (fun E => exc ["java/lang/IndexOutOfBoundsException", "java/lang/IllegalArgumentException"] (m_deliver st p0 p1 p2 p3) E) G A Mw) 5 30 A := by
  refine vx_ofW (cc := cX4_deliver) (maxL := 7) (ret := (some .int)) (by decide) rfl ?_
  intro p e s m args below meth c s₁ B hml hxt hv
  obtain ⟨rfl, hG, hP, hI, hA⟩ := hv
  have hx := B.exec
  have hb := B.bytes
  have hr := B.returns
  have hts := atoms_spec (ws := wsX4_deliver) B.pre
  have hown : s.vm.findClass RX4 = some m.cls := findClass_of_methodNamed B.named
  have hlocks := B.notSynchronized
  have hK := hG.K
  have hS : va_S A s.heap s.heap [] := va_S.rf
  have hl := lv_entry ([.ref (ad 0 0), .int p0, .int p1, .int p2, .int p3]) (n := 7) (Nat.le_of_ble_eq_true rfl)
  rw [lg_entry_eq]
  generalize (lg_sl ([.ref (ad 0 0), .int p0, .int p1, .int p2, .int p3]) ++ List.replicate (7 - (lg_sl ([.ref (ad 0 0), .int p0, .int p1, .int p2, .int p3])).length) Slot.unset).toArray = ls at hl ⊢
  have hl : lv_has ls 7 [(0, .ref (ad 0 0)), (1, .int p0), (2, .int p1), (3, .int p2), (4, .int p3)] := hl
  have hP : mP G.1 Mw s.heap := hP
  have h_X : Mw (ad 0 0) = some (.inr (4, [.ref (ad 1 0), .ref (ad 2 0), .int (nI (nT st)), .int (nI (nN st)), .int (gS st 0), .int (gS st 1), .int (gS st 2), .int (gS st 3), .int (gS st 4)])) := hC.1 0 0 (ok0 st)
  have h_TA : Mw (ad 1 0) = some (.inl (G.2.1 3, 8, .inr (.inr (.inr (.inr (qf (nT st) (ad 3))))))) := hC.1 1 0 (ok1 st)
  have h_IA : Mw (ad 2 0) = some (.inl (G.2.1 4, 6, .inr (.inr (.inr (.inr (qf (nN st) (ad 5))))))) := hC.1 2 0 (ok2 st)
  have hta9 := hC.ne (ok1 st) (ok2 st) (by omega)
  refine lv_aload_n hx hb dX4_deliver_0 rfl (lv_at hl 0 rfl) ?_
  refine lv_iload_n hx hb dX4_deliver_1 rfl (lv_at hl 1 rfl) ?_
  refine mx_callq (vx_runV (As := [.int p0]) (rest := []) ⟨hx, hb, hml, hown, hts⟩ (c_X4_tubeNumbered l G A Mw hl9  p0 h_X hV.1.1 h_TA) (cwV 1 hts gX4_deliver_X4_tubeNumbered rfl rfl rfl (by decide +kernel) ⟨Nat.le_of_ble_eq_true rfl, Nat.le_of_ble_eq_true rfl⟩) (mPreV hG hS hP hI hA (hP _ _ h_X) (r := (RX4, TX4, 9)) rfl) rfl rfl hl.1 rfl (lv_room (Nat.le_of_ble_eq_true rfl)) dX4_deliver_2 ⟨Nat.le_of_ble_eq_true rfl, Nat.le_of_ble_eq_true rfl⟩) hS (fun E9 ce9 q9 H locs hpx9 hP hI hS hc9 hv9 hcl9 => m_out (px := fun E => exc ["java/lang/IndexOutOfBoundsException", "java/lang/IllegalArgumentException"] (m_deliver st p0 p1 p2 p3) E) (fun x hx9 => absurd hx9 (fun q => hxt x q)) hlocks hP hI hS hc9 hv9 hcl9 ((by obtain ⟨hE9, hn9⟩ := hpx9; subst hE9; exact exc_of (by unfold m_deliver; first | (rw [chk_n hn9]; done) | (rw [chk_n hn9]; rfl)) rfl)) (Nat.le_of_ble_eq_true rfl) (Nat.le_of_ble_eq_true rfl)) (fun r1 Mw1 H locs hp_r1 hP hI hS => ?_)
  obtain ⟨⟨ht9, hr9⟩, hm9⟩ := hp_r1
  subst Mw1
  subst hr9
  have h_T : Mw (ad 3 (ix p0)) = some (.inr (3, [.ref (ad 4 (ix p0)), .int (usS st (ix p0))])) := hC.1 3 _ (ok3 ht9.2)
  have h_B : Mw (ad 4 (ix p0)) = some (.inl (G.2.1 0, 20, .inl (boS st (ix p0)))) := hC.1 4 _ (ok4 ht9.2)
  refine lv_astore (lv' := [(5, .ref (ad 3 (ix p0))), (0, .ref (ad 0 0)), (1, .int p0), (2, .int p1), (3, .int p2), (4, .int p3)]) hx hb dX4_deliver_5 hl (by decide) rfl (fun ls hl => ?_)
  refine lv_iload_n hx hb dX4_deliver_7 rfl (lv_at hl 3 rfl) ?_
  refine mx_callv (vx_runS (As := [.int p1]) (rest := []) ⟨hx, hb, hml, hown, hts⟩ (c_X4_demandPlace l G A Mw hl9  p1) (va_cwS 1 hts gX4_deliver_X4_demandPlace rfl rfl rfl (by decide +kernel) ⟨Nat.le_of_ble_eq_true rfl, Nat.le_of_ble_eq_true rfl⟩) (mPreS hG hS hP hI hA) rfl rfl hl.1 rfl (lv_room (Nat.le_of_ble_eq_true rfl)) dX4_deliver_8 ⟨Nat.le_of_ble_eq_true rfl, Nat.le_of_ble_eq_true rfl⟩) hS (fun E9 ce9 q9 H locs hpx9 hP hI hS hc9 hv9 hcl9 => m_out (px := fun E => exc ["java/lang/IndexOutOfBoundsException", "java/lang/IllegalArgumentException"] (m_deliver st p0 p1 p2 p3) E) (fun x hx9 => absurd hx9 (fun q => hxt x q)) hlocks hP hI hS hc9 hv9 hcl9 ((by obtain ⟨hE9, hn9⟩ := hpx9; subst hE9; exact exc_of (by unfold m_deliver; first | (rw [chk_p ht9, chk_n hn9]; done) | (rw [chk_p ht9, chk_n hn9]; rfl)) rfl)) (Nat.le_of_ble_eq_true rfl) (Nat.le_of_ble_eq_true rfl)) (fun Mw1 H locs hp_r2 hP hI hS => ?_)
  obtain ⟨hp_r2, hm9⟩ := hp_r2
  subst Mw1
  refine lv_iload_n hx hb dX4_deliver_11 rfl (lv_at hl 4 rfl) ?_
  refine mx_callv (vx_runS (As := [.int p2]) (rest := []) ⟨hx, hb, hml, hown, hts⟩ (c_X4_demandPlace l G A Mw hl9  p2) (va_cwS 1 hts gX4_deliver_X4_demandPlace rfl rfl rfl (by decide +kernel) ⟨Nat.le_of_ble_eq_true rfl, Nat.le_of_ble_eq_true rfl⟩) (mPreS hG hS hP hI hA) rfl rfl hl.1 rfl (lv_room (Nat.le_of_ble_eq_true rfl)) dX4_deliver_12 ⟨Nat.le_of_ble_eq_true rfl, Nat.le_of_ble_eq_true rfl⟩) hS (fun E9 ce9 q9 H locs hpx9 hP hI hS hc9 hv9 hcl9 => m_out (px := fun E => exc ["java/lang/IndexOutOfBoundsException", "java/lang/IllegalArgumentException"] (m_deliver st p0 p1 p2 p3) E) (fun x hx9 => absurd hx9 (fun q => hxt x q)) hlocks hP hI hS hc9 hv9 hcl9 ((by obtain ⟨hE9, hn9⟩ := hpx9; subst hE9; exact exc_of (by unfold m_deliver; first | (rw [chk_p ht9, chk_p hp_r2, chk_n hn9]; done) | (rw [chk_p ht9, chk_p hp_r2, chk_n hn9]; rfl)) rfl)) (Nat.le_of_ble_eq_true rfl) (Nat.le_of_ble_eq_true rfl)) (fun Mw1 H locs hp_r3 hP hI hS => ?_)
  obtain ⟨hp_r3, hm9⟩ := hp_r3
  subst Mw1
  refine lv_iload hx hb dX4_deliver_15 (lv_at hl 5 rfl) ?_
  refine lv_iconst (v := 1) hx hb dX4_deliver_17 (by decide) ?_
  refine lv_sipush (v := (999)) hx hb dX4_deliver_18 (by decide) ?_
  refine mx_callv (vx_runS (As := [.int p3, .int 1, .int 999]) (rest := []) ⟨hx, hb, hml, hown, hts⟩ (c_X4_demandRange l G A Mw hl9  p3 1 999) (va_cwS 3 hts gX4_deliver_X4_demandRange rfl rfl rfl (by decide +kernel) ⟨Nat.le_of_ble_eq_true rfl, Nat.le_of_ble_eq_true rfl⟩) (mPreS hG hS hP hI hA) rfl rfl hl.1 rfl (lv_room (Nat.le_of_ble_eq_true rfl)) dX4_deliver_21 ⟨Nat.le_of_ble_eq_true rfl, Nat.le_of_ble_eq_true rfl⟩) hS (fun E9 ce9 q9 H locs hpx9 hP hI hS hc9 hv9 hcl9 => m_out (px := fun E => exc ["java/lang/IndexOutOfBoundsException", "java/lang/IllegalArgumentException"] (m_deliver st p0 p1 p2 p3) E) (fun x hx9 => absurd hx9 (fun q => hxt x q)) hlocks hP hI hS hc9 hv9 hcl9 ((by obtain ⟨hE9, hn9⟩ := hpx9; subst hE9; exact exc_of (by unfold m_deliver; first | (rw [chk_p ht9, chk_p hp_r2, chk_p hp_r3, chk_n hn9]; done) | (rw [chk_p ht9, chk_p hp_r2, chk_p hp_r3, chk_n hn9]; rfl)) rfl)) (Nat.le_of_ble_eq_true rfl) (Nat.le_of_ble_eq_true rfl)) (fun Mw1 H locs hp_r4 hP hI hS => ?_)
  obtain ⟨hp_r4, hm9⟩ := hp_r4
  subst Mw1
  refine lv_iload_n hx hb dX4_deliver_24 rfl (lv_at hl 4 rfl) ?_
  refine lv_iload_n hx hb dX4_deliver_25 rfl (lv_at hl 3 rfl) ?_
  refine lv_icmp_lt (tgt := 39) hx hb dX4_deliver_26 (by decide) (fun c5 => ?_) (fun c5 => ?_)
  · skip
    have hb_c5 := c5
    refine lv_aload hx hb dX4_deliver_39 (lv_at hl 0 rfl) ?_
    refine lv_iload_n hx hb dX4_deliver_41 rfl (lv_at hl 3 rfl) ?_
    refine m_calli (va_runV (As := [.int p1]) (rest := []) ⟨hx, hb, hml, hown, hts⟩ (c_X3_volumeUpTo l G A Mw  p1 h_T h_B) (cwV 1 hts gX4_deliver_X3_volumeUpTo rfl rfl rfl (by decide +kernel) ⟨Nat.le_of_ble_eq_true rfl, Nat.le_of_ble_eq_true rfl⟩) (mPreV hG hS hP hI hA (hP _ _ h_T) (r := (RX3, TX3, 2)) rfl) rfl rfl hl.1 rfl (lv_room (Nat.le_of_ble_eq_true rfl)) dX4_deliver_42 ⟨Nat.le_of_ble_eq_true rfl, Nat.le_of_ble_eq_true rfl⟩) hS (fun r6 Mw1 H locs hp_r6 hP hI hS => ?_)
    obtain ⟨hp_r6, hm9⟩ := hp_r6
    subst Mw1
    refine lv_aload hx hb dX4_deliver_45 (lv_at hl 0 rfl) ?_
    refine lv_iload_n hx hb dX4_deliver_47 rfl (lv_at hl 4 rfl) ?_
    refine m_calli (va_runV (As := [.int p2]) (rest := [.int r6]) ⟨hx, hb, hml, hown, hts⟩ (c_X3_volumeUpTo l G A Mw  p2 h_T h_B) (cwV 1 hts gX4_deliver_X3_volumeUpTo rfl rfl rfl (by decide +kernel) ⟨Nat.le_of_ble_eq_true rfl, Nat.le_of_ble_eq_true rfl⟩) (mPreV hG hS hP hI hA (hP _ _ h_T) (r := (RX3, TX3, 2)) rfl) rfl rfl hl.1 rfl (lv_room (Nat.le_of_ble_eq_true rfl)) dX4_deliver_48 ⟨Nat.le_of_ble_eq_true rfl, Nat.le_of_ble_eq_true rfl⟩) hS (fun r7 Mw1 H locs hp_r7 hP hI hS => ?_)
    obtain ⟨hp_r7, hm9⟩ := hp_r7
    subst Mw1
    refine lv_isub hx hb dX4_deliver_51 ?_
    refine lv_istore (lv' := [(6, .int (r6 - r7)), (5, .ref (ad 3 (ix p0))), (0, .ref (ad 0 0)), (1, .int p0), (2, .int p1), (3, .int p2), (4, .int p3)]) hx hb dX4_deliver_52 hl (by decide) rfl (fun ls hl => ?_)
    refine lv_iload hx hb dX4_deliver_54 (lv_at hl 0 rfl) ?_
    refine lv_aload hx hb dX4_deliver_56 (lv_at hl 1 rfl) ?_
    refine lv_iload_n hx hb dX4_deliver_58 rfl (lv_at hl 5 rfl) ?_
    refine lv_iload_n hx hb dX4_deliver_59 rfl (lv_at hl 4 rfl) ?_
    refine lv_iload hx hb dX4_deliver_60 (lv_at hl 6 rfl) ?_
    refine m_calli (va_runS (As := [.int p3]) (rest := [.int p1, .int p2, .ref (ad 3 (ix p0)), .int (r6 - r7)]) ⟨hx, hb, hml, hown, hts⟩ (c_X4_clingingToStep l G A Mw  p3) (va_cwS 1 hts gX4_deliver_X4_clingingToStep rfl rfl rfl (by decide +kernel) ⟨Nat.le_of_ble_eq_true rfl, Nat.le_of_ble_eq_true rfl⟩) (mPreS hG hS hP hI hA) rfl rfl hl.1 rfl (lv_room (Nat.le_of_ble_eq_true rfl)) dX4_deliver_62 ⟨Nat.le_of_ble_eq_true rfl, Nat.le_of_ble_eq_true rfl⟩) hS (fun r8 Mw1 H locs hp_r8 hP hI hS => ?_)
    obtain ⟨hp_r8, hm9⟩ := hp_r8
    subst Mw1
    refine m_calli (va_runV (As := [.int p2, .int p1, .int r8]) (rest := [.int (r6 - r7)]) ⟨hx, hb, hml, hown, hts⟩ (c_X3_clinging l G A Mw  p2 p1 r8 h_T h_B) (cwV 3 hts gX4_deliver_X3_clinging rfl rfl rfl (by decide +kernel) ⟨Nat.le_of_ble_eq_true rfl, Nat.le_of_ble_eq_true rfl⟩) (mPreV hG hS hP hI hA (hP _ _ h_T) (r := (RX3, TX3, 2)) rfl) rfl rfl hl.1 rfl (lv_room (Nat.le_of_ble_eq_true rfl)) dX4_deliver_65 ⟨Nat.le_of_ble_eq_true rfl, Nat.le_of_ble_eq_true rfl⟩) hS (fun r9 Mw1 H locs hp_r9 hP hI hS => ?_)
    obtain ⟨hp_r9, hm9⟩ := hp_r9
    subst Mw1
    refine lv_isub hx hb dX4_deliver_68 ?_
    refine W.widen (k := 5) (n := 30) (Nat.le_of_ble_eq_true rfl) (Nat.le_of_ble_eq_true rfl) ?_
    refine vx_ret ?_
    exact W.iret (v := (r6 - r7) - r9) hx hb hr (fun t99 ht99 hW99 => ⟨⟨(r6 - r7) - r9, Mw, rfl, ⟨st, ad, by unfold m_deliver; first | (rw [chk_p ht9, chk_p hp_r2, chk_p hp_r3, chk_p hp_r4, chk_p hb_c5, hp_r6, hp_r7, hp_r9, hp_r8]; done) | (rw [chk_p ht9, chk_p hp_r2, chk_p hp_r3, chk_p hp_r4, chk_p hb_c5, hp_r6, hp_r7, hp_r9, hp_r8]; rfl), hC, rfl⟩, by rw [ht99]; exact hP, hI⟩, hS.F ht99⟩) hS.2.2 dX4_deliver_69
  · skip
    obtain ⟨sa9, hsa9⟩ := hG.2.1.2.2.2.2.2.1 (79, "the second place is not lower") (by decide +kernel)
    exact vx_throwS (text := "the second place is not lower") (names := ["java/lang/RuntimeException", "java/lang/Exception"]) hx hb hl9 hown (by decide +kernel) (by decide +kernel) (hts (.classLink RX4 77 "java/lang/IllegalArgumentException") (by decide +kernel)) (hts (.initialized "java/lang/IllegalArgumentException") (by decide +kernel)) hsa9 (m_hat hG (fun w h => hts w (List.mem_cons_of_mem _ (List.mem_append_left _ (List.mem_append_right _ h)))) (by decide +kernel) (by decide +kernel)) (by decide +kernel) hG.2.2.1 hG.2.2.2.1 hS (hl.1.trans hml.symm) dX4_deliver_29 dX4_deliver_32 dX4_deliver_33 dX4_deliver_35 dX4_deliver_38 (fun x hx9 => absurd hx9 (fun q => hxt x q)) (Nat.le_of_ble_eq_true rfl) (Nat.le_of_ble_eq_true rfl) (Nat.le_of_ble_eq_true rfl) (Nat.le_of_ble_eq_true rfl) hlocks (fun t9 _ h92 h93 => m_thrown (px := fun E => exc ["java/lang/IndexOutOfBoundsException", "java/lang/IllegalArgumentException"] (m_deliver st p0 p1 p2 p3) E) (E := "java/lang/IllegalArgumentException") hP hI hS (exc_of (by unfold m_deliver; first | (rw [chk_p ht9, chk_p hp_r2, chk_p hp_r3, chk_p hp_r4, chk_n c5]; done) | (rw [chk_p ht9, chk_p hp_r2, chk_p hp_r3, chk_p hp_r4, chk_n c5]; rfl)) rfl) t9 h92 h93) hS.2.2 (Nat.le_of_ble_eq_true rfl) (Nat.le_of_ble_eq_true rfl)

set_option maxHeartbeats 4000000 in
set_option maxRecDepth 100000 in
theorem c_X4_section (l : Launch) (G : mg) (A : Nat → Prop) (Mw : mw) (hl9 : l.stackTraces = false) (st : St) (ad : adr) (p0 p1 p2 : Int32) (hC : CS G st ad Mw) (hV : Inv st) : vx_Met l yX4_section wsX4_section ({ frames := 7, cells := 4, slots := 24, locals := 104 }) (va_Pc [.ref (ad 0 0), .int p0, .int p1, .int p2] (mB G A Mw)) (va_Qi (fun r Mw1 => ∃ (s1 : St) (ad1 : adr), m_section st p0 p1 p2 = (0, r, s1) ∧ CS G s1 ad1 Mw1 ∧ ad1 0 0 = ad 0 0) (mE G A) A) (xX (fun E => exc ["java/lang/IndexOutOfBoundsException", "java/lang/IllegalArgumentException", "java/lang/UnsupportedOperationException"] (m_section st p0 p1 p2) E) G A Mw) 4 24 A := by
  refine vx_ofW (cc := cX4_section) (maxL := 6) (ret := (some .int)) (by decide) rfl ?_
  intro p e s m args below meth c s₁ B hml hxt hv
  obtain ⟨rfl, hG, hP, hI, hA⟩ := hv
  have hx := B.exec
  have hb := B.bytes
  have hr := B.returns
  have hts := atoms_spec (ws := wsX4_section) B.pre
  have hown : s.vm.findClass RX4 = some m.cls := findClass_of_methodNamed B.named
  have hlocks := B.notSynchronized
  have hK := hG.K
  have hS : va_S A s.heap s.heap [] := va_S.rf
  have hl := lv_entry ([.ref (ad 0 0), .int p0, .int p1, .int p2]) (n := 6) (Nat.le_of_ble_eq_true rfl)
  rw [lg_entry_eq]
  generalize (lg_sl ([.ref (ad 0 0), .int p0, .int p1, .int p2]) ++ List.replicate (6 - (lg_sl ([.ref (ad 0 0), .int p0, .int p1, .int p2])).length) Slot.unset).toArray = ls at hl ⊢
  have hl : lv_has ls 6 [(0, .ref (ad 0 0)), (1, .int p0), (2, .int p1), (3, .int p2)] := hl
  have hP : mP G.1 Mw s.heap := hP
  have h_X : Mw (ad 0 0) = some (.inr (4, [.ref (ad 1 0), .ref (ad 2 0), .int (nI (nT st)), .int (nI (nN st)), .int (gS st 0), .int (gS st 1), .int (gS st 2), .int (gS st 3), .int (gS st 4)])) := hC.1 0 0 (ok0 st)
  have h_TA : Mw (ad 1 0) = some (.inl (G.2.1 3, 8, .inr (.inr (.inr (.inr (qf (nT st) (ad 3))))))) := hC.1 1 0 (ok1 st)
  have h_IA : Mw (ad 2 0) = some (.inl (G.2.1 4, 6, .inr (.inr (.inr (.inr (qf (nN st) (ad 5))))))) := hC.1 2 0 (ok2 st)
  have hta9 := hC.ne (ok1 st) (ok2 st) (by omega)
  refine lv_aload_n hx hb dX4_section_0 rfl (lv_at hl 0 rfl) ?_
  refine lv_iload_n hx hb dX4_section_1 rfl (lv_at hl 1 rfl) ?_
  refine mx_callq (vx_runV (As := [.int p0]) (rest := []) ⟨hx, hb, hml, hown, hts⟩ (c_X4_tubeNumbered l G A Mw hl9  p0 h_X hV.1.1 h_TA) (cwV 1 hts gX4_section_X4_tubeNumbered rfl rfl rfl (by decide +kernel) ⟨Nat.le_of_ble_eq_true rfl, Nat.le_of_ble_eq_true rfl⟩) (mPreV hG hS hP hI hA (hP _ _ h_X) (r := (RX4, TX4, 9)) rfl) rfl rfl hl.1 rfl (lv_room (Nat.le_of_ble_eq_true rfl)) dX4_section_2 ⟨Nat.le_of_ble_eq_true rfl, Nat.le_of_ble_eq_true rfl⟩) hS (fun E9 ce9 q9 H locs hpx9 hP hI hS hc9 hv9 hcl9 => m_out (px := fun E => exc ["java/lang/IndexOutOfBoundsException", "java/lang/IllegalArgumentException", "java/lang/UnsupportedOperationException"] (m_section st p0 p1 p2) E) (fun x hx9 => absurd hx9 (fun q => hxt x q)) hlocks hP hI hS hc9 hv9 hcl9 ((by obtain ⟨hE9, hn9⟩ := hpx9; subst hE9; exact exc_of (by unfold m_section; first | (rw [chk_n hn9]; done) | (rw [chk_n hn9]; rfl)) rfl)) (Nat.le_of_ble_eq_true rfl) (Nat.le_of_ble_eq_true rfl)) (fun r1 Mw1 H locs hp_r1 hP hI hS => ?_)
  obtain ⟨⟨ht9, hr9⟩, hm9⟩ := hp_r1
  subst Mw1
  subst hr9
  have h_T : Mw (ad 3 (ix p0)) = some (.inr (3, [.ref (ad 4 (ix p0)), .int (usS st (ix p0))])) := hC.1 3 _ (ok3 ht9.2)
  have h_B : Mw (ad 4 (ix p0)) = some (.inl (G.2.1 0, 20, .inl (boS st (ix p0)))) := hC.1 4 _ (ok4 ht9.2)
  refine lv_astore (lv' := [(4, .ref (ad 3 (ix p0))), (0, .ref (ad 0 0)), (1, .int p0), (2, .int p1), (3, .int p2)]) hx hb dX4_section_5 hl (by decide) rfl (fun ls hl => ?_)
  refine lv_iload_n hx hb dX4_section_7 rfl (lv_at hl 3 rfl) ?_
  refine lv_iconst (v := 0) hx hb dX4_section_8 (by decide) ?_
  refine lv_bipush (v := (19)) hx hb dX4_section_9 (by decide) ?_
  refine mx_callv (vx_runS (As := [.int p1, .int 0, .int 19]) (rest := []) ⟨hx, hb, hml, hown, hts⟩ (c_X4_demandRange l G A Mw hl9  p1 0 19) (va_cwS 3 hts gX4_section_X4_demandRange rfl rfl rfl (by decide +kernel) ⟨Nat.le_of_ble_eq_true rfl, Nat.le_of_ble_eq_true rfl⟩) (mPreS hG hS hP hI hA) rfl rfl hl.1 rfl (lv_room (Nat.le_of_ble_eq_true rfl)) dX4_section_11 ⟨Nat.le_of_ble_eq_true rfl, Nat.le_of_ble_eq_true rfl⟩) hS (fun E9 ce9 q9 H locs hpx9 hP hI hS hc9 hv9 hcl9 => m_out (px := fun E => exc ["java/lang/IndexOutOfBoundsException", "java/lang/IllegalArgumentException", "java/lang/UnsupportedOperationException"] (m_section st p0 p1 p2) E) (fun x hx9 => absurd hx9 (fun q => hxt x q)) hlocks hP hI hS hc9 hv9 hcl9 ((by obtain ⟨hE9, hn9⟩ := hpx9; subst hE9; exact exc_of (by unfold m_section; first | (rw [chk_p ht9, chk_n hn9]; done) | (rw [chk_p ht9, chk_n hn9]; rfl)) rfl)) (Nat.le_of_ble_eq_true rfl) (Nat.le_of_ble_eq_true rfl)) (fun Mw1 H locs hp_r2 hP hI hS => ?_)
  obtain ⟨hp_r2, hm9⟩ := hp_r2
  subst Mw1
  refine lv_iload_n hx hb dX4_section_14 rfl (lv_at hl 4 rfl) ?_
  refine lv_iconst (v := 1) hx hb dX4_section_15 (by decide) ?_
  refine lv_bipush (v := (60)) hx hb dX4_section_16 (by decide) ?_
  refine mx_callv (vx_runS (As := [.int p2, .int 1, .int 60]) (rest := []) ⟨hx, hb, hml, hown, hts⟩ (c_X4_demandRange l G A Mw hl9  p2 1 60) (va_cwS 3 hts gX4_section_X4_demandRange rfl rfl rfl (by decide +kernel) ⟨Nat.le_of_ble_eq_true rfl, Nat.le_of_ble_eq_true rfl⟩) (mPreS hG hS hP hI hA) rfl rfl hl.1 rfl (lv_room (Nat.le_of_ble_eq_true rfl)) dX4_section_18 ⟨Nat.le_of_ble_eq_true rfl, Nat.le_of_ble_eq_true rfl⟩) hS (fun E9 ce9 q9 H locs hpx9 hP hI hS hc9 hv9 hcl9 => m_out (px := fun E => exc ["java/lang/IndexOutOfBoundsException", "java/lang/IllegalArgumentException", "java/lang/UnsupportedOperationException"] (m_section st p0 p1 p2) E) (fun x hx9 => absurd hx9 (fun q => hxt x q)) hlocks hP hI hS hc9 hv9 hcl9 ((by obtain ⟨hE9, hn9⟩ := hpx9; subst hE9; exact exc_of (by unfold m_section; first | (rw [chk_p ht9, chk_p hp_r2, chk_n hn9]; done) | (rw [chk_p ht9, chk_p hp_r2, chk_n hn9]; rfl)) rfl)) (Nat.le_of_ble_eq_true rfl) (Nat.le_of_ble_eq_true rfl)) (fun Mw1 H locs hp_r3 hP hI hS => ?_)
  obtain ⟨hp_r3, hm9⟩ := hp_r3
  subst Mw1
  refine lv_aload hx hb dX4_section_21 (lv_at hl 0 rfl) ?_
  refine mx_callv (vx_runS (As := [.ref (ad 3 (ix p0))]) (rest := []) ⟨hx, hb, hml, hown, hts⟩ (c_X4_demandUnused l G A Mw hl9  h_T) (va_cwS 1 hts gX4_section_X4_demandUnused rfl rfl rfl (by decide +kernel) ⟨Nat.le_of_ble_eq_true rfl, Nat.le_of_ble_eq_true rfl⟩) (mPreS hG hS hP hI hA) rfl rfl hl.1 rfl (lv_room (Nat.le_of_ble_eq_true rfl)) dX4_section_23 ⟨Nat.le_of_ble_eq_true rfl, Nat.le_of_ble_eq_true rfl⟩) hS (fun E9 ce9 q9 H locs hpx9 hP hI hS hc9 hv9 hcl9 => m_out (px := fun E => exc ["java/lang/IndexOutOfBoundsException", "java/lang/IllegalArgumentException", "java/lang/UnsupportedOperationException"] (m_section st p0 p1 p2) E) (fun x hx9 => absurd hx9 (fun q => hxt x q)) hlocks hP hI hS hc9 hv9 hcl9 ((by obtain ⟨hE9, hn9⟩ := hpx9; subst hE9; exact exc_of (by unfold m_section; first | (rw [chk_p ht9, chk_p hp_r2, chk_p hp_r3, chk_n hn9]; done) | (rw [chk_p ht9, chk_p hp_r2, chk_p hp_r3, chk_n hn9]; rfl)) rfl)) (Nat.le_of_ble_eq_true rfl) (Nat.le_of_ble_eq_true rfl)) (fun Mw1 H locs hp_r4 hP hI hS => ?_)
  obtain ⟨hp_r4, hm9⟩ := hp_r4
  subst Mw1
  refine lv_aload hx hb dX4_section_26 (lv_at hl 0 rfl) ?_
  refine lv_iload_n hx hb dX4_section_28 rfl (lv_at hl 3 rfl) ?_
  refine m_calli (va_runV (As := [.int p1]) (rest := []) ⟨hx, hb, hml, hown, hts⟩ (c_X3_boreOf l G A Mw  p1 h_T h_B) (cwV 1 hts gX4_section_X3_boreOf rfl rfl rfl (by decide +kernel) ⟨Nat.le_of_ble_eq_true rfl, Nat.le_of_ble_eq_true rfl⟩) (mPreV hG hS hP hI hA (hP _ _ h_T) (r := (RX3, TX3, 2)) rfl) rfl rfl hl.1 rfl (lv_room (Nat.le_of_ble_eq_true rfl)) dX4_section_29 ⟨Nat.le_of_ble_eq_true rfl, Nat.le_of_ble_eq_true rfl⟩) hS (fun r5 Mw1 H locs hp_r5 hP hI hS => ?_)
  obtain ⟨hp_r5, hm9⟩ := hp_r5
  subst Mw1
  refine lv_istore (lv' := [(5, .int r5), (4, .ref (ad 3 (ix p0))), (0, .ref (ad 0 0)), (1, .int p0), (2, .int p1), (3, .int p2)]) hx hb dX4_section_32 hl (by decide) rfl (fun ls hl => ?_)
  refine lv_aload hx hb dX4_section_34 (lv_at hl 1 rfl) ?_
  refine lv_iload_n hx hb dX4_section_36 rfl (lv_at hl 4 rfl) ?_
  refine lv_iload_n hx hb dX4_section_37 rfl (lv_at hl 5 rfl) ?_
  refine m_callv (va_runV (As := [.int p1, .int p2]) (rest := []) ⟨hx, hb, hml, hown, hts⟩ (c_X3_setBore l G A Mw  p1 p2 hp_r2.1 (i_nle (Int32.lt_of_le_of_lt hp_r2.2 (by decide))) h_T h_B) (cwV 2 hts gX4_section_X3_setBore rfl rfl rfl (by decide +kernel) ⟨Nat.le_of_ble_eq_true rfl, Nat.le_of_ble_eq_true rfl⟩) (mPreV hG hS hP hI hA (hP _ _ h_T) (r := (RX3, TX3, 2)) rfl) rfl rfl hl.1 rfl (lv_room (Nat.le_of_ble_eq_true rfl)) dX4_section_38 ⟨Nat.le_of_ble_eq_true rfl, Nat.le_of_ble_eq_true rfl⟩) hS (fun Mw1 H locs hp_r6 hP hI hS => ?_)
  subst Mw1
  have h_X := mu_k (e := .inl (G.2.1 0, 20, .inl (upd (boS st (ix p0)) p1.toNatClampNeg p2))) (kd_ne h_X h_B rfl) h_X
  have h_TA := mu_k (e := .inl (G.2.1 0, 20, .inl (upd (boS st (ix p0)) p1.toNatClampNeg p2))) (kd_ne h_TA h_B rfl) h_TA
  have h_IA := mu_k (e := .inl (G.2.1 0, 20, .inl (upd (boS st (ix p0)) p1.toNatClampNeg p2))) (kd_ne h_IA h_B rfl) h_IA
  have h_T := mu_k (e := .inl (G.2.1 0, 20, .inl (upd (boS st (ix p0)) p1.toNatClampNeg p2))) (kd_ne h_T h_B rfl) h_T
  have h_B : (mu Mw (ad 4 (ix p0)) (.inl (G.2.1 0, 20, .inl (upd (boS st (ix p0)) p1.toNatClampNeg p2)))) (ad 4 (ix p0)) = some (.inl (G.2.1 0, 20, .inl (upd (boS st (ix p0)) p1.toNatClampNeg p2))) := mu_s
  refine lv_iload hx hb dX4_section_41 (lv_at hl 0 rfl) ?_
  refine W.widen (k := 4) (n := 24) (Nat.le_of_ble_eq_true rfl) (Nat.le_of_ble_eq_true rfl) ?_
  refine vx_ret ?_
  exact W.iret (v := r5) hx hb hr (fun t99 ht99 hW99 => ⟨⟨r5, (mu Mw (ad 4 (ix p0)) (.inl (G.2.1 0, 20, .inl (upd (boS st (ix p0)) p1.toNatClampNeg p2)))), rfl, ⟨setB st (ix p0) p1 p2, ad, by unfold m_section; first | (rw [chk_p ht9, chk_p hp_r2, chk_p hp_r3, chk_p hp_r4, hp_r5]; done) | (rw [chk_p ht9, chk_p hp_r2, chk_p hp_r3, chk_p hp_r4, hp_r5]; rfl), hC.sbo ht9.2 p1 p2, rfl⟩, by rw [ht99]; exact hP, hI⟩, hS.F ht99⟩) hS.2.2 dX4_section_43

set_option maxHeartbeats 4000000 in
set_option maxRecDepth 100000 in
theorem c_X4_boiling (l : Launch) (G : mg) (A : Nat → Prop) (Mw : mw) (hl9 : l.stackTraces = false) (st : St) (ad : adr) (p0 : Int32) (hC : CS G st ad Mw) (hV : Inv st) : vx_Met l yX4_boiling wsX4_boiling ({ frames := 8, cells := 1, slots := 6, locals := 124 }) (va_Pc [.ref (ad 0 0), .int p0] (mB G A Mw)) (va_Qi (fun r Mw1 => ∃ (s1 : St) (ad1 : adr), m_boiling st p0 = (0, r, s1) ∧ CS G s1 ad1 Mw1 ∧ ad1 0 0 = ad 0 0) (mE G A) A) (xX (fun E => exc ["java/lang/IllegalArgumentException"] (m_boiling st p0) E) G A Mw) 1 6 A := by
  refine vx_ofW (cc := cX4_boiling) (maxL := 2) (ret := (some .int)) (by decide) rfl ?_
  intro p e s m args below meth c s₁ B hml hxt hv
  obtain ⟨rfl, hG, hP, hI, hA⟩ := hv
  have hx := B.exec
  have hb := B.bytes
  have hr := B.returns
  have hts := atoms_spec (ws := wsX4_boiling) B.pre
  have hown : s.vm.findClass RX4 = some m.cls := findClass_of_methodNamed B.named
  have hlocks := B.notSynchronized
  have hK := hG.K
  have hS : va_S A s.heap s.heap [] := va_S.rf
  have hl := lv_entry ([.ref (ad 0 0), .int p0]) (n := 2) (Nat.le_of_ble_eq_true rfl)
  rw [lg_entry_eq]
  generalize (lg_sl ([.ref (ad 0 0), .int p0]) ++ List.replicate (2 - (lg_sl ([.ref (ad 0 0), .int p0])).length) Slot.unset).toArray = ls at hl ⊢
  have hl : lv_has ls 2 [(0, .ref (ad 0 0)), (1, .int p0)] := hl
  have hP : mP G.1 Mw s.heap := hP
  have h_X : Mw (ad 0 0) = some (.inr (4, [.ref (ad 1 0), .ref (ad 2 0), .int (nI (nT st)), .int (nI (nN st)), .int (gS st 0), .int (gS st 1), .int (gS st 2), .int (gS st 3), .int (gS st 4)])) := hC.1 0 0 (ok0 st)
  have h_TA : Mw (ad 1 0) = some (.inl (G.2.1 3, 8, .inr (.inr (.inr (.inr (qf (nT st) (ad 3))))))) := hC.1 1 0 (ok1 st)
  have h_IA : Mw (ad 2 0) = some (.inl (G.2.1 4, 6, .inr (.inr (.inr (.inr (qf (nN st) (ad 5))))))) := hC.1 2 0 (ok2 st)
  have hta9 := hC.ne (ok1 st) (ok2 st) (by omega)
  refine lv_iload_n hx hb dX4_boiling_0 rfl (lv_at hl 1 rfl) ?_
  refine mx_callv (vx_runS (As := [.int p0]) (rest := []) ⟨hx, hb, hml, hown, hts⟩ (c_X4_demandPressure l G A Mw hl9  p0) (va_cwS 1 hts gX4_boiling_X4_demandPressure rfl rfl rfl (by decide +kernel) ⟨Nat.le_of_ble_eq_true rfl, Nat.le_of_ble_eq_true rfl⟩) (mPreS hG hS hP hI hA) rfl rfl hl.1 rfl (lv_room (Nat.le_of_ble_eq_true rfl)) dX4_boiling_1 ⟨Nat.le_of_ble_eq_true rfl, Nat.le_of_ble_eq_true rfl⟩) hS (fun E9 ce9 q9 H locs hpx9 hP hI hS hc9 hv9 hcl9 => m_out (px := fun E => exc ["java/lang/IllegalArgumentException"] (m_boiling st p0) E) (fun x hx9 => absurd hx9 (fun q => hxt x q)) hlocks hP hI hS hc9 hv9 hcl9 ((by obtain ⟨hE9, hn9⟩ := hpx9; subst hE9; exact exc_of (by unfold m_boiling; first | (rw [chk_n hn9]; done) | (rw [chk_n hn9]; rfl)) rfl)) (Nat.le_of_ble_eq_true rfl) (Nat.le_of_ble_eq_true rfl)) (fun Mw1 H locs hp_r1 hP hI hS => ?_)
  obtain ⟨hp_r1, hm9⟩ := hp_r1
  subst Mw1
  refine lv_iload_n hx hb dX4_boiling_4 rfl (lv_at hl 1 rfl) ?_
  refine m_calli (va_runS (As := [.int p0]) (rest := []) ⟨hx, hb, hml, hown, hts⟩ (c_X4_steamAt l G A Mw  p0) (va_cwS 1 hts gX4_boiling_X4_steamAt rfl rfl rfl (by decide +kernel) ⟨Nat.le_of_ble_eq_true rfl, Nat.le_of_ble_eq_true rfl⟩) (mPreS hG hS hP hI hA) rfl rfl hl.1 rfl (lv_room (Nat.le_of_ble_eq_true rfl)) dX4_boiling_5 ⟨Nat.le_of_ble_eq_true rfl, Nat.le_of_ble_eq_true rfl⟩) hS (fun r2 Mw1 H locs hp_r2 hP hI hS => ?_)
  obtain ⟨hp_r2, hm9⟩ := hp_r2
  subst Mw1
  refine W.widen (k := 1) (n := 6) (Nat.le_of_ble_eq_true rfl) (Nat.le_of_ble_eq_true rfl) ?_
  refine vx_ret ?_
  exact W.iret (v := r2) hx hb hr (fun t99 ht99 hW99 => ⟨⟨r2, Mw, rfl, ⟨st, ad, by unfold m_boiling; first | (rw [chk_p hp_r1, hp_r2]; done) | (rw [chk_p hp_r1, hp_r2]; rfl), hC, rfl⟩, by rw [ht99]; exact hP, hI⟩, hS.F ht99⟩) hS.2.2 dX4_boiling_8

