set_option maxHeartbeats 4000000 in
set_option maxRecDepth 100000 in
theorem c_X4_barometer (l : Launch) (G : mg) (A : Nat → Prop) (Mw : mw) (hl9 : l.stackTraces = false) (st : St) (ad : adr) (p0 p1 p2 p3 : Int32) (hC : CS G st ad Mw) (hV : Inv st) : vx_Met l yX4_barometer wsX4_barometer ({ frames := 7, cells := 4, slots := 24, locals := 104 }) (va_Pc [.ref (ad 0 0), .int p0, .int p1, .int p2, .int p3] (mB G A Mw)) (va_Qi (fun r Mw1 => ∃ (s1 : St) (ad1 : adr), m_barometer st p0 p1 p2 p3 = (0, r, s1) ∧ CS G s1 ad1 Mw1 ∧ ad1 0 0 = ad 0 0) (mE G A) A) (xX (fun E => exc ["java/lang/IllegalArgumentException"] (m_barometer st p0 p1 p2 p3) E) G A Mw) 4 24 A := by
  refine vx_ofW (cc := cX4_barometer) (maxL := 6) (ret := (some .int)) (by decide) rfl ?_
  intro p e s m args below meth c s₁ B hml hxt hv
  obtain ⟨rfl, hG, hP, hI, hA⟩ := hv
  have hx := B.exec
  have hb := B.bytes
  have hr := B.returns
  have hts := atoms_spec (ws := wsX4_barometer) B.pre
  have hown : s.vm.findClass RX4 = some m.cls := findClass_of_methodNamed B.named
  have hlocks := B.notSynchronized
  have hK := hG.K
  have hS : va_S A s.heap s.heap [] := va_S.rf
  have hl := lv_entry ([.ref (ad 0 0), .int p0, .int p1, .int p2, .int p3]) (n := 6) (Nat.le_of_ble_eq_true rfl)
  rw [lg_entry_eq]
  generalize (lg_sl ([.ref (ad 0 0), .int p0, .int p1, .int p2, .int p3]) ++ List.replicate (6 - (lg_sl ([.ref (ad 0 0), .int p0, .int p1, .int p2, .int p3])).length) Slot.unset).toArray = ls at hl ⊢
  have hl : lv_has ls 6 [(0, .ref (ad 0 0)), (1, .int p0), (2, .int p1), (3, .int p2), (4, .int p3)] := hl
  have hP : mP G.1 Mw s.heap := hP
  have h_X : Mw (ad 0 0) = some (.inr (4, [.ref (ad 1 0), .ref (ad 2 0), .int (nI (nT st)), .int (nI (nN st)), .int (gS st 0), .int (gS st 1), .int (gS st 2), .int (gS st 3), .int (gS st 4)])) := hC.1 0 0 (ok0 st)
  have h_TA : Mw (ad 1 0) = some (.inl (G.2.1 3, 8, .inr (.inr (.inr (.inr (qf (nT st) (ad 3))))))) := hC.1 1 0 (ok1 st)
  have h_IA : Mw (ad 2 0) = some (.inl (G.2.1 4, 6, .inr (.inr (.inr (.inr (qf (nN st) (ad 5))))))) := hC.1 2 0 (ok2 st)
  have hta9 := hC.ne (ok1 st) (ok2 st) (by omega)
  refine lv_iload_n hx hb dX4_barometer_0 rfl (lv_at hl 1 rfl) ?_
  refine lv_sipush (v := (6000)) hx hb dX4_barometer_1 (by decide) ?_
  refine lv_sipush (v := (8000)) hx hb dX4_barometer_4 (by decide) ?_
  refine mx_callv (vx_runS (As := [.int p0, .int 6000, .int 8000]) (rest := []) ⟨hx, hb, hml, hown, hts⟩ (c_X4_demandRange l G A Mw hl9  p0 6000 8000) (va_cwS 3 hts gX4_barometer_X4_demandRange rfl rfl rfl (by decide +kernel) ⟨Nat.le_of_ble_eq_true rfl, Nat.le_of_ble_eq_true rfl⟩) (mPreS hG hS hP hI hA) rfl rfl hl.1 rfl (lv_room (Nat.le_of_ble_eq_true rfl)) dX4_barometer_7 ⟨Nat.le_of_ble_eq_true rfl, Nat.le_of_ble_eq_true rfl⟩) hS (fun E9 ce9 q9 H locs hpx9 hP hI hS hc9 hv9 hcl9 => m_out (px := fun E => exc ["java/lang/IllegalArgumentException"] (m_barometer st p0 p1 p2 p3) E) (fun x hx9 => absurd hx9 (fun q => hxt x q)) hlocks hP hI hS hc9 hv9 hcl9 ((by obtain ⟨hE9, hn9⟩ := hpx9; subst hE9; exact exc_of (by unfold m_barometer; first | (rw [chk_n hn9]; done) | (rw [chk_n hn9]; rfl)) rfl)) (Nat.le_of_ble_eq_true rfl) (Nat.le_of_ble_eq_true rfl)) (fun Mw1 H locs hp_r1 hP hI hS => ?_)
  obtain ⟨hp_r1, hm9⟩ := hp_r1
  subst Mw1
  refine lv_iload_n hx hb dX4_barometer_10 rfl (lv_at hl 2 rfl) ?_
  refine lv_bipush (v := (-20)) hx hb dX4_barometer_11 (by decide) ?_
  refine lv_bipush (v := (40)) hx hb dX4_barometer_13 (by decide) ?_
  refine mx_callv (vx_runS (As := [.int p1, .int ((-20)), .int 40]) (rest := []) ⟨hx, hb, hml, hown, hts⟩ (c_X4_demandRange l G A Mw hl9  p1 (-20) 40) (va_cwS 3 hts gX4_barometer_X4_demandRange rfl rfl rfl (by decide +kernel) ⟨Nat.le_of_ble_eq_true rfl, Nat.le_of_ble_eq_true rfl⟩) (mPreS hG hS hP hI hA) rfl rfl hl.1 rfl (lv_room (Nat.le_of_ble_eq_true rfl)) dX4_barometer_15 ⟨Nat.le_of_ble_eq_true rfl, Nat.le_of_ble_eq_true rfl⟩) hS (fun E9 ce9 q9 H locs hpx9 hP hI hS hc9 hv9 hcl9 => m_out (px := fun E => exc ["java/lang/IllegalArgumentException"] (m_barometer st p0 p1 p2 p3) E) (fun x hx9 => absurd hx9 (fun q => hxt x q)) hlocks hP hI hS hc9 hv9 hcl9 ((by obtain ⟨hE9, hn9⟩ := hpx9; subst hE9; exact exc_of (by unfold m_barometer; first | (rw [chk_p hp_r1, chk_n hn9]; done) | (rw [chk_p hp_r1, chk_n hn9]; rfl)) rfl)) (Nat.le_of_ble_eq_true rfl) (Nat.le_of_ble_eq_true rfl)) (fun Mw1 H locs hp_r2 hP hI hS => ?_)
  obtain ⟨hp_r2, hm9⟩ := hp_r2
  subst Mw1
  refine lv_iload_n hx hb dX4_barometer_18 rfl (lv_at hl 3 rfl) ?_
  refine lv_sipush (v := (9780)) hx hb dX4_barometer_19 (by decide) ?_
  refine lv_sipush (v := (9832)) hx hb dX4_barometer_22 (by decide) ?_
  refine mx_callv (vx_runS (As := [.int p2, .int 9780, .int 9832]) (rest := []) ⟨hx, hb, hml, hown, hts⟩ (c_X4_demandRange l G A Mw hl9  p2 9780 9832) (va_cwS 3 hts gX4_barometer_X4_demandRange rfl rfl rfl (by decide +kernel) ⟨Nat.le_of_ble_eq_true rfl, Nat.le_of_ble_eq_true rfl⟩) (mPreS hG hS hP hI hA) rfl rfl hl.1 rfl (lv_room (Nat.le_of_ble_eq_true rfl)) dX4_barometer_25 ⟨Nat.le_of_ble_eq_true rfl, Nat.le_of_ble_eq_true rfl⟩) hS (fun E9 ce9 q9 H locs hpx9 hP hI hS hc9 hv9 hcl9 => m_out (px := fun E => exc ["java/lang/IllegalArgumentException"] (m_barometer st p0 p1 p2 p3) E) (fun x hx9 => absurd hx9 (fun q => hxt x q)) hlocks hP hI hS hc9 hv9 hcl9 ((by obtain ⟨hE9, hn9⟩ := hpx9; subst hE9; exact exc_of (by unfold m_barometer; first | (rw [chk_p hp_r1, chk_p hp_r2, chk_n hn9]; done) | (rw [chk_p hp_r1, chk_p hp_r2, chk_n hn9]; rfl)) rfl)) (Nat.le_of_ble_eq_true rfl) (Nat.le_of_ble_eq_true rfl)) (fun Mw1 H locs hp_r3 hP hI hS => ?_)
  obtain ⟨hp_r3, hm9⟩ := hp_r3
  subst Mw1
  refine lv_iload hx hb dX4_barometer_28 (lv_at hl 4 rfl) ?_
  refine lv_iconst (v := 1) hx hb dX4_barometer_30 (by decide) ?_
  refine lv_bipush (v := (60)) hx hb dX4_barometer_31 (by decide) ?_
  refine mx_callv (vx_runS (As := [.int p3, .int 1, .int 60]) (rest := []) ⟨hx, hb, hml, hown, hts⟩ (c_X4_demandRange l G A Mw hl9  p3 1 60) (va_cwS 3 hts gX4_barometer_X4_demandRange rfl rfl rfl (by decide +kernel) ⟨Nat.le_of_ble_eq_true rfl, Nat.le_of_ble_eq_true rfl⟩) (mPreS hG hS hP hI hA) rfl rfl hl.1 rfl (lv_room (Nat.le_of_ble_eq_true rfl)) dX4_barometer_33 ⟨Nat.le_of_ble_eq_true rfl, Nat.le_of_ble_eq_true rfl⟩) hS (fun E9 ce9 q9 H locs hpx9 hP hI hS hc9 hv9 hcl9 => m_out (px := fun E => exc ["java/lang/IllegalArgumentException"] (m_barometer st p0 p1 p2 p3) E) (fun x hx9 => absurd hx9 (fun q => hxt x q)) hlocks hP hI hS hc9 hv9 hcl9 ((by obtain ⟨hE9, hn9⟩ := hpx9; subst hE9; exact exc_of (by unfold m_barometer; first | (rw [chk_p hp_r1, chk_p hp_r2, chk_p hp_r3, chk_n hn9]; done) | (rw [chk_p hp_r1, chk_p hp_r2, chk_p hp_r3, chk_n hn9]; rfl)) rfl)) (Nat.le_of_ble_eq_true rfl) (Nat.le_of_ble_eq_true rfl)) (fun Mw1 H locs hp_r4 hP hI hS => ?_)
  obtain ⟨hp_r4, hm9⟩ := hp_r4
  subst Mw1
  refine lv_iload_n hx hb dX4_barometer_36 rfl (lv_at hl 1 rfl) ?_
  refine lv_iload_n hx hb dX4_barometer_37 rfl (lv_at hl 1 rfl) ?_
  refine lv_bipush (v := (18)) hx hb dX4_barometer_38 (by decide) ?_
  refine lv_imul hx hb dX4_barometer_40 ?_
  refine lv_iload_n hx hb dX4_barometer_41 rfl (lv_at hl 2 rfl) ?_
  refine lv_imul hx hb dX4_barometer_42 ?_
  refine lv_ldcw (v := 100000) hx hb hown (hts (.constant RX4 265 (100000)) (by decide +kernel)) dX4_barometer_43 ?_
  refine lv_idiv hx hb dX4_barometer_46 (by decide) ?_
  refine lv_isub hx hb dX4_barometer_47 ?_
  refine lv_istore (lv' := [(5, .int (p0 - (((p0 * 18) * p1) / 100000))), (0, .ref (ad 0 0)), (1, .int p0), (2, .int p1), (3, .int p2), (4, .int p3)]) hx hb dX4_barometer_48 hl (by decide) rfl (fun ls hl => ?_)
  refine lv_iload hx hb dX4_barometer_50 (lv_at hl 0 rfl) ?_
  refine lv_iload_n hx hb dX4_barometer_52 rfl (lv_at hl 4 rfl) ?_
  refine lv_imul hx hb dX4_barometer_53 ?_
  refine lv_sipush (v := (9807)) hx hb dX4_barometer_54 (by decide) ?_
  refine lv_idiv hx hb dX4_barometer_57 (by decide) ?_
  refine lv_bipush (v := (60)) hx hb dX4_barometer_58 (by decide) ?_
  refine lv_iload hx hb dX4_barometer_60 (lv_at hl 5 rfl) ?_
  refine lv_idiv hx hb dX4_barometer_62 (fun q9 => by have h8 := hp_r4.1; rw [q9] at h8; exact h8 (by decide)) ?_
  refine lv_iadd hx hb dX4_barometer_63 ?_
  refine W.widen (k := 4) (n := 24) (Nat.le_of_ble_eq_true rfl) (Nat.le_of_ble_eq_true rfl) ?_
  refine vx_ret ?_
  exact W.iret (v := (((p0 - (((p0 * 18) * p1) / 100000)) * p2) / 9807) + (60 / p3)) hx hb hr (fun t99 ht99 hW99 => ⟨⟨(((p0 - (((p0 * 18) * p1) / 100000)) * p2) / 9807) + (60 / p3), Mw, rfl, ⟨st, ad, by unfold m_barometer; first | (rw [chk_p hp_r1, chk_p hp_r2, chk_p hp_r3, chk_p hp_r4]; done) | (rw [chk_p hp_r1, chk_p hp_r2, chk_p hp_r3, chk_p hp_r4]; rfl), hC, rfl⟩, by rw [ht99]; exact hP, hI⟩, hS.F ht99⟩) hS.2.2 dX4_barometer_64

