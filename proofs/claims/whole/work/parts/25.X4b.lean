set_option maxHeartbeats 4000000 in
set_option maxRecDepth 100000 in
theorem c_X4_buy (l : Launch) (G : mg) (A : Nat → Prop) (Mw : mw) (hl9 : l.stackTraces = false) (st : St) (ad : adr) (p0 : Int32) (hC : CS G st ad Mw) (hV : Inv st) : vx_Met l yX4_buy wsX4_buy ({ frames := 7, cells := 1, slots := 6, locals := 104 }) (va_Pc [.ref (ad 0 0), .int p0] (mB G A Mw)) (va_Qi (fun r Mw1 => ∃ (s1 : St) (ad1 : adr), m_buy st p0 = (0, r, s1) ∧ CS G s1 ad1 Mw1 ∧ ad1 0 0 = ad 0 0) (mE G A) A) (xX (fun E => exc ["java/lang/IllegalArgumentException"] (m_buy st p0) E) G A Mw) 1 6 A := by
  refine vx_ofW (cc := cX4_buy) (maxL := 2) (ret := (some .int)) (by decide) rfl ?_
  intro p e s m args below meth c s₁ B hml hxt hv
  obtain ⟨rfl, hG, hP, hI, hA⟩ := hv
  have hx := B.exec
  have hb := B.bytes
  have hr := B.returns
  have hts := atoms_spec (ws := wsX4_buy) B.pre
  have hown : s.vm.findClass RX4 = some m.cls := findClass_of_methodNamed B.named
  have hlocks := B.notSynchronized
  have hK := hG.K
  have i_X4 : ∀ w ∈ wsX40, w ∈ wsX4_buy := by decide +kernel
  have hS : va_S A s.heap s.heap [] := va_S.rf
  have hl := lv_entry ([.ref (ad 0 0), .int p0]) (n := 2) (Nat.le_of_ble_eq_true rfl)
  rw [lg_entry_eq]
  generalize (lg_sl ([.ref (ad 0 0), .int p0]) ++ List.replicate (2 - (lg_sl ([.ref (ad 0 0), .int p0])).length) Slot.unset).toArray = ls at hl ⊢
  have hl : lv_has ls 2 [(0, .ref (ad 0 0)), (1, .int p0)] := hl
  have hP : mP G.1 Mw s.heap := hP
  have h_X : Mw (ad 0 0) = some (.inr (7, [.ref (ad 1 0), .ref (ad 2 0), .int (nI (nT st)), .int (nI (nN st)), .int (gS st 0), .int (gS st 1), .int (gS st 2), .int (gS st 3), .int (gS st 4)])) := hC.1 0 0 (ok0 st)
  have h_TA : Mw (ad 1 0) = some (.inl (G.2.1 3, 8, .inr (.inr (.inr (.inr (qf (nT st) (ad 3))))))) := hC.1 1 0 (ok1 st)
  have h_IA : Mw (ad 2 0) = some (.inl (G.2.1 4, 6, .inr (.inr (.inr (.inr (qf (nN st) (ad 5))))))) := hC.1 2 0 (ok2 st)
  have hta9 := hC.ne (ok1 st) (ok2 st) (by omega)
  refine lv_iload_n hx hb dX4_buy_0 rfl (lv_at hl 1 rfl) ?_
  refine lv_iconst (v := 1) hx hb dX4_buy_1 (by decide) ?_
  refine lv_ldc (v := 99999) hx hb hown (hts (.constant RX4 64 (99999)) (by decide +kernel)) dX4_buy_2 ?_
  refine mx_callv (vx_runS (As := [.int p0, .int 1, .int 99999]) (rest := []) ⟨hx, hb, hml, hown, hts⟩ (c_X4_demandRange l G A Mw hl9  p0 1 99999) (va_cwS 3 hts gX4_buy_X4_demandRange rfl rfl rfl (by decide +kernel) ⟨Nat.le_of_ble_eq_true rfl, Nat.le_of_ble_eq_true rfl⟩) (mPreS hG hS hP hI hA) rfl rfl hl.1 rfl (lv_room (Nat.le_of_ble_eq_true rfl)) dX4_buy_4 ⟨Nat.le_of_ble_eq_true rfl, Nat.le_of_ble_eq_true rfl⟩) hS (fun E9 ce9 q9 H locs hpx9 hP hI hS hc9 hv9 hcl9 => m_out (px := fun E => exc ["java/lang/IllegalArgumentException"] (m_buy st p0) E) (fun x hx9 => absurd hx9 (fun q => hxt x q)) hlocks hP hI hS hc9 hv9 hcl9 ((by obtain ⟨hE9, hn9⟩ := hpx9; subst hE9; exact exc_of (by unfold m_buy; first | (rw [chk_n hn9]; done) | (rw [chk_n hn9]; rfl)) rfl)) (Nat.le_of_ble_eq_true rfl) (Nat.le_of_ble_eq_true rfl)) (fun Mw1 H locs hp_r1 hP hI hS => ?_)
  obtain ⟨hp_r1, hm9⟩ := hp_r1
  subst Mw1
  refine lv_aload_n hx hb dX4_buy_7 rfl (lv_at hl 0 rfl) ?_
  refine lv_dup hx hb dX4_buy_8 rfl ?_
  refine m_get (ci := 7) (v := .int (gS st 4)) (C := RX4) (T := TX4) (N := 9) hx hb hts i_X4 hown hK (hP _ _ h_X) rfl 8 (by decide) (hts (.fieldLink RX4 106 "Meniscus" "bought" "I") (by decide +kernel)) (fun _ h9 => h9) rfl dX4_buy_9 ?_
  refine lv_iload_n hx hb dX4_buy_12 rfl (lv_at hl 1 rfl) ?_
  refine lv_iadd hx hb dX4_buy_13 ?_
  refine m_put (ci := 7) (v := .int ((gS st 4) + p0)) (ty := .int) (C := RX4) (T := TX4) (N := 9) hx hb hts i_X4 tyX4 tyX4_ok nmX4 hown hK hP hI hS h_X rfl 8 (by decide) (hts (.fieldLink RX4 106 "Meniscus" "bought" "I") (by decide +kernel)) (fun _ h9 => h9) rfl (by decide +kernel) rfl rfl (Nat.le_of_ble_eq_true rfl) dX4_buy_14 (fun H locs hP hI hS => ?_)
  have hP : mP G.1 (mu Mw (ad 0 0) (.inr (7, [.ref (ad 1 0), .ref (ad 2 0), .int (nI (nT st)), .int (nI (nN st)), .int (gS st 0), .int (gS st 1), .int (gS st 2), .int (gS st 3), .int ((gS st 4) + p0)]))) H := hP
  have hI : mI A (mu Mw (ad 0 0) (.inr (7, [.ref (ad 1 0), .ref (ad 2 0), .int (nI (nT st)), .int (nI (nN st)), .int (gS st 0), .int (gS st 1), .int (gS st 2), .int (gS st 3), .int ((gS st 4) + p0)]))) := hI
  have h_TA := mu_k (e := .inr (7, [.ref (ad 1 0), .ref (ad 2 0), .int (nI (nT st)), .int (nI (nN st)), .int (gS st 0), .int (gS st 1), .int (gS st 2), .int (gS st 3), .int ((gS st 4) + p0)])) (kd_ne h_TA h_X rfl) h_TA
  have h_IA := mu_k (e := .inr (7, [.ref (ad 1 0), .ref (ad 2 0), .int (nI (nT st)), .int (nI (nN st)), .int (gS st 0), .int (gS st 1), .int (gS st 2), .int (gS st 3), .int ((gS st 4) + p0)])) (kd_ne h_IA h_X rfl) h_IA
  have h_X : (mu Mw (ad 0 0) (.inr (7, [.ref (ad 1 0), .ref (ad 2 0), .int (nI (nT st)), .int (nI (nN st)), .int (gS st 0), .int (gS st 1), .int (gS st 2), .int (gS st 3), .int ((gS st 4) + p0)]))) (ad 0 0) = some (.inr (7, [.ref (ad 1 0), .ref (ad 2 0), .int (nI (nT st)), .int (nI (nN st)), .int (gS st 0), .int (gS st 1), .int (gS st 2), .int (gS st 3), .int ((gS st 4) + p0)])) := mu_s
  refine lv_aload_n hx hb dX4_buy_17 rfl (lv_at hl 0 rfl) ?_
  refine lv_dup hx hb dX4_buy_18 rfl ?_
  refine m_get (ci := 7) (v := .int (gS st 2)) (C := RX4) (T := TX4) (N := 9) hx hb hts i_X4 hown hK (hP _ _ h_X) rfl 6 (by decide) (hts (.fieldLink RX4 109 "Meniscus" "stock" "I") (by decide +kernel)) (fun _ h9 => h9) rfl dX4_buy_19 ?_
  refine lv_iload_n hx hb dX4_buy_22 rfl (lv_at hl 1 rfl) ?_
  refine lv_iadd hx hb dX4_buy_23 ?_
  refine m_put (ci := 7) (v := .int ((gS st 2) + p0)) (ty := .int) (C := RX4) (T := TX4) (N := 9) hx hb hts i_X4 tyX4 tyX4_ok nmX4 hown hK hP hI hS h_X rfl 6 (by decide) (hts (.fieldLink RX4 109 "Meniscus" "stock" "I") (by decide +kernel)) (fun _ h9 => h9) rfl (by decide +kernel) rfl rfl (Nat.le_of_ble_eq_true rfl) dX4_buy_24 (fun H locs hP hI hS => ?_)
  have hP : mP G.1 (mu (mu Mw (ad 0 0) (.inr (7, [.ref (ad 1 0), .ref (ad 2 0), .int (nI (nT st)), .int (nI (nN st)), .int (gS st 0), .int (gS st 1), .int (gS st 2), .int (gS st 3), .int ((gS st 4) + p0)]))) (ad 0 0) (.inr (7, [.ref (ad 1 0), .ref (ad 2 0), .int (nI (nT st)), .int (nI (nN st)), .int (gS st 0), .int (gS st 1), .int ((gS st 2) + p0), .int (gS st 3), .int ((gS st 4) + p0)]))) H := hP
  have hI : mI A (mu (mu Mw (ad 0 0) (.inr (7, [.ref (ad 1 0), .ref (ad 2 0), .int (nI (nT st)), .int (nI (nN st)), .int (gS st 0), .int (gS st 1), .int (gS st 2), .int (gS st 3), .int ((gS st 4) + p0)]))) (ad 0 0) (.inr (7, [.ref (ad 1 0), .ref (ad 2 0), .int (nI (nT st)), .int (nI (nN st)), .int (gS st 0), .int (gS st 1), .int ((gS st 2) + p0), .int (gS st 3), .int ((gS st 4) + p0)]))) := hI
  have h_TA := mu_k (e := .inr (7, [.ref (ad 1 0), .ref (ad 2 0), .int (nI (nT st)), .int (nI (nN st)), .int (gS st 0), .int (gS st 1), .int ((gS st 2) + p0), .int (gS st 3), .int ((gS st 4) + p0)])) (kd_ne h_TA h_X rfl) h_TA
  have h_IA := mu_k (e := .inr (7, [.ref (ad 1 0), .ref (ad 2 0), .int (nI (nT st)), .int (nI (nN st)), .int (gS st 0), .int (gS st 1), .int ((gS st 2) + p0), .int (gS st 3), .int ((gS st 4) + p0)])) (kd_ne h_IA h_X rfl) h_IA
  rw [mu_uu] at hP hI h_TA h_IA
  have h_X : (mu Mw (ad 0 0) (.inr (7, [.ref (ad 1 0), .ref (ad 2 0), .int (nI (nT st)), .int (nI (nN st)), .int (gS st 0), .int (gS st 1), .int ((gS st 2) + p0), .int (gS st 3), .int ((gS st 4) + p0)]))) (ad 0 0) = some (.inr (7, [.ref (ad 1 0), .ref (ad 2 0), .int (nI (nT st)), .int (nI (nN st)), .int (gS st 0), .int (gS st 1), .int ((gS st 2) + p0), .int (gS st 3), .int ((gS st 4) + p0)])) := mu_s
  refine lv_aload_n hx hb dX4_buy_27 rfl (lv_at hl 0 rfl) ?_
  refine m_get (ci := 7) (v := .int ((gS st 2) + p0)) (C := RX4) (T := TX4) (N := 9) hx hb hts i_X4 hown hK (hP _ _ h_X) rfl 6 (by decide) (hts (.fieldLink RX4 109 "Meniscus" "stock" "I") (by decide +kernel)) (fun _ h9 => h9) rfl dX4_buy_28 ?_
  refine W.widen (k := 1) (n := 6) (Nat.le_of_ble_eq_true rfl) (Nat.le_of_ble_eq_true rfl) ?_
  refine vx_ret ?_
  exact W.iret (v := (gS st 2) + p0) hx hb hr (fun t99 ht99 hW99 => ⟨⟨(gS st 2) + p0, (mu Mw (ad 0 0) (.inr (7, [.ref (ad 1 0), .ref (ad 2 0), .int (nI (nT st)), .int (nI (nN st)), .int (gS st 0), .int (gS st 1), .int ((gS st 2) + p0), .int (gS st 3), .int ((gS st 4) + p0)]))), rfl, ⟨sG (sG st 4 (gS st 4 + p0)) 2 (gS st 2 + p0), ad, by unfold m_buy; first | (rw [chk_p hp_r1]; done) | (rw [chk_p hp_r1]; rfl), hC.sg (fu (fu (gS st) 4 (gS st 4 + p0)) 2 (gS st 2 + p0)), rfl⟩, by rw [ht99]; exact hP, hI⟩, hS.F ht99⟩) hS.2.2 dX4_buy_31

set_option maxHeartbeats 4000000 in
set_option maxRecDepth 100000 in
theorem c_X4_air (l : Launch) (G : mg) (A : Nat → Prop) (Mw : mw) (hl9 : l.stackTraces = false) (st : St) (ad : adr) (p0 : Int32) (hC : CS G st ad Mw) (hV : Inv st) : vx_Met l yX4_air wsX4_air ({ frames := 8, cells := 1, slots := 6, locals := 124 }) (va_Pc [.ref (ad 0 0), .int p0] (mB G A Mw)) (va_Qi (fun r Mw1 => ∃ (s1 : St) (ad1 : adr), m_air st p0 = (0, r, s1) ∧ CS G s1 ad1 Mw1 ∧ ad1 0 0 = ad 0 0) (mE G A) A) (xX (fun E => exc ["java/lang/IllegalArgumentException"] (m_air st p0) E) G A Mw) 1 6 A := by
  refine vx_ofW (cc := cX4_air) (maxL := 3) (ret := (some .int)) (by decide) rfl ?_
  intro p e s m args below meth c s₁ B hml hxt hv
  obtain ⟨rfl, hG, hP, hI, hA⟩ := hv
  have hx := B.exec
  have hb := B.bytes
  have hr := B.returns
  have hts := atoms_spec (ws := wsX4_air) B.pre
  have hown : s.vm.findClass RX4 = some m.cls := findClass_of_methodNamed B.named
  have hlocks := B.notSynchronized
  have hK := hG.K
  have i_X4 : ∀ w ∈ wsX40, w ∈ wsX4_air := by decide +kernel
  have hS : va_S A s.heap s.heap [] := va_S.rf
  have hl := lv_entry ([.ref (ad 0 0), .int p0]) (n := 3) (Nat.le_of_ble_eq_true rfl)
  rw [lg_entry_eq]
  generalize (lg_sl ([.ref (ad 0 0), .int p0]) ++ List.replicate (3 - (lg_sl ([.ref (ad 0 0), .int p0])).length) Slot.unset).toArray = ls at hl ⊢
  have hl : lv_has ls 3 [(0, .ref (ad 0 0)), (1, .int p0)] := hl
  have hP : mP G.1 Mw s.heap := hP
  have h_X : Mw (ad 0 0) = some (.inr (7, [.ref (ad 1 0), .ref (ad 2 0), .int (nI (nT st)), .int (nI (nN st)), .int (gS st 0), .int (gS st 1), .int (gS st 2), .int (gS st 3), .int (gS st 4)])) := hC.1 0 0 (ok0 st)
  have h_TA : Mw (ad 1 0) = some (.inl (G.2.1 3, 8, .inr (.inr (.inr (.inr (qf (nT st) (ad 3))))))) := hC.1 1 0 (ok1 st)
  have h_IA : Mw (ad 2 0) = some (.inl (G.2.1 4, 6, .inr (.inr (.inr (.inr (qf (nN st) (ad 5))))))) := hC.1 2 0 (ok2 st)
  have hta9 := hC.ne (ok1 st) (ok2 st) (by omega)
  refine lv_iload_n hx hb dX4_air_0 rfl (lv_at hl 1 rfl) ?_
  refine mx_callv (vx_runS (As := [.int p0]) (rest := []) ⟨hx, hb, hml, hown, hts⟩ (c_X4_demandTemperature l G A Mw hl9  p0) (va_cwS 1 hts gX4_air_X4_demandTemperature rfl rfl rfl (by decide +kernel) ⟨Nat.le_of_ble_eq_true rfl, Nat.le_of_ble_eq_true rfl⟩) (mPreS hG hS hP hI hA) rfl rfl hl.1 rfl (lv_room (Nat.le_of_ble_eq_true rfl)) dX4_air_1 ⟨Nat.le_of_ble_eq_true rfl, Nat.le_of_ble_eq_true rfl⟩) hS (fun E9 ce9 q9 H locs hpx9 hP hI hS hc9 hv9 hcl9 => m_out (px := fun E => exc ["java/lang/IllegalArgumentException"] (m_air st p0) E) (fun x hx9 => absurd hx9 (fun q => hxt x q)) hlocks hP hI hS hc9 hv9 hcl9 ((by obtain ⟨hE9, hn9⟩ := hpx9; subst hE9; exact exc_of (by unfold m_air; first | (rw [chk_n hn9]; done) | (rw [chk_n hn9]; rfl)) rfl)) (Nat.le_of_ble_eq_true rfl) (Nat.le_of_ble_eq_true rfl)) (fun Mw1 H locs hp_r1 hP hI hS => ?_)
  obtain ⟨hp_r1, hm9⟩ := hp_r1
  subst Mw1
  refine lv_aload_n hx hb dX4_air_4 rfl (lv_at hl 0 rfl) ?_
  refine m_get (ci := 7) (v := .int (gS st 0)) (C := RX4) (T := TX4) (N := 9) hx hb hts i_X4 hown hK (hP _ _ h_X) rfl 4 (by decide) (hts (.fieldLink RX4 21 "Meniscus" "airTemperature" "I") (by decide +kernel)) (fun _ h9 => h9) rfl dX4_air_5 ?_
  refine lv_istore_n (lv' := [(2, .int (gS st 0)), (0, .ref (ad 0 0)), (1, .int p0)]) hx hb dX4_air_8 rfl hl (by decide) rfl (fun ls hl => ?_)
  refine lv_aload_n hx hb dX4_air_9 rfl (lv_at hl 1 rfl) ?_
  refine lv_iload_n hx hb dX4_air_10 rfl (lv_at hl 2 rfl) ?_
  refine m_put (ci := 7) (v := .int p0) (ty := .int) (C := RX4) (T := TX4) (N := 9) hx hb hts i_X4 tyX4 tyX4_ok nmX4 hown hK hP hI hS h_X rfl 4 (by decide) (hts (.fieldLink RX4 21 "Meniscus" "airTemperature" "I") (by decide +kernel)) (fun _ h9 => h9) rfl (by decide +kernel) rfl rfl (Nat.le_of_ble_eq_true rfl) dX4_air_11 (fun H locs hP hI hS => ?_)
  have hP : mP G.1 (mu Mw (ad 0 0) (.inr (7, [.ref (ad 1 0), .ref (ad 2 0), .int (nI (nT st)), .int (nI (nN st)), .int p0, .int (gS st 1), .int (gS st 2), .int (gS st 3), .int (gS st 4)]))) H := hP
  have hI : mI A (mu Mw (ad 0 0) (.inr (7, [.ref (ad 1 0), .ref (ad 2 0), .int (nI (nT st)), .int (nI (nN st)), .int p0, .int (gS st 1), .int (gS st 2), .int (gS st 3), .int (gS st 4)]))) := hI
  have h_TA := mu_k (e := .inr (7, [.ref (ad 1 0), .ref (ad 2 0), .int (nI (nT st)), .int (nI (nN st)), .int p0, .int (gS st 1), .int (gS st 2), .int (gS st 3), .int (gS st 4)])) (kd_ne h_TA h_X rfl) h_TA
  have h_IA := mu_k (e := .inr (7, [.ref (ad 1 0), .ref (ad 2 0), .int (nI (nT st)), .int (nI (nN st)), .int p0, .int (gS st 1), .int (gS st 2), .int (gS st 3), .int (gS st 4)])) (kd_ne h_IA h_X rfl) h_IA
  have h_X : (mu Mw (ad 0 0) (.inr (7, [.ref (ad 1 0), .ref (ad 2 0), .int (nI (nT st)), .int (nI (nN st)), .int p0, .int (gS st 1), .int (gS st 2), .int (gS st 3), .int (gS st 4)]))) (ad 0 0) = some (.inr (7, [.ref (ad 1 0), .ref (ad 2 0), .int (nI (nT st)), .int (nI (nN st)), .int p0, .int (gS st 1), .int (gS st 2), .int (gS st 3), .int (gS st 4)])) := mu_s
  refine lv_iload_n hx hb dX4_air_14 rfl (lv_at hl 0 rfl) ?_
  refine W.widen (k := 1) (n := 6) (Nat.le_of_ble_eq_true rfl) (Nat.le_of_ble_eq_true rfl) ?_
  refine vx_ret ?_
  exact W.iret (v := gS st 0) hx hb hr (fun t99 ht99 hW99 => ⟨⟨gS st 0, (mu Mw (ad 0 0) (.inr (7, [.ref (ad 1 0), .ref (ad 2 0), .int (nI (nT st)), .int (nI (nN st)), .int p0, .int (gS st 1), .int (gS st 2), .int (gS st 3), .int (gS st 4)]))), rfl, ⟨sG st 0 p0, ad, by unfold m_air; first | (rw [chk_p hp_r1]; done) | (rw [chk_p hp_r1]; rfl), hC.sg (fu (gS st) 0 p0), rfl⟩, by rw [ht99]; exact hP, hI⟩, hS.F ht99⟩) hS.2.2 dX4_air_15

set_option maxHeartbeats 4000000 in
set_option maxRecDepth 100000 in
theorem c_X4_fill (l : Launch) (G : mg) (A : Nat → Prop) (Mw : mw) (hl9 : l.stackTraces = false) (st : St) (ad : adr) (p0 p1 p2 : Int32) (hC : CS G st ad Mw) (hV : Inv st) : vx_Met l yX4_fill wsX4_fill ({ frames := 8, cells := 4, slots := 24, locals := 124 }) (va_Pc [.ref (ad 0 0), .int p0, .int p1, .int p2] (mB G A Mw)) (va_Qi (fun r Mw1 => ∃ (s1 : St) (ad1 : adr), m_fill st p0 p1 p2 = (0, r, s1) ∧ CS G s1 ad1 Mw1 ∧ ad1 0 0 = ad 0 0) (mE G A) A) (xX (fun E => exc ["java/lang/IndexOutOfBoundsException", "java/lang/IllegalArgumentException", "java/lang/UnsupportedOperationException"] (m_fill st p0 p1 p2) E) G A Mw) 4 24 A := by
  refine vx_ofW (cc := cX4_fill) (maxL := 6) (ret := (some .int)) (by decide) rfl ?_
  intro p e s m args below meth c s₁ B hml hxt hv
  obtain ⟨rfl, hG, hP, hI, hA⟩ := hv
  have hx := B.exec
  have hb := B.bytes
  have hr := B.returns
  have hts := atoms_spec (ws := wsX4_fill) B.pre
  have hown : s.vm.findClass RX4 = some m.cls := findClass_of_methodNamed B.named
  have hlocks := B.notSynchronized
  have hK := hG.K
  have i_X0 : ∀ w ∈ wsX00, w ∈ wsX4_fill := by decide +kernel
  have hS : va_S A s.heap s.heap [] := va_S.rf
  have hl := lv_entry ([.ref (ad 0 0), .int p0, .int p1, .int p2]) (n := 6) (Nat.le_of_ble_eq_true rfl)
  rw [lg_entry_eq]
  generalize (lg_sl ([.ref (ad 0 0), .int p0, .int p1, .int p2]) ++ List.replicate (6 - (lg_sl ([.ref (ad 0 0), .int p0, .int p1, .int p2])).length) Slot.unset).toArray = ls at hl ⊢
  have hl : lv_has ls 6 [(0, .ref (ad 0 0)), (1, .int p0), (2, .int p1), (3, .int p2)] := hl
  have hP : mP G.1 Mw s.heap := hP
  have h_X : Mw (ad 0 0) = some (.inr (7, [.ref (ad 1 0), .ref (ad 2 0), .int (nI (nT st)), .int (nI (nN st)), .int (gS st 0), .int (gS st 1), .int (gS st 2), .int (gS st 3), .int (gS st 4)])) := hC.1 0 0 (ok0 st)
  have h_TA : Mw (ad 1 0) = some (.inl (G.2.1 3, 8, .inr (.inr (.inr (.inr (qf (nT st) (ad 3))))))) := hC.1 1 0 (ok1 st)
  have h_IA : Mw (ad 2 0) = some (.inl (G.2.1 4, 6, .inr (.inr (.inr (.inr (qf (nN st) (ad 5))))))) := hC.1 2 0 (ok2 st)
  have hta9 := hC.ne (ok1 st) (ok2 st) (by omega)
  refine lv_aload_n hx hb dX4_fill_0 rfl (lv_at hl 0 rfl) ?_
  refine lv_iload_n hx hb dX4_fill_1 rfl (lv_at hl 1 rfl) ?_
  refine mx_callq (vx_runV (As := [.int p0]) (rest := []) ⟨hx, hb, hml, hown, hts⟩ (c_X4_instrumentNumbered l G A Mw hl9  p0 h_X hV.1.2 h_IA) (cwV 1 hts gX4_fill_X4_instrumentNumbered rfl rfl rfl (by decide +kernel) ⟨Nat.le_of_ble_eq_true rfl, Nat.le_of_ble_eq_true rfl⟩) (mPreV hG hS hP hI hA (hP _ _ h_X) (r := (RX4, TX4, 9)) rfl) rfl rfl hl.1 rfl (lv_room (Nat.le_of_ble_eq_true rfl)) dX4_fill_2 ⟨Nat.le_of_ble_eq_true rfl, Nat.le_of_ble_eq_true rfl⟩) hS (fun E9 ce9 q9 H locs hpx9 hP hI hS hc9 hv9 hcl9 => m_out (px := fun E => exc ["java/lang/IndexOutOfBoundsException", "java/lang/IllegalArgumentException", "java/lang/UnsupportedOperationException"] (m_fill st p0 p1 p2) E) (fun x hx9 => absurd hx9 (fun q => hxt x q)) hlocks hP hI hS hc9 hv9 hcl9 ((by obtain ⟨hE9, hn9⟩ := hpx9; subst hE9; exact exc_of (by unfold m_fill; first | (rw [chk_n hn9]; done) | (rw [chk_n hn9]; rfl)) rfl)) (Nat.le_of_ble_eq_true rfl) (Nat.le_of_ble_eq_true rfl)) (fun r1 Mw1 H locs hp_r1 hP hI hS => ?_)
  obtain ⟨⟨hi9, hr9⟩, hm9⟩ := hp_r1
  subst Mw1
  subst hr9
  have hT9 := hV.tb hi9.2
  have hn9 := hV.rn hi9.2
  have hve := hC.ne (ok8 hi9.2) (ok9 hi9.2) (by omega)
  have hvb := hC.ne (ok8 hi9.2) (ok4 hT9) (by omega)
  have heb := hC.ne (ok9 hi9.2) (ok4 hT9) (by omega)
  have h_I : Mw (ad 5 (ix p0)) = some (.inr (3, [.int (itS st (ix p0) 0), .ref (ad 3 (tbN st (ix p0))), .int (itS st (ix p0) 1), .int (itS st (ix p0) 2), .ref (ad 6 (ix p0)), .ref (ad 7 (ix p0)), .int (itS st (ix p0) 3), .int (itS st (ix p0) 4), .int (itS st (ix p0) 5), .int (itS st (ix p0) 6), .int (itS st (ix p0) 7), .int (itS st (ix p0) 8), .int (itS st (ix p0) 9), .int (itS st (ix p0) 10), .int (itS st (ix p0) 11)])) := hC.1 5 _ (ok5 hi9.2)
  have h_S : Mw (ad 6 (ix p0)) = some (.inr (5, [.ref (ad 3 (tbN st (ix p0))), .int (itS st (ix p0) 12), .int (itS st (ix p0) 13), .int (itS st (ix p0) 14), .int (itS st (ix p0) 15)])) := hC.1 6 _ (ok6 hi9.2)
  have h_R : Mw (ad 7 (ix p0)) = some (.inr (4, [.ref (ad 8 (ix p0)), .ref (ad 9 (ix p0)), .int (nI (rnS st (ix p0)))])) := hC.1 7 _ (ok7 hi9.2)
  have h_V : Mw (ad 8 (ix p0)) = some (.inl (G.2.1 0, 8, .inl (rvS st (ix p0)))) := hC.1 8 _ (ok8 hi9.2)
  have h_E : Mw (ad 9 (ix p0)) = some (.inl (G.2.1 0, 8, .inl (reS st (ix p0)))) := hC.1 9 _ (ok9 hi9.2)
  have h_T : Mw (ad 3 (tbN st (ix p0))) = some (.inr (6, [.ref (ad 4 (tbN st (ix p0))), .int (usS st (tbN st (ix p0)))])) := hC.1 3 _ (ok3 hT9)
  have h_B : Mw (ad 4 (tbN st (ix p0))) = some (.inl (G.2.1 0, 20, .inl (boS st (tbN st (ix p0))))) := hC.1 4 _ (ok4 hT9)
  refine lv_astore (lv' := [(4, .ref (ad 5 (ix p0))), (0, .ref (ad 0 0)), (1, .int p0), (2, .int p1), (3, .int p2)]) hx hb dX4_fill_5 hl (by decide) rfl (fun ls hl => ?_)
  refine lv_iload_n hx hb dX4_fill_7 rfl (lv_at hl 3 rfl) ?_
  refine lv_bipush (v := (109)) hx hb dX4_fill_8 (by decide) ?_
  refine lv_bipush (v := (115)) hx hb dX4_fill_10 (by decide) ?_
  refine mx_callv (vx_runS (As := [.int p1, .int 109, .int 115]) (rest := []) ⟨hx, hb, hml, hown, hts⟩ (c_X4_demandEither l G A Mw hl9  p1 109 115) (va_cwS 3 hts gX4_fill_X4_demandEither rfl rfl rfl (by decide +kernel) ⟨Nat.le_of_ble_eq_true rfl, Nat.le_of_ble_eq_true rfl⟩) (mPreS hG hS hP hI hA) rfl rfl hl.1 rfl (lv_room (Nat.le_of_ble_eq_true rfl)) dX4_fill_12 ⟨Nat.le_of_ble_eq_true rfl, Nat.le_of_ble_eq_true rfl⟩) hS (fun E9 ce9 q9 H locs hpx9 hP hI hS hc9 hv9 hcl9 => m_out (px := fun E => exc ["java/lang/IndexOutOfBoundsException", "java/lang/IllegalArgumentException", "java/lang/UnsupportedOperationException"] (m_fill st p0 p1 p2) E) (fun x hx9 => absurd hx9 (fun q => hxt x q)) hlocks hP hI hS hc9 hv9 hcl9 ((by obtain ⟨hE9, hn9⟩ := hpx9; subst hE9; exact exc_of (by unfold m_fill; first | (rw [chk_p hi9, chk_n hn9]; done) | (rw [chk_p hi9, chk_n hn9]; rfl)) rfl)) (Nat.le_of_ble_eq_true rfl) (Nat.le_of_ble_eq_true rfl)) (fun Mw1 H locs hp_r2 hP hI hS => ?_)
  obtain ⟨hp_r2, hm9⟩ := hp_r2
  subst Mw1
  refine lv_iload_n hx hb dX4_fill_15 rfl (lv_at hl 4 rfl) ?_
  refine mx_callv (vx_runS (As := [.int p2]) (rest := []) ⟨hx, hb, hml, hown, hts⟩ (c_X4_demandPlace l G A Mw hl9  p2) (va_cwS 1 hts gX4_fill_X4_demandPlace rfl rfl rfl (by decide +kernel) ⟨Nat.le_of_ble_eq_true rfl, Nat.le_of_ble_eq_true rfl⟩) (mPreS hG hS hP hI hA) rfl rfl hl.1 rfl (lv_room (Nat.le_of_ble_eq_true rfl)) dX4_fill_16 ⟨Nat.le_of_ble_eq_true rfl, Nat.le_of_ble_eq_true rfl⟩) hS (fun E9 ce9 q9 H locs hpx9 hP hI hS hc9 hv9 hcl9 => m_out (px := fun E => exc ["java/lang/IndexOutOfBoundsException", "java/lang/IllegalArgumentException", "java/lang/UnsupportedOperationException"] (m_fill st p0 p1 p2) E) (fun x hx9 => absurd hx9 (fun q => hxt x q)) hlocks hP hI hS hc9 hv9 hcl9 ((by obtain ⟨hE9, hn9⟩ := hpx9; subst hE9; exact exc_of (by unfold m_fill; first | (rw [chk_p hi9, chk_p hp_r2, chk_n hn9]; done) | (rw [chk_p hi9, chk_p hp_r2, chk_n hn9]; rfl)) rfl)) (Nat.le_of_ble_eq_true rfl) (Nat.le_of_ble_eq_true rfl)) (fun Mw1 H locs hp_r3 hP hI hS => ?_)
  obtain ⟨hp_r3, hm9⟩ := hp_r3
  subst Mw1
  refine lv_aload hx hb dX4_fill_19 (lv_at hl 0 rfl) ?_
  refine m_getN (ci := 3) (v := .int (itS st (ix p0) 4)) (C := RX0) (T := TX0) (N := 15) hx hb hts i_X0 hown hK (hP _ _ h_I) rfl 7 (by decide) (va_Nw.use rfl (hG.2.1.2.1 ("Meniscus", 116, "Meniscus$Instrument", "filled", "Z", "Meniscus") (by decide +kernel))) (fun _ h9 => h9) rfl dX4_fill_21 ?_
  refine lv_if_ne (tgt := 35) hx hb dX4_fill_24 (by decide) (fun c4 => ?_) (fun c4 => ?_)
  · skip
    obtain ⟨sa9, hsa9⟩ := hG.2.1.2.2.2.2.2.1 (124, "it was filled or smashed") (by decide +kernel)
    exact vx_throwS (text := "it was filled or smashed") (names := ["java/lang/RuntimeException", "java/lang/Exception"]) hx hb hl9 hown (by decide +kernel) (by decide +kernel) (hts (.classLink RX4 122 "java/lang/UnsupportedOperationException") (by decide +kernel)) (hts (.initialized "java/lang/UnsupportedOperationException") (by decide +kernel)) hsa9 (m_hat hG (fun w h => hts w (List.mem_cons_of_mem _ (List.mem_append_left _ (List.mem_append_left _ (List.mem_append_right _ h))))) (by decide +kernel) (by decide +kernel)) (by decide +kernel) hG.2.2.1 hG.2.2.2.1 hS (hl.1.trans hml.symm) dX4_fill_35 dX4_fill_38 dX4_fill_39 dX4_fill_41 dX4_fill_44 (fun x hx9 => absurd hx9 (fun q => hxt x q)) (Nat.le_of_ble_eq_true rfl) (Nat.le_of_ble_eq_true rfl) (Nat.le_of_ble_eq_true rfl) (Nat.le_of_ble_eq_true rfl) hlocks (fun t9 _ h92 h93 => m_thrown (px := fun E => exc ["java/lang/IndexOutOfBoundsException", "java/lang/IllegalArgumentException", "java/lang/UnsupportedOperationException"] (m_fill st p0 p1 p2) E) (E := "java/lang/UnsupportedOperationException") hP hI hS (exc_of (by unfold m_fill; first | (rw [chk_p hi9, chk_p hp_r2, chk_p hp_r3, chk_n c4]; done) | (rw [chk_p hi9, chk_p hp_r2, chk_p hp_r3, chk_n c4]; rfl)) rfl) t9 h92 h93) hS.2.2 (Nat.le_of_ble_eq_true rfl) (Nat.le_of_ble_eq_true rfl)
  · skip
    have hb_c4 : itS st (ix p0) 4 = 0 := c4
    refine lv_aload hx hb dX4_fill_27 (lv_at hl 0 rfl) ?_
    refine m_getN (ci := 3) (v := .int (itS st (ix p0) 5)) (C := RX0) (T := TX0) (N := 15) hx hb hts i_X0 hown hK (hP _ _ h_I) rfl 8 (by decide) (va_Nw.use rfl (hG.2.1.2.1 ("Meniscus", 119, "Meniscus$Instrument", "smashed", "Z", "Meniscus") (by decide +kernel))) (fun _ h9 => h9) rfl dX4_fill_29 ?_
    refine lv_if_eq (tgt := 45) hx hb dX4_fill_32 (by decide) (fun c5 => ?_) (fun c5 => ?_)
    · skip
      refine lv_aload hx hb dX4_fill_45 (lv_at hl 0 rfl) ?_
      refine lv_iload_n hx hb dX4_fill_47 rfl (lv_at hl 4 rfl) ?_
      refine m_calli (va_runV (As := [.int p2]) (rest := []) ⟨hx, hb, hml, hown, hts⟩ (c_X0_roomUpTo l G A Mw  p2 h_I h_T h_B) (cwV 1 hts gX4_fill_X0_roomUpTo rfl rfl rfl (by decide +kernel) ⟨Nat.le_of_ble_eq_true rfl, Nat.le_of_ble_eq_true rfl⟩) (mPreV hG hS hP hI hA (hP _ _ h_I) (r := (RX0, TX0, 15)) rfl) rfl rfl hl.1 rfl (lv_room (Nat.le_of_ble_eq_true rfl)) dX4_fill_48 ⟨Nat.le_of_ble_eq_true rfl, Nat.le_of_ble_eq_true rfl⟩) hS (fun r6 Mw1 H locs hp_r6 hP hI hS => ?_)
      obtain ⟨hp_r6, hm9⟩ := hp_r6
      subst Mw1
      have hm8 : amt st (ix p0) p2 = r6 := hp_r6.symm
      refine lv_istore (lv' := [(5, .int r6), (4, .ref (ad 5 (ix p0))), (0, .ref (ad 0 0)), (1, .int p0), (2, .int p1), (3, .int p2)]) hx hb dX4_fill_51 hl (by decide) rfl (fun ls hl => ?_)
      refine lv_iload_n hx hb dX4_fill_53 rfl (lv_at hl 4 rfl) ?_
      refine lv_bipush (v := (109)) hx hb dX4_fill_54 (by decide) ?_
      refine lv_icmp_ne (tgt := 65) hx hb dX4_fill_56 (by decide) (fun c7 => ?_) (fun c7 => ?_)
      · skip
        refine lv_aload hx hb dX4_fill_65 (lv_at hl 1 rfl) ?_
        refine lv_iload_n hx hb dX4_fill_67 rfl (lv_at hl 4 rfl) ?_
        refine lv_iload hx hb dX4_fill_68 (lv_at hl 0 rfl) ?_
        refine m_callv (va_runV (As := [.int p1, .int r6]) (rest := []) ⟨hx, hb, hml, hown, hts⟩ (c_X0_fillWith l G A Mw  p1 r6 (nch hp_r2 ⟨rfl, rfl⟩ ⟨rfl, rfl⟩) h_I) (cwV 2 hts gX4_fill_X0_fillWith rfl rfl rfl (by decide +kernel) ⟨Nat.le_of_ble_eq_true rfl, Nat.le_of_ble_eq_true rfl⟩) (mPreV hG hS hP hI hA (hP _ _ h_I) (r := (RX0, TX0, 15)) rfl) rfl rfl hl.1 rfl (lv_room (Nat.le_of_ble_eq_true rfl)) dX4_fill_70 ⟨Nat.le_of_ble_eq_true rfl, Nat.le_of_ble_eq_true rfl⟩) hS (fun Mw1 H locs hp_r8 hP hI hS => ?_)
        subst Mw1
        have h_X := mu_k (e := .inr (3, [.int (itS st (ix p0) 0), .ref (ad 3 (tbN st (ix p0))), .int (itS st (ix p0) 1), .int (itS st (ix p0) 2), .ref (ad 6 (ix p0)), .ref (ad 7 (ix p0)), .int (itS st (ix p0) 3), .int 1, .int (itS st (ix p0) 5), .int p1, .int r6, .int (itS st (ix p0) 8), .int (itS st (ix p0) 9), .int (itS st (ix p0) 10), .int (itS st (ix p0) 11)])) (kd_ne h_X h_I rfl) h_X
        have h_TA := mu_k (e := .inr (3, [.int (itS st (ix p0) 0), .ref (ad 3 (tbN st (ix p0))), .int (itS st (ix p0) 1), .int (itS st (ix p0) 2), .ref (ad 6 (ix p0)), .ref (ad 7 (ix p0)), .int (itS st (ix p0) 3), .int 1, .int (itS st (ix p0) 5), .int p1, .int r6, .int (itS st (ix p0) 8), .int (itS st (ix p0) 9), .int (itS st (ix p0) 10), .int (itS st (ix p0) 11)])) (kd_ne h_TA h_I rfl) h_TA
        have h_IA := mu_k (e := .inr (3, [.int (itS st (ix p0) 0), .ref (ad 3 (tbN st (ix p0))), .int (itS st (ix p0) 1), .int (itS st (ix p0) 2), .ref (ad 6 (ix p0)), .ref (ad 7 (ix p0)), .int (itS st (ix p0) 3), .int 1, .int (itS st (ix p0) 5), .int p1, .int r6, .int (itS st (ix p0) 8), .int (itS st (ix p0) 9), .int (itS st (ix p0) 10), .int (itS st (ix p0) 11)])) (kd_ne h_IA h_I rfl) h_IA
        have h_S := mu_k (e := .inr (3, [.int (itS st (ix p0) 0), .ref (ad 3 (tbN st (ix p0))), .int (itS st (ix p0) 1), .int (itS st (ix p0) 2), .ref (ad 6 (ix p0)), .ref (ad 7 (ix p0)), .int (itS st (ix p0) 3), .int 1, .int (itS st (ix p0) 5), .int p1, .int r6, .int (itS st (ix p0) 8), .int (itS st (ix p0) 9), .int (itS st (ix p0) 10), .int (itS st (ix p0) 11)])) (kd_ne h_S h_I rfl) h_S
        have h_R := mu_k (e := .inr (3, [.int (itS st (ix p0) 0), .ref (ad 3 (tbN st (ix p0))), .int (itS st (ix p0) 1), .int (itS st (ix p0) 2), .ref (ad 6 (ix p0)), .ref (ad 7 (ix p0)), .int (itS st (ix p0) 3), .int 1, .int (itS st (ix p0) 5), .int p1, .int r6, .int (itS st (ix p0) 8), .int (itS st (ix p0) 9), .int (itS st (ix p0) 10), .int (itS st (ix p0) 11)])) (kd_ne h_R h_I rfl) h_R
        have h_V := mu_k (e := .inr (3, [.int (itS st (ix p0) 0), .ref (ad 3 (tbN st (ix p0))), .int (itS st (ix p0) 1), .int (itS st (ix p0) 2), .ref (ad 6 (ix p0)), .ref (ad 7 (ix p0)), .int (itS st (ix p0) 3), .int 1, .int (itS st (ix p0) 5), .int p1, .int r6, .int (itS st (ix p0) 8), .int (itS st (ix p0) 9), .int (itS st (ix p0) 10), .int (itS st (ix p0) 11)])) (kd_ne h_V h_I rfl) h_V
        have h_E := mu_k (e := .inr (3, [.int (itS st (ix p0) 0), .ref (ad 3 (tbN st (ix p0))), .int (itS st (ix p0) 1), .int (itS st (ix p0) 2), .ref (ad 6 (ix p0)), .ref (ad 7 (ix p0)), .int (itS st (ix p0) 3), .int 1, .int (itS st (ix p0) 5), .int p1, .int r6, .int (itS st (ix p0) 8), .int (itS st (ix p0) 9), .int (itS st (ix p0) 10), .int (itS st (ix p0) 11)])) (kd_ne h_E h_I rfl) h_E
        have h_T := mu_k (e := .inr (3, [.int (itS st (ix p0) 0), .ref (ad 3 (tbN st (ix p0))), .int (itS st (ix p0) 1), .int (itS st (ix p0) 2), .ref (ad 6 (ix p0)), .ref (ad 7 (ix p0)), .int (itS st (ix p0) 3), .int 1, .int (itS st (ix p0) 5), .int p1, .int r6, .int (itS st (ix p0) 8), .int (itS st (ix p0) 9), .int (itS st (ix p0) 10), .int (itS st (ix p0) 11)])) (kd_ne h_T h_I rfl) h_T
        have h_B := mu_k (e := .inr (3, [.int (itS st (ix p0) 0), .ref (ad 3 (tbN st (ix p0))), .int (itS st (ix p0) 1), .int (itS st (ix p0) 2), .ref (ad 6 (ix p0)), .ref (ad 7 (ix p0)), .int (itS st (ix p0) 3), .int 1, .int (itS st (ix p0) 5), .int p1, .int r6, .int (itS st (ix p0) 8), .int (itS st (ix p0) 9), .int (itS st (ix p0) 10), .int (itS st (ix p0) 11)])) (kd_ne h_B h_I rfl) h_B
        have h_I : (mu Mw (ad 5 (ix p0)) (.inr (3, [.int (itS st (ix p0) 0), .ref (ad 3 (tbN st (ix p0))), .int (itS st (ix p0) 1), .int (itS st (ix p0) 2), .ref (ad 6 (ix p0)), .ref (ad 7 (ix p0)), .int (itS st (ix p0) 3), .int 1, .int (itS st (ix p0) 5), .int p1, .int r6, .int (itS st (ix p0) 8), .int (itS st (ix p0) 9), .int (itS st (ix p0) 10), .int (itS st (ix p0) 11)]))) (ad 5 (ix p0)) = some (.inr (3, [.int (itS st (ix p0) 0), .ref (ad 3 (tbN st (ix p0))), .int (itS st (ix p0) 1), .int (itS st (ix p0) 2), .ref (ad 6 (ix p0)), .ref (ad 7 (ix p0)), .int (itS st (ix p0) 3), .int 1, .int (itS st (ix p0) 5), .int p1, .int r6, .int (itS st (ix p0) 8), .int (itS st (ix p0) 9), .int (itS st (ix p0) 10), .int (itS st (ix p0) 11)])) := mu_s
        refine lv_iload hx hb dX4_fill_73 (lv_at hl 0 rfl) ?_
        refine W.widen (k := 4) (n := 24) (Nat.le_of_ble_eq_true rfl) (Nat.le_of_ble_eq_true rfl) ?_
        refine vx_ret ?_
        exact W.iret (v := r6) hx hb hr (fun t99 ht99 hW99 => ⟨⟨r6, (mu Mw (ad 5 (ix p0)) (.inr (3, [.int (itS st (ix p0) 0), .ref (ad 3 (tbN st (ix p0))), .int (itS st (ix p0) 1), .int (itS st (ix p0) 2), .ref (ad 6 (ix p0)), .ref (ad 7 (ix p0)), .int (itS st (ix p0) 3), .int 1, .int (itS st (ix p0) 5), .int p1, .int r6, .int (itS st (ix p0) 8), .int (itS st (ix p0) 9), .int (itS st (ix p0) 10), .int (itS st (ix p0) 11)]))), rfl, ⟨sIt st (ix p0) (filG st (ix p0) p1 r6), ad, by unfold m_fill; first | (rw [chk_p hi9, chk_p hp_r2, chk_p hp_r3, chk_p hb_c4, chk_p c5, chk_p (fun q9 => absurd q9 c7), hm8, filS_n c7]; done) | (rw [chk_p hi9, chk_p hp_r2, chk_p hp_r3, chk_p hb_c4, chk_p c5, chk_p (fun q9 => absurd q9 c7), hm8, filS_n c7]; rfl), hC.sit5 hi9.2 (filG st (ix p0) p1 r6) rfl ⟨rfl, rfl, rfl, rfl⟩, rfl⟩, by rw [ht99]; exact hP, hI⟩, hS.F ht99⟩) hS.2.2 dX4_fill_75
      · skip
        refine lv_aload_n hx hb dX4_fill_59 rfl (lv_at hl 2 rfl) ?_
        refine lv_iload hx hb dX4_fill_60 (lv_at hl 0 rfl) ?_
        refine mx_callv (vx_runV (As := [.int r6]) (rest := []) ⟨hx, hb, hml, hown, hts⟩ (c_X4_takeFromStock l G A Mw hl9  r6 h_X) (cwV 1 hts gX4_fill_X4_takeFromStock rfl rfl rfl (by decide +kernel) ⟨Nat.le_of_ble_eq_true rfl, Nat.le_of_ble_eq_true rfl⟩) (mPreV hG hS hP hI hA (hP _ _ h_X) (r := (RX4, TX4, 9)) rfl) rfl rfl hl.1 rfl (lv_room (Nat.le_of_ble_eq_true rfl)) dX4_fill_62 ⟨Nat.le_of_ble_eq_true rfl, Nat.le_of_ble_eq_true rfl⟩) hS (fun E9 ce9 q9 H locs hpx9 hP hI hS hc9 hv9 hcl9 => m_out (px := fun E => exc ["java/lang/IndexOutOfBoundsException", "java/lang/IllegalArgumentException", "java/lang/UnsupportedOperationException"] (m_fill st p0 p1 p2) E) (fun x hx9 => absurd hx9 (fun q => hxt x q)) hlocks hP hI hS hc9 hv9 hcl9 ((by obtain ⟨hE9, hn9⟩ := hpx9; subst hE9; exact exc_of (by unfold m_fill; first | (rw [chk_p hi9, chk_p hp_r2, chk_p hp_r3, chk_p hb_c4, chk_p c5, chk_n (fun q9 => hn9 (by have h8 := q9 c7; rw [hm8] at h8; exact h8))]; done) | (rw [chk_p hi9, chk_p hp_r2, chk_p hp_r3, chk_p hb_c4, chk_p c5, chk_n (fun q9 => hn9 (by have h8 := q9 c7; rw [hm8] at h8; exact h8))]; rfl)) rfl)) (Nat.le_of_ble_eq_true rfl) (Nat.le_of_ble_eq_true rfl)) (fun Mw1 H locs hp_r9 hP hI hS => ?_)
        obtain ⟨hp_r9, hm9⟩ := hp_r9
        subst Mw1
        have h_TA := mu_k (e := .inr (7, [.ref (ad 1 0), .ref (ad 2 0), .int (nI (nT st)), .int (nI (nN st)), .int (gS st 0), .int (gS st 1), .int (gS st 2 - r6), .int (gS st 3), .int (gS st 4)])) (kd_ne h_TA h_X rfl) h_TA
        have h_IA := mu_k (e := .inr (7, [.ref (ad 1 0), .ref (ad 2 0), .int (nI (nT st)), .int (nI (nN st)), .int (gS st 0), .int (gS st 1), .int (gS st 2 - r6), .int (gS st 3), .int (gS st 4)])) (kd_ne h_IA h_X rfl) h_IA
        have h_I := mu_k (e := .inr (7, [.ref (ad 1 0), .ref (ad 2 0), .int (nI (nT st)), .int (nI (nN st)), .int (gS st 0), .int (gS st 1), .int (gS st 2 - r6), .int (gS st 3), .int (gS st 4)])) (kd_ne h_I h_X rfl) h_I
        have h_S := mu_k (e := .inr (7, [.ref (ad 1 0), .ref (ad 2 0), .int (nI (nT st)), .int (nI (nN st)), .int (gS st 0), .int (gS st 1), .int (gS st 2 - r6), .int (gS st 3), .int (gS st 4)])) (kd_ne h_S h_X rfl) h_S
        have h_R := mu_k (e := .inr (7, [.ref (ad 1 0), .ref (ad 2 0), .int (nI (nT st)), .int (nI (nN st)), .int (gS st 0), .int (gS st 1), .int (gS st 2 - r6), .int (gS st 3), .int (gS st 4)])) (kd_ne h_R h_X rfl) h_R
        have h_V := mu_k (e := .inr (7, [.ref (ad 1 0), .ref (ad 2 0), .int (nI (nT st)), .int (nI (nN st)), .int (gS st 0), .int (gS st 1), .int (gS st 2 - r6), .int (gS st 3), .int (gS st 4)])) (kd_ne h_V h_X rfl) h_V
        have h_E := mu_k (e := .inr (7, [.ref (ad 1 0), .ref (ad 2 0), .int (nI (nT st)), .int (nI (nN st)), .int (gS st 0), .int (gS st 1), .int (gS st 2 - r6), .int (gS st 3), .int (gS st 4)])) (kd_ne h_E h_X rfl) h_E
        have h_T := mu_k (e := .inr (7, [.ref (ad 1 0), .ref (ad 2 0), .int (nI (nT st)), .int (nI (nN st)), .int (gS st 0), .int (gS st 1), .int (gS st 2 - r6), .int (gS st 3), .int (gS st 4)])) (kd_ne h_T h_X rfl) h_T
        have h_B := mu_k (e := .inr (7, [.ref (ad 1 0), .ref (ad 2 0), .int (nI (nT st)), .int (nI (nN st)), .int (gS st 0), .int (gS st 1), .int (gS st 2 - r6), .int (gS st 3), .int (gS st 4)])) (kd_ne h_B h_X rfl) h_B
        have h_X : (mu Mw (ad 0 0) (.inr (7, [.ref (ad 1 0), .ref (ad 2 0), .int (nI (nT st)), .int (nI (nN st)), .int (gS st 0), .int (gS st 1), .int (gS st 2 - r6), .int (gS st 3), .int (gS st 4)]))) (ad 0 0) = some (.inr (7, [.ref (ad 1 0), .ref (ad 2 0), .int (nI (nT st)), .int (nI (nN st)), .int (gS st 0), .int (gS st 1), .int (gS st 2 - r6), .int (gS st 3), .int (gS st 4)])) := mu_s
        refine lv_aload hx hb dX4_fill_65 (lv_at hl 1 rfl) ?_
        refine lv_iload_n hx hb dX4_fill_67 rfl (lv_at hl 4 rfl) ?_
        refine lv_iload hx hb dX4_fill_68 (lv_at hl 0 rfl) ?_
        refine m_callv (va_runV (As := [.int p1, .int r6]) (rest := []) ⟨hx, hb, hml, hown, hts⟩ (c_X0_fillWith l G A (mu Mw (ad 0 0) (.inr (7, [.ref (ad 1 0), .ref (ad 2 0), .int (nI (nT st)), .int (nI (nN st)), .int (gS st 0), .int (gS st 1), .int (gS st 2 - r6), .int (gS st 3), .int (gS st 4)])))  p1 r6 (nch hp_r2 ⟨rfl, rfl⟩ ⟨rfl, rfl⟩) h_I) (cwV 2 hts gX4_fill_X0_fillWith rfl rfl rfl (by decide +kernel) ⟨Nat.le_of_ble_eq_true rfl, Nat.le_of_ble_eq_true rfl⟩) (mPreV hG hS hP hI hA (hP _ _ h_I) (r := (RX0, TX0, 15)) rfl) rfl rfl hl.1 rfl (lv_room (Nat.le_of_ble_eq_true rfl)) dX4_fill_70 ⟨Nat.le_of_ble_eq_true rfl, Nat.le_of_ble_eq_true rfl⟩) hS (fun Mw1 H locs hp_r10 hP hI hS => ?_)
        subst Mw1
        have h_X := mu_k (e := .inr (3, [.int (itS st (ix p0) 0), .ref (ad 3 (tbN st (ix p0))), .int (itS st (ix p0) 1), .int (itS st (ix p0) 2), .ref (ad 6 (ix p0)), .ref (ad 7 (ix p0)), .int (itS st (ix p0) 3), .int 1, .int (itS st (ix p0) 5), .int p1, .int r6, .int (itS st (ix p0) 8), .int (itS st (ix p0) 9), .int (itS st (ix p0) 10), .int (itS st (ix p0) 11)])) (kd_ne h_X h_I rfl) h_X
        have h_TA := mu_k (e := .inr (3, [.int (itS st (ix p0) 0), .ref (ad 3 (tbN st (ix p0))), .int (itS st (ix p0) 1), .int (itS st (ix p0) 2), .ref (ad 6 (ix p0)), .ref (ad 7 (ix p0)), .int (itS st (ix p0) 3), .int 1, .int (itS st (ix p0) 5), .int p1, .int r6, .int (itS st (ix p0) 8), .int (itS st (ix p0) 9), .int (itS st (ix p0) 10), .int (itS st (ix p0) 11)])) (kd_ne h_TA h_I rfl) h_TA
        have h_IA := mu_k (e := .inr (3, [.int (itS st (ix p0) 0), .ref (ad 3 (tbN st (ix p0))), .int (itS st (ix p0) 1), .int (itS st (ix p0) 2), .ref (ad 6 (ix p0)), .ref (ad 7 (ix p0)), .int (itS st (ix p0) 3), .int 1, .int (itS st (ix p0) 5), .int p1, .int r6, .int (itS st (ix p0) 8), .int (itS st (ix p0) 9), .int (itS st (ix p0) 10), .int (itS st (ix p0) 11)])) (kd_ne h_IA h_I rfl) h_IA
        have h_S := mu_k (e := .inr (3, [.int (itS st (ix p0) 0), .ref (ad 3 (tbN st (ix p0))), .int (itS st (ix p0) 1), .int (itS st (ix p0) 2), .ref (ad 6 (ix p0)), .ref (ad 7 (ix p0)), .int (itS st (ix p0) 3), .int 1, .int (itS st (ix p0) 5), .int p1, .int r6, .int (itS st (ix p0) 8), .int (itS st (ix p0) 9), .int (itS st (ix p0) 10), .int (itS st (ix p0) 11)])) (kd_ne h_S h_I rfl) h_S
        have h_R := mu_k (e := .inr (3, [.int (itS st (ix p0) 0), .ref (ad 3 (tbN st (ix p0))), .int (itS st (ix p0) 1), .int (itS st (ix p0) 2), .ref (ad 6 (ix p0)), .ref (ad 7 (ix p0)), .int (itS st (ix p0) 3), .int 1, .int (itS st (ix p0) 5), .int p1, .int r6, .int (itS st (ix p0) 8), .int (itS st (ix p0) 9), .int (itS st (ix p0) 10), .int (itS st (ix p0) 11)])) (kd_ne h_R h_I rfl) h_R
        have h_V := mu_k (e := .inr (3, [.int (itS st (ix p0) 0), .ref (ad 3 (tbN st (ix p0))), .int (itS st (ix p0) 1), .int (itS st (ix p0) 2), .ref (ad 6 (ix p0)), .ref (ad 7 (ix p0)), .int (itS st (ix p0) 3), .int 1, .int (itS st (ix p0) 5), .int p1, .int r6, .int (itS st (ix p0) 8), .int (itS st (ix p0) 9), .int (itS st (ix p0) 10), .int (itS st (ix p0) 11)])) (kd_ne h_V h_I rfl) h_V
        have h_E := mu_k (e := .inr (3, [.int (itS st (ix p0) 0), .ref (ad 3 (tbN st (ix p0))), .int (itS st (ix p0) 1), .int (itS st (ix p0) 2), .ref (ad 6 (ix p0)), .ref (ad 7 (ix p0)), .int (itS st (ix p0) 3), .int 1, .int (itS st (ix p0) 5), .int p1, .int r6, .int (itS st (ix p0) 8), .int (itS st (ix p0) 9), .int (itS st (ix p0) 10), .int (itS st (ix p0) 11)])) (kd_ne h_E h_I rfl) h_E
        have h_T := mu_k (e := .inr (3, [.int (itS st (ix p0) 0), .ref (ad 3 (tbN st (ix p0))), .int (itS st (ix p0) 1), .int (itS st (ix p0) 2), .ref (ad 6 (ix p0)), .ref (ad 7 (ix p0)), .int (itS st (ix p0) 3), .int 1, .int (itS st (ix p0) 5), .int p1, .int r6, .int (itS st (ix p0) 8), .int (itS st (ix p0) 9), .int (itS st (ix p0) 10), .int (itS st (ix p0) 11)])) (kd_ne h_T h_I rfl) h_T
        have h_B := mu_k (e := .inr (3, [.int (itS st (ix p0) 0), .ref (ad 3 (tbN st (ix p0))), .int (itS st (ix p0) 1), .int (itS st (ix p0) 2), .ref (ad 6 (ix p0)), .ref (ad 7 (ix p0)), .int (itS st (ix p0) 3), .int 1, .int (itS st (ix p0) 5), .int p1, .int r6, .int (itS st (ix p0) 8), .int (itS st (ix p0) 9), .int (itS st (ix p0) 10), .int (itS st (ix p0) 11)])) (kd_ne h_B h_I rfl) h_B
        have h_I : (mu (mu Mw (ad 0 0) (.inr (7, [.ref (ad 1 0), .ref (ad 2 0), .int (nI (nT st)), .int (nI (nN st)), .int (gS st 0), .int (gS st 1), .int (gS st 2 - r6), .int (gS st 3), .int (gS st 4)]))) (ad 5 (ix p0)) (.inr (3, [.int (itS st (ix p0) 0), .ref (ad 3 (tbN st (ix p0))), .int (itS st (ix p0) 1), .int (itS st (ix p0) 2), .ref (ad 6 (ix p0)), .ref (ad 7 (ix p0)), .int (itS st (ix p0) 3), .int 1, .int (itS st (ix p0) 5), .int p1, .int r6, .int (itS st (ix p0) 8), .int (itS st (ix p0) 9), .int (itS st (ix p0) 10), .int (itS st (ix p0) 11)]))) (ad 5 (ix p0)) = some (.inr (3, [.int (itS st (ix p0) 0), .ref (ad 3 (tbN st (ix p0))), .int (itS st (ix p0) 1), .int (itS st (ix p0) 2), .ref (ad 6 (ix p0)), .ref (ad 7 (ix p0)), .int (itS st (ix p0) 3), .int 1, .int (itS st (ix p0) 5), .int p1, .int r6, .int (itS st (ix p0) 8), .int (itS st (ix p0) 9), .int (itS st (ix p0) 10), .int (itS st (ix p0) 11)])) := mu_s
        refine lv_iload hx hb dX4_fill_73 (lv_at hl 0 rfl) ?_
        refine W.widen (k := 4) (n := 24) (Nat.le_of_ble_eq_true rfl) (Nat.le_of_ble_eq_true rfl) ?_
        refine vx_ret ?_
        exact W.iret (v := r6) hx hb hr (fun t99 ht99 hW99 => ⟨⟨r6, (mu (mu Mw (ad 0 0) (.inr (7, [.ref (ad 1 0), .ref (ad 2 0), .int (nI (nT st)), .int (nI (nN st)), .int (gS st 0), .int (gS st 1), .int (gS st 2 - r6), .int (gS st 3), .int (gS st 4)]))) (ad 5 (ix p0)) (.inr (3, [.int (itS st (ix p0) 0), .ref (ad 3 (tbN st (ix p0))), .int (itS st (ix p0) 1), .int (itS st (ix p0) 2), .ref (ad 6 (ix p0)), .ref (ad 7 (ix p0)), .int (itS st (ix p0) 3), .int 1, .int (itS st (ix p0) 5), .int p1, .int r6, .int (itS st (ix p0) 8), .int (itS st (ix p0) 9), .int (itS st (ix p0) 10), .int (itS st (ix p0) 11)]))), rfl, ⟨sIt (sG st 2 (gS st 2 - r6)) (ix p0) (filG st (ix p0) p1 r6), ad, by unfold m_fill; first | (rw [chk_p hi9, chk_p hp_r2, chk_p hp_r3, chk_p hb_c4, chk_p c5, chk_p (fun _ => by rw [hm8]; exact hp_r9), hm8, filS_p c7]; done) | (rw [chk_p hi9, chk_p hp_r2, chk_p hp_r3, chk_p hb_c4, chk_p c5, chk_p (fun _ => by rw [hm8]; exact hp_r9), hm8, filS_p c7]; rfl), (hC.sg (fu (gS st) 2 (gS st 2 - r6))).sit5 hi9.2 (filG st (ix p0) p1 r6) rfl ⟨rfl, rfl, rfl, rfl⟩, rfl⟩, by rw [ht99]; exact hP, hI⟩, hS.F ht99⟩) hS.2.2 dX4_fill_75
    · skip
      obtain ⟨sa9, hsa9⟩ := hG.2.1.2.2.2.2.2.1 (124, "it was filled or smashed") (by decide +kernel)
      exact vx_throwS (text := "it was filled or smashed") (names := ["java/lang/RuntimeException", "java/lang/Exception"]) hx hb hl9 hown (by decide +kernel) (by decide +kernel) (hts (.classLink RX4 122 "java/lang/UnsupportedOperationException") (by decide +kernel)) (hts (.initialized "java/lang/UnsupportedOperationException") (by decide +kernel)) hsa9 (m_hat hG (fun w h => hts w (List.mem_cons_of_mem _ (List.mem_append_left _ (List.mem_append_left _ (List.mem_append_right _ h))))) (by decide +kernel) (by decide +kernel)) (by decide +kernel) hG.2.2.1 hG.2.2.2.1 hS (hl.1.trans hml.symm) dX4_fill_35 dX4_fill_38 dX4_fill_39 dX4_fill_41 dX4_fill_44 (fun x hx9 => absurd hx9 (fun q => hxt x q)) (Nat.le_of_ble_eq_true rfl) (Nat.le_of_ble_eq_true rfl) (Nat.le_of_ble_eq_true rfl) (Nat.le_of_ble_eq_true rfl) hlocks (fun t9 _ h92 h93 => m_thrown (px := fun E => exc ["java/lang/IndexOutOfBoundsException", "java/lang/IllegalArgumentException", "java/lang/UnsupportedOperationException"] (m_fill st p0 p1 p2) E) (E := "java/lang/UnsupportedOperationException") hP hI hS (exc_of (by unfold m_fill; first | (rw [chk_p hi9, chk_p hp_r2, chk_p hp_r3, chk_p hb_c4, chk_n c5]; done) | (rw [chk_p hi9, chk_p hp_r2, chk_p hp_r3, chk_p hb_c4, chk_n c5]; rfl)) rfl) t9 h92 h93) hS.2.2 (Nat.le_of_ble_eq_true rfl) (Nat.le_of_ble_eq_true rfl)

set_option maxHeartbeats 4000000 in
set_option maxRecDepth 100000 in
theorem c_X4_smash (l : Launch) (G : mg) (A : Nat → Prop) (Mw : mw) (hl9 : l.stackTraces = false) (st : St) (ad : adr) (p0 : Int32) (hC : CS G st ad Mw) (hV : Inv st) : vx_Met l yX4_smash wsX4_smash ({ frames := 7, cells := 2, slots := 12, locals := 103 }) (va_Pc [.ref (ad 0 0), .int p0] (mB G A Mw)) (va_Qi (fun r Mw1 => ∃ (s1 : St) (ad1 : adr), m_smash st p0 = (0, r, s1) ∧ CS G s1 ad1 Mw1 ∧ ad1 0 0 = ad 0 0) (mE G A) A) (xX (fun E => exc ["java/lang/IndexOutOfBoundsException", "java/lang/UnsupportedOperationException"] (m_smash st p0) E) G A Mw) 2 12 A := by
  refine vx_ofW (cc := cX4_smash) (maxL := 4) (ret := (some .int)) (by decide) rfl ?_
  intro p e s m args below meth c s₁ B hml hxt hv
  obtain ⟨rfl, hG, hP, hI, hA⟩ := hv
  have hx := B.exec
  have hb := B.bytes
  have hr := B.returns
  have hts := atoms_spec (ws := wsX4_smash) B.pre
  have hown : s.vm.findClass RX4 = some m.cls := findClass_of_methodNamed B.named
  have hlocks := B.notSynchronized
  have hK := hG.K
  have i_X0 : ∀ w ∈ wsX00, w ∈ wsX4_smash := by decide +kernel
  have i_X4 : ∀ w ∈ wsX40, w ∈ wsX4_smash := by decide +kernel
  have hS : va_S A s.heap s.heap [] := va_S.rf
  have hl := lv_entry ([.ref (ad 0 0), .int p0]) (n := 4) (Nat.le_of_ble_eq_true rfl)
  rw [lg_entry_eq]
  generalize (lg_sl ([.ref (ad 0 0), .int p0]) ++ List.replicate (4 - (lg_sl ([.ref (ad 0 0), .int p0])).length) Slot.unset).toArray = ls at hl ⊢
  have hl : lv_has ls 4 [(0, .ref (ad 0 0)), (1, .int p0)] := hl
  have hP : mP G.1 Mw s.heap := hP
  have h_X : Mw (ad 0 0) = some (.inr (7, [.ref (ad 1 0), .ref (ad 2 0), .int (nI (nT st)), .int (nI (nN st)), .int (gS st 0), .int (gS st 1), .int (gS st 2), .int (gS st 3), .int (gS st 4)])) := hC.1 0 0 (ok0 st)
  have h_TA : Mw (ad 1 0) = some (.inl (G.2.1 3, 8, .inr (.inr (.inr (.inr (qf (nT st) (ad 3))))))) := hC.1 1 0 (ok1 st)
  have h_IA : Mw (ad 2 0) = some (.inl (G.2.1 4, 6, .inr (.inr (.inr (.inr (qf (nN st) (ad 5))))))) := hC.1 2 0 (ok2 st)
  have hta9 := hC.ne (ok1 st) (ok2 st) (by omega)
  refine lv_aload_n hx hb dX4_smash_0 rfl (lv_at hl 0 rfl) ?_
  refine lv_iload_n hx hb dX4_smash_1 rfl (lv_at hl 1 rfl) ?_
  refine mx_callq (vx_runV (As := [.int p0]) (rest := []) ⟨hx, hb, hml, hown, hts⟩ (c_X4_instrumentNumbered l G A Mw hl9  p0 h_X hV.1.2 h_IA) (cwV 1 hts gX4_smash_X4_instrumentNumbered rfl rfl rfl (by decide +kernel) ⟨Nat.le_of_ble_eq_true rfl, Nat.le_of_ble_eq_true rfl⟩) (mPreV hG hS hP hI hA (hP _ _ h_X) (r := (RX4, TX4, 9)) rfl) rfl rfl hl.1 rfl (lv_room (Nat.le_of_ble_eq_true rfl)) dX4_smash_2 ⟨Nat.le_of_ble_eq_true rfl, Nat.le_of_ble_eq_true rfl⟩) hS (fun E9 ce9 q9 H locs hpx9 hP hI hS hc9 hv9 hcl9 => m_out (px := fun E => exc ["java/lang/IndexOutOfBoundsException", "java/lang/UnsupportedOperationException"] (m_smash st p0) E) (fun x hx9 => absurd hx9 (fun q => hxt x q)) hlocks hP hI hS hc9 hv9 hcl9 ((by obtain ⟨hE9, hn9⟩ := hpx9; subst hE9; exact exc_of (by unfold m_smash; first | (rw [chk_n hn9]; done) | (rw [chk_n hn9]; rfl)) rfl)) (Nat.le_of_ble_eq_true rfl) (Nat.le_of_ble_eq_true rfl)) (fun r1 Mw1 H locs hp_r1 hP hI hS => ?_)
  obtain ⟨⟨hi9, hr9⟩, hm9⟩ := hp_r1
  subst Mw1
  subst hr9
  have hT9 := hV.tb hi9.2
  have hn9 := hV.rn hi9.2
  have hve := hC.ne (ok8 hi9.2) (ok9 hi9.2) (by omega)
  have hvb := hC.ne (ok8 hi9.2) (ok4 hT9) (by omega)
  have heb := hC.ne (ok9 hi9.2) (ok4 hT9) (by omega)
  have h_I : Mw (ad 5 (ix p0)) = some (.inr (3, [.int (itS st (ix p0) 0), .ref (ad 3 (tbN st (ix p0))), .int (itS st (ix p0) 1), .int (itS st (ix p0) 2), .ref (ad 6 (ix p0)), .ref (ad 7 (ix p0)), .int (itS st (ix p0) 3), .int (itS st (ix p0) 4), .int (itS st (ix p0) 5), .int (itS st (ix p0) 6), .int (itS st (ix p0) 7), .int (itS st (ix p0) 8), .int (itS st (ix p0) 9), .int (itS st (ix p0) 10), .int (itS st (ix p0) 11)])) := hC.1 5 _ (ok5 hi9.2)
  have h_S : Mw (ad 6 (ix p0)) = some (.inr (5, [.ref (ad 3 (tbN st (ix p0))), .int (itS st (ix p0) 12), .int (itS st (ix p0) 13), .int (itS st (ix p0) 14), .int (itS st (ix p0) 15)])) := hC.1 6 _ (ok6 hi9.2)
  have h_R : Mw (ad 7 (ix p0)) = some (.inr (4, [.ref (ad 8 (ix p0)), .ref (ad 9 (ix p0)), .int (nI (rnS st (ix p0)))])) := hC.1 7 _ (ok7 hi9.2)
  have h_V : Mw (ad 8 (ix p0)) = some (.inl (G.2.1 0, 8, .inl (rvS st (ix p0)))) := hC.1 8 _ (ok8 hi9.2)
  have h_E : Mw (ad 9 (ix p0)) = some (.inl (G.2.1 0, 8, .inl (reS st (ix p0)))) := hC.1 9 _ (ok9 hi9.2)
  have h_T : Mw (ad 3 (tbN st (ix p0))) = some (.inr (6, [.ref (ad 4 (tbN st (ix p0))), .int (usS st (tbN st (ix p0)))])) := hC.1 3 _ (ok3 hT9)
  have h_B : Mw (ad 4 (tbN st (ix p0))) = some (.inl (G.2.1 0, 20, .inl (boS st (tbN st (ix p0))))) := hC.1 4 _ (ok4 hT9)
  refine lv_astore_n (lv' := [(2, .ref (ad 5 (ix p0))), (0, .ref (ad 0 0)), (1, .int p0)]) hx hb dX4_smash_5 rfl hl (by decide) rfl (fun ls hl => ?_)
  refine lv_aload_n hx hb dX4_smash_6 rfl (lv_at hl 0 rfl) ?_
  refine m_getN (ci := 3) (v := .int (itS st (ix p0) 5)) (C := RX0) (T := TX0) (N := 15) hx hb hts i_X0 hown hK (hP _ _ h_I) rfl 8 (by decide) (va_Nw.use rfl (hG.2.1.2.1 ("Meniscus", 119, "Meniscus$Instrument", "smashed", "Z", "Meniscus") (by decide +kernel))) (fun _ h9 => h9) rfl dX4_smash_7 ?_
  refine lv_if_eq (tgt := 23) hx hb dX4_smash_10 (by decide) (fun c2 => ?_) (fun c2 => ?_)
  · skip
    refine lv_aload_n hx hb dX4_smash_23 rfl (lv_at hl 0 rfl) ?_
    refine m_getN (ci := 3) (v := .int (itS st (ix p0) 7)) (C := RX0) (T := TX0) (N := 15) hx hb hts i_X0 hown hK (hP _ _ h_I) rfl 10 (by decide) (va_Nw.use rfl (hG.2.1.2.1 ("Meniscus", 139, "Meniscus$Instrument", "inside", "I", "Meniscus") (by decide +kernel))) (fun _ h9 => h9) rfl dX4_smash_24 ?_
    refine lv_istore_n (lv' := [(3, .int (itS st (ix p0) 7)), (2, .ref (ad 5 (ix p0))), (0, .ref (ad 0 0)), (1, .int p0)]) hx hb dX4_smash_27 rfl hl (by decide) rfl (fun ls hl => ?_)
    refine lv_aload_n hx hb dX4_smash_28 rfl (lv_at hl 2 rfl) ?_
    refine lv_dup hx hb dX4_smash_29 rfl ?_
    refine m_get (ci := 7) (v := .int (gS st 3)) (C := RX4) (T := TX4) (N := 9) hx hb hts i_X4 hown hK (hP _ _ h_X) rfl 7 (by decide) (hts (.fieldLink RX4 142 "Meniscus" "spilt" "I") (by decide +kernel)) (fun _ h9 => h9) rfl dX4_smash_30 ?_
    refine lv_aload_n hx hb dX4_smash_33 rfl (lv_at hl 1 rfl) ?_
    refine m_calli (va_runV (As := []) (rest := [.int (gS st 3), .ref (ad 0 0)]) ⟨hx, hb, hml, hown, hts⟩ (c_X0_mercuryInside l G A Mw  h_I) (cwV 0 hts gX4_smash_X0_mercuryInside rfl rfl rfl (by decide +kernel) ⟨Nat.le_of_ble_eq_true rfl, Nat.le_of_ble_eq_true rfl⟩) (mPreV hG hS hP hI hA (hP _ _ h_I) (r := (RX0, TX0, 15)) rfl) rfl rfl hl.1 rfl (lv_room (Nat.le_of_ble_eq_true rfl)) dX4_smash_34 ⟨Nat.le_of_ble_eq_true rfl, Nat.le_of_ble_eq_true rfl⟩) hS (fun r3 Mw1 H locs hp_r3 hP hI hS => ?_)
    obtain ⟨hp_r3, hm9⟩ := hp_r3
    subst Mw1
    refine lv_iadd hx hb dX4_smash_37 ?_
    refine m_put (ci := 7) (v := .int ((gS st 3) + r3)) (ty := .int) (C := RX4) (T := TX4) (N := 9) hx hb hts i_X4 tyX4 tyX4_ok nmX4 hown hK hP hI hS h_X rfl 7 (by decide) (hts (.fieldLink RX4 142 "Meniscus" "spilt" "I") (by decide +kernel)) (fun _ h9 => h9) rfl (by decide +kernel) rfl rfl (Nat.le_of_ble_eq_true rfl) dX4_smash_38 (fun H locs hP hI hS => ?_)
    have hP : mP G.1 (mu Mw (ad 0 0) (.inr (7, [.ref (ad 1 0), .ref (ad 2 0), .int (nI (nT st)), .int (nI (nN st)), .int (gS st 0), .int (gS st 1), .int (gS st 2), .int ((gS st 3) + r3), .int (gS st 4)]))) H := hP
    have hI : mI A (mu Mw (ad 0 0) (.inr (7, [.ref (ad 1 0), .ref (ad 2 0), .int (nI (nT st)), .int (nI (nN st)), .int (gS st 0), .int (gS st 1), .int (gS st 2), .int ((gS st 3) + r3), .int (gS st 4)]))) := hI
    have h_TA := mu_k (e := .inr (7, [.ref (ad 1 0), .ref (ad 2 0), .int (nI (nT st)), .int (nI (nN st)), .int (gS st 0), .int (gS st 1), .int (gS st 2), .int ((gS st 3) + r3), .int (gS st 4)])) (kd_ne h_TA h_X rfl) h_TA
    have h_IA := mu_k (e := .inr (7, [.ref (ad 1 0), .ref (ad 2 0), .int (nI (nT st)), .int (nI (nN st)), .int (gS st 0), .int (gS st 1), .int (gS st 2), .int ((gS st 3) + r3), .int (gS st 4)])) (kd_ne h_IA h_X rfl) h_IA
    have h_I := mu_k (e := .inr (7, [.ref (ad 1 0), .ref (ad 2 0), .int (nI (nT st)), .int (nI (nN st)), .int (gS st 0), .int (gS st 1), .int (gS st 2), .int ((gS st 3) + r3), .int (gS st 4)])) (kd_ne h_I h_X rfl) h_I
    have h_S := mu_k (e := .inr (7, [.ref (ad 1 0), .ref (ad 2 0), .int (nI (nT st)), .int (nI (nN st)), .int (gS st 0), .int (gS st 1), .int (gS st 2), .int ((gS st 3) + r3), .int (gS st 4)])) (kd_ne h_S h_X rfl) h_S
    have h_R := mu_k (e := .inr (7, [.ref (ad 1 0), .ref (ad 2 0), .int (nI (nT st)), .int (nI (nN st)), .int (gS st 0), .int (gS st 1), .int (gS st 2), .int ((gS st 3) + r3), .int (gS st 4)])) (kd_ne h_R h_X rfl) h_R
    have h_V := mu_k (e := .inr (7, [.ref (ad 1 0), .ref (ad 2 0), .int (nI (nT st)), .int (nI (nN st)), .int (gS st 0), .int (gS st 1), .int (gS st 2), .int ((gS st 3) + r3), .int (gS st 4)])) (kd_ne h_V h_X rfl) h_V
    have h_E := mu_k (e := .inr (7, [.ref (ad 1 0), .ref (ad 2 0), .int (nI (nT st)), .int (nI (nN st)), .int (gS st 0), .int (gS st 1), .int (gS st 2), .int ((gS st 3) + r3), .int (gS st 4)])) (kd_ne h_E h_X rfl) h_E
    have h_T := mu_k (e := .inr (7, [.ref (ad 1 0), .ref (ad 2 0), .int (nI (nT st)), .int (nI (nN st)), .int (gS st 0), .int (gS st 1), .int (gS st 2), .int ((gS st 3) + r3), .int (gS st 4)])) (kd_ne h_T h_X rfl) h_T
    have h_B := mu_k (e := .inr (7, [.ref (ad 1 0), .ref (ad 2 0), .int (nI (nT st)), .int (nI (nN st)), .int (gS st 0), .int (gS st 1), .int (gS st 2), .int ((gS st 3) + r3), .int (gS st 4)])) (kd_ne h_B h_X rfl) h_B
    have h_X : (mu Mw (ad 0 0) (.inr (7, [.ref (ad 1 0), .ref (ad 2 0), .int (nI (nT st)), .int (nI (nN st)), .int (gS st 0), .int (gS st 1), .int (gS st 2), .int ((gS st 3) + r3), .int (gS st 4)]))) (ad 0 0) = some (.inr (7, [.ref (ad 1 0), .ref (ad 2 0), .int (nI (nT st)), .int (nI (nN st)), .int (gS st 0), .int (gS st 1), .int (gS st 2), .int ((gS st 3) + r3), .int (gS st 4)])) := mu_s
    refine lv_aload_n hx hb dX4_smash_41 rfl (lv_at hl 1 rfl) ?_
    refine m_callv (va_runV (As := []) (rest := []) ⟨hx, hb, hml, hown, hts⟩ (c_X0_breakUp l G A (mu Mw (ad 0 0) (.inr (7, [.ref (ad 1 0), .ref (ad 2 0), .int (nI (nT st)), .int (nI (nN st)), .int (gS st 0), .int (gS st 1), .int (gS st 2), .int ((gS st 3) + r3), .int (gS st 4)])))  h_I) (cwV 0 hts gX4_smash_X0_breakUp rfl rfl rfl (by decide +kernel) ⟨Nat.le_of_ble_eq_true rfl, Nat.le_of_ble_eq_true rfl⟩) (mPreV hG hS hP hI hA (hP _ _ h_I) (r := (RX0, TX0, 15)) rfl) rfl rfl hl.1 rfl (lv_room (Nat.le_of_ble_eq_true rfl)) dX4_smash_42 ⟨Nat.le_of_ble_eq_true rfl, Nat.le_of_ble_eq_true rfl⟩) hS (fun Mw1 H locs hp_r4 hP hI hS => ?_)
    subst Mw1
    have h_X := mu_k (e := .inr (3, [.int (itS st (ix p0) 0), .ref (ad 3 (tbN st (ix p0))), .int (itS st (ix p0) 1), .int (itS st (ix p0) 2), .ref (ad 6 (ix p0)), .ref (ad 7 (ix p0)), .int (itS st (ix p0) 3), .int 0, .int 1, .int (itS st (ix p0) 6), .int 0, .int (itS st (ix p0) 8), .int (itS st (ix p0) 9), .int (itS st (ix p0) 10), .int (itS st (ix p0) 11)])) (kd_ne h_X h_I rfl) h_X
    have h_TA := mu_k (e := .inr (3, [.int (itS st (ix p0) 0), .ref (ad 3 (tbN st (ix p0))), .int (itS st (ix p0) 1), .int (itS st (ix p0) 2), .ref (ad 6 (ix p0)), .ref (ad 7 (ix p0)), .int (itS st (ix p0) 3), .int 0, .int 1, .int (itS st (ix p0) 6), .int 0, .int (itS st (ix p0) 8), .int (itS st (ix p0) 9), .int (itS st (ix p0) 10), .int (itS st (ix p0) 11)])) (kd_ne h_TA h_I rfl) h_TA
    have h_IA := mu_k (e := .inr (3, [.int (itS st (ix p0) 0), .ref (ad 3 (tbN st (ix p0))), .int (itS st (ix p0) 1), .int (itS st (ix p0) 2), .ref (ad 6 (ix p0)), .ref (ad 7 (ix p0)), .int (itS st (ix p0) 3), .int 0, .int 1, .int (itS st (ix p0) 6), .int 0, .int (itS st (ix p0) 8), .int (itS st (ix p0) 9), .int (itS st (ix p0) 10), .int (itS st (ix p0) 11)])) (kd_ne h_IA h_I rfl) h_IA
    have h_S := mu_k (e := .inr (3, [.int (itS st (ix p0) 0), .ref (ad 3 (tbN st (ix p0))), .int (itS st (ix p0) 1), .int (itS st (ix p0) 2), .ref (ad 6 (ix p0)), .ref (ad 7 (ix p0)), .int (itS st (ix p0) 3), .int 0, .int 1, .int (itS st (ix p0) 6), .int 0, .int (itS st (ix p0) 8), .int (itS st (ix p0) 9), .int (itS st (ix p0) 10), .int (itS st (ix p0) 11)])) (kd_ne h_S h_I rfl) h_S
    have h_R := mu_k (e := .inr (3, [.int (itS st (ix p0) 0), .ref (ad 3 (tbN st (ix p0))), .int (itS st (ix p0) 1), .int (itS st (ix p0) 2), .ref (ad 6 (ix p0)), .ref (ad 7 (ix p0)), .int (itS st (ix p0) 3), .int 0, .int 1, .int (itS st (ix p0) 6), .int 0, .int (itS st (ix p0) 8), .int (itS st (ix p0) 9), .int (itS st (ix p0) 10), .int (itS st (ix p0) 11)])) (kd_ne h_R h_I rfl) h_R
    have h_V := mu_k (e := .inr (3, [.int (itS st (ix p0) 0), .ref (ad 3 (tbN st (ix p0))), .int (itS st (ix p0) 1), .int (itS st (ix p0) 2), .ref (ad 6 (ix p0)), .ref (ad 7 (ix p0)), .int (itS st (ix p0) 3), .int 0, .int 1, .int (itS st (ix p0) 6), .int 0, .int (itS st (ix p0) 8), .int (itS st (ix p0) 9), .int (itS st (ix p0) 10), .int (itS st (ix p0) 11)])) (kd_ne h_V h_I rfl) h_V
    have h_E := mu_k (e := .inr (3, [.int (itS st (ix p0) 0), .ref (ad 3 (tbN st (ix p0))), .int (itS st (ix p0) 1), .int (itS st (ix p0) 2), .ref (ad 6 (ix p0)), .ref (ad 7 (ix p0)), .int (itS st (ix p0) 3), .int 0, .int 1, .int (itS st (ix p0) 6), .int 0, .int (itS st (ix p0) 8), .int (itS st (ix p0) 9), .int (itS st (ix p0) 10), .int (itS st (ix p0) 11)])) (kd_ne h_E h_I rfl) h_E
    have h_T := mu_k (e := .inr (3, [.int (itS st (ix p0) 0), .ref (ad 3 (tbN st (ix p0))), .int (itS st (ix p0) 1), .int (itS st (ix p0) 2), .ref (ad 6 (ix p0)), .ref (ad 7 (ix p0)), .int (itS st (ix p0) 3), .int 0, .int 1, .int (itS st (ix p0) 6), .int 0, .int (itS st (ix p0) 8), .int (itS st (ix p0) 9), .int (itS st (ix p0) 10), .int (itS st (ix p0) 11)])) (kd_ne h_T h_I rfl) h_T
    have h_B := mu_k (e := .inr (3, [.int (itS st (ix p0) 0), .ref (ad 3 (tbN st (ix p0))), .int (itS st (ix p0) 1), .int (itS st (ix p0) 2), .ref (ad 6 (ix p0)), .ref (ad 7 (ix p0)), .int (itS st (ix p0) 3), .int 0, .int 1, .int (itS st (ix p0) 6), .int 0, .int (itS st (ix p0) 8), .int (itS st (ix p0) 9), .int (itS st (ix p0) 10), .int (itS st (ix p0) 11)])) (kd_ne h_B h_I rfl) h_B
    have h_I : (mu (mu Mw (ad 0 0) (.inr (7, [.ref (ad 1 0), .ref (ad 2 0), .int (nI (nT st)), .int (nI (nN st)), .int (gS st 0), .int (gS st 1), .int (gS st 2), .int ((gS st 3) + r3), .int (gS st 4)]))) (ad 5 (ix p0)) (.inr (3, [.int (itS st (ix p0) 0), .ref (ad 3 (tbN st (ix p0))), .int (itS st (ix p0) 1), .int (itS st (ix p0) 2), .ref (ad 6 (ix p0)), .ref (ad 7 (ix p0)), .int (itS st (ix p0) 3), .int 0, .int 1, .int (itS st (ix p0) 6), .int 0, .int (itS st (ix p0) 8), .int (itS st (ix p0) 9), .int (itS st (ix p0) 10), .int (itS st (ix p0) 11)]))) (ad 5 (ix p0)) = some (.inr (3, [.int (itS st (ix p0) 0), .ref (ad 3 (tbN st (ix p0))), .int (itS st (ix p0) 1), .int (itS st (ix p0) 2), .ref (ad 6 (ix p0)), .ref (ad 7 (ix p0)), .int (itS st (ix p0) 3), .int 0, .int 1, .int (itS st (ix p0) 6), .int 0, .int (itS st (ix p0) 8), .int (itS st (ix p0) 9), .int (itS st (ix p0) 10), .int (itS st (ix p0) 11)])) := mu_s
    refine lv_iload_n hx hb dX4_smash_45 rfl (lv_at hl 0 rfl) ?_
    refine W.widen (k := 2) (n := 12) (Nat.le_of_ble_eq_true rfl) (Nat.le_of_ble_eq_true rfl) ?_
    refine vx_ret ?_
    exact W.iret (v := itS st (ix p0) 7) hx hb hr (fun t99 ht99 hW99 => ⟨⟨itS st (ix p0) 7, (mu (mu Mw (ad 0 0) (.inr (7, [.ref (ad 1 0), .ref (ad 2 0), .int (nI (nT st)), .int (nI (nN st)), .int (gS st 0), .int (gS st 1), .int (gS st 2), .int ((gS st 3) + r3), .int (gS st 4)]))) (ad 5 (ix p0)) (.inr (3, [.int (itS st (ix p0) 0), .ref (ad 3 (tbN st (ix p0))), .int (itS st (ix p0) 1), .int (itS st (ix p0) 2), .ref (ad 6 (ix p0)), .ref (ad 7 (ix p0)), .int (itS st (ix p0) 3), .int 0, .int 1, .int (itS st (ix p0) 6), .int 0, .int (itS st (ix p0) 8), .int (itS st (ix p0) 9), .int (itS st (ix p0) 10), .int (itS st (ix p0) 11)]))), rfl, ⟨smaS st (ix p0), ad, by unfold m_smash; first | (rw [chk_p hi9, chk_p c2]; done) | (rw [chk_p hi9, chk_p c2]; rfl), by rw [show r3 = mer st (ix p0) from hp_r3]; exact (hC.sg (fu (gS st) 3 (gS st 3 + mer st (ix p0)))).sit5 hi9.2 (smaG st (ix p0)) rfl ⟨rfl, rfl, rfl, rfl⟩, rfl⟩, by rw [ht99]; exact hP, hI⟩, hS.F ht99⟩) hS.2.2 dX4_smash_46
  · skip
    obtain ⟨sa9, hsa9⟩ := hG.2.1.2.2.2.2.2.1 (137, "it is smashed") (by decide +kernel)
    exact vx_throwS (text := "it is smashed") (names := ["java/lang/RuntimeException", "java/lang/Exception"]) hx hb hl9 hown (by decide +kernel) (by decide +kernel) (hts (.classLink RX4 122 "java/lang/UnsupportedOperationException") (by decide +kernel)) (hts (.initialized "java/lang/UnsupportedOperationException") (by decide +kernel)) hsa9 (m_hat hG (fun w h => hts w (List.mem_cons_of_mem _ (List.mem_append_left _ (List.mem_append_right _ h)))) (by decide +kernel) (by decide +kernel)) (by decide +kernel) hG.2.2.1 hG.2.2.2.1 hS (hl.1.trans hml.symm) dX4_smash_13 dX4_smash_16 dX4_smash_17 dX4_smash_19 dX4_smash_22 (fun x hx9 => absurd hx9 (fun q => hxt x q)) (Nat.le_of_ble_eq_true rfl) (Nat.le_of_ble_eq_true rfl) (Nat.le_of_ble_eq_true rfl) (Nat.le_of_ble_eq_true rfl) hlocks (fun t9 _ h92 h93 => m_thrown (px := fun E => exc ["java/lang/IndexOutOfBoundsException", "java/lang/UnsupportedOperationException"] (m_smash st p0) E) (E := "java/lang/UnsupportedOperationException") hP hI hS (exc_of (by unfold m_smash; first | (rw [chk_p hi9, chk_n c2]; done) | (rw [chk_p hi9, chk_n c2]; rfl)) rfl) t9 h92 h93) hS.2.2 (Nat.le_of_ble_eq_true rfl) (Nat.le_of_ble_eq_true rfl)

set_option maxHeartbeats 4000000 in
set_option maxRecDepth 100000 in
theorem c_X4_ice (l : Launch) (G : mg) (A : Nat → Prop) (Mw : mw) (hl9 : l.stackTraces = false) (st : St) (ad : adr) (p0 : Int32) (hC : CS G st ad Mw) (hV : Inv st) : vx_Met l yX4_ice wsX4_ice ({ frames := 7, cells := 3, slots := 18, locals := 140 }) (va_Pc [.ref (ad 0 0), .int p0] (mB G A Mw)) (va_Qi (fun r Mw1 => ∃ (s1 : St) (ad1 : adr), m_ice st p0 = (0, r, s1) ∧ CS G s1 ad1 Mw1 ∧ ad1 0 0 = ad 0 0) (mE G A) A) (xX (fun E => exc ["java/lang/IndexOutOfBoundsException", "java/lang/UnsupportedOperationException", "java/util/NoSuchElementException"] (m_ice st p0) E) G A Mw) 3 18 A := by
  refine vx_ofW (cc := cX4_ice) (maxL := 4) (ret := (some .int)) (by decide) rfl ?_
  intro p e s m args below meth c s₁ B hml hxt hv
  obtain ⟨rfl, hG, hP, hI, hA⟩ := hv
  have hx := B.exec
  have hb := B.bytes
  have hr := B.returns
  have hts := atoms_spec (ws := wsX4_ice) B.pre
  have hown : s.vm.findClass RX4 = some m.cls := findClass_of_methodNamed B.named
  have hlocks := B.notSynchronized
  have hK := hG.K
  have i_X0 : ∀ w ∈ wsX00, w ∈ wsX4_ice := by decide +kernel
  have hS : va_S A s.heap s.heap [] := va_S.rf
  have hl := lv_entry ([.ref (ad 0 0), .int p0]) (n := 4) (Nat.le_of_ble_eq_true rfl)
  rw [lg_entry_eq]
  generalize (lg_sl ([.ref (ad 0 0), .int p0]) ++ List.replicate (4 - (lg_sl ([.ref (ad 0 0), .int p0])).length) Slot.unset).toArray = ls at hl ⊢
  have hl : lv_has ls 4 [(0, .ref (ad 0 0)), (1, .int p0)] := hl
  have hP : mP G.1 Mw s.heap := hP
  have h_X : Mw (ad 0 0) = some (.inr (7, [.ref (ad 1 0), .ref (ad 2 0), .int (nI (nT st)), .int (nI (nN st)), .int (gS st 0), .int (gS st 1), .int (gS st 2), .int (gS st 3), .int (gS st 4)])) := hC.1 0 0 (ok0 st)
  have h_TA : Mw (ad 1 0) = some (.inl (G.2.1 3, 8, .inr (.inr (.inr (.inr (qf (nT st) (ad 3))))))) := hC.1 1 0 (ok1 st)
  have h_IA : Mw (ad 2 0) = some (.inl (G.2.1 4, 6, .inr (.inr (.inr (.inr (qf (nN st) (ad 5))))))) := hC.1 2 0 (ok2 st)
  have hta9 := hC.ne (ok1 st) (ok2 st) (by omega)
  refine lv_aload_n hx hb dX4_ice_0 rfl (lv_at hl 0 rfl) ?_
  refine lv_iload_n hx hb dX4_ice_1 rfl (lv_at hl 1 rfl) ?_
  refine mx_callq (vx_runV (As := [.int p0]) (rest := []) ⟨hx, hb, hml, hown, hts⟩ (c_X4_instrumentNumbered l G A Mw hl9  p0 h_X hV.1.2 h_IA) (cwV 1 hts gX4_ice_X4_instrumentNumbered rfl rfl rfl (by decide +kernel) ⟨Nat.le_of_ble_eq_true rfl, Nat.le_of_ble_eq_true rfl⟩) (mPreV hG hS hP hI hA (hP _ _ h_X) (r := (RX4, TX4, 9)) rfl) rfl rfl hl.1 rfl (lv_room (Nat.le_of_ble_eq_true rfl)) dX4_ice_2 ⟨Nat.le_of_ble_eq_true rfl, Nat.le_of_ble_eq_true rfl⟩) hS (fun E9 ce9 q9 H locs hpx9 hP hI hS hc9 hv9 hcl9 => m_out (px := fun E => exc ["java/lang/IndexOutOfBoundsException", "java/lang/UnsupportedOperationException", "java/util/NoSuchElementException"] (m_ice st p0) E) (fun x hx9 => absurd hx9 (fun q => hxt x q)) hlocks hP hI hS hc9 hv9 hcl9 ((by obtain ⟨hE9, hn9⟩ := hpx9; subst hE9; exact exc_of (by unfold m_ice; first | (rw [chk_n hn9]; done) | (rw [chk_n hn9]; rfl)) rfl)) (Nat.le_of_ble_eq_true rfl) (Nat.le_of_ble_eq_true rfl)) (fun r1 Mw1 H locs hp_r1 hP hI hS => ?_)
  obtain ⟨⟨hi9, hr9⟩, hm9⟩ := hp_r1
  subst Mw1
  subst hr9
  have hT9 := hV.tb hi9.2
  have hn9 := hV.rn hi9.2
  have hve := hC.ne (ok8 hi9.2) (ok9 hi9.2) (by omega)
  have hvb := hC.ne (ok8 hi9.2) (ok4 hT9) (by omega)
  have heb := hC.ne (ok9 hi9.2) (ok4 hT9) (by omega)
  have h_I : Mw (ad 5 (ix p0)) = some (.inr (3, [.int (itS st (ix p0) 0), .ref (ad 3 (tbN st (ix p0))), .int (itS st (ix p0) 1), .int (itS st (ix p0) 2), .ref (ad 6 (ix p0)), .ref (ad 7 (ix p0)), .int (itS st (ix p0) 3), .int (itS st (ix p0) 4), .int (itS st (ix p0) 5), .int (itS st (ix p0) 6), .int (itS st (ix p0) 7), .int (itS st (ix p0) 8), .int (itS st (ix p0) 9), .int (itS st (ix p0) 10), .int (itS st (ix p0) 11)])) := hC.1 5 _ (ok5 hi9.2)
  have h_S : Mw (ad 6 (ix p0)) = some (.inr (5, [.ref (ad 3 (tbN st (ix p0))), .int (itS st (ix p0) 12), .int (itS st (ix p0) 13), .int (itS st (ix p0) 14), .int (itS st (ix p0) 15)])) := hC.1 6 _ (ok6 hi9.2)
  have h_R : Mw (ad 7 (ix p0)) = some (.inr (4, [.ref (ad 8 (ix p0)), .ref (ad 9 (ix p0)), .int (nI (rnS st (ix p0)))])) := hC.1 7 _ (ok7 hi9.2)
  have h_V : Mw (ad 8 (ix p0)) = some (.inl (G.2.1 0, 8, .inl (rvS st (ix p0)))) := hC.1 8 _ (ok8 hi9.2)
  have h_E : Mw (ad 9 (ix p0)) = some (.inl (G.2.1 0, 8, .inl (reS st (ix p0)))) := hC.1 9 _ (ok9 hi9.2)
  have h_T : Mw (ad 3 (tbN st (ix p0))) = some (.inr (6, [.ref (ad 4 (tbN st (ix p0))), .int (usS st (tbN st (ix p0)))])) := hC.1 3 _ (ok3 hT9)
  have h_B : Mw (ad 4 (tbN st (ix p0))) = some (.inl (G.2.1 0, 20, .inl (boS st (tbN st (ix p0))))) := hC.1 4 _ (ok4 hT9)
  refine lv_astore_n (lv' := [(2, .ref (ad 5 (ix p0))), (0, .ref (ad 0 0)), (1, .int p0)]) hx hb dX4_ice_5 rfl hl (by decide) rfl (fun ls hl => ?_)
  refine lv_aload_n hx hb dX4_ice_6 rfl (lv_at hl 0 rfl) ?_
  refine mx_callv (vx_runS (As := [.ref (ad 5 (ix p0))]) (rest := []) ⟨hx, hb, hml, hown, hts⟩ (c_X4_demandFilled l G A Mw hl9  h_I) (va_cwS 1 hts gX4_ice_X4_demandFilled rfl rfl rfl (by decide +kernel) ⟨Nat.le_of_ble_eq_true rfl, Nat.le_of_ble_eq_true rfl⟩) (mPreS hG hS hP hI hA) rfl rfl hl.1 rfl (lv_room (Nat.le_of_ble_eq_true rfl)) dX4_ice_7 ⟨Nat.le_of_ble_eq_true rfl, Nat.le_of_ble_eq_true rfl⟩) hS (fun E9 ce9 q9 H locs hpx9 hP hI hS hc9 hv9 hcl9 => m_out (px := fun E => exc ["java/lang/IndexOutOfBoundsException", "java/lang/UnsupportedOperationException", "java/util/NoSuchElementException"] (m_ice st p0) E) (fun x hx9 => absurd hx9 (fun q => hxt x q)) hlocks hP hI hS hc9 hv9 hcl9 ((by obtain ⟨hE9, hn9⟩ := hpx9; subst hE9; exact exc_of (by unfold m_ice; first | (rw [chk_p hi9, chk_n hn9]; done) | (rw [chk_p hi9, chk_n hn9]; rfl)) rfl)) (Nat.le_of_ble_eq_true rfl) (Nat.le_of_ble_eq_true rfl)) (fun Mw1 H locs hp_r2 hP hI hS => ?_)
  obtain ⟨hp_r2, hm9⟩ := hp_r2
  subst Mw1
  refine lv_aload_n hx hb dX4_ice_10 rfl (lv_at hl 1 rfl) ?_
  refine lv_aload_n hx hb dX4_ice_11 rfl (lv_at hl 0 rfl) ?_
  refine lv_iconst (v := 0) hx hb dX4_ice_12 (by decide) ?_
  refine lv_sipush (v := (200)) hx hb dX4_ice_13 (by decide) ?_
  refine mx_calli (vx_runV (As := [.ref (ad 5 (ix p0)), .int 0, .int 200]) (rest := []) ⟨hx, hb, hml, hown, hts⟩ (c_X4_levelFound l G A Mw hl9  0 200 h_X h_I h_T h_B) (cwV 3 hts gX4_ice_X4_levelFound rfl rfl rfl (by decide +kernel) ⟨Nat.le_of_ble_eq_true rfl, Nat.le_of_ble_eq_true rfl⟩) (mPreV hG hS hP hI hA (hP _ _ h_X) (r := (RX4, TX4, 9)) rfl) rfl rfl hl.1 rfl (lv_room (Nat.le_of_ble_eq_true rfl)) dX4_ice_16 ⟨Nat.le_of_ble_eq_true rfl, Nat.le_of_ble_eq_true rfl⟩) hS (fun E9 ce9 q9 H locs hpx9 hP hI hS hc9 hv9 hcl9 => m_out (px := fun E => exc ["java/lang/IndexOutOfBoundsException", "java/lang/UnsupportedOperationException", "java/util/NoSuchElementException"] (m_ice st p0) E) (fun x hx9 => absurd hx9 (fun q => hxt x q)) hlocks hP hI hS hc9 hv9 hcl9 ((by obtain ⟨hE9, hn9⟩ := hpx9; subst hE9; exact exc_of (by unfold m_ice; first | (rw [chk_p hi9, chk_p hp_r2, chk_n (fun q9 => q9 (lvl_eq hn9))]; done) | (rw [chk_p hi9, chk_p hp_r2, chk_n (fun q9 => q9 (lvl_eq hn9))]; rfl)) rfl)) (Nat.le_of_ble_eq_true rfl) (Nat.le_of_ble_eq_true rfl)) (fun r3 Mw1 H locs hp_r3 hP hI hS => ?_)
  obtain ⟨⟨hl9, hq9⟩, hm9⟩ := hp_r3
  subst Mw1
  have hl8 := lvl_eq (s := st) (i := ix p0) (T := 0) (dip := 200) hl9
  have hq8 : ¬ lvl st (ix p0) 0 200 = -1 := by rw [hl8]; exact hq9
  refine lv_istore_n (lv' := [(3, .int r3), (2, .ref (ad 5 (ix p0))), (0, .ref (ad 0 0)), (1, .int p0)]) hx hb dX4_ice_19 rfl hl (by decide) rfl (fun ls hl => ?_)
  refine lv_aload_n hx hb dX4_ice_20 rfl (lv_at hl 1 rfl) ?_
  refine m_getN (ci := 3) (v := .ref (ad 6 (ix p0))) (C := RX0) (T := TX0) (N := 15) hx hb hts i_X0 hown hK (hP _ _ h_I) rfl 4 (by decide) (va_Nw.use rfl (hG.2.1.2.1 ("Meniscus", 173, "Meniscus$Instrument", "scale", "LMeniscus$Scale;", "Meniscus") (by decide +kernel))) (fun _ h9 => h9) rfl dX4_ice_21 ?_
  refine lv_iload_n hx hb dX4_ice_24 rfl (lv_at hl 0 rfl) ?_
  refine m_callv (va_runV (As := [.int r3]) (rest := []) ⟨hx, hb, hml, hown, hts⟩ (c_X2_putIce l G A Mw  r3 h_S) (cwV 1 hts gX4_ice_X2_putIce rfl rfl rfl (by decide +kernel) ⟨Nat.le_of_ble_eq_true rfl, Nat.le_of_ble_eq_true rfl⟩) (mPreV hG hS hP hI hA (hP _ _ h_S) (r := (RX2, TX2, 5)) rfl) rfl rfl hl.1 rfl (lv_room (Nat.le_of_ble_eq_true rfl)) dX4_ice_25 ⟨Nat.le_of_ble_eq_true rfl, Nat.le_of_ble_eq_true rfl⟩) hS (fun Mw1 H locs hp_r4 hP hI hS => ?_)
  subst Mw1
  have h_X := mu_k (e := .inr (5, [.ref (ad 3 (tbN st (ix p0))), .int r3, .int (itS st (ix p0) 13), .int (itS st (ix p0) 14), .int 32])) (kd_ne h_X h_S rfl) h_X
  have h_TA := mu_k (e := .inr (5, [.ref (ad 3 (tbN st (ix p0))), .int r3, .int (itS st (ix p0) 13), .int (itS st (ix p0) 14), .int 32])) (kd_ne h_TA h_S rfl) h_TA
  have h_IA := mu_k (e := .inr (5, [.ref (ad 3 (tbN st (ix p0))), .int r3, .int (itS st (ix p0) 13), .int (itS st (ix p0) 14), .int 32])) (kd_ne h_IA h_S rfl) h_IA
  have h_I := mu_k (e := .inr (5, [.ref (ad 3 (tbN st (ix p0))), .int r3, .int (itS st (ix p0) 13), .int (itS st (ix p0) 14), .int 32])) (kd_ne h_I h_S rfl) h_I
  have h_R := mu_k (e := .inr (5, [.ref (ad 3 (tbN st (ix p0))), .int r3, .int (itS st (ix p0) 13), .int (itS st (ix p0) 14), .int 32])) (kd_ne h_R h_S rfl) h_R
  have h_V := mu_k (e := .inr (5, [.ref (ad 3 (tbN st (ix p0))), .int r3, .int (itS st (ix p0) 13), .int (itS st (ix p0) 14), .int 32])) (kd_ne h_V h_S rfl) h_V
  have h_E := mu_k (e := .inr (5, [.ref (ad 3 (tbN st (ix p0))), .int r3, .int (itS st (ix p0) 13), .int (itS st (ix p0) 14), .int 32])) (kd_ne h_E h_S rfl) h_E
  have h_T := mu_k (e := .inr (5, [.ref (ad 3 (tbN st (ix p0))), .int r3, .int (itS st (ix p0) 13), .int (itS st (ix p0) 14), .int 32])) (kd_ne h_T h_S rfl) h_T
  have h_B := mu_k (e := .inr (5, [.ref (ad 3 (tbN st (ix p0))), .int r3, .int (itS st (ix p0) 13), .int (itS st (ix p0) 14), .int 32])) (kd_ne h_B h_S rfl) h_B
  have h_S : (mu Mw (ad 6 (ix p0)) (.inr (5, [.ref (ad 3 (tbN st (ix p0))), .int r3, .int (itS st (ix p0) 13), .int (itS st (ix p0) 14), .int 32]))) (ad 6 (ix p0)) = some (.inr (5, [.ref (ad 3 (tbN st (ix p0))), .int r3, .int (itS st (ix p0) 13), .int (itS st (ix p0) 14), .int 32])) := mu_s
  refine lv_iload_n hx hb dX4_ice_28 rfl (lv_at hl 0 rfl) ?_
  refine W.widen (k := 3) (n := 18) (Nat.le_of_ble_eq_true rfl) (Nat.le_of_ble_eq_true rfl) ?_
  refine vx_ret ?_
  exact W.iret (v := r3) hx hb hr (fun t99 ht99 hW99 => ⟨⟨r3, (mu Mw (ad 6 (ix p0)) (.inr (5, [.ref (ad 3 (tbN st (ix p0))), .int r3, .int (itS st (ix p0) 13), .int (itS st (ix p0) 14), .int 32]))), rfl, ⟨sIt st (ix p0) (fu (fu (itS st (ix p0)) 12 r3) 15 32), ad, by unfold m_ice; first | (rw [chk_p hi9, chk_p hp_r2, chk_p hq8, hl8]; done) | (rw [chk_p hi9, chk_p hp_r2, chk_p hq8, hl8]; rfl), hC.sit6 hi9.2 (fu (fu (itS st (ix p0)) 12 r3) 15 32) (fun f hf => by rw [fu_n (by omega), fu_n (by omega)]), rfl⟩, by rw [ht99]; exact hP, hI⟩, hS.F ht99⟩) hS.2.2 dX4_ice_29

set_option maxHeartbeats 4000000 in
set_option maxRecDepth 100000 in
theorem c_X4_steam (l : Launch) (G : mg) (A : Nat → Prop) (Mw : mw) (hl9 : l.stackTraces = false) (st : St) (ad : adr) (p0 p1 : Int32) (hC : CS G st ad Mw) (hV : Inv st) : vx_Met l yX4_steam wsX4_steam ({ frames := 8, cells := 4, slots := 24, locals := 140 }) (va_Pc [.ref (ad 0 0), .int p0, .int p1] (mB G A Mw)) (va_Qi (fun r Mw1 => ∃ (s1 : St) (ad1 : adr), m_steam st p0 p1 = (0, r, s1) ∧ CS G s1 ad1 Mw1 ∧ ad1 0 0 = ad 0 0) (mE G A) A) (xX (fun E => exc ["java/lang/IndexOutOfBoundsException", "java/lang/IllegalArgumentException", "java/lang/UnsupportedOperationException", "java/util/NoSuchElementException"] (m_steam st p0 p1) E) G A Mw) 4 24 A := by
  refine vx_ofW (cc := cX4_steam) (maxL := 5) (ret := (some .int)) (by decide) rfl ?_
  intro p e s m args below meth c s₁ B hml hxt hv
  obtain ⟨rfl, hG, hP, hI, hA⟩ := hv
  have hx := B.exec
  have hb := B.bytes
  have hr := B.returns
  have hts := atoms_spec (ws := wsX4_steam) B.pre
  have hown : s.vm.findClass RX4 = some m.cls := findClass_of_methodNamed B.named
  have hlocks := B.notSynchronized
  have hK := hG.K
  have i_X0 : ∀ w ∈ wsX00, w ∈ wsX4_steam := by decide +kernel
  have hS : va_S A s.heap s.heap [] := va_S.rf
  have hl := lv_entry ([.ref (ad 0 0), .int p0, .int p1]) (n := 5) (Nat.le_of_ble_eq_true rfl)
  rw [lg_entry_eq]
  generalize (lg_sl ([.ref (ad 0 0), .int p0, .int p1]) ++ List.replicate (5 - (lg_sl ([.ref (ad 0 0), .int p0, .int p1])).length) Slot.unset).toArray = ls at hl ⊢
  have hl : lv_has ls 5 [(0, .ref (ad 0 0)), (1, .int p0), (2, .int p1)] := hl
  have hP : mP G.1 Mw s.heap := hP
  have h_X : Mw (ad 0 0) = some (.inr (7, [.ref (ad 1 0), .ref (ad 2 0), .int (nI (nT st)), .int (nI (nN st)), .int (gS st 0), .int (gS st 1), .int (gS st 2), .int (gS st 3), .int (gS st 4)])) := hC.1 0 0 (ok0 st)
  have h_TA : Mw (ad 1 0) = some (.inl (G.2.1 3, 8, .inr (.inr (.inr (.inr (qf (nT st) (ad 3))))))) := hC.1 1 0 (ok1 st)
  have h_IA : Mw (ad 2 0) = some (.inl (G.2.1 4, 6, .inr (.inr (.inr (.inr (qf (nN st) (ad 5))))))) := hC.1 2 0 (ok2 st)
  have hta9 := hC.ne (ok1 st) (ok2 st) (by omega)
  refine lv_aload_n hx hb dX4_steam_0 rfl (lv_at hl 0 rfl) ?_
  refine lv_iload_n hx hb dX4_steam_1 rfl (lv_at hl 1 rfl) ?_
  refine mx_callq (vx_runV (As := [.int p0]) (rest := []) ⟨hx, hb, hml, hown, hts⟩ (c_X4_instrumentNumbered l G A Mw hl9  p0 h_X hV.1.2 h_IA) (cwV 1 hts gX4_steam_X4_instrumentNumbered rfl rfl rfl (by decide +kernel) ⟨Nat.le_of_ble_eq_true rfl, Nat.le_of_ble_eq_true rfl⟩) (mPreV hG hS hP hI hA (hP _ _ h_X) (r := (RX4, TX4, 9)) rfl) rfl rfl hl.1 rfl (lv_room (Nat.le_of_ble_eq_true rfl)) dX4_steam_2 ⟨Nat.le_of_ble_eq_true rfl, Nat.le_of_ble_eq_true rfl⟩) hS (fun E9 ce9 q9 H locs hpx9 hP hI hS hc9 hv9 hcl9 => m_out (px := fun E => exc ["java/lang/IndexOutOfBoundsException", "java/lang/IllegalArgumentException", "java/lang/UnsupportedOperationException", "java/util/NoSuchElementException"] (m_steam st p0 p1) E) (fun x hx9 => absurd hx9 (fun q => hxt x q)) hlocks hP hI hS hc9 hv9 hcl9 ((by obtain ⟨hE9, hn9⟩ := hpx9; subst hE9; exact exc_of (by unfold m_steam; first | (rw [chk_n hn9]; done) | (rw [chk_n hn9]; rfl)) rfl)) (Nat.le_of_ble_eq_true rfl) (Nat.le_of_ble_eq_true rfl)) (fun r1 Mw1 H locs hp_r1 hP hI hS => ?_)
  obtain ⟨⟨hi9, hr9⟩, hm9⟩ := hp_r1
  subst Mw1
  subst hr9
  have hT9 := hV.tb hi9.2
  have hn9 := hV.rn hi9.2
  have hve := hC.ne (ok8 hi9.2) (ok9 hi9.2) (by omega)
  have hvb := hC.ne (ok8 hi9.2) (ok4 hT9) (by omega)
  have heb := hC.ne (ok9 hi9.2) (ok4 hT9) (by omega)
  have h_I : Mw (ad 5 (ix p0)) = some (.inr (3, [.int (itS st (ix p0) 0), .ref (ad 3 (tbN st (ix p0))), .int (itS st (ix p0) 1), .int (itS st (ix p0) 2), .ref (ad 6 (ix p0)), .ref (ad 7 (ix p0)), .int (itS st (ix p0) 3), .int (itS st (ix p0) 4), .int (itS st (ix p0) 5), .int (itS st (ix p0) 6), .int (itS st (ix p0) 7), .int (itS st (ix p0) 8), .int (itS st (ix p0) 9), .int (itS st (ix p0) 10), .int (itS st (ix p0) 11)])) := hC.1 5 _ (ok5 hi9.2)
  have h_S : Mw (ad 6 (ix p0)) = some (.inr (5, [.ref (ad 3 (tbN st (ix p0))), .int (itS st (ix p0) 12), .int (itS st (ix p0) 13), .int (itS st (ix p0) 14), .int (itS st (ix p0) 15)])) := hC.1 6 _ (ok6 hi9.2)
  have h_R : Mw (ad 7 (ix p0)) = some (.inr (4, [.ref (ad 8 (ix p0)), .ref (ad 9 (ix p0)), .int (nI (rnS st (ix p0)))])) := hC.1 7 _ (ok7 hi9.2)
  have h_V : Mw (ad 8 (ix p0)) = some (.inl (G.2.1 0, 8, .inl (rvS st (ix p0)))) := hC.1 8 _ (ok8 hi9.2)
  have h_E : Mw (ad 9 (ix p0)) = some (.inl (G.2.1 0, 8, .inl (reS st (ix p0)))) := hC.1 9 _ (ok9 hi9.2)
  have h_T : Mw (ad 3 (tbN st (ix p0))) = some (.inr (6, [.ref (ad 4 (tbN st (ix p0))), .int (usS st (tbN st (ix p0)))])) := hC.1 3 _ (ok3 hT9)
  have h_B : Mw (ad 4 (tbN st (ix p0))) = some (.inl (G.2.1 0, 20, .inl (boS st (tbN st (ix p0))))) := hC.1 4 _ (ok4 hT9)
  refine lv_astore_n (lv' := [(3, .ref (ad 5 (ix p0))), (0, .ref (ad 0 0)), (1, .int p0), (2, .int p1)]) hx hb dX4_steam_5 rfl hl (by decide) rfl (fun ls hl => ?_)
  refine lv_iload_n hx hb dX4_steam_6 rfl (lv_at hl 3 rfl) ?_
  refine mx_callv (vx_runS (As := [.int p1]) (rest := []) ⟨hx, hb, hml, hown, hts⟩ (c_X4_demandPressure l G A Mw hl9  p1) (va_cwS 1 hts gX4_steam_X4_demandPressure rfl rfl rfl (by decide +kernel) ⟨Nat.le_of_ble_eq_true rfl, Nat.le_of_ble_eq_true rfl⟩) (mPreS hG hS hP hI hA) rfl rfl hl.1 rfl (lv_room (Nat.le_of_ble_eq_true rfl)) dX4_steam_7 ⟨Nat.le_of_ble_eq_true rfl, Nat.le_of_ble_eq_true rfl⟩) hS (fun E9 ce9 q9 H locs hpx9 hP hI hS hc9 hv9 hcl9 => m_out (px := fun E => exc ["java/lang/IndexOutOfBoundsException", "java/lang/IllegalArgumentException", "java/lang/UnsupportedOperationException", "java/util/NoSuchElementException"] (m_steam st p0 p1) E) (fun x hx9 => absurd hx9 (fun q => hxt x q)) hlocks hP hI hS hc9 hv9 hcl9 ((by obtain ⟨hE9, hn9⟩ := hpx9; subst hE9; exact exc_of (by unfold m_steam; first | (rw [chk_p hi9, chk_n hn9]; done) | (rw [chk_p hi9, chk_n hn9]; rfl)) rfl)) (Nat.le_of_ble_eq_true rfl) (Nat.le_of_ble_eq_true rfl)) (fun Mw1 H locs hp_r2 hP hI hS => ?_)
  obtain ⟨hp_r2, hm9⟩ := hp_r2
  subst Mw1
  refine lv_aload_n hx hb dX4_steam_10 rfl (lv_at hl 0 rfl) ?_
  refine mx_callv (vx_runS (As := [.ref (ad 5 (ix p0))]) (rest := []) ⟨hx, hb, hml, hown, hts⟩ (c_X4_demandFilled l G A Mw hl9  h_I) (va_cwS 1 hts gX4_steam_X4_demandFilled rfl rfl rfl (by decide +kernel) ⟨Nat.le_of_ble_eq_true rfl, Nat.le_of_ble_eq_true rfl⟩) (mPreS hG hS hP hI hA) rfl rfl hl.1 rfl (lv_room (Nat.le_of_ble_eq_true rfl)) dX4_steam_11 ⟨Nat.le_of_ble_eq_true rfl, Nat.le_of_ble_eq_true rfl⟩) hS (fun E9 ce9 q9 H locs hpx9 hP hI hS hc9 hv9 hcl9 => m_out (px := fun E => exc ["java/lang/IndexOutOfBoundsException", "java/lang/IllegalArgumentException", "java/lang/UnsupportedOperationException", "java/util/NoSuchElementException"] (m_steam st p0 p1) E) (fun x hx9 => absurd hx9 (fun q => hxt x q)) hlocks hP hI hS hc9 hv9 hcl9 ((by obtain ⟨hE9, hn9⟩ := hpx9; subst hE9; exact exc_of (by unfold m_steam; first | (rw [chk_p hi9, chk_p hp_r2, chk_n hn9]; done) | (rw [chk_p hi9, chk_p hp_r2, chk_n hn9]; rfl)) rfl)) (Nat.le_of_ble_eq_true rfl) (Nat.le_of_ble_eq_true rfl)) (fun Mw1 H locs hp_r3 hP hI hS => ?_)
  obtain ⟨hp_r3, hm9⟩ := hp_r3
  subst Mw1
  refine lv_iload_n hx hb dX4_steam_14 rfl (lv_at hl 3 rfl) ?_
  refine m_calli (va_runS (As := [.int p1]) (rest := []) ⟨hx, hb, hml, hown, hts⟩ (c_X4_steamAt l G A Mw  p1) (va_cwS 1 hts gX4_steam_X4_steamAt rfl rfl rfl (by decide +kernel) ⟨Nat.le_of_ble_eq_true rfl, Nat.le_of_ble_eq_true rfl⟩) (mPreS hG hS hP hI hA) rfl rfl hl.1 rfl (lv_room (Nat.le_of_ble_eq_true rfl)) dX4_steam_15 ⟨Nat.le_of_ble_eq_true rfl, Nat.le_of_ble_eq_true rfl⟩) hS (fun r4 Mw1 H locs hp_r4 hP hI hS => ?_)
  obtain ⟨hp_r4, hm9⟩ := hp_r4
  subst Mw1
  subst hp_r4
  refine lv_istore (lv' := [(4, .int (sta p1)), (3, .ref (ad 5 (ix p0))), (0, .ref (ad 0 0)), (1, .int p0), (2, .int p1)]) hx hb dX4_steam_18 hl (by decide) rfl (fun ls hl => ?_)
  refine lv_aload_n hx hb dX4_steam_20 rfl (lv_at hl 1 rfl) ?_
  refine m_getN (ci := 3) (v := .ref (ad 6 (ix p0))) (C := RX0) (T := TX0) (N := 15) hx hb hts i_X0 hown hK (hP _ _ h_I) rfl 4 (by decide) (va_Nw.use rfl (hG.2.1.2.1 ("Meniscus", 173, "Meniscus$Instrument", "scale", "LMeniscus$Scale;", "Meniscus") (by decide +kernel))) (fun _ h9 => h9) rfl dX4_steam_21 ?_
  refine lv_aload_n hx hb dX4_steam_24 rfl (lv_at hl 2 rfl) ?_
  refine lv_aload_n hx hb dX4_steam_25 rfl (lv_at hl 1 rfl) ?_
  refine lv_iload hx hb dX4_steam_26 (lv_at hl 0 rfl) ?_
  refine lv_sipush (v := (200)) hx hb dX4_steam_28 (by decide) ?_
  refine mx_calli (vx_runV (As := [.ref (ad 5 (ix p0)), .int (sta p1), .int 200]) (rest := [.ref (ad 6 (ix p0))]) ⟨hx, hb, hml, hown, hts⟩ (c_X4_levelFound l G A Mw hl9  (sta p1) 200 h_X h_I h_T h_B) (cwV 3 hts gX4_steam_X4_levelFound rfl rfl rfl (by decide +kernel) ⟨Nat.le_of_ble_eq_true rfl, Nat.le_of_ble_eq_true rfl⟩) (mPreV hG hS hP hI hA (hP _ _ h_X) (r := (RX4, TX4, 9)) rfl) rfl rfl hl.1 rfl (lv_room (Nat.le_of_ble_eq_true rfl)) dX4_steam_31 ⟨Nat.le_of_ble_eq_true rfl, Nat.le_of_ble_eq_true rfl⟩) hS (fun E9 ce9 q9 H locs hpx9 hP hI hS hc9 hv9 hcl9 => m_out (px := fun E => exc ["java/lang/IndexOutOfBoundsException", "java/lang/IllegalArgumentException", "java/lang/UnsupportedOperationException", "java/util/NoSuchElementException"] (m_steam st p0 p1) E) (fun x hx9 => absurd hx9 (fun q => hxt x q)) hlocks hP hI hS hc9 hv9 hcl9 ((by obtain ⟨hE9, hn9⟩ := hpx9; subst hE9; exact exc_of (by unfold m_steam; first | (rw [chk_p hi9, chk_p hp_r2, chk_p hp_r3, chk_n (fun q9 => q9 (lvl_eq hn9))]; done) | (rw [chk_p hi9, chk_p hp_r2, chk_p hp_r3, chk_n (fun q9 => q9 (lvl_eq hn9))]; rfl)) rfl)) (Nat.le_of_ble_eq_true rfl) (Nat.le_of_ble_eq_true rfl)) (fun r5 Mw1 H locs hp_r5 hP hI hS => ?_)
  obtain ⟨⟨hl9, hq9⟩, hm9⟩ := hp_r5
  subst Mw1
  have hl8 := lvl_eq (s := st) (i := ix p0) (T := (sta p1)) (dip := 200) hl9
  have hq8 : ¬ lvl st (ix p0) (sta p1) 200 = -1 := by rw [hl8]; exact hq9
  refine lv_iload hx hb dX4_steam_34 (lv_at hl 0 rfl) ?_
  refine m_callv (va_runV (As := [.int r5, .int (sta p1)]) (rest := []) ⟨hx, hb, hml, hown, hts⟩ (c_X2_putSteam l G A Mw  r5 (sta p1) h_S) (cwV 2 hts gX4_steam_X2_putSteam rfl rfl rfl (by decide +kernel) ⟨Nat.le_of_ble_eq_true rfl, Nat.le_of_ble_eq_true rfl⟩) (mPreV hG hS hP hI hA (hP _ _ h_S) (r := (RX2, TX2, 5)) rfl) rfl rfl hl.1 rfl (lv_room (Nat.le_of_ble_eq_true rfl)) dX4_steam_36 ⟨Nat.le_of_ble_eq_true rfl, Nat.le_of_ble_eq_true rfl⟩) hS (fun Mw1 H locs hp_r6 hP hI hS => ?_)
  subst Mw1
  have h_X := mu_k (e := .inr (5, [.ref (ad 3 (tbN st (ix p0))), .int (itS st (ix p0) 12), .int r5, .int (sta p1), .int 32])) (kd_ne h_X h_S rfl) h_X
  have h_TA := mu_k (e := .inr (5, [.ref (ad 3 (tbN st (ix p0))), .int (itS st (ix p0) 12), .int r5, .int (sta p1), .int 32])) (kd_ne h_TA h_S rfl) h_TA
  have h_IA := mu_k (e := .inr (5, [.ref (ad 3 (tbN st (ix p0))), .int (itS st (ix p0) 12), .int r5, .int (sta p1), .int 32])) (kd_ne h_IA h_S rfl) h_IA
  have h_I := mu_k (e := .inr (5, [.ref (ad 3 (tbN st (ix p0))), .int (itS st (ix p0) 12), .int r5, .int (sta p1), .int 32])) (kd_ne h_I h_S rfl) h_I
  have h_R := mu_k (e := .inr (5, [.ref (ad 3 (tbN st (ix p0))), .int (itS st (ix p0) 12), .int r5, .int (sta p1), .int 32])) (kd_ne h_R h_S rfl) h_R
  have h_V := mu_k (e := .inr (5, [.ref (ad 3 (tbN st (ix p0))), .int (itS st (ix p0) 12), .int r5, .int (sta p1), .int 32])) (kd_ne h_V h_S rfl) h_V
  have h_E := mu_k (e := .inr (5, [.ref (ad 3 (tbN st (ix p0))), .int (itS st (ix p0) 12), .int r5, .int (sta p1), .int 32])) (kd_ne h_E h_S rfl) h_E
  have h_T := mu_k (e := .inr (5, [.ref (ad 3 (tbN st (ix p0))), .int (itS st (ix p0) 12), .int r5, .int (sta p1), .int 32])) (kd_ne h_T h_S rfl) h_T
  have h_B := mu_k (e := .inr (5, [.ref (ad 3 (tbN st (ix p0))), .int (itS st (ix p0) 12), .int r5, .int (sta p1), .int 32])) (kd_ne h_B h_S rfl) h_B
  have h_S : (mu Mw (ad 6 (ix p0)) (.inr (5, [.ref (ad 3 (tbN st (ix p0))), .int (itS st (ix p0) 12), .int r5, .int (sta p1), .int 32]))) (ad 6 (ix p0)) = some (.inr (5, [.ref (ad 3 (tbN st (ix p0))), .int (itS st (ix p0) 12), .int r5, .int (sta p1), .int 32])) := mu_s
  refine lv_iload hx hb dX4_steam_39 (lv_at hl 0 rfl) ?_
  refine W.widen (k := 4) (n := 24) (Nat.le_of_ble_eq_true rfl) (Nat.le_of_ble_eq_true rfl) ?_
  refine vx_ret ?_
  exact W.iret (v := sta p1) hx hb hr (fun t99 ht99 hW99 => ⟨⟨sta p1, (mu Mw (ad 6 (ix p0)) (.inr (5, [.ref (ad 3 (tbN st (ix p0))), .int (itS st (ix p0) 12), .int r5, .int (sta p1), .int 32]))), rfl, ⟨sIt st (ix p0) (fu (fu (fu (itS st (ix p0)) 13 r5) 14 (sta p1)) 15 32), ad, by unfold m_steam; first | (rw [chk_p hi9, chk_p hp_r2, chk_p hp_r3, chk_p hq8, hl8]; done) | (rw [chk_p hi9, chk_p hp_r2, chk_p hp_r3, chk_p hq8, hl8]; rfl), hC.sit6 hi9.2 (fu (fu (fu (itS st (ix p0)) 13 r5) 14 (sta p1)) 15 32) (fun f hf => by rw [fu_n (by omega), fu_n (by omega), fu_n (by omega)]), rfl⟩, by rw [ht99]; exact hP, hI⟩, hS.F ht99⟩) hS.2.2 dX4_steam_41

set_option maxHeartbeats 4000000 in
set_option maxRecDepth 100000 in
theorem c_X4_divide (l : Launch) (G : mg) (A : Nat → Prop) (Mw : mw) (hl9 : l.stackTraces = false) (st : St) (ad : adr) (p0 p1 : Int32) (hC : CS G st ad Mw) (hV : Inv st) : vx_Met l yX4_divide wsX4_divide ({ frames := 7, cells := 4, slots := 24, locals := 104 }) (va_Pc [.ref (ad 0 0), .int p0, .int p1] (mB G A Mw)) (va_Qi (fun r Mw1 => ∃ (s1 : St) (ad1 : adr), m_divide st p0 p1 = (0, r, s1) ∧ CS G s1 ad1 Mw1 ∧ ad1 0 0 = ad 0 0) (mE G A) A) (xX (fun E => exc ["java/lang/IndexOutOfBoundsException", "java/lang/IllegalArgumentException", "java/lang/UnsupportedOperationException"] (m_divide st p0 p1) E) G A Mw) 4 24 A := by
  refine vx_ofW (cc := cX4_divide) (maxL := 4) (ret := (some .int)) (by decide) rfl ?_
  intro p e s m args below meth c s₁ B hml hxt hv
  obtain ⟨rfl, hG, hP, hI, hA⟩ := hv
  have hx := B.exec
  have hb := B.bytes
  have hr := B.returns
  have hts := atoms_spec (ws := wsX4_divide) B.pre
  have hown : s.vm.findClass RX4 = some m.cls := findClass_of_methodNamed B.named
  have hlocks := B.notSynchronized
  have hK := hG.K
  have i_X0 : ∀ w ∈ wsX00, w ∈ wsX4_divide := by decide +kernel
  have i_X2 : ∀ w ∈ wsX20, w ∈ wsX4_divide := by decide +kernel
  have hS : va_S A s.heap s.heap [] := va_S.rf
  have hl := lv_entry ([.ref (ad 0 0), .int p0, .int p1]) (n := 4) (Nat.le_of_ble_eq_true rfl)
  rw [lg_entry_eq]
  generalize (lg_sl ([.ref (ad 0 0), .int p0, .int p1]) ++ List.replicate (4 - (lg_sl ([.ref (ad 0 0), .int p0, .int p1])).length) Slot.unset).toArray = ls at hl ⊢
  have hl : lv_has ls 4 [(0, .ref (ad 0 0)), (1, .int p0), (2, .int p1)] := hl
  have hP : mP G.1 Mw s.heap := hP
  have h_X : Mw (ad 0 0) = some (.inr (7, [.ref (ad 1 0), .ref (ad 2 0), .int (nI (nT st)), .int (nI (nN st)), .int (gS st 0), .int (gS st 1), .int (gS st 2), .int (gS st 3), .int (gS st 4)])) := hC.1 0 0 (ok0 st)
  have h_TA : Mw (ad 1 0) = some (.inl (G.2.1 3, 8, .inr (.inr (.inr (.inr (qf (nT st) (ad 3))))))) := hC.1 1 0 (ok1 st)
  have h_IA : Mw (ad 2 0) = some (.inl (G.2.1 4, 6, .inr (.inr (.inr (.inr (qf (nN st) (ad 5))))))) := hC.1 2 0 (ok2 st)
  have hta9 := hC.ne (ok1 st) (ok2 st) (by omega)
  refine lv_aload_n hx hb dX4_divide_0 rfl (lv_at hl 0 rfl) ?_
  refine lv_iload_n hx hb dX4_divide_1 rfl (lv_at hl 1 rfl) ?_
  refine mx_callq (vx_runV (As := [.int p0]) (rest := []) ⟨hx, hb, hml, hown, hts⟩ (c_X4_instrumentNumbered l G A Mw hl9  p0 h_X hV.1.2 h_IA) (cwV 1 hts gX4_divide_X4_instrumentNumbered rfl rfl rfl (by decide +kernel) ⟨Nat.le_of_ble_eq_true rfl, Nat.le_of_ble_eq_true rfl⟩) (mPreV hG hS hP hI hA (hP _ _ h_X) (r := (RX4, TX4, 9)) rfl) rfl rfl hl.1 rfl (lv_room (Nat.le_of_ble_eq_true rfl)) dX4_divide_2 ⟨Nat.le_of_ble_eq_true rfl, Nat.le_of_ble_eq_true rfl⟩) hS (fun E9 ce9 q9 H locs hpx9 hP hI hS hc9 hv9 hcl9 => m_out (px := fun E => exc ["java/lang/IndexOutOfBoundsException", "java/lang/IllegalArgumentException", "java/lang/UnsupportedOperationException"] (m_divide st p0 p1) E) (fun x hx9 => absurd hx9 (fun q => hxt x q)) hlocks hP hI hS hc9 hv9 hcl9 ((by obtain ⟨hE9, hn9⟩ := hpx9; subst hE9; exact exc_of (by unfold m_divide; first | (rw [chk_n hn9]; done) | (rw [chk_n hn9]; rfl)) rfl)) (Nat.le_of_ble_eq_true rfl) (Nat.le_of_ble_eq_true rfl)) (fun r1 Mw1 H locs hp_r1 hP hI hS => ?_)
  obtain ⟨⟨hi9, hr9⟩, hm9⟩ := hp_r1
  subst Mw1
  subst hr9
  have hT9 := hV.tb hi9.2
  have hn9 := hV.rn hi9.2
  have hve := hC.ne (ok8 hi9.2) (ok9 hi9.2) (by omega)
  have hvb := hC.ne (ok8 hi9.2) (ok4 hT9) (by omega)
  have heb := hC.ne (ok9 hi9.2) (ok4 hT9) (by omega)
  have h_I : Mw (ad 5 (ix p0)) = some (.inr (3, [.int (itS st (ix p0) 0), .ref (ad 3 (tbN st (ix p0))), .int (itS st (ix p0) 1), .int (itS st (ix p0) 2), .ref (ad 6 (ix p0)), .ref (ad 7 (ix p0)), .int (itS st (ix p0) 3), .int (itS st (ix p0) 4), .int (itS st (ix p0) 5), .int (itS st (ix p0) 6), .int (itS st (ix p0) 7), .int (itS st (ix p0) 8), .int (itS st (ix p0) 9), .int (itS st (ix p0) 10), .int (itS st (ix p0) 11)])) := hC.1 5 _ (ok5 hi9.2)
  have h_S : Mw (ad 6 (ix p0)) = some (.inr (5, [.ref (ad 3 (tbN st (ix p0))), .int (itS st (ix p0) 12), .int (itS st (ix p0) 13), .int (itS st (ix p0) 14), .int (itS st (ix p0) 15)])) := hC.1 6 _ (ok6 hi9.2)
  have h_R : Mw (ad 7 (ix p0)) = some (.inr (4, [.ref (ad 8 (ix p0)), .ref (ad 9 (ix p0)), .int (nI (rnS st (ix p0)))])) := hC.1 7 _ (ok7 hi9.2)
  have h_V : Mw (ad 8 (ix p0)) = some (.inl (G.2.1 0, 8, .inl (rvS st (ix p0)))) := hC.1 8 _ (ok8 hi9.2)
  have h_E : Mw (ad 9 (ix p0)) = some (.inl (G.2.1 0, 8, .inl (reS st (ix p0)))) := hC.1 9 _ (ok9 hi9.2)
  have h_T : Mw (ad 3 (tbN st (ix p0))) = some (.inr (6, [.ref (ad 4 (tbN st (ix p0))), .int (usS st (tbN st (ix p0)))])) := hC.1 3 _ (ok3 hT9)
  have h_B : Mw (ad 4 (tbN st (ix p0))) = some (.inl (G.2.1 0, 20, .inl (boS st (tbN st (ix p0))))) := hC.1 4 _ (ok4 hT9)
  refine lv_astore_n (lv' := [(3, .ref (ad 5 (ix p0))), (0, .ref (ad 0 0)), (1, .int p0), (2, .int p1)]) hx hb dX4_divide_5 rfl hl (by decide) rfl (fun ls hl => ?_)
  refine lv_iload_n hx hb dX4_divide_6 rfl (lv_at hl 3 rfl) ?_
  refine lv_bipush (v := (108)) hx hb dX4_divide_7 (by decide) ?_
  refine lv_bipush (v := (118)) hx hb dX4_divide_9 (by decide) ?_
  refine mx_callv (vx_runS (As := [.int p1, .int 108, .int 118]) (rest := []) ⟨hx, hb, hml, hown, hts⟩ (c_X4_demandEither l G A Mw hl9  p1 108 118) (va_cwS 3 hts gX4_divide_X4_demandEither rfl rfl rfl (by decide +kernel) ⟨Nat.le_of_ble_eq_true rfl, Nat.le_of_ble_eq_true rfl⟩) (mPreS hG hS hP hI hA) rfl rfl hl.1 rfl (lv_room (Nat.le_of_ble_eq_true rfl)) dX4_divide_11 ⟨Nat.le_of_ble_eq_true rfl, Nat.le_of_ble_eq_true rfl⟩) hS (fun E9 ce9 q9 H locs hpx9 hP hI hS hc9 hv9 hcl9 => m_out (px := fun E => exc ["java/lang/IndexOutOfBoundsException", "java/lang/IllegalArgumentException", "java/lang/UnsupportedOperationException"] (m_divide st p0 p1) E) (fun x hx9 => absurd hx9 (fun q => hxt x q)) hlocks hP hI hS hc9 hv9 hcl9 ((by obtain ⟨hE9, hn9⟩ := hpx9; subst hE9; exact exc_of (by unfold m_divide; first | (rw [chk_p hi9, chk_n hn9]; done) | (rw [chk_p hi9, chk_n hn9]; rfl)) rfl)) (Nat.le_of_ble_eq_true rfl) (Nat.le_of_ble_eq_true rfl)) (fun Mw1 H locs hp_r2 hP hI hS => ?_)
  obtain ⟨hp_r2, hm9⟩ := hp_r2
  subst Mw1
  refine lv_aload_n hx hb dX4_divide_14 rfl (lv_at hl 0 rfl) ?_
  refine mx_callv (vx_runS (As := [.ref (ad 5 (ix p0))]) (rest := []) ⟨hx, hb, hml, hown, hts⟩ (c_X4_demandFilled l G A Mw hl9  h_I) (va_cwS 1 hts gX4_divide_X4_demandFilled rfl rfl rfl (by decide +kernel) ⟨Nat.le_of_ble_eq_true rfl, Nat.le_of_ble_eq_true rfl⟩) (mPreS hG hS hP hI hA) rfl rfl hl.1 rfl (lv_room (Nat.le_of_ble_eq_true rfl)) dX4_divide_15 ⟨Nat.le_of_ble_eq_true rfl, Nat.le_of_ble_eq_true rfl⟩) hS (fun E9 ce9 q9 H locs hpx9 hP hI hS hc9 hv9 hcl9 => m_out (px := fun E => exc ["java/lang/IndexOutOfBoundsException", "java/lang/IllegalArgumentException", "java/lang/UnsupportedOperationException"] (m_divide st p0 p1) E) (fun x hx9 => absurd hx9 (fun q => hxt x q)) hlocks hP hI hS hc9 hv9 hcl9 ((by obtain ⟨hE9, hn9⟩ := hpx9; subst hE9; exact exc_of (by unfold m_divide; first | (rw [chk_p hi9, chk_p hp_r2, chk_n hn9]; done) | (rw [chk_p hi9, chk_p hp_r2, chk_n hn9]; rfl)) rfl)) (Nat.le_of_ble_eq_true rfl) (Nat.le_of_ble_eq_true rfl)) (fun Mw1 H locs hp_r3 hP hI hS => ?_)
  obtain ⟨hp_r3, hm9⟩ := hp_r3
  subst Mw1
  refine lv_aload_n hx hb dX4_divide_18 rfl (lv_at hl 0 rfl) ?_
  refine m_getN (ci := 3) (v := .ref (ad 6 (ix p0))) (C := RX0) (T := TX0) (N := 15) hx hb hts i_X0 hown hK (hP _ _ h_I) rfl 4 (by decide) (va_Nw.use rfl (hG.2.1.2.1 ("Meniscus", 173, "Meniscus$Instrument", "scale", "LMeniscus$Scale;", "Meniscus") (by decide +kernel))) (fun _ h9 => h9) rfl dX4_divide_19 ?_
  refine m_calli (va_runV (As := []) (rest := []) ⟨hx, hb, hml, hown, hts⟩ (c_X2_hasUnlikePoints l G A Mw  h_S) (cwV 0 hts gX4_divide_X2_hasUnlikePoints rfl rfl rfl (by decide +kernel) ⟨Nat.le_of_ble_eq_true rfl, Nat.le_of_ble_eq_true rfl⟩) (mPreV hG hS hP hI hA (hP _ _ h_S) (r := (RX2, TX2, 5)) rfl) rfl rfl hl.1 rfl (lv_room (Nat.le_of_ble_eq_true rfl)) dX4_divide_22 ⟨Nat.le_of_ble_eq_true rfl, Nat.le_of_ble_eq_true rfl⟩) hS (fun r4 Mw1 H locs hp_r4 hP hI hS => ?_)
  obtain ⟨hp_r4, hm9⟩ := hp_r4
  subst Mw1
  refine lv_if_ne (tgt := 38) hx hb dX4_divide_25 (by decide) (fun c5 => ?_) (fun c5 => ?_)
  · skip
    have hu9 : ¬ unl (itS st (ix p0) 12) (itS st (ix p0) 13) = 0 := by rw [← hp_r4]; exact c5
    refine lv_aload_n hx hb dX4_divide_38 rfl (lv_at hl 0 rfl) ?_
    refine m_getN (ci := 3) (v := .ref (ad 6 (ix p0))) (C := RX0) (T := TX0) (N := 15) hx hb hts i_X0 hown hK (hP _ _ h_I) rfl 4 (by decide) (va_Nw.use rfl (hG.2.1.2.1 ("Meniscus", 173, "Meniscus$Instrument", "scale", "LMeniscus$Scale;", "Meniscus") (by decide +kernel))) (fun _ h9 => h9) rfl dX4_divide_39 ?_
    refine lv_iload_n hx hb dX4_divide_42 rfl (lv_at hl 3 rfl) ?_
    refine m_putN (ci := 5) (v := .int p1) (ty := .char) (C := RX2) (T := TX2) (N := 5) hx hb hts i_X2 tyX2 tyX2_ok nmX2 hown hK hP hI hS h_S rfl 4 (by decide) (va_Nw.use rfl (hG.2.1.2.1 ("Meniscus", 197, "Meniscus$Scale", "kind", "C", "Meniscus") (by decide +kernel))) (fun _ h9 => h9) rfl (by decide +kernel) (nch hp_r2 ⟨rfl, rfl⟩ ⟨rfl, rfl⟩).1 (nch hp_r2 ⟨rfl, rfl⟩ ⟨rfl, rfl⟩).2 (Nat.le_of_ble_eq_true rfl) dX4_divide_43 (fun H locs hP hI hS => ?_)
    have hP : mP G.1 (mu Mw (ad 6 (ix p0)) (.inr (5, [.ref (ad 3 (tbN st (ix p0))), .int (itS st (ix p0) 12), .int (itS st (ix p0) 13), .int (itS st (ix p0) 14), .int p1]))) H := hP
    have hI : mI A (mu Mw (ad 6 (ix p0)) (.inr (5, [.ref (ad 3 (tbN st (ix p0))), .int (itS st (ix p0) 12), .int (itS st (ix p0) 13), .int (itS st (ix p0) 14), .int p1]))) := hI
    have h_X := mu_k (e := .inr (5, [.ref (ad 3 (tbN st (ix p0))), .int (itS st (ix p0) 12), .int (itS st (ix p0) 13), .int (itS st (ix p0) 14), .int p1])) (kd_ne h_X h_S rfl) h_X
    have h_TA := mu_k (e := .inr (5, [.ref (ad 3 (tbN st (ix p0))), .int (itS st (ix p0) 12), .int (itS st (ix p0) 13), .int (itS st (ix p0) 14), .int p1])) (kd_ne h_TA h_S rfl) h_TA
    have h_IA := mu_k (e := .inr (5, [.ref (ad 3 (tbN st (ix p0))), .int (itS st (ix p0) 12), .int (itS st (ix p0) 13), .int (itS st (ix p0) 14), .int p1])) (kd_ne h_IA h_S rfl) h_IA
    have h_I := mu_k (e := .inr (5, [.ref (ad 3 (tbN st (ix p0))), .int (itS st (ix p0) 12), .int (itS st (ix p0) 13), .int (itS st (ix p0) 14), .int p1])) (kd_ne h_I h_S rfl) h_I
    have h_R := mu_k (e := .inr (5, [.ref (ad 3 (tbN st (ix p0))), .int (itS st (ix p0) 12), .int (itS st (ix p0) 13), .int (itS st (ix p0) 14), .int p1])) (kd_ne h_R h_S rfl) h_R
    have h_V := mu_k (e := .inr (5, [.ref (ad 3 (tbN st (ix p0))), .int (itS st (ix p0) 12), .int (itS st (ix p0) 13), .int (itS st (ix p0) 14), .int p1])) (kd_ne h_V h_S rfl) h_V
    have h_E := mu_k (e := .inr (5, [.ref (ad 3 (tbN st (ix p0))), .int (itS st (ix p0) 12), .int (itS st (ix p0) 13), .int (itS st (ix p0) 14), .int p1])) (kd_ne h_E h_S rfl) h_E
    have h_T := mu_k (e := .inr (5, [.ref (ad 3 (tbN st (ix p0))), .int (itS st (ix p0) 12), .int (itS st (ix p0) 13), .int (itS st (ix p0) 14), .int p1])) (kd_ne h_T h_S rfl) h_T
    have h_B := mu_k (e := .inr (5, [.ref (ad 3 (tbN st (ix p0))), .int (itS st (ix p0) 12), .int (itS st (ix p0) 13), .int (itS st (ix p0) 14), .int p1])) (kd_ne h_B h_S rfl) h_B
    have h_S : (mu Mw (ad 6 (ix p0)) (.inr (5, [.ref (ad 3 (tbN st (ix p0))), .int (itS st (ix p0) 12), .int (itS st (ix p0) 13), .int (itS st (ix p0) 14), .int p1]))) (ad 6 (ix p0)) = some (.inr (5, [.ref (ad 3 (tbN st (ix p0))), .int (itS st (ix p0) 12), .int (itS st (ix p0) 13), .int (itS st (ix p0) 14), .int p1])) := mu_s
    refine lv_aload_n hx hb dX4_divide_46 rfl (lv_at hl 0 rfl) ?_
    refine m_getN (ci := 3) (v := .ref (ad 6 (ix p0))) (C := RX0) (T := TX0) (N := 15) hx hb hts i_X0 hown hK (hP _ _ h_I) rfl 4 (by decide) (va_Nw.use rfl (hG.2.1.2.1 ("Meniscus", 173, "Meniscus$Instrument", "scale", "LMeniscus$Scale;", "Meniscus") (by decide +kernel))) (fun _ h9 => h9) rfl dX4_divide_47 ?_
    refine m_calli (va_runV (As := []) (rest := []) ⟨hx, hb, hml, hown, hts⟩ (c_X2_placesBetween l G A (mu Mw (ad 6 (ix p0)) (.inr (5, [.ref (ad 3 (tbN st (ix p0))), .int (itS st (ix p0) 12), .int (itS st (ix p0) 13), .int (itS st (ix p0) 14), .int p1])))  h_S) (cwV 0 hts gX4_divide_X2_placesBetween rfl rfl rfl (by decide +kernel) ⟨Nat.le_of_ble_eq_true rfl, Nat.le_of_ble_eq_true rfl⟩) (mPreV hG hS hP hI hA (hP _ _ h_S) (r := (RX2, TX2, 5)) rfl) rfl rfl hl.1 rfl (lv_room (Nat.le_of_ble_eq_true rfl)) dX4_divide_50 ⟨Nat.le_of_ble_eq_true rfl, Nat.le_of_ble_eq_true rfl⟩) hS (fun r6 Mw1 H locs hp_r6 hP hI hS => ?_)
    obtain ⟨hp_r6, hm9⟩ := hp_r6
    subst Mw1
    refine W.widen (k := 4) (n := 24) (Nat.le_of_ble_eq_true rfl) (Nat.le_of_ble_eq_true rfl) ?_
    refine vx_ret ?_
    exact W.iret (v := r6) hx hb hr (fun t99 ht99 hW99 => ⟨⟨r6, (mu Mw (ad 6 (ix p0)) (.inr (5, [.ref (ad 3 (tbN st (ix p0))), .int (itS st (ix p0) 12), .int (itS st (ix p0) 13), .int (itS st (ix p0) 14), .int p1]))), rfl, ⟨sIt st (ix p0) (fu (itS st (ix p0)) 15 p1), ad, by unfold m_divide; first | (rw [chk_p hi9, chk_p hp_r2, chk_p hp_r3, chk_p hu9, show itS st (ix p0) 13 - itS st (ix p0) 12 = r6 from hp_r6.symm]; done) | (rw [chk_p hi9, chk_p hp_r2, chk_p hp_r3, chk_p hu9, show itS st (ix p0) 13 - itS st (ix p0) 12 = r6 from hp_r6.symm]; rfl), hC.sit6 hi9.2 (fu (itS st (ix p0)) 15 p1) (fun f hf => by rw [fu_n (by omega)]), rfl⟩, by rw [ht99]; exact hP, hI⟩, hS.F ht99⟩) hS.2.2 dX4_divide_53
  · skip
    obtain ⟨sa9, hsa9⟩ := hG.2.1.2.2.2.2.2.1 (195, "it has not two unlike points") (by decide +kernel)
    exact vx_throwS (text := "it has not two unlike points") (names := ["java/lang/RuntimeException", "java/lang/Exception"]) hx hb hl9 hown (by decide +kernel) (by decide +kernel) (hts (.classLink RX4 122 "java/lang/UnsupportedOperationException") (by decide +kernel)) (hts (.initialized "java/lang/UnsupportedOperationException") (by decide +kernel)) hsa9 (m_hat hG (fun w h => hts w (List.mem_cons_of_mem _ (List.mem_append_left _ (List.mem_append_left _ (List.mem_append_right _ h))))) (by decide +kernel) (by decide +kernel)) (by decide +kernel) hG.2.2.1 hG.2.2.2.1 hS (hl.1.trans hml.symm) dX4_divide_28 dX4_divide_31 dX4_divide_32 dX4_divide_34 dX4_divide_37 (fun x hx9 => absurd hx9 (fun q => hxt x q)) (Nat.le_of_ble_eq_true rfl) (Nat.le_of_ble_eq_true rfl) (Nat.le_of_ble_eq_true rfl) (Nat.le_of_ble_eq_true rfl) hlocks (fun t9 _ h92 h93 => m_thrown (px := fun E => exc ["java/lang/IndexOutOfBoundsException", "java/lang/IllegalArgumentException", "java/lang/UnsupportedOperationException"] (m_divide st p0 p1) E) (E := "java/lang/UnsupportedOperationException") hP hI hS (exc_of (by unfold m_divide; first | (rw [chk_p hi9, chk_p hp_r2, chk_p hp_r3, chk_n (fun q9 => q9 (by rw [← hp_r4]; exact c5))]; done) | (rw [chk_p hi9, chk_p hp_r2, chk_p hp_r3, chk_n (fun q9 => q9 (by rw [← hp_r4]; exact c5))]; rfl)) rfl) t9 h92 h93) hS.2.2 (Nat.le_of_ble_eq_true rfl) (Nat.le_of_ble_eq_true rfl)

set_option maxHeartbeats 4000000 in
set_option maxRecDepth 100000 in
theorem c_X4_bath (l : Launch) (G : mg) (A : Nat → Prop) (Mw : mw) (hl9 : l.stackTraces = false) (st : St) (ad : adr) (p0 p1 p2 : Int32) (hC : CS G st ad Mw) (hV : Inv st) : vx_Met l yX4_bath wsX4_bath ({ frames := 8, cells := 6, slots := 36, locals := 140 }) (va_Pc [.ref (ad 0 0), .int p0, .int p1, .int p2] (mB G A Mw)) (va_Qi (fun r Mw1 => ∃ (s1 : St) (ad1 : adr), m_bath st p0 p1 p2 = (0, r, s1) ∧ CS G s1 ad1 Mw1 ∧ ad1 0 0 = ad 0 0) (mE G A) A) (xX (fun E => exc ["java/lang/IndexOutOfBoundsException", "java/lang/IllegalArgumentException", "java/lang/UnsupportedOperationException", "java/util/NoSuchElementException"] (m_bath st p0 p1 p2) E) G A Mw) 6 36 A := by
  refine vx_ofW (cc := cX4_bath) (maxL := 5) (ret := (some .int)) (by decide) rfl ?_
  intro p e s m args below meth c s₁ B hml hxt hv
  obtain ⟨rfl, hG, hP, hI, hA⟩ := hv
  have hx := B.exec
  have hb := B.bytes
  have hr := B.returns
  have hts := atoms_spec (ws := wsX4_bath) B.pre
  have hown : s.vm.findClass RX4 = some m.cls := findClass_of_methodNamed B.named
  have hlocks := B.notSynchronized
  have hK := hG.K
  have hS : va_S A s.heap s.heap [] := va_S.rf
  have hl := lv_entry ([.ref (ad 0 0), .int p0, .int p1, .int p2]) (n := 5) (Nat.le_of_ble_eq_true rfl)
  rw [lg_entry_eq]
  generalize (lg_sl ([.ref (ad 0 0), .int p0, .int p1, .int p2]) ++ List.replicate (5 - (lg_sl ([.ref (ad 0 0), .int p0, .int p1, .int p2])).length) Slot.unset).toArray = ls at hl ⊢
  have hl : lv_has ls 5 [(0, .ref (ad 0 0)), (1, .int p0), (2, .int p1), (3, .int p2)] := hl
  have hP : mP G.1 Mw s.heap := hP
  have h_X : Mw (ad 0 0) = some (.inr (7, [.ref (ad 1 0), .ref (ad 2 0), .int (nI (nT st)), .int (nI (nN st)), .int (gS st 0), .int (gS st 1), .int (gS st 2), .int (gS st 3), .int (gS st 4)])) := hC.1 0 0 (ok0 st)
  have h_TA : Mw (ad 1 0) = some (.inl (G.2.1 3, 8, .inr (.inr (.inr (.inr (qf (nT st) (ad 3))))))) := hC.1 1 0 (ok1 st)
  have h_IA : Mw (ad 2 0) = some (.inl (G.2.1 4, 6, .inr (.inr (.inr (.inr (qf (nN st) (ad 5))))))) := hC.1 2 0 (ok2 st)
  have hta9 := hC.ne (ok1 st) (ok2 st) (by omega)
  refine lv_aload_n hx hb dX4_bath_0 rfl (lv_at hl 0 rfl) ?_
  refine lv_iload_n hx hb dX4_bath_1 rfl (lv_at hl 1 rfl) ?_
  refine mx_callq (vx_runV (As := [.int p0]) (rest := []) ⟨hx, hb, hml, hown, hts⟩ (c_X4_instrumentNumbered l G A Mw hl9  p0 h_X hV.1.2 h_IA) (cwV 1 hts gX4_bath_X4_instrumentNumbered rfl rfl rfl (by decide +kernel) ⟨Nat.le_of_ble_eq_true rfl, Nat.le_of_ble_eq_true rfl⟩) (mPreV hG hS hP hI hA (hP _ _ h_X) (r := (RX4, TX4, 9)) rfl) rfl rfl hl.1 rfl (lv_room (Nat.le_of_ble_eq_true rfl)) dX4_bath_2 ⟨Nat.le_of_ble_eq_true rfl, Nat.le_of_ble_eq_true rfl⟩) hS (fun E9 ce9 q9 H locs hpx9 hP hI hS hc9 hv9 hcl9 => m_out (px := fun E => exc ["java/lang/IndexOutOfBoundsException", "java/lang/IllegalArgumentException", "java/lang/UnsupportedOperationException", "java/util/NoSuchElementException"] (m_bath st p0 p1 p2) E) (fun x hx9 => absurd hx9 (fun q => hxt x q)) hlocks hP hI hS hc9 hv9 hcl9 ((by obtain ⟨hE9, hn9⟩ := hpx9; subst hE9; exact exc_of (by unfold m_bath; first | (rw [chk_n hn9]; done) | (rw [chk_n hn9]; rfl)) rfl)) (Nat.le_of_ble_eq_true rfl) (Nat.le_of_ble_eq_true rfl)) (fun r1 Mw1 H locs hp_r1 hP hI hS => ?_)
  obtain ⟨⟨hi9, hr9⟩, hm9⟩ := hp_r1
  subst Mw1
  subst hr9
  have hT9 := hV.tb hi9.2
  have hn9 := hV.rn hi9.2
  have hve := hC.ne (ok8 hi9.2) (ok9 hi9.2) (by omega)
  have hvb := hC.ne (ok8 hi9.2) (ok4 hT9) (by omega)
  have heb := hC.ne (ok9 hi9.2) (ok4 hT9) (by omega)
  have h_I : Mw (ad 5 (ix p0)) = some (.inr (3, [.int (itS st (ix p0) 0), .ref (ad 3 (tbN st (ix p0))), .int (itS st (ix p0) 1), .int (itS st (ix p0) 2), .ref (ad 6 (ix p0)), .ref (ad 7 (ix p0)), .int (itS st (ix p0) 3), .int (itS st (ix p0) 4), .int (itS st (ix p0) 5), .int (itS st (ix p0) 6), .int (itS st (ix p0) 7), .int (itS st (ix p0) 8), .int (itS st (ix p0) 9), .int (itS st (ix p0) 10), .int (itS st (ix p0) 11)])) := hC.1 5 _ (ok5 hi9.2)
  have h_S : Mw (ad 6 (ix p0)) = some (.inr (5, [.ref (ad 3 (tbN st (ix p0))), .int (itS st (ix p0) 12), .int (itS st (ix p0) 13), .int (itS st (ix p0) 14), .int (itS st (ix p0) 15)])) := hC.1 6 _ (ok6 hi9.2)
  have h_R : Mw (ad 7 (ix p0)) = some (.inr (4, [.ref (ad 8 (ix p0)), .ref (ad 9 (ix p0)), .int (nI (rnS st (ix p0)))])) := hC.1 7 _ (ok7 hi9.2)
  have h_V : Mw (ad 8 (ix p0)) = some (.inl (G.2.1 0, 8, .inl (rvS st (ix p0)))) := hC.1 8 _ (ok8 hi9.2)
  have h_E : Mw (ad 9 (ix p0)) = some (.inl (G.2.1 0, 8, .inl (reS st (ix p0)))) := hC.1 9 _ (ok9 hi9.2)
  have h_T : Mw (ad 3 (tbN st (ix p0))) = some (.inr (6, [.ref (ad 4 (tbN st (ix p0))), .int (usS st (tbN st (ix p0)))])) := hC.1 3 _ (ok3 hT9)
  have h_B : Mw (ad 4 (tbN st (ix p0))) = some (.inl (G.2.1 0, 20, .inl (boS st (tbN st (ix p0))))) := hC.1 4 _ (ok4 hT9)
  refine lv_astore (lv' := [(4, .ref (ad 5 (ix p0))), (0, .ref (ad 0 0)), (1, .int p0), (2, .int p1), (3, .int p2)]) hx hb dX4_bath_5 hl (by decide) rfl (fun ls hl => ?_)
  refine lv_iload_n hx hb dX4_bath_7 rfl (lv_at hl 3 rfl) ?_
  refine mx_callv (vx_runS (As := [.int p1]) (rest := []) ⟨hx, hb, hml, hown, hts⟩ (c_X4_demandTemperature l G A Mw hl9  p1) (va_cwS 1 hts gX4_bath_X4_demandTemperature rfl rfl rfl (by decide +kernel) ⟨Nat.le_of_ble_eq_true rfl, Nat.le_of_ble_eq_true rfl⟩) (mPreS hG hS hP hI hA) rfl rfl hl.1 rfl (lv_room (Nat.le_of_ble_eq_true rfl)) dX4_bath_8 ⟨Nat.le_of_ble_eq_true rfl, Nat.le_of_ble_eq_true rfl⟩) hS (fun E9 ce9 q9 H locs hpx9 hP hI hS hc9 hv9 hcl9 => m_out (px := fun E => exc ["java/lang/IndexOutOfBoundsException", "java/lang/IllegalArgumentException", "java/lang/UnsupportedOperationException", "java/util/NoSuchElementException"] (m_bath st p0 p1 p2) E) (fun x hx9 => absurd hx9 (fun q => hxt x q)) hlocks hP hI hS hc9 hv9 hcl9 ((by obtain ⟨hE9, hn9⟩ := hpx9; subst hE9; exact exc_of (by unfold m_bath; first | (rw [chk_p hi9, chk_n hn9]; done) | (rw [chk_p hi9, chk_n hn9]; rfl)) rfl)) (Nat.le_of_ble_eq_true rfl) (Nat.le_of_ble_eq_true rfl)) (fun Mw1 H locs hp_r2 hP hI hS => ?_)
  obtain ⟨hp_r2, hm9⟩ := hp_r2
  subst Mw1
  refine lv_iload_n hx hb dX4_bath_11 rfl (lv_at hl 4 rfl) ?_
  refine mx_callv (vx_runS (As := [.int p2]) (rest := []) ⟨hx, hb, hml, hown, hts⟩ (c_X4_demandPlace l G A Mw hl9  p2) (va_cwS 1 hts gX4_bath_X4_demandPlace rfl rfl rfl (by decide +kernel) ⟨Nat.le_of_ble_eq_true rfl, Nat.le_of_ble_eq_true rfl⟩) (mPreS hG hS hP hI hA) rfl rfl hl.1 rfl (lv_room (Nat.le_of_ble_eq_true rfl)) dX4_bath_12 ⟨Nat.le_of_ble_eq_true rfl, Nat.le_of_ble_eq_true rfl⟩) hS (fun E9 ce9 q9 H locs hpx9 hP hI hS hc9 hv9 hcl9 => m_out (px := fun E => exc ["java/lang/IndexOutOfBoundsException", "java/lang/IllegalArgumentException", "java/lang/UnsupportedOperationException", "java/util/NoSuchElementException"] (m_bath st p0 p1 p2) E) (fun x hx9 => absurd hx9 (fun q => hxt x q)) hlocks hP hI hS hc9 hv9 hcl9 ((by obtain ⟨hE9, hn9⟩ := hpx9; subst hE9; exact exc_of (by unfold m_bath; first | (rw [chk_p hi9, chk_p hp_r2, chk_n hn9]; done) | (rw [chk_p hi9, chk_p hp_r2, chk_n hn9]; rfl)) rfl)) (Nat.le_of_ble_eq_true rfl) (Nat.le_of_ble_eq_true rfl)) (fun Mw1 H locs hp_r3 hP hI hS => ?_)
  obtain ⟨hp_r3, hm9⟩ := hp_r3
  subst Mw1
  refine lv_aload hx hb dX4_bath_15 (lv_at hl 0 rfl) ?_
  refine mx_callv (vx_runS (As := [.ref (ad 5 (ix p0))]) (rest := []) ⟨hx, hb, hml, hown, hts⟩ (c_X4_demandFilled l G A Mw hl9  h_I) (va_cwS 1 hts gX4_bath_X4_demandFilled rfl rfl rfl (by decide +kernel) ⟨Nat.le_of_ble_eq_true rfl, Nat.le_of_ble_eq_true rfl⟩) (mPreS hG hS hP hI hA) rfl rfl hl.1 rfl (lv_room (Nat.le_of_ble_eq_true rfl)) dX4_bath_17 ⟨Nat.le_of_ble_eq_true rfl, Nat.le_of_ble_eq_true rfl⟩) hS (fun E9 ce9 q9 H locs hpx9 hP hI hS hc9 hv9 hcl9 => m_out (px := fun E => exc ["java/lang/IndexOutOfBoundsException", "java/lang/IllegalArgumentException", "java/lang/UnsupportedOperationException", "java/util/NoSuchElementException"] (m_bath st p0 p1 p2) E) (fun x hx9 => absurd hx9 (fun q => hxt x q)) hlocks hP hI hS hc9 hv9 hcl9 ((by obtain ⟨hE9, hn9⟩ := hpx9; subst hE9; exact exc_of (by unfold m_bath; first | (rw [chk_p hi9, chk_p hp_r2, chk_p hp_r3, chk_n hn9]; done) | (rw [chk_p hi9, chk_p hp_r2, chk_p hp_r3, chk_n hn9]; rfl)) rfl)) (Nat.le_of_ble_eq_true rfl) (Nat.le_of_ble_eq_true rfl)) (fun Mw1 H locs hp_r4 hP hI hS => ?_)
  obtain ⟨hp_r4, hm9⟩ := hp_r4
  subst Mw1
  refine lv_aload hx hb dX4_bath_20 (lv_at hl 0 rfl) ?_
  refine mx_callv (vx_runS (As := [.ref (ad 5 (ix p0))]) (rest := []) ⟨hx, hb, hml, hown, hts⟩ (c_X4_demandDivided l G A Mw hl9  h_I h_S) (va_cwS 1 hts gX4_bath_X4_demandDivided rfl rfl rfl (by decide +kernel) ⟨Nat.le_of_ble_eq_true rfl, Nat.le_of_ble_eq_true rfl⟩) (mPreS hG hS hP hI hA) rfl rfl hl.1 rfl (lv_room (Nat.le_of_ble_eq_true rfl)) dX4_bath_22 ⟨Nat.le_of_ble_eq_true rfl, Nat.le_of_ble_eq_true rfl⟩) hS (fun E9 ce9 q9 H locs hpx9 hP hI hS hc9 hv9 hcl9 => m_out (px := fun E => exc ["java/lang/IndexOutOfBoundsException", "java/lang/IllegalArgumentException", "java/lang/UnsupportedOperationException", "java/util/NoSuchElementException"] (m_bath st p0 p1 p2) E) (fun x hx9 => absurd hx9 (fun q => hxt x q)) hlocks hP hI hS hc9 hv9 hcl9 ((by obtain ⟨hE9, hn9⟩ := hpx9; subst hE9; exact exc_of (by unfold m_bath; first | (rw [chk_p hi9, chk_p hp_r2, chk_p hp_r3, chk_p hp_r4, chk_n hn9]; done) | (rw [chk_p hi9, chk_p hp_r2, chk_p hp_r3, chk_p hp_r4, chk_n hn9]; rfl)) rfl)) (Nat.le_of_ble_eq_true rfl) (Nat.le_of_ble_eq_true rfl)) (fun Mw1 H locs hp_r5 hP hI hS => ?_)
  obtain ⟨hp_r5, hm9⟩ := hp_r5
  subst Mw1
  refine lv_aload hx hb dX4_bath_25 (lv_at hl 0 rfl) ?_
  refine lv_iload_n hx hb dX4_bath_27 rfl (lv_at hl 3 rfl) ?_
  refine lv_aload_n hx hb dX4_bath_28 rfl (lv_at hl 1 rfl) ?_
  refine lv_aload hx hb dX4_bath_29 (lv_at hl 0 rfl) ?_
  refine lv_iload_n hx hb dX4_bath_31 rfl (lv_at hl 3 rfl) ?_
  refine lv_iload_n hx hb dX4_bath_32 rfl (lv_at hl 4 rfl) ?_
  refine mx_calli (vx_runV (As := [.ref (ad 5 (ix p0)), .int p1, .int p2]) (rest := [.int p1, .ref (ad 5 (ix p0))]) ⟨hx, hb, hml, hown, hts⟩ (c_X4_levelFound l G A Mw hl9  p1 p2 h_X h_I h_T h_B) (cwV 3 hts gX4_bath_X4_levelFound rfl rfl rfl (by decide +kernel) ⟨Nat.le_of_ble_eq_true rfl, Nat.le_of_ble_eq_true rfl⟩) (mPreV hG hS hP hI hA (hP _ _ h_X) (r := (RX4, TX4, 9)) rfl) rfl rfl hl.1 rfl (lv_room (Nat.le_of_ble_eq_true rfl)) dX4_bath_33 ⟨Nat.le_of_ble_eq_true rfl, Nat.le_of_ble_eq_true rfl⟩) hS (fun E9 ce9 q9 H locs hpx9 hP hI hS hc9 hv9 hcl9 => m_out (px := fun E => exc ["java/lang/IndexOutOfBoundsException", "java/lang/IllegalArgumentException", "java/lang/UnsupportedOperationException", "java/util/NoSuchElementException"] (m_bath st p0 p1 p2) E) (fun x hx9 => absurd hx9 (fun q => hxt x q)) hlocks hP hI hS hc9 hv9 hcl9 ((by obtain ⟨hE9, hn9⟩ := hpx9; subst hE9; exact exc_of (by unfold m_bath; first | (rw [chk_p hi9, chk_p hp_r2, chk_p hp_r3, chk_p hp_r4, chk_p hp_r5, chk_n (fun q9 => q9 (lvl_eq hn9))]; done) | (rw [chk_p hi9, chk_p hp_r2, chk_p hp_r3, chk_p hp_r4, chk_p hp_r5, chk_n (fun q9 => q9 (lvl_eq hn9))]; rfl)) rfl)) (Nat.le_of_ble_eq_true rfl) (Nat.le_of_ble_eq_true rfl)) (fun r6 Mw1 H locs hp_r6 hP hI hS => ?_)
  obtain ⟨⟨hl9, hq9⟩, hm9⟩ := hp_r6
  subst Mw1
  have hl8 := lvl_eq (s := st) (i := ix p0) (T := p1) (dip := p2) hl9
  have hq8 : ¬ lvl st (ix p0) p1 p2 = -1 := by rw [hl8]; exact hq9
  refine m_calli (va_runV (As := [.int p1, .int r6]) (rest := []) ⟨hx, hb, hml, hown, hts⟩ (c_X0_readInBath l G A Mw  p1 r6 h_I h_S h_T h_B hve hn9 h_R h_V h_E hvb heb) (cwV 2 hts gX4_bath_X0_readInBath rfl rfl rfl (by decide +kernel) ⟨Nat.le_of_ble_eq_true rfl, Nat.le_of_ble_eq_true rfl⟩) (mPreV hG hS hP hI hA (hP _ _ h_I) (r := (RX0, TX0, 15)) rfl) rfl rfl hl.1 rfl (lv_room (Nat.le_of_ble_eq_true rfl)) dX4_bath_36 ⟨Nat.le_of_ble_eq_true rfl, Nat.le_of_ble_eq_true rfl⟩) hS (fun r7 Mw1 H locs hp_r7 hP hI hS => ?_)
  obtain ⟨hp_r7, hm9⟩ := hp_r7
  subst Mw1
  have hm8 : batR st (ix p0) p1 r6 = r7 := hp_r7.symm
  refine W.widen (k := 6) (n := 36) (Nat.le_of_ble_eq_true rfl) (Nat.le_of_ble_eq_true rfl) ?_
  refine vx_ret ?_
  exact W.iret (v := r7) hx hb hr (fun t99 ht99 hW99 => ⟨⟨r7, (mu (mu (mu (mu Mw (ad 5 (ix p0)) (.inr (3, [.int (itS st (ix p0) 0), .ref (ad 3 (tbN st (ix p0))), .int (itS st (ix p0) 1), .int (itS st (ix p0) 2), .ref (ad 6 (ix p0)), .ref (ad 7 (ix p0)), .int (if 2000 < p1 then itS st (ix p0) 3 / 2 else itS st (ix p0) 3), .int (itS st (ix p0) 4), .int (itS st (ix p0) 5), .int (itS st (ix p0) 6), .int (itS st (ix p0) 7), .int (if p1 ≤ (-200) then 0 else itS st (ix p0) 8), .int (itS st (ix p0) 9), .int (if itS st (ix p0) 9 = 0 then itS st (ix p0) 10 else m_max (itS st (ix p0) 10) r6), .int (if 2000 < p1 then (-1) else itS st (ix p0) 11)]))) (ad 8 (ix p0)) (.inl (G.2.1 0, 8, .inl (apV (rvS st (ix p0)) (rnS st (ix p0)) (rdg (itS st (ix p0) 15) (boS st (tbN st (ix p0))) (itS st (ix p0) 12) (itS st (ix p0) 13) (itS st (ix p0) 14) (m_min 200 ((if itS st (ix p0) 9 = 0 then r6 else m_max (itS st (ix p0) 10) r6) + (if p1 ≤ (-200) then 0 else itS st (ix p0) 8)))))))) (ad 9 (ix p0)) (.inl (G.2.1 0, 8, .inl (apV (reS st (ix p0)) (rnS st (ix p0)) ((rdg (itS st (ix p0) 15) (boS st (tbN st (ix p0))) (itS st (ix p0) 12) (itS st (ix p0) 13) (itS st (ix p0) 14) (m_min 200 ((if itS st (ix p0) 9 = 0 then r6 else m_max (itS st (ix p0) 10) r6) + (if p1 ≤ (-200) then 0 else itS st (ix p0) 8)))) - p1))))) (ad 7 (ix p0)) (.inr (4, [.ref (ad 8 (ix p0)), .ref (ad 9 (ix p0)), .int (nI (apN (rnS st (ix p0))))]))), rfl, ⟨batS st (ix p0) p1 r6, ad, by unfold m_bath; first | (rw [chk_p hi9, chk_p hp_r2, chk_p hp_r3, chk_p hp_r4, chk_p hp_r5, chk_p hq8, hl8, hm8]; done) | (rw [chk_p hi9, chk_p hp_r2, chk_p hp_r3, chk_p hp_r4, chk_p hp_r5, chk_p hq8, hl8, hm8]; rfl), hC.sba hi9.2 p1 r6 (batG st (ix p0) p1 r6) rfl, rfl⟩, by rw [ht99]; exact hP, hI⟩, hS.F ht99⟩) hS.2.2 dX4_bath_39

set_option maxHeartbeats 4000000 in
set_option maxRecDepth 100000 in
theorem c_X4_begin (l : Launch) (G : mg) (A : Nat → Prop) (Mw : mw) (hl9 : l.stackTraces = false) (st : St) (ad : adr) (p0 : Int32) (hC : CS G st ad Mw) (hV : Inv st) : vx_Met l yX4_begin wsX4_begin ({ frames := 7, cells := 1, slots := 6, locals := 103 }) (va_Pc [.ref (ad 0 0), .int p0] (mB G A Mw)) (va_Qi (fun r Mw1 => ∃ (s1 : St) (ad1 : adr), m_begin st p0 = (0, r, s1) ∧ CS G s1 ad1 Mw1 ∧ ad1 0 0 = ad 0 0) (mE G A) A) (xX (fun E => exc ["java/lang/IndexOutOfBoundsException"] (m_begin st p0) E) G A Mw) 1 6 A := by
  refine vx_ofW (cc := cX4_begin) (maxL := 4) (ret := (some .int)) (by decide) rfl ?_
  intro p e s m args below meth c s₁ B hml hxt hv
  obtain ⟨rfl, hG, hP, hI, hA⟩ := hv
  have hx := B.exec
  have hb := B.bytes
  have hr := B.returns
  have hts := atoms_spec (ws := wsX4_begin) B.pre
  have hown : s.vm.findClass RX4 = some m.cls := findClass_of_methodNamed B.named
  have hlocks := B.notSynchronized
  have hK := hG.K
  have i_X0 : ∀ w ∈ wsX00, w ∈ wsX4_begin := by decide +kernel
  have i_X1 : ∀ w ∈ wsX10, w ∈ wsX4_begin := by decide +kernel
  have hS : va_S A s.heap s.heap [] := va_S.rf
  have hl := lv_entry ([.ref (ad 0 0), .int p0]) (n := 4) (Nat.le_of_ble_eq_true rfl)
  rw [lg_entry_eq]
  generalize (lg_sl ([.ref (ad 0 0), .int p0]) ++ List.replicate (4 - (lg_sl ([.ref (ad 0 0), .int p0])).length) Slot.unset).toArray = ls at hl ⊢
  have hl : lv_has ls 4 [(0, .ref (ad 0 0)), (1, .int p0)] := hl
  have hP : mP G.1 Mw s.heap := hP
  have h_X : Mw (ad 0 0) = some (.inr (7, [.ref (ad 1 0), .ref (ad 2 0), .int (nI (nT st)), .int (nI (nN st)), .int (gS st 0), .int (gS st 1), .int (gS st 2), .int (gS st 3), .int (gS st 4)])) := hC.1 0 0 (ok0 st)
  have h_TA : Mw (ad 1 0) = some (.inl (G.2.1 3, 8, .inr (.inr (.inr (.inr (qf (nT st) (ad 3))))))) := hC.1 1 0 (ok1 st)
  have h_IA : Mw (ad 2 0) = some (.inl (G.2.1 4, 6, .inr (.inr (.inr (.inr (qf (nN st) (ad 5))))))) := hC.1 2 0 (ok2 st)
  have hta9 := hC.ne (ok1 st) (ok2 st) (by omega)
  refine lv_aload_n hx hb dX4_begin_0 rfl (lv_at hl 0 rfl) ?_
  refine lv_iload_n hx hb dX4_begin_1 rfl (lv_at hl 1 rfl) ?_
  refine mx_callq (vx_runV (As := [.int p0]) (rest := []) ⟨hx, hb, hml, hown, hts⟩ (c_X4_instrumentNumbered l G A Mw hl9  p0 h_X hV.1.2 h_IA) (cwV 1 hts gX4_begin_X4_instrumentNumbered rfl rfl rfl (by decide +kernel) ⟨Nat.le_of_ble_eq_true rfl, Nat.le_of_ble_eq_true rfl⟩) (mPreV hG hS hP hI hA (hP _ _ h_X) (r := (RX4, TX4, 9)) rfl) rfl rfl hl.1 rfl (lv_room (Nat.le_of_ble_eq_true rfl)) dX4_begin_2 ⟨Nat.le_of_ble_eq_true rfl, Nat.le_of_ble_eq_true rfl⟩) hS (fun E9 ce9 q9 H locs hpx9 hP hI hS hc9 hv9 hcl9 => m_out (px := fun E => exc ["java/lang/IndexOutOfBoundsException"] (m_begin st p0) E) (fun x hx9 => absurd hx9 (fun q => hxt x q)) hlocks hP hI hS hc9 hv9 hcl9 ((by obtain ⟨hE9, hn9⟩ := hpx9; subst hE9; exact exc_of (by unfold m_begin; first | (rw [chk_n hn9]; done) | (rw [chk_n hn9]; rfl)) rfl)) (Nat.le_of_ble_eq_true rfl) (Nat.le_of_ble_eq_true rfl)) (fun r1 Mw1 H locs hp_r1 hP hI hS => ?_)
  obtain ⟨⟨hi9, hr9⟩, hm9⟩ := hp_r1
  subst Mw1
  subst hr9
  have hT9 := hV.tb hi9.2
  have hn9 := hV.rn hi9.2
  have hve := hC.ne (ok8 hi9.2) (ok9 hi9.2) (by omega)
  have hvb := hC.ne (ok8 hi9.2) (ok4 hT9) (by omega)
  have heb := hC.ne (ok9 hi9.2) (ok4 hT9) (by omega)
  have h_I : Mw (ad 5 (ix p0)) = some (.inr (3, [.int (itS st (ix p0) 0), .ref (ad 3 (tbN st (ix p0))), .int (itS st (ix p0) 1), .int (itS st (ix p0) 2), .ref (ad 6 (ix p0)), .ref (ad 7 (ix p0)), .int (itS st (ix p0) 3), .int (itS st (ix p0) 4), .int (itS st (ix p0) 5), .int (itS st (ix p0) 6), .int (itS st (ix p0) 7), .int (itS st (ix p0) 8), .int (itS st (ix p0) 9), .int (itS st (ix p0) 10), .int (itS st (ix p0) 11)])) := hC.1 5 _ (ok5 hi9.2)
  have h_S : Mw (ad 6 (ix p0)) = some (.inr (5, [.ref (ad 3 (tbN st (ix p0))), .int (itS st (ix p0) 12), .int (itS st (ix p0) 13), .int (itS st (ix p0) 14), .int (itS st (ix p0) 15)])) := hC.1 6 _ (ok6 hi9.2)
  have h_R : Mw (ad 7 (ix p0)) = some (.inr (4, [.ref (ad 8 (ix p0)), .ref (ad 9 (ix p0)), .int (nI (rnS st (ix p0)))])) := hC.1 7 _ (ok7 hi9.2)
  have h_V : Mw (ad 8 (ix p0)) = some (.inl (G.2.1 0, 8, .inl (rvS st (ix p0)))) := hC.1 8 _ (ok8 hi9.2)
  have h_E : Mw (ad 9 (ix p0)) = some (.inl (G.2.1 0, 8, .inl (reS st (ix p0)))) := hC.1 9 _ (ok9 hi9.2)
  have h_T : Mw (ad 3 (tbN st (ix p0))) = some (.inr (6, [.ref (ad 4 (tbN st (ix p0))), .int (usS st (tbN st (ix p0)))])) := hC.1 3 _ (ok3 hT9)
  have h_B : Mw (ad 4 (tbN st (ix p0))) = some (.inl (G.2.1 0, 20, .inl (boS st (tbN st (ix p0))))) := hC.1 4 _ (ok4 hT9)
  refine m_getN (ci := 3) (v := .ref (ad 7 (ix p0))) (C := RX0) (T := TX0) (N := 15) hx hb hts i_X0 hown hK (hP _ _ h_I) rfl 5 (by decide) (va_Nw.use rfl (hG.2.1.2.1 ("Meniscus", 214, "Meniscus$Instrument", "readings", "LMeniscus$Readings;", "Meniscus") (by decide +kernel))) (fun _ h9 => h9) rfl dX4_begin_5 ?_
  refine lv_astore_n (lv' := [(2, .ref (ad 7 (ix p0))), (0, .ref (ad 0 0)), (1, .int p0)]) hx hb dX4_begin_8 rfl hl (by decide) rfl (fun ls hl => ?_)
  refine lv_aload_n hx hb dX4_begin_9 rfl (lv_at hl 0 rfl) ?_
  refine m_getN (ci := 4) (v := .int (nI (rnS st (ix p0)))) (C := RX1) (T := TX1) (N := 3) hx hb hts i_X1 hown hK (hP _ _ h_R) rfl 2 (by decide) (va_Nw.use rfl (hG.2.1.2.1 ("Meniscus", 227, "Meniscus$Readings", "count", "I", "Meniscus") (by decide +kernel))) (fun _ h9 => h9) rfl dX4_begin_10 ?_
  refine lv_istore_n (lv' := [(3, .int (nI (rnS st (ix p0)))), (2, .ref (ad 7 (ix p0))), (0, .ref (ad 0 0)), (1, .int p0)]) hx hb dX4_begin_13 rfl hl (by decide) rfl (fun ls hl => ?_)
  refine lv_aload_n hx hb dX4_begin_14 rfl (lv_at hl 1 rfl) ?_
  refine lv_iconst (v := 0) hx hb dX4_begin_15 (by decide) ?_
  refine m_putN (ci := 4) (v := .int 0) (ty := .int) (C := RX1) (T := TX1) (N := 3) hx hb hts i_X1 tyX1 tyX1_ok nmX1 hown hK hP hI hS h_R rfl 2 (by decide) (va_Nw.use rfl (hG.2.1.2.1 ("Meniscus", 227, "Meniscus$Readings", "count", "I", "Meniscus") (by decide +kernel))) (fun _ h9 => h9) rfl (by decide +kernel) rfl rfl (Nat.le_of_ble_eq_true rfl) dX4_begin_16 (fun H locs hP hI hS => ?_)
  have hP : mP G.1 (mu Mw (ad 7 (ix p0)) (.inr (4, [.ref (ad 8 (ix p0)), .ref (ad 9 (ix p0)), .int 0]))) H := hP
  have hI : mI A (mu Mw (ad 7 (ix p0)) (.inr (4, [.ref (ad 8 (ix p0)), .ref (ad 9 (ix p0)), .int 0]))) := hI
  have h_X := mu_k (e := .inr (4, [.ref (ad 8 (ix p0)), .ref (ad 9 (ix p0)), .int 0])) (kd_ne h_X h_R rfl) h_X
  have h_TA := mu_k (e := .inr (4, [.ref (ad 8 (ix p0)), .ref (ad 9 (ix p0)), .int 0])) (kd_ne h_TA h_R rfl) h_TA
  have h_IA := mu_k (e := .inr (4, [.ref (ad 8 (ix p0)), .ref (ad 9 (ix p0)), .int 0])) (kd_ne h_IA h_R rfl) h_IA
  have h_I := mu_k (e := .inr (4, [.ref (ad 8 (ix p0)), .ref (ad 9 (ix p0)), .int 0])) (kd_ne h_I h_R rfl) h_I
  have h_S := mu_k (e := .inr (4, [.ref (ad 8 (ix p0)), .ref (ad 9 (ix p0)), .int 0])) (kd_ne h_S h_R rfl) h_S
  have h_V := mu_k (e := .inr (4, [.ref (ad 8 (ix p0)), .ref (ad 9 (ix p0)), .int 0])) (kd_ne h_V h_R rfl) h_V
  have h_E := mu_k (e := .inr (4, [.ref (ad 8 (ix p0)), .ref (ad 9 (ix p0)), .int 0])) (kd_ne h_E h_R rfl) h_E
  have h_T := mu_k (e := .inr (4, [.ref (ad 8 (ix p0)), .ref (ad 9 (ix p0)), .int 0])) (kd_ne h_T h_R rfl) h_T
  have h_B := mu_k (e := .inr (4, [.ref (ad 8 (ix p0)), .ref (ad 9 (ix p0)), .int 0])) (kd_ne h_B h_R rfl) h_B
  have h_R : (mu Mw (ad 7 (ix p0)) (.inr (4, [.ref (ad 8 (ix p0)), .ref (ad 9 (ix p0)), .int 0]))) (ad 7 (ix p0)) = some (.inr (4, [.ref (ad 8 (ix p0)), .ref (ad 9 (ix p0)), .int 0])) := mu_s
  refine lv_iload_n hx hb dX4_begin_19 rfl (lv_at hl 0 rfl) ?_
  refine W.widen (k := 1) (n := 6) (Nat.le_of_ble_eq_true rfl) (Nat.le_of_ble_eq_true rfl) ?_
  refine vx_ret ?_
  exact W.iret (v := nI (rnS st (ix p0))) hx hb hr (fun t99 ht99 hW99 => ⟨⟨nI (rnS st (ix p0)), (mu Mw (ad 7 (ix p0)) (.inr (4, [.ref (ad 8 (ix p0)), .ref (ad 9 (ix p0)), .int 0]))), rfl, ⟨begS st (ix p0), ad, by unfold m_begin; first | (rw [chk_p hi9]; done) | (rw [chk_p hi9]; rfl), hC.srn hi9.2, rfl⟩, by rw [ht99]; exact hP, hI⟩, hS.F ht99⟩) hS.2.2 dX4_begin_20

set_option maxHeartbeats 4000000 in
set_option maxRecDepth 100000 in
theorem c_X4_grade (l : Launch) (G : mg) (A : Nat → Prop) (Mw : mw) (hl9 : l.stackTraces = false) (st : St) (ad : adr) (p0 : Int32) (hC : CS G st ad Mw) (hV : Inv st) : vx_Met l yX4_grade wsX4_grade ({ frames := 7, cells := 2, slots := 12, locals := 103 }) (va_Pc [.ref (ad 0 0), .int p0] (mB G A Mw)) (va_Qi (fun r Mw1 => ∃ (s1 : St) (ad1 : adr), m_grade st p0 = (0, r, s1) ∧ CS G s1 ad1 Mw1 ∧ ad1 0 0 = ad 0 0) (mE G A) A) (xX (fun E => exc ["java/lang/IndexOutOfBoundsException", "java/lang/UnsupportedOperationException"] (m_grade st p0) E) G A Mw) 2 12 A := by
  refine vx_ofW (cc := cX4_grade) (maxL := 3) (ret := (some .char)) (by decide) rfl ?_
  intro p e s m args below meth c s₁ B hml hxt hv
  obtain ⟨rfl, hG, hP, hI, hA⟩ := hv
  have hx := B.exec
  have hb := B.bytes
  have hr := B.returns
  have hts := atoms_spec (ws := wsX4_grade) B.pre
  have hown : s.vm.findClass RX4 = some m.cls := findClass_of_methodNamed B.named
  have hlocks := B.notSynchronized
  have hK := hG.K
  have i_X0 : ∀ w ∈ wsX00, w ∈ wsX4_grade := by decide +kernel
  have hS : va_S A s.heap s.heap [] := va_S.rf
  have hl := lv_entry ([.ref (ad 0 0), .int p0]) (n := 3) (Nat.le_of_ble_eq_true rfl)
  rw [lg_entry_eq]
  generalize (lg_sl ([.ref (ad 0 0), .int p0]) ++ List.replicate (3 - (lg_sl ([.ref (ad 0 0), .int p0])).length) Slot.unset).toArray = ls at hl ⊢
  have hl : lv_has ls 3 [(0, .ref (ad 0 0)), (1, .int p0)] := hl
  have hP : mP G.1 Mw s.heap := hP
  have h_X : Mw (ad 0 0) = some (.inr (7, [.ref (ad 1 0), .ref (ad 2 0), .int (nI (nT st)), .int (nI (nN st)), .int (gS st 0), .int (gS st 1), .int (gS st 2), .int (gS st 3), .int (gS st 4)])) := hC.1 0 0 (ok0 st)
  have h_TA : Mw (ad 1 0) = some (.inl (G.2.1 3, 8, .inr (.inr (.inr (.inr (qf (nT st) (ad 3))))))) := hC.1 1 0 (ok1 st)
  have h_IA : Mw (ad 2 0) = some (.inl (G.2.1 4, 6, .inr (.inr (.inr (.inr (qf (nN st) (ad 5))))))) := hC.1 2 0 (ok2 st)
  have hta9 := hC.ne (ok1 st) (ok2 st) (by omega)
  refine lv_aload_n hx hb dX4_grade_0 rfl (lv_at hl 0 rfl) ?_
  refine lv_iload_n hx hb dX4_grade_1 rfl (lv_at hl 1 rfl) ?_
  refine mx_callq (vx_runV (As := [.int p0]) (rest := []) ⟨hx, hb, hml, hown, hts⟩ (c_X4_instrumentNumbered l G A Mw hl9  p0 h_X hV.1.2 h_IA) (cwV 1 hts gX4_grade_X4_instrumentNumbered rfl rfl rfl (by decide +kernel) ⟨Nat.le_of_ble_eq_true rfl, Nat.le_of_ble_eq_true rfl⟩) (mPreV hG hS hP hI hA (hP _ _ h_X) (r := (RX4, TX4, 9)) rfl) rfl rfl hl.1 rfl (lv_room (Nat.le_of_ble_eq_true rfl)) dX4_grade_2 ⟨Nat.le_of_ble_eq_true rfl, Nat.le_of_ble_eq_true rfl⟩) hS (fun E9 ce9 q9 H locs hpx9 hP hI hS hc9 hv9 hcl9 => m_out (px := fun E => exc ["java/lang/IndexOutOfBoundsException", "java/lang/UnsupportedOperationException"] (m_grade st p0) E) (fun x hx9 => absurd hx9 (fun q => hxt x q)) hlocks hP hI hS hc9 hv9 hcl9 ((by obtain ⟨hE9, hn9⟩ := hpx9; subst hE9; exact exc_of (by unfold m_grade; first | (rw [chk_n hn9]; done) | (rw [chk_n hn9]; rfl)) rfl)) (Nat.le_of_ble_eq_true rfl) (Nat.le_of_ble_eq_true rfl)) (fun r1 Mw1 H locs hp_r1 hP hI hS => ?_)
  obtain ⟨⟨hi9, hr9⟩, hm9⟩ := hp_r1
  subst Mw1
  subst hr9
  have hT9 := hV.tb hi9.2
  have hn9 := hV.rn hi9.2
  have hve := hC.ne (ok8 hi9.2) (ok9 hi9.2) (by omega)
  have hvb := hC.ne (ok8 hi9.2) (ok4 hT9) (by omega)
  have heb := hC.ne (ok9 hi9.2) (ok4 hT9) (by omega)
  have h_I : Mw (ad 5 (ix p0)) = some (.inr (3, [.int (itS st (ix p0) 0), .ref (ad 3 (tbN st (ix p0))), .int (itS st (ix p0) 1), .int (itS st (ix p0) 2), .ref (ad 6 (ix p0)), .ref (ad 7 (ix p0)), .int (itS st (ix p0) 3), .int (itS st (ix p0) 4), .int (itS st (ix p0) 5), .int (itS st (ix p0) 6), .int (itS st (ix p0) 7), .int (itS st (ix p0) 8), .int (itS st (ix p0) 9), .int (itS st (ix p0) 10), .int (itS st (ix p0) 11)])) := hC.1 5 _ (ok5 hi9.2)
  have h_S : Mw (ad 6 (ix p0)) = some (.inr (5, [.ref (ad 3 (tbN st (ix p0))), .int (itS st (ix p0) 12), .int (itS st (ix p0) 13), .int (itS st (ix p0) 14), .int (itS st (ix p0) 15)])) := hC.1 6 _ (ok6 hi9.2)
  have h_R : Mw (ad 7 (ix p0)) = some (.inr (4, [.ref (ad 8 (ix p0)), .ref (ad 9 (ix p0)), .int (nI (rnS st (ix p0)))])) := hC.1 7 _ (ok7 hi9.2)
  have h_V : Mw (ad 8 (ix p0)) = some (.inl (G.2.1 0, 8, .inl (rvS st (ix p0)))) := hC.1 8 _ (ok8 hi9.2)
  have h_E : Mw (ad 9 (ix p0)) = some (.inl (G.2.1 0, 8, .inl (reS st (ix p0)))) := hC.1 9 _ (ok9 hi9.2)
  have h_T : Mw (ad 3 (tbN st (ix p0))) = some (.inr (6, [.ref (ad 4 (tbN st (ix p0))), .int (usS st (tbN st (ix p0)))])) := hC.1 3 _ (ok3 hT9)
  have h_B : Mw (ad 4 (tbN st (ix p0))) = some (.inl (G.2.1 0, 20, .inl (boS st (tbN st (ix p0))))) := hC.1 4 _ (ok4 hT9)
  refine m_getN (ci := 3) (v := .ref (ad 7 (ix p0))) (C := RX0) (T := TX0) (N := 15) hx hb hts i_X0 hown hK (hP _ _ h_I) rfl 5 (by decide) (va_Nw.use rfl (hG.2.1.2.1 ("Meniscus", 214, "Meniscus$Instrument", "readings", "LMeniscus$Readings;", "Meniscus") (by decide +kernel))) (fun _ h9 => h9) rfl dX4_grade_5 ?_
  refine lv_astore_n (lv' := [(2, .ref (ad 7 (ix p0))), (0, .ref (ad 0 0)), (1, .int p0)]) hx hb dX4_grade_8 rfl hl (by decide) rfl (fun ls hl => ?_)
  refine lv_aload_n hx hb dX4_grade_9 rfl (lv_at hl 0 rfl) ?_
  refine mx_callv (vx_runS (As := [.ref (ad 7 (ix p0))]) (rest := []) ⟨hx, hb, hml, hown, hts⟩ (c_X4_demandEnoughForClass l G A Mw hl9  hn9 h_R) (va_cwS 1 hts gX4_grade_X4_demandEnoughForClass rfl rfl rfl (by decide +kernel) ⟨Nat.le_of_ble_eq_true rfl, Nat.le_of_ble_eq_true rfl⟩) (mPreS hG hS hP hI hA) rfl rfl hl.1 rfl (lv_room (Nat.le_of_ble_eq_true rfl)) dX4_grade_10 ⟨Nat.le_of_ble_eq_true rfl, Nat.le_of_ble_eq_true rfl⟩) hS (fun E9 ce9 q9 H locs hpx9 hP hI hS hc9 hv9 hcl9 => m_out (px := fun E => exc ["java/lang/IndexOutOfBoundsException", "java/lang/UnsupportedOperationException"] (m_grade st p0) E) (fun x hx9 => absurd hx9 (fun q => hxt x q)) hlocks hP hI hS hc9 hv9 hcl9 ((by obtain ⟨hE9, hn9⟩ := hpx9; subst hE9; exact exc_of (by unfold m_grade; first | (rw [chk_p hi9, chk_n hn9]; done) | (rw [chk_p hi9, chk_n hn9]; rfl)) rfl)) (Nat.le_of_ble_eq_true rfl) (Nat.le_of_ble_eq_true rfl)) (fun Mw1 H locs hp_r2 hP hI hS => ?_)
  obtain ⟨hp_r2, hm9⟩ := hp_r2
  subst Mw1
  refine lv_aload_n hx hb dX4_grade_13 rfl (lv_at hl 0 rfl) ?_
  refine m_calli (va_runV (As := []) (rest := []) ⟨hx, hb, hml, hown, hts⟩ (c_X1_greatestError l G A Mw  hve hn9 h_R h_V h_E) (cwV 0 hts gX4_grade_X1_greatestError rfl rfl rfl (by decide +kernel) ⟨Nat.le_of_ble_eq_true rfl, Nat.le_of_ble_eq_true rfl⟩) (mPreV hG hS hP hI hA (hP _ _ h_R) (r := (RX1, TX1, 3)) rfl) rfl rfl hl.1 rfl (lv_room (Nat.le_of_ble_eq_true rfl)) dX4_grade_14 ⟨Nat.le_of_ble_eq_true rfl, Nat.le_of_ble_eq_true rfl⟩) hS (fun r3 Mw1 H locs hp_r3 hP hI hS => ?_)
  obtain ⟨hp_r3, hm9⟩ := hp_r3
  subst Mw1
  refine m_calli (va_runS (As := [.int r3]) (rest := []) ⟨hx, hb, hml, hown, hts⟩ (c_X4_classByError l G A Mw  r3) (va_cwS 1 hts gX4_grade_X4_classByError rfl rfl rfl (by decide +kernel) ⟨Nat.le_of_ble_eq_true rfl, Nat.le_of_ble_eq_true rfl⟩) (mPreS hG hS hP hI hA) rfl rfl hl.1 rfl (lv_room (Nat.le_of_ble_eq_true rfl)) dX4_grade_17 ⟨Nat.le_of_ble_eq_true rfl, Nat.le_of_ble_eq_true rfl⟩) hS (fun r4 Mw1 H locs hp_r4 hP hI hS => ?_)
  obtain ⟨hp_r4, hm9⟩ := hp_r4
  subst Mw1
  refine W.widen (k := 2) (n := 12) (Nat.le_of_ble_eq_true rfl) (Nat.le_of_ble_eq_true rfl) ?_
  refine vx_ret ?_
  exact W.zret (v := r4) hx hb hr (by rw [hp_r4]; exact clsEc _) (fun t99 ht99 hW99 => ⟨⟨r4, Mw, rfl, ⟨st, ad, by unfold m_grade; first | (rw [chk_p hi9, chk_p hp_r2, hp_r4, hp_r3]; done) | (rw [chk_p hi9, chk_p hp_r2, hp_r4, hp_r3]; rfl), hC, rfl⟩, by rw [ht99]; exact hP, hI⟩, hS.F ht99⟩) hS.2.2 dX4_grade_20

set_option maxHeartbeats 4000000 in
set_option maxRecDepth 100000 in
theorem c_X4_certify (l : Launch) (G : mg) (A : Nat → Prop) (Mw : mw) (hl9 : l.stackTraces = false) (st : St) (ad : adr) (p0 : Int32) (hC : CS G st ad Mw) (hV : Inv st) : vx_Met l yX4_certify wsX4_certify ({ frames := 7, cells := 3, slots := 18, locals := 103 }) (va_Pc [.ref (ad 0 0), .int p0] (mB G A Mw)) (va_Qi (fun r Mw1 => ∃ (s1 : St) (ad1 : adr), m_certify st p0 = (0, r, s1) ∧ CS G s1 ad1 Mw1 ∧ ad1 0 0 = ad 0 0) (mE G A) A) (xX (fun E => exc ["java/lang/IndexOutOfBoundsException", "java/lang/UnsupportedOperationException"] (m_certify st p0) E) G A Mw) 3 18 A := by
  refine vx_ofW (cc := cX4_certify) (maxL := 3) (ret := (some .int)) (by decide) rfl ?_
  intro p e s m args below meth c s₁ B hml hxt hv
  obtain ⟨rfl, hG, hP, hI, hA⟩ := hv
  have hx := B.exec
  have hb := B.bytes
  have hr := B.returns
  have hts := atoms_spec (ws := wsX4_certify) B.pre
  have hown : s.vm.findClass RX4 = some m.cls := findClass_of_methodNamed B.named
  have hlocks := B.notSynchronized
  have hK := hG.K
  have i_X0 : ∀ w ∈ wsX00, w ∈ wsX4_certify := by decide +kernel
  have i_X4 : ∀ w ∈ wsX40, w ∈ wsX4_certify := by decide +kernel
  have hS : va_S A s.heap s.heap [] := va_S.rf
  have hl := lv_entry ([.ref (ad 0 0), .int p0]) (n := 3) (Nat.le_of_ble_eq_true rfl)
  rw [lg_entry_eq]
  generalize (lg_sl ([.ref (ad 0 0), .int p0]) ++ List.replicate (3 - (lg_sl ([.ref (ad 0 0), .int p0])).length) Slot.unset).toArray = ls at hl ⊢
  have hl : lv_has ls 3 [(0, .ref (ad 0 0)), (1, .int p0)] := hl
  have hP : mP G.1 Mw s.heap := hP
  have h_X : Mw (ad 0 0) = some (.inr (7, [.ref (ad 1 0), .ref (ad 2 0), .int (nI (nT st)), .int (nI (nN st)), .int (gS st 0), .int (gS st 1), .int (gS st 2), .int (gS st 3), .int (gS st 4)])) := hC.1 0 0 (ok0 st)
  have h_TA : Mw (ad 1 0) = some (.inl (G.2.1 3, 8, .inr (.inr (.inr (.inr (qf (nT st) (ad 3))))))) := hC.1 1 0 (ok1 st)
  have h_IA : Mw (ad 2 0) = some (.inl (G.2.1 4, 6, .inr (.inr (.inr (.inr (qf (nN st) (ad 5))))))) := hC.1 2 0 (ok2 st)
  have hta9 := hC.ne (ok1 st) (ok2 st) (by omega)
  refine lv_aload_n hx hb dX4_certify_0 rfl (lv_at hl 0 rfl) ?_
  refine lv_iload_n hx hb dX4_certify_1 rfl (lv_at hl 1 rfl) ?_
  refine mx_callq (vx_runV (As := [.int p0]) (rest := []) ⟨hx, hb, hml, hown, hts⟩ (c_X4_instrumentNumbered l G A Mw hl9  p0 h_X hV.1.2 h_IA) (cwV 1 hts gX4_certify_X4_instrumentNumbered rfl rfl rfl (by decide +kernel) ⟨Nat.le_of_ble_eq_true rfl, Nat.le_of_ble_eq_true rfl⟩) (mPreV hG hS hP hI hA (hP _ _ h_X) (r := (RX4, TX4, 9)) rfl) rfl rfl hl.1 rfl (lv_room (Nat.le_of_ble_eq_true rfl)) dX4_certify_2 ⟨Nat.le_of_ble_eq_true rfl, Nat.le_of_ble_eq_true rfl⟩) hS (fun E9 ce9 q9 H locs hpx9 hP hI hS hc9 hv9 hcl9 => m_out (px := fun E => exc ["java/lang/IndexOutOfBoundsException", "java/lang/UnsupportedOperationException"] (m_certify st p0) E) (fun x hx9 => absurd hx9 (fun q => hxt x q)) hlocks hP hI hS hc9 hv9 hcl9 ((by obtain ⟨hE9, hn9⟩ := hpx9; subst hE9; exact exc_of (by unfold m_certify; first | (rw [chk_n hn9]; done) | (rw [chk_n hn9]; rfl)) rfl)) (Nat.le_of_ble_eq_true rfl) (Nat.le_of_ble_eq_true rfl)) (fun r1 Mw1 H locs hp_r1 hP hI hS => ?_)
  obtain ⟨⟨hi9, hr9⟩, hm9⟩ := hp_r1
  subst Mw1
  subst hr9
  have hT9 := hV.tb hi9.2
  have hn9 := hV.rn hi9.2
  have hve := hC.ne (ok8 hi9.2) (ok9 hi9.2) (by omega)
  have hvb := hC.ne (ok8 hi9.2) (ok4 hT9) (by omega)
  have heb := hC.ne (ok9 hi9.2) (ok4 hT9) (by omega)
  have h_I : Mw (ad 5 (ix p0)) = some (.inr (3, [.int (itS st (ix p0) 0), .ref (ad 3 (tbN st (ix p0))), .int (itS st (ix p0) 1), .int (itS st (ix p0) 2), .ref (ad 6 (ix p0)), .ref (ad 7 (ix p0)), .int (itS st (ix p0) 3), .int (itS st (ix p0) 4), .int (itS st (ix p0) 5), .int (itS st (ix p0) 6), .int (itS st (ix p0) 7), .int (itS st (ix p0) 8), .int (itS st (ix p0) 9), .int (itS st (ix p0) 10), .int (itS st (ix p0) 11)])) := hC.1 5 _ (ok5 hi9.2)
  have h_S : Mw (ad 6 (ix p0)) = some (.inr (5, [.ref (ad 3 (tbN st (ix p0))), .int (itS st (ix p0) 12), .int (itS st (ix p0) 13), .int (itS st (ix p0) 14), .int (itS st (ix p0) 15)])) := hC.1 6 _ (ok6 hi9.2)
  have h_R : Mw (ad 7 (ix p0)) = some (.inr (4, [.ref (ad 8 (ix p0)), .ref (ad 9 (ix p0)), .int (nI (rnS st (ix p0)))])) := hC.1 7 _ (ok7 hi9.2)
  have h_V : Mw (ad 8 (ix p0)) = some (.inl (G.2.1 0, 8, .inl (rvS st (ix p0)))) := hC.1 8 _ (ok8 hi9.2)
  have h_E : Mw (ad 9 (ix p0)) = some (.inl (G.2.1 0, 8, .inl (reS st (ix p0)))) := hC.1 9 _ (ok9 hi9.2)
  have h_T : Mw (ad 3 (tbN st (ix p0))) = some (.inr (6, [.ref (ad 4 (tbN st (ix p0))), .int (usS st (tbN st (ix p0)))])) := hC.1 3 _ (ok3 hT9)
  have h_B : Mw (ad 4 (tbN st (ix p0))) = some (.inl (G.2.1 0, 20, .inl (boS st (tbN st (ix p0))))) := hC.1 4 _ (ok4 hT9)
  refine lv_astore_n (lv' := [(2, .ref (ad 5 (ix p0))), (0, .ref (ad 0 0)), (1, .int p0)]) hx hb dX4_certify_5 rfl hl (by decide) rfl (fun ls hl => ?_)
  refine lv_aload_n hx hb dX4_certify_6 rfl (lv_at hl 0 rfl) ?_
  refine m_getN (ci := 3) (v := .ref (ad 7 (ix p0))) (C := RX0) (T := TX0) (N := 15) hx hb hts i_X0 hown hK (hP _ _ h_I) rfl 5 (by decide) (va_Nw.use rfl (hG.2.1.2.1 ("Meniscus", 214, "Meniscus$Instrument", "readings", "LMeniscus$Readings;", "Meniscus") (by decide +kernel))) (fun _ h9 => h9) rfl dX4_certify_7 ?_
  refine mx_callv (vx_runS (As := [.ref (ad 7 (ix p0))]) (rest := []) ⟨hx, hb, hml, hown, hts⟩ (c_X4_demandEnoughForClass l G A Mw hl9  hn9 h_R) (va_cwS 1 hts gX4_certify_X4_demandEnoughForClass rfl rfl rfl (by decide +kernel) ⟨Nat.le_of_ble_eq_true rfl, Nat.le_of_ble_eq_true rfl⟩) (mPreS hG hS hP hI hA) rfl rfl hl.1 rfl (lv_room (Nat.le_of_ble_eq_true rfl)) dX4_certify_10 ⟨Nat.le_of_ble_eq_true rfl, Nat.le_of_ble_eq_true rfl⟩) hS (fun E9 ce9 q9 H locs hpx9 hP hI hS hc9 hv9 hcl9 => m_out (px := fun E => exc ["java/lang/IndexOutOfBoundsException", "java/lang/UnsupportedOperationException"] (m_certify st p0) E) (fun x hx9 => absurd hx9 (fun q => hxt x q)) hlocks hP hI hS hc9 hv9 hcl9 ((by obtain ⟨hE9, hn9⟩ := hpx9; subst hE9; exact exc_of (by unfold m_certify; first | (rw [chk_p hi9, chk_n hn9]; done) | (rw [chk_p hi9, chk_n hn9]; rfl)) rfl)) (Nat.le_of_ble_eq_true rfl) (Nat.le_of_ble_eq_true rfl)) (fun Mw1 H locs hp_r2 hP hI hS => ?_)
  obtain ⟨hp_r2, hm9⟩ := hp_r2
  subst Mw1
  refine lv_aload_n hx hb dX4_certify_13 rfl (lv_at hl 0 rfl) ?_
  refine m_getN (ci := 3) (v := .ref (ad 7 (ix p0))) (C := RX0) (T := TX0) (N := 15) hx hb hts i_X0 hown hK (hP _ _ h_I) rfl 5 (by decide) (va_Nw.use rfl (hG.2.1.2.1 ("Meniscus", 214, "Meniscus$Instrument", "readings", "LMeniscus$Readings;", "Meniscus") (by decide +kernel))) (fun _ h9 => h9) rfl dX4_certify_14 ?_
  refine m_calli (va_runV (As := []) (rest := []) ⟨hx, hb, hml, hown, hts⟩ (c_X1_greatestError l G A Mw  hve hn9 h_R h_V h_E) (cwV 0 hts gX4_certify_X1_greatestError rfl rfl rfl (by decide +kernel) ⟨Nat.le_of_ble_eq_true rfl, Nat.le_of_ble_eq_true rfl⟩) (mPreV hG hS hP hI hA (hP _ _ h_R) (r := (RX1, TX1, 3)) rfl) rfl rfl hl.1 rfl (lv_room (Nat.le_of_ble_eq_true rfl)) dX4_certify_17 ⟨Nat.le_of_ble_eq_true rfl, Nat.le_of_ble_eq_true rfl⟩) hS (fun r3 Mw1 H locs hp_r3 hP hI hS => ?_)
  obtain ⟨hp_r3, hm9⟩ := hp_r3
  subst Mw1
  refine m_calli (va_runS (As := [.int r3]) (rest := []) ⟨hx, hb, hml, hown, hts⟩ (c_X4_classByError l G A Mw  r3) (va_cwS 1 hts gX4_certify_X4_classByError rfl rfl rfl (by decide +kernel) ⟨Nat.le_of_ble_eq_true rfl, Nat.le_of_ble_eq_true rfl⟩) (mPreS hG hS hP hI hA) rfl rfl hl.1 rfl (lv_room (Nat.le_of_ble_eq_true rfl)) dX4_certify_20 ⟨Nat.le_of_ble_eq_true rfl, Nat.le_of_ble_eq_true rfl⟩) hS (fun r4 Mw1 H locs hp_r4 hP hI hS => ?_)
  obtain ⟨hp_r4, hm9⟩ := hp_r4
  subst Mw1
  refine lv_bipush (v := (88)) hx hb dX4_certify_23 (by decide) ?_
  refine lv_icmp_ne (tgt := 38) hx hb dX4_certify_25 (by decide) (fun c5 => ?_) (fun c5 => ?_)
  · skip
    have hc9 : ¬ clsE (gmax (reS st (ix p0)) (rnS st (ix p0))) = 88 := by rw [← hp_r3, ← hp_r4]; exact c5
    refine lv_aload_n hx hb dX4_certify_38 rfl (lv_at hl 0 rfl) ?_
    refine lv_aload_n hx hb dX4_certify_39 rfl (lv_at hl 1 rfl) ?_
    refine m_get (ci := 7) (v := .int (gS st 1)) (C := RX4) (T := TX4) (N := 9) hx hb hts i_X4 hown hK (hP _ _ h_X) rfl 5 (by decide) (hts (.fieldLink RX4 154 "Meniscus" "day" "I") (by decide +kernel)) (fun _ h9 => h9) rfl dX4_certify_40 ?_
    refine lv_aload_n hx hb dX4_certify_43 rfl (lv_at hl 0 rfl) ?_
    refine m_getN (ci := 3) (v := .int (itS st (ix p0) 2)) (C := RX0) (T := TX0) (N := 15) hx hb hts i_X0 hown hK (hP _ _ h_I) rfl 3 (by decide) (va_Nw.use rfl (hG.2.1.2.1 ("Meniscus", 242, "Meniscus$Instrument", "glass", "C", "Meniscus") (by decide +kernel))) (fun _ h9 => h9) rfl dX4_certify_44 ?_
    refine lv_bipush (v := (104)) hx hb dX4_certify_47 (by decide) ?_
    refine lv_icmp_ne (tgt := 58) hx hb dX4_certify_49 (by decide) (fun c6 => ?_) (fun c6 => ?_)
    · skip
      refine lv_bipush (v := (120)) hx hb dX4_certify_58 (by decide) ?_
      refine lv_iadd hx hb dX4_certify_60 ?_
      refine m_putN (ci := 3) (v := .int ((gS st 1) + 120)) (ty := .int) (C := RX0) (T := TX0) (N := 15) hx hb hts i_X0 tyX0 tyX0_ok nmX0 hown hK hP hI hS h_I rfl 14 (by decide) (va_Nw.use rfl (hG.2.1.2.1 ("Meniscus", 245, "Meniscus$Instrument", "certificateEnd", "I", "Meniscus") (by decide +kernel))) (fun _ h9 => h9) rfl (by decide +kernel) rfl rfl (Nat.le_of_ble_eq_true rfl) dX4_certify_61 (fun H locs hP hI hS => ?_)
      have hP : mP G.1 (mu Mw (ad 5 (ix p0)) (.inr (3, [.int (itS st (ix p0) 0), .ref (ad 3 (tbN st (ix p0))), .int (itS st (ix p0) 1), .int (itS st (ix p0) 2), .ref (ad 6 (ix p0)), .ref (ad 7 (ix p0)), .int (itS st (ix p0) 3), .int (itS st (ix p0) 4), .int (itS st (ix p0) 5), .int (itS st (ix p0) 6), .int (itS st (ix p0) 7), .int (itS st (ix p0) 8), .int (itS st (ix p0) 9), .int (itS st (ix p0) 10), .int ((gS st 1) + 120)]))) H := hP
      have hI : mI A (mu Mw (ad 5 (ix p0)) (.inr (3, [.int (itS st (ix p0) 0), .ref (ad 3 (tbN st (ix p0))), .int (itS st (ix p0) 1), .int (itS st (ix p0) 2), .ref (ad 6 (ix p0)), .ref (ad 7 (ix p0)), .int (itS st (ix p0) 3), .int (itS st (ix p0) 4), .int (itS st (ix p0) 5), .int (itS st (ix p0) 6), .int (itS st (ix p0) 7), .int (itS st (ix p0) 8), .int (itS st (ix p0) 9), .int (itS st (ix p0) 10), .int ((gS st 1) + 120)]))) := hI
      have h_X := mu_k (e := .inr (3, [.int (itS st (ix p0) 0), .ref (ad 3 (tbN st (ix p0))), .int (itS st (ix p0) 1), .int (itS st (ix p0) 2), .ref (ad 6 (ix p0)), .ref (ad 7 (ix p0)), .int (itS st (ix p0) 3), .int (itS st (ix p0) 4), .int (itS st (ix p0) 5), .int (itS st (ix p0) 6), .int (itS st (ix p0) 7), .int (itS st (ix p0) 8), .int (itS st (ix p0) 9), .int (itS st (ix p0) 10), .int ((gS st 1) + 120)])) (kd_ne h_X h_I rfl) h_X
      have h_TA := mu_k (e := .inr (3, [.int (itS st (ix p0) 0), .ref (ad 3 (tbN st (ix p0))), .int (itS st (ix p0) 1), .int (itS st (ix p0) 2), .ref (ad 6 (ix p0)), .ref (ad 7 (ix p0)), .int (itS st (ix p0) 3), .int (itS st (ix p0) 4), .int (itS st (ix p0) 5), .int (itS st (ix p0) 6), .int (itS st (ix p0) 7), .int (itS st (ix p0) 8), .int (itS st (ix p0) 9), .int (itS st (ix p0) 10), .int ((gS st 1) + 120)])) (kd_ne h_TA h_I rfl) h_TA
      have h_IA := mu_k (e := .inr (3, [.int (itS st (ix p0) 0), .ref (ad 3 (tbN st (ix p0))), .int (itS st (ix p0) 1), .int (itS st (ix p0) 2), .ref (ad 6 (ix p0)), .ref (ad 7 (ix p0)), .int (itS st (ix p0) 3), .int (itS st (ix p0) 4), .int (itS st (ix p0) 5), .int (itS st (ix p0) 6), .int (itS st (ix p0) 7), .int (itS st (ix p0) 8), .int (itS st (ix p0) 9), .int (itS st (ix p0) 10), .int ((gS st 1) + 120)])) (kd_ne h_IA h_I rfl) h_IA
      have h_S := mu_k (e := .inr (3, [.int (itS st (ix p0) 0), .ref (ad 3 (tbN st (ix p0))), .int (itS st (ix p0) 1), .int (itS st (ix p0) 2), .ref (ad 6 (ix p0)), .ref (ad 7 (ix p0)), .int (itS st (ix p0) 3), .int (itS st (ix p0) 4), .int (itS st (ix p0) 5), .int (itS st (ix p0) 6), .int (itS st (ix p0) 7), .int (itS st (ix p0) 8), .int (itS st (ix p0) 9), .int (itS st (ix p0) 10), .int ((gS st 1) + 120)])) (kd_ne h_S h_I rfl) h_S
      have h_R := mu_k (e := .inr (3, [.int (itS st (ix p0) 0), .ref (ad 3 (tbN st (ix p0))), .int (itS st (ix p0) 1), .int (itS st (ix p0) 2), .ref (ad 6 (ix p0)), .ref (ad 7 (ix p0)), .int (itS st (ix p0) 3), .int (itS st (ix p0) 4), .int (itS st (ix p0) 5), .int (itS st (ix p0) 6), .int (itS st (ix p0) 7), .int (itS st (ix p0) 8), .int (itS st (ix p0) 9), .int (itS st (ix p0) 10), .int ((gS st 1) + 120)])) (kd_ne h_R h_I rfl) h_R
      have h_V := mu_k (e := .inr (3, [.int (itS st (ix p0) 0), .ref (ad 3 (tbN st (ix p0))), .int (itS st (ix p0) 1), .int (itS st (ix p0) 2), .ref (ad 6 (ix p0)), .ref (ad 7 (ix p0)), .int (itS st (ix p0) 3), .int (itS st (ix p0) 4), .int (itS st (ix p0) 5), .int (itS st (ix p0) 6), .int (itS st (ix p0) 7), .int (itS st (ix p0) 8), .int (itS st (ix p0) 9), .int (itS st (ix p0) 10), .int ((gS st 1) + 120)])) (kd_ne h_V h_I rfl) h_V
      have h_E := mu_k (e := .inr (3, [.int (itS st (ix p0) 0), .ref (ad 3 (tbN st (ix p0))), .int (itS st (ix p0) 1), .int (itS st (ix p0) 2), .ref (ad 6 (ix p0)), .ref (ad 7 (ix p0)), .int (itS st (ix p0) 3), .int (itS st (ix p0) 4), .int (itS st (ix p0) 5), .int (itS st (ix p0) 6), .int (itS st (ix p0) 7), .int (itS st (ix p0) 8), .int (itS st (ix p0) 9), .int (itS st (ix p0) 10), .int ((gS st 1) + 120)])) (kd_ne h_E h_I rfl) h_E
      have h_T := mu_k (e := .inr (3, [.int (itS st (ix p0) 0), .ref (ad 3 (tbN st (ix p0))), .int (itS st (ix p0) 1), .int (itS st (ix p0) 2), .ref (ad 6 (ix p0)), .ref (ad 7 (ix p0)), .int (itS st (ix p0) 3), .int (itS st (ix p0) 4), .int (itS st (ix p0) 5), .int (itS st (ix p0) 6), .int (itS st (ix p0) 7), .int (itS st (ix p0) 8), .int (itS st (ix p0) 9), .int (itS st (ix p0) 10), .int ((gS st 1) + 120)])) (kd_ne h_T h_I rfl) h_T
      have h_B := mu_k (e := .inr (3, [.int (itS st (ix p0) 0), .ref (ad 3 (tbN st (ix p0))), .int (itS st (ix p0) 1), .int (itS st (ix p0) 2), .ref (ad 6 (ix p0)), .ref (ad 7 (ix p0)), .int (itS st (ix p0) 3), .int (itS st (ix p0) 4), .int (itS st (ix p0) 5), .int (itS st (ix p0) 6), .int (itS st (ix p0) 7), .int (itS st (ix p0) 8), .int (itS st (ix p0) 9), .int (itS st (ix p0) 10), .int ((gS st 1) + 120)])) (kd_ne h_B h_I rfl) h_B
      have h_I : (mu Mw (ad 5 (ix p0)) (.inr (3, [.int (itS st (ix p0) 0), .ref (ad 3 (tbN st (ix p0))), .int (itS st (ix p0) 1), .int (itS st (ix p0) 2), .ref (ad 6 (ix p0)), .ref (ad 7 (ix p0)), .int (itS st (ix p0) 3), .int (itS st (ix p0) 4), .int (itS st (ix p0) 5), .int (itS st (ix p0) 6), .int (itS st (ix p0) 7), .int (itS st (ix p0) 8), .int (itS st (ix p0) 9), .int (itS st (ix p0) 10), .int ((gS st 1) + 120)]))) (ad 5 (ix p0)) = some (.inr (3, [.int (itS st (ix p0) 0), .ref (ad 3 (tbN st (ix p0))), .int (itS st (ix p0) 1), .int (itS st (ix p0) 2), .ref (ad 6 (ix p0)), .ref (ad 7 (ix p0)), .int (itS st (ix p0) 3), .int (itS st (ix p0) 4), .int (itS st (ix p0) 5), .int (itS st (ix p0) 6), .int (itS st (ix p0) 7), .int (itS st (ix p0) 8), .int (itS st (ix p0) 9), .int (itS st (ix p0) 10), .int ((gS st 1) + 120)])) := mu_s
      refine lv_aload_n hx hb dX4_certify_64 rfl (lv_at hl 0 rfl) ?_
      refine m_getN (ci := 3) (v := .int ((gS st 1) + 120)) (C := RX0) (T := TX0) (N := 15) hx hb hts i_X0 hown hK (hP _ _ h_I) rfl 14 (by decide) (va_Nw.use rfl (hG.2.1.2.1 ("Meniscus", 245, "Meniscus$Instrument", "certificateEnd", "I", "Meniscus") (by decide +kernel))) (fun _ h9 => h9) rfl dX4_certify_65 ?_
      refine W.widen (k := 3) (n := 18) (Nat.le_of_ble_eq_true rfl) (Nat.le_of_ble_eq_true rfl) ?_
      refine vx_ret ?_
      exact W.iret (v := (gS st 1) + 120) hx hb hr (fun t99 ht99 hW99 => ⟨⟨(gS st 1) + 120, (mu Mw (ad 5 (ix p0)) (.inr (3, [.int (itS st (ix p0) 0), .ref (ad 3 (tbN st (ix p0))), .int (itS st (ix p0) 1), .int (itS st (ix p0) 2), .ref (ad 6 (ix p0)), .ref (ad 7 (ix p0)), .int (itS st (ix p0) 3), .int (itS st (ix p0) 4), .int (itS st (ix p0) 5), .int (itS st (ix p0) 6), .int (itS st (ix p0) 7), .int (itS st (ix p0) 8), .int (itS st (ix p0) 9), .int (itS st (ix p0) 10), .int ((gS st 1) + 120)]))), rfl, ⟨sIt st (ix p0) (fu (itS st (ix p0)) 11 (gS st 1 + 120)), ad, by unfold m_certify; first | (rw [chk_p hi9, chk_p hp_r2, chk_p hc9, show cerV st (ix p0) = gS st 1 + 120 from congrArg (fun z => gS st 1 + z) (if_neg c6)]; done) | (rw [chk_p hi9, chk_p hp_r2, chk_p hc9, show cerV st (ix p0) = gS st 1 + 120 from congrArg (fun z => gS st 1 + z) (if_neg c6)]; rfl), hC.sit5 hi9.2 (fu (itS st (ix p0)) 11 (gS st 1 + 120)) rfl ⟨rfl, rfl, rfl, rfl⟩, rfl⟩, by rw [ht99]; exact hP, hI⟩, hS.F ht99⟩) hS.2.2 dX4_certify_68
    · skip
      refine lv_sipush (v := (360)) hx hb dX4_certify_52 (by decide) ?_
      refine lv_goto (tgt := 60) hx hb dX4_certify_55 (by decide) ?_
      refine lv_iadd hx hb dX4_certify_60 ?_
      refine m_putN (ci := 3) (v := .int ((gS st 1) + 360)) (ty := .int) (C := RX0) (T := TX0) (N := 15) hx hb hts i_X0 tyX0 tyX0_ok nmX0 hown hK hP hI hS h_I rfl 14 (by decide) (va_Nw.use rfl (hG.2.1.2.1 ("Meniscus", 245, "Meniscus$Instrument", "certificateEnd", "I", "Meniscus") (by decide +kernel))) (fun _ h9 => h9) rfl (by decide +kernel) rfl rfl (Nat.le_of_ble_eq_true rfl) dX4_certify_61 (fun H locs hP hI hS => ?_)
      have hP : mP G.1 (mu Mw (ad 5 (ix p0)) (.inr (3, [.int (itS st (ix p0) 0), .ref (ad 3 (tbN st (ix p0))), .int (itS st (ix p0) 1), .int (itS st (ix p0) 2), .ref (ad 6 (ix p0)), .ref (ad 7 (ix p0)), .int (itS st (ix p0) 3), .int (itS st (ix p0) 4), .int (itS st (ix p0) 5), .int (itS st (ix p0) 6), .int (itS st (ix p0) 7), .int (itS st (ix p0) 8), .int (itS st (ix p0) 9), .int (itS st (ix p0) 10), .int ((gS st 1) + 360)]))) H := hP
      have hI : mI A (mu Mw (ad 5 (ix p0)) (.inr (3, [.int (itS st (ix p0) 0), .ref (ad 3 (tbN st (ix p0))), .int (itS st (ix p0) 1), .int (itS st (ix p0) 2), .ref (ad 6 (ix p0)), .ref (ad 7 (ix p0)), .int (itS st (ix p0) 3), .int (itS st (ix p0) 4), .int (itS st (ix p0) 5), .int (itS st (ix p0) 6), .int (itS st (ix p0) 7), .int (itS st (ix p0) 8), .int (itS st (ix p0) 9), .int (itS st (ix p0) 10), .int ((gS st 1) + 360)]))) := hI
      have h_X := mu_k (e := .inr (3, [.int (itS st (ix p0) 0), .ref (ad 3 (tbN st (ix p0))), .int (itS st (ix p0) 1), .int (itS st (ix p0) 2), .ref (ad 6 (ix p0)), .ref (ad 7 (ix p0)), .int (itS st (ix p0) 3), .int (itS st (ix p0) 4), .int (itS st (ix p0) 5), .int (itS st (ix p0) 6), .int (itS st (ix p0) 7), .int (itS st (ix p0) 8), .int (itS st (ix p0) 9), .int (itS st (ix p0) 10), .int ((gS st 1) + 360)])) (kd_ne h_X h_I rfl) h_X
      have h_TA := mu_k (e := .inr (3, [.int (itS st (ix p0) 0), .ref (ad 3 (tbN st (ix p0))), .int (itS st (ix p0) 1), .int (itS st (ix p0) 2), .ref (ad 6 (ix p0)), .ref (ad 7 (ix p0)), .int (itS st (ix p0) 3), .int (itS st (ix p0) 4), .int (itS st (ix p0) 5), .int (itS st (ix p0) 6), .int (itS st (ix p0) 7), .int (itS st (ix p0) 8), .int (itS st (ix p0) 9), .int (itS st (ix p0) 10), .int ((gS st 1) + 360)])) (kd_ne h_TA h_I rfl) h_TA
      have h_IA := mu_k (e := .inr (3, [.int (itS st (ix p0) 0), .ref (ad 3 (tbN st (ix p0))), .int (itS st (ix p0) 1), .int (itS st (ix p0) 2), .ref (ad 6 (ix p0)), .ref (ad 7 (ix p0)), .int (itS st (ix p0) 3), .int (itS st (ix p0) 4), .int (itS st (ix p0) 5), .int (itS st (ix p0) 6), .int (itS st (ix p0) 7), .int (itS st (ix p0) 8), .int (itS st (ix p0) 9), .int (itS st (ix p0) 10), .int ((gS st 1) + 360)])) (kd_ne h_IA h_I rfl) h_IA
      have h_S := mu_k (e := .inr (3, [.int (itS st (ix p0) 0), .ref (ad 3 (tbN st (ix p0))), .int (itS st (ix p0) 1), .int (itS st (ix p0) 2), .ref (ad 6 (ix p0)), .ref (ad 7 (ix p0)), .int (itS st (ix p0) 3), .int (itS st (ix p0) 4), .int (itS st (ix p0) 5), .int (itS st (ix p0) 6), .int (itS st (ix p0) 7), .int (itS st (ix p0) 8), .int (itS st (ix p0) 9), .int (itS st (ix p0) 10), .int ((gS st 1) + 360)])) (kd_ne h_S h_I rfl) h_S
      have h_R := mu_k (e := .inr (3, [.int (itS st (ix p0) 0), .ref (ad 3 (tbN st (ix p0))), .int (itS st (ix p0) 1), .int (itS st (ix p0) 2), .ref (ad 6 (ix p0)), .ref (ad 7 (ix p0)), .int (itS st (ix p0) 3), .int (itS st (ix p0) 4), .int (itS st (ix p0) 5), .int (itS st (ix p0) 6), .int (itS st (ix p0) 7), .int (itS st (ix p0) 8), .int (itS st (ix p0) 9), .int (itS st (ix p0) 10), .int ((gS st 1) + 360)])) (kd_ne h_R h_I rfl) h_R
      have h_V := mu_k (e := .inr (3, [.int (itS st (ix p0) 0), .ref (ad 3 (tbN st (ix p0))), .int (itS st (ix p0) 1), .int (itS st (ix p0) 2), .ref (ad 6 (ix p0)), .ref (ad 7 (ix p0)), .int (itS st (ix p0) 3), .int (itS st (ix p0) 4), .int (itS st (ix p0) 5), .int (itS st (ix p0) 6), .int (itS st (ix p0) 7), .int (itS st (ix p0) 8), .int (itS st (ix p0) 9), .int (itS st (ix p0) 10), .int ((gS st 1) + 360)])) (kd_ne h_V h_I rfl) h_V
      have h_E := mu_k (e := .inr (3, [.int (itS st (ix p0) 0), .ref (ad 3 (tbN st (ix p0))), .int (itS st (ix p0) 1), .int (itS st (ix p0) 2), .ref (ad 6 (ix p0)), .ref (ad 7 (ix p0)), .int (itS st (ix p0) 3), .int (itS st (ix p0) 4), .int (itS st (ix p0) 5), .int (itS st (ix p0) 6), .int (itS st (ix p0) 7), .int (itS st (ix p0) 8), .int (itS st (ix p0) 9), .int (itS st (ix p0) 10), .int ((gS st 1) + 360)])) (kd_ne h_E h_I rfl) h_E
      have h_T := mu_k (e := .inr (3, [.int (itS st (ix p0) 0), .ref (ad 3 (tbN st (ix p0))), .int (itS st (ix p0) 1), .int (itS st (ix p0) 2), .ref (ad 6 (ix p0)), .ref (ad 7 (ix p0)), .int (itS st (ix p0) 3), .int (itS st (ix p0) 4), .int (itS st (ix p0) 5), .int (itS st (ix p0) 6), .int (itS st (ix p0) 7), .int (itS st (ix p0) 8), .int (itS st (ix p0) 9), .int (itS st (ix p0) 10), .int ((gS st 1) + 360)])) (kd_ne h_T h_I rfl) h_T
      have h_B := mu_k (e := .inr (3, [.int (itS st (ix p0) 0), .ref (ad 3 (tbN st (ix p0))), .int (itS st (ix p0) 1), .int (itS st (ix p0) 2), .ref (ad 6 (ix p0)), .ref (ad 7 (ix p0)), .int (itS st (ix p0) 3), .int (itS st (ix p0) 4), .int (itS st (ix p0) 5), .int (itS st (ix p0) 6), .int (itS st (ix p0) 7), .int (itS st (ix p0) 8), .int (itS st (ix p0) 9), .int (itS st (ix p0) 10), .int ((gS st 1) + 360)])) (kd_ne h_B h_I rfl) h_B
      have h_I : (mu Mw (ad 5 (ix p0)) (.inr (3, [.int (itS st (ix p0) 0), .ref (ad 3 (tbN st (ix p0))), .int (itS st (ix p0) 1), .int (itS st (ix p0) 2), .ref (ad 6 (ix p0)), .ref (ad 7 (ix p0)), .int (itS st (ix p0) 3), .int (itS st (ix p0) 4), .int (itS st (ix p0) 5), .int (itS st (ix p0) 6), .int (itS st (ix p0) 7), .int (itS st (ix p0) 8), .int (itS st (ix p0) 9), .int (itS st (ix p0) 10), .int ((gS st 1) + 360)]))) (ad 5 (ix p0)) = some (.inr (3, [.int (itS st (ix p0) 0), .ref (ad 3 (tbN st (ix p0))), .int (itS st (ix p0) 1), .int (itS st (ix p0) 2), .ref (ad 6 (ix p0)), .ref (ad 7 (ix p0)), .int (itS st (ix p0) 3), .int (itS st (ix p0) 4), .int (itS st (ix p0) 5), .int (itS st (ix p0) 6), .int (itS st (ix p0) 7), .int (itS st (ix p0) 8), .int (itS st (ix p0) 9), .int (itS st (ix p0) 10), .int ((gS st 1) + 360)])) := mu_s
      refine lv_aload_n hx hb dX4_certify_64 rfl (lv_at hl 0 rfl) ?_
      refine m_getN (ci := 3) (v := .int ((gS st 1) + 360)) (C := RX0) (T := TX0) (N := 15) hx hb hts i_X0 hown hK (hP _ _ h_I) rfl 14 (by decide) (va_Nw.use rfl (hG.2.1.2.1 ("Meniscus", 245, "Meniscus$Instrument", "certificateEnd", "I", "Meniscus") (by decide +kernel))) (fun _ h9 => h9) rfl dX4_certify_65 ?_
      refine W.widen (k := 3) (n := 18) (Nat.le_of_ble_eq_true rfl) (Nat.le_of_ble_eq_true rfl) ?_
      refine vx_ret ?_
      exact W.iret (v := (gS st 1) + 360) hx hb hr (fun t99 ht99 hW99 => ⟨⟨(gS st 1) + 360, (mu Mw (ad 5 (ix p0)) (.inr (3, [.int (itS st (ix p0) 0), .ref (ad 3 (tbN st (ix p0))), .int (itS st (ix p0) 1), .int (itS st (ix p0) 2), .ref (ad 6 (ix p0)), .ref (ad 7 (ix p0)), .int (itS st (ix p0) 3), .int (itS st (ix p0) 4), .int (itS st (ix p0) 5), .int (itS st (ix p0) 6), .int (itS st (ix p0) 7), .int (itS st (ix p0) 8), .int (itS st (ix p0) 9), .int (itS st (ix p0) 10), .int ((gS st 1) + 360)]))), rfl, ⟨sIt st (ix p0) (fu (itS st (ix p0)) 11 (gS st 1 + 360)), ad, by unfold m_certify; first | (rw [chk_p hi9, chk_p hp_r2, chk_p hc9, show cerV st (ix p0) = gS st 1 + 360 from congrArg (fun z => gS st 1 + z) (if_pos c6)]; done) | (rw [chk_p hi9, chk_p hp_r2, chk_p hc9, show cerV st (ix p0) = gS st 1 + 360 from congrArg (fun z => gS st 1 + z) (if_pos c6)]; rfl), hC.sit5 hi9.2 (fu (itS st (ix p0)) 11 (gS st 1 + 360)) rfl ⟨rfl, rfl, rfl, rfl⟩, rfl⟩, by rw [ht99]; exact hP, hI⟩, hS.F ht99⟩) hS.2.2 dX4_certify_68
  · skip
    obtain ⟨sa9, hsa9⟩ := hG.2.1.2.2.2.2.2.1 (240, "no certificate for this class") (by decide +kernel)
    exact vx_throwS (text := "no certificate for this class") (names := ["java/lang/RuntimeException", "java/lang/Exception"]) hx hb hl9 hown (by decide +kernel) (by decide +kernel) (hts (.classLink RX4 122 "java/lang/UnsupportedOperationException") (by decide +kernel)) (hts (.initialized "java/lang/UnsupportedOperationException") (by decide +kernel)) hsa9 (m_hat hG (fun w h => hts w (List.mem_cons_of_mem _ (List.mem_append_left _ (List.mem_append_right _ h)))) (by decide +kernel) (by decide +kernel)) (by decide +kernel) hG.2.2.1 hG.2.2.2.1 hS (hl.1.trans hml.symm) dX4_certify_28 dX4_certify_31 dX4_certify_32 dX4_certify_34 dX4_certify_37 (fun x hx9 => absurd hx9 (fun q => hxt x q)) (Nat.le_of_ble_eq_true rfl) (Nat.le_of_ble_eq_true rfl) (Nat.le_of_ble_eq_true rfl) (Nat.le_of_ble_eq_true rfl) hlocks (fun t9 _ h92 h93 => m_thrown (px := fun E => exc ["java/lang/IndexOutOfBoundsException", "java/lang/UnsupportedOperationException"] (m_certify st p0) E) (E := "java/lang/UnsupportedOperationException") hP hI hS (exc_of (by unfold m_certify; first | (rw [chk_p hi9, chk_p hp_r2, chk_n (fun q9 => q9 (by rw [← hp_r3, ← hp_r4]; exact c5))]; done) | (rw [chk_p hi9, chk_p hp_r2, chk_n (fun q9 => q9 (by rw [← hp_r3, ← hp_r4]; exact c5))]; rfl)) rfl) t9 h92 h93) hS.2.2 (Nat.le_of_ble_eq_true rfl) (Nat.le_of_ble_eq_true rfl)

set_option maxHeartbeats 4000000 in
set_option maxRecDepth 100000 in
theorem c_X4_isCertified (l : Launch) (G : mg) (A : Nat → Prop) (Mw : mw) (hl9 : l.stackTraces = false) (st : St) (ad : adr) (p0 : Int32) (hC : CS G st ad Mw) (hV : Inv st) : vx_Met l yX4_isCertified wsX4_isCertified ({ frames := 7, cells := 1, slots := 6, locals := 103 }) (va_Pc [.ref (ad 0 0), .int p0] (mB G A Mw)) (va_Qi (fun r Mw1 => ∃ (s1 : St) (ad1 : adr), m_isCertified st p0 = (0, r, s1) ∧ CS G s1 ad1 Mw1 ∧ ad1 0 0 = ad 0 0) (mE G A) A) (xX (fun E => exc ["java/lang/IndexOutOfBoundsException"] (m_isCertified st p0) E) G A Mw) 1 6 A := by
  refine vx_ofW (cc := cX4_isCertified) (maxL := 2) (ret := (some .boolean)) (by decide) rfl ?_
  intro p e s m args below meth c s₁ B hml hxt hv
  obtain ⟨rfl, hG, hP, hI, hA⟩ := hv
  have hx := B.exec
  have hb := B.bytes
  have hr := B.returns
  have hts := atoms_spec (ws := wsX4_isCertified) B.pre
  have hown : s.vm.findClass RX4 = some m.cls := findClass_of_methodNamed B.named
  have hlocks := B.notSynchronized
  have hK := hG.K
  have i_X4 : ∀ w ∈ wsX40, w ∈ wsX4_isCertified := by decide +kernel
  have hS : va_S A s.heap s.heap [] := va_S.rf
  have hl := lv_entry ([.ref (ad 0 0), .int p0]) (n := 2) (Nat.le_of_ble_eq_true rfl)
  rw [lg_entry_eq]
  generalize (lg_sl ([.ref (ad 0 0), .int p0]) ++ List.replicate (2 - (lg_sl ([.ref (ad 0 0), .int p0])).length) Slot.unset).toArray = ls at hl ⊢
  have hl : lv_has ls 2 [(0, .ref (ad 0 0)), (1, .int p0)] := hl
  have hP : mP G.1 Mw s.heap := hP
  have h_X : Mw (ad 0 0) = some (.inr (7, [.ref (ad 1 0), .ref (ad 2 0), .int (nI (nT st)), .int (nI (nN st)), .int (gS st 0), .int (gS st 1), .int (gS st 2), .int (gS st 3), .int (gS st 4)])) := hC.1 0 0 (ok0 st)
  have h_TA : Mw (ad 1 0) = some (.inl (G.2.1 3, 8, .inr (.inr (.inr (.inr (qf (nT st) (ad 3))))))) := hC.1 1 0 (ok1 st)
  have h_IA : Mw (ad 2 0) = some (.inl (G.2.1 4, 6, .inr (.inr (.inr (.inr (qf (nN st) (ad 5))))))) := hC.1 2 0 (ok2 st)
  have hta9 := hC.ne (ok1 st) (ok2 st) (by omega)
  refine lv_aload_n hx hb dX4_isCertified_0 rfl (lv_at hl 0 rfl) ?_
  refine lv_iload_n hx hb dX4_isCertified_1 rfl (lv_at hl 1 rfl) ?_
  refine mx_callq (vx_runV (As := [.int p0]) (rest := []) ⟨hx, hb, hml, hown, hts⟩ (c_X4_instrumentNumbered l G A Mw hl9  p0 h_X hV.1.2 h_IA) (cwV 1 hts gX4_isCertified_X4_instrumentNumbered rfl rfl rfl (by decide +kernel) ⟨Nat.le_of_ble_eq_true rfl, Nat.le_of_ble_eq_true rfl⟩) (mPreV hG hS hP hI hA (hP _ _ h_X) (r := (RX4, TX4, 9)) rfl) rfl rfl hl.1 rfl (lv_room (Nat.le_of_ble_eq_true rfl)) dX4_isCertified_2 ⟨Nat.le_of_ble_eq_true rfl, Nat.le_of_ble_eq_true rfl⟩) hS (fun E9 ce9 q9 H locs hpx9 hP hI hS hc9 hv9 hcl9 => m_out (px := fun E => exc ["java/lang/IndexOutOfBoundsException"] (m_isCertified st p0) E) (fun x hx9 => absurd hx9 (fun q => hxt x q)) hlocks hP hI hS hc9 hv9 hcl9 ((by obtain ⟨hE9, hn9⟩ := hpx9; subst hE9; exact exc_of (by unfold m_isCertified; first | (rw [chk_n hn9]; done) | (rw [chk_n hn9]; rfl)) rfl)) (Nat.le_of_ble_eq_true rfl) (Nat.le_of_ble_eq_true rfl)) (fun r1 Mw1 H locs hp_r1 hP hI hS => ?_)
  obtain ⟨⟨hi9, hr9⟩, hm9⟩ := hp_r1
  subst Mw1
  subst hr9
  have hT9 := hV.tb hi9.2
  have hn9 := hV.rn hi9.2
  have hve := hC.ne (ok8 hi9.2) (ok9 hi9.2) (by omega)
  have hvb := hC.ne (ok8 hi9.2) (ok4 hT9) (by omega)
  have heb := hC.ne (ok9 hi9.2) (ok4 hT9) (by omega)
  have h_I : Mw (ad 5 (ix p0)) = some (.inr (3, [.int (itS st (ix p0) 0), .ref (ad 3 (tbN st (ix p0))), .int (itS st (ix p0) 1), .int (itS st (ix p0) 2), .ref (ad 6 (ix p0)), .ref (ad 7 (ix p0)), .int (itS st (ix p0) 3), .int (itS st (ix p0) 4), .int (itS st (ix p0) 5), .int (itS st (ix p0) 6), .int (itS st (ix p0) 7), .int (itS st (ix p0) 8), .int (itS st (ix p0) 9), .int (itS st (ix p0) 10), .int (itS st (ix p0) 11)])) := hC.1 5 _ (ok5 hi9.2)
  have h_S : Mw (ad 6 (ix p0)) = some (.inr (5, [.ref (ad 3 (tbN st (ix p0))), .int (itS st (ix p0) 12), .int (itS st (ix p0) 13), .int (itS st (ix p0) 14), .int (itS st (ix p0) 15)])) := hC.1 6 _ (ok6 hi9.2)
  have h_R : Mw (ad 7 (ix p0)) = some (.inr (4, [.ref (ad 8 (ix p0)), .ref (ad 9 (ix p0)), .int (nI (rnS st (ix p0)))])) := hC.1 7 _ (ok7 hi9.2)
  have h_V : Mw (ad 8 (ix p0)) = some (.inl (G.2.1 0, 8, .inl (rvS st (ix p0)))) := hC.1 8 _ (ok8 hi9.2)
  have h_E : Mw (ad 9 (ix p0)) = some (.inl (G.2.1 0, 8, .inl (reS st (ix p0)))) := hC.1 9 _ (ok9 hi9.2)
  have h_T : Mw (ad 3 (tbN st (ix p0))) = some (.inr (6, [.ref (ad 4 (tbN st (ix p0))), .int (usS st (tbN st (ix p0)))])) := hC.1 3 _ (ok3 hT9)
  have h_B : Mw (ad 4 (tbN st (ix p0))) = some (.inl (G.2.1 0, 20, .inl (boS st (tbN st (ix p0))))) := hC.1 4 _ (ok4 hT9)
  refine lv_aload_n hx hb dX4_isCertified_5 rfl (lv_at hl 0 rfl) ?_
  refine m_get (ci := 7) (v := .int (gS st 1)) (C := RX4) (T := TX4) (N := 9) hx hb hts i_X4 hown hK (hP _ _ h_X) rfl 5 (by decide) (hts (.fieldLink RX4 154 "Meniscus" "day" "I") (by decide +kernel)) (fun _ h9 => h9) rfl dX4_isCertified_6 ?_
  refine m_calli (va_runV (As := [.int (gS st 1)]) (rest := []) ⟨hx, hb, hml, hown, hts⟩ (c_X0_holdsCertificateOn l G A Mw  (gS st 1) h_I) (cwV 1 hts gX4_isCertified_X0_holdsCertificateOn rfl rfl rfl (by decide +kernel) ⟨Nat.le_of_ble_eq_true rfl, Nat.le_of_ble_eq_true rfl⟩) (mPreV hG hS hP hI hA (hP _ _ h_I) (r := (RX0, TX0, 15)) rfl) rfl rfl hl.1 rfl (lv_room (Nat.le_of_ble_eq_true rfl)) dX4_isCertified_9 ⟨Nat.le_of_ble_eq_true rfl, Nat.le_of_ble_eq_true rfl⟩) hS (fun r2 Mw1 H locs hp_r2 hP hI hS => ?_)
  obtain ⟨hp_r2, hm9⟩ := hp_r2
  subst Mw1
  refine W.widen (k := 1) (n := 6) (Nat.le_of_ble_eq_true rfl) (Nat.le_of_ble_eq_true rfl) ?_
  refine vx_ret ?_
  exact W.zret (v := r2) hx hb hr (by rw [hp_r2]; exact (nb01 (crtO01 _ _ _)).1) (fun t99 ht99 hW99 => ⟨⟨r2, Mw, rfl, ⟨st, ad, by unfold m_isCertified; first | (rw [chk_p hi9, hp_r2]; done) | (rw [chk_p hi9, hp_r2]; rfl), hC, rfl⟩, by rw [ht99]; exact hP, hI⟩, hS.F ht99⟩) hS.2.2 dX4_isCertified_12

set_option maxHeartbeats 4000000 in
set_option maxRecDepth 100000 in
theorem c_X4_breakThread (l : Launch) (G : mg) (A : Nat → Prop) (Mw : mw) (hl9 : l.stackTraces = false) (st : St) (ad : adr) (p0 p1 : Int32) (hC : CS G st ad Mw) (hV : Inv st) : vx_Met l yX4_breakThread wsX4_breakThread ({ frames := 7, cells := 3, slots := 18, locals := 104 }) (va_Pc [.ref (ad 0 0), .int p0, .int p1] (mB G A Mw)) (va_Qi (fun r Mw1 => ∃ (s1 : St) (ad1 : adr), m_breakThread st p0 p1 = (0, r, s1) ∧ CS G s1 ad1 Mw1 ∧ ad1 0 0 = ad 0 0) (mE G A) A) (xX (fun E => exc ["java/lang/IndexOutOfBoundsException", "java/lang/IllegalArgumentException", "java/lang/UnsupportedOperationException"] (m_breakThread st p0 p1) E) G A Mw) 3 18 A := by
  refine vx_ofW (cc := cX4_breakThread) (maxL := 5) (ret := (some .int)) (by decide) rfl ?_
  intro p e s m args below meth c s₁ B hml hxt hv
  obtain ⟨rfl, hG, hP, hI, hA⟩ := hv
  have hx := B.exec
  have hb := B.bytes
  have hr := B.returns
  have hts := atoms_spec (ws := wsX4_breakThread) B.pre
  have hown : s.vm.findClass RX4 = some m.cls := findClass_of_methodNamed B.named
  have hlocks := B.notSynchronized
  have hK := hG.K
  have i_X0 : ∀ w ∈ wsX00, w ∈ wsX4_breakThread := by decide +kernel
  have hS : va_S A s.heap s.heap [] := va_S.rf
  have hl := lv_entry ([.ref (ad 0 0), .int p0, .int p1]) (n := 5) (Nat.le_of_ble_eq_true rfl)
  rw [lg_entry_eq]
  generalize (lg_sl ([.ref (ad 0 0), .int p0, .int p1]) ++ List.replicate (5 - (lg_sl ([.ref (ad 0 0), .int p0, .int p1])).length) Slot.unset).toArray = ls at hl ⊢
  have hl : lv_has ls 5 [(0, .ref (ad 0 0)), (1, .int p0), (2, .int p1)] := hl
  have hP : mP G.1 Mw s.heap := hP
  have h_X : Mw (ad 0 0) = some (.inr (7, [.ref (ad 1 0), .ref (ad 2 0), .int (nI (nT st)), .int (nI (nN st)), .int (gS st 0), .int (gS st 1), .int (gS st 2), .int (gS st 3), .int (gS st 4)])) := hC.1 0 0 (ok0 st)
  have h_TA : Mw (ad 1 0) = some (.inl (G.2.1 3, 8, .inr (.inr (.inr (.inr (qf (nT st) (ad 3))))))) := hC.1 1 0 (ok1 st)
  have h_IA : Mw (ad 2 0) = some (.inl (G.2.1 4, 6, .inr (.inr (.inr (.inr (qf (nN st) (ad 5))))))) := hC.1 2 0 (ok2 st)
  have hta9 := hC.ne (ok1 st) (ok2 st) (by omega)
  refine lv_aload_n hx hb dX4_breakThread_0 rfl (lv_at hl 0 rfl) ?_
  refine lv_iload_n hx hb dX4_breakThread_1 rfl (lv_at hl 1 rfl) ?_
  refine mx_callq (vx_runV (As := [.int p0]) (rest := []) ⟨hx, hb, hml, hown, hts⟩ (c_X4_instrumentNumbered l G A Mw hl9  p0 h_X hV.1.2 h_IA) (cwV 1 hts gX4_breakThread_X4_instrumentNumbered rfl rfl rfl (by decide +kernel) ⟨Nat.le_of_ble_eq_true rfl, Nat.le_of_ble_eq_true rfl⟩) (mPreV hG hS hP hI hA (hP _ _ h_X) (r := (RX4, TX4, 9)) rfl) rfl rfl hl.1 rfl (lv_room (Nat.le_of_ble_eq_true rfl)) dX4_breakThread_2 ⟨Nat.le_of_ble_eq_true rfl, Nat.le_of_ble_eq_true rfl⟩) hS (fun E9 ce9 q9 H locs hpx9 hP hI hS hc9 hv9 hcl9 => m_out (px := fun E => exc ["java/lang/IndexOutOfBoundsException", "java/lang/IllegalArgumentException", "java/lang/UnsupportedOperationException"] (m_breakThread st p0 p1) E) (fun x hx9 => absurd hx9 (fun q => hxt x q)) hlocks hP hI hS hc9 hv9 hcl9 ((by obtain ⟨hE9, hn9⟩ := hpx9; subst hE9; exact exc_of (by unfold m_breakThread; first | (rw [chk_n hn9]; done) | (rw [chk_n hn9]; rfl)) rfl)) (Nat.le_of_ble_eq_true rfl) (Nat.le_of_ble_eq_true rfl)) (fun r1 Mw1 H locs hp_r1 hP hI hS => ?_)
  obtain ⟨⟨hi9, hr9⟩, hm9⟩ := hp_r1
  subst Mw1
  subst hr9
  have hT9 := hV.tb hi9.2
  have hn9 := hV.rn hi9.2
  have hve := hC.ne (ok8 hi9.2) (ok9 hi9.2) (by omega)
  have hvb := hC.ne (ok8 hi9.2) (ok4 hT9) (by omega)
  have heb := hC.ne (ok9 hi9.2) (ok4 hT9) (by omega)
  have h_I : Mw (ad 5 (ix p0)) = some (.inr (3, [.int (itS st (ix p0) 0), .ref (ad 3 (tbN st (ix p0))), .int (itS st (ix p0) 1), .int (itS st (ix p0) 2), .ref (ad 6 (ix p0)), .ref (ad 7 (ix p0)), .int (itS st (ix p0) 3), .int (itS st (ix p0) 4), .int (itS st (ix p0) 5), .int (itS st (ix p0) 6), .int (itS st (ix p0) 7), .int (itS st (ix p0) 8), .int (itS st (ix p0) 9), .int (itS st (ix p0) 10), .int (itS st (ix p0) 11)])) := hC.1 5 _ (ok5 hi9.2)
  have h_S : Mw (ad 6 (ix p0)) = some (.inr (5, [.ref (ad 3 (tbN st (ix p0))), .int (itS st (ix p0) 12), .int (itS st (ix p0) 13), .int (itS st (ix p0) 14), .int (itS st (ix p0) 15)])) := hC.1 6 _ (ok6 hi9.2)
  have h_R : Mw (ad 7 (ix p0)) = some (.inr (4, [.ref (ad 8 (ix p0)), .ref (ad 9 (ix p0)), .int (nI (rnS st (ix p0)))])) := hC.1 7 _ (ok7 hi9.2)
  have h_V : Mw (ad 8 (ix p0)) = some (.inl (G.2.1 0, 8, .inl (rvS st (ix p0)))) := hC.1 8 _ (ok8 hi9.2)
  have h_E : Mw (ad 9 (ix p0)) = some (.inl (G.2.1 0, 8, .inl (reS st (ix p0)))) := hC.1 9 _ (ok9 hi9.2)
  have h_T : Mw (ad 3 (tbN st (ix p0))) = some (.inr (6, [.ref (ad 4 (tbN st (ix p0))), .int (usS st (tbN st (ix p0)))])) := hC.1 3 _ (ok3 hT9)
  have h_B : Mw (ad 4 (tbN st (ix p0))) = some (.inl (G.2.1 0, 20, .inl (boS st (tbN st (ix p0))))) := hC.1 4 _ (ok4 hT9)
  refine lv_astore_n (lv' := [(3, .ref (ad 5 (ix p0))), (0, .ref (ad 0 0)), (1, .int p0), (2, .int p1)]) hx hb dX4_breakThread_5 rfl hl (by decide) rfl (fun ls hl => ?_)
  refine lv_iload_n hx hb dX4_breakThread_6 rfl (lv_at hl 3 rfl) ?_
  refine lv_iconst (v := 1) hx hb dX4_breakThread_7 (by decide) ?_
  refine lv_bipush (v := (20)) hx hb dX4_breakThread_8 (by decide) ?_
  refine mx_callv (vx_runS (As := [.int p1, .int 1, .int 20]) (rest := []) ⟨hx, hb, hml, hown, hts⟩ (c_X4_demandRange l G A Mw hl9  p1 1 20) (va_cwS 3 hts gX4_breakThread_X4_demandRange rfl rfl rfl (by decide +kernel) ⟨Nat.le_of_ble_eq_true rfl, Nat.le_of_ble_eq_true rfl⟩) (mPreS hG hS hP hI hA) rfl rfl hl.1 rfl (lv_room (Nat.le_of_ble_eq_true rfl)) dX4_breakThread_10 ⟨Nat.le_of_ble_eq_true rfl, Nat.le_of_ble_eq_true rfl⟩) hS (fun E9 ce9 q9 H locs hpx9 hP hI hS hc9 hv9 hcl9 => m_out (px := fun E => exc ["java/lang/IndexOutOfBoundsException", "java/lang/IllegalArgumentException", "java/lang/UnsupportedOperationException"] (m_breakThread st p0 p1) E) (fun x hx9 => absurd hx9 (fun q => hxt x q)) hlocks hP hI hS hc9 hv9 hcl9 ((by obtain ⟨hE9, hn9⟩ := hpx9; subst hE9; exact exc_of (by unfold m_breakThread; first | (rw [chk_p hi9, chk_n hn9]; done) | (rw [chk_p hi9, chk_n hn9]; rfl)) rfl)) (Nat.le_of_ble_eq_true rfl) (Nat.le_of_ble_eq_true rfl)) (fun Mw1 H locs hp_r2 hP hI hS => ?_)
  obtain ⟨hp_r2, hm9⟩ := hp_r2
  subst Mw1
  refine lv_aload_n hx hb dX4_breakThread_13 rfl (lv_at hl 0 rfl) ?_
  refine mx_callv (vx_runS (As := [.ref (ad 5 (ix p0))]) (rest := []) ⟨hx, hb, hml, hown, hts⟩ (c_X4_demandFilled l G A Mw hl9  h_I) (va_cwS 1 hts gX4_breakThread_X4_demandFilled rfl rfl rfl (by decide +kernel) ⟨Nat.le_of_ble_eq_true rfl, Nat.le_of_ble_eq_true rfl⟩) (mPreS hG hS hP hI hA) rfl rfl hl.1 rfl (lv_room (Nat.le_of_ble_eq_true rfl)) dX4_breakThread_14 ⟨Nat.le_of_ble_eq_true rfl, Nat.le_of_ble_eq_true rfl⟩) hS (fun E9 ce9 q9 H locs hpx9 hP hI hS hc9 hv9 hcl9 => m_out (px := fun E => exc ["java/lang/IndexOutOfBoundsException", "java/lang/IllegalArgumentException", "java/lang/UnsupportedOperationException"] (m_breakThread st p0 p1) E) (fun x hx9 => absurd hx9 (fun q => hxt x q)) hlocks hP hI hS hc9 hv9 hcl9 ((by obtain ⟨hE9, hn9⟩ := hpx9; subst hE9; exact exc_of (by unfold m_breakThread; first | (rw [chk_p hi9, chk_p hp_r2, chk_n hn9]; done) | (rw [chk_p hi9, chk_p hp_r2, chk_n hn9]; rfl)) rfl)) (Nat.le_of_ble_eq_true rfl) (Nat.le_of_ble_eq_true rfl)) (fun Mw1 H locs hp_r3 hP hI hS => ?_)
  obtain ⟨hp_r3, hm9⟩ := hp_r3
  subst Mw1
  refine lv_aload_n hx hb dX4_breakThread_17 rfl (lv_at hl 0 rfl) ?_
  refine m_getN (ci := 3) (v := .int (itS st (ix p0) 8)) (C := RX0) (T := TX0) (N := 15) hx hb hts i_X0 hown hK (hP _ _ h_I) rfl 11 (by decide) (va_Nw.use rfl (hG.2.1.2.1 ("Meniscus", 252, "Meniscus$Instrument", "gap", "I", "Meniscus") (by decide +kernel))) (fun _ h9 => h9) rfl dX4_breakThread_18 ?_
  refine lv_istore (lv' := [(4, .int (itS st (ix p0) 8)), (3, .ref (ad 5 (ix p0))), (0, .ref (ad 0 0)), (1, .int p0), (2, .int p1)]) hx hb dX4_breakThread_21 hl (by decide) rfl (fun ls hl => ?_)
  refine lv_aload_n hx hb dX4_breakThread_23 rfl (lv_at hl 1 rfl) ?_
  refine lv_iload_n hx hb dX4_breakThread_24 rfl (lv_at hl 4 rfl) ?_
  refine m_putN (ci := 3) (v := .int p1) (ty := .int) (C := RX0) (T := TX0) (N := 15) hx hb hts i_X0 tyX0 tyX0_ok nmX0 hown hK hP hI hS h_I rfl 11 (by decide) (va_Nw.use rfl (hG.2.1.2.1 ("Meniscus", 252, "Meniscus$Instrument", "gap", "I", "Meniscus") (by decide +kernel))) (fun _ h9 => h9) rfl (by decide +kernel) rfl rfl (Nat.le_of_ble_eq_true rfl) dX4_breakThread_25 (fun H locs hP hI hS => ?_)
  have hP : mP G.1 (mu Mw (ad 5 (ix p0)) (.inr (3, [.int (itS st (ix p0) 0), .ref (ad 3 (tbN st (ix p0))), .int (itS st (ix p0) 1), .int (itS st (ix p0) 2), .ref (ad 6 (ix p0)), .ref (ad 7 (ix p0)), .int (itS st (ix p0) 3), .int (itS st (ix p0) 4), .int (itS st (ix p0) 5), .int (itS st (ix p0) 6), .int (itS st (ix p0) 7), .int p1, .int (itS st (ix p0) 9), .int (itS st (ix p0) 10), .int (itS st (ix p0) 11)]))) H := hP
  have hI : mI A (mu Mw (ad 5 (ix p0)) (.inr (3, [.int (itS st (ix p0) 0), .ref (ad 3 (tbN st (ix p0))), .int (itS st (ix p0) 1), .int (itS st (ix p0) 2), .ref (ad 6 (ix p0)), .ref (ad 7 (ix p0)), .int (itS st (ix p0) 3), .int (itS st (ix p0) 4), .int (itS st (ix p0) 5), .int (itS st (ix p0) 6), .int (itS st (ix p0) 7), .int p1, .int (itS st (ix p0) 9), .int (itS st (ix p0) 10), .int (itS st (ix p0) 11)]))) := hI
  have h_X := mu_k (e := .inr (3, [.int (itS st (ix p0) 0), .ref (ad 3 (tbN st (ix p0))), .int (itS st (ix p0) 1), .int (itS st (ix p0) 2), .ref (ad 6 (ix p0)), .ref (ad 7 (ix p0)), .int (itS st (ix p0) 3), .int (itS st (ix p0) 4), .int (itS st (ix p0) 5), .int (itS st (ix p0) 6), .int (itS st (ix p0) 7), .int p1, .int (itS st (ix p0) 9), .int (itS st (ix p0) 10), .int (itS st (ix p0) 11)])) (kd_ne h_X h_I rfl) h_X
  have h_TA := mu_k (e := .inr (3, [.int (itS st (ix p0) 0), .ref (ad 3 (tbN st (ix p0))), .int (itS st (ix p0) 1), .int (itS st (ix p0) 2), .ref (ad 6 (ix p0)), .ref (ad 7 (ix p0)), .int (itS st (ix p0) 3), .int (itS st (ix p0) 4), .int (itS st (ix p0) 5), .int (itS st (ix p0) 6), .int (itS st (ix p0) 7), .int p1, .int (itS st (ix p0) 9), .int (itS st (ix p0) 10), .int (itS st (ix p0) 11)])) (kd_ne h_TA h_I rfl) h_TA
  have h_IA := mu_k (e := .inr (3, [.int (itS st (ix p0) 0), .ref (ad 3 (tbN st (ix p0))), .int (itS st (ix p0) 1), .int (itS st (ix p0) 2), .ref (ad 6 (ix p0)), .ref (ad 7 (ix p0)), .int (itS st (ix p0) 3), .int (itS st (ix p0) 4), .int (itS st (ix p0) 5), .int (itS st (ix p0) 6), .int (itS st (ix p0) 7), .int p1, .int (itS st (ix p0) 9), .int (itS st (ix p0) 10), .int (itS st (ix p0) 11)])) (kd_ne h_IA h_I rfl) h_IA
  have h_S := mu_k (e := .inr (3, [.int (itS st (ix p0) 0), .ref (ad 3 (tbN st (ix p0))), .int (itS st (ix p0) 1), .int (itS st (ix p0) 2), .ref (ad 6 (ix p0)), .ref (ad 7 (ix p0)), .int (itS st (ix p0) 3), .int (itS st (ix p0) 4), .int (itS st (ix p0) 5), .int (itS st (ix p0) 6), .int (itS st (ix p0) 7), .int p1, .int (itS st (ix p0) 9), .int (itS st (ix p0) 10), .int (itS st (ix p0) 11)])) (kd_ne h_S h_I rfl) h_S
  have h_R := mu_k (e := .inr (3, [.int (itS st (ix p0) 0), .ref (ad 3 (tbN st (ix p0))), .int (itS st (ix p0) 1), .int (itS st (ix p0) 2), .ref (ad 6 (ix p0)), .ref (ad 7 (ix p0)), .int (itS st (ix p0) 3), .int (itS st (ix p0) 4), .int (itS st (ix p0) 5), .int (itS st (ix p0) 6), .int (itS st (ix p0) 7), .int p1, .int (itS st (ix p0) 9), .int (itS st (ix p0) 10), .int (itS st (ix p0) 11)])) (kd_ne h_R h_I rfl) h_R
  have h_V := mu_k (e := .inr (3, [.int (itS st (ix p0) 0), .ref (ad 3 (tbN st (ix p0))), .int (itS st (ix p0) 1), .int (itS st (ix p0) 2), .ref (ad 6 (ix p0)), .ref (ad 7 (ix p0)), .int (itS st (ix p0) 3), .int (itS st (ix p0) 4), .int (itS st (ix p0) 5), .int (itS st (ix p0) 6), .int (itS st (ix p0) 7), .int p1, .int (itS st (ix p0) 9), .int (itS st (ix p0) 10), .int (itS st (ix p0) 11)])) (kd_ne h_V h_I rfl) h_V
  have h_E := mu_k (e := .inr (3, [.int (itS st (ix p0) 0), .ref (ad 3 (tbN st (ix p0))), .int (itS st (ix p0) 1), .int (itS st (ix p0) 2), .ref (ad 6 (ix p0)), .ref (ad 7 (ix p0)), .int (itS st (ix p0) 3), .int (itS st (ix p0) 4), .int (itS st (ix p0) 5), .int (itS st (ix p0) 6), .int (itS st (ix p0) 7), .int p1, .int (itS st (ix p0) 9), .int (itS st (ix p0) 10), .int (itS st (ix p0) 11)])) (kd_ne h_E h_I rfl) h_E
  have h_T := mu_k (e := .inr (3, [.int (itS st (ix p0) 0), .ref (ad 3 (tbN st (ix p0))), .int (itS st (ix p0) 1), .int (itS st (ix p0) 2), .ref (ad 6 (ix p0)), .ref (ad 7 (ix p0)), .int (itS st (ix p0) 3), .int (itS st (ix p0) 4), .int (itS st (ix p0) 5), .int (itS st (ix p0) 6), .int (itS st (ix p0) 7), .int p1, .int (itS st (ix p0) 9), .int (itS st (ix p0) 10), .int (itS st (ix p0) 11)])) (kd_ne h_T h_I rfl) h_T
  have h_B := mu_k (e := .inr (3, [.int (itS st (ix p0) 0), .ref (ad 3 (tbN st (ix p0))), .int (itS st (ix p0) 1), .int (itS st (ix p0) 2), .ref (ad 6 (ix p0)), .ref (ad 7 (ix p0)), .int (itS st (ix p0) 3), .int (itS st (ix p0) 4), .int (itS st (ix p0) 5), .int (itS st (ix p0) 6), .int (itS st (ix p0) 7), .int p1, .int (itS st (ix p0) 9), .int (itS st (ix p0) 10), .int (itS st (ix p0) 11)])) (kd_ne h_B h_I rfl) h_B
  have h_I : (mu Mw (ad 5 (ix p0)) (.inr (3, [.int (itS st (ix p0) 0), .ref (ad 3 (tbN st (ix p0))), .int (itS st (ix p0) 1), .int (itS st (ix p0) 2), .ref (ad 6 (ix p0)), .ref (ad 7 (ix p0)), .int (itS st (ix p0) 3), .int (itS st (ix p0) 4), .int (itS st (ix p0) 5), .int (itS st (ix p0) 6), .int (itS st (ix p0) 7), .int p1, .int (itS st (ix p0) 9), .int (itS st (ix p0) 10), .int (itS st (ix p0) 11)]))) (ad 5 (ix p0)) = some (.inr (3, [.int (itS st (ix p0) 0), .ref (ad 3 (tbN st (ix p0))), .int (itS st (ix p0) 1), .int (itS st (ix p0) 2), .ref (ad 6 (ix p0)), .ref (ad 7 (ix p0)), .int (itS st (ix p0) 3), .int (itS st (ix p0) 4), .int (itS st (ix p0) 5), .int (itS st (ix p0) 6), .int (itS st (ix p0) 7), .int p1, .int (itS st (ix p0) 9), .int (itS st (ix p0) 10), .int (itS st (ix p0) 11)])) := mu_s
  refine lv_iload hx hb dX4_breakThread_28 (lv_at hl 0 rfl) ?_
  refine W.widen (k := 3) (n := 18) (Nat.le_of_ble_eq_true rfl) (Nat.le_of_ble_eq_true rfl) ?_
  refine vx_ret ?_
  exact W.iret (v := itS st (ix p0) 8) hx hb hr (fun t99 ht99 hW99 => ⟨⟨itS st (ix p0) 8, (mu Mw (ad 5 (ix p0)) (.inr (3, [.int (itS st (ix p0) 0), .ref (ad 3 (tbN st (ix p0))), .int (itS st (ix p0) 1), .int (itS st (ix p0) 2), .ref (ad 6 (ix p0)), .ref (ad 7 (ix p0)), .int (itS st (ix p0) 3), .int (itS st (ix p0) 4), .int (itS st (ix p0) 5), .int (itS st (ix p0) 6), .int (itS st (ix p0) 7), .int p1, .int (itS st (ix p0) 9), .int (itS st (ix p0) 10), .int (itS st (ix p0) 11)]))), rfl, ⟨sIt st (ix p0) (fu (itS st (ix p0)) 8 p1), ad, by unfold m_breakThread; first | (rw [chk_p hi9, chk_p hp_r2, chk_p hp_r3]; done) | (rw [chk_p hi9, chk_p hp_r2, chk_p hp_r3]; rfl), hC.sit5 hi9.2 (fu (itS st (ix p0)) 8 p1) rfl ⟨rfl, rfl, rfl, rfl⟩, rfl⟩, by rw [ht99]; exact hP, hI⟩, hS.F ht99⟩) hS.2.2 dX4_breakThread_30

set_option maxHeartbeats 4000000 in
set_option maxRecDepth 100000 in
theorem c_X4_isBroken (l : Launch) (G : mg) (A : Nat → Prop) (Mw : mw) (hl9 : l.stackTraces = false) (st : St) (ad : adr) (p0 : Int32) (hC : CS G st ad Mw) (hV : Inv st) : vx_Met l yX4_isBroken wsX4_isBroken ({ frames := 7, cells := 1, slots := 6, locals := 103 }) (va_Pc [.ref (ad 0 0), .int p0] (mB G A Mw)) (va_Qi (fun r Mw1 => ∃ (s1 : St) (ad1 : adr), m_isBroken st p0 = (0, r, s1) ∧ CS G s1 ad1 Mw1 ∧ ad1 0 0 = ad 0 0) (mE G A) A) (xX (fun E => exc ["java/lang/IndexOutOfBoundsException"] (m_isBroken st p0) E) G A Mw) 1 6 A := by
  refine vx_ofW (cc := cX4_isBroken) (maxL := 2) (ret := (some .boolean)) (by decide) rfl ?_
  intro p e s m args below meth c s₁ B hml hxt hv
  obtain ⟨rfl, hG, hP, hI, hA⟩ := hv
  have hx := B.exec
  have hb := B.bytes
  have hr := B.returns
  have hts := atoms_spec (ws := wsX4_isBroken) B.pre
  have hown : s.vm.findClass RX4 = some m.cls := findClass_of_methodNamed B.named
  have hlocks := B.notSynchronized
  have hK := hG.K
  have i_X0 : ∀ w ∈ wsX00, w ∈ wsX4_isBroken := by decide +kernel
  have hS : va_S A s.heap s.heap [] := va_S.rf
  have hl := lv_entry ([.ref (ad 0 0), .int p0]) (n := 2) (Nat.le_of_ble_eq_true rfl)
  rw [lg_entry_eq]
  generalize (lg_sl ([.ref (ad 0 0), .int p0]) ++ List.replicate (2 - (lg_sl ([.ref (ad 0 0), .int p0])).length) Slot.unset).toArray = ls at hl ⊢
  have hl : lv_has ls 2 [(0, .ref (ad 0 0)), (1, .int p0)] := hl
  have hP : mP G.1 Mw s.heap := hP
  have h_X : Mw (ad 0 0) = some (.inr (7, [.ref (ad 1 0), .ref (ad 2 0), .int (nI (nT st)), .int (nI (nN st)), .int (gS st 0), .int (gS st 1), .int (gS st 2), .int (gS st 3), .int (gS st 4)])) := hC.1 0 0 (ok0 st)
  have h_TA : Mw (ad 1 0) = some (.inl (G.2.1 3, 8, .inr (.inr (.inr (.inr (qf (nT st) (ad 3))))))) := hC.1 1 0 (ok1 st)
  have h_IA : Mw (ad 2 0) = some (.inl (G.2.1 4, 6, .inr (.inr (.inr (.inr (qf (nN st) (ad 5))))))) := hC.1 2 0 (ok2 st)
  have hta9 := hC.ne (ok1 st) (ok2 st) (by omega)
  refine lv_aload_n hx hb dX4_isBroken_0 rfl (lv_at hl 0 rfl) ?_
  refine lv_iload_n hx hb dX4_isBroken_1 rfl (lv_at hl 1 rfl) ?_
  refine mx_callq (vx_runV (As := [.int p0]) (rest := []) ⟨hx, hb, hml, hown, hts⟩ (c_X4_instrumentNumbered l G A Mw hl9  p0 h_X hV.1.2 h_IA) (cwV 1 hts gX4_isBroken_X4_instrumentNumbered rfl rfl rfl (by decide +kernel) ⟨Nat.le_of_ble_eq_true rfl, Nat.le_of_ble_eq_true rfl⟩) (mPreV hG hS hP hI hA (hP _ _ h_X) (r := (RX4, TX4, 9)) rfl) rfl rfl hl.1 rfl (lv_room (Nat.le_of_ble_eq_true rfl)) dX4_isBroken_2 ⟨Nat.le_of_ble_eq_true rfl, Nat.le_of_ble_eq_true rfl⟩) hS (fun E9 ce9 q9 H locs hpx9 hP hI hS hc9 hv9 hcl9 => m_out (px := fun E => exc ["java/lang/IndexOutOfBoundsException"] (m_isBroken st p0) E) (fun x hx9 => absurd hx9 (fun q => hxt x q)) hlocks hP hI hS hc9 hv9 hcl9 ((by obtain ⟨hE9, hn9⟩ := hpx9; subst hE9; exact exc_of (by unfold m_isBroken; first | (rw [chk_n hn9]; done) | (rw [chk_n hn9]; rfl)) rfl)) (Nat.le_of_ble_eq_true rfl) (Nat.le_of_ble_eq_true rfl)) (fun r1 Mw1 H locs hp_r1 hP hI hS => ?_)
  obtain ⟨⟨hi9, hr9⟩, hm9⟩ := hp_r1
  subst Mw1
  subst hr9
  have hT9 := hV.tb hi9.2
  have hn9 := hV.rn hi9.2
  have hve := hC.ne (ok8 hi9.2) (ok9 hi9.2) (by omega)
  have hvb := hC.ne (ok8 hi9.2) (ok4 hT9) (by omega)
  have heb := hC.ne (ok9 hi9.2) (ok4 hT9) (by omega)
  have h_I : Mw (ad 5 (ix p0)) = some (.inr (3, [.int (itS st (ix p0) 0), .ref (ad 3 (tbN st (ix p0))), .int (itS st (ix p0) 1), .int (itS st (ix p0) 2), .ref (ad 6 (ix p0)), .ref (ad 7 (ix p0)), .int (itS st (ix p0) 3), .int (itS st (ix p0) 4), .int (itS st (ix p0) 5), .int (itS st (ix p0) 6), .int (itS st (ix p0) 7), .int (itS st (ix p0) 8), .int (itS st (ix p0) 9), .int (itS st (ix p0) 10), .int (itS st (ix p0) 11)])) := hC.1 5 _ (ok5 hi9.2)
  have h_S : Mw (ad 6 (ix p0)) = some (.inr (5, [.ref (ad 3 (tbN st (ix p0))), .int (itS st (ix p0) 12), .int (itS st (ix p0) 13), .int (itS st (ix p0) 14), .int (itS st (ix p0) 15)])) := hC.1 6 _ (ok6 hi9.2)
  have h_R : Mw (ad 7 (ix p0)) = some (.inr (4, [.ref (ad 8 (ix p0)), .ref (ad 9 (ix p0)), .int (nI (rnS st (ix p0)))])) := hC.1 7 _ (ok7 hi9.2)
  have h_V : Mw (ad 8 (ix p0)) = some (.inl (G.2.1 0, 8, .inl (rvS st (ix p0)))) := hC.1 8 _ (ok8 hi9.2)
  have h_E : Mw (ad 9 (ix p0)) = some (.inl (G.2.1 0, 8, .inl (reS st (ix p0)))) := hC.1 9 _ (ok9 hi9.2)
  have h_T : Mw (ad 3 (tbN st (ix p0))) = some (.inr (6, [.ref (ad 4 (tbN st (ix p0))), .int (usS st (tbN st (ix p0)))])) := hC.1 3 _ (ok3 hT9)
  have h_B : Mw (ad 4 (tbN st (ix p0))) = some (.inl (G.2.1 0, 20, .inl (boS st (tbN st (ix p0))))) := hC.1 4 _ (ok4 hT9)
  refine m_getN (ci := 3) (v := .int (itS st (ix p0) 8)) (C := RX0) (T := TX0) (N := 15) hx hb hts i_X0 hown hK (hP _ _ h_I) rfl 11 (by decide) (va_Nw.use rfl (hG.2.1.2.1 ("Meniscus", 252, "Meniscus$Instrument", "gap", "I", "Meniscus") (by decide +kernel))) (fun _ h9 => h9) rfl dX4_isBroken_5 ?_
  refine lv_if_le (tgt := 15) hx hb dX4_isBroken_8 (by decide) (fun c2 => ?_) (fun c2 => ?_)
  · skip
    refine lv_iconst (v := 0) hx hb dX4_isBroken_15 (by decide) ?_
    refine W.widen (k := 1) (n := 6) (Nat.le_of_ble_eq_true rfl) (Nat.le_of_ble_eq_true rfl) ?_
    refine vx_ret ?_
    exact W.zret (v := 0) hx hb hr rfl (fun t99 ht99 hW99 => ⟨⟨0, Mw, rfl, ⟨st, ad, by unfold m_isBroken; first | (rw [chk_p hi9, if_pos c2]; done) | (rw [chk_p hi9, if_pos c2]; rfl), hC, rfl⟩, by rw [ht99]; exact hP, hI⟩, hS.F ht99⟩) hS.2.2 dX4_isBroken_16
  · skip
    refine lv_iconst (v := 1) hx hb dX4_isBroken_11 (by decide) ?_
    refine lv_goto (tgt := 16) hx hb dX4_isBroken_12 (by decide) ?_
    refine W.widen (k := 1) (n := 6) (Nat.le_of_ble_eq_true rfl) (Nat.le_of_ble_eq_true rfl) ?_
    refine vx_ret ?_
    exact W.zret (v := 1) hx hb hr rfl (fun t99 ht99 hW99 => ⟨⟨1, Mw, rfl, ⟨st, ad, by unfold m_isBroken; first | (rw [chk_p hi9, if_neg c2]; done) | (rw [chk_p hi9, if_neg c2]; rfl), hC, rfl⟩, by rw [ht99]; exact hP, hI⟩, hS.F ht99⟩) hS.2.2 dX4_isBroken_16

set_option maxHeartbeats 4000000 in
set_option maxRecDepth 100000 in
theorem c_X4_keep (l : Launch) (G : mg) (A : Nat → Prop) (Mw : mw) (hl9 : l.stackTraces = false) (st : St) (ad : adr) (p0 p1 : Int32) (hC : CS G st ad Mw) (hV : Inv st) (h01 : p1 = 0 ∨ p1 = 1) : vx_Met l yX4_keep wsX4_keep ({ frames := 7, cells := 1, slots := 6, locals := 103 }) (va_Pc [.ref (ad 0 0), .int p0, .int p1] (mB G A Mw)) (va_Qi (fun r Mw1 => ∃ (s1 : St) (ad1 : adr), m_keep st p0 p1 = (0, r, s1) ∧ CS G s1 ad1 Mw1 ∧ ad1 0 0 = ad 0 0) (mE G A) A) (xX (fun E => exc ["java/lang/IndexOutOfBoundsException"] (m_keep st p0 p1) E) G A Mw) 1 6 A := by
  refine vx_ofW (cc := cX4_keep) (maxL := 5) (ret := (some .boolean)) (by decide) rfl ?_
  intro p e s m args below meth c s₁ B hml hxt hv
  obtain ⟨rfl, hG, hP, hI, hA⟩ := hv
  have hx := B.exec
  have hb := B.bytes
  have hr := B.returns
  have hts := atoms_spec (ws := wsX4_keep) B.pre
  have hown : s.vm.findClass RX4 = some m.cls := findClass_of_methodNamed B.named
  have hlocks := B.notSynchronized
  have hK := hG.K
  have i_X0 : ∀ w ∈ wsX00, w ∈ wsX4_keep := by decide +kernel
  have hS : va_S A s.heap s.heap [] := va_S.rf
  have hl := lv_entry ([.ref (ad 0 0), .int p0, .int p1]) (n := 5) (Nat.le_of_ble_eq_true rfl)
  rw [lg_entry_eq]
  generalize (lg_sl ([.ref (ad 0 0), .int p0, .int p1]) ++ List.replicate (5 - (lg_sl ([.ref (ad 0 0), .int p0, .int p1])).length) Slot.unset).toArray = ls at hl ⊢
  have hl : lv_has ls 5 [(0, .ref (ad 0 0)), (1, .int p0), (2, .int p1)] := hl
  have hP : mP G.1 Mw s.heap := hP
  have h_X : Mw (ad 0 0) = some (.inr (7, [.ref (ad 1 0), .ref (ad 2 0), .int (nI (nT st)), .int (nI (nN st)), .int (gS st 0), .int (gS st 1), .int (gS st 2), .int (gS st 3), .int (gS st 4)])) := hC.1 0 0 (ok0 st)
  have h_TA : Mw (ad 1 0) = some (.inl (G.2.1 3, 8, .inr (.inr (.inr (.inr (qf (nT st) (ad 3))))))) := hC.1 1 0 (ok1 st)
  have h_IA : Mw (ad 2 0) = some (.inl (G.2.1 4, 6, .inr (.inr (.inr (.inr (qf (nN st) (ad 5))))))) := hC.1 2 0 (ok2 st)
  have hta9 := hC.ne (ok1 st) (ok2 st) (by omega)
  refine lv_aload_n hx hb dX4_keep_0 rfl (lv_at hl 0 rfl) ?_
  refine lv_iload_n hx hb dX4_keep_1 rfl (lv_at hl 1 rfl) ?_
  refine mx_callq (vx_runV (As := [.int p0]) (rest := []) ⟨hx, hb, hml, hown, hts⟩ (c_X4_instrumentNumbered l G A Mw hl9  p0 h_X hV.1.2 h_IA) (cwV 1 hts gX4_keep_X4_instrumentNumbered rfl rfl rfl (by decide +kernel) ⟨Nat.le_of_ble_eq_true rfl, Nat.le_of_ble_eq_true rfl⟩) (mPreV hG hS hP hI hA (hP _ _ h_X) (r := (RX4, TX4, 9)) rfl) rfl rfl hl.1 rfl (lv_room (Nat.le_of_ble_eq_true rfl)) dX4_keep_2 ⟨Nat.le_of_ble_eq_true rfl, Nat.le_of_ble_eq_true rfl⟩) hS (fun E9 ce9 q9 H locs hpx9 hP hI hS hc9 hv9 hcl9 => m_out (px := fun E => exc ["java/lang/IndexOutOfBoundsException"] (m_keep st p0 p1) E) (fun x hx9 => absurd hx9 (fun q => hxt x q)) hlocks hP hI hS hc9 hv9 hcl9 ((by obtain ⟨hE9, hn9⟩ := hpx9; subst hE9; exact exc_of (by unfold m_keep; first | (rw [chk_n hn9]; done) | (rw [chk_n hn9]; rfl)) rfl)) (Nat.le_of_ble_eq_true rfl) (Nat.le_of_ble_eq_true rfl)) (fun r1 Mw1 H locs hp_r1 hP hI hS => ?_)
  obtain ⟨⟨hi9, hr9⟩, hm9⟩ := hp_r1
  subst Mw1
  subst hr9
  have hT9 := hV.tb hi9.2
  have hn9 := hV.rn hi9.2
  have hve := hC.ne (ok8 hi9.2) (ok9 hi9.2) (by omega)
  have hvb := hC.ne (ok8 hi9.2) (ok4 hT9) (by omega)
  have heb := hC.ne (ok9 hi9.2) (ok4 hT9) (by omega)
  have h_I : Mw (ad 5 (ix p0)) = some (.inr (3, [.int (itS st (ix p0) 0), .ref (ad 3 (tbN st (ix p0))), .int (itS st (ix p0) 1), .int (itS st (ix p0) 2), .ref (ad 6 (ix p0)), .ref (ad 7 (ix p0)), .int (itS st (ix p0) 3), .int (itS st (ix p0) 4), .int (itS st (ix p0) 5), .int (itS st (ix p0) 6), .int (itS st (ix p0) 7), .int (itS st (ix p0) 8), .int (itS st (ix p0) 9), .int (itS st (ix p0) 10), .int (itS st (ix p0) 11)])) := hC.1 5 _ (ok5 hi9.2)
  have h_S : Mw (ad 6 (ix p0)) = some (.inr (5, [.ref (ad 3 (tbN st (ix p0))), .int (itS st (ix p0) 12), .int (itS st (ix p0) 13), .int (itS st (ix p0) 14), .int (itS st (ix p0) 15)])) := hC.1 6 _ (ok6 hi9.2)
  have h_R : Mw (ad 7 (ix p0)) = some (.inr (4, [.ref (ad 8 (ix p0)), .ref (ad 9 (ix p0)), .int (nI (rnS st (ix p0)))])) := hC.1 7 _ (ok7 hi9.2)
  have h_V : Mw (ad 8 (ix p0)) = some (.inl (G.2.1 0, 8, .inl (rvS st (ix p0)))) := hC.1 8 _ (ok8 hi9.2)
  have h_E : Mw (ad 9 (ix p0)) = some (.inl (G.2.1 0, 8, .inl (reS st (ix p0)))) := hC.1 9 _ (ok9 hi9.2)
  have h_T : Mw (ad 3 (tbN st (ix p0))) = some (.inr (6, [.ref (ad 4 (tbN st (ix p0))), .int (usS st (tbN st (ix p0)))])) := hC.1 3 _ (ok3 hT9)
  have h_B : Mw (ad 4 (tbN st (ix p0))) = some (.inl (G.2.1 0, 20, .inl (boS st (tbN st (ix p0))))) := hC.1 4 _ (ok4 hT9)
  refine lv_astore_n (lv' := [(3, .ref (ad 5 (ix p0))), (0, .ref (ad 0 0)), (1, .int p0), (2, .int p1)]) hx hb dX4_keep_5 rfl hl (by decide) rfl (fun ls hl => ?_)
  refine lv_aload_n hx hb dX4_keep_6 rfl (lv_at hl 0 rfl) ?_
  refine m_getN (ci := 3) (v := .int (itS st (ix p0) 9)) (C := RX0) (T := TX0) (N := 15) hx hb hts i_X0 hown hK (hP _ _ h_I) rfl 12 (by decide) (va_Nw.use rfl (hG.2.1.2.1 ("Meniscus", 255, "Meniscus$Instrument", "keeper", "Z", "Meniscus") (by decide +kernel))) (fun _ h9 => h9) rfl dX4_keep_7 ?_
  refine lv_istore (lv' := [(4, .int (itS st (ix p0) 9)), (3, .ref (ad 5 (ix p0))), (0, .ref (ad 0 0)), (1, .int p0), (2, .int p1)]) hx hb dX4_keep_10 hl (by decide) rfl (fun ls hl => ?_)
  refine lv_aload_n hx hb dX4_keep_12 rfl (lv_at hl 1 rfl) ?_
  refine lv_iload_n hx hb dX4_keep_13 rfl (lv_at hl 4 rfl) ?_
  refine m_putN (ci := 3) (v := .int p1) (ty := .boolean) (C := RX0) (T := TX0) (N := 15) hx hb hts i_X0 tyX0 tyX0_ok nmX0 hown hK hP hI hS h_I rfl 12 (by decide) (va_Nw.use rfl (hG.2.1.2.1 ("Meniscus", 255, "Meniscus$Instrument", "keeper", "Z", "Meniscus") (by decide +kernel))) (fun _ h9 => h9) rfl (by decide +kernel) (nb01 h01).1 (nb01 h01).2 (Nat.le_of_ble_eq_true rfl) dX4_keep_14 (fun H locs hP hI hS => ?_)
  have hP : mP G.1 (mu Mw (ad 5 (ix p0)) (.inr (3, [.int (itS st (ix p0) 0), .ref (ad 3 (tbN st (ix p0))), .int (itS st (ix p0) 1), .int (itS st (ix p0) 2), .ref (ad 6 (ix p0)), .ref (ad 7 (ix p0)), .int (itS st (ix p0) 3), .int (itS st (ix p0) 4), .int (itS st (ix p0) 5), .int (itS st (ix p0) 6), .int (itS st (ix p0) 7), .int (itS st (ix p0) 8), .int p1, .int (itS st (ix p0) 10), .int (itS st (ix p0) 11)]))) H := hP
  have hI : mI A (mu Mw (ad 5 (ix p0)) (.inr (3, [.int (itS st (ix p0) 0), .ref (ad 3 (tbN st (ix p0))), .int (itS st (ix p0) 1), .int (itS st (ix p0) 2), .ref (ad 6 (ix p0)), .ref (ad 7 (ix p0)), .int (itS st (ix p0) 3), .int (itS st (ix p0) 4), .int (itS st (ix p0) 5), .int (itS st (ix p0) 6), .int (itS st (ix p0) 7), .int (itS st (ix p0) 8), .int p1, .int (itS st (ix p0) 10), .int (itS st (ix p0) 11)]))) := hI
  have h_X := mu_k (e := .inr (3, [.int (itS st (ix p0) 0), .ref (ad 3 (tbN st (ix p0))), .int (itS st (ix p0) 1), .int (itS st (ix p0) 2), .ref (ad 6 (ix p0)), .ref (ad 7 (ix p0)), .int (itS st (ix p0) 3), .int (itS st (ix p0) 4), .int (itS st (ix p0) 5), .int (itS st (ix p0) 6), .int (itS st (ix p0) 7), .int (itS st (ix p0) 8), .int p1, .int (itS st (ix p0) 10), .int (itS st (ix p0) 11)])) (kd_ne h_X h_I rfl) h_X
  have h_TA := mu_k (e := .inr (3, [.int (itS st (ix p0) 0), .ref (ad 3 (tbN st (ix p0))), .int (itS st (ix p0) 1), .int (itS st (ix p0) 2), .ref (ad 6 (ix p0)), .ref (ad 7 (ix p0)), .int (itS st (ix p0) 3), .int (itS st (ix p0) 4), .int (itS st (ix p0) 5), .int (itS st (ix p0) 6), .int (itS st (ix p0) 7), .int (itS st (ix p0) 8), .int p1, .int (itS st (ix p0) 10), .int (itS st (ix p0) 11)])) (kd_ne h_TA h_I rfl) h_TA
  have h_IA := mu_k (e := .inr (3, [.int (itS st (ix p0) 0), .ref (ad 3 (tbN st (ix p0))), .int (itS st (ix p0) 1), .int (itS st (ix p0) 2), .ref (ad 6 (ix p0)), .ref (ad 7 (ix p0)), .int (itS st (ix p0) 3), .int (itS st (ix p0) 4), .int (itS st (ix p0) 5), .int (itS st (ix p0) 6), .int (itS st (ix p0) 7), .int (itS st (ix p0) 8), .int p1, .int (itS st (ix p0) 10), .int (itS st (ix p0) 11)])) (kd_ne h_IA h_I rfl) h_IA
  have h_S := mu_k (e := .inr (3, [.int (itS st (ix p0) 0), .ref (ad 3 (tbN st (ix p0))), .int (itS st (ix p0) 1), .int (itS st (ix p0) 2), .ref (ad 6 (ix p0)), .ref (ad 7 (ix p0)), .int (itS st (ix p0) 3), .int (itS st (ix p0) 4), .int (itS st (ix p0) 5), .int (itS st (ix p0) 6), .int (itS st (ix p0) 7), .int (itS st (ix p0) 8), .int p1, .int (itS st (ix p0) 10), .int (itS st (ix p0) 11)])) (kd_ne h_S h_I rfl) h_S
  have h_R := mu_k (e := .inr (3, [.int (itS st (ix p0) 0), .ref (ad 3 (tbN st (ix p0))), .int (itS st (ix p0) 1), .int (itS st (ix p0) 2), .ref (ad 6 (ix p0)), .ref (ad 7 (ix p0)), .int (itS st (ix p0) 3), .int (itS st (ix p0) 4), .int (itS st (ix p0) 5), .int (itS st (ix p0) 6), .int (itS st (ix p0) 7), .int (itS st (ix p0) 8), .int p1, .int (itS st (ix p0) 10), .int (itS st (ix p0) 11)])) (kd_ne h_R h_I rfl) h_R
  have h_V := mu_k (e := .inr (3, [.int (itS st (ix p0) 0), .ref (ad 3 (tbN st (ix p0))), .int (itS st (ix p0) 1), .int (itS st (ix p0) 2), .ref (ad 6 (ix p0)), .ref (ad 7 (ix p0)), .int (itS st (ix p0) 3), .int (itS st (ix p0) 4), .int (itS st (ix p0) 5), .int (itS st (ix p0) 6), .int (itS st (ix p0) 7), .int (itS st (ix p0) 8), .int p1, .int (itS st (ix p0) 10), .int (itS st (ix p0) 11)])) (kd_ne h_V h_I rfl) h_V
  have h_E := mu_k (e := .inr (3, [.int (itS st (ix p0) 0), .ref (ad 3 (tbN st (ix p0))), .int (itS st (ix p0) 1), .int (itS st (ix p0) 2), .ref (ad 6 (ix p0)), .ref (ad 7 (ix p0)), .int (itS st (ix p0) 3), .int (itS st (ix p0) 4), .int (itS st (ix p0) 5), .int (itS st (ix p0) 6), .int (itS st (ix p0) 7), .int (itS st (ix p0) 8), .int p1, .int (itS st (ix p0) 10), .int (itS st (ix p0) 11)])) (kd_ne h_E h_I rfl) h_E
  have h_T := mu_k (e := .inr (3, [.int (itS st (ix p0) 0), .ref (ad 3 (tbN st (ix p0))), .int (itS st (ix p0) 1), .int (itS st (ix p0) 2), .ref (ad 6 (ix p0)), .ref (ad 7 (ix p0)), .int (itS st (ix p0) 3), .int (itS st (ix p0) 4), .int (itS st (ix p0) 5), .int (itS st (ix p0) 6), .int (itS st (ix p0) 7), .int (itS st (ix p0) 8), .int p1, .int (itS st (ix p0) 10), .int (itS st (ix p0) 11)])) (kd_ne h_T h_I rfl) h_T
  have h_B := mu_k (e := .inr (3, [.int (itS st (ix p0) 0), .ref (ad 3 (tbN st (ix p0))), .int (itS st (ix p0) 1), .int (itS st (ix p0) 2), .ref (ad 6 (ix p0)), .ref (ad 7 (ix p0)), .int (itS st (ix p0) 3), .int (itS st (ix p0) 4), .int (itS st (ix p0) 5), .int (itS st (ix p0) 6), .int (itS st (ix p0) 7), .int (itS st (ix p0) 8), .int p1, .int (itS st (ix p0) 10), .int (itS st (ix p0) 11)])) (kd_ne h_B h_I rfl) h_B
  have h_I : (mu Mw (ad 5 (ix p0)) (.inr (3, [.int (itS st (ix p0) 0), .ref (ad 3 (tbN st (ix p0))), .int (itS st (ix p0) 1), .int (itS st (ix p0) 2), .ref (ad 6 (ix p0)), .ref (ad 7 (ix p0)), .int (itS st (ix p0) 3), .int (itS st (ix p0) 4), .int (itS st (ix p0) 5), .int (itS st (ix p0) 6), .int (itS st (ix p0) 7), .int (itS st (ix p0) 8), .int p1, .int (itS st (ix p0) 10), .int (itS st (ix p0) 11)]))) (ad 5 (ix p0)) = some (.inr (3, [.int (itS st (ix p0) 0), .ref (ad 3 (tbN st (ix p0))), .int (itS st (ix p0) 1), .int (itS st (ix p0) 2), .ref (ad 6 (ix p0)), .ref (ad 7 (ix p0)), .int (itS st (ix p0) 3), .int (itS st (ix p0) 4), .int (itS st (ix p0) 5), .int (itS st (ix p0) 6), .int (itS st (ix p0) 7), .int (itS st (ix p0) 8), .int p1, .int (itS st (ix p0) 10), .int (itS st (ix p0) 11)])) := mu_s
  refine lv_aload_n hx hb dX4_keep_17 rfl (lv_at hl 1 rfl) ?_
  refine lv_iconst (v := (-1)) hx hb dX4_keep_18 (by decide) ?_
  refine m_putN (ci := 3) (v := .int ((-1))) (ty := .int) (C := RX0) (T := TX0) (N := 15) hx hb hts i_X0 tyX0 tyX0_ok nmX0 hown hK hP hI hS h_I rfl 13 (by decide) (va_Nw.use rfl (hG.2.1.2.1 ("Meniscus", 258, "Meniscus$Instrument", "greatestLevel", "I", "Meniscus") (by decide +kernel))) (fun _ h9 => h9) rfl (by decide +kernel) rfl rfl (Nat.le_of_ble_eq_true rfl) dX4_keep_19 (fun H locs hP hI hS => ?_)
  have hP : mP G.1 (mu (mu Mw (ad 5 (ix p0)) (.inr (3, [.int (itS st (ix p0) 0), .ref (ad 3 (tbN st (ix p0))), .int (itS st (ix p0) 1), .int (itS st (ix p0) 2), .ref (ad 6 (ix p0)), .ref (ad 7 (ix p0)), .int (itS st (ix p0) 3), .int (itS st (ix p0) 4), .int (itS st (ix p0) 5), .int (itS st (ix p0) 6), .int (itS st (ix p0) 7), .int (itS st (ix p0) 8), .int p1, .int (itS st (ix p0) 10), .int (itS st (ix p0) 11)]))) (ad 5 (ix p0)) (.inr (3, [.int (itS st (ix p0) 0), .ref (ad 3 (tbN st (ix p0))), .int (itS st (ix p0) 1), .int (itS st (ix p0) 2), .ref (ad 6 (ix p0)), .ref (ad 7 (ix p0)), .int (itS st (ix p0) 3), .int (itS st (ix p0) 4), .int (itS st (ix p0) 5), .int (itS st (ix p0) 6), .int (itS st (ix p0) 7), .int (itS st (ix p0) 8), .int p1, .int ((-1)), .int (itS st (ix p0) 11)]))) H := hP
  have hI : mI A (mu (mu Mw (ad 5 (ix p0)) (.inr (3, [.int (itS st (ix p0) 0), .ref (ad 3 (tbN st (ix p0))), .int (itS st (ix p0) 1), .int (itS st (ix p0) 2), .ref (ad 6 (ix p0)), .ref (ad 7 (ix p0)), .int (itS st (ix p0) 3), .int (itS st (ix p0) 4), .int (itS st (ix p0) 5), .int (itS st (ix p0) 6), .int (itS st (ix p0) 7), .int (itS st (ix p0) 8), .int p1, .int (itS st (ix p0) 10), .int (itS st (ix p0) 11)]))) (ad 5 (ix p0)) (.inr (3, [.int (itS st (ix p0) 0), .ref (ad 3 (tbN st (ix p0))), .int (itS st (ix p0) 1), .int (itS st (ix p0) 2), .ref (ad 6 (ix p0)), .ref (ad 7 (ix p0)), .int (itS st (ix p0) 3), .int (itS st (ix p0) 4), .int (itS st (ix p0) 5), .int (itS st (ix p0) 6), .int (itS st (ix p0) 7), .int (itS st (ix p0) 8), .int p1, .int ((-1)), .int (itS st (ix p0) 11)]))) := hI
  have h_X := mu_k (e := .inr (3, [.int (itS st (ix p0) 0), .ref (ad 3 (tbN st (ix p0))), .int (itS st (ix p0) 1), .int (itS st (ix p0) 2), .ref (ad 6 (ix p0)), .ref (ad 7 (ix p0)), .int (itS st (ix p0) 3), .int (itS st (ix p0) 4), .int (itS st (ix p0) 5), .int (itS st (ix p0) 6), .int (itS st (ix p0) 7), .int (itS st (ix p0) 8), .int p1, .int ((-1)), .int (itS st (ix p0) 11)])) (kd_ne h_X h_I rfl) h_X
  have h_TA := mu_k (e := .inr (3, [.int (itS st (ix p0) 0), .ref (ad 3 (tbN st (ix p0))), .int (itS st (ix p0) 1), .int (itS st (ix p0) 2), .ref (ad 6 (ix p0)), .ref (ad 7 (ix p0)), .int (itS st (ix p0) 3), .int (itS st (ix p0) 4), .int (itS st (ix p0) 5), .int (itS st (ix p0) 6), .int (itS st (ix p0) 7), .int (itS st (ix p0) 8), .int p1, .int ((-1)), .int (itS st (ix p0) 11)])) (kd_ne h_TA h_I rfl) h_TA
  have h_IA := mu_k (e := .inr (3, [.int (itS st (ix p0) 0), .ref (ad 3 (tbN st (ix p0))), .int (itS st (ix p0) 1), .int (itS st (ix p0) 2), .ref (ad 6 (ix p0)), .ref (ad 7 (ix p0)), .int (itS st (ix p0) 3), .int (itS st (ix p0) 4), .int (itS st (ix p0) 5), .int (itS st (ix p0) 6), .int (itS st (ix p0) 7), .int (itS st (ix p0) 8), .int p1, .int ((-1)), .int (itS st (ix p0) 11)])) (kd_ne h_IA h_I rfl) h_IA
  have h_S := mu_k (e := .inr (3, [.int (itS st (ix p0) 0), .ref (ad 3 (tbN st (ix p0))), .int (itS st (ix p0) 1), .int (itS st (ix p0) 2), .ref (ad 6 (ix p0)), .ref (ad 7 (ix p0)), .int (itS st (ix p0) 3), .int (itS st (ix p0) 4), .int (itS st (ix p0) 5), .int (itS st (ix p0) 6), .int (itS st (ix p0) 7), .int (itS st (ix p0) 8), .int p1, .int ((-1)), .int (itS st (ix p0) 11)])) (kd_ne h_S h_I rfl) h_S
  have h_R := mu_k (e := .inr (3, [.int (itS st (ix p0) 0), .ref (ad 3 (tbN st (ix p0))), .int (itS st (ix p0) 1), .int (itS st (ix p0) 2), .ref (ad 6 (ix p0)), .ref (ad 7 (ix p0)), .int (itS st (ix p0) 3), .int (itS st (ix p0) 4), .int (itS st (ix p0) 5), .int (itS st (ix p0) 6), .int (itS st (ix p0) 7), .int (itS st (ix p0) 8), .int p1, .int ((-1)), .int (itS st (ix p0) 11)])) (kd_ne h_R h_I rfl) h_R
  have h_V := mu_k (e := .inr (3, [.int (itS st (ix p0) 0), .ref (ad 3 (tbN st (ix p0))), .int (itS st (ix p0) 1), .int (itS st (ix p0) 2), .ref (ad 6 (ix p0)), .ref (ad 7 (ix p0)), .int (itS st (ix p0) 3), .int (itS st (ix p0) 4), .int (itS st (ix p0) 5), .int (itS st (ix p0) 6), .int (itS st (ix p0) 7), .int (itS st (ix p0) 8), .int p1, .int ((-1)), .int (itS st (ix p0) 11)])) (kd_ne h_V h_I rfl) h_V
  have h_E := mu_k (e := .inr (3, [.int (itS st (ix p0) 0), .ref (ad 3 (tbN st (ix p0))), .int (itS st (ix p0) 1), .int (itS st (ix p0) 2), .ref (ad 6 (ix p0)), .ref (ad 7 (ix p0)), .int (itS st (ix p0) 3), .int (itS st (ix p0) 4), .int (itS st (ix p0) 5), .int (itS st (ix p0) 6), .int (itS st (ix p0) 7), .int (itS st (ix p0) 8), .int p1, .int ((-1)), .int (itS st (ix p0) 11)])) (kd_ne h_E h_I rfl) h_E
  have h_T := mu_k (e := .inr (3, [.int (itS st (ix p0) 0), .ref (ad 3 (tbN st (ix p0))), .int (itS st (ix p0) 1), .int (itS st (ix p0) 2), .ref (ad 6 (ix p0)), .ref (ad 7 (ix p0)), .int (itS st (ix p0) 3), .int (itS st (ix p0) 4), .int (itS st (ix p0) 5), .int (itS st (ix p0) 6), .int (itS st (ix p0) 7), .int (itS st (ix p0) 8), .int p1, .int ((-1)), .int (itS st (ix p0) 11)])) (kd_ne h_T h_I rfl) h_T
  have h_B := mu_k (e := .inr (3, [.int (itS st (ix p0) 0), .ref (ad 3 (tbN st (ix p0))), .int (itS st (ix p0) 1), .int (itS st (ix p0) 2), .ref (ad 6 (ix p0)), .ref (ad 7 (ix p0)), .int (itS st (ix p0) 3), .int (itS st (ix p0) 4), .int (itS st (ix p0) 5), .int (itS st (ix p0) 6), .int (itS st (ix p0) 7), .int (itS st (ix p0) 8), .int p1, .int ((-1)), .int (itS st (ix p0) 11)])) (kd_ne h_B h_I rfl) h_B
  rw [mu_uu] at hP hI h_X h_TA h_IA h_S h_R h_V h_E h_T h_B
  have h_I : (mu Mw (ad 5 (ix p0)) (.inr (3, [.int (itS st (ix p0) 0), .ref (ad 3 (tbN st (ix p0))), .int (itS st (ix p0) 1), .int (itS st (ix p0) 2), .ref (ad 6 (ix p0)), .ref (ad 7 (ix p0)), .int (itS st (ix p0) 3), .int (itS st (ix p0) 4), .int (itS st (ix p0) 5), .int (itS st (ix p0) 6), .int (itS st (ix p0) 7), .int (itS st (ix p0) 8), .int p1, .int ((-1)), .int (itS st (ix p0) 11)]))) (ad 5 (ix p0)) = some (.inr (3, [.int (itS st (ix p0) 0), .ref (ad 3 (tbN st (ix p0))), .int (itS st (ix p0) 1), .int (itS st (ix p0) 2), .ref (ad 6 (ix p0)), .ref (ad 7 (ix p0)), .int (itS st (ix p0) 3), .int (itS st (ix p0) 4), .int (itS st (ix p0) 5), .int (itS st (ix p0) 6), .int (itS st (ix p0) 7), .int (itS st (ix p0) 8), .int p1, .int ((-1)), .int (itS st (ix p0) 11)])) := mu_s
  refine lv_iload hx hb dX4_keep_22 (lv_at hl 0 rfl) ?_
  refine W.widen (k := 1) (n := 6) (Nat.le_of_ble_eq_true rfl) (Nat.le_of_ble_eq_true rfl) ?_
  refine vx_ret ?_
  exact W.zret (v := itS st (ix p0) 9) hx hb hr (nb01 (hV.ke hi9.2)).1 (fun t99 ht99 hW99 => ⟨⟨itS st (ix p0) 9, (mu Mw (ad 5 (ix p0)) (.inr (3, [.int (itS st (ix p0) 0), .ref (ad 3 (tbN st (ix p0))), .int (itS st (ix p0) 1), .int (itS st (ix p0) 2), .ref (ad 6 (ix p0)), .ref (ad 7 (ix p0)), .int (itS st (ix p0) 3), .int (itS st (ix p0) 4), .int (itS st (ix p0) 5), .int (itS st (ix p0) 6), .int (itS st (ix p0) 7), .int (itS st (ix p0) 8), .int p1, .int ((-1)), .int (itS st (ix p0) 11)]))), rfl, ⟨sIt st (ix p0) (fu (fu (itS st (ix p0)) 9 p1) 10 (-1)), ad, by unfold m_keep; first | (rw [chk_p hi9]; done) | (rw [chk_p hi9]; rfl), hC.sit5 hi9.2 (fu (fu (itS st (ix p0)) 9 p1) 10 (-1)) rfl ⟨rfl, rfl, rfl, rfl⟩, rfl⟩, by rw [ht99]; exact hP, hI⟩, hS.F ht99⟩) hS.2.2 dX4_keep_24

set_option maxHeartbeats 4000000 in
set_option maxRecDepth 100000 in
theorem c_X4_shake (l : Launch) (G : mg) (A : Nat → Prop) (Mw : mw) (hl9 : l.stackTraces = false) (st : St) (ad : adr) (p0 : Int32) (hC : CS G st ad Mw) (hV : Inv st) : vx_Met l yX4_shake wsX4_shake ({ frames := 7, cells := 2, slots := 12, locals := 103 }) (va_Pc [.ref (ad 0 0), .int p0] (mB G A Mw)) (va_Qi (fun r Mw1 => ∃ (s1 : St) (ad1 : adr), m_shake st p0 = (0, r, s1) ∧ CS G s1 ad1 Mw1 ∧ ad1 0 0 = ad 0 0) (mE G A) A) (xX (fun E => exc ["java/lang/IndexOutOfBoundsException", "java/lang/UnsupportedOperationException", "java/util/NoSuchElementException"] (m_shake st p0) E) G A Mw) 2 12 A := by
  refine vx_ofW (cc := cX4_shake) (maxL := 4) (ret := (some .int)) (by decide) rfl ?_
  intro p e s m args below meth c s₁ B hml hxt hv
  obtain ⟨rfl, hG, hP, hI, hA⟩ := hv
  have hx := B.exec
  have hb := B.bytes
  have hr := B.returns
  have hts := atoms_spec (ws := wsX4_shake) B.pre
  have hown : s.vm.findClass RX4 = some m.cls := findClass_of_methodNamed B.named
  have hlocks := B.notSynchronized
  have hK := hG.K
  have i_X0 : ∀ w ∈ wsX00, w ∈ wsX4_shake := by decide +kernel
  have hS : va_S A s.heap s.heap [] := va_S.rf
  have hl := lv_entry ([.ref (ad 0 0), .int p0]) (n := 4) (Nat.le_of_ble_eq_true rfl)
  rw [lg_entry_eq]
  generalize (lg_sl ([.ref (ad 0 0), .int p0]) ++ List.replicate (4 - (lg_sl ([.ref (ad 0 0), .int p0])).length) Slot.unset).toArray = ls at hl ⊢
  have hl : lv_has ls 4 [(0, .ref (ad 0 0)), (1, .int p0)] := hl
  have hP : mP G.1 Mw s.heap := hP
  have h_X : Mw (ad 0 0) = some (.inr (7, [.ref (ad 1 0), .ref (ad 2 0), .int (nI (nT st)), .int (nI (nN st)), .int (gS st 0), .int (gS st 1), .int (gS st 2), .int (gS st 3), .int (gS st 4)])) := hC.1 0 0 (ok0 st)
  have h_TA : Mw (ad 1 0) = some (.inl (G.2.1 3, 8, .inr (.inr (.inr (.inr (qf (nT st) (ad 3))))))) := hC.1 1 0 (ok1 st)
  have h_IA : Mw (ad 2 0) = some (.inl (G.2.1 4, 6, .inr (.inr (.inr (.inr (qf (nN st) (ad 5))))))) := hC.1 2 0 (ok2 st)
  have hta9 := hC.ne (ok1 st) (ok2 st) (by omega)
  refine lv_aload_n hx hb dX4_shake_0 rfl (lv_at hl 0 rfl) ?_
  refine lv_iload_n hx hb dX4_shake_1 rfl (lv_at hl 1 rfl) ?_
  refine mx_callq (vx_runV (As := [.int p0]) (rest := []) ⟨hx, hb, hml, hown, hts⟩ (c_X4_instrumentNumbered l G A Mw hl9  p0 h_X hV.1.2 h_IA) (cwV 1 hts gX4_shake_X4_instrumentNumbered rfl rfl rfl (by decide +kernel) ⟨Nat.le_of_ble_eq_true rfl, Nat.le_of_ble_eq_true rfl⟩) (mPreV hG hS hP hI hA (hP _ _ h_X) (r := (RX4, TX4, 9)) rfl) rfl rfl hl.1 rfl (lv_room (Nat.le_of_ble_eq_true rfl)) dX4_shake_2 ⟨Nat.le_of_ble_eq_true rfl, Nat.le_of_ble_eq_true rfl⟩) hS (fun E9 ce9 q9 H locs hpx9 hP hI hS hc9 hv9 hcl9 => m_out (px := fun E => exc ["java/lang/IndexOutOfBoundsException", "java/lang/UnsupportedOperationException", "java/util/NoSuchElementException"] (m_shake st p0) E) (fun x hx9 => absurd hx9 (fun q => hxt x q)) hlocks hP hI hS hc9 hv9 hcl9 ((by obtain ⟨hE9, hn9⟩ := hpx9; subst hE9; exact exc_of (by unfold m_shake; first | (rw [chk_n hn9]; done) | (rw [chk_n hn9]; rfl)) rfl)) (Nat.le_of_ble_eq_true rfl) (Nat.le_of_ble_eq_true rfl)) (fun r1 Mw1 H locs hp_r1 hP hI hS => ?_)
  obtain ⟨⟨hi9, hr9⟩, hm9⟩ := hp_r1
  subst Mw1
  subst hr9
  have hT9 := hV.tb hi9.2
  have hn9 := hV.rn hi9.2
  have hve := hC.ne (ok8 hi9.2) (ok9 hi9.2) (by omega)
  have hvb := hC.ne (ok8 hi9.2) (ok4 hT9) (by omega)
  have heb := hC.ne (ok9 hi9.2) (ok4 hT9) (by omega)
  have h_I : Mw (ad 5 (ix p0)) = some (.inr (3, [.int (itS st (ix p0) 0), .ref (ad 3 (tbN st (ix p0))), .int (itS st (ix p0) 1), .int (itS st (ix p0) 2), .ref (ad 6 (ix p0)), .ref (ad 7 (ix p0)), .int (itS st (ix p0) 3), .int (itS st (ix p0) 4), .int (itS st (ix p0) 5), .int (itS st (ix p0) 6), .int (itS st (ix p0) 7), .int (itS st (ix p0) 8), .int (itS st (ix p0) 9), .int (itS st (ix p0) 10), .int (itS st (ix p0) 11)])) := hC.1 5 _ (ok5 hi9.2)
  have h_S : Mw (ad 6 (ix p0)) = some (.inr (5, [.ref (ad 3 (tbN st (ix p0))), .int (itS st (ix p0) 12), .int (itS st (ix p0) 13), .int (itS st (ix p0) 14), .int (itS st (ix p0) 15)])) := hC.1 6 _ (ok6 hi9.2)
  have h_R : Mw (ad 7 (ix p0)) = some (.inr (4, [.ref (ad 8 (ix p0)), .ref (ad 9 (ix p0)), .int (nI (rnS st (ix p0)))])) := hC.1 7 _ (ok7 hi9.2)
  have h_V : Mw (ad 8 (ix p0)) = some (.inl (G.2.1 0, 8, .inl (rvS st (ix p0)))) := hC.1 8 _ (ok8 hi9.2)
  have h_E : Mw (ad 9 (ix p0)) = some (.inl (G.2.1 0, 8, .inl (reS st (ix p0)))) := hC.1 9 _ (ok9 hi9.2)
  have h_T : Mw (ad 3 (tbN st (ix p0))) = some (.inr (6, [.ref (ad 4 (tbN st (ix p0))), .int (usS st (tbN st (ix p0)))])) := hC.1 3 _ (ok3 hT9)
  have h_B : Mw (ad 4 (tbN st (ix p0))) = some (.inl (G.2.1 0, 20, .inl (boS st (tbN st (ix p0))))) := hC.1 4 _ (ok4 hT9)
  refine lv_astore_n (lv' := [(2, .ref (ad 5 (ix p0))), (0, .ref (ad 0 0)), (1, .int p0)]) hx hb dX4_shake_5 rfl hl (by decide) rfl (fun ls hl => ?_)
  refine lv_aload_n hx hb dX4_shake_6 rfl (lv_at hl 0 rfl) ?_
  refine m_getN (ci := 3) (v := .int (itS st (ix p0) 9)) (C := RX0) (T := TX0) (N := 15) hx hb hts i_X0 hown hK (hP _ _ h_I) rfl 12 (by decide) (va_Nw.use rfl (hG.2.1.2.1 ("Meniscus", 255, "Meniscus$Instrument", "keeper", "Z", "Meniscus") (by decide +kernel))) (fun _ h9 => h9) rfl dX4_shake_7 ?_
  refine lv_if_ne (tgt := 24) hx hb dX4_shake_10 (by decide) (fun c2 => ?_) (fun c2 => ?_)
  · skip
    refine lv_aload_n hx hb dX4_shake_24 rfl (lv_at hl 0 rfl) ?_
    refine m_getN (ci := 3) (v := .int (itS st (ix p0) 10)) (C := RX0) (T := TX0) (N := 15) hx hb hts i_X0 hown hK (hP _ _ h_I) rfl 13 (by decide) (va_Nw.use rfl (hG.2.1.2.1 ("Meniscus", 258, "Meniscus$Instrument", "greatestLevel", "I", "Meniscus") (by decide +kernel))) (fun _ h9 => h9) rfl dX4_shake_25 ?_
    refine lv_iconst (v := (-1)) hx hb dX4_shake_28 (by decide) ?_
    refine lv_icmp_ne (tgt := 43) hx hb dX4_shake_29 (by decide) (fun c3 => ?_) (fun c3 => ?_)
    · skip
      refine lv_aload_n hx hb dX4_shake_43 rfl (lv_at hl 0 rfl) ?_
      refine m_getN (ci := 3) (v := .int (itS st (ix p0) 10)) (C := RX0) (T := TX0) (N := 15) hx hb hts i_X0 hown hK (hP _ _ h_I) rfl 13 (by decide) (va_Nw.use rfl (hG.2.1.2.1 ("Meniscus", 258, "Meniscus$Instrument", "greatestLevel", "I", "Meniscus") (by decide +kernel))) (fun _ h9 => h9) rfl dX4_shake_44 ?_
      refine lv_istore_n (lv' := [(3, .int (itS st (ix p0) 10)), (2, .ref (ad 5 (ix p0))), (0, .ref (ad 0 0)), (1, .int p0)]) hx hb dX4_shake_47 rfl hl (by decide) rfl (fun ls hl => ?_)
      refine lv_aload_n hx hb dX4_shake_48 rfl (lv_at hl 1 rfl) ?_
      refine lv_iconst (v := (-1)) hx hb dX4_shake_49 (by decide) ?_
      refine m_putN (ci := 3) (v := .int ((-1))) (ty := .int) (C := RX0) (T := TX0) (N := 15) hx hb hts i_X0 tyX0 tyX0_ok nmX0 hown hK hP hI hS h_I rfl 13 (by decide) (va_Nw.use rfl (hG.2.1.2.1 ("Meniscus", 258, "Meniscus$Instrument", "greatestLevel", "I", "Meniscus") (by decide +kernel))) (fun _ h9 => h9) rfl (by decide +kernel) rfl rfl (Nat.le_of_ble_eq_true rfl) dX4_shake_50 (fun H locs hP hI hS => ?_)
      have hP : mP G.1 (mu Mw (ad 5 (ix p0)) (.inr (3, [.int (itS st (ix p0) 0), .ref (ad 3 (tbN st (ix p0))), .int (itS st (ix p0) 1), .int (itS st (ix p0) 2), .ref (ad 6 (ix p0)), .ref (ad 7 (ix p0)), .int (itS st (ix p0) 3), .int (itS st (ix p0) 4), .int (itS st (ix p0) 5), .int (itS st (ix p0) 6), .int (itS st (ix p0) 7), .int (itS st (ix p0) 8), .int (itS st (ix p0) 9), .int ((-1)), .int (itS st (ix p0) 11)]))) H := hP
      have hI : mI A (mu Mw (ad 5 (ix p0)) (.inr (3, [.int (itS st (ix p0) 0), .ref (ad 3 (tbN st (ix p0))), .int (itS st (ix p0) 1), .int (itS st (ix p0) 2), .ref (ad 6 (ix p0)), .ref (ad 7 (ix p0)), .int (itS st (ix p0) 3), .int (itS st (ix p0) 4), .int (itS st (ix p0) 5), .int (itS st (ix p0) 6), .int (itS st (ix p0) 7), .int (itS st (ix p0) 8), .int (itS st (ix p0) 9), .int ((-1)), .int (itS st (ix p0) 11)]))) := hI
      have h_X := mu_k (e := .inr (3, [.int (itS st (ix p0) 0), .ref (ad 3 (tbN st (ix p0))), .int (itS st (ix p0) 1), .int (itS st (ix p0) 2), .ref (ad 6 (ix p0)), .ref (ad 7 (ix p0)), .int (itS st (ix p0) 3), .int (itS st (ix p0) 4), .int (itS st (ix p0) 5), .int (itS st (ix p0) 6), .int (itS st (ix p0) 7), .int (itS st (ix p0) 8), .int (itS st (ix p0) 9), .int ((-1)), .int (itS st (ix p0) 11)])) (kd_ne h_X h_I rfl) h_X
      have h_TA := mu_k (e := .inr (3, [.int (itS st (ix p0) 0), .ref (ad 3 (tbN st (ix p0))), .int (itS st (ix p0) 1), .int (itS st (ix p0) 2), .ref (ad 6 (ix p0)), .ref (ad 7 (ix p0)), .int (itS st (ix p0) 3), .int (itS st (ix p0) 4), .int (itS st (ix p0) 5), .int (itS st (ix p0) 6), .int (itS st (ix p0) 7), .int (itS st (ix p0) 8), .int (itS st (ix p0) 9), .int ((-1)), .int (itS st (ix p0) 11)])) (kd_ne h_TA h_I rfl) h_TA
      have h_IA := mu_k (e := .inr (3, [.int (itS st (ix p0) 0), .ref (ad 3 (tbN st (ix p0))), .int (itS st (ix p0) 1), .int (itS st (ix p0) 2), .ref (ad 6 (ix p0)), .ref (ad 7 (ix p0)), .int (itS st (ix p0) 3), .int (itS st (ix p0) 4), .int (itS st (ix p0) 5), .int (itS st (ix p0) 6), .int (itS st (ix p0) 7), .int (itS st (ix p0) 8), .int (itS st (ix p0) 9), .int ((-1)), .int (itS st (ix p0) 11)])) (kd_ne h_IA h_I rfl) h_IA
      have h_S := mu_k (e := .inr (3, [.int (itS st (ix p0) 0), .ref (ad 3 (tbN st (ix p0))), .int (itS st (ix p0) 1), .int (itS st (ix p0) 2), .ref (ad 6 (ix p0)), .ref (ad 7 (ix p0)), .int (itS st (ix p0) 3), .int (itS st (ix p0) 4), .int (itS st (ix p0) 5), .int (itS st (ix p0) 6), .int (itS st (ix p0) 7), .int (itS st (ix p0) 8), .int (itS st (ix p0) 9), .int ((-1)), .int (itS st (ix p0) 11)])) (kd_ne h_S h_I rfl) h_S
      have h_R := mu_k (e := .inr (3, [.int (itS st (ix p0) 0), .ref (ad 3 (tbN st (ix p0))), .int (itS st (ix p0) 1), .int (itS st (ix p0) 2), .ref (ad 6 (ix p0)), .ref (ad 7 (ix p0)), .int (itS st (ix p0) 3), .int (itS st (ix p0) 4), .int (itS st (ix p0) 5), .int (itS st (ix p0) 6), .int (itS st (ix p0) 7), .int (itS st (ix p0) 8), .int (itS st (ix p0) 9), .int ((-1)), .int (itS st (ix p0) 11)])) (kd_ne h_R h_I rfl) h_R
      have h_V := mu_k (e := .inr (3, [.int (itS st (ix p0) 0), .ref (ad 3 (tbN st (ix p0))), .int (itS st (ix p0) 1), .int (itS st (ix p0) 2), .ref (ad 6 (ix p0)), .ref (ad 7 (ix p0)), .int (itS st (ix p0) 3), .int (itS st (ix p0) 4), .int (itS st (ix p0) 5), .int (itS st (ix p0) 6), .int (itS st (ix p0) 7), .int (itS st (ix p0) 8), .int (itS st (ix p0) 9), .int ((-1)), .int (itS st (ix p0) 11)])) (kd_ne h_V h_I rfl) h_V
      have h_E := mu_k (e := .inr (3, [.int (itS st (ix p0) 0), .ref (ad 3 (tbN st (ix p0))), .int (itS st (ix p0) 1), .int (itS st (ix p0) 2), .ref (ad 6 (ix p0)), .ref (ad 7 (ix p0)), .int (itS st (ix p0) 3), .int (itS st (ix p0) 4), .int (itS st (ix p0) 5), .int (itS st (ix p0) 6), .int (itS st (ix p0) 7), .int (itS st (ix p0) 8), .int (itS st (ix p0) 9), .int ((-1)), .int (itS st (ix p0) 11)])) (kd_ne h_E h_I rfl) h_E
      have h_T := mu_k (e := .inr (3, [.int (itS st (ix p0) 0), .ref (ad 3 (tbN st (ix p0))), .int (itS st (ix p0) 1), .int (itS st (ix p0) 2), .ref (ad 6 (ix p0)), .ref (ad 7 (ix p0)), .int (itS st (ix p0) 3), .int (itS st (ix p0) 4), .int (itS st (ix p0) 5), .int (itS st (ix p0) 6), .int (itS st (ix p0) 7), .int (itS st (ix p0) 8), .int (itS st (ix p0) 9), .int ((-1)), .int (itS st (ix p0) 11)])) (kd_ne h_T h_I rfl) h_T
      have h_B := mu_k (e := .inr (3, [.int (itS st (ix p0) 0), .ref (ad 3 (tbN st (ix p0))), .int (itS st (ix p0) 1), .int (itS st (ix p0) 2), .ref (ad 6 (ix p0)), .ref (ad 7 (ix p0)), .int (itS st (ix p0) 3), .int (itS st (ix p0) 4), .int (itS st (ix p0) 5), .int (itS st (ix p0) 6), .int (itS st (ix p0) 7), .int (itS st (ix p0) 8), .int (itS st (ix p0) 9), .int ((-1)), .int (itS st (ix p0) 11)])) (kd_ne h_B h_I rfl) h_B
      have h_I : (mu Mw (ad 5 (ix p0)) (.inr (3, [.int (itS st (ix p0) 0), .ref (ad 3 (tbN st (ix p0))), .int (itS st (ix p0) 1), .int (itS st (ix p0) 2), .ref (ad 6 (ix p0)), .ref (ad 7 (ix p0)), .int (itS st (ix p0) 3), .int (itS st (ix p0) 4), .int (itS st (ix p0) 5), .int (itS st (ix p0) 6), .int (itS st (ix p0) 7), .int (itS st (ix p0) 8), .int (itS st (ix p0) 9), .int ((-1)), .int (itS st (ix p0) 11)]))) (ad 5 (ix p0)) = some (.inr (3, [.int (itS st (ix p0) 0), .ref (ad 3 (tbN st (ix p0))), .int (itS st (ix p0) 1), .int (itS st (ix p0) 2), .ref (ad 6 (ix p0)), .ref (ad 7 (ix p0)), .int (itS st (ix p0) 3), .int (itS st (ix p0) 4), .int (itS st (ix p0) 5), .int (itS st (ix p0) 6), .int (itS st (ix p0) 7), .int (itS st (ix p0) 8), .int (itS st (ix p0) 9), .int ((-1)), .int (itS st (ix p0) 11)])) := mu_s
      refine lv_iload_n hx hb dX4_shake_53 rfl (lv_at hl 0 rfl) ?_
      refine W.widen (k := 2) (n := 12) (Nat.le_of_ble_eq_true rfl) (Nat.le_of_ble_eq_true rfl) ?_
      refine vx_ret ?_
      exact W.iret (v := itS st (ix p0) 10) hx hb hr (fun t99 ht99 hW99 => ⟨⟨itS st (ix p0) 10, (mu Mw (ad 5 (ix p0)) (.inr (3, [.int (itS st (ix p0) 0), .ref (ad 3 (tbN st (ix p0))), .int (itS st (ix p0) 1), .int (itS st (ix p0) 2), .ref (ad 6 (ix p0)), .ref (ad 7 (ix p0)), .int (itS st (ix p0) 3), .int (itS st (ix p0) 4), .int (itS st (ix p0) 5), .int (itS st (ix p0) 6), .int (itS st (ix p0) 7), .int (itS st (ix p0) 8), .int (itS st (ix p0) 9), .int ((-1)), .int (itS st (ix p0) 11)]))), rfl, ⟨sIt st (ix p0) (fu (itS st (ix p0)) 10 (-1)), ad, by unfold m_shake; first | (rw [chk_p hi9, chk_p c2, chk_p c3]; done) | (rw [chk_p hi9, chk_p c2, chk_p c3]; rfl), hC.sit5 hi9.2 (fu (itS st (ix p0)) 10 (-1)) rfl ⟨rfl, rfl, rfl, rfl⟩, rfl⟩, by rw [ht99]; exact hP, hI⟩, hS.F ht99⟩) hS.2.2 dX4_shake_54
    · skip
      obtain ⟨sa9, hsa9⟩ := hG.2.1.2.2.2.2.2.1 (263, "it kept no level") (by decide +kernel)
      exact vn_throwSW (text := "it kept no level") hx hb hl9 hown (hts (.classLink RX4 68 "java/util/NoSuchElementException") (by decide +kernel)) (hts (.initialized "java/util/NoSuchElementException") (by decide +kernel)) hsa9 (m_hatN hG (fun w h => hts w (List.mem_cons_of_mem _ (List.mem_append_left _ (List.mem_append_right _ h)))) (by decide +kernel) (by decide +kernel)) (by decide +kernel) hG.2.2.1 hG.2.2.2.1 hS (hl.1.trans hml.symm) dX4_shake_32 dX4_shake_35 dX4_shake_36 dX4_shake_39 dX4_shake_42 (fun x hx9 => absurd hx9 (fun q => hxt x q)) (Nat.le_of_ble_eq_true rfl) (Nat.le_of_ble_eq_true rfl) (Nat.le_of_ble_eq_true rfl) (Nat.le_of_ble_eq_true rfl) hlocks (fun t9 _ h92 h93 => m_thrown (px := fun E => exc ["java/lang/IndexOutOfBoundsException", "java/lang/UnsupportedOperationException", "java/util/NoSuchElementException"] (m_shake st p0) E) (E := vnN) hP hI hS (exc_of (by unfold m_shake; first | (rw [chk_p hi9, chk_p c2, chk_n (fun q9 => q9 c3)]; done) | (rw [chk_p hi9, chk_p c2, chk_n (fun q9 => q9 c3)]; rfl)) rfl) t9 h92 h93) hS.2.2 (Nat.le_of_ble_eq_true rfl) (Nat.le_of_ble_eq_true rfl)
  · skip
    obtain ⟨sa9, hsa9⟩ := hG.2.1.2.2.2.2.2.1 (261, "it is no keeper") (by decide +kernel)
    exact vx_throwSW (text := "it is no keeper") (names := ["java/lang/RuntimeException", "java/lang/Exception"]) hx hb hl9 hown (by decide +kernel) (by decide +kernel) (hts (.classLink RX4 122 "java/lang/UnsupportedOperationException") (by decide +kernel)) (hts (.initialized "java/lang/UnsupportedOperationException") (by decide +kernel)) hsa9 (m_hat hG (fun w h => hts w (List.mem_cons_of_mem _ (List.mem_append_left _ (List.mem_append_left _ (List.mem_append_right _ h))))) (by decide +kernel) (by decide +kernel)) (by decide +kernel) hG.2.2.1 hG.2.2.2.1 hS (hl.1.trans hml.symm) dX4_shake_13 dX4_shake_16 dX4_shake_17 dX4_shake_20 dX4_shake_23 (fun x hx9 => absurd hx9 (fun q => hxt x q)) (Nat.le_of_ble_eq_true rfl) (Nat.le_of_ble_eq_true rfl) (Nat.le_of_ble_eq_true rfl) (Nat.le_of_ble_eq_true rfl) hlocks (fun t9 _ h92 h93 => m_thrown (px := fun E => exc ["java/lang/IndexOutOfBoundsException", "java/lang/UnsupportedOperationException", "java/util/NoSuchElementException"] (m_shake st p0) E) (E := "java/lang/UnsupportedOperationException") hP hI hS (exc_of (by unfold m_shake; first | (rw [chk_p hi9, chk_n (fun q9 => q9 c2)]; done) | (rw [chk_p hi9, chk_n (fun q9 => q9 c2)]; rfl)) rfl) t9 h92 h93) hS.2.2 (Nat.le_of_ble_eq_true rfl) (Nat.le_of_ble_eq_true rfl)

set_option maxHeartbeats 4000000 in
set_option maxRecDepth 100000 in
theorem c_X4_barometer (l : Launch) (G : mg) (A : Nat → Prop) (Mw : mw) (hl9 : l.stackTraces = false) (st : St) (ad : adr) (p0 p1 p2 p3 : Int32) (hC : CS G st ad Mw) (hV : Inv st) : vx_Met l yX4_barometer wsX4_barometer ({ frames := 7, cells := 4, slots := 24, locals := 104 }) (va_Pc [.ref (ad 0 0), .int p0, .int p1, .int p2, .int p3] (mB G A Mw)) (va_Qi (fun r Mw1 => ∃ (s1 : St) (ad1 : adr), m_barometer st p0 p1 p2 p3 = (0, r, s1) ∧ CS G s1 ad1 Mw1 ∧ ad1 0 0 = ad 0 0) (mE G A) A) (xX (fun E => exc ["java/lang/IllegalArgumentException"] (m_barometer st p0 p1 p2 p3) E) G A Mw) 4 24 A := by
  refine vx_ofW (cc := cX4_barometer) (maxL := 6) (ret := (some .int)) (by decide) rfl ?_
  intro p e s m args below meth c s₁ B hml hxt hv
  obtain ⟨rfl, hG, hP, hI, hA⟩ := hv
  have hx := B.exec
  have hb := B.bytes
  have hr := B.returns
  have hts := atoms_spec (ws := wsX4_barometer) B.pre
  have hown : s.vm.findClass RX4 = some m.cls := findClass_of_methodNamed B.named
  have hlocks := B.notSynchronized
  have hK := hG.K
  have hS : va_S A s.heap s.heap [] := va_S.rf
  have hl := lv_entry ([.ref (ad 0 0), .int p0, .int p1, .int p2, .int p3]) (n := 6) (Nat.le_of_ble_eq_true rfl)
  rw [lg_entry_eq]
  generalize (lg_sl ([.ref (ad 0 0), .int p0, .int p1, .int p2, .int p3]) ++ List.replicate (6 - (lg_sl ([.ref (ad 0 0), .int p0, .int p1, .int p2, .int p3])).length) Slot.unset).toArray = ls at hl ⊢
  have hl : lv_has ls 6 [(0, .ref (ad 0 0)), (1, .int p0), (2, .int p1), (3, .int p2), (4, .int p3)] := hl
  have hP : mP G.1 Mw s.heap := hP
  have h_X : Mw (ad 0 0) = some (.inr (7, [.ref (ad 1 0), .ref (ad 2 0), .int (nI (nT st)), .int (nI (nN st)), .int (gS st 0), .int (gS st 1), .int (gS st 2), .int (gS st 3), .int (gS st 4)])) := hC.1 0 0 (ok0 st)
  have h_TA : Mw (ad 1 0) = some (.inl (G.2.1 3, 8, .inr (.inr (.inr (.inr (qf (nT st) (ad 3))))))) := hC.1 1 0 (ok1 st)
  have h_IA : Mw (ad 2 0) = some (.inl (G.2.1 4, 6, .inr (.inr (.inr (.inr (qf (nN st) (ad 5))))))) := hC.1 2 0 (ok2 st)
  have hta9 := hC.ne (ok1 st) (ok2 st) (by omega)
  refine lv_iload_n hx hb dX4_barometer_0 rfl (lv_at hl 1 rfl) ?_
  refine lv_sipush (v := (6000)) hx hb dX4_barometer_1 (by decide) ?_
  refine lv_sipush (v := (8000)) hx hb dX4_barometer_4 (by decide) ?_
  refine mx_callv (vx_runS (As := [.int p0, .int 6000, .int 8000]) (rest := []) ⟨hx, hb, hml, hown, hts⟩ (c_X4_demandRange l G A Mw hl9  p0 6000 8000) (va_cwS 3 hts gX4_barometer_X4_demandRange rfl rfl rfl (by decide +kernel) ⟨Nat.le_of_ble_eq_true rfl, Nat.le_of_ble_eq_true rfl⟩) (mPreS hG hS hP hI hA) rfl rfl hl.1 rfl (lv_room (Nat.le_of_ble_eq_true rfl)) dX4_barometer_7 ⟨Nat.le_of_ble_eq_true rfl, Nat.le_of_ble_eq_true rfl⟩) hS (fun E9 ce9 q9 H locs hpx9 hP hI hS hc9 hv9 hcl9 => m_out (px := fun E => exc ["java/lang/IllegalArgumentException"] (m_barometer st p0 p1 p2 p3) E) (fun x hx9 => absurd hx9 (fun q => hxt x q)) hlocks hP hI hS hc9 hv9 hcl9 ((by obtain ⟨hE9, hn9⟩ := hpx9; subst hE9; exact exc_of (by unfold m_barometer; first | (rw [chk_n hn9]; done) | (rw [chk_n hn9]; rfl)) rfl)) (Nat.le_of_ble_eq_true rfl) (Nat.le_of_ble_eq_true rfl)) (fun Mw1 H locs hp_r1 hP hI hS => ?_)
  obtain ⟨hp_r1, hm9⟩ := hp_r1
  subst Mw1
  refine lv_iload_n hx hb dX4_barometer_10 rfl (lv_at hl 2 rfl) ?_
  refine lv_bipush (v := (-20)) hx hb dX4_barometer_11 (by decide) ?_
  refine lv_bipush (v := (40)) hx hb dX4_barometer_13 (by decide) ?_
  refine mx_callv (vx_runS (As := [.int p1, .int ((-20)), .int 40]) (rest := []) ⟨hx, hb, hml, hown, hts⟩ (c_X4_demandRange l G A Mw hl9  p1 (-20) 40) (va_cwS 3 hts gX4_barometer_X4_demandRange rfl rfl rfl (by decide +kernel) ⟨Nat.le_of_ble_eq_true rfl, Nat.le_of_ble_eq_true rfl⟩) (mPreS hG hS hP hI hA) rfl rfl hl.1 rfl (lv_room (Nat.le_of_ble_eq_true rfl)) dX4_barometer_15 ⟨Nat.le_of_ble_eq_true rfl, Nat.le_of_ble_eq_true rfl⟩) hS (fun E9 ce9 q9 H locs hpx9 hP hI hS hc9 hv9 hcl9 => m_out (px := fun E => exc ["java/lang/IllegalArgumentException"] (m_barometer st p0 p1 p2 p3) E) (fun x hx9 => absurd hx9 (fun q => hxt x q)) hlocks hP hI hS hc9 hv9 hcl9 ((by obtain ⟨hE9, hn9⟩ := hpx9; subst hE9; exact exc_of (by unfold m_barometer; first | (rw [chk_p hp_r1, chk_n hn9]; done) | (rw [chk_p hp_r1, chk_n hn9]; rfl)) rfl)) (Nat.le_of_ble_eq_true rfl) (Nat.le_of_ble_eq_true rfl)) (fun Mw1 H locs hp_r2 hP hI hS => ?_)
  obtain ⟨hp_r2, hm9⟩ := hp_r2
  subst Mw1
  refine lv_iload_n hx hb dX4_barometer_18 rfl (lv_at hl 3 rfl) ?_
  refine lv_sipush (v := (9780)) hx hb dX4_barometer_19 (by decide) ?_
  refine lv_sipush (v := (9832)) hx hb dX4_barometer_22 (by decide) ?_
  refine mx_callv (vx_runS (As := [.int p2, .int 9780, .int 9832]) (rest := []) ⟨hx, hb, hml, hown, hts⟩ (c_X4_demandRange l G A Mw hl9  p2 9780 9832) (va_cwS 3 hts gX4_barometer_X4_demandRange rfl rfl rfl (by decide +kernel) ⟨Nat.le_of_ble_eq_true rfl, Nat.le_of_ble_eq_true rfl⟩) (mPreS hG hS hP hI hA) rfl rfl hl.1 rfl (lv_room (Nat.le_of_ble_eq_true rfl)) dX4_barometer_25 ⟨Nat.le_of_ble_eq_true rfl, Nat.le_of_ble_eq_true rfl⟩) hS (fun E9 ce9 q9 H locs hpx9 hP hI hS hc9 hv9 hcl9 => m_out (px := fun E => exc ["java/lang/IllegalArgumentException"] (m_barometer st p0 p1 p2 p3) E) (fun x hx9 => absurd hx9 (fun q => hxt x q)) hlocks hP hI hS hc9 hv9 hcl9 ((by obtain ⟨hE9, hn9⟩ := hpx9; subst hE9; exact exc_of (by unfold m_barometer; first | (rw [chk_p hp_r1, chk_p hp_r2, chk_n hn9]; done) | (rw [chk_p hp_r1, chk_p hp_r2, chk_n hn9]; rfl)) rfl)) (Nat.le_of_ble_eq_true rfl) (Nat.le_of_ble_eq_true rfl)) (fun Mw1 H locs hp_r3 hP hI hS => ?_)
  obtain ⟨hp_r3, hm9⟩ := hp_r3
  subst Mw1
  refine lv_iload hx hb dX4_barometer_28 (lv_at hl 4 rfl) ?_
  refine lv_iconst (v := 1) hx hb dX4_barometer_30 (by decide) ?_
  refine lv_bipush (v := (60)) hx hb dX4_barometer_31 (by decide) ?_
  refine mx_callv (vx_runS (As := [.int p3, .int 1, .int 60]) (rest := []) ⟨hx, hb, hml, hown, hts⟩ (c_X4_demandRange l G A Mw hl9  p3 1 60) (va_cwS 3 hts gX4_barometer_X4_demandRange rfl rfl rfl (by decide +kernel) ⟨Nat.le_of_ble_eq_true rfl, Nat.le_of_ble_eq_true rfl⟩) (mPreS hG hS hP hI hA) rfl rfl hl.1 rfl (lv_room (Nat.le_of_ble_eq_true rfl)) dX4_barometer_33 ⟨Nat.le_of_ble_eq_true rfl, Nat.le_of_ble_eq_true rfl⟩) hS (fun E9 ce9 q9 H locs hpx9 hP hI hS hc9 hv9 hcl9 => m_out (px := fun E => exc ["java/lang/IllegalArgumentException"] (m_barometer st p0 p1 p2 p3) E) (fun x hx9 => absurd hx9 (fun q => hxt x q)) hlocks hP hI hS hc9 hv9 hcl9 ((by obtain ⟨hE9, hn9⟩ := hpx9; subst hE9; exact exc_of (by unfold m_barometer; first | (rw [chk_p hp_r1, chk_p hp_r2, chk_p hp_r3, chk_n hn9]; done) | (rw [chk_p hp_r1, chk_p hp_r2, chk_p hp_r3, chk_n hn9]; rfl)) rfl)) (Nat.le_of_ble_eq_true rfl) (Nat.le_of_ble_eq_true rfl)) (fun Mw1 H locs hp_r4 hP hI hS => ?_)
  obtain ⟨hp_r4, hm9⟩ := hp_r4
  subst Mw1
  refine lv_iload_n hx hb dX4_barometer_36 rfl (lv_at hl 1 rfl) ?_
  refine lv_iload_n hx hb dX4_barometer_37 rfl (lv_at hl 1 rfl) ?_
  refine lv_bipush (v := (18)) hx hb dX4_barometer_38 (by decide) ?_
  refine lv_imul hx hb dX4_barometer_40 ?_
  refine lv_iload_n hx hb dX4_barometer_41 rfl (lv_at hl 2 rfl) ?_
  refine lv_imul hx hb dX4_barometer_42 ?_
  refine lv_ldcw (v := 100000) hx hb hown (hts (.constant RX4 265 (100000)) (by decide +kernel)) dX4_barometer_43 ?_
  refine lv_idiv hx hb dX4_barometer_46 (by decide) ?_
  refine lv_isub hx hb dX4_barometer_47 ?_
  refine lv_istore (lv' := [(5, .int (p0 - (((p0 * 18) * p1) / 100000))), (0, .ref (ad 0 0)), (1, .int p0), (2, .int p1), (3, .int p2), (4, .int p3)]) hx hb dX4_barometer_48 hl (by decide) rfl (fun ls hl => ?_)
  refine lv_iload hx hb dX4_barometer_50 (lv_at hl 0 rfl) ?_
  refine lv_iload_n hx hb dX4_barometer_52 rfl (lv_at hl 4 rfl) ?_
  refine lv_imul hx hb dX4_barometer_53 ?_
  refine lv_sipush (v := (9807)) hx hb dX4_barometer_54 (by decide) ?_
  refine lv_idiv hx hb dX4_barometer_57 (by decide) ?_
  refine lv_bipush (v := (60)) hx hb dX4_barometer_58 (by decide) ?_
  refine lv_iload hx hb dX4_barometer_60 (lv_at hl 5 rfl) ?_
  refine lv_idiv hx hb dX4_barometer_62 (fun q9 => by have h8 := hp_r4.1; rw [q9] at h8; exact h8 (by decide)) ?_
  refine lv_iadd hx hb dX4_barometer_63 ?_
  refine W.widen (k := 4) (n := 24) (Nat.le_of_ble_eq_true rfl) (Nat.le_of_ble_eq_true rfl) ?_
  refine vx_ret ?_
  exact W.iret (v := (((p0 - (((p0 * 18) * p1) / 100000)) * p2) / 9807) + (60 / p3)) hx hb hr (fun t99 ht99 hW99 => ⟨⟨(((p0 - (((p0 * 18) * p1) / 100000)) * p2) / 9807) + (60 / p3), Mw, rfl, ⟨st, ad, by unfold m_barometer; first | (rw [chk_p hp_r1, chk_p hp_r2, chk_p hp_r3, chk_p hp_r4]; done) | (rw [chk_p hp_r1, chk_p hp_r2, chk_p hp_r3, chk_p hp_r4]; rfl), hC, rfl⟩, by rw [ht99]; exact hP, hI⟩, hS.F ht99⟩) hS.2.2 dX4_barometer_64

set_option maxHeartbeats 4000000 in
set_option maxRecDepth 100000 in
theorem c_X4_stock (l : Launch) (G : mg) (A : Nat → Prop) (Mw : mw) (st : St) (ad : adr) (hC : CS G st ad Mw) : Met l yX4_stock wsX4_stock ({ frames := 0, cells := 0, slots := 0, locals := 0 }) (va_Pc [.ref (ad 0 0)] (mB G A Mw)) (va_Qi (fun r Mw1 => r = gS st 2 ∧ Mw1 = Mw) (mE G A) A) 0 0 A := by
  refine Met.ofW (cc := cX4_stock) (maxL := 1) (ret := (some .int)) (by decide) rfl ?_
  intro p e s m args below meth c s₁ B hml hv
  obtain ⟨rfl, hG, hP, hI, hA⟩ := hv
  have hx := B.exec
  have hb := B.bytes
  have hr := B.returns
  have hts := atoms_spec (ws := wsX4_stock) B.pre
  have hown : s.vm.findClass RX4 = some m.cls := findClass_of_methodNamed B.named
  have hlocks := B.notSynchronized
  have hK := hG.K
  have i_X4 : ∀ w ∈ wsX40, w ∈ wsX4_stock := by decide +kernel
  have hS : va_S A s.heap s.heap [] := va_S.rf
  have hl := lv_entry ([.ref (ad 0 0)]) (n := 1) (Nat.le_of_ble_eq_true rfl)
  rw [lg_entry_eq]
  generalize (lg_sl ([.ref (ad 0 0)]) ++ List.replicate (1 - (lg_sl ([.ref (ad 0 0)])).length) Slot.unset).toArray = ls at hl ⊢
  have hl : lv_has ls 1 [(0, .ref (ad 0 0))] := hl
  have hP : mP G.1 Mw s.heap := hP
  have h_X : Mw (ad 0 0) = some (.inr (7, [.ref (ad 1 0), .ref (ad 2 0), .int (nI (nT st)), .int (nI (nN st)), .int (gS st 0), .int (gS st 1), .int (gS st 2), .int (gS st 3), .int (gS st 4)])) := hC.1 0 0 (ok0 st)
  refine lv_aload_n hx hb dX4_stock_0 rfl (lv_at hl 0 rfl) ?_
  refine m_get (ci := 7) (v := .int (gS st 2)) (C := RX4) (T := TX4) (N := 9) hx hb hts i_X4 hown hK (hP _ _ h_X) rfl 6 (by decide) (hts (.fieldLink RX4 109 "Meniscus" "stock" "I") (by decide +kernel)) (fun _ h9 => h9) rfl dX4_stock_1 ?_
  refine W.widen (k := 0) (n := 0) (Nat.le_of_ble_eq_true rfl) (Nat.le_of_ble_eq_true rfl) ?_
  exact W.iret (v := gS st 2) hx hb hr (fun t99 ht99 hW99 => ⟨⟨gS st 2, Mw, rfl, ⟨rfl, rfl⟩, by rw [ht99]; exact hP, hI⟩, hS.F ht99⟩) hS.2.2 dX4_stock_4

set_option maxHeartbeats 4000000 in
set_option maxRecDepth 100000 in
theorem c_X4_spilt (l : Launch) (G : mg) (A : Nat → Prop) (Mw : mw) (st : St) (ad : adr) (hC : CS G st ad Mw) : Met l yX4_spilt wsX4_spilt ({ frames := 0, cells := 0, slots := 0, locals := 0 }) (va_Pc [.ref (ad 0 0)] (mB G A Mw)) (va_Qi (fun r Mw1 => r = gS st 3 ∧ Mw1 = Mw) (mE G A) A) 0 0 A := by
  refine Met.ofW (cc := cX4_spilt) (maxL := 1) (ret := (some .int)) (by decide) rfl ?_
  intro p e s m args below meth c s₁ B hml hv
  obtain ⟨rfl, hG, hP, hI, hA⟩ := hv
  have hx := B.exec
  have hb := B.bytes
  have hr := B.returns
  have hts := atoms_spec (ws := wsX4_spilt) B.pre
  have hown : s.vm.findClass RX4 = some m.cls := findClass_of_methodNamed B.named
  have hlocks := B.notSynchronized
  have hK := hG.K
  have i_X4 : ∀ w ∈ wsX40, w ∈ wsX4_spilt := by decide +kernel
  have hS : va_S A s.heap s.heap [] := va_S.rf
  have hl := lv_entry ([.ref (ad 0 0)]) (n := 1) (Nat.le_of_ble_eq_true rfl)
  rw [lg_entry_eq]
  generalize (lg_sl ([.ref (ad 0 0)]) ++ List.replicate (1 - (lg_sl ([.ref (ad 0 0)])).length) Slot.unset).toArray = ls at hl ⊢
  have hl : lv_has ls 1 [(0, .ref (ad 0 0))] := hl
  have hP : mP G.1 Mw s.heap := hP
  have h_X : Mw (ad 0 0) = some (.inr (7, [.ref (ad 1 0), .ref (ad 2 0), .int (nI (nT st)), .int (nI (nN st)), .int (gS st 0), .int (gS st 1), .int (gS st 2), .int (gS st 3), .int (gS st 4)])) := hC.1 0 0 (ok0 st)
  refine lv_aload_n hx hb dX4_spilt_0 rfl (lv_at hl 0 rfl) ?_
  refine m_get (ci := 7) (v := .int (gS st 3)) (C := RX4) (T := TX4) (N := 9) hx hb hts i_X4 hown hK (hP _ _ h_X) rfl 7 (by decide) (hts (.fieldLink RX4 142 "Meniscus" "spilt" "I") (by decide +kernel)) (fun _ h9 => h9) rfl dX4_spilt_1 ?_
  refine W.widen (k := 0) (n := 0) (Nat.le_of_ble_eq_true rfl) (Nat.le_of_ble_eq_true rfl) ?_
  exact W.iret (v := gS st 3) hx hb hr (fun t99 ht99 hW99 => ⟨⟨gS st 3, Mw, rfl, ⟨rfl, rfl⟩, by rw [ht99]; exact hP, hI⟩, hS.F ht99⟩) hS.2.2 dX4_spilt_4
