theorem nI_ltn {n N : Nat} (hn : n ≤ N) (hN : N < 100) (h : nI n < nI N) : n < N := by
  rcases Nat.lt_or_ge n N with q | q
  · exact q
  · have e : n = N := by omega
    subst e
    exact absurd h (i_nlt (i_le (fun q9 => i_nlt (nI_le (Nat.le_refl n) (by omega)) q9)))
set_option maxHeartbeats 4000000 in
set_option maxRecDepth 100000 in
theorem c_X4_draw (l : Launch) (G : mg) (A : Nat → Prop) (Mw : mw) (hl9 : l.stackTraces = false) (st : St) (ad : adr) (p0 p1 : Int32) (hC : CS G st ad Mw) (hV : Inv st) : vx_Met l yX4_draw wsX4_draw ({ frames := 7, cells := 4, slots := 34, locals := 104 }) (va_Pc [.ref (ad 0 0), .int p0, .int p1] (mB G A Mw)) (va_Qi (fun r Mw1 => ∃ (s1 : St) (ad1 : adr), m_draw st p0 p1 = (0, r, s1) ∧ CS G s1 ad1 Mw1 ∧ ad1 0 0 = ad 0 0) (mE G A) A) (xX (fun E => exc ["java/lang/IllegalArgumentException", "java/lang/IllegalStateException"] (m_draw st p0 p1) E) G A Mw) 4 34 A := by
  refine vx_ofW (cc := cX4_draw) (maxL := 4) (ret := (some .int)) (by decide) rfl ?_
  intro p e s m args below meth c s₁ B hml hxt hv
  obtain ⟨rfl, hG, hP, hI, hA⟩ := hv
  have hx := B.exec
  have hb := B.bytes
  have hr := B.returns
  have hts := atoms_spec (ws := wsX4_draw) B.pre
  have hown : s.vm.findClass RX4 = some m.cls := findClass_of_methodNamed B.named
  have hlocks := B.notSynchronized
  have hK := hG.K
  have i_X3 : ∀ w ∈ wsX30, w ∈ wsX4_draw := by decide +kernel
  have i_X4 : ∀ w ∈ wsX40, w ∈ wsX4_draw := by decide +kernel
  have hS : va_S A s.heap s.heap [] := va_S.rf
  have hl := lv_entry ([.ref (ad 0 0), .int p0, .int p1]) (n := 4) (Nat.le_of_ble_eq_true rfl)
  rw [lg_entry_eq]
  generalize (lg_sl ([.ref (ad 0 0), .int p0, .int p1]) ++ List.replicate (4 - (lg_sl ([.ref (ad 0 0), .int p0, .int p1])).length) Slot.unset).toArray = ls at hl ⊢
  have hl : lv_has ls 4 [(0, .ref (ad 0 0)), (1, .int p0), (2, .int p1)] := hl
  have hP : mP G.1 Mw s.heap := hP
  have h_X : Mw (ad 0 0) = some (.inr (4, [.ref (ad 1 0), .ref (ad 2 0), .int (nI (nT st)), .int (nI (nN st)), .int (gS st 0), .int (gS st 1), .int (gS st 2), .int (gS st 3), .int (gS st 4)])) := hC.1 0 0 (ok0 st)
  have h_TA : Mw (ad 1 0) = some (.inl (G.2.1 3, 8, .inr (.inr (.inr (.inr (qf (nT st) (ad 3))))))) := hC.1 1 0 (ok1 st)
  have h_IA : Mw (ad 2 0) = some (.inl (G.2.1 4, 6, .inr (.inr (.inr (.inr (qf (nN st) (ad 5))))))) := hC.1 2 0 (ok2 st)
  have hta9 := hC.ne (ok1 st) (ok2 st) (by omega)
  refine lv_iload_n hx hb dX4_draw_0 rfl (lv_at hl 1 rfl) ?_
  refine lv_iconst (v := 1) hx hb dX4_draw_1 (by decide) ?_
  refine lv_bipush (v := (40)) hx hb dX4_draw_2 (by decide) ?_
  refine mx_callv (vx_runS (As := [.int p0, .int 1, .int 40]) (rest := []) ⟨hx, hb, hml, hown, hts⟩ (c_X4_demandRange l G A Mw hl9  p0 1 40) (va_cwS 3 hts gX4_draw_X4_demandRange rfl rfl rfl (by decide +kernel) ⟨Nat.le_of_ble_eq_true rfl, Nat.le_of_ble_eq_true rfl⟩) (mPreS hG hS hP hI hA) rfl rfl hl.1 rfl (lv_room (Nat.le_of_ble_eq_true rfl)) dX4_draw_4 ⟨Nat.le_of_ble_eq_true rfl, Nat.le_of_ble_eq_true rfl⟩) hS (fun E9 ce9 q9 H locs hpx9 hP hI hS hc9 hv9 hcl9 => m_out (px := fun E => exc ["java/lang/IllegalArgumentException", "java/lang/IllegalStateException"] (m_draw st p0 p1) E) (fun x hx9 => absurd hx9 (fun q => hxt x q)) hlocks hP hI hS hc9 hv9 hcl9 ((by obtain ⟨hE9, hn9⟩ := hpx9; subst hE9; exact exc_of (by unfold m_draw; first | (rw [chk_n hn9]; done) | (rw [chk_n hn9]; rfl)) rfl)) (Nat.le_of_ble_eq_true rfl) (Nat.le_of_ble_eq_true rfl)) (fun Mw1 H locs hp_r1 hP hI hS => ?_)
  obtain ⟨hp_r1, hm9⟩ := hp_r1
  subst Mw1
  refine lv_iload_n hx hb dX4_draw_7 rfl (lv_at hl 2 rfl) ?_
  refine lv_bipush (v := (-2)) hx hb dX4_draw_8 (by decide) ?_
  refine lv_iconst (v := 2) hx hb dX4_draw_10 (by decide) ?_
  refine mx_callv (vx_runS (As := [.int p1, .int ((-2)), .int 2]) (rest := []) ⟨hx, hb, hml, hown, hts⟩ (c_X4_demandRange l G A Mw hl9  p1 (-2) 2) (va_cwS 3 hts gX4_draw_X4_demandRange rfl rfl rfl (by decide +kernel) ⟨Nat.le_of_ble_eq_true rfl, Nat.le_of_ble_eq_true rfl⟩) (mPreS hG hS hP hI hA) rfl rfl hl.1 rfl (lv_room (Nat.le_of_ble_eq_true rfl)) dX4_draw_11 ⟨Nat.le_of_ble_eq_true rfl, Nat.le_of_ble_eq_true rfl⟩) hS (fun E9 ce9 q9 H locs hpx9 hP hI hS hc9 hv9 hcl9 => m_out (px := fun E => exc ["java/lang/IllegalArgumentException", "java/lang/IllegalStateException"] (m_draw st p0 p1) E) (fun x hx9 => absurd hx9 (fun q => hxt x q)) hlocks hP hI hS hc9 hv9 hcl9 ((by obtain ⟨hE9, hn9⟩ := hpx9; subst hE9; exact exc_of (by unfold m_draw; first | (rw [chk_p hp_r1, chk_n hn9]; done) | (rw [chk_p hp_r1, chk_n hn9]; rfl)) rfl)) (Nat.le_of_ble_eq_true rfl) (Nat.le_of_ble_eq_true rfl)) (fun Mw1 H locs hp_r2 hP hI hS => ?_)
  obtain ⟨hp_r2, hm9⟩ := hp_r2
  subst Mw1
  refine lv_aload_n hx hb dX4_draw_14 rfl (lv_at hl 0 rfl) ?_
  refine m_get (ci := 4) (v := .int (nI (nT st))) (C := RX4) (T := TX4) (N := 9) hx hb hts i_X4 hown hK (hP _ _ h_X) rfl 2 (by decide) (hts (.fieldLink RX4 29 "Meniscus" "tubeCount" "I") (by decide +kernel)) (fun _ h9 => h9) rfl dX4_draw_15 ?_
  refine lv_aload_n hx hb dX4_draw_18 rfl (lv_at hl 0 rfl) ?_
  refine m_get (ci := 4) (v := .ref (ad 1 0)) (C := RX4) (T := TX4) (N := 9) hx hb hts i_X4 hown hK (hP _ _ h_X) rfl 0 (by decide) (hts (.fieldLink RX4 11 "Meniscus" "tubes" "[LMeniscus$Tube;") (by decide +kernel)) (fun _ h9 => h9) rfl dX4_draw_19 ?_
  refine m_alen (v := 8) hx hb hK 3 (hP _ _ h_TA) rfl rfl dX4_draw_22 ?_
  refine lv_icmp_lt (tgt := 36) hx hb dX4_draw_23 (by decide) (fun c3 => ?_) (fun c3 => ?_)
  · skip
    have hb_c3 : nT st < 8 := nI_ltn hV.1.1 (by decide) (show nI (nT st) < nI 8 from c3)
    refine lv_aload_n hx hb dX4_draw_36 rfl (lv_at hl 0 rfl) ?_
    refine m_get (ci := 4) (v := .int (nI (nT st))) (C := RX4) (T := TX4) (N := 9) hx hb hts i_X4 hown hK (hP _ _ h_X) rfl 2 (by decide) (hts (.fieldLink RX4 29 "Meniscus" "tubeCount" "I") (by decide +kernel)) (fun _ h9 => h9) rfl dX4_draw_37 ?_
    refine lv_istore_n (lv' := [(3, .int (nI (nT st))), (0, .ref (ad 0 0)), (1, .int p0), (2, .int p1)]) hx hb dX4_draw_40 rfl hl (by decide) rfl (fun ls hl => ?_)
    refine lv_aload_n hx hb dX4_draw_41 rfl (lv_at hl 1 rfl) ?_
    refine m_get (ci := 4) (v := .ref (ad 1 0)) (C := RX4) (T := TX4) (N := 9) hx hb hts i_X4 hown hK (hP _ _ h_X) rfl 0 (by decide) (hts (.fieldLink RX4 11 "Meniscus" "tubes" "[LMeniscus$Tube;") (by decide +kernel)) (fun _ h9 => h9) rfl dX4_draw_42 ?_
    refine lv_iload_n hx hb dX4_draw_45 rfl (lv_at hl 0 rfl) ?_
    refine m_new (ci := 3) (fs := [.null, .int 0]) (C := RX3) (T := TX3) (N := 2) hx hb hts i_X3 tyX3 tyX3_ok hown (hts (.classLink RX4 9 RX3) (by decide +kernel)) (hts (.instantiable RX3 2) (by decide +kernel)) (hts (.initialized RX3) (by decide +kernel)) hK hP hI hS hA rfl (fun j hj => by rcases (show j = 0 ∨ j = 1 by omega) with rfl | rfl <;> rfl) (Nat.le_of_ble_eq_true rfl) (Nat.le_of_ble_eq_true rfl) dX4_draw_46 (fun q4 H hn_q4 hP hI hS => ?_)
    have h_X := mu_x (e := .inr (3, [.null, .int 0])) h_X hn_q4
    have h_TA := mu_x (e := .inr (3, [.null, .int 0])) h_TA hn_q4
    have h_IA := mu_x (e := .inr (3, [.null, .int 0])) h_IA hn_q4
    have h_q4 : (mu Mw q4 (.inr (3, [.null, .int 0]))) q4 = some (.inr (3, [.null, .int 0])) := mu_s
    refine lv_dup hx hb dX4_draw_49 rfl ?_
    refine lv_iload_n hx hb dX4_draw_50 rfl (lv_at hl 2 rfl) ?_
    refine lv_iload_n hx hb dX4_draw_51 rfl (lv_at hl 3 rfl) ?_
    refine m_callv (va_runI (As := [.int p0, .int p1]) (rest := [.ref q4, .int (nI (nT st)), .ref (ad 1 0)]) ⟨hx, hb, hml, hown, hts⟩ (c_X3_init l G A (mu Mw q4 (.inr (3, [.null, .int 0])))  p0 p1 h_q4) (cwI 2 hts gX4_draw_X3_init rfl rfl rfl (hts (.initialized RX3) (by decide +kernel)) (hts (.methodLink RX4 39 yX3_init) (by decide +kernel)) (hts (.instanceMethod yX3_init) (by decide +kernel)) rfl (by decide +kernel) ⟨Nat.le_of_ble_eq_true rfl, Nat.le_of_ble_eq_true rfl⟩) (mPreS hG hS hP hI hA) rfl rfl hl.1 rfl (lv_room (Nat.le_of_ble_eq_true rfl)) dX4_draw_52 ⟨Nat.le_of_ble_eq_true rfl, Nat.le_of_ble_eq_true rfl⟩) hS (fun Mw1 H locs hp_r5 hP hI hS => ?_)
    obtain ⟨b0, hnb, hbt, hm9⟩ := hp_r5
    subst Mw1
    have hnb2 : (mu (mu Mw q4 (.inr (3, [.null, .int 0]))) q4 (.inr (3, [.ref b0, .int 0]))) b0 = none := (mu_n hbt).trans hnb
    have h_X := mu_k (e := .inr (3, [.ref b0, .int 0])) (kd_ne h_X h_q4 rfl) h_X
    have h_TA := mu_k (e := .inr (3, [.ref b0, .int 0])) (kd_ne h_TA h_q4 rfl) h_TA
    have h_IA := mu_k (e := .inr (3, [.ref b0, .int 0])) (kd_ne h_IA h_q4 rfl) h_IA
    have h_q4 : (mu (mu Mw q4 (.inr (3, [.null, .int 0]))) q4 (.inr (3, [.ref b0, .int 0]))) q4 = some (.inr (3, [.ref b0, .int 0])) := mu_s
    have h_X := mu_k (e := .inl (G.2.1 0, 20, .inl (dboU p0 p1 20))) (ne_none h_X hnb2) h_X
    have h_TA := mu_k (e := .inl (G.2.1 0, 20, .inl (dboU p0 p1 20))) (ne_none h_TA hnb2) h_TA
    have h_IA := mu_k (e := .inl (G.2.1 0, 20, .inl (dboU p0 p1 20))) (ne_none h_IA hnb2) h_IA
    have h_q4 := mu_k (e := .inl (G.2.1 0, 20, .inl (dboU p0 p1 20))) (ne_none h_q4 hnb2) h_q4
    have h_B : (mu (mu (mu Mw q4 (.inr (3, [.null, .int 0]))) q4 (.inr (3, [.ref b0, .int 0]))) b0 (.inl (G.2.1 0, 20, .inl (dboU p0 p1 20)))) b0 = some (.inl (G.2.1 0, 20, .inl (dboU p0 p1 20))) := mu_s
    refine m_astq hx hb hK hP hI hS 3 (r := (RX3, TX3, 2)) h_TA rfl h_q4 rfl (vp_in_nI (by assumption) (by omega)) dX4_draw_55 (fun H locs hP hI hS => ?_)
    have h_X := mu_k (e := .inl (G.2.1 3, 8, .inr (.inr (.inr (.inr (va_up (qf (nT st) (ad 3)) ((nI (nT st)).toNatClampNeg) (some q4))))))) (kd_ne h_X h_TA rfl) h_X
    have h_IA := mu_k (e := .inl (G.2.1 3, 8, .inr (.inr (.inr (.inr (va_up (qf (nT st) (ad 3)) ((nI (nT st)).toNatClampNeg) (some q4))))))) (Ne.symm hta9) h_IA
    have h_q4 := mu_k (e := .inl (G.2.1 3, 8, .inr (.inr (.inr (.inr (va_up (qf (nT st) (ad 3)) ((nI (nT st)).toNatClampNeg) (some q4))))))) (kd_ne h_q4 h_TA rfl) h_q4
    have h_B := mu_k (e := .inl (G.2.1 3, 8, .inr (.inr (.inr (.inr (va_up (qf (nT st) (ad 3)) ((nI (nT st)).toNatClampNeg) (some q4))))))) (kd_ne h_B h_TA rfl) h_B
    have h_TA : (mu (mu (mu (mu Mw q4 (.inr (3, [.null, .int 0]))) q4 (.inr (3, [.ref b0, .int 0]))) b0 (.inl (G.2.1 0, 20, .inl (dboU p0 p1 20)))) (ad 1 0) (.inl (G.2.1 3, 8, .inr (.inr (.inr (.inr (va_up (qf (nT st) (ad 3)) ((nI (nT st)).toNatClampNeg) (some q4)))))))) (ad 1 0) = some (.inl (G.2.1 3, 8, .inr (.inr (.inr (.inr (va_up (qf (nT st) (ad 3)) ((nI (nT st)).toNatClampNeg) (some q4))))))) := mu_s
    refine lv_aload_n hx hb dX4_draw_56 rfl (lv_at hl 1 rfl) ?_
    refine lv_dup hx hb dX4_draw_57 rfl ?_
    refine m_get (ci := 4) (v := .int (nI (nT st))) (C := RX4) (T := TX4) (N := 9) hx hb hts i_X4 hown hK (hP _ _ h_X) rfl 2 (by decide) (hts (.fieldLink RX4 29 "Meniscus" "tubeCount" "I") (by decide +kernel)) (fun _ h9 => h9) rfl dX4_draw_58 ?_
    refine lv_iconst (v := 1) hx hb dX4_draw_61 (by decide) ?_
    refine lv_iadd hx hb dX4_draw_62 ?_
    refine m_put (ci := 4) (v := .int ((nI (nT st)) + 1)) (ty := .int) (C := RX4) (T := TX4) (N := 9) hx hb hts i_X4 tyX4 tyX4_ok nmX4 hown hK hP hI hS h_X rfl 2 (by decide) (hts (.fieldLink RX4 29 "Meniscus" "tubeCount" "I") (by decide +kernel)) (fun _ h9 => h9) rfl (by decide +kernel) rfl rfl (Nat.le_of_ble_eq_true rfl) dX4_draw_63 (fun H locs hP hI hS => ?_)
    have hP : mP G.1 (mu (mu (mu (mu (mu Mw q4 (.inr (3, [.null, .int 0]))) q4 (.inr (3, [.ref b0, .int 0]))) b0 (.inl (G.2.1 0, 20, .inl (dboU p0 p1 20)))) (ad 1 0) (.inl (G.2.1 3, 8, .inr (.inr (.inr (.inr (va_up (qf (nT st) (ad 3)) ((nI (nT st)).toNatClampNeg) (some q4)))))))) (ad 0 0) (.inr (4, [.ref (ad 1 0), .ref (ad 2 0), .int ((nI (nT st)) + 1), .int (nI (nN st)), .int (gS st 0), .int (gS st 1), .int (gS st 2), .int (gS st 3), .int (gS st 4)]))) H := hP
    have hI : mI A (mu (mu (mu (mu (mu Mw q4 (.inr (3, [.null, .int 0]))) q4 (.inr (3, [.ref b0, .int 0]))) b0 (.inl (G.2.1 0, 20, .inl (dboU p0 p1 20)))) (ad 1 0) (.inl (G.2.1 3, 8, .inr (.inr (.inr (.inr (va_up (qf (nT st) (ad 3)) ((nI (nT st)).toNatClampNeg) (some q4)))))))) (ad 0 0) (.inr (4, [.ref (ad 1 0), .ref (ad 2 0), .int ((nI (nT st)) + 1), .int (nI (nN st)), .int (gS st 0), .int (gS st 1), .int (gS st 2), .int (gS st 3), .int (gS st 4)]))) := hI
    have h_TA := mu_k (e := .inr (4, [.ref (ad 1 0), .ref (ad 2 0), .int ((nI (nT st)) + 1), .int (nI (nN st)), .int (gS st 0), .int (gS st 1), .int (gS st 2), .int (gS st 3), .int (gS st 4)])) (kd_ne h_TA h_X rfl) h_TA
    have h_IA := mu_k (e := .inr (4, [.ref (ad 1 0), .ref (ad 2 0), .int ((nI (nT st)) + 1), .int (nI (nN st)), .int (gS st 0), .int (gS st 1), .int (gS st 2), .int (gS st 3), .int (gS st 4)])) (kd_ne h_IA h_X rfl) h_IA
    have h_q4 := mu_k (e := .inr (4, [.ref (ad 1 0), .ref (ad 2 0), .int ((nI (nT st)) + 1), .int (nI (nN st)), .int (gS st 0), .int (gS st 1), .int (gS st 2), .int (gS st 3), .int (gS st 4)])) (kd_ne h_q4 h_X rfl) h_q4
    have h_B := mu_k (e := .inr (4, [.ref (ad 1 0), .ref (ad 2 0), .int ((nI (nT st)) + 1), .int (nI (nN st)), .int (gS st 0), .int (gS st 1), .int (gS st 2), .int (gS st 3), .int (gS st 4)])) (kd_ne h_B h_X rfl) h_B
    have h_X : (mu (mu (mu (mu (mu Mw q4 (.inr (3, [.null, .int 0]))) q4 (.inr (3, [.ref b0, .int 0]))) b0 (.inl (G.2.1 0, 20, .inl (dboU p0 p1 20)))) (ad 1 0) (.inl (G.2.1 3, 8, .inr (.inr (.inr (.inr (va_up (qf (nT st) (ad 3)) ((nI (nT st)).toNatClampNeg) (some q4)))))))) (ad 0 0) (.inr (4, [.ref (ad 1 0), .ref (ad 2 0), .int ((nI (nT st)) + 1), .int (nI (nN st)), .int (gS st 0), .int (gS st 1), .int (gS st 2), .int (gS st 3), .int (gS st 4)]))) (ad 0 0) = some (.inr (4, [.ref (ad 1 0), .ref (ad 2 0), .int ((nI (nT st)) + 1), .int (nI (nN st)), .int (gS st 0), .int (gS st 1), .int (gS st 2), .int (gS st 3), .int (gS st 4)])) := mu_s
    refine lv_iload_n hx hb dX4_draw_66 rfl (lv_at hl 0 rfl) ?_
    refine W.widen (k := 4) (n := 34) (Nat.le_of_ble_eq_true rfl) (Nat.le_of_ble_eq_true rfl) ?_
    refine vx_ret ?_
    exact W.iret (v := nI (nT st)) hx hb hr (fun t99 ht99 hW99 => ⟨⟨nI (nT st), (mu (mu (mu (mu (mu Mw q4 (.inr (3, [.null, .int 0]))) q4 (.inr (3, [.ref b0, .int 0]))) b0 (.inl (G.2.1 0, 20, .inl (dboU p0 p1 20)))) (ad 1 0) (.inl (G.2.1 3, 8, .inr (.inr (.inr (.inr (va_up (qf (nT st) (ad 3)) ((nI (nT st)).toNatClampNeg) (some q4)))))))) (ad 0 0) (.inr (4, [.ref (ad 1 0), .ref (ad 2 0), .int ((nI (nT st)) + 1), .int (nI (nN st)), .int (gS st 0), .int (gS st 1), .int (gS st 2), .int (gS st 3), .int (gS st 4)]))), rfl, ⟨addT st p0 p1, adT ad (nT st) q4 b0, by unfold m_draw; first | (rw [chk_p hp_r1, chk_p hp_r2, chk_p hb_c3]; done) | (rw [chk_p hp_r1, chk_p hp_r2, chk_p hb_c3]; rfl), cs_addT hC hV hn_q4 (mu_none hnb).1 (Ne.symm (mu_none hnb).2) (h_X.trans (congrArg some (by rw [nI_1]))) (h_TA.trans (congrArg some (by rw [nI_clamp (show nT st < 2 ^ 31 by have := hV.1.1; omega)]))) h_q4 h_B (fun z h1 h2 h3 h4 => (mu_n h1).trans ((mu_n h2).trans ((mu_n h4).trans ((mu_n h3).trans ((mu_n h3).trans (rfl)))))), adT_o (Or.inl ⟨by decide, by decide⟩)⟩, by rw [ht99]; exact hP, hI⟩, hS.F ht99⟩) hS.2.2 dX4_draw_67
  · skip
    obtain ⟨sa9, hsa9⟩ := hG.2.1.2.2.2.2.2.1 (34, "no more tubes") (by decide +kernel)
    exact vx_throwS (text := "no more tubes") (names := ["java/lang/RuntimeException", "java/lang/Exception"]) hx hb hl9 hown (by decide +kernel) (by decide +kernel) (hts (.classLink RX4 32 "java/lang/IllegalStateException") (by decide +kernel)) (hts (.initialized "java/lang/IllegalStateException") (by decide +kernel)) hsa9 (m_hat hG (fun w h => hts w (List.mem_cons_of_mem _ (List.mem_append_left _ (List.mem_append_right _ h)))) (by decide +kernel) (by decide +kernel)) (by decide +kernel) hG.2.2.1 hG.2.2.2.1 hS (hl.1.trans hml.symm) dX4_draw_26 dX4_draw_29 dX4_draw_30 dX4_draw_32 dX4_draw_35 (fun x hx9 => absurd hx9 (fun q => hxt x q)) (Nat.le_of_ble_eq_true rfl) (Nat.le_of_ble_eq_true rfl) (Nat.le_of_ble_eq_true rfl) (Nat.le_of_ble_eq_true rfl) hlocks (fun t9 _ h92 h93 => m_thrown (px := fun E => exc ["java/lang/IllegalArgumentException", "java/lang/IllegalStateException"] (m_draw st p0 p1) E) (E := "java/lang/IllegalStateException") hP hI hS (exc_of (by unfold m_draw; first | (rw [chk_p hp_r1, chk_p hp_r2, chk_n (fun q9 => c3 (show nI (nT st) < nI 8 from nI_lt q9 (by omega)))]; done) | (rw [chk_p hp_r1, chk_p hp_r2, chk_n (fun q9 => c3 (show nI (nT st) < nI 8 from nI_lt q9 (by omega)))]; rfl)) rfl) t9 h92 h93) hS.2.2 (Nat.le_of_ble_eq_true rfl) (Nat.le_of_ble_eq_true rfl)

set_option maxHeartbeats 4000000 in
set_option maxRecDepth 100000 in
theorem c_X4_make (l : Launch) (G : mg) (A : Nat → Prop) (Mw : mw) (hl9 : l.stackTraces = false) (st : St) (ad : adr) (p0 p1 p2 : Int32) (hC : CS G st ad Mw) (hV : Inv st) : vx_Met l yX4_make wsX4_make ({ frames := 7, cells := 9, slots := 63, locals := 104 }) (va_Pc [.ref (ad 0 0), .int p0, .int p1, .int p2] (mB G A Mw)) (va_Qi (fun r Mw1 => ∃ (s1 : St) (ad1 : adr), m_make st p0 p1 p2 = (0, r, s1) ∧ CS G s1 ad1 Mw1 ∧ ad1 0 0 = ad 0 0) (mE G A) A) (xX (fun E => exc ["java/lang/IndexOutOfBoundsException", "java/lang/IllegalArgumentException", "java/lang/UnsupportedOperationException", "java/lang/IllegalStateException"] (m_make st p0 p1 p2) E) G A Mw) 9 63 A := by
  refine vx_ofW (cc := cX4_make) (maxL := 6) (ret := (some .int)) (by decide) rfl ?_
  intro p e s m args below meth c s₁ B hml hxt hv
  obtain ⟨rfl, hG, hP, hI, hA⟩ := hv
  have hx := B.exec
  have hb := B.bytes
  have hr := B.returns
  have hts := atoms_spec (ws := wsX4_make) B.pre
  have hown : s.vm.findClass RX4 = some m.cls := findClass_of_methodNamed B.named
  have hlocks := B.notSynchronized
  have hK := hG.K
  have i_X0 : ∀ w ∈ wsX00, w ∈ wsX4_make := by decide +kernel
  have i_X3 : ∀ w ∈ wsX30, w ∈ wsX4_make := by decide +kernel
  have i_X4 : ∀ w ∈ wsX40, w ∈ wsX4_make := by decide +kernel
  have hS : va_S A s.heap s.heap [] := va_S.rf
  have hl := lv_entry ([.ref (ad 0 0), .int p0, .int p1, .int p2]) (n := 6) (Nat.le_of_ble_eq_true rfl)
  rw [lg_entry_eq]
  generalize (lg_sl ([.ref (ad 0 0), .int p0, .int p1, .int p2]) ++ List.replicate (6 - (lg_sl ([.ref (ad 0 0), .int p0, .int p1, .int p2])).length) Slot.unset).toArray = ls at hl ⊢
  have hl : lv_has ls 6 [(0, .ref (ad 0 0)), (1, .int p0), (2, .int p1), (3, .int p2)] := hl
  have hP : mP G.1 Mw s.heap := hP
  have h_X : Mw (ad 0 0) = some (.inr (4, [.ref (ad 1 0), .ref (ad 2 0), .int (nI (nT st)), .int (nI (nN st)), .int (gS st 0), .int (gS st 1), .int (gS st 2), .int (gS st 3), .int (gS st 4)])) := hC.1 0 0 (ok0 st)
  have h_TA : Mw (ad 1 0) = some (.inl (G.2.1 3, 8, .inr (.inr (.inr (.inr (qf (nT st) (ad 3))))))) := hC.1 1 0 (ok1 st)
  have h_IA : Mw (ad 2 0) = some (.inl (G.2.1 4, 6, .inr (.inr (.inr (.inr (qf (nN st) (ad 5))))))) := hC.1 2 0 (ok2 st)
  have hta9 := hC.ne (ok1 st) (ok2 st) (by omega)
  refine lv_aload_n hx hb dX4_make_0 rfl (lv_at hl 0 rfl) ?_
  refine lv_iload_n hx hb dX4_make_1 rfl (lv_at hl 1 rfl) ?_
  refine mx_callq (vx_runV (As := [.int p0]) (rest := []) ⟨hx, hb, hml, hown, hts⟩ (c_X4_tubeNumbered l G A Mw hl9  p0 h_X hV.1.1 h_TA) (cwV 1 hts gX4_make_X4_tubeNumbered rfl rfl rfl (by decide +kernel) ⟨Nat.le_of_ble_eq_true rfl, Nat.le_of_ble_eq_true rfl⟩) (mPreV hG hS hP hI hA (hP _ _ h_X) (r := (RX4, TX4, 9)) rfl) rfl rfl hl.1 rfl (lv_room (Nat.le_of_ble_eq_true rfl)) dX4_make_2 ⟨Nat.le_of_ble_eq_true rfl, Nat.le_of_ble_eq_true rfl⟩) hS (fun E9 ce9 q9 H locs hpx9 hP hI hS hc9 hv9 hcl9 => m_out (px := fun E => exc ["java/lang/IndexOutOfBoundsException", "java/lang/IllegalArgumentException", "java/lang/UnsupportedOperationException", "java/lang/IllegalStateException"] (m_make st p0 p1 p2) E) (fun x hx9 => absurd hx9 (fun q => hxt x q)) hlocks hP hI hS hc9 hv9 hcl9 ((by obtain ⟨hE9, hn9⟩ := hpx9; subst hE9; exact exc_of (by unfold m_make; first | (rw [chk_n hn9]; done) | (rw [chk_n hn9]; rfl)) rfl)) (Nat.le_of_ble_eq_true rfl) (Nat.le_of_ble_eq_true rfl)) (fun r1 Mw1 H locs hp_r1 hP hI hS => ?_)
  obtain ⟨⟨ht9, hr9⟩, hm9⟩ := hp_r1
  subst Mw1
  subst hr9
  have h_T : Mw (ad 3 (ix p0)) = some (.inr (3, [.ref (ad 4 (ix p0)), .int (usS st (ix p0))])) := hC.1 3 _ (ok3 ht9.2)
  have h_B : Mw (ad 4 (ix p0)) = some (.inl (G.2.1 0, 20, .inl (boS st (ix p0)))) := hC.1 4 _ (ok4 ht9.2)
  refine lv_astore (lv' := [(4, .ref (ad 3 (ix p0))), (0, .ref (ad 0 0)), (1, .int p0), (2, .int p1), (3, .int p2)]) hx hb dX4_make_5 hl (by decide) rfl (fun ls hl => ?_)
  refine lv_iload_n hx hb dX4_make_7 rfl (lv_at hl 3 rfl) ?_
  refine lv_sipush (v := (1000)) hx hb dX4_make_8 (by decide) ?_
  refine lv_ldc (v := 50000) hx hb hown (hts (.constant RX4 89 (50000)) (by decide +kernel)) dX4_make_11 ?_
  refine mx_callv (vx_runS (As := [.int p1, .int 1000, .int 50000]) (rest := []) ⟨hx, hb, hml, hown, hts⟩ (c_X4_demandRange l G A Mw hl9  p1 1000 50000) (va_cwS 3 hts gX4_make_X4_demandRange rfl rfl rfl (by decide +kernel) ⟨Nat.le_of_ble_eq_true rfl, Nat.le_of_ble_eq_true rfl⟩) (mPreS hG hS hP hI hA) rfl rfl hl.1 rfl (lv_room (Nat.le_of_ble_eq_true rfl)) dX4_make_13 ⟨Nat.le_of_ble_eq_true rfl, Nat.le_of_ble_eq_true rfl⟩) hS (fun E9 ce9 q9 H locs hpx9 hP hI hS hc9 hv9 hcl9 => m_out (px := fun E => exc ["java/lang/IndexOutOfBoundsException", "java/lang/IllegalArgumentException", "java/lang/UnsupportedOperationException", "java/lang/IllegalStateException"] (m_make st p0 p1 p2) E) (fun x hx9 => absurd hx9 (fun q => hxt x q)) hlocks hP hI hS hc9 hv9 hcl9 ((by obtain ⟨hE9, hn9⟩ := hpx9; subst hE9; exact exc_of (by unfold m_make; first | (rw [chk_p ht9, chk_n hn9]; done) | (rw [chk_p ht9, chk_n hn9]; rfl)) rfl)) (Nat.le_of_ble_eq_true rfl) (Nat.le_of_ble_eq_true rfl)) (fun Mw1 H locs hp_r2 hP hI hS => ?_)
  obtain ⟨hp_r2, hm9⟩ := hp_r2
  subst Mw1
  refine lv_iload_n hx hb dX4_make_16 rfl (lv_at hl 4 rfl) ?_
  refine lv_bipush (v := (104)) hx hb dX4_make_17 (by decide) ?_
  refine lv_bipush (v := (115)) hx hb dX4_make_19 (by decide) ?_
  refine mx_callv (vx_runS (As := [.int p2, .int 104, .int 115]) (rest := []) ⟨hx, hb, hml, hown, hts⟩ (c_X4_demandEither l G A Mw hl9  p2 104 115) (va_cwS 3 hts gX4_make_X4_demandEither rfl rfl rfl (by decide +kernel) ⟨Nat.le_of_ble_eq_true rfl, Nat.le_of_ble_eq_true rfl⟩) (mPreS hG hS hP hI hA) rfl rfl hl.1 rfl (lv_room (Nat.le_of_ble_eq_true rfl)) dX4_make_21 ⟨Nat.le_of_ble_eq_true rfl, Nat.le_of_ble_eq_true rfl⟩) hS (fun E9 ce9 q9 H locs hpx9 hP hI hS hc9 hv9 hcl9 => m_out (px := fun E => exc ["java/lang/IndexOutOfBoundsException", "java/lang/IllegalArgumentException", "java/lang/UnsupportedOperationException", "java/lang/IllegalStateException"] (m_make st p0 p1 p2) E) (fun x hx9 => absurd hx9 (fun q => hxt x q)) hlocks hP hI hS hc9 hv9 hcl9 ((by obtain ⟨hE9, hn9⟩ := hpx9; subst hE9; exact exc_of (by unfold m_make; first | (rw [chk_p ht9, chk_p hp_r2, chk_n hn9]; done) | (rw [chk_p ht9, chk_p hp_r2, chk_n hn9]; rfl)) rfl)) (Nat.le_of_ble_eq_true rfl) (Nat.le_of_ble_eq_true rfl)) (fun Mw1 H locs hp_r3 hP hI hS => ?_)
  obtain ⟨hp_r3, hm9⟩ := hp_r3
  subst Mw1
  refine lv_aload hx hb dX4_make_24 (lv_at hl 0 rfl) ?_
  refine mx_callv (vx_runS (As := [.ref (ad 3 (ix p0))]) (rest := []) ⟨hx, hb, hml, hown, hts⟩ (c_X4_demandUnused l G A Mw hl9  h_T) (va_cwS 1 hts gX4_make_X4_demandUnused rfl rfl rfl (by decide +kernel) ⟨Nat.le_of_ble_eq_true rfl, Nat.le_of_ble_eq_true rfl⟩) (mPreS hG hS hP hI hA) rfl rfl hl.1 rfl (lv_room (Nat.le_of_ble_eq_true rfl)) dX4_make_26 ⟨Nat.le_of_ble_eq_true rfl, Nat.le_of_ble_eq_true rfl⟩) hS (fun E9 ce9 q9 H locs hpx9 hP hI hS hc9 hv9 hcl9 => m_out (px := fun E => exc ["java/lang/IndexOutOfBoundsException", "java/lang/IllegalArgumentException", "java/lang/UnsupportedOperationException", "java/lang/IllegalStateException"] (m_make st p0 p1 p2) E) (fun x hx9 => absurd hx9 (fun q => hxt x q)) hlocks hP hI hS hc9 hv9 hcl9 ((by obtain ⟨hE9, hn9⟩ := hpx9; subst hE9; exact exc_of (by unfold m_make; first | (rw [chk_p ht9, chk_p hp_r2, chk_p hp_r3, chk_n hn9]; done) | (rw [chk_p ht9, chk_p hp_r2, chk_p hp_r3, chk_n hn9]; rfl)) rfl)) (Nat.le_of_ble_eq_true rfl) (Nat.le_of_ble_eq_true rfl)) (fun Mw1 H locs hp_r4 hP hI hS => ?_)
  obtain ⟨hp_r4, hm9⟩ := hp_r4
  subst Mw1
  refine lv_aload_n hx hb dX4_make_29 rfl (lv_at hl 1 rfl) ?_
  refine m_get (ci := 4) (v := .int (nI (nN st))) (C := RX4) (T := TX4) (N := 9) hx hb hts i_X4 hown hK (hP _ _ h_X) rfl 3 (by decide) (hts (.fieldLink RX4 94 "Meniscus" "instrumentCount" "I") (by decide +kernel)) (fun _ h9 => h9) rfl dX4_make_30 ?_
  refine lv_aload_n hx hb dX4_make_33 rfl (lv_at hl 1 rfl) ?_
  refine m_get (ci := 4) (v := .ref (ad 2 0)) (C := RX4) (T := TX4) (N := 9) hx hb hts i_X4 hown hK (hP _ _ h_X) rfl 1 (by decide) (hts (.fieldLink RX4 17 "Meniscus" "instruments" "[LMeniscus$Instrument;") (by decide +kernel)) (fun _ h9 => h9) rfl dX4_make_34 ?_
  refine m_alen (v := 6) hx hb hK 4 (hP _ _ h_IA) rfl rfl dX4_make_37 ?_
  refine lv_icmp_lt (tgt := 51) hx hb dX4_make_38 (by decide) (fun c5 => ?_) (fun c5 => ?_)
  · skip
    have hb_c5 : nN st < 6 := nI_ltn hV.1.2 (by decide) (show nI (nN st) < nI 6 from c5)
    refine lv_aload_n hx hb dX4_make_51 rfl (lv_at hl 1 rfl) ?_
    refine m_get (ci := 4) (v := .int (nI (nN st))) (C := RX4) (T := TX4) (N := 9) hx hb hts i_X4 hown hK (hP _ _ h_X) rfl 3 (by decide) (hts (.fieldLink RX4 94 "Meniscus" "instrumentCount" "I") (by decide +kernel)) (fun _ h9 => h9) rfl dX4_make_52 ?_
    refine lv_istore (lv' := [(5, .int (nI (nN st))), (4, .ref (ad 3 (ix p0))), (0, .ref (ad 0 0)), (1, .int p0), (2, .int p1), (3, .int p2)]) hx hb dX4_make_55 hl (by decide) rfl (fun ls hl => ?_)
    refine lv_aload hx hb dX4_make_57 (lv_at hl 1 rfl) ?_
    refine lv_iconst (v := 1) hx hb dX4_make_59 (by decide) ?_
    refine m_putN (ci := 3) (v := .int 1) (ty := .boolean) (C := RX3) (T := TX3) (N := 2) hx hb hts i_X3 tyX3 tyX3_ok nmX3 hown hK hP hI hS h_T rfl 1 (by decide) (va_Nw.use rfl (hG.2.1.2.1 ("Meniscus", 99, "Meniscus$Tube", "used", "Z", "Meniscus") (by decide +kernel))) (fun _ h9 => h9) rfl (by decide +kernel) rfl rfl (Nat.le_of_ble_eq_true rfl) dX4_make_60 (fun H locs hP hI hS => ?_)
    have hP : mP G.1 (mu Mw (ad 3 (ix p0)) (.inr (3, [.ref (ad 4 (ix p0)), .int 1]))) H := hP
    have hI : mI A (mu Mw (ad 3 (ix p0)) (.inr (3, [.ref (ad 4 (ix p0)), .int 1]))) := hI
    have h_X := mu_k (e := .inr (3, [.ref (ad 4 (ix p0)), .int 1])) (kd_ne h_X h_T rfl) h_X
    have h_TA := mu_k (e := .inr (3, [.ref (ad 4 (ix p0)), .int 1])) (kd_ne h_TA h_T rfl) h_TA
    have h_IA := mu_k (e := .inr (3, [.ref (ad 4 (ix p0)), .int 1])) (kd_ne h_IA h_T rfl) h_IA
    have h_B := mu_k (e := .inr (3, [.ref (ad 4 (ix p0)), .int 1])) (kd_ne h_B h_T rfl) h_B
    have h_T : (mu Mw (ad 3 (ix p0)) (.inr (3, [.ref (ad 4 (ix p0)), .int 1]))) (ad 3 (ix p0)) = some (.inr (3, [.ref (ad 4 (ix p0)), .int 1])) := mu_s
    refine lv_aload_n hx hb dX4_make_63 rfl (lv_at hl 2 rfl) ?_
    refine m_get (ci := 4) (v := .ref (ad 2 0)) (C := RX4) (T := TX4) (N := 9) hx hb hts i_X4 hown hK (hP _ _ h_X) rfl 1 (by decide) (hts (.fieldLink RX4 17 "Meniscus" "instruments" "[LMeniscus$Instrument;") (by decide +kernel)) (fun _ h9 => h9) rfl dX4_make_64 ?_
    refine lv_iload hx hb dX4_make_67 (lv_at hl 0 rfl) ?_
    refine m_new (ci := 0) (fs := [.int 0, .null, .int 0, .int 0, .null, .null, .int 0, .int 0, .int 0, .int 0, .int 0, .int 0, .int 0, .int 0, .int 0]) (C := RX0) (T := TX0) (N := 15) hx hb hts i_X0 tyX0 tyX0_ok hown (hts (.classLink RX4 15 RX0) (by decide +kernel)) (hts (.instantiable RX0 15) (by decide +kernel)) (hts (.initialized RX0) (by decide +kernel)) hK hP hI hS hA rfl (fun j hj => by rcases (show j = 0 ∨ j = 1 ∨ j = 2 ∨ j = 3 ∨ j = 4 ∨ j = 5 ∨ j = 6 ∨ j = 7 ∨ j = 8 ∨ j = 9 ∨ j = 10 ∨ j = 11 ∨ j = 12 ∨ j = 13 ∨ j = 14 by omega) with rfl | rfl | rfl | rfl | rfl | rfl | rfl | rfl | rfl | rfl | rfl | rfl | rfl | rfl | rfl <;> rfl) (Nat.le_of_ble_eq_true rfl) (Nat.le_of_ble_eq_true rfl) dX4_make_69 (fun q6 H hn_q6 hP hI hS => ?_)
    have h_X := mu_x (e := .inr (0, [.int 0, .null, .int 0, .int 0, .null, .null, .int 0, .int 0, .int 0, .int 0, .int 0, .int 0, .int 0, .int 0, .int 0])) h_X hn_q6
    have h_TA := mu_x (e := .inr (0, [.int 0, .null, .int 0, .int 0, .null, .null, .int 0, .int 0, .int 0, .int 0, .int 0, .int 0, .int 0, .int 0, .int 0])) h_TA hn_q6
    have h_IA := mu_x (e := .inr (0, [.int 0, .null, .int 0, .int 0, .null, .null, .int 0, .int 0, .int 0, .int 0, .int 0, .int 0, .int 0, .int 0, .int 0])) h_IA hn_q6
    have h_T := mu_x (e := .inr (0, [.int 0, .null, .int 0, .int 0, .null, .null, .int 0, .int 0, .int 0, .int 0, .int 0, .int 0, .int 0, .int 0, .int 0])) h_T hn_q6
    have h_B := mu_x (e := .inr (0, [.int 0, .null, .int 0, .int 0, .null, .null, .int 0, .int 0, .int 0, .int 0, .int 0, .int 0, .int 0, .int 0, .int 0])) h_B hn_q6
    have h_q6 : (mu (mu Mw (ad 3 (ix p0)) (.inr (3, [.ref (ad 4 (ix p0)), .int 1]))) q6 (.inr (0, [.int 0, .null, .int 0, .int 0, .null, .null, .int 0, .int 0, .int 0, .int 0, .int 0, .int 0, .int 0, .int 0, .int 0]))) q6 = some (.inr (0, [.int 0, .null, .int 0, .int 0, .null, .null, .int 0, .int 0, .int 0, .int 0, .int 0, .int 0, .int 0, .int 0, .int 0])) := mu_s
    refine lv_dup hx hb dX4_make_72 rfl ?_
    refine lv_iload_n hx hb dX4_make_73 rfl (lv_at hl 3 rfl) ?_
    refine lv_aload hx hb dX4_make_74 (lv_at hl 1 rfl) ?_
    refine lv_iload_n hx hb dX4_make_76 rfl (lv_at hl 4 rfl) ?_
    refine lv_iload_n hx hb dX4_make_77 rfl (lv_at hl 5 rfl) ?_
    refine m_callv (va_runI (As := [.int p0, .ref (ad 3 (ix p0)), .int p1, .int p2]) (rest := [.ref q6, .int (nI (nN st)), .ref (ad 2 0)]) ⟨hx, hb, hml, hown, hts⟩ (c_X0_init l G A (mu (mu Mw (ad 3 (ix p0)) (.inr (3, [.ref (ad 4 (ix p0)), .int 1]))) q6 (.inr (0, [.int 0, .null, .int 0, .int 0, .null, .null, .int 0, .int 0, .int 0, .int 0, .int 0, .int 0, .int 0, .int 0, .int 0])))  p0 p1 p2 (ad 3 (ix p0)) (nch hp_r3 ⟨rfl, rfl⟩ ⟨rfl, rfl⟩) h_q6) (cwI 4 hts gX4_make_X0_init rfl rfl rfl (hts (.initialized RX0) (by decide +kernel)) (hts (.methodLink RX4 103 yX0_init) (by decide +kernel)) (hts (.instanceMethod yX0_init) (by decide +kernel)) rfl (by decide +kernel) ⟨Nat.le_of_ble_eq_true rfl, Nat.le_of_ble_eq_true rfl⟩) (mPreS hG hS hP hI hA) rfl rfl hl.1 rfl (lv_room (Nat.le_of_ble_eq_true rfl)) dX4_make_78 ⟨Nat.le_of_ble_eq_true rfl, Nat.le_of_ble_eq_true rfl⟩) hS (fun Mw1 H locs hp_r7 hP hI hS => ?_)
    obtain ⟨rd0, va0, er0, sc0, hnr, hnv, hne, hns, nx1, nx2, nx3, nx4, nx5, nx6, hm9⟩ := hp_r7
    subst Mw1
    have hnr2 : (mu (mu (mu Mw (ad 3 (ix p0)) (.inr (3, [.ref (ad 4 (ix p0)), .int 1]))) q6 (.inr (0, [.int 0, .null, .int 0, .int 0, .null, .null, .int 0, .int 0, .int 0, .int 0, .int 0, .int 0, .int 0, .int 0, .int 0]))) q6 (.inr (0, [.int p0, .ref (ad 3 (ix p0)), .int p1, .int p2, .ref sc0, .ref rd0, .int 0, .int 0, .int 0, .int 32, .int 0, .int 0, .int 0, .int ((-1)), .int ((-1))]))) rd0 = none := (mu_n (Ne.symm (ne_none h_q6 hnr))).trans hnr
    have hnv2 : (mu (mu (mu (mu Mw (ad 3 (ix p0)) (.inr (3, [.ref (ad 4 (ix p0)), .int 1]))) q6 (.inr (0, [.int 0, .null, .int 0, .int 0, .null, .null, .int 0, .int 0, .int 0, .int 0, .int 0, .int 0, .int 0, .int 0, .int 0]))) q6 (.inr (0, [.int p0, .ref (ad 3 (ix p0)), .int p1, .int p2, .ref sc0, .ref rd0, .int 0, .int 0, .int 0, .int 32, .int 0, .int 0, .int 0, .int ((-1)), .int ((-1))]))) rd0 (.inr (1, [.ref va0, .ref er0, .int 0]))) va0 = none := (mu_n (Ne.symm nx1)).trans ((mu_n (Ne.symm (ne_none h_q6 hnv))).trans hnv)
    have hne2 : (mu (mu (mu (mu (mu Mw (ad 3 (ix p0)) (.inr (3, [.ref (ad 4 (ix p0)), .int 1]))) q6 (.inr (0, [.int 0, .null, .int 0, .int 0, .null, .null, .int 0, .int 0, .int 0, .int 0, .int 0, .int 0, .int 0, .int 0, .int 0]))) q6 (.inr (0, [.int p0, .ref (ad 3 (ix p0)), .int p1, .int p2, .ref sc0, .ref rd0, .int 0, .int 0, .int 0, .int 32, .int 0, .int 0, .int 0, .int ((-1)), .int ((-1))]))) rd0 (.inr (1, [.ref va0, .ref er0, .int 0]))) va0 (.inl (G.2.1 0, 8, .inl (fun _ => 0)))) er0 = none := (mu_n (Ne.symm nx4)).trans ((mu_n (Ne.symm nx2)).trans ((mu_n (Ne.symm (ne_none h_q6 hne))).trans hne))
    have hns2 : (mu (mu (mu (mu (mu (mu Mw (ad 3 (ix p0)) (.inr (3, [.ref (ad 4 (ix p0)), .int 1]))) q6 (.inr (0, [.int 0, .null, .int 0, .int 0, .null, .null, .int 0, .int 0, .int 0, .int 0, .int 0, .int 0, .int 0, .int 0, .int 0]))) q6 (.inr (0, [.int p0, .ref (ad 3 (ix p0)), .int p1, .int p2, .ref sc0, .ref rd0, .int 0, .int 0, .int 0, .int 32, .int 0, .int 0, .int 0, .int ((-1)), .int ((-1))]))) rd0 (.inr (1, [.ref va0, .ref er0, .int 0]))) va0 (.inl (G.2.1 0, 8, .inl (fun _ => 0)))) er0 (.inl (G.2.1 0, 8, .inl (fun _ => 0)))) sc0 = none := (mu_n (Ne.symm nx6)).trans ((mu_n (Ne.symm nx5)).trans ((mu_n (Ne.symm nx3)).trans ((mu_n (Ne.symm (ne_none h_q6 hns))).trans hns)))
    have h_X := mu_k (e := .inr (0, [.int p0, .ref (ad 3 (ix p0)), .int p1, .int p2, .ref sc0, .ref rd0, .int 0, .int 0, .int 0, .int 32, .int 0, .int 0, .int 0, .int ((-1)), .int ((-1))])) (kd_ne h_X h_q6 rfl) h_X
    have h_TA := mu_k (e := .inr (0, [.int p0, .ref (ad 3 (ix p0)), .int p1, .int p2, .ref sc0, .ref rd0, .int 0, .int 0, .int 0, .int 32, .int 0, .int 0, .int 0, .int ((-1)), .int ((-1))])) (kd_ne h_TA h_q6 rfl) h_TA
    have h_IA := mu_k (e := .inr (0, [.int p0, .ref (ad 3 (ix p0)), .int p1, .int p2, .ref sc0, .ref rd0, .int 0, .int 0, .int 0, .int 32, .int 0, .int 0, .int 0, .int ((-1)), .int ((-1))])) (kd_ne h_IA h_q6 rfl) h_IA
    have h_T := mu_k (e := .inr (0, [.int p0, .ref (ad 3 (ix p0)), .int p1, .int p2, .ref sc0, .ref rd0, .int 0, .int 0, .int 0, .int 32, .int 0, .int 0, .int 0, .int ((-1)), .int ((-1))])) (kd_ne h_T h_q6 rfl) h_T
    have h_B := mu_k (e := .inr (0, [.int p0, .ref (ad 3 (ix p0)), .int p1, .int p2, .ref sc0, .ref rd0, .int 0, .int 0, .int 0, .int 32, .int 0, .int 0, .int 0, .int ((-1)), .int ((-1))])) (kd_ne h_B h_q6 rfl) h_B
    have h_q6 : (mu (mu (mu Mw (ad 3 (ix p0)) (.inr (3, [.ref (ad 4 (ix p0)), .int 1]))) q6 (.inr (0, [.int 0, .null, .int 0, .int 0, .null, .null, .int 0, .int 0, .int 0, .int 0, .int 0, .int 0, .int 0, .int 0, .int 0]))) q6 (.inr (0, [.int p0, .ref (ad 3 (ix p0)), .int p1, .int p2, .ref sc0, .ref rd0, .int 0, .int 0, .int 0, .int 32, .int 0, .int 0, .int 0, .int ((-1)), .int ((-1))]))) q6 = some (.inr (0, [.int p0, .ref (ad 3 (ix p0)), .int p1, .int p2, .ref sc0, .ref rd0, .int 0, .int 0, .int 0, .int 32, .int 0, .int 0, .int 0, .int ((-1)), .int ((-1))])) := mu_s
    have h_X := mu_k (e := .inr (1, [.ref va0, .ref er0, .int 0])) (ne_none h_X hnr2) h_X
    have h_TA := mu_k (e := .inr (1, [.ref va0, .ref er0, .int 0])) (ne_none h_TA hnr2) h_TA
    have h_IA := mu_k (e := .inr (1, [.ref va0, .ref er0, .int 0])) (ne_none h_IA hnr2) h_IA
    have h_T := mu_k (e := .inr (1, [.ref va0, .ref er0, .int 0])) (ne_none h_T hnr2) h_T
    have h_B := mu_k (e := .inr (1, [.ref va0, .ref er0, .int 0])) (ne_none h_B hnr2) h_B
    have h_q6 := mu_k (e := .inr (1, [.ref va0, .ref er0, .int 0])) (ne_none h_q6 hnr2) h_q6
    have h_R : (mu (mu (mu (mu Mw (ad 3 (ix p0)) (.inr (3, [.ref (ad 4 (ix p0)), .int 1]))) q6 (.inr (0, [.int 0, .null, .int 0, .int 0, .null, .null, .int 0, .int 0, .int 0, .int 0, .int 0, .int 0, .int 0, .int 0, .int 0]))) q6 (.inr (0, [.int p0, .ref (ad 3 (ix p0)), .int p1, .int p2, .ref sc0, .ref rd0, .int 0, .int 0, .int 0, .int 32, .int 0, .int 0, .int 0, .int ((-1)), .int ((-1))]))) rd0 (.inr (1, [.ref va0, .ref er0, .int 0]))) rd0 = some (.inr (1, [.ref va0, .ref er0, .int 0])) := mu_s
    have h_X := mu_k (e := .inl (G.2.1 0, 8, .inl (fun _ => 0))) (ne_none h_X hnv2) h_X
    have h_TA := mu_k (e := .inl (G.2.1 0, 8, .inl (fun _ => 0))) (ne_none h_TA hnv2) h_TA
    have h_IA := mu_k (e := .inl (G.2.1 0, 8, .inl (fun _ => 0))) (ne_none h_IA hnv2) h_IA
    have h_T := mu_k (e := .inl (G.2.1 0, 8, .inl (fun _ => 0))) (ne_none h_T hnv2) h_T
    have h_B := mu_k (e := .inl (G.2.1 0, 8, .inl (fun _ => 0))) (ne_none h_B hnv2) h_B
    have h_q6 := mu_k (e := .inl (G.2.1 0, 8, .inl (fun _ => 0))) (ne_none h_q6 hnv2) h_q6
    have h_R := mu_k (e := .inl (G.2.1 0, 8, .inl (fun _ => 0))) (ne_none h_R hnv2) h_R
    have h_V : (mu (mu (mu (mu (mu Mw (ad 3 (ix p0)) (.inr (3, [.ref (ad 4 (ix p0)), .int 1]))) q6 (.inr (0, [.int 0, .null, .int 0, .int 0, .null, .null, .int 0, .int 0, .int 0, .int 0, .int 0, .int 0, .int 0, .int 0, .int 0]))) q6 (.inr (0, [.int p0, .ref (ad 3 (ix p0)), .int p1, .int p2, .ref sc0, .ref rd0, .int 0, .int 0, .int 0, .int 32, .int 0, .int 0, .int 0, .int ((-1)), .int ((-1))]))) rd0 (.inr (1, [.ref va0, .ref er0, .int 0]))) va0 (.inl (G.2.1 0, 8, .inl (fun _ => 0)))) va0 = some (.inl (G.2.1 0, 8, .inl (fun _ => 0))) := mu_s
    have h_X := mu_k (e := .inl (G.2.1 0, 8, .inl (fun _ => 0))) (ne_none h_X hne2) h_X
    have h_TA := mu_k (e := .inl (G.2.1 0, 8, .inl (fun _ => 0))) (ne_none h_TA hne2) h_TA
    have h_IA := mu_k (e := .inl (G.2.1 0, 8, .inl (fun _ => 0))) (ne_none h_IA hne2) h_IA
    have h_T := mu_k (e := .inl (G.2.1 0, 8, .inl (fun _ => 0))) (ne_none h_T hne2) h_T
    have h_B := mu_k (e := .inl (G.2.1 0, 8, .inl (fun _ => 0))) (ne_none h_B hne2) h_B
    have h_q6 := mu_k (e := .inl (G.2.1 0, 8, .inl (fun _ => 0))) (ne_none h_q6 hne2) h_q6
    have h_R := mu_k (e := .inl (G.2.1 0, 8, .inl (fun _ => 0))) (ne_none h_R hne2) h_R
    have h_V := mu_k (e := .inl (G.2.1 0, 8, .inl (fun _ => 0))) (ne_none h_V hne2) h_V
    have h_E : (mu (mu (mu (mu (mu (mu Mw (ad 3 (ix p0)) (.inr (3, [.ref (ad 4 (ix p0)), .int 1]))) q6 (.inr (0, [.int 0, .null, .int 0, .int 0, .null, .null, .int 0, .int 0, .int 0, .int 0, .int 0, .int 0, .int 0, .int 0, .int 0]))) q6 (.inr (0, [.int p0, .ref (ad 3 (ix p0)), .int p1, .int p2, .ref sc0, .ref rd0, .int 0, .int 0, .int 0, .int 32, .int 0, .int 0, .int 0, .int ((-1)), .int ((-1))]))) rd0 (.inr (1, [.ref va0, .ref er0, .int 0]))) va0 (.inl (G.2.1 0, 8, .inl (fun _ => 0)))) er0 (.inl (G.2.1 0, 8, .inl (fun _ => 0)))) er0 = some (.inl (G.2.1 0, 8, .inl (fun _ => 0))) := mu_s
    have h_X := mu_k (e := .inr (2, [.ref (ad 3 (ix p0)), .int ((-1)), .int ((-1)), .int 0, .int 32])) (ne_none h_X hns2) h_X
    have h_TA := mu_k (e := .inr (2, [.ref (ad 3 (ix p0)), .int ((-1)), .int ((-1)), .int 0, .int 32])) (ne_none h_TA hns2) h_TA
    have h_IA := mu_k (e := .inr (2, [.ref (ad 3 (ix p0)), .int ((-1)), .int ((-1)), .int 0, .int 32])) (ne_none h_IA hns2) h_IA
    have h_T := mu_k (e := .inr (2, [.ref (ad 3 (ix p0)), .int ((-1)), .int ((-1)), .int 0, .int 32])) (ne_none h_T hns2) h_T
    have h_B := mu_k (e := .inr (2, [.ref (ad 3 (ix p0)), .int ((-1)), .int ((-1)), .int 0, .int 32])) (ne_none h_B hns2) h_B
    have h_q6 := mu_k (e := .inr (2, [.ref (ad 3 (ix p0)), .int ((-1)), .int ((-1)), .int 0, .int 32])) (ne_none h_q6 hns2) h_q6
    have h_R := mu_k (e := .inr (2, [.ref (ad 3 (ix p0)), .int ((-1)), .int ((-1)), .int 0, .int 32])) (ne_none h_R hns2) h_R
    have h_V := mu_k (e := .inr (2, [.ref (ad 3 (ix p0)), .int ((-1)), .int ((-1)), .int 0, .int 32])) (ne_none h_V hns2) h_V
    have h_E := mu_k (e := .inr (2, [.ref (ad 3 (ix p0)), .int ((-1)), .int ((-1)), .int 0, .int 32])) (ne_none h_E hns2) h_E
    have h_S : (mu (mu (mu (mu (mu (mu (mu Mw (ad 3 (ix p0)) (.inr (3, [.ref (ad 4 (ix p0)), .int 1]))) q6 (.inr (0, [.int 0, .null, .int 0, .int 0, .null, .null, .int 0, .int 0, .int 0, .int 0, .int 0, .int 0, .int 0, .int 0, .int 0]))) q6 (.inr (0, [.int p0, .ref (ad 3 (ix p0)), .int p1, .int p2, .ref sc0, .ref rd0, .int 0, .int 0, .int 0, .int 32, .int 0, .int 0, .int 0, .int ((-1)), .int ((-1))]))) rd0 (.inr (1, [.ref va0, .ref er0, .int 0]))) va0 (.inl (G.2.1 0, 8, .inl (fun _ => 0)))) er0 (.inl (G.2.1 0, 8, .inl (fun _ => 0)))) sc0 (.inr (2, [.ref (ad 3 (ix p0)), .int ((-1)), .int ((-1)), .int 0, .int 32]))) sc0 = some (.inr (2, [.ref (ad 3 (ix p0)), .int ((-1)), .int ((-1)), .int 0, .int 32])) := mu_s
    refine m_astq hx hb hK hP hI hS 4 (r := (RX0, TX0, 15)) h_IA rfl h_q6 rfl (vp_in_nI (by assumption) (by omega)) dX4_make_81 (fun H locs hP hI hS => ?_)
    have h_X := mu_k (e := .inl (G.2.1 4, 6, .inr (.inr (.inr (.inr (va_up (qf (nN st) (ad 5)) ((nI (nN st)).toNatClampNeg) (some q6))))))) (kd_ne h_X h_IA rfl) h_X
    have h_TA := mu_k (e := .inl (G.2.1 4, 6, .inr (.inr (.inr (.inr (va_up (qf (nN st) (ad 5)) ((nI (nN st)).toNatClampNeg) (some q6))))))) hta9 h_TA
    have h_T := mu_k (e := .inl (G.2.1 4, 6, .inr (.inr (.inr (.inr (va_up (qf (nN st) (ad 5)) ((nI (nN st)).toNatClampNeg) (some q6))))))) (kd_ne h_T h_IA rfl) h_T
    have h_B := mu_k (e := .inl (G.2.1 4, 6, .inr (.inr (.inr (.inr (va_up (qf (nN st) (ad 5)) ((nI (nN st)).toNatClampNeg) (some q6))))))) (kd_ne h_B h_IA rfl) h_B
    have h_q6 := mu_k (e := .inl (G.2.1 4, 6, .inr (.inr (.inr (.inr (va_up (qf (nN st) (ad 5)) ((nI (nN st)).toNatClampNeg) (some q6))))))) (kd_ne h_q6 h_IA rfl) h_q6
    have h_R := mu_k (e := .inl (G.2.1 4, 6, .inr (.inr (.inr (.inr (va_up (qf (nN st) (ad 5)) ((nI (nN st)).toNatClampNeg) (some q6))))))) (kd_ne h_R h_IA rfl) h_R
    have h_V := mu_k (e := .inl (G.2.1 4, 6, .inr (.inr (.inr (.inr (va_up (qf (nN st) (ad 5)) ((nI (nN st)).toNatClampNeg) (some q6))))))) (kd_ne h_V h_IA rfl) h_V
    have h_E := mu_k (e := .inl (G.2.1 4, 6, .inr (.inr (.inr (.inr (va_up (qf (nN st) (ad 5)) ((nI (nN st)).toNatClampNeg) (some q6))))))) (kd_ne h_E h_IA rfl) h_E
    have h_S := mu_k (e := .inl (G.2.1 4, 6, .inr (.inr (.inr (.inr (va_up (qf (nN st) (ad 5)) ((nI (nN st)).toNatClampNeg) (some q6))))))) (kd_ne h_S h_IA rfl) h_S
    have h_IA : (mu (mu (mu (mu (mu (mu (mu (mu Mw (ad 3 (ix p0)) (.inr (3, [.ref (ad 4 (ix p0)), .int 1]))) q6 (.inr (0, [.int 0, .null, .int 0, .int 0, .null, .null, .int 0, .int 0, .int 0, .int 0, .int 0, .int 0, .int 0, .int 0, .int 0]))) q6 (.inr (0, [.int p0, .ref (ad 3 (ix p0)), .int p1, .int p2, .ref sc0, .ref rd0, .int 0, .int 0, .int 0, .int 32, .int 0, .int 0, .int 0, .int ((-1)), .int ((-1))]))) rd0 (.inr (1, [.ref va0, .ref er0, .int 0]))) va0 (.inl (G.2.1 0, 8, .inl (fun _ => 0)))) er0 (.inl (G.2.1 0, 8, .inl (fun _ => 0)))) sc0 (.inr (2, [.ref (ad 3 (ix p0)), .int ((-1)), .int ((-1)), .int 0, .int 32]))) (ad 2 0) (.inl (G.2.1 4, 6, .inr (.inr (.inr (.inr (va_up (qf (nN st) (ad 5)) ((nI (nN st)).toNatClampNeg) (some q6)))))))) (ad 2 0) = some (.inl (G.2.1 4, 6, .inr (.inr (.inr (.inr (va_up (qf (nN st) (ad 5)) ((nI (nN st)).toNatClampNeg) (some q6))))))) := mu_s
    refine lv_aload_n hx hb dX4_make_82 rfl (lv_at hl 2 rfl) ?_
    refine lv_dup hx hb dX4_make_83 rfl ?_
    refine m_get (ci := 4) (v := .int (nI (nN st))) (C := RX4) (T := TX4) (N := 9) hx hb hts i_X4 hown hK (hP _ _ h_X) rfl 3 (by decide) (hts (.fieldLink RX4 94 "Meniscus" "instrumentCount" "I") (by decide +kernel)) (fun _ h9 => h9) rfl dX4_make_84 ?_
    refine lv_iconst (v := 1) hx hb dX4_make_87 (by decide) ?_
    refine lv_iadd hx hb dX4_make_88 ?_
    refine m_put (ci := 4) (v := .int ((nI (nN st)) + 1)) (ty := .int) (C := RX4) (T := TX4) (N := 9) hx hb hts i_X4 tyX4 tyX4_ok nmX4 hown hK hP hI hS h_X rfl 3 (by decide) (hts (.fieldLink RX4 94 "Meniscus" "instrumentCount" "I") (by decide +kernel)) (fun _ h9 => h9) rfl (by decide +kernel) rfl rfl (Nat.le_of_ble_eq_true rfl) dX4_make_89 (fun H locs hP hI hS => ?_)
    have hP : mP G.1 (mu (mu (mu (mu (mu (mu (mu (mu (mu Mw (ad 3 (ix p0)) (.inr (3, [.ref (ad 4 (ix p0)), .int 1]))) q6 (.inr (0, [.int 0, .null, .int 0, .int 0, .null, .null, .int 0, .int 0, .int 0, .int 0, .int 0, .int 0, .int 0, .int 0, .int 0]))) q6 (.inr (0, [.int p0, .ref (ad 3 (ix p0)), .int p1, .int p2, .ref sc0, .ref rd0, .int 0, .int 0, .int 0, .int 32, .int 0, .int 0, .int 0, .int ((-1)), .int ((-1))]))) rd0 (.inr (1, [.ref va0, .ref er0, .int 0]))) va0 (.inl (G.2.1 0, 8, .inl (fun _ => 0)))) er0 (.inl (G.2.1 0, 8, .inl (fun _ => 0)))) sc0 (.inr (2, [.ref (ad 3 (ix p0)), .int ((-1)), .int ((-1)), .int 0, .int 32]))) (ad 2 0) (.inl (G.2.1 4, 6, .inr (.inr (.inr (.inr (va_up (qf (nN st) (ad 5)) ((nI (nN st)).toNatClampNeg) (some q6)))))))) (ad 0 0) (.inr (4, [.ref (ad 1 0), .ref (ad 2 0), .int (nI (nT st)), .int ((nI (nN st)) + 1), .int (gS st 0), .int (gS st 1), .int (gS st 2), .int (gS st 3), .int (gS st 4)]))) H := hP
    have hI : mI A (mu (mu (mu (mu (mu (mu (mu (mu (mu Mw (ad 3 (ix p0)) (.inr (3, [.ref (ad 4 (ix p0)), .int 1]))) q6 (.inr (0, [.int 0, .null, .int 0, .int 0, .null, .null, .int 0, .int 0, .int 0, .int 0, .int 0, .int 0, .int 0, .int 0, .int 0]))) q6 (.inr (0, [.int p0, .ref (ad 3 (ix p0)), .int p1, .int p2, .ref sc0, .ref rd0, .int 0, .int 0, .int 0, .int 32, .int 0, .int 0, .int 0, .int ((-1)), .int ((-1))]))) rd0 (.inr (1, [.ref va0, .ref er0, .int 0]))) va0 (.inl (G.2.1 0, 8, .inl (fun _ => 0)))) er0 (.inl (G.2.1 0, 8, .inl (fun _ => 0)))) sc0 (.inr (2, [.ref (ad 3 (ix p0)), .int ((-1)), .int ((-1)), .int 0, .int 32]))) (ad 2 0) (.inl (G.2.1 4, 6, .inr (.inr (.inr (.inr (va_up (qf (nN st) (ad 5)) ((nI (nN st)).toNatClampNeg) (some q6)))))))) (ad 0 0) (.inr (4, [.ref (ad 1 0), .ref (ad 2 0), .int (nI (nT st)), .int ((nI (nN st)) + 1), .int (gS st 0), .int (gS st 1), .int (gS st 2), .int (gS st 3), .int (gS st 4)]))) := hI
    have h_TA := mu_k (e := .inr (4, [.ref (ad 1 0), .ref (ad 2 0), .int (nI (nT st)), .int ((nI (nN st)) + 1), .int (gS st 0), .int (gS st 1), .int (gS st 2), .int (gS st 3), .int (gS st 4)])) (kd_ne h_TA h_X rfl) h_TA
    have h_IA := mu_k (e := .inr (4, [.ref (ad 1 0), .ref (ad 2 0), .int (nI (nT st)), .int ((nI (nN st)) + 1), .int (gS st 0), .int (gS st 1), .int (gS st 2), .int (gS st 3), .int (gS st 4)])) (kd_ne h_IA h_X rfl) h_IA
    have h_T := mu_k (e := .inr (4, [.ref (ad 1 0), .ref (ad 2 0), .int (nI (nT st)), .int ((nI (nN st)) + 1), .int (gS st 0), .int (gS st 1), .int (gS st 2), .int (gS st 3), .int (gS st 4)])) (kd_ne h_T h_X rfl) h_T
    have h_B := mu_k (e := .inr (4, [.ref (ad 1 0), .ref (ad 2 0), .int (nI (nT st)), .int ((nI (nN st)) + 1), .int (gS st 0), .int (gS st 1), .int (gS st 2), .int (gS st 3), .int (gS st 4)])) (kd_ne h_B h_X rfl) h_B
    have h_q6 := mu_k (e := .inr (4, [.ref (ad 1 0), .ref (ad 2 0), .int (nI (nT st)), .int ((nI (nN st)) + 1), .int (gS st 0), .int (gS st 1), .int (gS st 2), .int (gS st 3), .int (gS st 4)])) (kd_ne h_q6 h_X rfl) h_q6
    have h_R := mu_k (e := .inr (4, [.ref (ad 1 0), .ref (ad 2 0), .int (nI (nT st)), .int ((nI (nN st)) + 1), .int (gS st 0), .int (gS st 1), .int (gS st 2), .int (gS st 3), .int (gS st 4)])) (kd_ne h_R h_X rfl) h_R
    have h_V := mu_k (e := .inr (4, [.ref (ad 1 0), .ref (ad 2 0), .int (nI (nT st)), .int ((nI (nN st)) + 1), .int (gS st 0), .int (gS st 1), .int (gS st 2), .int (gS st 3), .int (gS st 4)])) (kd_ne h_V h_X rfl) h_V
    have h_E := mu_k (e := .inr (4, [.ref (ad 1 0), .ref (ad 2 0), .int (nI (nT st)), .int ((nI (nN st)) + 1), .int (gS st 0), .int (gS st 1), .int (gS st 2), .int (gS st 3), .int (gS st 4)])) (kd_ne h_E h_X rfl) h_E
    have h_S := mu_k (e := .inr (4, [.ref (ad 1 0), .ref (ad 2 0), .int (nI (nT st)), .int ((nI (nN st)) + 1), .int (gS st 0), .int (gS st 1), .int (gS st 2), .int (gS st 3), .int (gS st 4)])) (kd_ne h_S h_X rfl) h_S
    have h_X : (mu (mu (mu (mu (mu (mu (mu (mu (mu Mw (ad 3 (ix p0)) (.inr (3, [.ref (ad 4 (ix p0)), .int 1]))) q6 (.inr (0, [.int 0, .null, .int 0, .int 0, .null, .null, .int 0, .int 0, .int 0, .int 0, .int 0, .int 0, .int 0, .int 0, .int 0]))) q6 (.inr (0, [.int p0, .ref (ad 3 (ix p0)), .int p1, .int p2, .ref sc0, .ref rd0, .int 0, .int 0, .int 0, .int 32, .int 0, .int 0, .int 0, .int ((-1)), .int ((-1))]))) rd0 (.inr (1, [.ref va0, .ref er0, .int 0]))) va0 (.inl (G.2.1 0, 8, .inl (fun _ => 0)))) er0 (.inl (G.2.1 0, 8, .inl (fun _ => 0)))) sc0 (.inr (2, [.ref (ad 3 (ix p0)), .int ((-1)), .int ((-1)), .int 0, .int 32]))) (ad 2 0) (.inl (G.2.1 4, 6, .inr (.inr (.inr (.inr (va_up (qf (nN st) (ad 5)) ((nI (nN st)).toNatClampNeg) (some q6)))))))) (ad 0 0) (.inr (4, [.ref (ad 1 0), .ref (ad 2 0), .int (nI (nT st)), .int ((nI (nN st)) + 1), .int (gS st 0), .int (gS st 1), .int (gS st 2), .int (gS st 3), .int (gS st 4)]))) (ad 0 0) = some (.inr (4, [.ref (ad 1 0), .ref (ad 2 0), .int (nI (nT st)), .int ((nI (nN st)) + 1), .int (gS st 0), .int (gS st 1), .int (gS st 2), .int (gS st 3), .int (gS st 4)])) := mu_s
    refine lv_iload hx hb dX4_make_92 (lv_at hl 0 rfl) ?_
    refine W.widen (k := 9) (n := 63) (Nat.le_of_ble_eq_true rfl) (Nat.le_of_ble_eq_true rfl) ?_
    refine vx_ret ?_
    exact W.iret (v := nI (nN st)) hx hb hr (fun t99 ht99 hW99 => ⟨⟨nI (nN st), (mu (mu (mu (mu (mu (mu (mu (mu (mu Mw (ad 3 (ix p0)) (.inr (3, [.ref (ad 4 (ix p0)), .int 1]))) q6 (.inr (0, [.int 0, .null, .int 0, .int 0, .null, .null, .int 0, .int 0, .int 0, .int 0, .int 0, .int 0, .int 0, .int 0, .int 0]))) q6 (.inr (0, [.int p0, .ref (ad 3 (ix p0)), .int p1, .int p2, .ref sc0, .ref rd0, .int 0, .int 0, .int 0, .int 32, .int 0, .int 0, .int 0, .int ((-1)), .int ((-1))]))) rd0 (.inr (1, [.ref va0, .ref er0, .int 0]))) va0 (.inl (G.2.1 0, 8, .inl (fun _ => 0)))) er0 (.inl (G.2.1 0, 8, .inl (fun _ => 0)))) sc0 (.inr (2, [.ref (ad 3 (ix p0)), .int ((-1)), .int ((-1)), .int 0, .int 32]))) (ad 2 0) (.inl (G.2.1 4, 6, .inr (.inr (.inr (.inr (va_up (qf (nN st) (ad 5)) ((nI (nN st)).toNatClampNeg) (some q6)))))))) (ad 0 0) (.inr (4, [.ref (ad 1 0), .ref (ad 2 0), .int (nI (nT st)), .int ((nI (nN st)) + 1), .int (gS st 0), .int (gS st 1), .int (gS st 2), .int (gS st 3), .int (gS st 4)]))), rfl, ⟨addI st p0 p1 p2, adI ad (nN st) (n5 q6 sc0 rd0 va0 er0), by unfold m_make; first | (rw [chk_p ht9, chk_p hp_r2, chk_p hp_r3, chk_p hp_r4, chk_p hb_c5]; done) | (rw [chk_p ht9, chk_p hp_r2, chk_p hp_r3, chk_p hp_r4, chk_p hb_c5]; rfl), cs_addI hC hV ht9.2 (mu_none hn_q6).1 (mu_none (mu_none hns).1).1 (mu_none (mu_none hnr).1).1 (mu_none (mu_none hnv).1).1 (mu_none (mu_none hne).1).1 (kd_ne h_q6 h_S rfl) (kd_ne h_q6 h_R rfl) (kd_ne h_q6 h_V rfl) (kd_ne h_q6 h_E rfl) (kd_ne h_S h_R rfl) (kd_ne h_S h_V rfl) (kd_ne h_S h_E rfl) (kd_ne h_R h_V rfl) (kd_ne h_R h_E rfl) nx4 (h_X.trans (congrArg some (by rw [nI_1]))) (h_IA.trans (congrArg some (by rw [nI_clamp (show nN st < 2 ^ 31 by have := hV.1.2; omega)]))) h_T h_q6 h_S h_R h_V h_E (fun z h1 h2 h3 h4 h5 h6 h7 h8 => (mu_n h1).trans ((mu_n h2).trans ((mu_n h5).trans ((mu_n h8).trans ((mu_n h7).trans ((mu_n h6).trans ((mu_n h4).trans ((mu_n h4).trans ((mu_n h3).trans (rfl)))))))))), adI_o (Or.inl (by decide))⟩, by rw [ht99]; exact hP, hI⟩, hS.F ht99⟩) hS.2.2 dX4_make_94
  · skip
    obtain ⟨sa9, hsa9⟩ := hG.2.1.2.2.2.2.2.1 (97, "no more instruments") (by decide +kernel)
    exact vx_throwS (text := "no more instruments") (names := ["java/lang/RuntimeException", "java/lang/Exception"]) hx hb hl9 hown (by decide +kernel) (by decide +kernel) (hts (.classLink RX4 32 "java/lang/IllegalStateException") (by decide +kernel)) (hts (.initialized "java/lang/IllegalStateException") (by decide +kernel)) hsa9 (m_hat hG (fun w h => hts w (List.mem_cons_of_mem _ (List.mem_append_left _ (List.mem_append_left _ (List.mem_append_left _ (List.mem_append_right _ h)))))) (by decide +kernel) (by decide +kernel)) (by decide +kernel) hG.2.2.1 hG.2.2.2.1 hS (hl.1.trans hml.symm) dX4_make_41 dX4_make_44 dX4_make_45 dX4_make_47 dX4_make_50 (fun x hx9 => absurd hx9 (fun q => hxt x q)) (Nat.le_of_ble_eq_true rfl) (Nat.le_of_ble_eq_true rfl) (Nat.le_of_ble_eq_true rfl) (Nat.le_of_ble_eq_true rfl) hlocks (fun t9 _ h92 h93 => m_thrown (px := fun E => exc ["java/lang/IndexOutOfBoundsException", "java/lang/IllegalArgumentException", "java/lang/UnsupportedOperationException", "java/lang/IllegalStateException"] (m_make st p0 p1 p2) E) (E := "java/lang/IllegalStateException") hP hI hS (exc_of (by unfold m_make; first | (rw [chk_p ht9, chk_p hp_r2, chk_p hp_r3, chk_p hp_r4, chk_n (fun q9 => c5 (show nI (nN st) < nI 6 from nI_lt q9 (by omega)))]; done) | (rw [chk_p ht9, chk_p hp_r2, chk_p hp_r3, chk_p hp_r4, chk_n (fun q9 => c5 (show nI (nN st) < nI 6 from nI_lt q9 (by omega)))]; rfl)) rfl) t9 h92 h93) hS.2.2 (Nat.le_of_ble_eq_true rfl) (Nat.le_of_ble_eq_true rfl)

set_option maxHeartbeats 4000000 in
set_option maxRecDepth 100000 in
theorem c_X4_init (l : Launch) (G : mg) (A : Nat → Prop) (Mw : mw) {x0 : Nat} (h_X : Mw x0 = some (.inr (4, [.null, .null, .int 0, .int 0, .int 0, .int 0, .int 0, .int 0, .int 0]))) : Met l yX4_init wsX4_init ({ frames := 1, cells := 2, slots := 14, locals := 20 }) (va_Pc [.ref x0] (mB G A Mw)) (va_Qv (fun Mw1 => ∃ ad : adr, ad 0 0 = x0 ∧ CS G stZ ad Mw1) (mE G A) A) 2 14 A := by
  refine Met.ofW (cc := cX4_init) (maxL := 1) (ret := none) (by decide) rfl ?_
  intro p e s m args below meth c s₁ B hml hv
  obtain ⟨rfl, hG, hP, hI, hA⟩ := hv
  have hx := B.exec
  have hb := B.bytes
  have hr := B.returns
  have hts := atoms_spec (ws := wsX4_init) B.pre
  have hown : s.vm.findClass RX4 = some m.cls := findClass_of_methodNamed B.named
  have hlocks := B.notSynchronized
  have hK := hG.K
  have hin : meth.name = "<init>" := (name_of_methodNamed B.named B.method).1
  have i_X4 : ∀ w ∈ wsX40, w ∈ wsX4_init := by decide +kernel
  have hS : va_S A s.heap s.heap [] := va_S.rf
  have hl := lv_entry ([.ref x0]) (n := 1) (Nat.le_of_ble_eq_true rfl)
  rw [lg_entry_eq]
  generalize (lg_sl ([.ref x0]) ++ List.replicate (1 - (lg_sl ([.ref x0])).length) Slot.unset).toArray = ls at hl ⊢
  have hl : lv_has ls 1 [(0, .ref x0)] := hl
  have hP : mP G.1 Mw s.heap := hP
  refine lv_aload_n hx hb dX4_init_0 rfl (lv_at hl 0 rfl) ?_
  refine W.objInit hx hb hown (hts (.methodLink RX4 3 objectInit) (by decide +kernel)) (hts (.instanceMethod objectInit) (by decide +kernel)) (hts (.code objectInit ⟨#[0xb1]⟩ 1 none) (by decide +kernel)) rfl (by rw [hml]; exact hl.1) rfl dX4_init_1 (Nat.le_of_ble_eq_true rfl) (Nat.le_of_ble_eq_true rfl) ?_
  refine W.eq (g2 := F0 m 4 ls []) rfl ?_
  refine lv_aload_n hx hb dX4_init_4 rfl (lv_at hl 0 rfl) ?_
  refine lv_bipush (v := (8)) hx hb dX4_init_5 (by decide) ?_
  refine m_newq (C := "Meniscus$Tube") (N' := 8) hx hb hown (hts (.classLink RX4 9 RX3) (by decide +kernel)) hG.2.1.2.2.2.2.2.2.2.1 hK hP hI hS hA 3 rfl (by decide) (by decide) (by decide) (Nat.le_of_ble_eq_true rfl) (Nat.le_of_ble_eq_true rfl) dX4_init_7 (fun q1 H hn_q1 hP hI hS => ?_)
  have h_X := mu_x (e := .inl (G.2.1 3, 8, .inr (.inr (.inr (.inr (fun _ => none)))))) h_X hn_q1
  have h_q1 : (mu Mw q1 (.inl (G.2.1 3, 8, .inr (.inr (.inr (.inr (fun _ => none))))))) q1 = some (.inl (G.2.1 3, 8, .inr (.inr (.inr (.inr (fun _ => none)))))) := mu_s
  refine m_putF (ci := 4) (v := .ref q1) (ty := .array (.object "Meniscus$Tube")) (C := RX4) (T := TX4) (N := 9) hx hb hts i_X4 tyX4 tyX4_ok nmX4 hown hK hP hI hS h_X rfl 0 (by decide) (hts (.fieldLink RX4 11 "Meniscus" "tubes" "[LMeniscus$Tube;") (by decide +kernel)) (fun _ h9 => h9) rfl hin rfl (by decide +kernel) rfl rfl (Nat.le_of_ble_eq_true rfl) dX4_init_10 (fun H locs hP hI hS => ?_)
  have hP : mP G.1 (mu (mu Mw q1 (.inl (G.2.1 3, 8, .inr (.inr (.inr (.inr (fun _ => none))))))) x0 (.inr (4, [.ref q1, .null, .int 0, .int 0, .int 0, .int 0, .int 0, .int 0, .int 0]))) H := hP
  have hI : mI A (mu (mu Mw q1 (.inl (G.2.1 3, 8, .inr (.inr (.inr (.inr (fun _ => none))))))) x0 (.inr (4, [.ref q1, .null, .int 0, .int 0, .int 0, .int 0, .int 0, .int 0, .int 0]))) := hI
  have h_q1 := mu_k (e := .inr (4, [.ref q1, .null, .int 0, .int 0, .int 0, .int 0, .int 0, .int 0, .int 0])) (kd_ne h_q1 h_X rfl) h_q1
  have h_X : (mu (mu Mw q1 (.inl (G.2.1 3, 8, .inr (.inr (.inr (.inr (fun _ => none))))))) x0 (.inr (4, [.ref q1, .null, .int 0, .int 0, .int 0, .int 0, .int 0, .int 0, .int 0]))) x0 = some (.inr (4, [.ref q1, .null, .int 0, .int 0, .int 0, .int 0, .int 0, .int 0, .int 0])) := mu_s
  refine lv_aload_n hx hb dX4_init_13 rfl (lv_at hl 0 rfl) ?_
  refine lv_bipush (v := (6)) hx hb dX4_init_14 (by decide) ?_
  refine m_newq (C := "Meniscus$Instrument") (N' := 6) hx hb hown (hts (.classLink RX4 15 RX0) (by decide +kernel)) hG.2.1.2.2.2.2.2.2.2.2.1 hK hP hI hS hA 4 rfl (by decide) (by decide) (by decide) (Nat.le_of_ble_eq_true rfl) (Nat.le_of_ble_eq_true rfl) dX4_init_16 (fun q2 H hn_q2 hP hI hS => ?_)
  have h_X := mu_x (e := .inl (G.2.1 4, 6, .inr (.inr (.inr (.inr (fun _ => none)))))) h_X hn_q2
  have h_q1 := mu_x (e := .inl (G.2.1 4, 6, .inr (.inr (.inr (.inr (fun _ => none)))))) h_q1 hn_q2
  have h_q2 : (mu (mu (mu Mw q1 (.inl (G.2.1 3, 8, .inr (.inr (.inr (.inr (fun _ => none))))))) x0 (.inr (4, [.ref q1, .null, .int 0, .int 0, .int 0, .int 0, .int 0, .int 0, .int 0]))) q2 (.inl (G.2.1 4, 6, .inr (.inr (.inr (.inr (fun _ => none))))))) q2 = some (.inl (G.2.1 4, 6, .inr (.inr (.inr (.inr (fun _ => none)))))) := mu_s
  refine m_putF (ci := 4) (v := .ref q2) (ty := .array (.object "Meniscus$Instrument")) (C := RX4) (T := TX4) (N := 9) hx hb hts i_X4 tyX4 tyX4_ok nmX4 hown hK hP hI hS h_X rfl 1 (by decide) (hts (.fieldLink RX4 17 "Meniscus" "instruments" "[LMeniscus$Instrument;") (by decide +kernel)) (fun _ h9 => h9) rfl hin rfl (by decide +kernel) rfl rfl (Nat.le_of_ble_eq_true rfl) dX4_init_19 (fun H locs hP hI hS => ?_)
  have hP : mP G.1 (mu (mu (mu (mu Mw q1 (.inl (G.2.1 3, 8, .inr (.inr (.inr (.inr (fun _ => none))))))) x0 (.inr (4, [.ref q1, .null, .int 0, .int 0, .int 0, .int 0, .int 0, .int 0, .int 0]))) q2 (.inl (G.2.1 4, 6, .inr (.inr (.inr (.inr (fun _ => none))))))) x0 (.inr (4, [.ref q1, .ref q2, .int 0, .int 0, .int 0, .int 0, .int 0, .int 0, .int 0]))) H := hP
  have hI : mI A (mu (mu (mu (mu Mw q1 (.inl (G.2.1 3, 8, .inr (.inr (.inr (.inr (fun _ => none))))))) x0 (.inr (4, [.ref q1, .null, .int 0, .int 0, .int 0, .int 0, .int 0, .int 0, .int 0]))) q2 (.inl (G.2.1 4, 6, .inr (.inr (.inr (.inr (fun _ => none))))))) x0 (.inr (4, [.ref q1, .ref q2, .int 0, .int 0, .int 0, .int 0, .int 0, .int 0, .int 0]))) := hI
  have h_q1 := mu_k (e := .inr (4, [.ref q1, .ref q2, .int 0, .int 0, .int 0, .int 0, .int 0, .int 0, .int 0])) (kd_ne h_q1 h_X rfl) h_q1
  have h_q2 := mu_k (e := .inr (4, [.ref q1, .ref q2, .int 0, .int 0, .int 0, .int 0, .int 0, .int 0, .int 0])) (kd_ne h_q2 h_X rfl) h_q2
  have h_X : (mu (mu (mu (mu Mw q1 (.inl (G.2.1 3, 8, .inr (.inr (.inr (.inr (fun _ => none))))))) x0 (.inr (4, [.ref q1, .null, .int 0, .int 0, .int 0, .int 0, .int 0, .int 0, .int 0]))) q2 (.inl (G.2.1 4, 6, .inr (.inr (.inr (.inr (fun _ => none))))))) x0 (.inr (4, [.ref q1, .ref q2, .int 0, .int 0, .int 0, .int 0, .int 0, .int 0, .int 0]))) x0 = some (.inr (4, [.ref q1, .ref q2, .int 0, .int 0, .int 0, .int 0, .int 0, .int 0, .int 0])) := mu_s
  refine lv_aload_n hx hb dX4_init_22 rfl (lv_at hl 0 rfl) ?_
  refine lv_sipush (v := (200)) hx hb dX4_init_23 (by decide) ?_
  refine m_put (ci := 4) (v := .int 200) (ty := .int) (C := RX4) (T := TX4) (N := 9) hx hb hts i_X4 tyX4 tyX4_ok nmX4 hown hK hP hI hS h_X rfl 4 (by decide) (hts (.fieldLink RX4 21 "Meniscus" "airTemperature" "I") (by decide +kernel)) (fun _ h9 => h9) rfl (by decide +kernel) rfl rfl (Nat.le_of_ble_eq_true rfl) dX4_init_26 (fun H locs hP hI hS => ?_)
  have hP : mP G.1 (mu (mu (mu (mu (mu Mw q1 (.inl (G.2.1 3, 8, .inr (.inr (.inr (.inr (fun _ => none))))))) x0 (.inr (4, [.ref q1, .null, .int 0, .int 0, .int 0, .int 0, .int 0, .int 0, .int 0]))) q2 (.inl (G.2.1 4, 6, .inr (.inr (.inr (.inr (fun _ => none))))))) x0 (.inr (4, [.ref q1, .ref q2, .int 0, .int 0, .int 0, .int 0, .int 0, .int 0, .int 0]))) x0 (.inr (4, [.ref q1, .ref q2, .int 0, .int 0, .int 200, .int 0, .int 0, .int 0, .int 0]))) H := hP
  have hI : mI A (mu (mu (mu (mu (mu Mw q1 (.inl (G.2.1 3, 8, .inr (.inr (.inr (.inr (fun _ => none))))))) x0 (.inr (4, [.ref q1, .null, .int 0, .int 0, .int 0, .int 0, .int 0, .int 0, .int 0]))) q2 (.inl (G.2.1 4, 6, .inr (.inr (.inr (.inr (fun _ => none))))))) x0 (.inr (4, [.ref q1, .ref q2, .int 0, .int 0, .int 0, .int 0, .int 0, .int 0, .int 0]))) x0 (.inr (4, [.ref q1, .ref q2, .int 0, .int 0, .int 200, .int 0, .int 0, .int 0, .int 0]))) := hI
  have h_q1 := mu_k (e := .inr (4, [.ref q1, .ref q2, .int 0, .int 0, .int 200, .int 0, .int 0, .int 0, .int 0])) (kd_ne h_q1 h_X rfl) h_q1
  have h_q2 := mu_k (e := .inr (4, [.ref q1, .ref q2, .int 0, .int 0, .int 200, .int 0, .int 0, .int 0, .int 0])) (kd_ne h_q2 h_X rfl) h_q2
  rw [mu_uu] at hP hI h_q1 h_q2
  have h_X : (mu (mu (mu (mu Mw q1 (.inl (G.2.1 3, 8, .inr (.inr (.inr (.inr (fun _ => none))))))) x0 (.inr (4, [.ref q1, .null, .int 0, .int 0, .int 0, .int 0, .int 0, .int 0, .int 0]))) q2 (.inl (G.2.1 4, 6, .inr (.inr (.inr (.inr (fun _ => none))))))) x0 (.inr (4, [.ref q1, .ref q2, .int 0, .int 0, .int 200, .int 0, .int 0, .int 0, .int 0]))) x0 = some (.inr (4, [.ref q1, .ref q2, .int 0, .int 0, .int 200, .int 0, .int 0, .int 0, .int 0])) := mu_s
  refine W.widen (k := 2) (n := 14) (Nat.le_of_ble_eq_true rfl) (Nat.le_of_ble_eq_true rfl) ?_
  exact W.vret hx hb hr (fun t99 ht99 hW99 => ⟨⟨(mu (mu (mu (mu Mw q1 (.inl (G.2.1 3, 8, .inr (.inr (.inr (.inr (fun _ => none))))))) x0 (.inr (4, [.ref q1, .null, .int 0, .int 0, .int 0, .int 0, .int 0, .int 0, .int 0]))) q2 (.inl (G.2.1 4, 6, .inr (.inr (.inr (.inr (fun _ => none))))))) x0 (.inr (4, [.ref q1, .ref q2, .int 0, .int 0, .int 200, .int 0, .int 0, .int 0, .int 0]))), rfl, ⟨ad3 x0 q1 q2, rfl, cs_start (kd_ne h_X h_q1 rfl) (kd_ne h_X h_q2 rfl) (Ne.symm (mu_none (mu_none hn_q2).1).2) h_X h_q1 h_q2⟩, by rw [ht99]; exact hP, hI⟩, hS.F ht99⟩) hS.2.2 dX4_init_29

