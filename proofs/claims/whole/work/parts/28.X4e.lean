noncomputable def m_meanError (s : St) (p0 : Int32) : Nat × Int32 × St := chk (iok s p0) 1 s (chk (¬ rnS s (ix p0) = 0) 2 s (0, isum (reS s (ix p0)) (rnS s (ix p0)), s))
noncomputable def m_certifiedShare (s : St) : Nat × Int32 × St := chk (¬ nN s = 0) 1 s (0, hoS s, s)
theorem ho_p (s : St) {k n : Nat} (h : k < n) : isum (fun i => crtO (itS s i 5) (itS s i 11) (gS s 1)) (min (k + 1) n) = isum (fun i => crtO (itS s i 5) (itS s i 11) (gS s 1)) (min k n) + crtO (itS s k 5) (itS s k 11) (gS s 1) := is_p _ h
set_option maxHeartbeats 4000000 in
set_option maxRecDepth 100000 in
theorem c_X4_meanError (l : Launch) (G : mg) (A : Nat → Prop) (Mw : mw) (hl9 : l.stackTraces = false) (st : St) (ad : adr) (p0 : Int32) (hC : CS G st ad Mw) (hV : Inv st) : vx_Met l yX4_meanError wsX4_meanError ({ frames := 7, cells := 2, slots := 12, locals := 103 }) (va_Pc [.ref (ad 0 0), .int p0] (mB G A Mw)) (va_Qd (fun r Mw1 => ∃ (x : Int32) (s1 : St) (ad1 : adr), m_meanError st p0 = (0, x, s1) ∧ r = FP.ddiv (FP.i2d x) (FP.i2d (nI (rnS st (ix p0)))) ∧ CS G s1 ad1 Mw1 ∧ ad1 0 0 = ad 0 0) (mE G A) A) (xX (fun E => exc ["java/lang/IndexOutOfBoundsException", "java/util/NoSuchElementException"] (m_meanError st p0) E) G A Mw) 2 12 A := by
  refine vx_ofW (cc := cX4_meanError) (maxL := 3) (ret := (some .double)) (by decide) rfl ?_
  intro p e s m args below meth c s₁ B hml hxt hv
  obtain ⟨rfl, hG, hP, hI, hA⟩ := hv
  have hx := B.exec
  have hb := B.bytes
  have hr := B.returns
  have hts := atoms_spec (ws := wsX4_meanError) B.pre
  have hown : s.vm.findClass RX4 = some m.cls := findClass_of_methodNamed B.named
  have hlocks := B.notSynchronized
  have hK := hG.K
  have i_X0 : ∀ w ∈ wsX00, w ∈ wsX4_meanError := by decide +kernel
  have i_X1 : ∀ w ∈ wsX10, w ∈ wsX4_meanError := by decide +kernel
  have hS : va_S A s.heap s.heap [] := va_S.rf
  have hl := lv_entry ([.ref (ad 0 0), .int p0]) (n := 3) (Nat.le_of_ble_eq_true rfl)
  rw [lg_entry_eq]
  generalize (lg_sl ([.ref (ad 0 0), .int p0]) ++ List.replicate (3 - (lg_sl ([.ref (ad 0 0), .int p0])).length) Slot.unset).toArray = ls at hl ⊢
  have hl : lv_has ls 3 [(0, .ref (ad 0 0)), (1, .int p0)] := hl
  have hP : mP G.1 Mw s.heap := hP
  have h_X : Mw (ad 0 0) = some (.inr (7, [.ref (ad 1 0), .ref (ad 2 0), .int (nI (nT st)), .int (nI (nN st)), .int (gS st 0), .int (gS st 1), .int (gS st 2), .int (gS st 3), .int (gS st 4)])) := hC.1 0 0 (ok0 st)
  have h_TA : Mw (ad 1 0) = some (.inl (G.2.1 3, 8, .inr (.inr (.inr (.inr (qf (nT st) (ad 3))))))) := hC.1 1 0 (ok1 st)
  have h_IA : Mw (ad 2 0) = some (.inl (G.2.1 4, 6, .inr (.inr (.inr (.inr (qf (nN st) (ad 5))))))) := hC.1 2 0 (ok2 st)
  have hta9 := hC.ne (ok1 st) (ok2 st) (by omega)
  refine lv_aload_n hx hb dX4_meanError_0 rfl (lv_at hl 0 rfl) ?_
  refine lv_iload_n hx hb dX4_meanError_1 rfl (lv_at hl 1 rfl) ?_
  refine mx_callq (vx_runV (As := [.int p0]) (rest := []) ⟨hx, hb, hml, hown, hts⟩ (c_X4_instrumentNumbered l G A Mw hl9  p0 h_X hV.1.2 h_IA) (cwV 1 hts gX4_meanError_X4_instrumentNumbered rfl rfl rfl (by decide +kernel) ⟨Nat.le_of_ble_eq_true rfl, Nat.le_of_ble_eq_true rfl⟩) (mPreV hG hS hP hI hA (hP _ _ h_X) (r := (RX4, TX4, 9)) rfl) rfl rfl hl.1 rfl (lv_room (Nat.le_of_ble_eq_true rfl)) dX4_meanError_2 ⟨Nat.le_of_ble_eq_true rfl, Nat.le_of_ble_eq_true rfl⟩) hS (fun E9 ce9 q9 H locs hpx9 hP hI hS hc9 hv9 hcl9 => m_out (px := fun E => exc ["java/lang/IndexOutOfBoundsException", "java/util/NoSuchElementException"] (m_meanError st p0) E) (fun x hx9 => absurd hx9 (fun q => hxt x q)) hlocks hP hI hS hc9 hv9 hcl9 ((by obtain ⟨hE9, hn9⟩ := hpx9; subst hE9; exact exc_of (by unfold m_meanError; first | (rw [chk_n hn9]; done) | (rw [chk_n hn9]; rfl)) rfl)) (Nat.le_of_ble_eq_true rfl) (Nat.le_of_ble_eq_true rfl)) (fun r1 Mw1 H locs hp_r1 hP hI hS => ?_)
  obtain ⟨⟨hi9, hr9⟩, hm9⟩ := hp_r1
  subst Mw1
  subst hr9
  have hT9 := hV.tb hi9.2
  have hn9 := hV.rn hi9.2
  have hve := hC.ne (ok8 hi9.2) (ok9 hi9.2) (by omega)
  have hvb := hC.ne (ok8 hi9.2) (ok4 hT9) (by omega)
  have heb := hC.ne (ok9 hi9.2) (ok4 hT9) (by omega)
  have h_I : Mw (ad 5 (ix p0)) = some (.inr (3, [.int (itS st (ix p0) 0), .ref (ad 3 (tbN st (ix p0))), .int (itS st (ix p0) 1), .int (itS st (ix p0) 2), .ref (ad 6 (ix p0)), .ref (ad 7 (ix p0)), .int (itS st (ix p0) 3), .int (itS st (ix p0) 4), .int (itS st (ix p0) 5), .int (itS st (ix p0) 6), .int (itS st (ix p0) 7), .int (itS st (ix p0) 8), .int (itS st (ix p0) 9), .int (itS st (ix p0) 10), .int (itS st (ix p0) 11)])) := hC.1 5 _ (ok5 hi9.2)
  have h_S : Mw (ad 6 (ix p0)) = some (.inr (5, [.ref (ad 3 (tbN st (ix p0))), .int (itS st (ix p0) 12), .int (itS st (ix p0) 13), .int (itS st (ix p0) 14), .int (itS st (ix p0) 15)])) := hC.1 6 _ (ok6 hi9.2)
  have h_R : Mw (ad 7 (ix p0)) = some (.inr (4, [.ref (ad 8 (ix p0)), .ref (ad 9 (ix p0)), .int (nI (rnS st (ix p0)))])) := hC.1 7 _ (ok7 hi9.2)
  have h_V : Mw (ad 8 (ix p0)) = some (.inl (G.2.1 0, 8, .inl (rvS st (ix p0)))) := hC.1 8 _ (ok8 hi9.2)
  have h_E : Mw (ad 9 (ix p0)) = some (.inl (G.2.1 0, 8, .inl (reS st (ix p0)))) := hC.1 9 _ (ok9 hi9.2)
  have h_T : Mw (ad 3 (tbN st (ix p0))) = some (.inr (6, [.ref (ad 4 (tbN st (ix p0))), .int (usS st (tbN st (ix p0)))])) := hC.1 3 _ (ok3 hT9)
  have h_B : Mw (ad 4 (tbN st (ix p0))) = some (.inl (G.2.1 0, 20, .inl (boS st (tbN st (ix p0))))) := hC.1 4 _ (ok4 hT9)
  refine m_getN (ci := 3) (v := .ref (ad 7 (ix p0))) (C := RX0) (T := TX0) (N := 15) hx hb hts i_X0 hown hK (hP _ _ h_I) rfl 5 (by decide) (va_Nw.use rfl (hG.2.1.2.1 ("Meniscus", 214, "Meniscus$Instrument", "readings", "LMeniscus$Readings;", "Meniscus") (by decide +kernel))) (fun _ h9 => h9) rfl dX4_meanError_5 ?_
  refine lv_astore_n (lv' := [(2, .ref (ad 7 (ix p0))), (0, .ref (ad 0 0)), (1, .int p0)]) hx hb dX4_meanError_8 rfl hl (by decide) rfl (fun ls hl => ?_)
  refine lv_aload_n hx hb dX4_meanError_9 rfl (lv_at hl 0 rfl) ?_
  refine mx_callv (vx_runS (As := [.ref (ad 7 (ix p0))]) (rest := []) ⟨hx, hb, hml, hown, hts⟩ (c_X4_demandReadings l G A Mw hl9  hn9 h_R) (va_cwS 1 hts gX4_meanError_X4_demandReadings rfl rfl rfl (by decide +kernel) ⟨Nat.le_of_ble_eq_true rfl, Nat.le_of_ble_eq_true rfl⟩) (mPreS hG hS hP hI hA) rfl rfl hl.1 rfl (lv_room (Nat.le_of_ble_eq_true rfl)) dX4_meanError_10 ⟨Nat.le_of_ble_eq_true rfl, Nat.le_of_ble_eq_true rfl⟩) hS (fun E9 ce9 q9 H locs hpx9 hP hI hS hc9 hv9 hcl9 => m_out (px := fun E => exc ["java/lang/IndexOutOfBoundsException", "java/util/NoSuchElementException"] (m_meanError st p0) E) (fun x hx9 => absurd hx9 (fun q => hxt x q)) hlocks hP hI hS hc9 hv9 hcl9 ((by obtain ⟨hE9, hn9⟩ := hpx9; subst hE9; exact exc_of (by unfold m_meanError; first | (rw [chk_p hi9, chk_n hn9]; done) | (rw [chk_p hi9, chk_n hn9]; rfl)) rfl)) (Nat.le_of_ble_eq_true rfl) (Nat.le_of_ble_eq_true rfl)) (fun Mw1 H locs hp_r2 hP hI hS => ?_)
  obtain ⟨hp_r2, hm9⟩ := hp_r2
  subst Mw1
  refine lv_aload_n hx hb dX4_meanError_13 rfl (lv_at hl 0 rfl) ?_
  refine m_calli (va_runV (As := []) (rest := []) ⟨hx, hb, hml, hown, hts⟩ (c_X1_errorSum l G A Mw  hve hn9 h_R h_V h_E) (cwV 0 hts gX4_meanError_X1_errorSum rfl rfl rfl (by decide +kernel) ⟨Nat.le_of_ble_eq_true rfl, Nat.le_of_ble_eq_true rfl⟩) (mPreV hG hS hP hI hA (hP _ _ h_R) (r := (RX1, TX1, 3)) rfl) rfl rfl hl.1 rfl (lv_room (Nat.le_of_ble_eq_true rfl)) dX4_meanError_14 ⟨Nat.le_of_ble_eq_true rfl, Nat.le_of_ble_eq_true rfl⟩) hS (fun r3 Mw1 H locs hp_r3 hP hI hS => ?_)
  obtain ⟨hp_r3, hm9⟩ := hp_r3
  subst Mw1
  refine lv_i2d hx hb dX4_meanError_17 ?_
  refine lv_aload_n hx hb dX4_meanError_18 rfl (lv_at hl 0 rfl) ?_
  refine m_getN (ci := 4) (v := .int (nI (rnS st (ix p0)))) (C := RX1) (T := TX1) (N := 3) hx hb hts i_X1 hown hK (hP _ _ h_R) rfl 2 (by decide) (va_Nw.use rfl (hG.2.1.2.1 ("Meniscus", 227, "Meniscus$Readings", "count", "I", "Meniscus") (by decide +kernel))) (fun _ h9 => h9) rfl dX4_meanError_19 ?_
  refine lv_i2d hx hb dX4_meanError_22 ?_
  refine lv_ddiv hx hb dX4_meanError_23 (ddiv_num _ _ hn9 hp_r2) ?_
  refine W.widen (k := 2) (n := 12) (Nat.le_of_ble_eq_true rfl) (Nat.le_of_ble_eq_true rfl) ?_
  refine vx_ret ?_
  exact W.dret (v := FP.ddiv (FP.i2d r3) (FP.i2d (nI (rnS st (ix p0))))) hx hb hr (fun t99 ht99 hW99 => ⟨⟨FP.ddiv (FP.i2d r3) (FP.i2d (nI (rnS st (ix p0)))), Mw, rfl, ⟨isum (reS st (ix p0)) (rnS st (ix p0)), st, ad, by unfold m_meanError; first | (rw [chk_p hi9, chk_p hp_r2]; done) | (rw [chk_p hi9, chk_p hp_r2]; rfl), by rw [hp_r3], hC, rfl⟩, by rw [ht99]; exact hP, hI⟩, hS.F ht99⟩) hS.2.2 dX4_meanError_24

theorem nI_inj0 {n N : Nat} (hn : n ≤ N) (h : nI n = 0) (hN : N < 100 := by decide) : n = 0 := by
  have e : (nI n).toNatClampNeg = n := nI_clamp (by omega)
  rw [h] at e
  exact e.symm
set_option maxHeartbeats 4000000 in
set_option maxRecDepth 100000 in
theorem c_X4_certifiedShare (l : Launch) (G : mg) (A : Nat → Prop) (Mw : mw) (hl9 : l.stackTraces = false) (st : St) (ad : adr) (hC : CS G st ad Mw) (hV : Inv st) : vx_Met l yX4_certifiedShare wsX4_certifiedShare ({ frames := 6, cells := 1, slots := 6, locals := 82 }) (va_Pc [.ref (ad 0 0)] (mB G A Mw)) (va_Qf (fun r Mw1 => ∃ (x : Int32) (s1 : St) (ad1 : adr), m_certifiedShare st = (0, x, s1) ∧ r = FP.fdiv (FP.i2f x) (FP.i2f (nI (nN st))) ∧ CS G s1 ad1 Mw1 ∧ ad1 0 0 = ad 0 0) (mE G A) A) (xX (fun E => exc ["java/util/NoSuchElementException"] (m_certifiedShare st) E) G A Mw) 1 6 A := by
  refine vx_ofW (cc := cX4_certifiedShare) (maxL := 6) (ret := (some .float)) (by decide) rfl ?_
  intro p e s m args below meth c s₁ B hml hxt hv
  obtain ⟨rfl, hG, hP, hI, hA⟩ := hv
  have hx := B.exec
  have hb := B.bytes
  have hr := B.returns
  have hts := atoms_spec (ws := wsX4_certifiedShare) B.pre
  have hown : s.vm.findClass RX4 = some m.cls := findClass_of_methodNamed B.named
  have hlocks := B.notSynchronized
  have hK := hG.K
  have i_X4 : ∀ w ∈ wsX40, w ∈ wsX4_certifiedShare := by decide +kernel
  have hS : va_S A s.heap s.heap [] := va_S.rf
  have hl := lv_entry ([.ref (ad 0 0)]) (n := 6) (Nat.le_of_ble_eq_true rfl)
  rw [lg_entry_eq]
  generalize (lg_sl ([.ref (ad 0 0)]) ++ List.replicate (6 - (lg_sl ([.ref (ad 0 0)])).length) Slot.unset).toArray = ls at hl ⊢
  have hl : lv_has ls 6 [(0, .ref (ad 0 0))] := hl
  have hP : mP G.1 Mw s.heap := hP
  have h_X : Mw (ad 0 0) = some (.inr (7, [.ref (ad 1 0), .ref (ad 2 0), .int (nI (nT st)), .int (nI (nN st)), .int (gS st 0), .int (gS st 1), .int (gS st 2), .int (gS st 3), .int (gS st 4)])) := hC.1 0 0 (ok0 st)
  have h_TA : Mw (ad 1 0) = some (.inl (G.2.1 3, 8, .inr (.inr (.inr (.inr (qf (nT st) (ad 3))))))) := hC.1 1 0 (ok1 st)
  have h_IA : Mw (ad 2 0) = some (.inl (G.2.1 4, 6, .inr (.inr (.inr (.inr (qf (nN st) (ad 5))))))) := hC.1 2 0 (ok2 st)
  have hta9 := hC.ne (ok1 st) (ok2 st) (by omega)
  refine lv_aload_n hx hb dX4_certifiedShare_0 rfl (lv_at hl 0 rfl) ?_
  refine m_get (ci := 7) (v := .int (nI (nN st))) (C := RX4) (T := TX4) (N := 9) hx hb hts i_X4 hown hK (hP _ _ h_X) rfl 3 (by decide) (hts (.fieldLink RX4 94 "Meniscus" "instrumentCount" "I") (by decide +kernel)) (fun _ h9 => h9) rfl dX4_certifiedShare_1 ?_
  refine lv_if_ne (tgt := 18) hx hb dX4_certifiedShare_4 (by decide) (fun c1 => ?_) (fun c1 => ?_)
  · skip
    have hb_c1 : ¬ nN st = 0 := fun q9 => c1 (by rw [q9]; rfl)
    refine lv_iconst (v := 0) hx hb dX4_certifiedShare_18 (by decide) ?_
    refine lv_istore_n (lv' := [(1, .int 0), (0, .ref (ad 0 0))]) hx hb dX4_certifiedShare_19 rfl hl (by decide) rfl (fun ls hl => ?_)
    refine lv_aload_n hx hb dX4_certifiedShare_20 rfl (lv_at hl 1 rfl) ?_
    refine m_get (ci := 7) (v := .ref (ad 2 0)) (C := RX4) (T := TX4) (N := 9) hx hb hts i_X4 hown hK (hP _ _ h_X) rfl 1 (by decide) (hts (.fieldLink RX4 17 "Meniscus" "instruments" "[LMeniscus$Instrument;") (by decide +kernel)) (fun _ h9 => h9) rfl dX4_certifiedShare_21 ?_
    refine lv_astore_n (lv' := [(2, .ref (ad 2 0)), (1, .int 0), (0, .ref (ad 0 0))]) hx hb dX4_certifiedShare_24 rfl hl (by decide) rfl (fun ls hl => ?_)
    refine lv_aload_n hx hb dX4_certifiedShare_25 rfl (lv_at hl 0 rfl) ?_
    refine m_alen (v := 6) hx hb hK 4 (hP _ _ h_IA) rfl rfl dX4_certifiedShare_26 ?_
    refine lv_istore_n (lv' := [(3, .int 6), (2, .ref (ad 2 0)), (1, .int 0), (0, .ref (ad 0 0))]) hx hb dX4_certifiedShare_27 rfl hl (by decide) rfl (fun ls hl => ?_)
    refine lv_iconst (v := 0) hx hb dX4_certifiedShare_28 (by decide) ?_
    refine lv_istore (lv' := [(4, .int 0), (3, .int 6), (2, .ref (ad 2 0)), (1, .int 0), (0, .ref (ad 0 0))]) hx hb dX4_certifiedShare_29 hl (by decide) rfl (fun ls hl => ?_)
    have loop : ∀ (n k : Nat), k ≤ 6 → k + n = 6 + 1 → ∀ (H : Heap) (locs : List Loc) (ls : Array Slot), mP G.1 (Mw) H → mI A (Mw) → va_S A s.heap H locs → lv_has ls 6 [(0, .ref (ad 0 0)), (1, .int (isum (fun i => crtO (itS st i 5) (itS st i 11) (gS st 1)) (min k (nN st)))), (2, .ref (ad 2 0)), (3, .int 6), (4, .int (nI k))] → W p l e ({ frames := 6, cells := 1, slots := 6, locals := 82 }) s m ([.ref (ad 0 0)] : List Value).toArray below meth c H locs 0 0 (vx_MQ below (va_Qf (fun r Mw1 => ∃ (x : Int32) (s1 : St) (ad1 : adr), m_certifiedShare st = (0, x, s1) ∧ r = FP.fdiv (FP.i2f x) (FP.i2f (nI (nN st))) ∧ CS G s1 ad1 Mw1 ∧ ad1 0 0 = ad 0 0) (mE G A) A) (xX (fun E => exc ["java/util/NoSuchElementException"] (m_certifiedShare st) E) G A Mw) ([.ref (ad 0 0)] : List Value).toArray s 1 6 A) (F0 m 31 ls []) := by
      intro n
      induction n with
      | zero => intro k hk1 hk2; omega
      | succ n ih_loop =>
        intro k hk1 hk2 H locs ls hP hI hS hl
        refine lv_iload hx hb dX4_certifiedShare_31 (lv_at hl 4 rfl) ?_
        refine lv_iload_n hx hb dX4_certifiedShare_33 rfl (lv_at hl 3 rfl) ?_
        refine lv_icmp_ge (tgt := 69) hx hb dX4_certifiedShare_34 (by decide) (fun c2 => ?_) (fun c2 => ?_)
        · skip
          have hk3 : 6 ≤ k := (nI_leI (a := 6) (b := k) (by omega) (by omega)).mp c2
          refine lv_iload_n hx hb dX4_certifiedShare_69 rfl (lv_at hl 1 rfl) ?_
          refine lv_i2f hx hb dX4_certifiedShare_70 ?_
          refine lv_aload_n hx hb dX4_certifiedShare_71 rfl (lv_at hl 0 rfl) ?_
          refine m_get (ci := 7) (v := .int (nI (nN st))) (C := RX4) (T := TX4) (N := 9) hx hb hts i_X4 hown hK (hP _ _ h_X) rfl 3 (by decide) (hts (.fieldLink RX4 94 "Meniscus" "instrumentCount" "I") (by decide +kernel)) (fun _ h9 => h9) rfl dX4_certifiedShare_72 ?_
          refine lv_i2f hx hb dX4_certifiedShare_75 ?_
          refine lv_fdiv hx hb dX4_certifiedShare_76 (by rw [show min k (nN st) = nN st by have := hV.1.2; omega]; obtain ⟨a9, ha9, ha8⟩ := ho_n st (nN st); rw [ha8]; exact share_n a9 (nN st) (Nat.le_trans ha9 hV.1.2) hV.1.2 hb_c1) ?_
          refine W.widen (k := 1) (n := 6) (Nat.le_of_ble_eq_true rfl) (Nat.le_of_ble_eq_true rfl) ?_
          refine vx_ret ?_
          exact W.fret (v := FP.fdiv (FP.i2f (isum (fun i => crtO (itS st i 5) (itS st i 11) (gS st 1)) (min k (nN st)))) (FP.i2f (nI (nN st)))) hx hb hr (fun t99 ht99 hW99 => ⟨⟨FP.fdiv (FP.i2f (isum (fun i => crtO (itS st i 5) (itS st i 11) (gS st 1)) (min k (nN st)))) (FP.i2f (nI (nN st))), Mw, rfl, ⟨hoS st, st, ad, by unfold m_certifiedShare; first | (rw [chk_p hb_c1]; done) | (rw [chk_p hb_c1]; rfl), by rw [show min k (nN st) = nN st by have := hV.1.2; omega]; rfl, hC, rfl⟩, by rw [ht99]; exact hP, hI⟩, hS.F ht99⟩) hS.2.2 dX4_certifiedShare_77
        · skip
          have hk3 : k < 6 := Nat.lt_of_not_le (fun q => c2 (nI_le (a := 6) q (by omega)))
          refine lv_aload_n hx hb dX4_certifiedShare_37 rfl (lv_at hl 2 rfl) ?_
          refine lv_iload hx hb dX4_certifiedShare_38 (lv_at hl 4 rfl) ?_
          refine m_aldq hx hb hK 4 (hP _ _ h_IA) rfl (vp_in_nI (by omega) (by omega)) dX4_certifiedShare_40 ?_
          rw [nI_clamp (show k < 2 ^ 31 by omega)]
          rcases Nat.lt_or_ge k (nN st) with hj9 | hj9
          · rw [qf_p hj9]
            have hT9 := hV.tb hj9
            have hn9 := hV.rn hj9
            have hve := hC.ne (ok8 hj9) (ok9 hj9) (by omega)
            have hvb := hC.ne (ok8 hj9) (ok4 hT9) (by omega)
            have heb := hC.ne (ok9 hj9) (ok4 hT9) (by omega)
            have h_I : Mw (ad 5 k) = some (.inr (3, [.int (itS st k 0), .ref (ad 3 (tbN st k)), .int (itS st k 1), .int (itS st k 2), .ref (ad 6 k), .ref (ad 7 k), .int (itS st k 3), .int (itS st k 4), .int (itS st k 5), .int (itS st k 6), .int (itS st k 7), .int (itS st k 8), .int (itS st k 9), .int (itS st k 10), .int (itS st k 11)])) := hC.1 5 _ (ok5 hj9)
            have h_S : Mw (ad 6 k) = some (.inr (5, [.ref (ad 3 (tbN st k)), .int (itS st k 12), .int (itS st k 13), .int (itS st k 14), .int (itS st k 15)])) := hC.1 6 _ (ok6 hj9)
            have h_R : Mw (ad 7 k) = some (.inr (4, [.ref (ad 8 k), .ref (ad 9 k), .int (nI (rnS st k))])) := hC.1 7 _ (ok7 hj9)
            have h_V : Mw (ad 8 k) = some (.inl (G.2.1 0, 8, .inl (rvS st k))) := hC.1 8 _ (ok8 hj9)
            have h_E : Mw (ad 9 k) = some (.inl (G.2.1 0, 8, .inl (reS st k))) := hC.1 9 _ (ok9 hj9)
            have h_T : Mw (ad 3 (tbN st k)) = some (.inr (6, [.ref (ad 4 (tbN st k)), .int (usS st (tbN st k))])) := hC.1 3 _ (ok3 hT9)
            have h_B : Mw (ad 4 (tbN st k)) = some (.inl (G.2.1 0, 20, .inl (boS st (tbN st k)))) := hC.1 4 _ (ok4 hT9)
            refine lv_astore (lv' := [(5, .ref (ad 5 k)), (0, .ref (ad 0 0)), (1, .int (isum (fun i => crtO (itS st i 5) (itS st i 11) (gS st 1)) (min k (nN st)))), (2, .ref (ad 2 0)), (3, .int 6), (4, .int (nI k))]) hx hb dX4_certifiedShare_41 hl (by decide) rfl (fun ls hl => ?_)
            refine lv_aload hx hb dX4_certifiedShare_43 (lv_at hl 0 rfl) ?_
            refine lv_ifnull hx hb dX4_certifiedShare_45 ?_
            refine lv_aload hx hb dX4_certifiedShare_48 (lv_at hl 0 rfl) ?_
            refine lv_aload_n hx hb dX4_certifiedShare_50 rfl (lv_at hl 1 rfl) ?_
            refine m_get (ci := 7) (v := .int (gS st 1)) (C := RX4) (T := TX4) (N := 9) hx hb hts i_X4 hown hK (hP _ _ h_X) rfl 5 (by decide) (hts (.fieldLink RX4 154 "Meniscus" "day" "I") (by decide +kernel)) (fun _ h9 => h9) rfl dX4_certifiedShare_51 ?_
            refine m_calli (va_runV (As := [.int (gS st 1)]) (rest := []) ⟨hx, hb, hml, hown, hts⟩ (c_X0_holdsCertificateOn l G A Mw  (gS st 1) h_I) (cwV 1 hts gX4_certifiedShare_X0_holdsCertificateOn rfl rfl rfl (by decide +kernel) ⟨Nat.le_of_ble_eq_true rfl, Nat.le_of_ble_eq_true rfl⟩) (mPreV hG hS hP hI hA (hP _ _ h_I) (r := (RX0, TX0, 15)) rfl) rfl rfl hl.1 rfl (lv_room (Nat.le_of_ble_eq_true rfl)) dX4_certifiedShare_54 ⟨Nat.le_of_ble_eq_true rfl, Nat.le_of_ble_eq_true rfl⟩) hS (fun r3 Mw1 H locs hp_r3 hP hI hS => ?_)
            obtain ⟨hp_r3, hm9⟩ := hp_r3
            subst Mw1
            refine lv_if_eq (tgt := 63) hx hb dX4_certifiedShare_57 (by decide) (fun c4 => ?_) (fun c4 => ?_)
            · skip
              refine lv_iinc (v := (nI k) + 1) (lv' := [(4, .int ((nI k) + 1)), (5, .ref (ad 5 k)), (0, .ref (ad 0 0)), (1, .int (isum (fun i => crtO (itS st i 5) (itS st i 11) (gS st 1)) (min k (nN st)))), (2, .ref (ad 2 0)), (3, .int 6)]) hx hb dX4_certifiedShare_63 hl (k := 5) rfl rfl (by decide) rfl (fun ls hl => ?_)
              refine lv_goto (tgt := 31) hx hb dX4_certifiedShare_66 (by decide) ?_
              have e_4 : (nI k) + 1 = nI (k + 1) := nI_1 k
              rw [e_4] at hl
              have e_1 : isum (fun i => crtO (itS st i 5) (itS st i 11) (gS st 1)) (min k (nN st)) = isum (fun i => crtO (itS st i 5) (itS st i 11) (gS st 1)) (min (k + 1) (nN st)) := by rw [ho_p st hj9, ← hp_r3, c4, Int32.add_zero]
              rw [e_1] at hl
              exact ih_loop (k + 1) (by omega) (by omega) H locs ls hP hI hS (lv_sub hl [2, 3, 4, 5, 0] rfl)
            · skip
              refine lv_iinc (v := (isum (fun i => crtO (itS st i 5) (itS st i 11) (gS st 1)) (min k (nN st))) + 1) (lv' := [(1, .int ((isum (fun i => crtO (itS st i 5) (itS st i 11) (gS st 1)) (min k (nN st))) + 1)), (5, .ref (ad 5 k)), (0, .ref (ad 0 0)), (2, .ref (ad 2 0)), (3, .int 6), (4, .int (nI k))]) hx hb dX4_certifiedShare_60 hl (k := 2) rfl rfl (by decide) rfl (fun ls hl => ?_)
              refine lv_iinc (v := (nI k) + 1) (lv' := [(4, .int ((nI k) + 1)), (1, .int ((isum (fun i => crtO (itS st i 5) (itS st i 11) (gS st 1)) (min k (nN st))) + 1)), (5, .ref (ad 5 k)), (0, .ref (ad 0 0)), (2, .ref (ad 2 0)), (3, .int 6)]) hx hb dX4_certifiedShare_63 hl (k := 5) rfl rfl (by decide) rfl (fun ls hl => ?_)
              refine lv_goto (tgt := 31) hx hb dX4_certifiedShare_66 (by decide) ?_
              have e_4 : (nI k) + 1 = nI (k + 1) := nI_1 k
              rw [e_4] at hl
              have e_1 : (isum (fun i => crtO (itS st i 5) (itS st i 11) (gS st 1)) (min k (nN st))) + 1 = isum (fun i => crtO (itS st i 5) (itS st i 11) (gS st 1)) (min (k + 1) (nN st)) := by rw [ho_p st hj9]; rcases crtO01 (itS st k 5) (itS st k 11) (gS st 1) with q9 | q9 <;> rw [q9] <;> first | rfl | (exfalso; rw [hp_r3, q9] at c4; exact c4 rfl)
              rw [e_1] at hl
              exact ih_loop (k + 1) (by omega) (by omega) H locs ls hP hI hS (lv_sub hl [3, 1, 4, 5, 0] rfl)
          · rw [qf_n hj9]
            refine lv_astoreN (lv' := [(5, .null), (0, .ref (ad 0 0)), (1, .int (isum (fun i => crtO (itS st i 5) (itS st i 11) (gS st 1)) (min k (nN st)))), (2, .ref (ad 2 0)), (3, .int 6), (4, .int (nI k))]) hx hb dX4_certifiedShare_41 hl (by decide) rfl (fun ls hl => ?_)
            refine lv_aloadN hx hb dX4_certifiedShare_43 (lv_at hl 0 rfl) ?_
            refine lv_ifnullN (tgt := 63) hx hb dX4_certifiedShare_45 (by decide) ?_
            refine lv_iinc (v := (nI k) + 1) (lv' := [(4, .int ((nI k) + 1)), (5, .null), (0, .ref (ad 0 0)), (1, .int (isum (fun i => crtO (itS st i 5) (itS st i 11) (gS st 1)) (min k (nN st)))), (2, .ref (ad 2 0)), (3, .int 6)]) hx hb dX4_certifiedShare_63 hl (k := 5) rfl rfl (by decide) rfl (fun ls hl => ?_)
            refine lv_goto (tgt := 31) hx hb dX4_certifiedShare_66 (by decide) ?_
            have e_4 : (nI k) + 1 = nI (k + 1) := nI_1 k
            rw [e_4] at hl
            have e_1 : isum (fun i => crtO (itS st i 5) (itS st i 11) (gS st 1)) (min k (nN st)) = isum (fun i => crtO (itS st i 5) (itS st i 11) (gS st 1)) (min (k + 1) (nN st)) := (is_n _ hj9).symm
            rw [e_1] at hl
            exact ih_loop (k + 1) (by omega) (by omega) H locs ls hP hI hS (lv_sub hl [2, 3, 4, 5, 0] rfl)
    exact loop (6 + 1 - 0) 0 (by omega) (by omega) _ _ _ hP hI hS (lv_sub hl [4, 3, 2, 1, 0] rfl)
  · skip
    have hb_c1 : nN st = 0 := nI_inj0 hV.1.2 c1
    obtain ⟨sa9, hsa9⟩ := hG.2.1.2.2.2.2.2.1 (274, "there are no instruments") (by decide +kernel)
    exact vn_throwSW (text := "there are no instruments") hx hb hl9 hown (hts (.classLink RX4 68 "java/util/NoSuchElementException") (by decide +kernel)) (hts (.initialized "java/util/NoSuchElementException") (by decide +kernel)) hsa9 (m_hatN hG (fun w h => hts w (List.mem_cons_of_mem _ (List.mem_append_right _ h))) (by decide +kernel) (by decide +kernel)) (by decide +kernel) hG.2.2.1 hG.2.2.2.1 hS (hl.1.trans hml.symm) dX4_certifiedShare_7 dX4_certifiedShare_10 dX4_certifiedShare_11 dX4_certifiedShare_14 dX4_certifiedShare_17 (fun x hx9 => absurd hx9 (fun q => hxt x q)) (Nat.le_of_ble_eq_true rfl) (Nat.le_of_ble_eq_true rfl) (Nat.le_of_ble_eq_true rfl) (Nat.le_of_ble_eq_true rfl) hlocks (fun t9 _ h92 h93 => m_thrown (px := fun E => exc ["java/util/NoSuchElementException"] (m_certifiedShare st) E) (E := vnN) hP hI hS (exc_of (by unfold m_certifiedShare; first | (rw [chk_n (fun q9 => q9 hb_c1)]; done) | (rw [chk_n (fun q9 => q9 hb_c1)]; rfl)) rfl) t9 h92 h93) hS.2.2 (Nat.le_of_ble_eq_true rfl) (Nat.le_of_ble_eq_true rfl)
