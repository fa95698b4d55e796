theorem crt_0 {a b c d : Int32} (h : a = 0 → b = c) (hn : ¬ crtO a b d = 1) : crtO a c d = 0 := (crtO01 _ _ _).resolve_right (fun q => hn ((crt_g h).mpr q))
set_option maxHeartbeats 4000000 in
set_option maxRecDepth 100000 in
theorem c_X7_meanError (l : Launch) (G : mg) (A : Nat → Prop) (Mw : mw) (st : St) (g : gR) (p0 : Int32) (hR : RS G st g Mw) (hV : Inv st) : Met l yX7_meanError wsX7_meanError ({ frames := 4, cells := 0, slots := 0, locals := 85 }) (va_Pc [.ref (g.1 0 0), .int p0] (mB G A Mw)) (va_Qd (fun r Mw1 => ∃ x : Int32, RP G (m_meanError st p0) g x Mw1 ∧ ((m_meanError st p0).1 = 0 → r = FP.ddiv (FP.i2d x) (FP.i2d (nI (rnS st (ix p0)))))) (mE G A) A) 0 0 A := by
  refine Met.ofW (cc := cX7_meanError) (maxL := 5) (ret := (some .double)) (by decide) rfl ?_
  intro p e s m args below meth c s₁ B hml hv
  obtain ⟨rfl, hG, hP, hI, hA⟩ := hv
  have hx := B.exec
  have hb := B.bytes
  have hr := B.returns
  have hts := atoms_spec (ws := wsX7_meanError) B.pre
  have hown : s.vm.findClass RX7 = some m.cls := findClass_of_methodNamed B.named
  have hlocks := B.notSynchronized
  have hK := hG.K
  have i_X5 : ∀ w ∈ wsX50, w ∈ wsX7_meanError := by decide +kernel
  have i_X7 : ∀ w ∈ wsX70, w ∈ wsX7_meanError := by decide +kernel
  have hS : va_S A s.heap s.heap [] := va_S.rf
  have hl := lv_entry ([.ref (g.1 0 0), .int p0]) (n := 5) (Nat.le_of_ble_eq_true rfl)
  rw [lg_entry_eq]
  generalize (lg_sl ([.ref (g.1 0 0), .int p0]) ++ List.replicate (5 - (lg_sl ([.ref (g.1 0 0), .int p0])).length) Slot.unset).toArray = ls at hl ⊢
  have hl : lv_has ls 5 [(0, .ref (g.1 0 0)), (1, .int p0)] := hl
  have hP : mP G.1 Mw s.heap := hP
  have h_X : Mw (g.1 0 0) = some (.inr (10, [.ref (g.1 1 0), .ref (g.1 2 0), .int (gS st 2), .int (gS st 3), .int (gS st 1), .int (gS st 0), .int (thR g)])) := hR.1 0 0 ro0
  have h_TL : Mw (g.1 1 0) = some (.inr (2, [.int (mcR g 1 0), .ref (g.1 3 0), .int ((nI (nT st)))])) := hR.1 1 0 ro1
  have h_IL : Mw (g.1 2 0) = some (.inr (2, [.int (mcR g 2 0), .ref (g.1 4 0), .int ((nI (nN st)))])) := hR.1 2 0 ro2
  have hti9 := hR.ne ro1 ro2 (by omega)
  have hnT8 := hV.1.1
  have hnN8 := Nat.le_trans hV.1.2 (show 6 ≤ 8 by decide)
  have h_X0 := h_X
  refine lv_aload_n hx hb dX7_meanError_0 rfl (lv_at hl 0 rfl) ?_
  refine lv_aload_n hx hb dX7_meanError_1 rfl (lv_at hl 0 rfl) ?_
  refine lv_iload_n hx hb dX7_meanError_2 rfl (lv_at hl 1 rfl) ?_
  refine m_calli (va_runV (As := [.int p0]) (rest := [.ref (g.1 0 0)]) ⟨hx, hb, hml, hown, hts⟩ (c_X7_isNone l G A Mw  p0 h_X h_IL hnN8) (cwV 1 hts gX7_meanError_X7_isNone rfl rfl rfl (by decide +kernel) ⟨Nat.le_of_ble_eq_true rfl, Nat.le_of_ble_eq_true rfl⟩) (mPreV hG hS hP hI hA (hP _ _ h_X) (r := (RX7, TX7, 7)) rfl) rfl rfl hl.1 rfl (lv_room (Nat.le_of_ble_eq_true rfl)) dX7_meanError_3 ⟨Nat.le_of_ble_eq_true rfl, Nat.le_of_ble_eq_true rfl⟩) hS (fun r1 Mw1 H locs hp_r1 hP hI hS => ?_)
  obtain ⟨hb9, hm9⟩ := hp_r1
  subst Mw1
  rcases hb9 with ⟨hr9, hq_r1⟩ | ⟨hr9, hq_r1⟩
  · subst hr9
    have hi9 := hq_r1
    have e_p0 : p0 = nI (ix p0) := nI_cl hi9.1
    rw [e_p0] at hl
    have hf4 := hR.f4 hi9.2
    have h_ID : Mw (g.1 4 0) = some (.inl (G.2.1 5, 10, .inr (.inr (.inr (.inr (qf (nN st) (g.1 7))))))) := hR.1 4 0 (ro4 hf4)
    have h_I : Mw (g.1 7 (ix p0)) = some (.inr (8, [.ref (g.1 5 (tbN st (ix p0))), .int (itS st (ix p0) 1), .int (sof (itS st (ix p0) 2)), .int (itS st (ix p0) 3), .int (itS st (ix p0) 7), .int (itS st (ix p0) 6), .int (itS st (ix p0) 5), .int (itS st (ix p0) 12), .int (itS st (ix p0) 13), .int (itS st (ix p0) 14), .int (itS st (ix p0) 15), .int (itS st (ix p0) 8), .int (itS st (ix p0) 9), .int (itS st (ix p0) 10), .int (ceR g (ix p0)), .ref (g.1 8 (ix p0)), .ref (g.1 9 (ix p0))])) := hR.1 7 _ (ro7 hi9.2)
    have hrn9 := hV.rn hi9.2
    have hli9 := hR.ne (ro8 hi9.2) ro2 (by omega)
    have h_L : Mw (g.1 8 (ix p0)) = some (.inr (2, [.int (mcR g 8 (ix p0)), .ref (g.1 10 (ix p0)), .int ((nI (rnS st (ix p0))))])) := hR.1 8 _ (ro8 hi9.2)
    have hhi9 := hR.ne (ro9 hi9.2) ro2 (by omega)
    have hlh9 := hR.ne (ro8 hi9.2) (ro9 hi9.2) (by omega)
    have hlt9 := hR.ne (ro8 hi9.2) ro1 (by omega)
    have hht9 := hR.ne (ro9 hi9.2) ro1 (by omega)
    have h_H : Mw (g.1 9 (ix p0)) = some (.inr (2, [.int (mcR g 9 (ix p0)), .ref (g.1 11 (ix p0)), .int ((nI (rnS st (ix p0))))])) := hR.1 9 _ (ro9 hi9.2)
    refine lv_iconst (v := 1) hx hb dX7_meanError_6 (by decide) ?_
    refine m_calli (va_runV (As := [.int 0, .int 1]) (rest := []) ⟨hx, hb, hml, hown, hts⟩ (c_X7_isThrown0 l G A Mw  1 h_X) (cwV 2 hts gX7_meanError_X7_isThrown rfl rfl rfl (by decide +kernel) ⟨Nat.le_of_ble_eq_true rfl, Nat.le_of_ble_eq_true rfl⟩) (mPreV hG hS hP hI hA (hP _ _ h_X) (r := (RX7, TX7, 7)) rfl) rfl rfl hl.1 rfl (lv_room (Nat.le_of_ble_eq_true rfl)) dX7_meanError_7 ⟨Nat.le_of_ble_eq_true rfl, Nat.le_of_ble_eq_true rfl⟩) hS (fun r2 Mw1 H locs hp_r2 hP hI hS => ?_)
    obtain ⟨hp_r2, hm9⟩ := hp_r2
    subst Mw1
    subst hp_r2
    have h_TL := mu_k (e := .inr (10, [.ref (g.1 1 0), .ref (g.1 2 0), .int (gS st 2), .int (gS st 3), .int (gS st 1), .int (gS st 0), .int 0])) (kd_ne h_TL h_X rfl) h_TL
    have h_IL := mu_k (e := .inr (10, [.ref (g.1 1 0), .ref (g.1 2 0), .int (gS st 2), .int (gS st 3), .int (gS st 1), .int (gS st 0), .int 0])) (kd_ne h_IL h_X rfl) h_IL
    have h_ID := mu_k (e := .inr (10, [.ref (g.1 1 0), .ref (g.1 2 0), .int (gS st 2), .int (gS st 3), .int (gS st 1), .int (gS st 0), .int 0])) (kd_ne h_ID h_X rfl) h_ID
    have h_I := mu_k (e := .inr (10, [.ref (g.1 1 0), .ref (g.1 2 0), .int (gS st 2), .int (gS st 3), .int (gS st 1), .int (gS st 0), .int 0])) (kd_ne h_I h_X rfl) h_I
    have h_L := mu_k (e := .inr (10, [.ref (g.1 1 0), .ref (g.1 2 0), .int (gS st 2), .int (gS st 3), .int (gS st 1), .int (gS st 0), .int 0])) (kd_ne h_L h_X rfl) h_L
    have h_H := mu_k (e := .inr (10, [.ref (g.1 1 0), .ref (g.1 2 0), .int (gS st 2), .int (gS st 3), .int (gS st 1), .int (gS st 0), .int 0])) (kd_ne h_H h_X rfl) h_H
    have h_X : (mu Mw (g.1 0 0) (.inr (10, [.ref (g.1 1 0), .ref (g.1 2 0), .int (gS st 2), .int (gS st 3), .int (gS st 1), .int (gS st 0), .int 0]))) (g.1 0 0) = some (.inr (10, [.ref (g.1 1 0), .ref (g.1 2 0), .int (gS st 2), .int (gS st 3), .int (gS st 1), .int (gS st 0), .int 0])) := mu_s
    refine lv_if_ne (tgt := 26) hx hb dX7_meanError_10 (by decide) (fun h9 => absurd h9 (by decide)) (fun _ => ?_)
    refine lv_aload_n hx hb dX7_meanError_13 rfl (lv_at hl 0 rfl) ?_
    refine lv_aload_n hx hb dX7_meanError_14 rfl (lv_at hl 0 rfl) ?_
    refine lv_iload_n hx hb dX7_meanError_15 rfl (lv_at hl 1 rfl) ?_
    refine m_calli (va_runV (As := [.int (nI (ix p0))]) (rest := [.ref (g.1 0 0)]) ⟨hx, hb, hml, hown, hts⟩ (c_X7_hasNone l G A (mu Mw (g.1 0 0) (.inr (10, [.ref (g.1 1 0), .ref (g.1 2 0), .int (gS st 2), .int (gS st 3), .int (gS st 1), .int (gS st 0), .int 0])))  h_X h_IL hnN8 h_ID h_I (ix p0) hi9.2 (qf_p hi9.2) h_L hrn9 hli9) (cwV 1 hts gX7_meanError_X7_hasNone rfl rfl rfl (by decide +kernel) ⟨Nat.le_of_ble_eq_true rfl, Nat.le_of_ble_eq_true rfl⟩) (mPreV hG hS hP hI hA (hP _ _ h_X) (r := (RX7, TX7, 7)) rfl) rfl rfl hl.1 rfl (lv_room (Nat.le_of_ble_eq_true rfl)) dX7_meanError_16 ⟨Nat.le_of_ble_eq_true rfl, Nat.le_of_ble_eq_true rfl⟩) hS (fun r3 Mw1 H locs hp_r3 hP hI hS => ?_)
    obtain ⟨hb9, hm9⟩ := hp_r3
    subst Mw1
    rcases hb9 with ⟨hr9, hq_r3⟩ | ⟨hr9, hq_r3⟩
    · subst hr9
      refine lv_iconst (v := 2) hx hb dX7_meanError_19 (by decide) ?_
      refine m_calli (va_runV (As := [.int 0, .int 2]) (rest := []) ⟨hx, hb, hml, hown, hts⟩ (c_X7_isThrown0 l G A (mu Mw (g.1 0 0) (.inr (10, [.ref (g.1 1 0), .ref (g.1 2 0), .int (gS st 2), .int (gS st 3), .int (gS st 1), .int (gS st 0), .int 0])))  2 h_X) (cwV 2 hts gX7_meanError_X7_isThrown rfl rfl rfl (by decide +kernel) ⟨Nat.le_of_ble_eq_true rfl, Nat.le_of_ble_eq_true rfl⟩) (mPreV hG hS hP hI hA (hP _ _ h_X) (r := (RX7, TX7, 7)) rfl) rfl rfl hl.1 rfl (lv_room (Nat.le_of_ble_eq_true rfl)) dX7_meanError_20 ⟨Nat.le_of_ble_eq_true rfl, Nat.le_of_ble_eq_true rfl⟩) hS (fun r4 Mw1 H locs hp_r4 hP hI hS => ?_)
      obtain ⟨hp_r4, hm9⟩ := hp_r4
      subst Mw1
      subst hp_r4
      have h_TL := mu_k (e := .inr (10, [.ref (g.1 1 0), .ref (g.1 2 0), .int (gS st 2), .int (gS st 3), .int (gS st 1), .int (gS st 0), .int 0])) (kd_ne h_TL h_X rfl) h_TL
      have h_IL := mu_k (e := .inr (10, [.ref (g.1 1 0), .ref (g.1 2 0), .int (gS st 2), .int (gS st 3), .int (gS st 1), .int (gS st 0), .int 0])) (kd_ne h_IL h_X rfl) h_IL
      have h_ID := mu_k (e := .inr (10, [.ref (g.1 1 0), .ref (g.1 2 0), .int (gS st 2), .int (gS st 3), .int (gS st 1), .int (gS st 0), .int 0])) (kd_ne h_ID h_X rfl) h_ID
      have h_I := mu_k (e := .inr (10, [.ref (g.1 1 0), .ref (g.1 2 0), .int (gS st 2), .int (gS st 3), .int (gS st 1), .int (gS st 0), .int 0])) (kd_ne h_I h_X rfl) h_I
      have h_L := mu_k (e := .inr (10, [.ref (g.1 1 0), .ref (g.1 2 0), .int (gS st 2), .int (gS st 3), .int (gS st 1), .int (gS st 0), .int 0])) (kd_ne h_L h_X rfl) h_L
      have h_H := mu_k (e := .inr (10, [.ref (g.1 1 0), .ref (g.1 2 0), .int (gS st 2), .int (gS st 3), .int (gS st 1), .int (gS st 0), .int 0])) (kd_ne h_H h_X rfl) h_H
      have h_X : (mu (mu Mw (g.1 0 0) (.inr (10, [.ref (g.1 1 0), .ref (g.1 2 0), .int (gS st 2), .int (gS st 3), .int (gS st 1), .int (gS st 0), .int 0]))) (g.1 0 0) (.inr (10, [.ref (g.1 1 0), .ref (g.1 2 0), .int (gS st 2), .int (gS st 3), .int (gS st 1), .int (gS st 0), .int 0]))) (g.1 0 0) = some (.inr (10, [.ref (g.1 1 0), .ref (g.1 2 0), .int (gS st 2), .int (gS st 3), .int (gS st 1), .int (gS st 0), .int 0])) := mu_s
      refine lv_if_eq (tgt := 28) hx hb dX7_meanError_23 (by decide) (fun _ => ?_) (fun h9 => absurd h9 (by decide))
      have hf10 := hR.f10 hi9.2 hq_r3
      have hdd9 := hR.ne (ro10 hi9.2 hf10) (ro11 hi9.2 hf10) (by omega)
      have h_DR0 : Mw (g.1 10 (ix p0)) = some (.inl (G.2.1 5, 10, .inr (.inr (.inr (.inr (qf (rnS st (ix p0)) (ivR g (ix p0)))))))) := hR.1 10 _ (ro10 hi9.2 hf10)
      have h_DR : (mu (mu Mw (g.1 0 0) (.inr (10, [.ref (g.1 1 0), .ref (g.1 2 0), .int (gS st 2), .int (gS st 3), .int (gS st 1), .int (gS st 0), .int 0]))) (g.1 0 0) (.inr (10, [.ref (g.1 1 0), .ref (g.1 2 0), .int (gS st 2), .int (gS st 3), .int (gS st 1), .int (gS st 0), .int 0]))) (g.1 10 (ix p0)) = some (.inl (G.2.1 5, 10, .inr (.inr (.inr (.inr (qf (rnS st (ix p0)) (ivR g (ix p0)))))))) := by first | exact h_DR0 | exact ((mu_n (kd_ne h_DR0 h_X0 rfl)).trans ((mu_n (kd_ne h_DR0 h_X0 rfl)).trans (rfl))).trans h_DR0
      have h_DH0 : Mw (g.1 11 (ix p0)) = some (.inl (G.2.1 5, 10, .inr (.inr (.inr (.inr (qf (rnS st (ix p0)) (ihR g (ix p0)))))))) := hR.1 11 _ (ro11 hi9.2 hf10)
      have h_DH : (mu (mu Mw (g.1 0 0) (.inr (10, [.ref (g.1 1 0), .ref (g.1 2 0), .int (gS st 2), .int (gS st 3), .int (gS st 1), .int (gS st 0), .int 0]))) (g.1 0 0) (.inr (10, [.ref (g.1 1 0), .ref (g.1 2 0), .int (gS st 2), .int (gS st 3), .int (gS st 1), .int (gS st 0), .int 0]))) (g.1 11 (ix p0)) = some (.inl (G.2.1 5, 10, .inr (.inr (.inr (.inr (qf (rnS st (ix p0)) (ihR g (ix p0)))))))) := by first | exact h_DH0 | exact ((mu_n (kd_ne h_DH0 h_X0 rfl)).trans ((mu_n (kd_ne h_DH0 h_X0 rfl)).trans (rfl))).trans h_DH0
      have hRR : ∀ i, i < rnS st (ix p0) → ∃ y : Nat, (qf (rnS st (ix p0)) (ivR g (ix p0))) i = some y ∧ ((mu (mu Mw (g.1 0 0) (.inr (10, [.ref (g.1 1 0), .ref (g.1 2 0), .int (gS st 2), .int (gS st 3), .int (gS st 1), .int (gS st 0), .int 0]))) (g.1 0 0) (.inr (10, [.ref (g.1 1 0), .ref (g.1 2 0), .int (gS st 2), .int (gS st 3), .int (gS st 1), .int (gS st 0), .int 0]))) y = some (.inr (0, [.int (rvS st (ix p0) i)])) ∨ G.2.2.1 y = some (.inr (0, [.int (rvS st (ix p0) i)]))) := fun i9 hi8 => ⟨_, qf_p hi8, or_fr (fun q9 => (mu_n (kd_ne q9 h_X0 rfl)).trans ((mu_n (kd_ne q9 h_X0 rfl)).trans (rfl))) ((hR.2.2.2.2 _ hi9.2).2.2 i9 hi8).1⟩
      have hHH : ∀ i, i < rnS st (ix p0) → ∃ y : Nat, (qf (rnS st (ix p0)) (ihR g (ix p0))) i = some y ∧ ((mu (mu Mw (g.1 0 0) (.inr (10, [.ref (g.1 1 0), .ref (g.1 2 0), .int (gS st 2), .int (gS st 3), .int (gS st 1), .int (gS st 0), .int 0]))) (g.1 0 0) (.inr (10, [.ref (g.1 1 0), .ref (g.1 2 0), .int (gS st 2), .int (gS st 3), .int (gS st 1), .int (gS st 0), .int 0]))) y = some (.inr (0, [.int (rhS st (ix p0) i)])) ∨ G.2.2.1 y = some (.inr (0, [.int (rhS st (ix p0) i)]))) := fun i9 hi8 => ⟨_, qf_p hi8, or_fr (fun q9 => (mu_n (kd_ne q9 h_X0 rfl)).trans ((mu_n (kd_ne q9 h_X0 rfl)).trans (rfl))) ((hR.2.2.2.2 _ hi9.2).2.2 i9 hi8).2⟩
      refine lv_aload_n hx hb dX7_meanError_28 rfl (lv_at hl 0 rfl) ?_
      refine m_get (ci := 10) (v := .ref (g.1 2 0)) (C := RX7) (T := TX7) (N := 7) hx hb hts i_X7 hown hK (hP _ _ h_X) rfl 1 (by decide) (hts (.fieldLink RX7 16 "MeniscusModel" "instruments" "Ljava/util/ArrayList;") (by decide +kernel)) (fun _ h9 => h9) rfl dX7_meanError_29 ?_
      refine lv_iload_n hx hb dX7_meanError_32 rfl (lv_at hl 1 rfl) ?_
      refine m_callq (va_runV (As := [.int (nI (ix p0))]) (rest := []) ⟨hx, hb, hml, hown, hts⟩ (c_Jx4a65c_get_915e3 l G A (mu (mu Mw (g.1 0 0) (.inr (10, [.ref (g.1 1 0), .ref (g.1 2 0), .int (gS st 2), .int (gS st 3), .int (gS st 1), .int (gS st 0), .int 0]))) (g.1 0 0) (.inr (10, [.ref (g.1 1 0), .ref (g.1 2 0), .int (gS st 2), .int (gS st 3), .int (gS st 1), .int (gS st 0), .int 0])))  h_IL h_ID (ix p0) (g.1 7 (ix p0)) hi9.2 hnN8 (qf_p hi9.2)) (cwV 1 hts gX7_meanError_Jx4a65c_get_915e3 rfl rfl rfl (by decide +kernel) ⟨Nat.le_of_ble_eq_true rfl, Nat.le_of_ble_eq_true rfl⟩) (mPreV hG hS hP hI hA (hP _ _ h_IL) (r := (RJx4a65c, TJx4a65c, 3)) rfl) rfl rfl hl.1 rfl (lv_room (Nat.le_of_ble_eq_true rfl)) dX7_meanError_33 ⟨Nat.le_of_ble_eq_true rfl, Nat.le_of_ble_eq_true rfl⟩) hS (fun r5 Mw1 H locs hp_r5 hP hI hS => ?_)
      obtain ⟨hp_r5, hm9⟩ := hp_r5
      subst Mw1
      subst hp_r5
      refine va_castE hx hb hown (hts (.classLink RX7 79 RX5) (by decide +kernel)) (va_recv hK (va_at.one (hP _ _ h_I)) (q0 := 0) (q := (RX5, TX5, 17)) rfl rfl) dX7_meanError_36 ?_
      refine lv_astore_n (lv' := [(2, .ref (g.1 7 (ix p0))), (0, .ref (g.1 0 0)), (1, .int (nI (ix p0)))]) hx hb dX7_meanError_39 rfl hl (by decide) rfl (fun ls hl => ?_)
      refine lv_iconst (v := 0) hx hb dX7_meanError_40 (by decide) ?_
      refine lv_istore_n (lv' := [(3, .int 0), (2, .ref (g.1 7 (ix p0))), (0, .ref (g.1 0 0)), (1, .int (nI (ix p0)))]) hx hb dX7_meanError_41 rfl hl (by decide) rfl (fun ls hl => ?_)
      refine lv_iconst (v := 0) hx hb dX7_meanError_42 (by decide) ?_
      refine lv_istore (lv' := [(4, .int 0), (3, .int 0), (2, .ref (g.1 7 (ix p0))), (0, .ref (g.1 0 0)), (1, .int (nI (ix p0)))]) hx hb dX7_meanError_43 hl (by decide) rfl (fun ls hl => ?_)
      have loop : ∀ (n k : Nat), k ≤ (rnS st (ix p0)) → k + n = (rnS st (ix p0)) + 1 → ∀ (H : Heap) (locs : List Loc) (ls : Array Slot), mP G.1 (mu (mu Mw (g.1 0 0) (.inr (10, [.ref (g.1 1 0), .ref (g.1 2 0), .int (gS st 2), .int (gS st 3), .int (gS st 1), .int (gS st 0), .int 0]))) (g.1 0 0) (.inr (10, [.ref (g.1 1 0), .ref (g.1 2 0), .int (gS st 2), .int (gS st 3), .int (gS st 1), .int (gS st 0), .int 0]))) H → mI A (mu (mu Mw (g.1 0 0) (.inr (10, [.ref (g.1 1 0), .ref (g.1 2 0), .int (gS st 2), .int (gS st 3), .int (gS st 1), .int (gS st 0), .int 0]))) (g.1 0 0) (.inr (10, [.ref (g.1 1 0), .ref (g.1 2 0), .int (gS st 2), .int (gS st 3), .int (gS st 1), .int (gS st 0), .int 0]))) → va_S A s.heap H locs → lv_has ls 5 [(0, .ref (g.1 0 0)), (2, .ref (g.1 7 (ix p0))), (3, .int (isum (reS st (ix p0)) k)), (4, .int (nI k))] → W p l e ({ frames := 4, cells := 0, slots := 0, locals := 85 }) s m ([.ref (g.1 0 0), .int p0] : List Value).toArray below meth c H locs 0 0 (MQ below (va_Qd (fun r Mw1 => ∃ x : Int32, RP G (m_meanError st p0) g x Mw1 ∧ ((m_meanError st p0).1 = 0 → r = FP.ddiv (FP.i2d x) (FP.i2d (nI (rnS st (ix p0)))))) (mE G A) A) ([.ref (g.1 0 0), .int p0] : List Value).toArray s 0 0 A) (F0 m 45 ls []) := by
        intro n
        induction n with
        | zero => intro k hk1 hk2; omega
        | succ n ih_loop =>
          intro k hk1 hk2 H locs ls hP hI hS hl
          refine lv_iload hx hb dX7_meanError_45 (lv_at hl 3 rfl) ?_
          refine lv_aload_n hx hb dX7_meanError_47 rfl (lv_at hl 1 rfl) ?_
          refine m_getN (ci := 8) (v := .ref (g.1 8 (ix p0))) (C := RX5) (T := TX5) (N := 17) hx hb hts i_X5 hown hK (hP _ _ h_I) rfl 15 (by decide) (va_Nw.use rfl (hG.2.1.2.1 ("MeniscusModel", 176, "MeniscusModel$Instrument", "readings", "Ljava/util/ArrayList;", "MeniscusModel") (by decide +kernel))) (fun _ h9 => h9) rfl dX7_meanError_48 ?_
          refine m_calli (va_runV (As := []) (rest := [.int (nI k)]) ⟨hx, hb, hml, hown, hts⟩ (c_Jx4a65c_size_8abf5 l G A (mu (mu Mw (g.1 0 0) (.inr (10, [.ref (g.1 1 0), .ref (g.1 2 0), .int (gS st 2), .int (gS st 3), .int (gS st 1), .int (gS st 0), .int 0]))) (g.1 0 0) (.inr (10, [.ref (g.1 1 0), .ref (g.1 2 0), .int (gS st 2), .int (gS st 3), .int (gS st 1), .int (gS st 0), .int 0])))  h_L) (cwV 0 hts gX7_meanError_Jx4a65c_size_8abf5 rfl rfl rfl (by decide +kernel) ⟨Nat.le_of_ble_eq_true rfl, Nat.le_of_ble_eq_true rfl⟩) (mPreV hG hS hP hI hA (hP _ _ h_L) (r := (RJx4a65c, TJx4a65c, 3)) rfl) rfl rfl hl.1 rfl (lv_room (Nat.le_of_ble_eq_true rfl)) dX7_meanError_51 ⟨Nat.le_of_ble_eq_true rfl, Nat.le_of_ble_eq_true rfl⟩) hS (fun r6 Mw1 H locs hp_r6 hP hI hS => ?_)
          obtain ⟨hp_r6, hm9⟩ := hp_r6
          subst Mw1
          subst hp_r6
          refine lv_icmp_ge (tgt := 72) hx hb dX7_meanError_54 (by decide) (fun c7 => ?_) (fun c7 => ?_)
          · skip
            have hk9 : k = rnS st (ix p0) := by have h8 := (nI_leI (a := rnS st (ix p0)) (b := k) (by omega) (by omega)).mp c7; omega
            refine lv_iload_n hx hb dX7_meanError_72 rfl (lv_at hl 2 rfl) ?_
            refine lv_i2d hx hb dX7_meanError_73 ?_
            refine lv_aload_n hx hb dX7_meanError_74 rfl (lv_at hl 1 rfl) ?_
            refine m_getN (ci := 8) (v := .ref (g.1 8 (ix p0))) (C := RX5) (T := TX5) (N := 17) hx hb hts i_X5 hown hK (hP _ _ h_I) rfl 15 (by decide) (va_Nw.use rfl (hG.2.1.2.1 ("MeniscusModel", 176, "MeniscusModel$Instrument", "readings", "Ljava/util/ArrayList;", "MeniscusModel") (by decide +kernel))) (fun _ h9 => h9) rfl dX7_meanError_75 ?_
            refine m_calli (va_runV (As := []) (rest := [.double (FP.i2d (isum (reS st (ix p0)) k))]) ⟨hx, hb, hml, hown, hts⟩ (c_Jx4a65c_size_8abf5 l G A (mu (mu Mw (g.1 0 0) (.inr (10, [.ref (g.1 1 0), .ref (g.1 2 0), .int (gS st 2), .int (gS st 3), .int (gS st 1), .int (gS st 0), .int 0]))) (g.1 0 0) (.inr (10, [.ref (g.1 1 0), .ref (g.1 2 0), .int (gS st 2), .int (gS st 3), .int (gS st 1), .int (gS st 0), .int 0])))  h_L) (cwV 0 hts gX7_meanError_Jx4a65c_size_8abf5 rfl rfl rfl (by decide +kernel) ⟨Nat.le_of_ble_eq_true rfl, Nat.le_of_ble_eq_true rfl⟩) (mPreV hG hS hP hI hA (hP _ _ h_L) (r := (RJx4a65c, TJx4a65c, 3)) rfl) rfl rfl hl.1 rfl (lv_room (Nat.le_of_ble_eq_true rfl)) dX7_meanError_78 ⟨Nat.le_of_ble_eq_true rfl, Nat.le_of_ble_eq_true rfl⟩) hS (fun r8 Mw1 H locs hp_r8 hP hI hS => ?_)
            obtain ⟨hp_r8, hm9⟩ := hp_r8
            subst Mw1
            subst hp_r8
            refine lv_i2d hx hb dX7_meanError_81 ?_
            refine lv_ddiv hx hb dX7_meanError_82 (ddiv_num _ _ hrn9 hq_r3) ?_
            refine W.widen (k := 0) (n := 0) (Nat.le_of_ble_eq_true rfl) (Nat.le_of_ble_eq_true rfl) ?_
            exact W.dret (v := FP.ddiv (FP.i2d (isum (reS st (ix p0)) k)) (FP.i2d (nI (rnS st (ix p0))))) hx hb hr (fun t99 ht99 hW99 => ⟨⟨FP.ddiv (FP.i2d (isum (reS st (ix p0)) k)) (FP.i2d (nI (rnS st (ix p0)))), (mu (mu Mw (g.1 0 0) (.inr (10, [.ref (g.1 1 0), .ref (g.1 2 0), .int (gS st 2), .int (gS st 3), .int (gS st 1), .int (gS st 0), .int 0]))) (g.1 0 0) (.inr (10, [.ref (g.1 1 0), .ref (g.1 2 0), .int (gS st 2), .int (gS st 3), .int (gS st 1), .int (gS st 0), .int 0]))), rfl, ⟨isum (reS st (ix p0)) (rnS st (ix p0)), RP.ok (by unfold m_meanError; first | (rw [chk_p hi9, chk_p hq_r3]; done) | (rw [chk_p hi9, chk_p hq_r3]; rfl)) (hR.th 0 h_X (fun x9 e9 hx9 h0 => ((mu_n h0).trans ((mu_n h0).trans (rfl))).trans hx9)) rfl rfl, fun _ => by rw [hk9]⟩, by rw [ht99]; exact hP, hI⟩, hS.F ht99⟩) hS.2.2 dX7_meanError_83
          · skip
            have hk9 : k < rnS st (ix p0) := Nat.lt_of_not_le (fun q => c7 (nI_le (a := rnS st (ix p0)) q (by omega)))
            refine lv_iload_n hx hb dX7_meanError_57 rfl (lv_at hl 2 rfl) ?_
            refine lv_aload_n hx hb dX7_meanError_58 rfl (lv_at hl 1 rfl) ?_
            refine lv_iload hx hb dX7_meanError_59 (lv_at hl 3 rfl) ?_
            refine m_calli (va_runV (As := [.int (nI k)]) (rest := [.int (isum (reS st (ix p0)) k)]) ⟨hx, hb, hml, hown, hts⟩ (c_X5_errorAt l G A (mu (mu Mw (g.1 0 0) (.inr (10, [.ref (g.1 1 0), .ref (g.1 2 0), .int (gS st 2), .int (gS st 3), .int (gS st 1), .int (gS st 0), .int 0]))) (g.1 0 0) (.inr (10, [.ref (g.1 1 0), .ref (g.1 2 0), .int (gS st 2), .int (gS st 3), .int (gS st 1), .int (gS st 0), .int 0])))  h_I hrn9 h_L h_H h_DR h_DH hRR hHH k hk9) (cwV 1 hts gX7_meanError_X5_errorAt rfl rfl rfl (by decide +kernel) ⟨Nat.le_of_ble_eq_true rfl, Nat.le_of_ble_eq_true rfl⟩) (mPreV hG hS hP hI hA (hP _ _ h_I) (r := (RX5, TX5, 17)) rfl) rfl rfl hl.1 rfl (lv_room (Nat.le_of_ble_eq_true rfl)) dX7_meanError_61 ⟨Nat.le_of_ble_eq_true rfl, Nat.le_of_ble_eq_true rfl⟩) hS (fun r9 Mw1 H locs hp_r9 hP hI hS => ?_)
            obtain ⟨hp_r9, hm9⟩ := hp_r9
            subst Mw1
            refine lv_iadd hx hb dX7_meanError_64 ?_
            refine lv_istore_n (lv' := [(3, .int ((isum (reS st (ix p0)) k) + r9)), (0, .ref (g.1 0 0)), (2, .ref (g.1 7 (ix p0))), (4, .int (nI k))]) hx hb dX7_meanError_65 rfl hl (by decide) rfl (fun ls hl => ?_)
            refine lv_iinc (v := (nI k) + 1) (lv' := [(4, .int ((nI k) + 1)), (3, .int ((isum (reS st (ix p0)) k) + r9)), (0, .ref (g.1 0 0)), (2, .ref (g.1 7 (ix p0)))]) hx hb dX7_meanError_66 hl (k := 3) rfl rfl (by decide) rfl (fun ls hl => ?_)
            refine lv_goto (tgt := 45) hx hb dX7_meanError_69 (by decide) ?_
            have e_4 : (nI k) + 1 = nI (k + 1) := nI_1 k
            rw [e_4] at hl
            have e_3 : (isum (reS st (ix p0)) k) + r9 = isum (reS st (ix p0)) (k + 1) := by rw [hp_r9]; rfl
            rw [e_3] at hl
            exact ih_loop (k + 1) (by omega) (by omega) H locs ls hP hI hS (lv_sub hl [2, 3, 1, 0] rfl)
      exact loop ((rnS st (ix p0)) + 1 - 0) 0 (by omega) (by omega) _ _ _ hP hI hS (lv_sub hl [3, 2, 1, 0] rfl)
    · subst hr9
      refine lv_iconst (v := 2) hx hb dX7_meanError_19 (by decide) ?_
      refine m_calli (va_runV (As := [.int 1, .int 2]) (rest := []) ⟨hx, hb, hml, hown, hts⟩ (c_X7_isThrown1 l G A (mu Mw (g.1 0 0) (.inr (10, [.ref (g.1 1 0), .ref (g.1 2 0), .int (gS st 2), .int (gS st 3), .int (gS st 1), .int (gS st 0), .int 0])))  2 h_X) (cwV 2 hts gX7_meanError_X7_isThrown rfl rfl rfl (by decide +kernel) ⟨Nat.le_of_ble_eq_true rfl, Nat.le_of_ble_eq_true rfl⟩) (mPreV hG hS hP hI hA (hP _ _ h_X) (r := (RX7, TX7, 7)) rfl) rfl rfl hl.1 rfl (lv_room (Nat.le_of_ble_eq_true rfl)) dX7_meanError_20 ⟨Nat.le_of_ble_eq_true rfl, Nat.le_of_ble_eq_true rfl⟩) hS (fun r10 Mw1 H locs hp_r10 hP hI hS => ?_)
      obtain ⟨hp_r10, hm9⟩ := hp_r10
      subst Mw1
      subst hp_r10
      have h_TL := mu_k (e := .inr (10, [.ref (g.1 1 0), .ref (g.1 2 0), .int (gS st 2), .int (gS st 3), .int (gS st 1), .int (gS st 0), .int 2])) (kd_ne h_TL h_X rfl) h_TL
      have h_IL := mu_k (e := .inr (10, [.ref (g.1 1 0), .ref (g.1 2 0), .int (gS st 2), .int (gS st 3), .int (gS st 1), .int (gS st 0), .int 2])) (kd_ne h_IL h_X rfl) h_IL
      have h_ID := mu_k (e := .inr (10, [.ref (g.1 1 0), .ref (g.1 2 0), .int (gS st 2), .int (gS st 3), .int (gS st 1), .int (gS st 0), .int 2])) (kd_ne h_ID h_X rfl) h_ID
      have h_I := mu_k (e := .inr (10, [.ref (g.1 1 0), .ref (g.1 2 0), .int (gS st 2), .int (gS st 3), .int (gS st 1), .int (gS st 0), .int 2])) (kd_ne h_I h_X rfl) h_I
      have h_L := mu_k (e := .inr (10, [.ref (g.1 1 0), .ref (g.1 2 0), .int (gS st 2), .int (gS st 3), .int (gS st 1), .int (gS st 0), .int 2])) (kd_ne h_L h_X rfl) h_L
      have h_H := mu_k (e := .inr (10, [.ref (g.1 1 0), .ref (g.1 2 0), .int (gS st 2), .int (gS st 3), .int (gS st 1), .int (gS st 0), .int 2])) (kd_ne h_H h_X rfl) h_H
      have h_X : (mu (mu Mw (g.1 0 0) (.inr (10, [.ref (g.1 1 0), .ref (g.1 2 0), .int (gS st 2), .int (gS st 3), .int (gS st 1), .int (gS st 0), .int 0]))) (g.1 0 0) (.inr (10, [.ref (g.1 1 0), .ref (g.1 2 0), .int (gS st 2), .int (gS st 3), .int (gS st 1), .int (gS st 0), .int 2]))) (g.1 0 0) = some (.inr (10, [.ref (g.1 1 0), .ref (g.1 2 0), .int (gS st 2), .int (gS st 3), .int (gS st 1), .int (gS st 0), .int 2])) := mu_s
      refine lv_if_eq (tgt := 28) hx hb dX7_meanError_23 (by decide) (fun h9 => absurd h9 (by decide)) (fun _ => ?_)
      refine lv_dconst0 hx hb dX7_meanError_26 ?_
      have hop9 : m_meanError st p0 = (2, 0, st) := by unfold m_meanError; first | (rw [chk_p hi9, chk_n (fun q9 => q9 hq_r3)]; done) | (rw [chk_p hi9, chk_n (fun q9 => q9 hq_r3)]; rfl)
      refine W.widen (k := 0) (n := 0) (Nat.le_of_ble_eq_true rfl) (Nat.le_of_ble_eq_true rfl) ?_
      exact W.dret (v := FP.dconst0) hx hb hr (fun t99 ht99 hW99 => ⟨⟨FP.dconst0, (mu (mu Mw (g.1 0 0) (.inr (10, [.ref (g.1 1 0), .ref (g.1 2 0), .int (gS st 2), .int (gS st 3), .int (gS st 1), .int (gS st 0), .int 0]))) (g.1 0 0) (.inr (10, [.ref (g.1 1 0), .ref (g.1 2 0), .int (gS st 2), .int (gS st 3), .int (gS st 1), .int (gS st 0), .int 2]))), rfl, ⟨0, RP.no (k := 2) hop9 (by decide) (hR.th 2 h_X (fun x9 e9 hx9 h0 => ((mu_n h0).trans ((mu_n h0).trans (rfl))).trans hx9)) rfl rfl, fun q9 => absurd (show (2 : Nat) = 0 by rw [hop9] at q9; exact q9) (by decide)⟩, by rw [ht99]; exact hP, hI⟩, hS.F ht99⟩) hS.2.2 dX7_meanError_27
  · subst hr9
    refine lv_iconst (v := 1) hx hb dX7_meanError_6 (by decide) ?_
    refine m_calli (va_runV (As := [.int 1, .int 1]) (rest := []) ⟨hx, hb, hml, hown, hts⟩ (c_X7_isThrown1 l G A Mw  1 h_X) (cwV 2 hts gX7_meanError_X7_isThrown rfl rfl rfl (by decide +kernel) ⟨Nat.le_of_ble_eq_true rfl, Nat.le_of_ble_eq_true rfl⟩) (mPreV hG hS hP hI hA (hP _ _ h_X) (r := (RX7, TX7, 7)) rfl) rfl rfl hl.1 rfl (lv_room (Nat.le_of_ble_eq_true rfl)) dX7_meanError_7 ⟨Nat.le_of_ble_eq_true rfl, Nat.le_of_ble_eq_true rfl⟩) hS (fun r11 Mw1 H locs hp_r11 hP hI hS => ?_)
    obtain ⟨hp_r11, hm9⟩ := hp_r11
    subst Mw1
    subst hp_r11
    have h_TL := mu_k (e := .inr (10, [.ref (g.1 1 0), .ref (g.1 2 0), .int (gS st 2), .int (gS st 3), .int (gS st 1), .int (gS st 0), .int 1])) (kd_ne h_TL h_X rfl) h_TL
    have h_IL := mu_k (e := .inr (10, [.ref (g.1 1 0), .ref (g.1 2 0), .int (gS st 2), .int (gS st 3), .int (gS st 1), .int (gS st 0), .int 1])) (kd_ne h_IL h_X rfl) h_IL
    have h_X : (mu Mw (g.1 0 0) (.inr (10, [.ref (g.1 1 0), .ref (g.1 2 0), .int (gS st 2), .int (gS st 3), .int (gS st 1), .int (gS st 0), .int 1]))) (g.1 0 0) = some (.inr (10, [.ref (g.1 1 0), .ref (g.1 2 0), .int (gS st 2), .int (gS st 3), .int (gS st 1), .int (gS st 0), .int 1])) := mu_s
    refine lv_if_ne (tgt := 26) hx hb dX7_meanError_10 (by decide) (fun _ => ?_) (fun h9 => absurd h9 (by decide))
    refine lv_dconst0 hx hb dX7_meanError_26 ?_
    have hop9 : m_meanError st p0 = (1, 0, st) := by unfold m_meanError; first | (rw [chk_n hq_r1]; done) | (rw [chk_n hq_r1]; rfl)
    refine W.widen (k := 0) (n := 0) (Nat.le_of_ble_eq_true rfl) (Nat.le_of_ble_eq_true rfl) ?_
    exact W.dret (v := FP.dconst0) hx hb hr (fun t99 ht99 hW99 => ⟨⟨FP.dconst0, (mu Mw (g.1 0 0) (.inr (10, [.ref (g.1 1 0), .ref (g.1 2 0), .int (gS st 2), .int (gS st 3), .int (gS st 1), .int (gS st 0), .int 1]))), rfl, ⟨0, RP.no (k := 1) hop9 (by decide) (hR.th 1 h_X (fun x9 e9 hx9 h0 => ((mu_n h0).trans (rfl)).trans hx9)) rfl rfl, fun q9 => absurd (show (1 : Nat) = 0 by rw [hop9] at q9; exact q9) (by decide)⟩, by rw [ht99]; exact hP, hI⟩, hS.F ht99⟩) hS.2.2 dX7_meanError_27

set_option maxHeartbeats 4000000 in
set_option maxRecDepth 100000 in
theorem c_X7_certifiedShare (l : Launch) (G : mg) (A : Nat → Prop) (Mw : mw) (st : St) (g : gR) (hR : RS G st g Mw) (hV : Inv st) : Met l yX7_certifiedShare wsX7_certifiedShare ({ frames := 3, cells := 1, slots := 4, locals := 61 }) (va_Pc [.ref (g.1 0 0)] (mB G A Mw)) (va_Qf (fun r Mw1 => ∃ x : Int32, RP G (m_certifiedShare st) g x Mw1 ∧ ((m_certifiedShare st).1 = 0 → r = FP.fdiv (FP.i2f x) (FP.i2f (nI (nN st))))) (mE G A) A) 1 4 A := by
  refine Met.ofW (cc := cX7_certifiedShare) (maxL := 4) (ret := (some .float)) (by decide) rfl ?_
  intro p e s m args below meth c s₁ B hml hv
  obtain ⟨rfl, hG, hP, hI, hA⟩ := hv
  have hx := B.exec
  have hb := B.bytes
  have hr := B.returns
  have hts := atoms_spec (ws := wsX7_certifiedShare) B.pre
  have hown : s.vm.findClass RX7 = some m.cls := findClass_of_methodNamed B.named
  have hlocks := B.notSynchronized
  have hK := hG.K
  have i_X7 : ∀ w ∈ wsX70, w ∈ wsX7_certifiedShare := by decide +kernel
  have hS : va_S A s.heap s.heap [] := va_S.rf
  have hl := lv_entry ([.ref (g.1 0 0)]) (n := 4) (Nat.le_of_ble_eq_true rfl)
  rw [lg_entry_eq]
  generalize (lg_sl ([.ref (g.1 0 0)]) ++ List.replicate (4 - (lg_sl ([.ref (g.1 0 0)])).length) Slot.unset).toArray = ls at hl ⊢
  have hl : lv_has ls 4 [(0, .ref (g.1 0 0))] := hl
  have hP : mP G.1 Mw s.heap := hP
  have h_X : Mw (g.1 0 0) = some (.inr (10, [.ref (g.1 1 0), .ref (g.1 2 0), .int (gS st 2), .int (gS st 3), .int (gS st 1), .int (gS st 0), .int (thR g)])) := hR.1 0 0 ro0
  have h_TL : Mw (g.1 1 0) = some (.inr (2, [.int (mcR g 1 0), .ref (g.1 3 0), .int ((nI (nT st)))])) := hR.1 1 0 ro1
  have h_IL : Mw (g.1 2 0) = some (.inr (2, [.int (mcR g 2 0), .ref (g.1 4 0), .int ((nI (nN st)))])) := hR.1 2 0 ro2
  have hti9 := hR.ne ro1 ro2 (by omega)
  have hnT8 := hV.1.1
  have hnN8 := Nat.le_trans hV.1.2 (show 6 ≤ 8 by decide)
  refine lv_aload_n hx hb dX7_certifiedShare_0 rfl (lv_at hl 0 rfl) ?_
  refine lv_aload_n hx hb dX7_certifiedShare_1 rfl (lv_at hl 0 rfl) ?_
  refine m_get (ci := 10) (v := .ref (g.1 2 0)) (C := RX7) (T := TX7) (N := 7) hx hb hts i_X7 hown hK (hP _ _ h_X) rfl 1 (by decide) (hts (.fieldLink RX7 16 "MeniscusModel" "instruments" "Ljava/util/ArrayList;") (by decide +kernel)) (fun _ h9 => h9) rfl dX7_certifiedShare_2 ?_
  refine m_calli (va_runV (As := []) (rest := [.ref (g.1 0 0)]) ⟨hx, hb, hml, hown, hts⟩ (c_Jx4a65c_isEmpty_aae02 l G A Mw  h_IL) (cwV 0 hts gX7_certifiedShare_Jx4a65c_isEmpty_aae02 rfl rfl rfl (by decide +kernel) ⟨Nat.le_of_ble_eq_true rfl, Nat.le_of_ble_eq_true rfl⟩) (mPreV hG hS hP hI hA (hP _ _ h_IL) (r := (RJx4a65c, TJx4a65c, 3)) rfl) rfl rfl hl.1 rfl (lv_room (Nat.le_of_ble_eq_true rfl)) dX7_certifiedShare_5 ⟨Nat.le_of_ble_eq_true rfl, Nat.le_of_ble_eq_true rfl⟩) hS (fun r1 Mw1 H locs hp_r1 hP hI hS => ?_)
  obtain ⟨hp_r1, hm9⟩ := hp_r1
  subst Mw1
  rcases em_01 hnN8 hp_r1 with ⟨hr9, hq9⟩ | ⟨hr9, hq9⟩
  · subst hr9
    refine lv_iconst (v := 1) hx hb dX7_certifiedShare_8 (by decide) ?_
    refine m_calli (va_runV (As := [.int 0, .int 1]) (rest := []) ⟨hx, hb, hml, hown, hts⟩ (c_X7_isThrown0 l G A Mw  1 h_X) (cwV 2 hts gX7_certifiedShare_X7_isThrown rfl rfl rfl (by decide +kernel) ⟨Nat.le_of_ble_eq_true rfl, Nat.le_of_ble_eq_true rfl⟩) (mPreV hG hS hP hI hA (hP _ _ h_X) (r := (RX7, TX7, 7)) rfl) rfl rfl hl.1 rfl (lv_room (Nat.le_of_ble_eq_true rfl)) dX7_certifiedShare_9 ⟨Nat.le_of_ble_eq_true rfl, Nat.le_of_ble_eq_true rfl⟩) hS (fun r2 Mw1 H locs hp_r2 hP hI hS => ?_)
    obtain ⟨hp_r2, hm9⟩ := hp_r2
    subst Mw1
    subst hp_r2
    have h_TL := mu_k (e := .inr (10, [.ref (g.1 1 0), .ref (g.1 2 0), .int (gS st 2), .int (gS st 3), .int (gS st 1), .int (gS st 0), .int 0])) (kd_ne h_TL h_X rfl) h_TL
    have h_IL := mu_k (e := .inr (10, [.ref (g.1 1 0), .ref (g.1 2 0), .int (gS st 2), .int (gS st 3), .int (gS st 1), .int (gS st 0), .int 0])) (kd_ne h_IL h_X rfl) h_IL
    have h_X : (mu Mw (g.1 0 0) (.inr (10, [.ref (g.1 1 0), .ref (g.1 2 0), .int (gS st 2), .int (gS st 3), .int (gS st 1), .int (gS st 0), .int 0]))) (g.1 0 0) = some (.inr (10, [.ref (g.1 1 0), .ref (g.1 2 0), .int (gS st 2), .int (gS st 3), .int (gS st 1), .int (gS st 0), .int 0])) := mu_s
    refine lv_if_eq (tgt := 17) hx hb dX7_certifiedShare_12 (by decide) (fun _ => ?_) (fun h9 => absurd h9 (by decide))
    refine lv_iconst (v := 0) hx hb dX7_certifiedShare_17 (by decide) ?_
    refine lv_istore_n (lv' := [(1, .int 0), (0, .ref (g.1 0 0))]) hx hb dX7_certifiedShare_18 rfl hl (by decide) rfl (fun ls hl => ?_)
    refine lv_aload_n hx hb dX7_certifiedShare_19 rfl (lv_at hl 1 rfl) ?_
    refine m_get (ci := 10) (v := .ref (g.1 2 0)) (C := RX7) (T := TX7) (N := 7) hx hb hts i_X7 hown hK (hP _ _ h_X) rfl 1 (by decide) (hts (.fieldLink RX7 16 "MeniscusModel" "instruments" "Ljava/util/ArrayList;") (by decide +kernel)) (fun _ h9 => h9) rfl dX7_certifiedShare_20 ?_
    refine m_callq (va_runV (As := []) (rest := []) ⟨hx, hb, hml, hown, hts⟩ (c_Jx4a65c_iterator_32c93 l G A (mu Mw (g.1 0 0) (.inr (10, [.ref (g.1 1 0), .ref (g.1 2 0), .int (gS st 2), .int (gS st 3), .int (gS st 1), .int (gS st 0), .int 0])))  h_IL) (cwV 0 hts gX7_certifiedShare_Jx4a65c_iterator_32c93 rfl rfl rfl (by decide +kernel) ⟨Nat.le_of_ble_eq_true rfl, Nat.le_of_ble_eq_true rfl⟩) (mPreV hG hS hP hI hA (hP _ _ h_IL) (r := (RJx4a65c, TJx4a65c, 3)) rfl) rfl rfl hl.1 rfl (lv_room (Nat.le_of_ble_eq_true rfl)) dX7_certifiedShare_23 ⟨Nat.le_of_ble_eq_true rfl, Nat.le_of_ble_eq_true rfl⟩) hS (fun r3 Mw1 H locs hp_r3 hP hI hS => ?_)
    obtain ⟨qi, hp_r3, hn_qi, hm9⟩ := hp_r3
    subst Mw1
    subst hp_r3
    have h_X := mu_x (e := .inr (1, [.int 0, .int ((-1)), .int (mcR g 2 0), .ref (g.1 2 0)])) h_X hn_qi
    have h_TL := mu_x (e := .inr (1, [.int 0, .int ((-1)), .int (mcR g 2 0), .ref (g.1 2 0)])) h_TL hn_qi
    have h_IL := mu_x (e := .inr (1, [.int 0, .int ((-1)), .int (mcR g 2 0), .ref (g.1 2 0)])) h_IL hn_qi
    have h_qi : (mu (mu Mw (g.1 0 0) (.inr (10, [.ref (g.1 1 0), .ref (g.1 2 0), .int (gS st 2), .int (gS st 3), .int (gS st 1), .int (gS st 0), .int 0]))) qi (.inr (1, [.int 0, .int ((-1)), .int (mcR g 2 0), .ref (g.1 2 0)]))) qi = some (.inr (1, [.int 0, .int ((-1)), .int (mcR g 2 0), .ref (g.1 2 0)])) := mu_s
    refine lv_astore_n (lv' := [(2, .ref qi), (1, .int 0), (0, .ref (g.1 0 0))]) hx hb dX7_certifiedShare_26 rfl hl (by decide) rfl (fun ls hl => ?_)
    have loop : ∀ (n k : Nat), k ≤ (nN st) → k + n = (nN st) + 1 → ∀ (Mv_loop : mw) (H : Heap) (locs : List Loc) (ls : Array Slot), (RS G st (tG g 0) Mv_loop ∧ Mv_loop qi = some (.inr (1, [.int ((nI k)), .int ((lrI k)), .int ((mcR g 2 0)), .ref (g.1 2 0)]))) → mP G.1 Mv_loop H → mI A Mv_loop → va_S A s.heap H locs → lv_has ls 4 [(0, .ref (g.1 0 0)), (1, .int (isum (fun i => crtO (itS st i 5) (itS st i 11) (gS st 1)) k)), (2, .ref qi)] → W p l e ({ frames := 3, cells := 1, slots := 4, locals := 61 }) s m ([.ref (g.1 0 0)] : List Value).toArray below meth c H locs 1 4 (MQ below (va_Qf (fun r Mw1 => ∃ x : Int32, RP G (m_certifiedShare st) g x Mw1 ∧ ((m_certifiedShare st).1 = 0 → r = FP.fdiv (FP.i2f x) (FP.i2f (nI (nN st))))) (mE G A) A) ([.ref (g.1 0 0)] : List Value).toArray s 1 4 A) (F0 m 27 ls []) := by
      intro n
      induction n with
      | zero => intro k hk1 hk2; omega
      | succ n ih_loop =>
        intro k hk1 hk2 Mv_loop H locs ls hW hP hI hS hl
        obtain ⟨hRv, h_it_qi⟩ := hW
        have h_X : Mv_loop (g.1 0 0) = some (.inr (10, [.ref (g.1 1 0), .ref (g.1 2 0), .int (gS st 2), .int (gS st 3), .int (gS st 1), .int (gS st 0), .int 0])) := hRv.1 0 0 ro0
        have h_TL : Mv_loop (g.1 1 0) = some (.inr (2, [.int (mcR g 1 0), .ref (g.1 3 0), .int ((nI (nT st)))])) := hRv.1 1 0 ro1
        have h_IL : Mv_loop (g.1 2 0) = some (.inr (2, [.int (mcR g 2 0), .ref (g.1 4 0), .int ((nI (nN st)))])) := hRv.1 2 0 ro2
        have h_iv_qi := h_it_qi
        refine lv_aload_n hx hb dX7_certifiedShare_27 rfl (lv_at hl 2 rfl) ?_
        refine mf_calli (va_runF (As := []) (rest := []) (hK.1 1 (RJx35411, TJx35411, 4) rfl).2 ⟨hx, hb, hml, hown, hts⟩ (c_Jx35411_hasNext_aae02 l G A Mv_loop  h_IL h_it_qi) (va_cwF 0 hts gX7_certifiedShare_Jx35411_hasNext_aae02_f123Jx35411 rfl rfl rfl hG.2.1.2.2.2.2.2.2.2.2.2.1 ⟨by decide, by decide, by decide +kernel⟩ ⟨Nat.le_of_ble_eq_true rfl, Nat.le_of_ble_eq_true rfl⟩) (mPreV hG hS hP hI hA (hP _ _ h_it_qi) (r := (RJx35411, TJx35411, 4)) rfl) rfl rfl hl.1 rfl (lv_room (Nat.le_of_ble_eq_true rfl)) dX7_certifiedShare_28 ⟨Nat.le_of_ble_eq_true rfl, Nat.le_of_ble_eq_true rfl⟩) hS (fun r4 Mw1 H locs hp_r4 hP hI hS => ?_)
        obtain ⟨hp_r4, hm9⟩ := hp_r4
        subst Mw1
        rcases hx_01 (c := k) (n := nN st) hk1 hnN8 hp_r4 with ⟨hr9, hkn_k⟩ | ⟨hr9, hkn_k⟩
        · subst hr9
          refine lv_if_eq (tgt := 65) hx hb dX7_certifiedShare_33 (by decide) (fun _ => ?_) (fun h9 => absurd h9 (by decide))
          refine lv_iload_n hx hb dX7_certifiedShare_65 rfl (lv_at hl 1 rfl) ?_
          refine lv_i2f hx hb dX7_certifiedShare_66 ?_
          refine lv_aload_n hx hb dX7_certifiedShare_67 rfl (lv_at hl 0 rfl) ?_
          refine m_get (ci := 10) (v := .ref (g.1 2 0)) (C := RX7) (T := TX7) (N := 7) hx hb hts i_X7 hown hK (hP _ _ h_X) rfl 1 (by decide) (hts (.fieldLink RX7 16 "MeniscusModel" "instruments" "Ljava/util/ArrayList;") (by decide +kernel)) (fun _ h9 => h9) rfl dX7_certifiedShare_68 ?_
          refine m_calli (va_runV (As := []) (rest := [.float (FP.i2f (isum (fun i => crtO (itS st i 5) (itS st i 11) (gS st 1)) k))]) ⟨hx, hb, hml, hown, hts⟩ (c_Jx4a65c_size_8abf5 l G A Mv_loop  h_IL) (cwV 0 hts gX7_certifiedShare_Jx4a65c_size_8abf5 rfl rfl rfl (by decide +kernel) ⟨Nat.le_of_ble_eq_true rfl, Nat.le_of_ble_eq_true rfl⟩) (mPreV hG hS hP hI hA (hP _ _ h_IL) (r := (RJx4a65c, TJx4a65c, 3)) rfl) rfl rfl hl.1 rfl (lv_room (Nat.le_of_ble_eq_true rfl)) dX7_certifiedShare_71 ⟨Nat.le_of_ble_eq_true rfl, Nat.le_of_ble_eq_true rfl⟩) hS (fun r5 Mw1 H locs hp_r5 hP hI hS => ?_)
          obtain ⟨hp_r5, hm9⟩ := hp_r5
          subst Mw1
          subst hp_r5
          refine lv_i2f hx hb dX7_certifiedShare_74 ?_
          refine lv_fdiv hx hb dX7_certifiedShare_75 (by rw [hkn_k]; obtain ⟨a9, ha9, ha8⟩ := ho_n st (nN st); rw [ha8]; exact share_n a9 (nN st) (Nat.le_trans ha9 hV.1.2) hV.1.2 hq9) ?_
          refine W.widen (k := 1) (n := 4) (Nat.le_of_ble_eq_true rfl) (Nat.le_of_ble_eq_true rfl) ?_
          exact W.fret (v := FP.fdiv (FP.i2f (isum (fun i => crtO (itS st i 5) (itS st i 11) (gS st 1)) k)) (FP.i2f (nI (nN st)))) hx hb hr (fun t99 ht99 hW99 => ⟨⟨FP.fdiv (FP.i2f (isum (fun i => crtO (itS st i 5) (itS st i 11) (gS st 1)) k)) (FP.i2f (nI (nN st))), Mv_loop, rfl, ⟨hoS st, RP.ok (by unfold m_certifiedShare; first | (rw [chk_p hq9]; done) | (rw [chk_p hq9]; rfl)) hRv rfl rfl, fun _ => by rw [hkn_k]; rfl⟩, by rw [ht99]; exact hP, hI⟩, hS.F ht99⟩) hS.2.2 dX7_certifiedShare_76
        · subst hr9
          have hf4 := hRv.f4 hkn_k
          have h_ID0 : Mv_loop (g.1 4 0) = some (.inl (G.2.1 5, 10, .inr (.inr (.inr (.inr (qf (nN st) (g.1 7))))))) := hRv.1 4 0 (ro4 hf4)
          have h_ID : Mv_loop (g.1 4 0) = some (.inl (G.2.1 5, 10, .inr (.inr (.inr (.inr (qf (nN st) (g.1 7))))))) := h_ID0
          refine lv_if_eq (tgt := 65) hx hb dX7_certifiedShare_33 (by decide) (fun h9 => absurd h9 (by decide)) (fun _ => ?_)
          refine lv_aload_n hx hb dX7_certifiedShare_36 rfl (lv_at hl 2 rfl) ?_
          refine mf_callq (va_runF (As := []) (rest := []) (hK.1 1 (RJx35411, TJx35411, 4) rfl).2 ⟨hx, hb, hml, hown, hts⟩ (c_Jx35411_next_0502b l G A Mv_loop  h_IL h_it_qi h_ID (g.1 7 k) hkn_k hnN8 (qf_p hkn_k)) (va_cwF 0 hts gX7_certifiedShare_Jx35411_next_0502b_f129Jx35411 rfl rfl rfl hG.2.1.2.2.2.2.2.2.2.2.2.2.1 ⟨by decide, by decide, by decide +kernel⟩ ⟨Nat.le_of_ble_eq_true rfl, Nat.le_of_ble_eq_true rfl⟩) (mPreV hG hS hP hI hA (hP _ _ h_it_qi) (r := (RJx35411, TJx35411, 4)) rfl) rfl rfl hl.1 rfl (lv_room (Nat.le_of_ble_eq_true rfl)) dX7_certifiedShare_37 ⟨Nat.le_of_ble_eq_true rfl, Nat.le_of_ble_eq_true rfl⟩) hS (fun r6 Mw1 H locs hp_r6 hP hI hS => ?_)
          obtain ⟨hp_r6, hm9⟩ := hp_r6
          subst Mw1
          subst hp_r6
          have h_X := mu_k (e := .inr (1, [.int ((nI (k + 1))), .int ((nI k)), .int ((mcR g 2 0)), .ref (g.1 2 0)])) (kd_ne h_X h_it_qi rfl) h_X
          have h_TL := mu_k (e := .inr (1, [.int ((nI (k + 1))), .int ((nI k)), .int ((mcR g 2 0)), .ref (g.1 2 0)])) (kd_ne h_TL h_it_qi rfl) h_TL
          have h_IL := mu_k (e := .inr (1, [.int ((nI (k + 1))), .int ((nI k)), .int ((mcR g 2 0)), .ref (g.1 2 0)])) (kd_ne h_IL h_it_qi rfl) h_IL
          have h_ID := mu_k (e := .inr (1, [.int ((nI (k + 1))), .int ((nI k)), .int ((mcR g 2 0)), .ref (g.1 2 0)])) (kd_ne h_ID h_it_qi rfl) h_ID
          have h_it_qi : (mu Mv_loop qi (.inr (1, [.int ((nI (k + 1))), .int ((nI k)), .int ((mcR g 2 0)), .ref (g.1 2 0)]))) qi = some (.inr (1, [.int ((nI (k + 1))), .int ((nI k)), .int ((mcR g 2 0)), .ref (g.1 2 0)])) := mu_s
          have h_I0 : Mv_loop (g.1 7 k) = some (.inr (8, [.ref (g.1 5 (tbN st k)), .int (itS st k 1), .int (sof (itS st k 2)), .int (itS st k 3), .int (itS st k 7), .int (itS st k 6), .int (itS st k 5), .int (itS st k 12), .int (itS st k 13), .int (itS st k 14), .int (itS st k 15), .int (itS st k 8), .int (itS st k 9), .int (itS st k 10), .int (ceR g k), .ref (g.1 8 k), .ref (g.1 9 k)])) := hRv.1 7 _ (ro7 hkn_k)
          have h_I : (mu Mv_loop qi (.inr (1, [.int ((nI (k + 1))), .int ((nI k)), .int ((mcR g 2 0)), .ref (g.1 2 0)]))) (g.1 7 k) = some (.inr (8, [.ref (g.1 5 (tbN st k)), .int (itS st k 1), .int (sof (itS st k 2)), .int (itS st k 3), .int (itS st k 7), .int (itS st k 6), .int (itS st k 5), .int (itS st k 12), .int (itS st k 13), .int (itS st k 14), .int (itS st k 15), .int (itS st k 8), .int (itS st k 9), .int (itS st k 10), .int (ceR g k), .ref (g.1 8 k), .ref (g.1 9 k)])) := ((mu_n (kd_ne h_I0 h_iv_qi rfl)).trans (rfl)).trans h_I0
          refine va_castE hx hb hown (hts (.classLink RX7 79 RX5) (by decide +kernel)) (va_recv hK (va_at.one (hP _ _ h_I)) (q0 := 0) (q := (RX5, TX5, 17)) rfl rfl) dX7_certifiedShare_42 ?_
          refine lv_astore_n (lv' := [(3, .ref (g.1 7 k)), (0, .ref (g.1 0 0)), (1, .int (isum (fun i => crtO (itS st i 5) (itS st i 11) (gS st 1)) k)), (2, .ref qi)]) hx hb dX7_certifiedShare_45 rfl hl (by decide) rfl (fun ls hl => ?_)
          refine lv_iload_n hx hb dX7_certifiedShare_46 rfl (lv_at hl 2 rfl) ?_
          refine lv_aload_n hx hb dX7_certifiedShare_47 rfl (lv_at hl 1 rfl) ?_
          refine lv_aload_n hx hb dX7_certifiedShare_48 rfl (lv_at hl 0 rfl) ?_
          refine m_calli (va_runV (As := [.ref (g.1 7 k)]) (rest := [.int (isum (fun i => crtO (itS st i 5) (itS st i 11) (gS st 1)) k)]) ⟨hx, hb, hml, hown, hts⟩ (c_X7_holds l G A (mu Mv_loop qi (.inr (1, [.int ((nI (k + 1))), .int ((nI k)), .int ((mcR g 2 0)), .ref (g.1 2 0)])))  h_X h_I) (cwV 1 hts gX7_certifiedShare_X7_holds rfl rfl rfl (by decide +kernel) ⟨Nat.le_of_ble_eq_true rfl, Nat.le_of_ble_eq_true rfl⟩) (mPreV hG hS hP hI hA (hP _ _ h_X) (r := (RX7, TX7, 7)) rfl) rfl rfl hl.1 rfl (lv_room (Nat.le_of_ble_eq_true rfl)) dX7_certifiedShare_49 ⟨Nat.le_of_ble_eq_true rfl, Nat.le_of_ble_eq_true rfl⟩) hS (fun r7 Mw1 H locs hp_r7 hP hI hS => ?_)
          obtain ⟨hb9, hm9⟩ := hp_r7
          subst Mw1
          rcases hb9 with ⟨hr9, hq_r7⟩ | ⟨hr9, hq_r7⟩
          · subst hr9
            refine lv_if_eq (tgt := 59) hx hb dX7_certifiedShare_52 (by decide) (fun _ => ?_) (fun h9 => absurd h9 (by decide))
            refine lv_iconst (v := 0) hx hb dX7_certifiedShare_59 (by decide) ?_
            refine lv_iadd hx hb dX7_certifiedShare_60 ?_
            refine lv_istore_n (lv' := [(1, .int ((isum (fun i => crtO (itS st i 5) (itS st i 11) (gS st 1)) k) + 0)), (3, .ref (g.1 7 k)), (0, .ref (g.1 0 0)), (2, .ref qi)]) hx hb dX7_certifiedShare_61 rfl hl (by decide) rfl (fun ls hl => ?_)
            refine lv_goto (tgt := 27) hx hb dX7_certifiedShare_62 (by decide) ?_
            have e_1 : (isum (fun i => crtO (itS st i 5) (itS st i 11) (gS st 1)) k) + 0 = isum (fun i => crtO (itS st i 5) (itS st i 11) (gS st 1)) (k + 1) := (congrArg (fun z => isum (fun i => crtO (itS st i 5) (itS st i 11) (gS st 1)) k + z) (show crtO (itS st k 5) (itS st k 11) (gS st 1) = 0 from crt_0 (hR.2.2.2.2 _ hkn_k).2.1 hq_r7)).symm
            rw [e_1] at hl
            exact ih_loop (k + 1) (by omega) (by omega) _ H locs ls (⟨hRv.fr (fun x9 e9 hx9 hk8 => ((mu_n (ne_it hx9 h_iv_qi hk8 rfl)).trans (rfl)).trans hx9), h_it_qi⟩) hP hI hS (lv_sub hl [2, 0, 3] rfl)
          · subst hr9
            refine lv_if_eq (tgt := 59) hx hb dX7_certifiedShare_52 (by decide) (fun h9 => absurd h9 (by decide)) (fun _ => ?_)
            refine lv_iconst (v := 1) hx hb dX7_certifiedShare_55 (by decide) ?_
            refine lv_goto (tgt := 60) hx hb dX7_certifiedShare_56 (by decide) ?_
            refine lv_iadd hx hb dX7_certifiedShare_60 ?_
            refine lv_istore_n (lv' := [(1, .int ((isum (fun i => crtO (itS st i 5) (itS st i 11) (gS st 1)) k) + 1)), (3, .ref (g.1 7 k)), (0, .ref (g.1 0 0)), (2, .ref qi)]) hx hb dX7_certifiedShare_61 rfl hl (by decide) rfl (fun ls hl => ?_)
            refine lv_goto (tgt := 27) hx hb dX7_certifiedShare_62 (by decide) ?_
            have e_1 : (isum (fun i => crtO (itS st i 5) (itS st i 11) (gS st 1)) k) + 1 = isum (fun i => crtO (itS st i 5) (itS st i 11) (gS st 1)) (k + 1) := (congrArg (fun z => isum (fun i => crtO (itS st i 5) (itS st i 11) (gS st 1)) k + z) (show crtO (itS st k 5) (itS st k 11) (gS st 1) = 1 from (crt_g (hR.2.2.2.2 _ hkn_k).2.1).mp hq_r7)).symm
            rw [e_1] at hl
            exact ih_loop (k + 1) (by omega) (by omega) _ H locs ls (⟨hRv.fr (fun x9 e9 hx9 hk8 => ((mu_n (ne_it hx9 h_iv_qi hk8 rfl)).trans (rfl)).trans hx9), h_it_qi⟩) hP hI hS (lv_sub hl [2, 0, 3] rfl)
    exact loop ((nN st) + 1 - 0) 0 (by omega) (by omega) _ _ _ _ (⟨hR.th 0 h_X (fun x9 e9 hx9 h0 => ((mu_n (ne_none hx9 (mu_none hn_qi).1)).trans ((mu_n h0).trans (rfl))).trans hx9), by exact h_qi⟩) hP hI hS (lv_sub hl [2, 1, 0] rfl)
  · subst hr9
    refine lv_iconst (v := 1) hx hb dX7_certifiedShare_8 (by decide) ?_
    refine m_calli (va_runV (As := [.int 1, .int 1]) (rest := []) ⟨hx, hb, hml, hown, hts⟩ (c_X7_isThrown1 l G A Mw  1 h_X) (cwV 2 hts gX7_certifiedShare_X7_isThrown rfl rfl rfl (by decide +kernel) ⟨Nat.le_of_ble_eq_true rfl, Nat.le_of_ble_eq_true rfl⟩) (mPreV hG hS hP hI hA (hP _ _ h_X) (r := (RX7, TX7, 7)) rfl) rfl rfl hl.1 rfl (lv_room (Nat.le_of_ble_eq_true rfl)) dX7_certifiedShare_9 ⟨Nat.le_of_ble_eq_true rfl, Nat.le_of_ble_eq_true rfl⟩) hS (fun r8 Mw1 H locs hp_r8 hP hI hS => ?_)
    obtain ⟨hp_r8, hm9⟩ := hp_r8
    subst Mw1
    subst hp_r8
    have h_TL := mu_k (e := .inr (10, [.ref (g.1 1 0), .ref (g.1 2 0), .int (gS st 2), .int (gS st 3), .int (gS st 1), .int (gS st 0), .int 1])) (kd_ne h_TL h_X rfl) h_TL
    have h_IL := mu_k (e := .inr (10, [.ref (g.1 1 0), .ref (g.1 2 0), .int (gS st 2), .int (gS st 3), .int (gS st 1), .int (gS st 0), .int 1])) (kd_ne h_IL h_X rfl) h_IL
    have h_X : (mu Mw (g.1 0 0) (.inr (10, [.ref (g.1 1 0), .ref (g.1 2 0), .int (gS st 2), .int (gS st 3), .int (gS st 1), .int (gS st 0), .int 1]))) (g.1 0 0) = some (.inr (10, [.ref (g.1 1 0), .ref (g.1 2 0), .int (gS st 2), .int (gS st 3), .int (gS st 1), .int (gS st 0), .int 1])) := mu_s
    refine lv_if_eq (tgt := 17) hx hb dX7_certifiedShare_12 (by decide) (fun h9 => absurd h9 (by decide)) (fun _ => ?_)
    refine lv_fconst0 hx hb dX7_certifiedShare_15 ?_
    have hop9 : m_certifiedShare st = (1, 0, st) := by unfold m_certifiedShare; first | (rw [chk_n (fun q9 => q9 hq9)]; done) | (rw [chk_n (fun q9 => q9 hq9)]; rfl)
    refine W.widen (k := 1) (n := 4) (Nat.le_of_ble_eq_true rfl) (Nat.le_of_ble_eq_true rfl) ?_
    exact W.fret (v := FP.fconst0) hx hb hr (fun t99 ht99 hW99 => ⟨⟨FP.fconst0, (mu Mw (g.1 0 0) (.inr (10, [.ref (g.1 1 0), .ref (g.1 2 0), .int (gS st 2), .int (gS st 3), .int (gS st 1), .int (gS st 0), .int 1]))), rfl, ⟨0, RP.no (k := 1) hop9 (by decide) (hR.th 1 h_X (fun x9 e9 hx9 h0 => ((mu_n h0).trans (rfl)).trans hx9)) rfl rfl, fun q9 => absurd (show (1 : Nat) = 0 by rw [hop9] at q9; exact q9) (by decide)⟩, by rw [ht99]; exact hP, hI⟩, hS.F ht99⟩) hS.2.2 dX7_certifiedShare_16
