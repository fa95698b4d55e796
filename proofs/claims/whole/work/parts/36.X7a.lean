theorem vp_19 {p : Int32} (h : rng p 0 19) : vp_in p 20 := by
  have e := nI_cl h.1
  rw [e]
  exact vp_in_nI (rg19 h) (by omega)
theorem brO_19 (bf : Nat → Int32) {p : Int32} (h : rng p 0 19) : brO bf p = bf p.toNatClampNeg := by
  unfold brO
  rw [if_neg h.1, if_neg (i_nle (Int32.lt_of_le_of_lt h.2 (by decide)))]
set_option maxHeartbeats 4000000 in
set_option maxRecDepth 100000 in
theorem c_X7_bore (l : Launch) (G : mg) (A : Nat → Prop) (Mw : mw) (st : St) (g : gR) (p0 p1 : Int32) (hR : RS G st g Mw) (hV : Inv st) : Met l yX7_bore wsX7_bore ({ frames := 3, cells := 0, slots := 0, locals := 64 }) (va_Pc [.ref (g.1 0 0), .int p0, .int p1] (mB G A Mw)) (va_Qi (fun r Mw1 => RP G (m_bore st p0 p1) g r Mw1) (mE G A) A) 0 0 A := by
  refine Met.ofW (cc := cX7_bore) (maxL := 3) (ret := (some .int)) (by decide) rfl ?_
  intro p e s m args below meth c s₁ B hml hv
  obtain ⟨rfl, hG, hP, hI, hA⟩ := hv
  have hx := B.exec
  have hb := B.bytes
  have hr := B.returns
  have hts := atoms_spec (ws := wsX7_bore) B.pre
  have hown : s.vm.findClass RX7 = some m.cls := findClass_of_methodNamed B.named
  have hlocks := B.notSynchronized
  have hK := hG.K
  have i_X6 : ∀ w ∈ wsX60, w ∈ wsX7_bore := by decide +kernel
  have i_X7 : ∀ w ∈ wsX70, w ∈ wsX7_bore := by decide +kernel
  have hS : va_S A s.heap s.heap [] := va_S.rf
  have hl := lv_entry ([.ref (g.1 0 0), .int p0, .int p1]) (n := 3) (Nat.le_of_ble_eq_true rfl)
  rw [lg_entry_eq]
  generalize (lg_sl ([.ref (g.1 0 0), .int p0, .int p1]) ++ List.replicate (3 - (lg_sl ([.ref (g.1 0 0), .int p0, .int p1])).length) Slot.unset).toArray = ls at hl ⊢
  have hl : lv_has ls 3 [(0, .ref (g.1 0 0)), (1, .int p0), (2, .int p1)] := hl
  have hP : mP G.1 Mw s.heap := hP
  have h_X : Mw (g.1 0 0) = some (.inr (10, [.ref (g.1 1 0), .ref (g.1 2 0), .int (gS st 2), .int (gS st 3), .int (gS st 1), .int (gS st 0), .int (thR g)])) := hR.1 0 0 ro0
  have h_TL : Mw (g.1 1 0) = some (.inr (2, [.int (mcR g 1 0), .ref (g.1 3 0), .int ((nI (nT st)))])) := hR.1 1 0 ro1
  have h_IL : Mw (g.1 2 0) = some (.inr (2, [.int (mcR g 2 0), .ref (g.1 4 0), .int ((nI (nN st)))])) := hR.1 2 0 ro2
  have hti9 := hR.ne ro1 ro2 (by omega)
  have hnT8 := hV.1.1
  have hnN8 := Nat.le_trans hV.1.2 (show 6 ≤ 8 by decide)
  refine lv_aload_n hx hb dX7_bore_0 rfl (lv_at hl 0 rfl) ?_
  refine lv_aload_n hx hb dX7_bore_1 rfl (lv_at hl 0 rfl) ?_
  refine lv_iload_n hx hb dX7_bore_2 rfl (lv_at hl 1 rfl) ?_
  refine m_calli (va_runV (As := [.int p0]) (rest := [.ref (g.1 0 0)]) ⟨hx, hb, hml, hown, hts⟩ (c_X7_isNoTube l G A Mw  p0 h_X h_TL hnT8) (cwV 1 hts gX7_bore_X7_isNoTube rfl rfl rfl (by decide +kernel) ⟨Nat.le_of_ble_eq_true rfl, Nat.le_of_ble_eq_true rfl⟩) (mPreV hG hS hP hI hA (hP _ _ h_X) (r := (RX7, TX7, 7)) rfl) rfl rfl hl.1 rfl (lv_room (Nat.le_of_ble_eq_true rfl)) dX7_bore_3 ⟨Nat.le_of_ble_eq_true rfl, Nat.le_of_ble_eq_true rfl⟩) hS (fun r1 Mw1 H locs hp_r1 hP hI hS => ?_)
  obtain ⟨hb9, hm9⟩ := hp_r1
  subst Mw1
  rcases hb9 with ⟨hr9, hq_r1⟩ | ⟨hr9, hq_r1⟩
  · subst hr9
    have ht9 := hq_r1
    have e_p0 : p0 = nI (ix p0) := nI_cl ht9.1
    rw [e_p0] at hl
    have hf3 := hR.f3 ht9.2
    have h_TD : Mw (g.1 3 0) = some (.inl (G.2.1 5, 10, .inr (.inr (.inr (.inr (qf (nT st) (g.1 5))))))) := hR.1 3 0 (ro3 hf3)
    have h_T : Mw (g.1 5 (ix p0)) = some (.inr (9, [.ref (g.1 6 (ix p0)), .int (usS st (ix p0))])) := hR.1 5 _ (ro5 ht9.2)
    have h_B : Mw (g.1 6 (ix p0)) = some (.inl (G.2.1 0, 20, .inl (boS st (ix p0)))) := hR.1 6 _ (ro6 ht9.2)
    refine lv_iconst (v := 1) hx hb dX7_bore_6 (by decide) ?_
    refine m_calli (va_runV (As := [.int 0, .int 1]) (rest := []) ⟨hx, hb, hml, hown, hts⟩ (c_X7_isThrown0 l G A Mw  1 h_X) (cwV 2 hts gX7_bore_X7_isThrown rfl rfl rfl (by decide +kernel) ⟨Nat.le_of_ble_eq_true rfl, Nat.le_of_ble_eq_true rfl⟩) (mPreV hG hS hP hI hA (hP _ _ h_X) (r := (RX7, TX7, 7)) rfl) rfl rfl hl.1 rfl (lv_room (Nat.le_of_ble_eq_true rfl)) dX7_bore_7 ⟨Nat.le_of_ble_eq_true rfl, Nat.le_of_ble_eq_true rfl⟩) hS (fun r2 Mw1 H locs hp_r2 hP hI hS => ?_)
    obtain ⟨hp_r2, hm9⟩ := hp_r2
    subst Mw1
    subst hp_r2
    have h_TL := mu_k (e := .inr (10, [.ref (g.1 1 0), .ref (g.1 2 0), .int (gS st 2), .int (gS st 3), .int (gS st 1), .int (gS st 0), .int 0])) (kd_ne h_TL h_X rfl) h_TL
    have h_IL := mu_k (e := .inr (10, [.ref (g.1 1 0), .ref (g.1 2 0), .int (gS st 2), .int (gS st 3), .int (gS st 1), .int (gS st 0), .int 0])) (kd_ne h_IL h_X rfl) h_IL
    have h_TD := mu_k (e := .inr (10, [.ref (g.1 1 0), .ref (g.1 2 0), .int (gS st 2), .int (gS st 3), .int (gS st 1), .int (gS st 0), .int 0])) (kd_ne h_TD h_X rfl) h_TD
    have h_T := mu_k (e := .inr (10, [.ref (g.1 1 0), .ref (g.1 2 0), .int (gS st 2), .int (gS st 3), .int (gS st 1), .int (gS st 0), .int 0])) (kd_ne h_T h_X rfl) h_T
    have h_B := mu_k (e := .inr (10, [.ref (g.1 1 0), .ref (g.1 2 0), .int (gS st 2), .int (gS st 3), .int (gS st 1), .int (gS st 0), .int 0])) (kd_ne h_B h_X rfl) h_B
    have h_X : (mu Mw (g.1 0 0) (.inr (10, [.ref (g.1 1 0), .ref (g.1 2 0), .int (gS st 2), .int (gS st 3), .int (gS st 1), .int (gS st 0), .int 0]))) (g.1 0 0) = some (.inr (10, [.ref (g.1 1 0), .ref (g.1 2 0), .int (gS st 2), .int (gS st 3), .int (gS st 1), .int (gS st 0), .int 0])) := mu_s
    refine lv_if_ne (tgt := 36) hx hb dX7_bore_10 (by decide) (fun h9 => absurd h9 (by decide)) (fun _ => ?_)
    refine lv_aload_n hx hb dX7_bore_13 rfl (lv_at hl 0 rfl) ?_
    refine lv_iload_n hx hb dX7_bore_14 rfl (lv_at hl 2 rfl) ?_
    refine lv_iconst (v := 0) hx hb dX7_bore_15 (by decide) ?_
    refine lv_bipush (v := (19)) hx hb dX7_bore_16 (by decide) ?_
    refine m_calli (va_runS (As := [.int p1, .int 0, .int 19]) (rest := [.ref (g.1 0 0)]) ⟨hx, hb, hml, hown, hts⟩ (c_X7_isIn l G A (mu Mw (g.1 0 0) (.inr (10, [.ref (g.1 1 0), .ref (g.1 2 0), .int (gS st 2), .int (gS st 3), .int (gS st 1), .int (gS st 0), .int 0])))  p1 0 19) (va_cwS 3 hts gX7_bore_X7_isIn rfl rfl rfl (by decide +kernel) ⟨Nat.le_of_ble_eq_true rfl, Nat.le_of_ble_eq_true rfl⟩) (mPreS hG hS hP hI hA) rfl rfl hl.1 rfl (lv_room (Nat.le_of_ble_eq_true rfl)) dX7_bore_18 ⟨Nat.le_of_ble_eq_true rfl, Nat.le_of_ble_eq_true rfl⟩) hS (fun r3 Mw1 H locs hp_r3 hP hI hS => ?_)
    obtain ⟨hb9, hm9⟩ := hp_r3
    subst Mw1
    rcases hb9 with ⟨hr9, hq_r3⟩ | ⟨hr9, hq_r3⟩
    · subst hr9
      refine lv_if_ne (tgt := 28) hx hb dX7_bore_21 (by decide) (fun h9 => absurd h9 (by decide)) (fun _ => ?_)
      refine lv_iconst (v := 1) hx hb dX7_bore_24 (by decide) ?_
      refine lv_goto (tgt := 29) hx hb dX7_bore_25 (by decide) ?_
      refine lv_iconst (v := 2) hx hb dX7_bore_29 (by decide) ?_
      refine m_calli (va_runV (As := [.int 1, .int 2]) (rest := []) ⟨hx, hb, hml, hown, hts⟩ (c_X7_isThrown1 l G A (mu Mw (g.1 0 0) (.inr (10, [.ref (g.1 1 0), .ref (g.1 2 0), .int (gS st 2), .int (gS st 3), .int (gS st 1), .int (gS st 0), .int 0])))  2 h_X) (cwV 2 hts gX7_bore_X7_isThrown rfl rfl rfl (by decide +kernel) ⟨Nat.le_of_ble_eq_true rfl, Nat.le_of_ble_eq_true rfl⟩) (mPreV hG hS hP hI hA (hP _ _ h_X) (r := (RX7, TX7, 7)) rfl) rfl rfl hl.1 rfl (lv_room (Nat.le_of_ble_eq_true rfl)) dX7_bore_30 ⟨Nat.le_of_ble_eq_true rfl, Nat.le_of_ble_eq_true rfl⟩) hS (fun r4 Mw1 H locs hp_r4 hP hI hS => ?_)
      obtain ⟨hp_r4, hm9⟩ := hp_r4
      subst Mw1
      subst hp_r4
      have h_TL := mu_k (e := .inr (10, [.ref (g.1 1 0), .ref (g.1 2 0), .int (gS st 2), .int (gS st 3), .int (gS st 1), .int (gS st 0), .int 2])) (kd_ne h_TL h_X rfl) h_TL
      have h_IL := mu_k (e := .inr (10, [.ref (g.1 1 0), .ref (g.1 2 0), .int (gS st 2), .int (gS st 3), .int (gS st 1), .int (gS st 0), .int 2])) (kd_ne h_IL h_X rfl) h_IL
      have h_TD := mu_k (e := .inr (10, [.ref (g.1 1 0), .ref (g.1 2 0), .int (gS st 2), .int (gS st 3), .int (gS st 1), .int (gS st 0), .int 2])) (kd_ne h_TD h_X rfl) h_TD
      have h_T := mu_k (e := .inr (10, [.ref (g.1 1 0), .ref (g.1 2 0), .int (gS st 2), .int (gS st 3), .int (gS st 1), .int (gS st 0), .int 2])) (kd_ne h_T h_X rfl) h_T
      have h_B := mu_k (e := .inr (10, [.ref (g.1 1 0), .ref (g.1 2 0), .int (gS st 2), .int (gS st 3), .int (gS st 1), .int (gS st 0), .int 2])) (kd_ne h_B h_X rfl) h_B
      have h_X : (mu (mu Mw (g.1 0 0) (.inr (10, [.ref (g.1 1 0), .ref (g.1 2 0), .int (gS st 2), .int (gS st 3), .int (gS st 1), .int (gS st 0), .int 0]))) (g.1 0 0) (.inr (10, [.ref (g.1 1 0), .ref (g.1 2 0), .int (gS st 2), .int (gS st 3), .int (gS st 1), .int (gS st 0), .int 2]))) (g.1 0 0) = some (.inr (10, [.ref (g.1 1 0), .ref (g.1 2 0), .int (gS st 2), .int (gS st 3), .int (gS st 1), .int (gS st 0), .int 2])) := mu_s
      refine lv_if_eq (tgt := 40) hx hb dX7_bore_33 (by decide) (fun h9 => absurd h9 (by decide)) (fun _ => ?_)
      refine lv_iconst (v := 0) hx hb dX7_bore_36 (by decide) ?_
      refine lv_goto (tgt := 56) hx hb dX7_bore_37 (by decide) ?_
      refine W.widen (k := 0) (n := 0) (Nat.le_of_ble_eq_true rfl) (Nat.le_of_ble_eq_true rfl) ?_
      exact W.iret (v := 0) hx hb hr (fun t99 ht99 hW99 => ⟨⟨0, (mu (mu Mw (g.1 0 0) (.inr (10, [.ref (g.1 1 0), .ref (g.1 2 0), .int (gS st 2), .int (gS st 3), .int (gS st 1), .int (gS st 0), .int 0]))) (g.1 0 0) (.inr (10, [.ref (g.1 1 0), .ref (g.1 2 0), .int (gS st 2), .int (gS st 3), .int (gS st 1), .int (gS st 0), .int 2]))), rfl, RP.no (k := 2) (by unfold m_bore; first | (rw [chk_p ht9, chk_n hq_r3]; done) | (rw [chk_p ht9, chk_n hq_r3]; rfl)) (by decide) (hR.th 2 h_X (fun x9 e9 hx9 h0 => ((mu_n h0).trans ((mu_n h0).trans (rfl))).trans hx9)) rfl rfl, by rw [ht99]; exact hP, hI⟩, hS.F ht99⟩) hS.2.2 dX7_bore_56
    · subst hr9
      refine lv_if_ne (tgt := 28) hx hb dX7_bore_21 (by decide) (fun _ => ?_) (fun h9 => absurd h9 (by decide))
      refine lv_iconst (v := 0) hx hb dX7_bore_28 (by decide) ?_
      refine lv_iconst (v := 2) hx hb dX7_bore_29 (by decide) ?_
      refine m_calli (va_runV (As := [.int 0, .int 2]) (rest := []) ⟨hx, hb, hml, hown, hts⟩ (c_X7_isThrown0 l G A (mu Mw (g.1 0 0) (.inr (10, [.ref (g.1 1 0), .ref (g.1 2 0), .int (gS st 2), .int (gS st 3), .int (gS st 1), .int (gS st 0), .int 0])))  2 h_X) (cwV 2 hts gX7_bore_X7_isThrown rfl rfl rfl (by decide +kernel) ⟨Nat.le_of_ble_eq_true rfl, Nat.le_of_ble_eq_true rfl⟩) (mPreV hG hS hP hI hA (hP _ _ h_X) (r := (RX7, TX7, 7)) rfl) rfl rfl hl.1 rfl (lv_room (Nat.le_of_ble_eq_true rfl)) dX7_bore_30 ⟨Nat.le_of_ble_eq_true rfl, Nat.le_of_ble_eq_true rfl⟩) hS (fun r5 Mw1 H locs hp_r5 hP hI hS => ?_)
      obtain ⟨hp_r5, hm9⟩ := hp_r5
      subst Mw1
      subst hp_r5
      have h_TL := mu_k (e := .inr (10, [.ref (g.1 1 0), .ref (g.1 2 0), .int (gS st 2), .int (gS st 3), .int (gS st 1), .int (gS st 0), .int 0])) (kd_ne h_TL h_X rfl) h_TL
      have h_IL := mu_k (e := .inr (10, [.ref (g.1 1 0), .ref (g.1 2 0), .int (gS st 2), .int (gS st 3), .int (gS st 1), .int (gS st 0), .int 0])) (kd_ne h_IL h_X rfl) h_IL
      have h_TD := mu_k (e := .inr (10, [.ref (g.1 1 0), .ref (g.1 2 0), .int (gS st 2), .int (gS st 3), .int (gS st 1), .int (gS st 0), .int 0])) (kd_ne h_TD h_X rfl) h_TD
      have h_T := mu_k (e := .inr (10, [.ref (g.1 1 0), .ref (g.1 2 0), .int (gS st 2), .int (gS st 3), .int (gS st 1), .int (gS st 0), .int 0])) (kd_ne h_T h_X rfl) h_T
      have h_B := mu_k (e := .inr (10, [.ref (g.1 1 0), .ref (g.1 2 0), .int (gS st 2), .int (gS st 3), .int (gS st 1), .int (gS st 0), .int 0])) (kd_ne h_B h_X rfl) h_B
      have h_X : (mu (mu Mw (g.1 0 0) (.inr (10, [.ref (g.1 1 0), .ref (g.1 2 0), .int (gS st 2), .int (gS st 3), .int (gS st 1), .int (gS st 0), .int 0]))) (g.1 0 0) (.inr (10, [.ref (g.1 1 0), .ref (g.1 2 0), .int (gS st 2), .int (gS st 3), .int (gS st 1), .int (gS st 0), .int 0]))) (g.1 0 0) = some (.inr (10, [.ref (g.1 1 0), .ref (g.1 2 0), .int (gS st 2), .int (gS st 3), .int (gS st 1), .int (gS st 0), .int 0])) := mu_s
      refine lv_if_eq (tgt := 40) hx hb dX7_bore_33 (by decide) (fun _ => ?_) (fun h9 => absurd h9 (by decide))
      refine lv_aload_n hx hb dX7_bore_40 rfl (lv_at hl 0 rfl) ?_
      refine m_get (ci := 10) (v := .ref (g.1 1 0)) (C := RX7) (T := TX7) (N := 7) hx hb hts i_X7 hown hK (hP _ _ h_X) rfl 0 (by decide) (hts (.fieldLink RX7 10 "MeniscusModel" "tubes" "Ljava/util/ArrayList;") (by decide +kernel)) (fun _ h9 => h9) rfl dX7_bore_41 ?_
      refine lv_iload_n hx hb dX7_bore_44 rfl (lv_at hl 1 rfl) ?_
      refine m_callq (va_runV (As := [.int (nI (ix p0))]) (rest := []) ⟨hx, hb, hml, hown, hts⟩ (c_Jx4a65c_get_915e3 l G A (mu (mu Mw (g.1 0 0) (.inr (10, [.ref (g.1 1 0), .ref (g.1 2 0), .int (gS st 2), .int (gS st 3), .int (gS st 1), .int (gS st 0), .int 0]))) (g.1 0 0) (.inr (10, [.ref (g.1 1 0), .ref (g.1 2 0), .int (gS st 2), .int (gS st 3), .int (gS st 1), .int (gS st 0), .int 0])))  h_TL h_TD (ix p0) (g.1 5 (ix p0)) ht9.2 hnT8 (qf_p ht9.2)) (cwV 1 hts gX7_bore_Jx4a65c_get_915e3 rfl rfl rfl (by decide +kernel) ⟨Nat.le_of_ble_eq_true rfl, Nat.le_of_ble_eq_true rfl⟩) (mPreV hG hS hP hI hA (hP _ _ h_TL) (r := (RJx4a65c, TJx4a65c, 3)) rfl) rfl rfl hl.1 rfl (lv_room (Nat.le_of_ble_eq_true rfl)) dX7_bore_45 ⟨Nat.le_of_ble_eq_true rfl, Nat.le_of_ble_eq_true rfl⟩) hS (fun r6 Mw1 H locs hp_r6 hP hI hS => ?_)
      obtain ⟨hp_r6, hm9⟩ := hp_r6
      subst Mw1
      subst hp_r6
      refine va_castE hx hb hown (hts (.classLink RX7 38 RX6) (by decide +kernel)) (va_recv hK (va_at.one (hP _ _ h_T)) (q0 := 0) (q := (RX6, TX6, 2)) rfl rfl) dX7_bore_48 ?_
      refine m_getN (ci := 9) (v := .ref (g.1 6 (ix p0))) (C := RX6) (T := TX6) (N := 2) hx hb hts i_X6 hown hK (hP _ _ h_T) rfl 0 (by decide) (va_Nw.use rfl (hG.2.1.2.1 ("MeniscusModel", 41, "MeniscusModel$Tube", "bores", "[I", "MeniscusModel") (by decide +kernel))) (fun _ h9 => h9) rfl dX7_bore_51 ?_
      refine lv_iload_n hx hb dX7_bore_54 rfl (lv_at hl 2 rfl) ?_
      refine m_iald hx hb hK 0 (hP _ _ h_B) rfl (vp_19 hq_r3) dX7_bore_55 ?_
      refine W.widen (k := 0) (n := 0) (Nat.le_of_ble_eq_true rfl) (Nat.le_of_ble_eq_true rfl) ?_
      exact W.iret (v := (boS st (ix p0)) p1.toNatClampNeg) hx hb hr (fun t99 ht99 hW99 => ⟨⟨(boS st (ix p0)) p1.toNatClampNeg, (mu (mu Mw (g.1 0 0) (.inr (10, [.ref (g.1 1 0), .ref (g.1 2 0), .int (gS st 2), .int (gS st 3), .int (gS st 1), .int (gS st 0), .int 0]))) (g.1 0 0) (.inr (10, [.ref (g.1 1 0), .ref (g.1 2 0), .int (gS st 2), .int (gS st 3), .int (gS st 1), .int (gS st 0), .int 0]))), rfl, RP.ok (by unfold m_bore; first | (rw [chk_p ht9, chk_p hq_r3, brO_19 _ hq_r3]; done) | (rw [chk_p ht9, chk_p hq_r3, brO_19 _ hq_r3]; rfl)) (hR.th 0 h_X (fun x9 e9 hx9 h0 => ((mu_n h0).trans ((mu_n h0).trans (rfl))).trans hx9)) rfl rfl, by rw [ht99]; exact hP, hI⟩, hS.F ht99⟩) hS.2.2 dX7_bore_56
  · subst hr9
    refine lv_iconst (v := 1) hx hb dX7_bore_6 (by decide) ?_
    refine m_calli (va_runV (As := [.int 1, .int 1]) (rest := []) ⟨hx, hb, hml, hown, hts⟩ (c_X7_isThrown1 l G A Mw  1 h_X) (cwV 2 hts gX7_bore_X7_isThrown rfl rfl rfl (by decide +kernel) ⟨Nat.le_of_ble_eq_true rfl, Nat.le_of_ble_eq_true rfl⟩) (mPreV hG hS hP hI hA (hP _ _ h_X) (r := (RX7, TX7, 7)) rfl) rfl rfl hl.1 rfl (lv_room (Nat.le_of_ble_eq_true rfl)) dX7_bore_7 ⟨Nat.le_of_ble_eq_true rfl, Nat.le_of_ble_eq_true rfl⟩) hS (fun r7 Mw1 H locs hp_r7 hP hI hS => ?_)
    obtain ⟨hp_r7, hm9⟩ := hp_r7
    subst Mw1
    subst hp_r7
    have h_TL := mu_k (e := .inr (10, [.ref (g.1 1 0), .ref (g.1 2 0), .int (gS st 2), .int (gS st 3), .int (gS st 1), .int (gS st 0), .int 1])) (kd_ne h_TL h_X rfl) h_TL
    have h_IL := mu_k (e := .inr (10, [.ref (g.1 1 0), .ref (g.1 2 0), .int (gS st 2), .int (gS st 3), .int (gS st 1), .int (gS st 0), .int 1])) (kd_ne h_IL h_X rfl) h_IL
    have h_X : (mu Mw (g.1 0 0) (.inr (10, [.ref (g.1 1 0), .ref (g.1 2 0), .int (gS st 2), .int (gS st 3), .int (gS st 1), .int (gS st 0), .int 1]))) (g.1 0 0) = some (.inr (10, [.ref (g.1 1 0), .ref (g.1 2 0), .int (gS st 2), .int (gS st 3), .int (gS st 1), .int (gS st 0), .int 1])) := mu_s
    refine lv_if_ne (tgt := 36) hx hb dX7_bore_10 (by decide) (fun _ => ?_) (fun h9 => absurd h9 (by decide))
    refine lv_iconst (v := 0) hx hb dX7_bore_36 (by decide) ?_
    refine lv_goto (tgt := 56) hx hb dX7_bore_37 (by decide) ?_
    refine W.widen (k := 0) (n := 0) (Nat.le_of_ble_eq_true rfl) (Nat.le_of_ble_eq_true rfl) ?_
    exact W.iret (v := 0) hx hb hr (fun t99 ht99 hW99 => ⟨⟨0, (mu Mw (g.1 0 0) (.inr (10, [.ref (g.1 1 0), .ref (g.1 2 0), .int (gS st 2), .int (gS st 3), .int (gS st 1), .int (gS st 0), .int 1]))), rfl, RP.no (k := 1) (by unfold m_bore; first | (rw [chk_n hq_r1]; done) | (rw [chk_n hq_r1]; rfl)) (by decide) (hR.th 1 h_X (fun x9 e9 hx9 h0 => ((mu_n h0).trans (rfl)).trans hx9)) rfl rfl, by rw [ht99]; exact hP, hI⟩, hS.F ht99⟩) hS.2.2 dX7_bore_56

set_option maxHeartbeats 4000000 in
set_option maxRecDepth 100000 in
theorem c_X7_volume (l : Launch) (G : mg) (A : Nat → Prop) (Mw : mw) (st : St) (g : gR) (p0 p1 : Int32) (hR : RS G st g Mw) (hV : Inv st) : Met l yX7_volume wsX7_volume ({ frames := 3, cells := 0, slots := 0, locals := 64 }) (va_Pc [.ref (g.1 0 0), .int p0, .int p1] (mB G A Mw)) (va_Qi (fun r Mw1 => RP G (m_volume st p0 p1) g r Mw1) (mE G A) A) 0 0 A := by
  refine Met.ofW (cc := cX7_volume) (maxL := 3) (ret := (some .int)) (by decide) rfl ?_
  intro p e s m args below meth c s₁ B hml hv
  obtain ⟨rfl, hG, hP, hI, hA⟩ := hv
  have hx := B.exec
  have hb := B.bytes
  have hr := B.returns
  have hts := atoms_spec (ws := wsX7_volume) B.pre
  have hown : s.vm.findClass RX7 = some m.cls := findClass_of_methodNamed B.named
  have hlocks := B.notSynchronized
  have hK := hG.K
  have i_X7 : ∀ w ∈ wsX70, w ∈ wsX7_volume := by decide +kernel
  have hS : va_S A s.heap s.heap [] := va_S.rf
  have hl := lv_entry ([.ref (g.1 0 0), .int p0, .int p1]) (n := 3) (Nat.le_of_ble_eq_true rfl)
  rw [lg_entry_eq]
  generalize (lg_sl ([.ref (g.1 0 0), .int p0, .int p1]) ++ List.replicate (3 - (lg_sl ([.ref (g.1 0 0), .int p0, .int p1])).length) Slot.unset).toArray = ls at hl ⊢
  have hl : lv_has ls 3 [(0, .ref (g.1 0 0)), (1, .int p0), (2, .int p1)] := hl
  have hP : mP G.1 Mw s.heap := hP
  have h_X : Mw (g.1 0 0) = some (.inr (10, [.ref (g.1 1 0), .ref (g.1 2 0), .int (gS st 2), .int (gS st 3), .int (gS st 1), .int (gS st 0), .int (thR g)])) := hR.1 0 0 ro0
  have h_TL : Mw (g.1 1 0) = some (.inr (2, [.int (mcR g 1 0), .ref (g.1 3 0), .int ((nI (nT st)))])) := hR.1 1 0 ro1
  have h_IL : Mw (g.1 2 0) = some (.inr (2, [.int (mcR g 2 0), .ref (g.1 4 0), .int ((nI (nN st)))])) := hR.1 2 0 ro2
  have hti9 := hR.ne ro1 ro2 (by omega)
  have hnT8 := hV.1.1
  have hnN8 := Nat.le_trans hV.1.2 (show 6 ≤ 8 by decide)
  refine lv_aload_n hx hb dX7_volume_0 rfl (lv_at hl 0 rfl) ?_
  refine lv_aload_n hx hb dX7_volume_1 rfl (lv_at hl 0 rfl) ?_
  refine lv_iload_n hx hb dX7_volume_2 rfl (lv_at hl 1 rfl) ?_
  refine m_calli (va_runV (As := [.int p0]) (rest := [.ref (g.1 0 0)]) ⟨hx, hb, hml, hown, hts⟩ (c_X7_isNoTube l G A Mw  p0 h_X h_TL hnT8) (cwV 1 hts gX7_volume_X7_isNoTube rfl rfl rfl (by decide +kernel) ⟨Nat.le_of_ble_eq_true rfl, Nat.le_of_ble_eq_true rfl⟩) (mPreV hG hS hP hI hA (hP _ _ h_X) (r := (RX7, TX7, 7)) rfl) rfl rfl hl.1 rfl (lv_room (Nat.le_of_ble_eq_true rfl)) dX7_volume_3 ⟨Nat.le_of_ble_eq_true rfl, Nat.le_of_ble_eq_true rfl⟩) hS (fun r1 Mw1 H locs hp_r1 hP hI hS => ?_)
  obtain ⟨hb9, hm9⟩ := hp_r1
  subst Mw1
  rcases hb9 with ⟨hr9, hq_r1⟩ | ⟨hr9, hq_r1⟩
  · subst hr9
    have ht9 := hq_r1
    have e_p0 : p0 = nI (ix p0) := nI_cl ht9.1
    rw [e_p0] at hl
    have hf3 := hR.f3 ht9.2
    have h_TD : Mw (g.1 3 0) = some (.inl (G.2.1 5, 10, .inr (.inr (.inr (.inr (qf (nT st) (g.1 5))))))) := hR.1 3 0 (ro3 hf3)
    have h_T : Mw (g.1 5 (ix p0)) = some (.inr (9, [.ref (g.1 6 (ix p0)), .int (usS st (ix p0))])) := hR.1 5 _ (ro5 ht9.2)
    have h_B : Mw (g.1 6 (ix p0)) = some (.inl (G.2.1 0, 20, .inl (boS st (ix p0)))) := hR.1 6 _ (ro6 ht9.2)
    refine lv_iconst (v := 1) hx hb dX7_volume_6 (by decide) ?_
    refine m_calli (va_runV (As := [.int 0, .int 1]) (rest := []) ⟨hx, hb, hml, hown, hts⟩ (c_X7_isThrown0 l G A Mw  1 h_X) (cwV 2 hts gX7_volume_X7_isThrown rfl rfl rfl (by decide +kernel) ⟨Nat.le_of_ble_eq_true rfl, Nat.le_of_ble_eq_true rfl⟩) (mPreV hG hS hP hI hA (hP _ _ h_X) (r := (RX7, TX7, 7)) rfl) rfl rfl hl.1 rfl (lv_room (Nat.le_of_ble_eq_true rfl)) dX7_volume_7 ⟨Nat.le_of_ble_eq_true rfl, Nat.le_of_ble_eq_true rfl⟩) hS (fun r2 Mw1 H locs hp_r2 hP hI hS => ?_)
    obtain ⟨hp_r2, hm9⟩ := hp_r2
    subst Mw1
    subst hp_r2
    have h_TL := mu_k (e := .inr (10, [.ref (g.1 1 0), .ref (g.1 2 0), .int (gS st 2), .int (gS st 3), .int (gS st 1), .int (gS st 0), .int 0])) (kd_ne h_TL h_X rfl) h_TL
    have h_IL := mu_k (e := .inr (10, [.ref (g.1 1 0), .ref (g.1 2 0), .int (gS st 2), .int (gS st 3), .int (gS st 1), .int (gS st 0), .int 0])) (kd_ne h_IL h_X rfl) h_IL
    have h_TD := mu_k (e := .inr (10, [.ref (g.1 1 0), .ref (g.1 2 0), .int (gS st 2), .int (gS st 3), .int (gS st 1), .int (gS st 0), .int 0])) (kd_ne h_TD h_X rfl) h_TD
    have h_T := mu_k (e := .inr (10, [.ref (g.1 1 0), .ref (g.1 2 0), .int (gS st 2), .int (gS st 3), .int (gS st 1), .int (gS st 0), .int 0])) (kd_ne h_T h_X rfl) h_T
    have h_B := mu_k (e := .inr (10, [.ref (g.1 1 0), .ref (g.1 2 0), .int (gS st 2), .int (gS st 3), .int (gS st 1), .int (gS st 0), .int 0])) (kd_ne h_B h_X rfl) h_B
    have h_X : (mu Mw (g.1 0 0) (.inr (10, [.ref (g.1 1 0), .ref (g.1 2 0), .int (gS st 2), .int (gS st 3), .int (gS st 1), .int (gS st 0), .int 0]))) (g.1 0 0) = some (.inr (10, [.ref (g.1 1 0), .ref (g.1 2 0), .int (gS st 2), .int (gS st 3), .int (gS st 1), .int (gS st 0), .int 0])) := mu_s
    refine lv_if_ne (tgt := 25) hx hb dX7_volume_10 (by decide) (fun h9 => absurd h9 (by decide)) (fun _ => ?_)
    refine lv_aload_n hx hb dX7_volume_13 rfl (lv_at hl 0 rfl) ?_
    refine lv_iload_n hx hb dX7_volume_14 rfl (lv_at hl 2 rfl) ?_
    refine m_calli (va_runS (As := [.int p1]) (rest := [.ref (g.1 0 0)]) ⟨hx, hb, hml, hown, hts⟩ (c_X7_isNoPlace l G A (mu Mw (g.1 0 0) (.inr (10, [.ref (g.1 1 0), .ref (g.1 2 0), .int (gS st 2), .int (gS st 3), .int (gS st 1), .int (gS st 0), .int 0])))  p1) (va_cwS 1 hts gX7_volume_X7_isNoPlace rfl rfl rfl (by decide +kernel) ⟨Nat.le_of_ble_eq_true rfl, Nat.le_of_ble_eq_true rfl⟩) (mPreS hG hS hP hI hA) rfl rfl hl.1 rfl (lv_room (Nat.le_of_ble_eq_true rfl)) dX7_volume_15 ⟨Nat.le_of_ble_eq_true rfl, Nat.le_of_ble_eq_true rfl⟩) hS (fun r3 Mw1 H locs hp_r3 hP hI hS => ?_)
    obtain ⟨hb9, hm9⟩ := hp_r3
    subst Mw1
    rcases hb9 with ⟨hr9, hq_r3⟩ | ⟨hr9, hq_r3⟩
    · subst hr9
      have e_p1 : p1 = nI (ix p1) := nI_cl hq_r3.1
      rw [e_p1] at hl
      have hk_p1 := rg200 hq_r3
      have hv_p1 := hq_r3
      refine lv_iconst (v := 2) hx hb dX7_volume_18 (by decide) ?_
      refine m_calli (va_runV (As := [.int 0, .int 2]) (rest := []) ⟨hx, hb, hml, hown, hts⟩ (c_X7_isThrown0 l G A (mu Mw (g.1 0 0) (.inr (10, [.ref (g.1 1 0), .ref (g.1 2 0), .int (gS st 2), .int (gS st 3), .int (gS st 1), .int (gS st 0), .int 0])))  2 h_X) (cwV 2 hts gX7_volume_X7_isThrown rfl rfl rfl (by decide +kernel) ⟨Nat.le_of_ble_eq_true rfl, Nat.le_of_ble_eq_true rfl⟩) (mPreV hG hS hP hI hA (hP _ _ h_X) (r := (RX7, TX7, 7)) rfl) rfl rfl hl.1 rfl (lv_room (Nat.le_of_ble_eq_true rfl)) dX7_volume_19 ⟨Nat.le_of_ble_eq_true rfl, Nat.le_of_ble_eq_true rfl⟩) hS (fun r4 Mw1 H locs hp_r4 hP hI hS => ?_)
      obtain ⟨hp_r4, hm9⟩ := hp_r4
      subst Mw1
      subst hp_r4
      have h_TL := mu_k (e := .inr (10, [.ref (g.1 1 0), .ref (g.1 2 0), .int (gS st 2), .int (gS st 3), .int (gS st 1), .int (gS st 0), .int 0])) (kd_ne h_TL h_X rfl) h_TL
      have h_IL := mu_k (e := .inr (10, [.ref (g.1 1 0), .ref (g.1 2 0), .int (gS st 2), .int (gS st 3), .int (gS st 1), .int (gS st 0), .int 0])) (kd_ne h_IL h_X rfl) h_IL
      have h_TD := mu_k (e := .inr (10, [.ref (g.1 1 0), .ref (g.1 2 0), .int (gS st 2), .int (gS st 3), .int (gS st 1), .int (gS st 0), .int 0])) (kd_ne h_TD h_X rfl) h_TD
      have h_T := mu_k (e := .inr (10, [.ref (g.1 1 0), .ref (g.1 2 0), .int (gS st 2), .int (gS st 3), .int (gS st 1), .int (gS st 0), .int 0])) (kd_ne h_T h_X rfl) h_T
      have h_B := mu_k (e := .inr (10, [.ref (g.1 1 0), .ref (g.1 2 0), .int (gS st 2), .int (gS st 3), .int (gS st 1), .int (gS st 0), .int 0])) (kd_ne h_B h_X rfl) h_B
      have h_X : (mu (mu Mw (g.1 0 0) (.inr (10, [.ref (g.1 1 0), .ref (g.1 2 0), .int (gS st 2), .int (gS st 3), .int (gS st 1), .int (gS st 0), .int 0]))) (g.1 0 0) (.inr (10, [.ref (g.1 1 0), .ref (g.1 2 0), .int (gS st 2), .int (gS st 3), .int (gS st 1), .int (gS st 0), .int 0]))) (g.1 0 0) = some (.inr (10, [.ref (g.1 1 0), .ref (g.1 2 0), .int (gS st 2), .int (gS st 3), .int (gS st 1), .int (gS st 0), .int 0])) := mu_s
      refine lv_if_eq (tgt := 29) hx hb dX7_volume_22 (by decide) (fun _ => ?_) (fun h9 => absurd h9 (by decide))
      refine lv_aload_n hx hb dX7_volume_29 rfl (lv_at hl 0 rfl) ?_
      refine m_get (ci := 10) (v := .ref (g.1 1 0)) (C := RX7) (T := TX7) (N := 7) hx hb hts i_X7 hown hK (hP _ _ h_X) rfl 0 (by decide) (hts (.fieldLink RX7 10 "MeniscusModel" "tubes" "Ljava/util/ArrayList;") (by decide +kernel)) (fun _ h9 => h9) rfl dX7_volume_30 ?_
      refine lv_iload_n hx hb dX7_volume_33 rfl (lv_at hl 1 rfl) ?_
      refine m_callq (va_runV (As := [.int (nI (ix p0))]) (rest := []) ⟨hx, hb, hml, hown, hts⟩ (c_Jx4a65c_get_915e3 l G A (mu (mu Mw (g.1 0 0) (.inr (10, [.ref (g.1 1 0), .ref (g.1 2 0), .int (gS st 2), .int (gS st 3), .int (gS st 1), .int (gS st 0), .int 0]))) (g.1 0 0) (.inr (10, [.ref (g.1 1 0), .ref (g.1 2 0), .int (gS st 2), .int (gS st 3), .int (gS st 1), .int (gS st 0), .int 0])))  h_TL h_TD (ix p0) (g.1 5 (ix p0)) ht9.2 hnT8 (qf_p ht9.2)) (cwV 1 hts gX7_volume_Jx4a65c_get_915e3 rfl rfl rfl (by decide +kernel) ⟨Nat.le_of_ble_eq_true rfl, Nat.le_of_ble_eq_true rfl⟩) (mPreV hG hS hP hI hA (hP _ _ h_TL) (r := (RJx4a65c, TJx4a65c, 3)) rfl) rfl rfl hl.1 rfl (lv_room (Nat.le_of_ble_eq_true rfl)) dX7_volume_34 ⟨Nat.le_of_ble_eq_true rfl, Nat.le_of_ble_eq_true rfl⟩) hS (fun r5 Mw1 H locs hp_r5 hP hI hS => ?_)
      obtain ⟨hp_r5, hm9⟩ := hp_r5
      subst Mw1
      subst hp_r5
      refine va_castE hx hb hown (hts (.classLink RX7 38 RX6) (by decide +kernel)) (va_recv hK (va_at.one (hP _ _ h_T)) (q0 := 0) (q := (RX6, TX6, 2)) rfl rfl) dX7_volume_37 ?_
      refine lv_iload_n hx hb dX7_volume_40 rfl (lv_at hl 2 rfl) ?_
      refine m_calli (va_runV (As := [.int (nI (ix p1))]) (rest := []) ⟨hx, hb, hml, hown, hts⟩ (c_X6_volume l G A (mu (mu Mw (g.1 0 0) (.inr (10, [.ref (g.1 1 0), .ref (g.1 2 0), .int (gS st 2), .int (gS st 3), .int (gS st 1), .int (gS st 0), .int 0]))) (g.1 0 0) (.inr (10, [.ref (g.1 1 0), .ref (g.1 2 0), .int (gS st 2), .int (gS st 3), .int (gS st 1), .int (gS st 0), .int 0])))  (ix p1) hk_p1 h_T h_B) (cwV 1 hts gX7_volume_X6_volume rfl rfl rfl (by decide +kernel) ⟨Nat.le_of_ble_eq_true rfl, Nat.le_of_ble_eq_true rfl⟩) (mPreV hG hS hP hI hA (hP _ _ h_T) (r := (RX6, TX6, 2)) rfl) rfl rfl hl.1 rfl (lv_room (Nat.le_of_ble_eq_true rfl)) dX7_volume_41 ⟨Nat.le_of_ble_eq_true rfl, Nat.le_of_ble_eq_true rfl⟩) hS (fun r6 Mw1 H locs hp_r6 hP hI hS => ?_)
      obtain ⟨hp_r6, hm9⟩ := hp_r6
      subst Mw1
      rw [← vs_i _ hv_p1] at hp_r6
      subst hp_r6
      refine W.widen (k := 0) (n := 0) (Nat.le_of_ble_eq_true rfl) (Nat.le_of_ble_eq_true rfl) ?_
      exact W.iret (v := vsum (boS st (ix p0)) p1 20) hx hb hr (fun t99 ht99 hW99 => ⟨⟨vsum (boS st (ix p0)) p1 20, (mu (mu Mw (g.1 0 0) (.inr (10, [.ref (g.1 1 0), .ref (g.1 2 0), .int (gS st 2), .int (gS st 3), .int (gS st 1), .int (gS st 0), .int 0]))) (g.1 0 0) (.inr (10, [.ref (g.1 1 0), .ref (g.1 2 0), .int (gS st 2), .int (gS st 3), .int (gS st 1), .int (gS st 0), .int 0]))), rfl, RP.ok (by unfold m_volume; first | (rw [chk_p ht9, chk_p hq_r3]; done) | (rw [chk_p ht9, chk_p hq_r3]; rfl)) (hR.th 0 h_X (fun x9 e9 hx9 h0 => ((mu_n h0).trans ((mu_n h0).trans (rfl))).trans hx9)) rfl rfl, by rw [ht99]; exact hP, hI⟩, hS.F ht99⟩) hS.2.2 dX7_volume_44
    · subst hr9
      refine lv_iconst (v := 2) hx hb dX7_volume_18 (by decide) ?_
      refine m_calli (va_runV (As := [.int 1, .int 2]) (rest := []) ⟨hx, hb, hml, hown, hts⟩ (c_X7_isThrown1 l G A (mu Mw (g.1 0 0) (.inr (10, [.ref (g.1 1 0), .ref (g.1 2 0), .int (gS st 2), .int (gS st 3), .int (gS st 1), .int (gS st 0), .int 0])))  2 h_X) (cwV 2 hts gX7_volume_X7_isThrown rfl rfl rfl (by decide +kernel) ⟨Nat.le_of_ble_eq_true rfl, Nat.le_of_ble_eq_true rfl⟩) (mPreV hG hS hP hI hA (hP _ _ h_X) (r := (RX7, TX7, 7)) rfl) rfl rfl hl.1 rfl (lv_room (Nat.le_of_ble_eq_true rfl)) dX7_volume_19 ⟨Nat.le_of_ble_eq_true rfl, Nat.le_of_ble_eq_true rfl⟩) hS (fun r7 Mw1 H locs hp_r7 hP hI hS => ?_)
      obtain ⟨hp_r7, hm9⟩ := hp_r7
      subst Mw1
      subst hp_r7
      have h_TL := mu_k (e := .inr (10, [.ref (g.1 1 0), .ref (g.1 2 0), .int (gS st 2), .int (gS st 3), .int (gS st 1), .int (gS st 0), .int 2])) (kd_ne h_TL h_X rfl) h_TL
      have h_IL := mu_k (e := .inr (10, [.ref (g.1 1 0), .ref (g.1 2 0), .int (gS st 2), .int (gS st 3), .int (gS st 1), .int (gS st 0), .int 2])) (kd_ne h_IL h_X rfl) h_IL
      have h_TD := mu_k (e := .inr (10, [.ref (g.1 1 0), .ref (g.1 2 0), .int (gS st 2), .int (gS st 3), .int (gS st 1), .int (gS st 0), .int 2])) (kd_ne h_TD h_X rfl) h_TD
      have h_T := mu_k (e := .inr (10, [.ref (g.1 1 0), .ref (g.1 2 0), .int (gS st 2), .int (gS st 3), .int (gS st 1), .int (gS st 0), .int 2])) (kd_ne h_T h_X rfl) h_T
      have h_B := mu_k (e := .inr (10, [.ref (g.1 1 0), .ref (g.1 2 0), .int (gS st 2), .int (gS st 3), .int (gS st 1), .int (gS st 0), .int 2])) (kd_ne h_B h_X rfl) h_B
      have h_X : (mu (mu Mw (g.1 0 0) (.inr (10, [.ref (g.1 1 0), .ref (g.1 2 0), .int (gS st 2), .int (gS st 3), .int (gS st 1), .int (gS st 0), .int 0]))) (g.1 0 0) (.inr (10, [.ref (g.1 1 0), .ref (g.1 2 0), .int (gS st 2), .int (gS st 3), .int (gS st 1), .int (gS st 0), .int 2]))) (g.1 0 0) = some (.inr (10, [.ref (g.1 1 0), .ref (g.1 2 0), .int (gS st 2), .int (gS st 3), .int (gS st 1), .int (gS st 0), .int 2])) := mu_s
      refine lv_if_eq (tgt := 29) hx hb dX7_volume_22 (by decide) (fun h9 => absurd h9 (by decide)) (fun _ => ?_)
      refine lv_iconst (v := 0) hx hb dX7_volume_25 (by decide) ?_
      refine lv_goto (tgt := 44) hx hb dX7_volume_26 (by decide) ?_
      refine W.widen (k := 0) (n := 0) (Nat.le_of_ble_eq_true rfl) (Nat.le_of_ble_eq_true rfl) ?_
      exact W.iret (v := 0) hx hb hr (fun t99 ht99 hW99 => ⟨⟨0, (mu (mu Mw (g.1 0 0) (.inr (10, [.ref (g.1 1 0), .ref (g.1 2 0), .int (gS st 2), .int (gS st 3), .int (gS st 1), .int (gS st 0), .int 0]))) (g.1 0 0) (.inr (10, [.ref (g.1 1 0), .ref (g.1 2 0), .int (gS st 2), .int (gS st 3), .int (gS st 1), .int (gS st 0), .int 2]))), rfl, RP.no (k := 2) (by unfold m_volume; first | (rw [chk_p ht9, chk_n hq_r3]; done) | (rw [chk_p ht9, chk_n hq_r3]; rfl)) (by decide) (hR.th 2 h_X (fun x9 e9 hx9 h0 => ((mu_n h0).trans ((mu_n h0).trans (rfl))).trans hx9)) rfl rfl, by rw [ht99]; exact hP, hI⟩, hS.F ht99⟩) hS.2.2 dX7_volume_44
  · subst hr9
    refine lv_iconst (v := 1) hx hb dX7_volume_6 (by decide) ?_
    refine m_calli (va_runV (As := [.int 1, .int 1]) (rest := []) ⟨hx, hb, hml, hown, hts⟩ (c_X7_isThrown1 l G A Mw  1 h_X) (cwV 2 hts gX7_volume_X7_isThrown rfl rfl rfl (by decide +kernel) ⟨Nat.le_of_ble_eq_true rfl, Nat.le_of_ble_eq_true rfl⟩) (mPreV hG hS hP hI hA (hP _ _ h_X) (r := (RX7, TX7, 7)) rfl) rfl rfl hl.1 rfl (lv_room (Nat.le_of_ble_eq_true rfl)) dX7_volume_7 ⟨Nat.le_of_ble_eq_true rfl, Nat.le_of_ble_eq_true rfl⟩) hS (fun r8 Mw1 H locs hp_r8 hP hI hS => ?_)
    obtain ⟨hp_r8, hm9⟩ := hp_r8
    subst Mw1
    subst hp_r8
    have h_TL := mu_k (e := .inr (10, [.ref (g.1 1 0), .ref (g.1 2 0), .int (gS st 2), .int (gS st 3), .int (gS st 1), .int (gS st 0), .int 1])) (kd_ne h_TL h_X rfl) h_TL
    have h_IL := mu_k (e := .inr (10, [.ref (g.1 1 0), .ref (g.1 2 0), .int (gS st 2), .int (gS st 3), .int (gS st 1), .int (gS st 0), .int 1])) (kd_ne h_IL h_X rfl) h_IL
    have h_X : (mu Mw (g.1 0 0) (.inr (10, [.ref (g.1 1 0), .ref (g.1 2 0), .int (gS st 2), .int (gS st 3), .int (gS st 1), .int (gS st 0), .int 1]))) (g.1 0 0) = some (.inr (10, [.ref (g.1 1 0), .ref (g.1 2 0), .int (gS st 2), .int (gS st 3), .int (gS st 1), .int (gS st 0), .int 1])) := mu_s
    refine lv_if_ne (tgt := 25) hx hb dX7_volume_10 (by decide) (fun _ => ?_) (fun h9 => absurd h9 (by decide))
    refine lv_iconst (v := 0) hx hb dX7_volume_25 (by decide) ?_
    refine lv_goto (tgt := 44) hx hb dX7_volume_26 (by decide) ?_
    refine W.widen (k := 0) (n := 0) (Nat.le_of_ble_eq_true rfl) (Nat.le_of_ble_eq_true rfl) ?_
    exact W.iret (v := 0) hx hb hr (fun t99 ht99 hW99 => ⟨⟨0, (mu Mw (g.1 0 0) (.inr (10, [.ref (g.1 1 0), .ref (g.1 2 0), .int (gS st 2), .int (gS st 3), .int (gS st 1), .int (gS st 0), .int 1]))), rfl, RP.no (k := 1) (by unfold m_volume; first | (rw [chk_n hq_r1]; done) | (rw [chk_n hq_r1]; rfl)) (by decide) (hR.th 1 h_X (fun x9 e9 hx9 h0 => ((mu_n h0).trans (rfl)).trans hx9)) rfl rfl, by rw [ht99]; exact hP, hI⟩, hS.F ht99⟩) hS.2.2 dX7_volume_44

set_option maxHeartbeats 4000000 in
set_option maxRecDepth 100000 in
theorem c_X7_section (l : Launch) (G : mg) (A : Nat → Prop) (Mw : mw) (st : St) (g : gR) (p0 p1 p2 : Int32) (hR : RS G st g Mw) (hV : Inv st) : Met l yX7_section wsX7_section ({ frames := 3, cells := 0, slots := 0, locals := 64 }) (va_Pc [.ref (g.1 0 0), .int p0, .int p1, .int p2] (mB G A Mw)) (va_Qi (fun r Mw1 => RP G (m_section st p0 p1 p2) g r Mw1) (mE G A) A) 0 0 A := by
  refine Met.ofW (cc := cX7_section) (maxL := 5) (ret := (some .int)) (by decide) rfl ?_
  intro p e s m args below meth c s₁ B hml hv
  obtain ⟨rfl, hG, hP, hI, hA⟩ := hv
  have hx := B.exec
  have hb := B.bytes
  have hr := B.returns
  have hts := atoms_spec (ws := wsX7_section) B.pre
  have hown : s.vm.findClass RX7 = some m.cls := findClass_of_methodNamed B.named
  have hlocks := B.notSynchronized
  have hK := hG.K
  have i_X6 : ∀ w ∈ wsX60, w ∈ wsX7_section := by decide +kernel
  have i_X7 : ∀ w ∈ wsX70, w ∈ wsX7_section := by decide +kernel
  have hS : va_S A s.heap s.heap [] := va_S.rf
  have hl := lv_entry ([.ref (g.1 0 0), .int p0, .int p1, .int p2]) (n := 5) (Nat.le_of_ble_eq_true rfl)
  rw [lg_entry_eq]
  generalize (lg_sl ([.ref (g.1 0 0), .int p0, .int p1, .int p2]) ++ List.replicate (5 - (lg_sl ([.ref (g.1 0 0), .int p0, .int p1, .int p2])).length) Slot.unset).toArray = ls at hl ⊢
  have hl : lv_has ls 5 [(0, .ref (g.1 0 0)), (1, .int p0), (2, .int p1), (3, .int p2)] := hl
  have hP : mP G.1 Mw s.heap := hP
  have h_X : Mw (g.1 0 0) = some (.inr (10, [.ref (g.1 1 0), .ref (g.1 2 0), .int (gS st 2), .int (gS st 3), .int (gS st 1), .int (gS st 0), .int (thR g)])) := hR.1 0 0 ro0
  have h_TL : Mw (g.1 1 0) = some (.inr (2, [.int (mcR g 1 0), .ref (g.1 3 0), .int ((nI (nT st)))])) := hR.1 1 0 ro1
  have h_IL : Mw (g.1 2 0) = some (.inr (2, [.int (mcR g 2 0), .ref (g.1 4 0), .int ((nI (nN st)))])) := hR.1 2 0 ro2
  have hti9 := hR.ne ro1 ro2 (by omega)
  have hnT8 := hV.1.1
  have hnN8 := Nat.le_trans hV.1.2 (show 6 ≤ 8 by decide)
  refine lv_aload_n hx hb dX7_section_0 rfl (lv_at hl 0 rfl) ?_
  refine lv_aload_n hx hb dX7_section_1 rfl (lv_at hl 0 rfl) ?_
  refine lv_iload_n hx hb dX7_section_2 rfl (lv_at hl 1 rfl) ?_
  refine m_calli (va_runV (As := [.int p0]) (rest := [.ref (g.1 0 0)]) ⟨hx, hb, hml, hown, hts⟩ (c_X7_isNoTube l G A Mw  p0 h_X h_TL hnT8) (cwV 1 hts gX7_section_X7_isNoTube rfl rfl rfl (by decide +kernel) ⟨Nat.le_of_ble_eq_true rfl, Nat.le_of_ble_eq_true rfl⟩) (mPreV hG hS hP hI hA (hP _ _ h_X) (r := (RX7, TX7, 7)) rfl) rfl rfl hl.1 rfl (lv_room (Nat.le_of_ble_eq_true rfl)) dX7_section_3 ⟨Nat.le_of_ble_eq_true rfl, Nat.le_of_ble_eq_true rfl⟩) hS (fun r1 Mw1 H locs hp_r1 hP hI hS => ?_)
  obtain ⟨hb9, hm9⟩ := hp_r1
  subst Mw1
  rcases hb9 with ⟨hr9, hq_r1⟩ | ⟨hr9, hq_r1⟩
  · subst hr9
    have ht9 := hq_r1
    have e_p0 : p0 = nI (ix p0) := nI_cl ht9.1
    rw [e_p0] at hl
    have hf3 := hR.f3 ht9.2
    have h_TD : Mw (g.1 3 0) = some (.inl (G.2.1 5, 10, .inr (.inr (.inr (.inr (qf (nT st) (g.1 5))))))) := hR.1 3 0 (ro3 hf3)
    have h_T : Mw (g.1 5 (ix p0)) = some (.inr (9, [.ref (g.1 6 (ix p0)), .int (usS st (ix p0))])) := hR.1 5 _ (ro5 ht9.2)
    have h_B : Mw (g.1 6 (ix p0)) = some (.inl (G.2.1 0, 20, .inl (boS st (ix p0)))) := hR.1 6 _ (ro6 ht9.2)
    refine lv_iconst (v := 1) hx hb dX7_section_6 (by decide) ?_
    refine m_calli (va_runV (As := [.int 0, .int 1]) (rest := []) ⟨hx, hb, hml, hown, hts⟩ (c_X7_isThrown0 l G A Mw  1 h_X) (cwV 2 hts gX7_section_X7_isThrown rfl rfl rfl (by decide +kernel) ⟨Nat.le_of_ble_eq_true rfl, Nat.le_of_ble_eq_true rfl⟩) (mPreV hG hS hP hI hA (hP _ _ h_X) (r := (RX7, TX7, 7)) rfl) rfl rfl hl.1 rfl (lv_room (Nat.le_of_ble_eq_true rfl)) dX7_section_7 ⟨Nat.le_of_ble_eq_true rfl, Nat.le_of_ble_eq_true rfl⟩) hS (fun r2 Mw1 H locs hp_r2 hP hI hS => ?_)
    obtain ⟨hp_r2, hm9⟩ := hp_r2
    subst Mw1
    subst hp_r2
    have h_TL := mu_k (e := .inr (10, [.ref (g.1 1 0), .ref (g.1 2 0), .int (gS st 2), .int (gS st 3), .int (gS st 1), .int (gS st 0), .int 0])) (kd_ne h_TL h_X rfl) h_TL
    have h_IL := mu_k (e := .inr (10, [.ref (g.1 1 0), .ref (g.1 2 0), .int (gS st 2), .int (gS st 3), .int (gS st 1), .int (gS st 0), .int 0])) (kd_ne h_IL h_X rfl) h_IL
    have h_TD := mu_k (e := .inr (10, [.ref (g.1 1 0), .ref (g.1 2 0), .int (gS st 2), .int (gS st 3), .int (gS st 1), .int (gS st 0), .int 0])) (kd_ne h_TD h_X rfl) h_TD
    have h_T := mu_k (e := .inr (10, [.ref (g.1 1 0), .ref (g.1 2 0), .int (gS st 2), .int (gS st 3), .int (gS st 1), .int (gS st 0), .int 0])) (kd_ne h_T h_X rfl) h_T
    have h_B := mu_k (e := .inr (10, [.ref (g.1 1 0), .ref (g.1 2 0), .int (gS st 2), .int (gS st 3), .int (gS st 1), .int (gS st 0), .int 0])) (kd_ne h_B h_X rfl) h_B
    have h_X : (mu Mw (g.1 0 0) (.inr (10, [.ref (g.1 1 0), .ref (g.1 2 0), .int (gS st 2), .int (gS st 3), .int (gS st 1), .int (gS st 0), .int 0]))) (g.1 0 0) = some (.inr (10, [.ref (g.1 1 0), .ref (g.1 2 0), .int (gS st 2), .int (gS st 3), .int (gS st 1), .int (gS st 0), .int 0])) := mu_s
    refine lv_if_ne (tgt := 68) hx hb dX7_section_10 (by decide) (fun h9 => absurd h9 (by decide)) (fun _ => ?_)
    refine lv_aload_n hx hb dX7_section_13 rfl (lv_at hl 0 rfl) ?_
    refine lv_iload_n hx hb dX7_section_14 rfl (lv_at hl 2 rfl) ?_
    refine lv_iconst (v := 0) hx hb dX7_section_15 (by decide) ?_
    refine lv_bipush (v := (19)) hx hb dX7_section_16 (by decide) ?_
    refine m_calli (va_runS (As := [.int p1, .int 0, .int 19]) (rest := [.ref (g.1 0 0)]) ⟨hx, hb, hml, hown, hts⟩ (c_X7_isIn l G A (mu Mw (g.1 0 0) (.inr (10, [.ref (g.1 1 0), .ref (g.1 2 0), .int (gS st 2), .int (gS st 3), .int (gS st 1), .int (gS st 0), .int 0])))  p1 0 19) (va_cwS 3 hts gX7_section_X7_isIn rfl rfl rfl (by decide +kernel) ⟨Nat.le_of_ble_eq_true rfl, Nat.le_of_ble_eq_true rfl⟩) (mPreS hG hS hP hI hA) rfl rfl hl.1 rfl (lv_room (Nat.le_of_ble_eq_true rfl)) dX7_section_18 ⟨Nat.le_of_ble_eq_true rfl, Nat.le_of_ble_eq_true rfl⟩) hS (fun r3 Mw1 H locs hp_r3 hP hI hS => ?_)
    obtain ⟨hb9, hm9⟩ := hp_r3
    subst Mw1
    rcases hb9 with ⟨hr9, hq_r3⟩ | ⟨hr9, hq_r3⟩
    · subst hr9
      refine lv_if_eq (tgt := 34) hx hb dX7_section_21 (by decide) (fun _ => ?_) (fun h9 => absurd h9 (by decide))
      refine lv_iconst (v := 1) hx hb dX7_section_34 (by decide) ?_
      refine lv_goto (tgt := 39) hx hb dX7_section_35 (by decide) ?_
      refine lv_iconst (v := 2) hx hb dX7_section_39 (by decide) ?_
      refine m_calli (va_runV (As := [.int 1, .int 2]) (rest := []) ⟨hx, hb, hml, hown, hts⟩ (c_X7_isThrown1 l G A (mu Mw (g.1 0 0) (.inr (10, [.ref (g.1 1 0), .ref (g.1 2 0), .int (gS st 2), .int (gS st 3), .int (gS st 1), .int (gS st 0), .int 0])))  2 h_X) (cwV 2 hts gX7_section_X7_isThrown rfl rfl rfl (by decide +kernel) ⟨Nat.le_of_ble_eq_true rfl, Nat.le_of_ble_eq_true rfl⟩) (mPreV hG hS hP hI hA (hP _ _ h_X) (r := (RX7, TX7, 7)) rfl) rfl rfl hl.1 rfl (lv_room (Nat.le_of_ble_eq_true rfl)) dX7_section_40 ⟨Nat.le_of_ble_eq_true rfl, Nat.le_of_ble_eq_true rfl⟩) hS (fun r4 Mw1 H locs hp_r4 hP hI hS => ?_)
      obtain ⟨hp_r4, hm9⟩ := hp_r4
      subst Mw1
      subst hp_r4
      have h_TL := mu_k (e := .inr (10, [.ref (g.1 1 0), .ref (g.1 2 0), .int (gS st 2), .int (gS st 3), .int (gS st 1), .int (gS st 0), .int 2])) (kd_ne h_TL h_X rfl) h_TL
      have h_IL := mu_k (e := .inr (10, [.ref (g.1 1 0), .ref (g.1 2 0), .int (gS st 2), .int (gS st 3), .int (gS st 1), .int (gS st 0), .int 2])) (kd_ne h_IL h_X rfl) h_IL
      have h_TD := mu_k (e := .inr (10, [.ref (g.1 1 0), .ref (g.1 2 0), .int (gS st 2), .int (gS st 3), .int (gS st 1), .int (gS st 0), .int 2])) (kd_ne h_TD h_X rfl) h_TD
      have h_T := mu_k (e := .inr (10, [.ref (g.1 1 0), .ref (g.1 2 0), .int (gS st 2), .int (gS st 3), .int (gS st 1), .int (gS st 0), .int 2])) (kd_ne h_T h_X rfl) h_T
      have h_B := mu_k (e := .inr (10, [.ref (g.1 1 0), .ref (g.1 2 0), .int (gS st 2), .int (gS st 3), .int (gS st 1), .int (gS st 0), .int 2])) (kd_ne h_B h_X rfl) h_B
      have h_X : (mu (mu Mw (g.1 0 0) (.inr (10, [.ref (g.1 1 0), .ref (g.1 2 0), .int (gS st 2), .int (gS st 3), .int (gS st 1), .int (gS st 0), .int 0]))) (g.1 0 0) (.inr (10, [.ref (g.1 1 0), .ref (g.1 2 0), .int (gS st 2), .int (gS st 3), .int (gS st 1), .int (gS st 0), .int 2]))) (g.1 0 0) = some (.inr (10, [.ref (g.1 1 0), .ref (g.1 2 0), .int (gS st 2), .int (gS st 3), .int (gS st 1), .int (gS st 0), .int 2])) := mu_s
      refine lv_if_ne (tgt := 68) hx hb dX7_section_43 (by decide) (fun _ => ?_) (fun h9 => absurd h9 (by decide))
      refine lv_iconst (v := 0) hx hb dX7_section_68 (by decide) ?_
      refine W.widen (k := 0) (n := 0) (Nat.le_of_ble_eq_true rfl) (Nat.le_of_ble_eq_true rfl) ?_
      exact W.iret (v := 0) hx hb hr (fun t99 ht99 hW99 => ⟨⟨0, (mu (mu Mw (g.1 0 0) (.inr (10, [.ref (g.1 1 0), .ref (g.1 2 0), .int (gS st 2), .int (gS st 3), .int (gS st 1), .int (gS st 0), .int 0]))) (g.1 0 0) (.inr (10, [.ref (g.1 1 0), .ref (g.1 2 0), .int (gS st 2), .int (gS st 3), .int (gS st 1), .int (gS st 0), .int 2]))), rfl, RP.no (k := 2) (by unfold m_section; first | (rw [chk_p ht9, chk_n hq_r3]; done) | (rw [chk_p ht9, chk_n hq_r3]; rfl)) (by decide) (hR.th 2 h_X (fun x9 e9 hx9 h0 => ((mu_n h0).trans ((mu_n h0).trans (rfl))).trans hx9)) rfl rfl, by rw [ht99]; exact hP, hI⟩, hS.F ht99⟩) hS.2.2 dX7_section_69
    · subst hr9
      refine lv_if_eq (tgt := 34) hx hb dX7_section_21 (by decide) (fun h9 => absurd h9 (by decide)) (fun _ => ?_)
      refine lv_iload_n hx hb dX7_section_24 rfl (lv_at hl 3 rfl) ?_
      refine lv_iconst (v := 1) hx hb dX7_section_25 (by decide) ?_
      refine lv_bipush (v := (60)) hx hb dX7_section_26 (by decide) ?_
      refine m_calli (va_runS (As := [.int p2, .int 1, .int 60]) (rest := [.ref (g.1 0 0)]) ⟨hx, hb, hml, hown, hts⟩ (c_X7_isIn l G A (mu Mw (g.1 0 0) (.inr (10, [.ref (g.1 1 0), .ref (g.1 2 0), .int (gS st 2), .int (gS st 3), .int (gS st 1), .int (gS st 0), .int 0])))  p2 1 60) (va_cwS 3 hts gX7_section_X7_isIn rfl rfl rfl (by decide +kernel) ⟨Nat.le_of_ble_eq_true rfl, Nat.le_of_ble_eq_true rfl⟩) (mPreS hG hS hP hI hA) rfl rfl hl.1 rfl (lv_room (Nat.le_of_ble_eq_true rfl)) dX7_section_28 ⟨Nat.le_of_ble_eq_true rfl, Nat.le_of_ble_eq_true rfl⟩) hS (fun r5 Mw1 H locs hp_r5 hP hI hS => ?_)
      obtain ⟨hb9, hm9⟩ := hp_r5
      subst Mw1
      rcases hb9 with ⟨hr9, hq_r5⟩ | ⟨hr9, hq_r5⟩
      · subst hr9
        refine lv_if_ne (tgt := 38) hx hb dX7_section_31 (by decide) (fun h9 => absurd h9 (by decide)) (fun _ => ?_)
        refine lv_iconst (v := 1) hx hb dX7_section_34 (by decide) ?_
        refine lv_goto (tgt := 39) hx hb dX7_section_35 (by decide) ?_
        refine lv_iconst (v := 2) hx hb dX7_section_39 (by decide) ?_
        refine m_calli (va_runV (As := [.int 1, .int 2]) (rest := []) ⟨hx, hb, hml, hown, hts⟩ (c_X7_isThrown1 l G A (mu Mw (g.1 0 0) (.inr (10, [.ref (g.1 1 0), .ref (g.1 2 0), .int (gS st 2), .int (gS st 3), .int (gS st 1), .int (gS st 0), .int 0])))  2 h_X) (cwV 2 hts gX7_section_X7_isThrown rfl rfl rfl (by decide +kernel) ⟨Nat.le_of_ble_eq_true rfl, Nat.le_of_ble_eq_true rfl⟩) (mPreV hG hS hP hI hA (hP _ _ h_X) (r := (RX7, TX7, 7)) rfl) rfl rfl hl.1 rfl (lv_room (Nat.le_of_ble_eq_true rfl)) dX7_section_40 ⟨Nat.le_of_ble_eq_true rfl, Nat.le_of_ble_eq_true rfl⟩) hS (fun r6 Mw1 H locs hp_r6 hP hI hS => ?_)
        obtain ⟨hp_r6, hm9⟩ := hp_r6
        subst Mw1
        subst hp_r6
        have h_TL := mu_k (e := .inr (10, [.ref (g.1 1 0), .ref (g.1 2 0), .int (gS st 2), .int (gS st 3), .int (gS st 1), .int (gS st 0), .int 2])) (kd_ne h_TL h_X rfl) h_TL
        have h_IL := mu_k (e := .inr (10, [.ref (g.1 1 0), .ref (g.1 2 0), .int (gS st 2), .int (gS st 3), .int (gS st 1), .int (gS st 0), .int 2])) (kd_ne h_IL h_X rfl) h_IL
        have h_TD := mu_k (e := .inr (10, [.ref (g.1 1 0), .ref (g.1 2 0), .int (gS st 2), .int (gS st 3), .int (gS st 1), .int (gS st 0), .int 2])) (kd_ne h_TD h_X rfl) h_TD
        have h_T := mu_k (e := .inr (10, [.ref (g.1 1 0), .ref (g.1 2 0), .int (gS st 2), .int (gS st 3), .int (gS st 1), .int (gS st 0), .int 2])) (kd_ne h_T h_X rfl) h_T
        have h_B := mu_k (e := .inr (10, [.ref (g.1 1 0), .ref (g.1 2 0), .int (gS st 2), .int (gS st 3), .int (gS st 1), .int (gS st 0), .int 2])) (kd_ne h_B h_X rfl) h_B
        have h_X : (mu (mu Mw (g.1 0 0) (.inr (10, [.ref (g.1 1 0), .ref (g.1 2 0), .int (gS st 2), .int (gS st 3), .int (gS st 1), .int (gS st 0), .int 0]))) (g.1 0 0) (.inr (10, [.ref (g.1 1 0), .ref (g.1 2 0), .int (gS st 2), .int (gS st 3), .int (gS st 1), .int (gS st 0), .int 2]))) (g.1 0 0) = some (.inr (10, [.ref (g.1 1 0), .ref (g.1 2 0), .int (gS st 2), .int (gS st 3), .int (gS st 1), .int (gS st 0), .int 2])) := mu_s
        refine lv_if_ne (tgt := 68) hx hb dX7_section_43 (by decide) (fun _ => ?_) (fun h9 => absurd h9 (by decide))
        refine lv_iconst (v := 0) hx hb dX7_section_68 (by decide) ?_
        refine W.widen (k := 0) (n := 0) (Nat.le_of_ble_eq_true rfl) (Nat.le_of_ble_eq_true rfl) ?_
        exact W.iret (v := 0) hx hb hr (fun t99 ht99 hW99 => ⟨⟨0, (mu (mu Mw (g.1 0 0) (.inr (10, [.ref (g.1 1 0), .ref (g.1 2 0), .int (gS st 2), .int (gS st 3), .int (gS st 1), .int (gS st 0), .int 0]))) (g.1 0 0) (.inr (10, [.ref (g.1 1 0), .ref (g.1 2 0), .int (gS st 2), .int (gS st 3), .int (gS st 1), .int (gS st 0), .int 2]))), rfl, RP.no (k := 2) (by unfold m_section; first | (rw [chk_p ht9, chk_p hq_r3, chk_n hq_r5]; done) | (rw [chk_p ht9, chk_p hq_r3, chk_n hq_r5]; rfl)) (by decide) (hR.th 2 h_X (fun x9 e9 hx9 h0 => ((mu_n h0).trans ((mu_n h0).trans (rfl))).trans hx9)) rfl rfl, by rw [ht99]; exact hP, hI⟩, hS.F ht99⟩) hS.2.2 dX7_section_69
      · subst hr9
        refine lv_if_ne (tgt := 38) hx hb dX7_section_31 (by decide) (fun _ => ?_) (fun h9 => absurd h9 (by decide))
        refine lv_iconst (v := 0) hx hb dX7_section_38 (by decide) ?_
        refine lv_iconst (v := 2) hx hb dX7_section_39 (by decide) ?_
        refine m_calli (va_runV (As := [.int 0, .int 2]) (rest := []) ⟨hx, hb, hml, hown, hts⟩ (c_X7_isThrown0 l G A (mu Mw (g.1 0 0) (.inr (10, [.ref (g.1 1 0), .ref (g.1 2 0), .int (gS st 2), .int (gS st 3), .int (gS st 1), .int (gS st 0), .int 0])))  2 h_X) (cwV 2 hts gX7_section_X7_isThrown rfl rfl rfl (by decide +kernel) ⟨Nat.le_of_ble_eq_true rfl, Nat.le_of_ble_eq_true rfl⟩) (mPreV hG hS hP hI hA (hP _ _ h_X) (r := (RX7, TX7, 7)) rfl) rfl rfl hl.1 rfl (lv_room (Nat.le_of_ble_eq_true rfl)) dX7_section_40 ⟨Nat.le_of_ble_eq_true rfl, Nat.le_of_ble_eq_true rfl⟩) hS (fun r7 Mw1 H locs hp_r7 hP hI hS => ?_)
        obtain ⟨hp_r7, hm9⟩ := hp_r7
        subst Mw1
        subst hp_r7
        have h_TL := mu_k (e := .inr (10, [.ref (g.1 1 0), .ref (g.1 2 0), .int (gS st 2), .int (gS st 3), .int (gS st 1), .int (gS st 0), .int 0])) (kd_ne h_TL h_X rfl) h_TL
        have h_IL := mu_k (e := .inr (10, [.ref (g.1 1 0), .ref (g.1 2 0), .int (gS st 2), .int (gS st 3), .int (gS st 1), .int (gS st 0), .int 0])) (kd_ne h_IL h_X rfl) h_IL
        have h_TD := mu_k (e := .inr (10, [.ref (g.1 1 0), .ref (g.1 2 0), .int (gS st 2), .int (gS st 3), .int (gS st 1), .int (gS st 0), .int 0])) (kd_ne h_TD h_X rfl) h_TD
        have h_T := mu_k (e := .inr (10, [.ref (g.1 1 0), .ref (g.1 2 0), .int (gS st 2), .int (gS st 3), .int (gS st 1), .int (gS st 0), .int 0])) (kd_ne h_T h_X rfl) h_T
        have h_B := mu_k (e := .inr (10, [.ref (g.1 1 0), .ref (g.1 2 0), .int (gS st 2), .int (gS st 3), .int (gS st 1), .int (gS st 0), .int 0])) (kd_ne h_B h_X rfl) h_B
        have h_X : (mu (mu Mw (g.1 0 0) (.inr (10, [.ref (g.1 1 0), .ref (g.1 2 0), .int (gS st 2), .int (gS st 3), .int (gS st 1), .int (gS st 0), .int 0]))) (g.1 0 0) (.inr (10, [.ref (g.1 1 0), .ref (g.1 2 0), .int (gS st 2), .int (gS st 3), .int (gS st 1), .int (gS st 0), .int 0]))) (g.1 0 0) = some (.inr (10, [.ref (g.1 1 0), .ref (g.1 2 0), .int (gS st 2), .int (gS st 3), .int (gS st 1), .int (gS st 0), .int 0])) := mu_s
        refine lv_if_ne (tgt := 68) hx hb dX7_section_43 (by decide) (fun h9 => absurd h9 (by decide)) (fun _ => ?_)
        refine lv_aload_n hx hb dX7_section_46 rfl (lv_at hl 0 rfl) ?_
        refine lv_aload_n hx hb dX7_section_47 rfl (lv_at hl 0 rfl) ?_
        refine m_get (ci := 10) (v := .ref (g.1 1 0)) (C := RX7) (T := TX7) (N := 7) hx hb hts i_X7 hown hK (hP _ _ h_X) rfl 0 (by decide) (hts (.fieldLink RX7 10 "MeniscusModel" "tubes" "Ljava/util/ArrayList;") (by decide +kernel)) (fun _ h9 => h9) rfl dX7_section_48 ?_
        refine lv_iload_n hx hb dX7_section_51 rfl (lv_at hl 1 rfl) ?_
        refine m_callq (va_runV (As := [.int (nI (ix p0))]) (rest := [.ref (g.1 0 0)]) ⟨hx, hb, hml, hown, hts⟩ (c_Jx4a65c_get_915e3 l G A (mu (mu Mw (g.1 0 0) (.inr (10, [.ref (g.1 1 0), .ref (g.1 2 0), .int (gS st 2), .int (gS st 3), .int (gS st 1), .int (gS st 0), .int 0]))) (g.1 0 0) (.inr (10, [.ref (g.1 1 0), .ref (g.1 2 0), .int (gS st 2), .int (gS st 3), .int (gS st 1), .int (gS st 0), .int 0])))  h_TL h_TD (ix p0) (g.1 5 (ix p0)) ht9.2 hnT8 (qf_p ht9.2)) (cwV 1 hts gX7_section_Jx4a65c_get_915e3 rfl rfl rfl (by decide +kernel) ⟨Nat.le_of_ble_eq_true rfl, Nat.le_of_ble_eq_true rfl⟩) (mPreV hG hS hP hI hA (hP _ _ h_TL) (r := (RJx4a65c, TJx4a65c, 3)) rfl) rfl rfl hl.1 rfl (lv_room (Nat.le_of_ble_eq_true rfl)) dX7_section_52 ⟨Nat.le_of_ble_eq_true rfl, Nat.le_of_ble_eq_true rfl⟩) hS (fun r8 Mw1 H locs hp_r8 hP hI hS => ?_)
        obtain ⟨hp_r8, hm9⟩ := hp_r8
        subst Mw1
        subst hp_r8
        refine va_castE hx hb hown (hts (.classLink RX7 38 RX6) (by decide +kernel)) (va_recv hK (va_at.one (hP _ _ h_T)) (q0 := 0) (q := (RX6, TX6, 2)) rfl rfl) dX7_section_55 ?_
        refine m_getN (ci := 9) (v := .int (usS st (ix p0))) (C := RX6) (T := TX6) (N := 2) hx hb hts i_X6 hown hK (hP _ _ h_T) rfl 1 (by decide) (va_Nw.use rfl (hG.2.1.2.1 ("MeniscusModel", 66, "MeniscusModel$Tube", "isUsed", "Z", "MeniscusModel") (by decide +kernel))) (fun _ h9 => h9) rfl dX7_section_58 ?_
        rcases (hV.2.1 _ ht9.2).2 with hz9 | hz9
        · rw [hz9]
          refine lv_iconst (v := 3) hx hb dX7_section_61 (by decide) ?_
          refine m_calli (va_runV (As := [.int 0, .int 3]) (rest := []) ⟨hx, hb, hml, hown, hts⟩ (c_X7_isThrown0 l G A (mu (mu Mw (g.1 0 0) (.inr (10, [.ref (g.1 1 0), .ref (g.1 2 0), .int (gS st 2), .int (gS st 3), .int (gS st 1), .int (gS st 0), .int 0]))) (g.1 0 0) (.inr (10, [.ref (g.1 1 0), .ref (g.1 2 0), .int (gS st 2), .int (gS st 3), .int (gS st 1), .int (gS st 0), .int 0])))  3 h_X) (cwV 2 hts gX7_section_X7_isThrown rfl rfl rfl (by decide +kernel) ⟨Nat.le_of_ble_eq_true rfl, Nat.le_of_ble_eq_true rfl⟩) (mPreV hG hS hP hI hA (hP _ _ h_X) (r := (RX7, TX7, 7)) rfl) rfl rfl hl.1 rfl (lv_room (Nat.le_of_ble_eq_true rfl)) dX7_section_62 ⟨Nat.le_of_ble_eq_true rfl, Nat.le_of_ble_eq_true rfl⟩) hS (fun r9 Mw1 H locs hp_r9 hP hI hS => ?_)
          obtain ⟨hp_r9, hm9⟩ := hp_r9
          subst Mw1
          subst hp_r9
          have h_TL := mu_k (e := .inr (10, [.ref (g.1 1 0), .ref (g.1 2 0), .int (gS st 2), .int (gS st 3), .int (gS st 1), .int (gS st 0), .int 0])) (kd_ne h_TL h_X rfl) h_TL
          have h_IL := mu_k (e := .inr (10, [.ref (g.1 1 0), .ref (g.1 2 0), .int (gS st 2), .int (gS st 3), .int (gS st 1), .int (gS st 0), .int 0])) (kd_ne h_IL h_X rfl) h_IL
          have h_TD := mu_k (e := .inr (10, [.ref (g.1 1 0), .ref (g.1 2 0), .int (gS st 2), .int (gS st 3), .int (gS st 1), .int (gS st 0), .int 0])) (kd_ne h_TD h_X rfl) h_TD
          have h_T := mu_k (e := .inr (10, [.ref (g.1 1 0), .ref (g.1 2 0), .int (gS st 2), .int (gS st 3), .int (gS st 1), .int (gS st 0), .int 0])) (kd_ne h_T h_X rfl) h_T
          have h_B := mu_k (e := .inr (10, [.ref (g.1 1 0), .ref (g.1 2 0), .int (gS st 2), .int (gS st 3), .int (gS st 1), .int (gS st 0), .int 0])) (kd_ne h_B h_X rfl) h_B
          have h_X : (mu (mu (mu Mw (g.1 0 0) (.inr (10, [.ref (g.1 1 0), .ref (g.1 2 0), .int (gS st 2), .int (gS st 3), .int (gS st 1), .int (gS st 0), .int 0]))) (g.1 0 0) (.inr (10, [.ref (g.1 1 0), .ref (g.1 2 0), .int (gS st 2), .int (gS st 3), .int (gS st 1), .int (gS st 0), .int 0]))) (g.1 0 0) (.inr (10, [.ref (g.1 1 0), .ref (g.1 2 0), .int (gS st 2), .int (gS st 3), .int (gS st 1), .int (gS st 0), .int 0]))) (g.1 0 0) = some (.inr (10, [.ref (g.1 1 0), .ref (g.1 2 0), .int (gS st 2), .int (gS st 3), .int (gS st 1), .int (gS st 0), .int 0])) := mu_s
          refine lv_if_eq (tgt := 70) hx hb dX7_section_65 (by decide) (fun _ => ?_) (fun h9 => absurd h9 (by decide))
          refine lv_aload_n hx hb dX7_section_70 rfl (lv_at hl 0 rfl) ?_
          refine m_get (ci := 10) (v := .ref (g.1 1 0)) (C := RX7) (T := TX7) (N := 7) hx hb hts i_X7 hown hK (hP _ _ h_X) rfl 0 (by decide) (hts (.fieldLink RX7 10 "MeniscusModel" "tubes" "Ljava/util/ArrayList;") (by decide +kernel)) (fun _ h9 => h9) rfl dX7_section_71 ?_
          refine lv_iload_n hx hb dX7_section_74 rfl (lv_at hl 1 rfl) ?_
          refine m_callq (va_runV (As := [.int (nI (ix p0))]) (rest := []) ⟨hx, hb, hml, hown, hts⟩ (c_Jx4a65c_get_915e3 l G A (mu (mu (mu Mw (g.1 0 0) (.inr (10, [.ref (g.1 1 0), .ref (g.1 2 0), .int (gS st 2), .int (gS st 3), .int (gS st 1), .int (gS st 0), .int 0]))) (g.1 0 0) (.inr (10, [.ref (g.1 1 0), .ref (g.1 2 0), .int (gS st 2), .int (gS st 3), .int (gS st 1), .int (gS st 0), .int 0]))) (g.1 0 0) (.inr (10, [.ref (g.1 1 0), .ref (g.1 2 0), .int (gS st 2), .int (gS st 3), .int (gS st 1), .int (gS st 0), .int 0])))  h_TL h_TD (ix p0) (g.1 5 (ix p0)) ht9.2 hnT8 (qf_p ht9.2)) (cwV 1 hts gX7_section_Jx4a65c_get_915e3 rfl rfl rfl (by decide +kernel) ⟨Nat.le_of_ble_eq_true rfl, Nat.le_of_ble_eq_true rfl⟩) (mPreV hG hS hP hI hA (hP _ _ h_TL) (r := (RJx4a65c, TJx4a65c, 3)) rfl) rfl rfl hl.1 rfl (lv_room (Nat.le_of_ble_eq_true rfl)) dX7_section_75 ⟨Nat.le_of_ble_eq_true rfl, Nat.le_of_ble_eq_true rfl⟩) hS (fun r10 Mw1 H locs hp_r10 hP hI hS => ?_)
          obtain ⟨hp_r10, hm9⟩ := hp_r10
          subst Mw1
          subst hp_r10
          refine va_castE hx hb hown (hts (.classLink RX7 38 RX6) (by decide +kernel)) (va_recv hK (va_at.one (hP _ _ h_T)) (q0 := 0) (q := (RX6, TX6, 2)) rfl rfl) dX7_section_78 ?_
          refine m_getN (ci := 9) (v := .ref (g.1 6 (ix p0))) (C := RX6) (T := TX6) (N := 2) hx hb hts i_X6 hown hK (hP _ _ h_T) rfl 0 (by decide) (va_Nw.use rfl (hG.2.1.2.1 ("MeniscusModel", 41, "MeniscusModel$Tube", "bores", "[I", "MeniscusModel") (by decide +kernel))) (fun _ h9 => h9) rfl dX7_section_81 ?_
          refine lv_iload_n hx hb dX7_section_84 rfl (lv_at hl 2 rfl) ?_
          refine m_iald hx hb hK 0 (hP _ _ h_B) rfl (vp_19 hq_r3) dX7_section_85 ?_
          refine lv_istore (lv' := [(4, .int ((boS st (ix p0)) p1.toNatClampNeg)), (0, .ref (g.1 0 0)), (1, .int (nI (ix p0))), (2, .int p1), (3, .int p2)]) hx hb dX7_section_86 hl (by decide) rfl (fun ls hl => ?_)
          refine lv_aload_n hx hb dX7_section_88 rfl (lv_at hl 1 rfl) ?_
          refine m_get (ci := 10) (v := .ref (g.1 1 0)) (C := RX7) (T := TX7) (N := 7) hx hb hts i_X7 hown hK (hP _ _ h_X) rfl 0 (by decide) (hts (.fieldLink RX7 10 "MeniscusModel" "tubes" "Ljava/util/ArrayList;") (by decide +kernel)) (fun _ h9 => h9) rfl dX7_section_89 ?_
          refine lv_iload_n hx hb dX7_section_92 rfl (lv_at hl 2 rfl) ?_
          refine m_callq (va_runV (As := [.int (nI (ix p0))]) (rest := []) ⟨hx, hb, hml, hown, hts⟩ (c_Jx4a65c_get_915e3 l G A (mu (mu (mu Mw (g.1 0 0) (.inr (10, [.ref (g.1 1 0), .ref (g.1 2 0), .int (gS st 2), .int (gS st 3), .int (gS st 1), .int (gS st 0), .int 0]))) (g.1 0 0) (.inr (10, [.ref (g.1 1 0), .ref (g.1 2 0), .int (gS st 2), .int (gS st 3), .int (gS st 1), .int (gS st 0), .int 0]))) (g.1 0 0) (.inr (10, [.ref (g.1 1 0), .ref (g.1 2 0), .int (gS st 2), .int (gS st 3), .int (gS st 1), .int (gS st 0), .int 0])))  h_TL h_TD (ix p0) (g.1 5 (ix p0)) ht9.2 hnT8 (qf_p ht9.2)) (cwV 1 hts gX7_section_Jx4a65c_get_915e3 rfl rfl rfl (by decide +kernel) ⟨Nat.le_of_ble_eq_true rfl, Nat.le_of_ble_eq_true rfl⟩) (mPreV hG hS hP hI hA (hP _ _ h_TL) (r := (RJx4a65c, TJx4a65c, 3)) rfl) rfl rfl hl.1 rfl (lv_room (Nat.le_of_ble_eq_true rfl)) dX7_section_93 ⟨Nat.le_of_ble_eq_true rfl, Nat.le_of_ble_eq_true rfl⟩) hS (fun r11 Mw1 H locs hp_r11 hP hI hS => ?_)
          obtain ⟨hp_r11, hm9⟩ := hp_r11
          subst Mw1
          subst hp_r11
          refine va_castE hx hb hown (hts (.classLink RX7 38 RX6) (by decide +kernel)) (va_recv hK (va_at.one (hP _ _ h_T)) (q0 := 0) (q := (RX6, TX6, 2)) rfl rfl) dX7_section_96 ?_
          refine m_getN (ci := 9) (v := .ref (g.1 6 (ix p0))) (C := RX6) (T := TX6) (N := 2) hx hb hts i_X6 hown hK (hP _ _ h_T) rfl 0 (by decide) (va_Nw.use rfl (hG.2.1.2.1 ("MeniscusModel", 41, "MeniscusModel$Tube", "bores", "[I", "MeniscusModel") (by decide +kernel))) (fun _ h9 => h9) rfl dX7_section_99 ?_
          refine lv_iload_n hx hb dX7_section_102 rfl (lv_at hl 3 rfl) ?_
          refine lv_iload_n hx hb dX7_section_103 rfl (lv_at hl 4 rfl) ?_
          refine m_iast hx hb hK hP hI hS 0 h_B rfl (vp_19 hq_r3) dX7_section_104 (fun H locs hP hI hS => ?_)
          have h_X := mu_k (e := .inl (G.2.1 0, 20, .inl (upd (boS st (ix p0)) p1.toNatClampNeg p2))) (kd_ne h_X h_B rfl) h_X
          have h_TL := mu_k (e := .inl (G.2.1 0, 20, .inl (upd (boS st (ix p0)) p1.toNatClampNeg p2))) (kd_ne h_TL h_B rfl) h_TL
          have h_IL := mu_k (e := .inl (G.2.1 0, 20, .inl (upd (boS st (ix p0)) p1.toNatClampNeg p2))) (kd_ne h_IL h_B rfl) h_IL
          have h_TD := mu_k (e := .inl (G.2.1 0, 20, .inl (upd (boS st (ix p0)) p1.toNatClampNeg p2))) (kd_ne h_TD h_B rfl) h_TD
          have h_T := mu_k (e := .inl (G.2.1 0, 20, .inl (upd (boS st (ix p0)) p1.toNatClampNeg p2))) (kd_ne h_T h_B rfl) h_T
          have h_B : (mu (mu (mu (mu Mw (g.1 0 0) (.inr (10, [.ref (g.1 1 0), .ref (g.1 2 0), .int (gS st 2), .int (gS st 3), .int (gS st 1), .int (gS st 0), .int 0]))) (g.1 0 0) (.inr (10, [.ref (g.1 1 0), .ref (g.1 2 0), .int (gS st 2), .int (gS st 3), .int (gS st 1), .int (gS st 0), .int 0]))) (g.1 0 0) (.inr (10, [.ref (g.1 1 0), .ref (g.1 2 0), .int (gS st 2), .int (gS st 3), .int (gS st 1), .int (gS st 0), .int 0]))) (g.1 6 (ix p0)) (.inl (G.2.1 0, 20, .inl (upd (boS st (ix p0)) p1.toNatClampNeg p2)))) (g.1 6 (ix p0)) = some (.inl (G.2.1 0, 20, .inl (upd (boS st (ix p0)) p1.toNatClampNeg p2))) := mu_s
          refine lv_iload hx hb dX7_section_105 (lv_at hl 0 rfl) ?_
          refine W.widen (k := 0) (n := 0) (Nat.le_of_ble_eq_true rfl) (Nat.le_of_ble_eq_true rfl) ?_
          exact W.iret (v := (boS st (ix p0)) p1.toNatClampNeg) hx hb hr (fun t99 ht99 hW99 => ⟨⟨(boS st (ix p0)) p1.toNatClampNeg, (mu (mu (mu (mu Mw (g.1 0 0) (.inr (10, [.ref (g.1 1 0), .ref (g.1 2 0), .int (gS st 2), .int (gS st 3), .int (gS st 1), .int (gS st 0), .int 0]))) (g.1 0 0) (.inr (10, [.ref (g.1 1 0), .ref (g.1 2 0), .int (gS st 2), .int (gS st 3), .int (gS st 1), .int (gS st 0), .int 0]))) (g.1 0 0) (.inr (10, [.ref (g.1 1 0), .ref (g.1 2 0), .int (gS st 2), .int (gS st 3), .int (gS st 1), .int (gS st 0), .int 0]))) (g.1 6 (ix p0)) (.inl (G.2.1 0, 20, .inl (upd (boS st (ix p0)) p1.toNatClampNeg p2)))), rfl, RP.ok (by unfold m_section; first | (rw [chk_p ht9, chk_p hq_r3, chk_p hq_r5, chk_p hz9, brO_19 _ hq_r3]; done) | (rw [chk_p ht9, chk_p hq_r3, chk_p hq_r5, chk_p hz9, brO_19 _ hq_r3]; rfl)) (hR.bo ht9.2 p1 p2 0 h_X h_B (fun x9 e9 hx9 h0 h1 => ((mu_n h1).trans ((mu_n h0).trans ((mu_n h0).trans ((mu_n h0).trans (rfl))))).trans hx9)) rfl rfl, by rw [ht99]; exact hP, hI⟩, hS.F ht99⟩) hS.2.2 dX7_section_107
        · rw [hz9]
          refine lv_iconst (v := 3) hx hb dX7_section_61 (by decide) ?_
          refine m_calli (va_runV (As := [.int 1, .int 3]) (rest := []) ⟨hx, hb, hml, hown, hts⟩ (c_X7_isThrown1 l G A (mu (mu Mw (g.1 0 0) (.inr (10, [.ref (g.1 1 0), .ref (g.1 2 0), .int (gS st 2), .int (gS st 3), .int (gS st 1), .int (gS st 0), .int 0]))) (g.1 0 0) (.inr (10, [.ref (g.1 1 0), .ref (g.1 2 0), .int (gS st 2), .int (gS st 3), .int (gS st 1), .int (gS st 0), .int 0])))  3 h_X) (cwV 2 hts gX7_section_X7_isThrown rfl rfl rfl (by decide +kernel) ⟨Nat.le_of_ble_eq_true rfl, Nat.le_of_ble_eq_true rfl⟩) (mPreV hG hS hP hI hA (hP _ _ h_X) (r := (RX7, TX7, 7)) rfl) rfl rfl hl.1 rfl (lv_room (Nat.le_of_ble_eq_true rfl)) dX7_section_62 ⟨Nat.le_of_ble_eq_true rfl, Nat.le_of_ble_eq_true rfl⟩) hS (fun r12 Mw1 H locs hp_r12 hP hI hS => ?_)
          obtain ⟨hp_r12, hm9⟩ := hp_r12
          subst Mw1
          subst hp_r12
          have h_TL := mu_k (e := .inr (10, [.ref (g.1 1 0), .ref (g.1 2 0), .int (gS st 2), .int (gS st 3), .int (gS st 1), .int (gS st 0), .int 3])) (kd_ne h_TL h_X rfl) h_TL
          have h_IL := mu_k (e := .inr (10, [.ref (g.1 1 0), .ref (g.1 2 0), .int (gS st 2), .int (gS st 3), .int (gS st 1), .int (gS st 0), .int 3])) (kd_ne h_IL h_X rfl) h_IL
          have h_TD := mu_k (e := .inr (10, [.ref (g.1 1 0), .ref (g.1 2 0), .int (gS st 2), .int (gS st 3), .int (gS st 1), .int (gS st 0), .int 3])) (kd_ne h_TD h_X rfl) h_TD
          have h_T := mu_k (e := .inr (10, [.ref (g.1 1 0), .ref (g.1 2 0), .int (gS st 2), .int (gS st 3), .int (gS st 1), .int (gS st 0), .int 3])) (kd_ne h_T h_X rfl) h_T
          have h_B := mu_k (e := .inr (10, [.ref (g.1 1 0), .ref (g.1 2 0), .int (gS st 2), .int (gS st 3), .int (gS st 1), .int (gS st 0), .int 3])) (kd_ne h_B h_X rfl) h_B
          have h_X : (mu (mu (mu Mw (g.1 0 0) (.inr (10, [.ref (g.1 1 0), .ref (g.1 2 0), .int (gS st 2), .int (gS st 3), .int (gS st 1), .int (gS st 0), .int 0]))) (g.1 0 0) (.inr (10, [.ref (g.1 1 0), .ref (g.1 2 0), .int (gS st 2), .int (gS st 3), .int (gS st 1), .int (gS st 0), .int 0]))) (g.1 0 0) (.inr (10, [.ref (g.1 1 0), .ref (g.1 2 0), .int (gS st 2), .int (gS st 3), .int (gS st 1), .int (gS st 0), .int 3]))) (g.1 0 0) = some (.inr (10, [.ref (g.1 1 0), .ref (g.1 2 0), .int (gS st 2), .int (gS st 3), .int (gS st 1), .int (gS st 0), .int 3])) := mu_s
          refine lv_if_eq (tgt := 70) hx hb dX7_section_65 (by decide) (fun h9 => absurd h9 (by decide)) (fun _ => ?_)
          refine lv_iconst (v := 0) hx hb dX7_section_68 (by decide) ?_
          refine W.widen (k := 0) (n := 0) (Nat.le_of_ble_eq_true rfl) (Nat.le_of_ble_eq_true rfl) ?_
          exact W.iret (v := 0) hx hb hr (fun t99 ht99 hW99 => ⟨⟨0, (mu (mu (mu Mw (g.1 0 0) (.inr (10, [.ref (g.1 1 0), .ref (g.1 2 0), .int (gS st 2), .int (gS st 3), .int (gS st 1), .int (gS st 0), .int 0]))) (g.1 0 0) (.inr (10, [.ref (g.1 1 0), .ref (g.1 2 0), .int (gS st 2), .int (gS st 3), .int (gS st 1), .int (gS st 0), .int 0]))) (g.1 0 0) (.inr (10, [.ref (g.1 1 0), .ref (g.1 2 0), .int (gS st 2), .int (gS st 3), .int (gS st 1), .int (gS st 0), .int 3]))), rfl, RP.no (k := 3) (by unfold m_section; first | (rw [chk_p ht9, chk_p hq_r3, chk_p hq_r5, chk_n (fun q9 => by rw [hz9] at q9; exact absurd q9 (by decide))]; done) | (rw [chk_p ht9, chk_p hq_r3, chk_p hq_r5, chk_n (fun q9 => by rw [hz9] at q9; exact absurd q9 (by decide))]; rfl)) (by decide) (hR.th 3 h_X (fun x9 e9 hx9 h0 => ((mu_n h0).trans ((mu_n h0).trans ((mu_n h0).trans (rfl)))).trans hx9)) rfl rfl, by rw [ht99]; exact hP, hI⟩, hS.F ht99⟩) hS.2.2 dX7_section_69
  · subst hr9
    refine lv_iconst (v := 1) hx hb dX7_section_6 (by decide) ?_
    refine m_calli (va_runV (As := [.int 1, .int 1]) (rest := []) ⟨hx, hb, hml, hown, hts⟩ (c_X7_isThrown1 l G A Mw  1 h_X) (cwV 2 hts gX7_section_X7_isThrown rfl rfl rfl (by decide +kernel) ⟨Nat.le_of_ble_eq_true rfl, Nat.le_of_ble_eq_true rfl⟩) (mPreV hG hS hP hI hA (hP _ _ h_X) (r := (RX7, TX7, 7)) rfl) rfl rfl hl.1 rfl (lv_room (Nat.le_of_ble_eq_true rfl)) dX7_section_7 ⟨Nat.le_of_ble_eq_true rfl, Nat.le_of_ble_eq_true rfl⟩) hS (fun r13 Mw1 H locs hp_r13 hP hI hS => ?_)
    obtain ⟨hp_r13, hm9⟩ := hp_r13
    subst Mw1
    subst hp_r13
    have h_TL := mu_k (e := .inr (10, [.ref (g.1 1 0), .ref (g.1 2 0), .int (gS st 2), .int (gS st 3), .int (gS st 1), .int (gS st 0), .int 1])) (kd_ne h_TL h_X rfl) h_TL
    have h_IL := mu_k (e := .inr (10, [.ref (g.1 1 0), .ref (g.1 2 0), .int (gS st 2), .int (gS st 3), .int (gS st 1), .int (gS st 0), .int 1])) (kd_ne h_IL h_X rfl) h_IL
    have h_X : (mu Mw (g.1 0 0) (.inr (10, [.ref (g.1 1 0), .ref (g.1 2 0), .int (gS st 2), .int (gS st 3), .int (gS st 1), .int (gS st 0), .int 1]))) (g.1 0 0) = some (.inr (10, [.ref (g.1 1 0), .ref (g.1 2 0), .int (gS st 2), .int (gS st 3), .int (gS st 1), .int (gS st 0), .int 1])) := mu_s
    refine lv_if_ne (tgt := 68) hx hb dX7_section_10 (by decide) (fun _ => ?_) (fun h9 => absurd h9 (by decide))
    refine lv_iconst (v := 0) hx hb dX7_section_68 (by decide) ?_
    refine W.widen (k := 0) (n := 0) (Nat.le_of_ble_eq_true rfl) (Nat.le_of_ble_eq_true rfl) ?_
    exact W.iret (v := 0) hx hb hr (fun t99 ht99 hW99 => ⟨⟨0, (mu Mw (g.1 0 0) (.inr (10, [.ref (g.1 1 0), .ref (g.1 2 0), .int (gS st 2), .int (gS st 3), .int (gS st 1), .int (gS st 0), .int 1]))), rfl, RP.no (k := 1) (by unfold m_section; first | (rw [chk_n hq_r1]; done) | (rw [chk_n hq_r1]; rfl)) (by decide) (hR.th 1 h_X (fun x9 e9 hx9 h0 => ((mu_n h0).trans (rfl)).trans hx9)) rfl rfl, by rw [ht99]; exact hP, hI⟩, hS.F ht99⟩) hS.2.2 dX7_section_69

set_option maxHeartbeats 4000000 in
set_option maxRecDepth 100000 in
theorem c_X7_inside (l : Launch) (G : mg) (A : Nat → Prop) (Mw : mw) (st : St) (g : gR) (p0 : Int32) (hR : RS G st g Mw) (hV : Inv st) : Met l yX7_inside wsX7_inside ({ frames := 3, cells := 0, slots := 0, locals := 64 }) (va_Pc [.ref (g.1 0 0), .int p0] (mB G A Mw)) (va_Qi (fun r Mw1 => RP G (m_inside st p0) g r Mw1) (mE G A) A) 0 0 A := by
  refine Met.ofW (cc := cX7_inside) (maxL := 2) (ret := (some .int)) (by decide) rfl ?_
  intro p e s m args below meth c s₁ B hml hv
  obtain ⟨rfl, hG, hP, hI, hA⟩ := hv
  have hx := B.exec
  have hb := B.bytes
  have hr := B.returns
  have hts := atoms_spec (ws := wsX7_inside) B.pre
  have hown : s.vm.findClass RX7 = some m.cls := findClass_of_methodNamed B.named
  have hlocks := B.notSynchronized
  have hK := hG.K
  have i_X5 : ∀ w ∈ wsX50, w ∈ wsX7_inside := by decide +kernel
  have i_X7 : ∀ w ∈ wsX70, w ∈ wsX7_inside := by decide +kernel
  have hS : va_S A s.heap s.heap [] := va_S.rf
  have hl := lv_entry ([.ref (g.1 0 0), .int p0]) (n := 2) (Nat.le_of_ble_eq_true rfl)
  rw [lg_entry_eq]
  generalize (lg_sl ([.ref (g.1 0 0), .int p0]) ++ List.replicate (2 - (lg_sl ([.ref (g.1 0 0), .int p0])).length) Slot.unset).toArray = ls at hl ⊢
  have hl : lv_has ls 2 [(0, .ref (g.1 0 0)), (1, .int p0)] := hl
  have hP : mP G.1 Mw s.heap := hP
  have h_X : Mw (g.1 0 0) = some (.inr (10, [.ref (g.1 1 0), .ref (g.1 2 0), .int (gS st 2), .int (gS st 3), .int (gS st 1), .int (gS st 0), .int (thR g)])) := hR.1 0 0 ro0
  have h_TL : Mw (g.1 1 0) = some (.inr (2, [.int (mcR g 1 0), .ref (g.1 3 0), .int ((nI (nT st)))])) := hR.1 1 0 ro1
  have h_IL : Mw (g.1 2 0) = some (.inr (2, [.int (mcR g 2 0), .ref (g.1 4 0), .int ((nI (nN st)))])) := hR.1 2 0 ro2
  have hti9 := hR.ne ro1 ro2 (by omega)
  have hnT8 := hV.1.1
  have hnN8 := Nat.le_trans hV.1.2 (show 6 ≤ 8 by decide)
  refine lv_aload_n hx hb dX7_inside_0 rfl (lv_at hl 0 rfl) ?_
  refine lv_aload_n hx hb dX7_inside_1 rfl (lv_at hl 0 rfl) ?_
  refine lv_iload_n hx hb dX7_inside_2 rfl (lv_at hl 1 rfl) ?_
  refine m_calli (va_runV (As := [.int p0]) (rest := [.ref (g.1 0 0)]) ⟨hx, hb, hml, hown, hts⟩ (c_X7_isNone l G A Mw  p0 h_X h_IL hnN8) (cwV 1 hts gX7_inside_X7_isNone rfl rfl rfl (by decide +kernel) ⟨Nat.le_of_ble_eq_true rfl, Nat.le_of_ble_eq_true rfl⟩) (mPreV hG hS hP hI hA (hP _ _ h_X) (r := (RX7, TX7, 7)) rfl) rfl rfl hl.1 rfl (lv_room (Nat.le_of_ble_eq_true rfl)) dX7_inside_3 ⟨Nat.le_of_ble_eq_true rfl, Nat.le_of_ble_eq_true rfl⟩) hS (fun r1 Mw1 H locs hp_r1 hP hI hS => ?_)
  obtain ⟨hb9, hm9⟩ := hp_r1
  subst Mw1
  rcases hb9 with ⟨hr9, hq_r1⟩ | ⟨hr9, hq_r1⟩
  · subst hr9
    have hi9 := hq_r1
    have e_p0 : p0 = nI (ix p0) := nI_cl hi9.1
    rw [e_p0] at hl
    have hf4 := hR.f4 hi9.2
    have h_ID : Mw (g.1 4 0) = some (.inl (G.2.1 5, 10, .inr (.inr (.inr (.inr (qf (nN st) (g.1 7))))))) := hR.1 4 0 (ro4 hf4)
    have h_I : Mw (g.1 7 (ix p0)) = some (.inr (8, [.ref (g.1 5 (tbN st (ix p0))), .int (itS st (ix p0) 1), .int (sof (itS st (ix p0) 2)), .int (itS st (ix p0) 3), .int (itS st (ix p0) 7), .int (itS st (ix p0) 6), .int (itS st (ix p0) 5), .int (itS st (ix p0) 12), .int (itS st (ix p0) 13), .int (itS st (ix p0) 14), .int (itS st (ix p0) 15), .int (itS st (ix p0) 8), .int (itS st (ix p0) 9), .int (itS st (ix p0) 10), .int (ceR g (ix p0)), .ref (g.1 8 (ix p0)), .ref (g.1 9 (ix p0))])) := hR.1 7 _ (ro7 hi9.2)
    refine lv_iconst (v := 1) hx hb dX7_inside_6 (by decide) ?_
    refine m_calli (va_runV (As := [.int 0, .int 1]) (rest := []) ⟨hx, hb, hml, hown, hts⟩ (c_X7_isThrown0 l G A Mw  1 h_X) (cwV 2 hts gX7_inside_X7_isThrown rfl rfl rfl (by decide +kernel) ⟨Nat.le_of_ble_eq_true rfl, Nat.le_of_ble_eq_true rfl⟩) (mPreV hG hS hP hI hA (hP _ _ h_X) (r := (RX7, TX7, 7)) rfl) rfl rfl hl.1 rfl (lv_room (Nat.le_of_ble_eq_true rfl)) dX7_inside_7 ⟨Nat.le_of_ble_eq_true rfl, Nat.le_of_ble_eq_true rfl⟩) hS (fun r2 Mw1 H locs hp_r2 hP hI hS => ?_)
    obtain ⟨hp_r2, hm9⟩ := hp_r2
    subst Mw1
    subst hp_r2
    have h_TL := mu_k (e := .inr (10, [.ref (g.1 1 0), .ref (g.1 2 0), .int (gS st 2), .int (gS st 3), .int (gS st 1), .int (gS st 0), .int 0])) (kd_ne h_TL h_X rfl) h_TL
    have h_IL := mu_k (e := .inr (10, [.ref (g.1 1 0), .ref (g.1 2 0), .int (gS st 2), .int (gS st 3), .int (gS st 1), .int (gS st 0), .int 0])) (kd_ne h_IL h_X rfl) h_IL
    have h_ID := mu_k (e := .inr (10, [.ref (g.1 1 0), .ref (g.1 2 0), .int (gS st 2), .int (gS st 3), .int (gS st 1), .int (gS st 0), .int 0])) (kd_ne h_ID h_X rfl) h_ID
    have h_I := mu_k (e := .inr (10, [.ref (g.1 1 0), .ref (g.1 2 0), .int (gS st 2), .int (gS st 3), .int (gS st 1), .int (gS st 0), .int 0])) (kd_ne h_I h_X rfl) h_I
    have h_X : (mu Mw (g.1 0 0) (.inr (10, [.ref (g.1 1 0), .ref (g.1 2 0), .int (gS st 2), .int (gS st 3), .int (gS st 1), .int (gS st 0), .int 0]))) (g.1 0 0) = some (.inr (10, [.ref (g.1 1 0), .ref (g.1 2 0), .int (gS st 2), .int (gS st 3), .int (gS st 1), .int (gS st 0), .int 0])) := mu_s
    refine lv_if_eq (tgt := 17) hx hb dX7_inside_10 (by decide) (fun _ => ?_) (fun h9 => absurd h9 (by decide))
    refine lv_aload_n hx hb dX7_inside_17 rfl (lv_at hl 0 rfl) ?_
    refine m_get (ci := 10) (v := .ref (g.1 2 0)) (C := RX7) (T := TX7) (N := 7) hx hb hts i_X7 hown hK (hP _ _ h_X) rfl 1 (by decide) (hts (.fieldLink RX7 16 "MeniscusModel" "instruments" "Ljava/util/ArrayList;") (by decide +kernel)) (fun _ h9 => h9) rfl dX7_inside_18 ?_
    refine lv_iload_n hx hb dX7_inside_21 rfl (lv_at hl 1 rfl) ?_
    refine m_callq (va_runV (As := [.int (nI (ix p0))]) (rest := []) ⟨hx, hb, hml, hown, hts⟩ (c_Jx4a65c_get_915e3 l G A (mu Mw (g.1 0 0) (.inr (10, [.ref (g.1 1 0), .ref (g.1 2 0), .int (gS st 2), .int (gS st 3), .int (gS st 1), .int (gS st 0), .int 0])))  h_IL h_ID (ix p0) (g.1 7 (ix p0)) hi9.2 hnN8 (qf_p hi9.2)) (cwV 1 hts gX7_inside_Jx4a65c_get_915e3 rfl rfl rfl (by decide +kernel) ⟨Nat.le_of_ble_eq_true rfl, Nat.le_of_ble_eq_true rfl⟩) (mPreV hG hS hP hI hA (hP _ _ h_IL) (r := (RJx4a65c, TJx4a65c, 3)) rfl) rfl rfl hl.1 rfl (lv_room (Nat.le_of_ble_eq_true rfl)) dX7_inside_22 ⟨Nat.le_of_ble_eq_true rfl, Nat.le_of_ble_eq_true rfl⟩) hS (fun r3 Mw1 H locs hp_r3 hP hI hS => ?_)
    obtain ⟨hp_r3, hm9⟩ := hp_r3
    subst Mw1
    subst hp_r3
    refine va_castE hx hb hown (hts (.classLink RX7 79 RX5) (by decide +kernel)) (va_recv hK (va_at.one (hP _ _ h_I)) (q0 := 0) (q := (RX5, TX5, 17)) rfl rfl) dX7_inside_25 ?_
    refine m_getN (ci := 8) (v := .int (itS st (ix p0) 7)) (C := RX5) (T := TX5) (N := 17) hx hb hts i_X5 hown hK (hP _ _ h_I) rfl 4 (by decide) (va_Nw.use rfl (hG.2.1.2.1 ("MeniscusModel", 107, "MeniscusModel$Instrument", "inside", "I", "MeniscusModel") (by decide +kernel))) (fun _ h9 => h9) rfl dX7_inside_28 ?_
    refine W.widen (k := 0) (n := 0) (Nat.le_of_ble_eq_true rfl) (Nat.le_of_ble_eq_true rfl) ?_
    exact W.iret (v := itS st (ix p0) 7) hx hb hr (fun t99 ht99 hW99 => ⟨⟨itS st (ix p0) 7, (mu Mw (g.1 0 0) (.inr (10, [.ref (g.1 1 0), .ref (g.1 2 0), .int (gS st 2), .int (gS st 3), .int (gS st 1), .int (gS st 0), .int 0]))), rfl, RP.ok (by unfold m_inside; first | (rw [chk_p hi9]; done) | (rw [chk_p hi9]; rfl)) (hR.th 0 h_X (fun x9 e9 hx9 h0 => ((mu_n h0).trans (rfl)).trans hx9)) rfl rfl, by rw [ht99]; exact hP, hI⟩, hS.F ht99⟩) hS.2.2 dX7_inside_31
  · subst hr9
    refine lv_iconst (v := 1) hx hb dX7_inside_6 (by decide) ?_
    refine m_calli (va_runV (As := [.int 1, .int 1]) (rest := []) ⟨hx, hb, hml, hown, hts⟩ (c_X7_isThrown1 l G A Mw  1 h_X) (cwV 2 hts gX7_inside_X7_isThrown rfl rfl rfl (by decide +kernel) ⟨Nat.le_of_ble_eq_true rfl, Nat.le_of_ble_eq_true rfl⟩) (mPreV hG hS hP hI hA (hP _ _ h_X) (r := (RX7, TX7, 7)) rfl) rfl rfl hl.1 rfl (lv_room (Nat.le_of_ble_eq_true rfl)) dX7_inside_7 ⟨Nat.le_of_ble_eq_true rfl, Nat.le_of_ble_eq_true rfl⟩) hS (fun r4 Mw1 H locs hp_r4 hP hI hS => ?_)
    obtain ⟨hp_r4, hm9⟩ := hp_r4
    subst Mw1
    subst hp_r4
    have h_TL := mu_k (e := .inr (10, [.ref (g.1 1 0), .ref (g.1 2 0), .int (gS st 2), .int (gS st 3), .int (gS st 1), .int (gS st 0), .int 1])) (kd_ne h_TL h_X rfl) h_TL
    have h_IL := mu_k (e := .inr (10, [.ref (g.1 1 0), .ref (g.1 2 0), .int (gS st 2), .int (gS st 3), .int (gS st 1), .int (gS st 0), .int 1])) (kd_ne h_IL h_X rfl) h_IL
    have h_X : (mu Mw (g.1 0 0) (.inr (10, [.ref (g.1 1 0), .ref (g.1 2 0), .int (gS st 2), .int (gS st 3), .int (gS st 1), .int (gS st 0), .int 1]))) (g.1 0 0) = some (.inr (10, [.ref (g.1 1 0), .ref (g.1 2 0), .int (gS st 2), .int (gS st 3), .int (gS st 1), .int (gS st 0), .int 1])) := mu_s
    refine lv_if_eq (tgt := 17) hx hb dX7_inside_10 (by decide) (fun h9 => absurd h9 (by decide)) (fun _ => ?_)
    refine lv_iconst (v := 0) hx hb dX7_inside_13 (by decide) ?_
    refine lv_goto (tgt := 31) hx hb dX7_inside_14 (by decide) ?_
    refine W.widen (k := 0) (n := 0) (Nat.le_of_ble_eq_true rfl) (Nat.le_of_ble_eq_true rfl) ?_
    exact W.iret (v := 0) hx hb hr (fun t99 ht99 hW99 => ⟨⟨0, (mu Mw (g.1 0 0) (.inr (10, [.ref (g.1 1 0), .ref (g.1 2 0), .int (gS st 2), .int (gS st 3), .int (gS st 1), .int (gS st 0), .int 1]))), rfl, RP.no (k := 1) (by unfold m_inside; first | (rw [chk_n hq_r1]; done) | (rw [chk_n hq_r1]; rfl)) (by decide) (hR.th 1 h_X (fun x9 e9 hx9 h0 => ((mu_n h0).trans (rfl)).trans hx9)) rfl rfl, by rw [ht99]; exact hP, hI⟩, hS.F ht99⟩) hS.2.2 dX7_inside_31

set_option maxHeartbeats 4000000 in
set_option maxRecDepth 100000 in
theorem c_X7_crept (l : Launch) (G : mg) (A : Nat → Prop) (Mw : mw) (st : St) (g : gR) (p0 : Int32) (hR : RS G st g Mw) (hV : Inv st) : Met l yX7_crept wsX7_crept ({ frames := 3, cells := 0, slots := 0, locals := 64 }) (va_Pc [.ref (g.1 0 0), .int p0] (mB G A Mw)) (va_Qi (fun r Mw1 => RP G (m_crept st p0) g r Mw1) (mE G A) A) 0 0 A := by
  refine Met.ofW (cc := cX7_crept) (maxL := 2) (ret := (some .int)) (by decide) rfl ?_
  intro p e s m args below meth c s₁ B hml hv
  obtain ⟨rfl, hG, hP, hI, hA⟩ := hv
  have hx := B.exec
  have hb := B.bytes
  have hr := B.returns
  have hts := atoms_spec (ws := wsX7_crept) B.pre
  have hown : s.vm.findClass RX7 = some m.cls := findClass_of_methodNamed B.named
  have hlocks := B.notSynchronized
  have hK := hG.K
  have i_X5 : ∀ w ∈ wsX50, w ∈ wsX7_crept := by decide +kernel
  have i_X7 : ∀ w ∈ wsX70, w ∈ wsX7_crept := by decide +kernel
  have hS : va_S A s.heap s.heap [] := va_S.rf
  have hl := lv_entry ([.ref (g.1 0 0), .int p0]) (n := 2) (Nat.le_of_ble_eq_true rfl)
  rw [lg_entry_eq]
  generalize (lg_sl ([.ref (g.1 0 0), .int p0]) ++ List.replicate (2 - (lg_sl ([.ref (g.1 0 0), .int p0])).length) Slot.unset).toArray = ls at hl ⊢
  have hl : lv_has ls 2 [(0, .ref (g.1 0 0)), (1, .int p0)] := hl
  have hP : mP G.1 Mw s.heap := hP
  have h_X : Mw (g.1 0 0) = some (.inr (10, [.ref (g.1 1 0), .ref (g.1 2 0), .int (gS st 2), .int (gS st 3), .int (gS st 1), .int (gS st 0), .int (thR g)])) := hR.1 0 0 ro0
  have h_TL : Mw (g.1 1 0) = some (.inr (2, [.int (mcR g 1 0), .ref (g.1 3 0), .int ((nI (nT st)))])) := hR.1 1 0 ro1
  have h_IL : Mw (g.1 2 0) = some (.inr (2, [.int (mcR g 2 0), .ref (g.1 4 0), .int ((nI (nN st)))])) := hR.1 2 0 ro2
  have hti9 := hR.ne ro1 ro2 (by omega)
  have hnT8 := hV.1.1
  have hnN8 := Nat.le_trans hV.1.2 (show 6 ≤ 8 by decide)
  refine lv_aload_n hx hb dX7_crept_0 rfl (lv_at hl 0 rfl) ?_
  refine lv_aload_n hx hb dX7_crept_1 rfl (lv_at hl 0 rfl) ?_
  refine lv_iload_n hx hb dX7_crept_2 rfl (lv_at hl 1 rfl) ?_
  refine m_calli (va_runV (As := [.int p0]) (rest := [.ref (g.1 0 0)]) ⟨hx, hb, hml, hown, hts⟩ (c_X7_isNone l G A Mw  p0 h_X h_IL hnN8) (cwV 1 hts gX7_crept_X7_isNone rfl rfl rfl (by decide +kernel) ⟨Nat.le_of_ble_eq_true rfl, Nat.le_of_ble_eq_true rfl⟩) (mPreV hG hS hP hI hA (hP _ _ h_X) (r := (RX7, TX7, 7)) rfl) rfl rfl hl.1 rfl (lv_room (Nat.le_of_ble_eq_true rfl)) dX7_crept_3 ⟨Nat.le_of_ble_eq_true rfl, Nat.le_of_ble_eq_true rfl⟩) hS (fun r1 Mw1 H locs hp_r1 hP hI hS => ?_)
  obtain ⟨hb9, hm9⟩ := hp_r1
  subst Mw1
  rcases hb9 with ⟨hr9, hq_r1⟩ | ⟨hr9, hq_r1⟩
  · subst hr9
    have hi9 := hq_r1
    have e_p0 : p0 = nI (ix p0) := nI_cl hi9.1
    rw [e_p0] at hl
    have hf4 := hR.f4 hi9.2
    have h_ID : Mw (g.1 4 0) = some (.inl (G.2.1 5, 10, .inr (.inr (.inr (.inr (qf (nN st) (g.1 7))))))) := hR.1 4 0 (ro4 hf4)
    have h_I : Mw (g.1 7 (ix p0)) = some (.inr (8, [.ref (g.1 5 (tbN st (ix p0))), .int (itS st (ix p0) 1), .int (sof (itS st (ix p0) 2)), .int (itS st (ix p0) 3), .int (itS st (ix p0) 7), .int (itS st (ix p0) 6), .int (itS st (ix p0) 5), .int (itS st (ix p0) 12), .int (itS st (ix p0) 13), .int (itS st (ix p0) 14), .int (itS st (ix p0) 15), .int (itS st (ix p0) 8), .int (itS st (ix p0) 9), .int (itS st (ix p0) 10), .int (ceR g (ix p0)), .ref (g.1 8 (ix p0)), .ref (g.1 9 (ix p0))])) := hR.1 7 _ (ro7 hi9.2)
    refine lv_iconst (v := 1) hx hb dX7_crept_6 (by decide) ?_
    refine m_calli (va_runV (As := [.int 0, .int 1]) (rest := []) ⟨hx, hb, hml, hown, hts⟩ (c_X7_isThrown0 l G A Mw  1 h_X) (cwV 2 hts gX7_crept_X7_isThrown rfl rfl rfl (by decide +kernel) ⟨Nat.le_of_ble_eq_true rfl, Nat.le_of_ble_eq_true rfl⟩) (mPreV hG hS hP hI hA (hP _ _ h_X) (r := (RX7, TX7, 7)) rfl) rfl rfl hl.1 rfl (lv_room (Nat.le_of_ble_eq_true rfl)) dX7_crept_7 ⟨Nat.le_of_ble_eq_true rfl, Nat.le_of_ble_eq_true rfl⟩) hS (fun r2 Mw1 H locs hp_r2 hP hI hS => ?_)
    obtain ⟨hp_r2, hm9⟩ := hp_r2
    subst Mw1
    subst hp_r2
    have h_TL := mu_k (e := .inr (10, [.ref (g.1 1 0), .ref (g.1 2 0), .int (gS st 2), .int (gS st 3), .int (gS st 1), .int (gS st 0), .int 0])) (kd_ne h_TL h_X rfl) h_TL
    have h_IL := mu_k (e := .inr (10, [.ref (g.1 1 0), .ref (g.1 2 0), .int (gS st 2), .int (gS st 3), .int (gS st 1), .int (gS st 0), .int 0])) (kd_ne h_IL h_X rfl) h_IL
    have h_ID := mu_k (e := .inr (10, [.ref (g.1 1 0), .ref (g.1 2 0), .int (gS st 2), .int (gS st 3), .int (gS st 1), .int (gS st 0), .int 0])) (kd_ne h_ID h_X rfl) h_ID
    have h_I := mu_k (e := .inr (10, [.ref (g.1 1 0), .ref (g.1 2 0), .int (gS st 2), .int (gS st 3), .int (gS st 1), .int (gS st 0), .int 0])) (kd_ne h_I h_X rfl) h_I
    have h_X : (mu Mw (g.1 0 0) (.inr (10, [.ref (g.1 1 0), .ref (g.1 2 0), .int (gS st 2), .int (gS st 3), .int (gS st 1), .int (gS st 0), .int 0]))) (g.1 0 0) = some (.inr (10, [.ref (g.1 1 0), .ref (g.1 2 0), .int (gS st 2), .int (gS st 3), .int (gS st 1), .int (gS st 0), .int 0])) := mu_s
    refine lv_if_eq (tgt := 17) hx hb dX7_crept_10 (by decide) (fun _ => ?_) (fun h9 => absurd h9 (by decide))
    refine lv_aload_n hx hb dX7_crept_17 rfl (lv_at hl 0 rfl) ?_
    refine m_get (ci := 10) (v := .ref (g.1 2 0)) (C := RX7) (T := TX7) (N := 7) hx hb hts i_X7 hown hK (hP _ _ h_X) rfl 1 (by decide) (hts (.fieldLink RX7 16 "MeniscusModel" "instruments" "Ljava/util/ArrayList;") (by decide +kernel)) (fun _ h9 => h9) rfl dX7_crept_18 ?_
    refine lv_iload_n hx hb dX7_crept_21 rfl (lv_at hl 1 rfl) ?_
    refine m_callq (va_runV (As := [.int (nI (ix p0))]) (rest := []) ⟨hx, hb, hml, hown, hts⟩ (c_Jx4a65c_get_915e3 l G A (mu Mw (g.1 0 0) (.inr (10, [.ref (g.1 1 0), .ref (g.1 2 0), .int (gS st 2), .int (gS st 3), .int (gS st 1), .int (gS st 0), .int 0])))  h_IL h_ID (ix p0) (g.1 7 (ix p0)) hi9.2 hnN8 (qf_p hi9.2)) (cwV 1 hts gX7_crept_Jx4a65c_get_915e3 rfl rfl rfl (by decide +kernel) ⟨Nat.le_of_ble_eq_true rfl, Nat.le_of_ble_eq_true rfl⟩) (mPreV hG hS hP hI hA (hP _ _ h_IL) (r := (RJx4a65c, TJx4a65c, 3)) rfl) rfl rfl hl.1 rfl (lv_room (Nat.le_of_ble_eq_true rfl)) dX7_crept_22 ⟨Nat.le_of_ble_eq_true rfl, Nat.le_of_ble_eq_true rfl⟩) hS (fun r3 Mw1 H locs hp_r3 hP hI hS => ?_)
    obtain ⟨hp_r3, hm9⟩ := hp_r3
    subst Mw1
    subst hp_r3
    refine va_castE hx hb hown (hts (.classLink RX7 79 RX5) (by decide +kernel)) (va_recv hK (va_at.one (hP _ _ h_I)) (q0 := 0) (q := (RX5, TX5, 17)) rfl rfl) dX7_crept_25 ?_
    refine m_getN (ci := 8) (v := .int (itS st (ix p0) 3)) (C := RX5) (T := TX5) (N := 17) hx hb hts i_X5 hown hK (hP _ _ h_I) rfl 3 (by decide) (va_Nw.use rfl (hG.2.1.2.1 ("MeniscusModel", 93, "MeniscusModel$Instrument", "crept", "I", "MeniscusModel") (by decide +kernel))) (fun _ h9 => h9) rfl dX7_crept_28 ?_
    refine W.widen (k := 0) (n := 0) (Nat.le_of_ble_eq_true rfl) (Nat.le_of_ble_eq_true rfl) ?_
    exact W.iret (v := itS st (ix p0) 3) hx hb hr (fun t99 ht99 hW99 => ⟨⟨itS st (ix p0) 3, (mu Mw (g.1 0 0) (.inr (10, [.ref (g.1 1 0), .ref (g.1 2 0), .int (gS st 2), .int (gS st 3), .int (gS st 1), .int (gS st 0), .int 0]))), rfl, RP.ok (by unfold m_crept; first | (rw [chk_p hi9]; done) | (rw [chk_p hi9]; rfl)) (hR.th 0 h_X (fun x9 e9 hx9 h0 => ((mu_n h0).trans (rfl)).trans hx9)) rfl rfl, by rw [ht99]; exact hP, hI⟩, hS.F ht99⟩) hS.2.2 dX7_crept_31
  · subst hr9
    refine lv_iconst (v := 1) hx hb dX7_crept_6 (by decide) ?_
    refine m_calli (va_runV (As := [.int 1, .int 1]) (rest := []) ⟨hx, hb, hml, hown, hts⟩ (c_X7_isThrown1 l G A Mw  1 h_X) (cwV 2 hts gX7_crept_X7_isThrown rfl rfl rfl (by decide +kernel) ⟨Nat.le_of_ble_eq_true rfl, Nat.le_of_ble_eq_true rfl⟩) (mPreV hG hS hP hI hA (hP _ _ h_X) (r := (RX7, TX7, 7)) rfl) rfl rfl hl.1 rfl (lv_room (Nat.le_of_ble_eq_true rfl)) dX7_crept_7 ⟨Nat.le_of_ble_eq_true rfl, Nat.le_of_ble_eq_true rfl⟩) hS (fun r4 Mw1 H locs hp_r4 hP hI hS => ?_)
    obtain ⟨hp_r4, hm9⟩ := hp_r4
    subst Mw1
    subst hp_r4
    have h_TL := mu_k (e := .inr (10, [.ref (g.1 1 0), .ref (g.1 2 0), .int (gS st 2), .int (gS st 3), .int (gS st 1), .int (gS st 0), .int 1])) (kd_ne h_TL h_X rfl) h_TL
    have h_IL := mu_k (e := .inr (10, [.ref (g.1 1 0), .ref (g.1 2 0), .int (gS st 2), .int (gS st 3), .int (gS st 1), .int (gS st 0), .int 1])) (kd_ne h_IL h_X rfl) h_IL
    have h_X : (mu Mw (g.1 0 0) (.inr (10, [.ref (g.1 1 0), .ref (g.1 2 0), .int (gS st 2), .int (gS st 3), .int (gS st 1), .int (gS st 0), .int 1]))) (g.1 0 0) = some (.inr (10, [.ref (g.1 1 0), .ref (g.1 2 0), .int (gS st 2), .int (gS st 3), .int (gS st 1), .int (gS st 0), .int 1])) := mu_s
    refine lv_if_eq (tgt := 17) hx hb dX7_crept_10 (by decide) (fun h9 => absurd h9 (by decide)) (fun _ => ?_)
    refine lv_iconst (v := 0) hx hb dX7_crept_13 (by decide) ?_
    refine lv_goto (tgt := 31) hx hb dX7_crept_14 (by decide) ?_
    refine W.widen (k := 0) (n := 0) (Nat.le_of_ble_eq_true rfl) (Nat.le_of_ble_eq_true rfl) ?_
    exact W.iret (v := 0) hx hb hr (fun t99 ht99 hW99 => ⟨⟨0, (mu Mw (g.1 0 0) (.inr (10, [.ref (g.1 1 0), .ref (g.1 2 0), .int (gS st 2), .int (gS st 3), .int (gS st 1), .int (gS st 0), .int 1]))), rfl, RP.no (k := 1) (by unfold m_crept; first | (rw [chk_n hq_r1]; done) | (rw [chk_n hq_r1]; rfl)) (by decide) (hR.th 1 h_X (fun x9 e9 hx9 h0 => ((mu_n h0).trans (rfl)).trans hx9)) rfl rfl, by rw [ht99]; exact hP, hI⟩, hS.F ht99⟩) hS.2.2 dX7_crept_31

set_option maxHeartbeats 4000000 in
set_option maxRecDepth 100000 in
theorem c_X7_air (l : Launch) (G : mg) (A : Nat → Prop) (Mw : mw) (st : St) (g : gR) (p0 : Int32) (hR : RS G st g Mw) (hV : Inv st) : Met l yX7_air wsX7_air ({ frames := 2, cells := 0, slots := 0, locals := 42 }) (va_Pc [.ref (g.1 0 0), .int p0] (mB G A Mw)) (va_Qi (fun r Mw1 => RP G (m_air st p0) g r Mw1) (mE G A) A) 0 0 A := by
  refine Met.ofW (cc := cX7_air) (maxL := 3) (ret := (some .int)) (by decide) rfl ?_
  intro p e s m args below meth c s₁ B hml hv
  obtain ⟨rfl, hG, hP, hI, hA⟩ := hv
  have hx := B.exec
  have hb := B.bytes
  have hr := B.returns
  have hts := atoms_spec (ws := wsX7_air) B.pre
  have hown : s.vm.findClass RX7 = some m.cls := findClass_of_methodNamed B.named
  have hlocks := B.notSynchronized
  have hK := hG.K
  have i_X7 : ∀ w ∈ wsX70, w ∈ wsX7_air := by decide +kernel
  have hS : va_S A s.heap s.heap [] := va_S.rf
  have hl := lv_entry ([.ref (g.1 0 0), .int p0]) (n := 3) (Nat.le_of_ble_eq_true rfl)
  rw [lg_entry_eq]
  generalize (lg_sl ([.ref (g.1 0 0), .int p0]) ++ List.replicate (3 - (lg_sl ([.ref (g.1 0 0), .int p0])).length) Slot.unset).toArray = ls at hl ⊢
  have hl : lv_has ls 3 [(0, .ref (g.1 0 0)), (1, .int p0)] := hl
  have hP : mP G.1 Mw s.heap := hP
  have h_X : Mw (g.1 0 0) = some (.inr (10, [.ref (g.1 1 0), .ref (g.1 2 0), .int (gS st 2), .int (gS st 3), .int (gS st 1), .int (gS st 0), .int (thR g)])) := hR.1 0 0 ro0
  have h_TL : Mw (g.1 1 0) = some (.inr (2, [.int (mcR g 1 0), .ref (g.1 3 0), .int ((nI (nT st)))])) := hR.1 1 0 ro1
  have h_IL : Mw (g.1 2 0) = some (.inr (2, [.int (mcR g 2 0), .ref (g.1 4 0), .int ((nI (nN st)))])) := hR.1 2 0 ro2
  have hti9 := hR.ne ro1 ro2 (by omega)
  have hnT8 := hV.1.1
  have hnN8 := Nat.le_trans hV.1.2 (show 6 ≤ 8 by decide)
  refine lv_aload_n hx hb dX7_air_0 rfl (lv_at hl 0 rfl) ?_
  refine lv_iload_n hx hb dX7_air_1 rfl (lv_at hl 1 rfl) ?_
  refine m_calli (va_runS (As := [.int p0]) (rest := [.ref (g.1 0 0)]) ⟨hx, hb, hml, hown, hts⟩ (c_X7_isNoHeat l G A Mw  p0) (va_cwS 1 hts gX7_air_X7_isNoHeat rfl rfl rfl (by decide +kernel) ⟨Nat.le_of_ble_eq_true rfl, Nat.le_of_ble_eq_true rfl⟩) (mPreS hG hS hP hI hA) rfl rfl hl.1 rfl (lv_room (Nat.le_of_ble_eq_true rfl)) dX7_air_2 ⟨Nat.le_of_ble_eq_true rfl, Nat.le_of_ble_eq_true rfl⟩) hS (fun r1 Mw1 H locs hp_r1 hP hI hS => ?_)
  obtain ⟨hb9, hm9⟩ := hp_r1
  subst Mw1
  rcases hb9 with ⟨hr9, hq_r1⟩ | ⟨hr9, hq_r1⟩
  · subst hr9
    refine lv_iconst (v := 1) hx hb dX7_air_5 (by decide) ?_
    refine m_calli (va_runV (As := [.int 0, .int 1]) (rest := []) ⟨hx, hb, hml, hown, hts⟩ (c_X7_isThrown0 l G A Mw  1 h_X) (cwV 2 hts gX7_air_X7_isThrown rfl rfl rfl (by decide +kernel) ⟨Nat.le_of_ble_eq_true rfl, Nat.le_of_ble_eq_true rfl⟩) (mPreV hG hS hP hI hA (hP _ _ h_X) (r := (RX7, TX7, 7)) rfl) rfl rfl hl.1 rfl (lv_room (Nat.le_of_ble_eq_true rfl)) dX7_air_6 ⟨Nat.le_of_ble_eq_true rfl, Nat.le_of_ble_eq_true rfl⟩) hS (fun r2 Mw1 H locs hp_r2 hP hI hS => ?_)
    obtain ⟨hp_r2, hm9⟩ := hp_r2
    subst Mw1
    subst hp_r2
    have h_TL := mu_k (e := .inr (10, [.ref (g.1 1 0), .ref (g.1 2 0), .int (gS st 2), .int (gS st 3), .int (gS st 1), .int (gS st 0), .int 0])) (kd_ne h_TL h_X rfl) h_TL
    have h_IL := mu_k (e := .inr (10, [.ref (g.1 1 0), .ref (g.1 2 0), .int (gS st 2), .int (gS st 3), .int (gS st 1), .int (gS st 0), .int 0])) (kd_ne h_IL h_X rfl) h_IL
    have h_X : (mu Mw (g.1 0 0) (.inr (10, [.ref (g.1 1 0), .ref (g.1 2 0), .int (gS st 2), .int (gS st 3), .int (gS st 1), .int (gS st 0), .int 0]))) (g.1 0 0) = some (.inr (10, [.ref (g.1 1 0), .ref (g.1 2 0), .int (gS st 2), .int (gS st 3), .int (gS st 1), .int (gS st 0), .int 0])) := mu_s
    refine lv_if_eq (tgt := 14) hx hb dX7_air_9 (by decide) (fun _ => ?_) (fun h9 => absurd h9 (by decide))
    refine lv_aload_n hx hb dX7_air_14 rfl (lv_at hl 0 rfl) ?_
    refine m_get (ci := 10) (v := .int (gS st 0)) (C := RX7) (T := TX7) (N := 7) hx hb hts i_X7 hown hK (hP _ _ h_X) rfl 5 (by decide) (hts (.fieldLink RX7 19 "MeniscusModel" "air" "I") (by decide +kernel)) (fun _ h9 => h9) rfl dX7_air_15 ?_
    refine lv_istore_n (lv' := [(2, .int (gS st 0)), (0, .ref (g.1 0 0)), (1, .int p0)]) hx hb dX7_air_18 rfl hl (by decide) rfl (fun ls hl => ?_)
    refine lv_aload_n hx hb dX7_air_19 rfl (lv_at hl 1 rfl) ?_
    refine lv_iload_n hx hb dX7_air_20 rfl (lv_at hl 2 rfl) ?_
    refine m_put (ci := 10) (v := .int p0) (ty := .int) (C := RX7) (T := TX7) (N := 7) hx hb hts i_X7 tyX7 tyX7_ok nmX7 hown hK hP hI hS h_X rfl 5 (by decide) (hts (.fieldLink RX7 19 "MeniscusModel" "air" "I") (by decide +kernel)) (fun _ h9 => h9) rfl (by decide +kernel) rfl rfl (Nat.le_of_ble_eq_true rfl) dX7_air_21 (fun H locs hP hI hS => ?_)
    have hP : mP G.1 (mu (mu Mw (g.1 0 0) (.inr (10, [.ref (g.1 1 0), .ref (g.1 2 0), .int (gS st 2), .int (gS st 3), .int (gS st 1), .int (gS st 0), .int 0]))) (g.1 0 0) (.inr (10, [.ref (g.1 1 0), .ref (g.1 2 0), .int (gS st 2), .int (gS st 3), .int (gS st 1), .int p0, .int 0]))) H := hP
    have hI : mI A (mu (mu Mw (g.1 0 0) (.inr (10, [.ref (g.1 1 0), .ref (g.1 2 0), .int (gS st 2), .int (gS st 3), .int (gS st 1), .int (gS st 0), .int 0]))) (g.1 0 0) (.inr (10, [.ref (g.1 1 0), .ref (g.1 2 0), .int (gS st 2), .int (gS st 3), .int (gS st 1), .int p0, .int 0]))) := hI
    have h_TL := mu_k (e := .inr (10, [.ref (g.1 1 0), .ref (g.1 2 0), .int (gS st 2), .int (gS st 3), .int (gS st 1), .int p0, .int 0])) (kd_ne h_TL h_X rfl) h_TL
    have h_IL := mu_k (e := .inr (10, [.ref (g.1 1 0), .ref (g.1 2 0), .int (gS st 2), .int (gS st 3), .int (gS st 1), .int p0, .int 0])) (kd_ne h_IL h_X rfl) h_IL
    rw [mu_uu] at hP hI h_TL h_IL
    have h_X : (mu Mw (g.1 0 0) (.inr (10, [.ref (g.1 1 0), .ref (g.1 2 0), .int (gS st 2), .int (gS st 3), .int (gS st 1), .int p0, .int 0]))) (g.1 0 0) = some (.inr (10, [.ref (g.1 1 0), .ref (g.1 2 0), .int (gS st 2), .int (gS st 3), .int (gS st 1), .int p0, .int 0])) := mu_s
    refine lv_iload_n hx hb dX7_air_24 rfl (lv_at hl 0 rfl) ?_
    refine W.widen (k := 0) (n := 0) (Nat.le_of_ble_eq_true rfl) (Nat.le_of_ble_eq_true rfl) ?_
    exact W.iret (v := gS st 0) hx hb hr (fun t99 ht99 hW99 => ⟨⟨gS st 0, (mu Mw (g.1 0 0) (.inr (10, [.ref (g.1 1 0), .ref (g.1 2 0), .int (gS st 2), .int (gS st 3), .int (gS st 1), .int p0, .int 0]))), rfl, RP.ok (by unfold m_air; first | (rw [chk_p hq_r1]; done) | (rw [chk_p hq_r1]; rfl)) (hR.gl (fu (gS st) 0 p0) 0 h_X (fun x9 e9 hx9 h0 => ((mu_n h0).trans (rfl)).trans hx9)) rfl rfl, by rw [ht99]; exact hP, hI⟩, hS.F ht99⟩) hS.2.2 dX7_air_25
  · subst hr9
    refine lv_iconst (v := 1) hx hb dX7_air_5 (by decide) ?_
    refine m_calli (va_runV (As := [.int 1, .int 1]) (rest := []) ⟨hx, hb, hml, hown, hts⟩ (c_X7_isThrown1 l G A Mw  1 h_X) (cwV 2 hts gX7_air_X7_isThrown rfl rfl rfl (by decide +kernel) ⟨Nat.le_of_ble_eq_true rfl, Nat.le_of_ble_eq_true rfl⟩) (mPreV hG hS hP hI hA (hP _ _ h_X) (r := (RX7, TX7, 7)) rfl) rfl rfl hl.1 rfl (lv_room (Nat.le_of_ble_eq_true rfl)) dX7_air_6 ⟨Nat.le_of_ble_eq_true rfl, Nat.le_of_ble_eq_true rfl⟩) hS (fun r3 Mw1 H locs hp_r3 hP hI hS => ?_)
    obtain ⟨hp_r3, hm9⟩ := hp_r3
    subst Mw1
    subst hp_r3
    have h_TL := mu_k (e := .inr (10, [.ref (g.1 1 0), .ref (g.1 2 0), .int (gS st 2), .int (gS st 3), .int (gS st 1), .int (gS st 0), .int 1])) (kd_ne h_TL h_X rfl) h_TL
    have h_IL := mu_k (e := .inr (10, [.ref (g.1 1 0), .ref (g.1 2 0), .int (gS st 2), .int (gS st 3), .int (gS st 1), .int (gS st 0), .int 1])) (kd_ne h_IL h_X rfl) h_IL
    have h_X : (mu Mw (g.1 0 0) (.inr (10, [.ref (g.1 1 0), .ref (g.1 2 0), .int (gS st 2), .int (gS st 3), .int (gS st 1), .int (gS st 0), .int 1]))) (g.1 0 0) = some (.inr (10, [.ref (g.1 1 0), .ref (g.1 2 0), .int (gS st 2), .int (gS st 3), .int (gS st 1), .int (gS st 0), .int 1])) := mu_s
    refine lv_if_eq (tgt := 14) hx hb dX7_air_9 (by decide) (fun h9 => absurd h9 (by decide)) (fun _ => ?_)
    refine lv_iconst (v := 0) hx hb dX7_air_12 (by decide) ?_
    refine W.widen (k := 0) (n := 0) (Nat.le_of_ble_eq_true rfl) (Nat.le_of_ble_eq_true rfl) ?_
    exact W.iret (v := 0) hx hb hr (fun t99 ht99 hW99 => ⟨⟨0, (mu Mw (g.1 0 0) (.inr (10, [.ref (g.1 1 0), .ref (g.1 2 0), .int (gS st 2), .int (gS st 3), .int (gS st 1), .int (gS st 0), .int 1]))), rfl, RP.no (k := 1) (by unfold m_air; first | (rw [chk_n hq_r1]; done) | (rw [chk_n hq_r1]; rfl)) (by decide) (hR.th 1 h_X (fun x9 e9 hx9 h0 => ((mu_n h0).trans (rfl)).trans hx9)) rfl rfl, by rw [ht99]; exact hP, hI⟩, hS.F ht99⟩) hS.2.2 dX7_air_13

set_option maxHeartbeats 4000000 in
set_option maxRecDepth 100000 in
theorem c_X7_buy (l : Launch) (G : mg) (A : Nat → Prop) (Mw : mw) (st : St) (g : gR) (p0 : Int32) (hR : RS G st g Mw) (hV : Inv st) : Met l yX7_buy wsX7_buy ({ frames := 1, cells := 0, slots := 0, locals := 22 }) (va_Pc [.ref (g.1 0 0), .int p0] (mB G A Mw)) (va_Qi (fun r Mw1 => RP G (m_buy st p0) g r Mw1) (mE G A) A) 0 0 A := by
  refine Met.ofW (cc := cX7_buy) (maxL := 2) (ret := (some .int)) (by decide) rfl ?_
  intro p e s m args below meth c s₁ B hml hv
  obtain ⟨rfl, hG, hP, hI, hA⟩ := hv
  have hx := B.exec
  have hb := B.bytes
  have hr := B.returns
  have hts := atoms_spec (ws := wsX7_buy) B.pre
  have hown : s.vm.findClass RX7 = some m.cls := findClass_of_methodNamed B.named
  have hlocks := B.notSynchronized
  have hK := hG.K
  have i_X7 : ∀ w ∈ wsX70, w ∈ wsX7_buy := by decide +kernel
  have hS : va_S A s.heap s.heap [] := va_S.rf
  have hl := lv_entry ([.ref (g.1 0 0), .int p0]) (n := 2) (Nat.le_of_ble_eq_true rfl)
  rw [lg_entry_eq]
  generalize (lg_sl ([.ref (g.1 0 0), .int p0]) ++ List.replicate (2 - (lg_sl ([.ref (g.1 0 0), .int p0])).length) Slot.unset).toArray = ls at hl ⊢
  have hl : lv_has ls 2 [(0, .ref (g.1 0 0)), (1, .int p0)] := hl
  have hP : mP G.1 Mw s.heap := hP
  have h_X : Mw (g.1 0 0) = some (.inr (10, [.ref (g.1 1 0), .ref (g.1 2 0), .int (gS st 2), .int (gS st 3), .int (gS st 1), .int (gS st 0), .int (thR g)])) := hR.1 0 0 ro0
  have h_TL : Mw (g.1 1 0) = some (.inr (2, [.int (mcR g 1 0), .ref (g.1 3 0), .int ((nI (nT st)))])) := hR.1 1 0 ro1
  have h_IL : Mw (g.1 2 0) = some (.inr (2, [.int (mcR g 2 0), .ref (g.1 4 0), .int ((nI (nN st)))])) := hR.1 2 0 ro2
  have hti9 := hR.ne ro1 ro2 (by omega)
  have hnT8 := hV.1.1
  have hnN8 := Nat.le_trans hV.1.2 (show 6 ≤ 8 by decide)
  refine lv_aload_n hx hb dX7_buy_0 rfl (lv_at hl 0 rfl) ?_
  refine lv_iload_n hx hb dX7_buy_1 rfl (lv_at hl 1 rfl) ?_
  refine lv_iconst (v := 1) hx hb dX7_buy_2 (by decide) ?_
  refine lv_ldc (v := 99999) hx hb hown (hts (.constant RX7 77 (99999)) (by decide +kernel)) dX7_buy_3 ?_
  refine m_calli (va_runS (As := [.int p0, .int 1, .int 99999]) (rest := [.ref (g.1 0 0)]) ⟨hx, hb, hml, hown, hts⟩ (c_X7_isIn l G A Mw  p0 1 99999) (va_cwS 3 hts gX7_buy_X7_isIn rfl rfl rfl (by decide +kernel) ⟨Nat.le_of_ble_eq_true rfl, Nat.le_of_ble_eq_true rfl⟩) (mPreS hG hS hP hI hA) rfl rfl hl.1 rfl (lv_room (Nat.le_of_ble_eq_true rfl)) dX7_buy_5 ⟨Nat.le_of_ble_eq_true rfl, Nat.le_of_ble_eq_true rfl⟩) hS (fun r1 Mw1 H locs hp_r1 hP hI hS => ?_)
  obtain ⟨hb9, hm9⟩ := hp_r1
  subst Mw1
  rcases hb9 with ⟨hr9, hq_r1⟩ | ⟨hr9, hq_r1⟩
  · subst hr9
    refine lv_if_ne (tgt := 15) hx hb dX7_buy_8 (by decide) (fun h9 => absurd h9 (by decide)) (fun _ => ?_)
    refine lv_iconst (v := 1) hx hb dX7_buy_11 (by decide) ?_
    refine lv_goto (tgt := 16) hx hb dX7_buy_12 (by decide) ?_
    refine lv_iconst (v := 1) hx hb dX7_buy_16 (by decide) ?_
    refine m_calli (va_runV (As := [.int 1, .int 1]) (rest := []) ⟨hx, hb, hml, hown, hts⟩ (c_X7_isThrown1 l G A Mw  1 h_X) (cwV 2 hts gX7_buy_X7_isThrown rfl rfl rfl (by decide +kernel) ⟨Nat.le_of_ble_eq_true rfl, Nat.le_of_ble_eq_true rfl⟩) (mPreV hG hS hP hI hA (hP _ _ h_X) (r := (RX7, TX7, 7)) rfl) rfl rfl hl.1 rfl (lv_room (Nat.le_of_ble_eq_true rfl)) dX7_buy_17 ⟨Nat.le_of_ble_eq_true rfl, Nat.le_of_ble_eq_true rfl⟩) hS (fun r2 Mw1 H locs hp_r2 hP hI hS => ?_)
    obtain ⟨hp_r2, hm9⟩ := hp_r2
    subst Mw1
    subst hp_r2
    have h_TL := mu_k (e := .inr (10, [.ref (g.1 1 0), .ref (g.1 2 0), .int (gS st 2), .int (gS st 3), .int (gS st 1), .int (gS st 0), .int 1])) (kd_ne h_TL h_X rfl) h_TL
    have h_IL := mu_k (e := .inr (10, [.ref (g.1 1 0), .ref (g.1 2 0), .int (gS st 2), .int (gS st 3), .int (gS st 1), .int (gS st 0), .int 1])) (kd_ne h_IL h_X rfl) h_IL
    have h_X : (mu Mw (g.1 0 0) (.inr (10, [.ref (g.1 1 0), .ref (g.1 2 0), .int (gS st 2), .int (gS st 3), .int (gS st 1), .int (gS st 0), .int 1]))) (g.1 0 0) = some (.inr (10, [.ref (g.1 1 0), .ref (g.1 2 0), .int (gS st 2), .int (gS st 3), .int (gS st 1), .int (gS st 0), .int 1])) := mu_s
    refine lv_if_eq (tgt := 25) hx hb dX7_buy_20 (by decide) (fun h9 => absurd h9 (by decide)) (fun _ => ?_)
    refine lv_iconst (v := 0) hx hb dX7_buy_23 (by decide) ?_
    refine W.widen (k := 0) (n := 0) (Nat.le_of_ble_eq_true rfl) (Nat.le_of_ble_eq_true rfl) ?_
    exact W.iret (v := 0) hx hb hr (fun t99 ht99 hW99 => ⟨⟨0, (mu Mw (g.1 0 0) (.inr (10, [.ref (g.1 1 0), .ref (g.1 2 0), .int (gS st 2), .int (gS st 3), .int (gS st 1), .int (gS st 0), .int 1]))), rfl, RP.no (k := 1) (by unfold m_buy; first | (rw [chk_n hq_r1]; done) | (rw [chk_n hq_r1]; rfl)) (by decide) (hR.th 1 h_X (fun x9 e9 hx9 h0 => ((mu_n h0).trans (rfl)).trans hx9)) rfl rfl, by rw [ht99]; exact hP, hI⟩, hS.F ht99⟩) hS.2.2 dX7_buy_24
  · subst hr9
    refine lv_if_ne (tgt := 15) hx hb dX7_buy_8 (by decide) (fun _ => ?_) (fun h9 => absurd h9 (by decide))
    refine lv_iconst (v := 0) hx hb dX7_buy_15 (by decide) ?_
    refine lv_iconst (v := 1) hx hb dX7_buy_16 (by decide) ?_
    refine m_calli (va_runV (As := [.int 0, .int 1]) (rest := []) ⟨hx, hb, hml, hown, hts⟩ (c_X7_isThrown0 l G A Mw  1 h_X) (cwV 2 hts gX7_buy_X7_isThrown rfl rfl rfl (by decide +kernel) ⟨Nat.le_of_ble_eq_true rfl, Nat.le_of_ble_eq_true rfl⟩) (mPreV hG hS hP hI hA (hP _ _ h_X) (r := (RX7, TX7, 7)) rfl) rfl rfl hl.1 rfl (lv_room (Nat.le_of_ble_eq_true rfl)) dX7_buy_17 ⟨Nat.le_of_ble_eq_true rfl, Nat.le_of_ble_eq_true rfl⟩) hS (fun r3 Mw1 H locs hp_r3 hP hI hS => ?_)
    obtain ⟨hp_r3, hm9⟩ := hp_r3
    subst Mw1
    subst hp_r3
    have h_TL := mu_k (e := .inr (10, [.ref (g.1 1 0), .ref (g.1 2 0), .int (gS st 2), .int (gS st 3), .int (gS st 1), .int (gS st 0), .int 0])) (kd_ne h_TL h_X rfl) h_TL
    have h_IL := mu_k (e := .inr (10, [.ref (g.1 1 0), .ref (g.1 2 0), .int (gS st 2), .int (gS st 3), .int (gS st 1), .int (gS st 0), .int 0])) (kd_ne h_IL h_X rfl) h_IL
    have h_X : (mu Mw (g.1 0 0) (.inr (10, [.ref (g.1 1 0), .ref (g.1 2 0), .int (gS st 2), .int (gS st 3), .int (gS st 1), .int (gS st 0), .int 0]))) (g.1 0 0) = some (.inr (10, [.ref (g.1 1 0), .ref (g.1 2 0), .int (gS st 2), .int (gS st 3), .int (gS st 1), .int (gS st 0), .int 0])) := mu_s
    refine lv_if_eq (tgt := 25) hx hb dX7_buy_20 (by decide) (fun _ => ?_) (fun h9 => absurd h9 (by decide))
    refine lv_aload_n hx hb dX7_buy_25 rfl (lv_at hl 0 rfl) ?_
    refine lv_dup hx hb dX7_buy_26 rfl ?_
    refine m_get (ci := 10) (v := .int (gS st 2)) (C := RX7) (T := TX7) (N := 7) hx hb hts i_X7 hown hK (hP _ _ h_X) rfl 2 (by decide) (hts (.fieldLink RX7 84 "MeniscusModel" "stock" "I") (by decide +kernel)) (fun _ h9 => h9) rfl dX7_buy_27 ?_
    refine lv_iload_n hx hb dX7_buy_30 rfl (lv_at hl 1 rfl) ?_
    refine lv_iadd hx hb dX7_buy_31 ?_
    refine m_put (ci := 10) (v := .int ((gS st 2) + p0)) (ty := .int) (C := RX7) (T := TX7) (N := 7) hx hb hts i_X7 tyX7 tyX7_ok nmX7 hown hK hP hI hS h_X rfl 2 (by decide) (hts (.fieldLink RX7 84 "MeniscusModel" "stock" "I") (by decide +kernel)) (fun _ h9 => h9) rfl (by decide +kernel) rfl rfl (Nat.le_of_ble_eq_true rfl) dX7_buy_32 (fun H locs hP hI hS => ?_)
    have hP : mP G.1 (mu (mu Mw (g.1 0 0) (.inr (10, [.ref (g.1 1 0), .ref (g.1 2 0), .int (gS st 2), .int (gS st 3), .int (gS st 1), .int (gS st 0), .int 0]))) (g.1 0 0) (.inr (10, [.ref (g.1 1 0), .ref (g.1 2 0), .int ((gS st 2) + p0), .int (gS st 3), .int (gS st 1), .int (gS st 0), .int 0]))) H := hP
    have hI : mI A (mu (mu Mw (g.1 0 0) (.inr (10, [.ref (g.1 1 0), .ref (g.1 2 0), .int (gS st 2), .int (gS st 3), .int (gS st 1), .int (gS st 0), .int 0]))) (g.1 0 0) (.inr (10, [.ref (g.1 1 0), .ref (g.1 2 0), .int ((gS st 2) + p0), .int (gS st 3), .int (gS st 1), .int (gS st 0), .int 0]))) := hI
    have h_TL := mu_k (e := .inr (10, [.ref (g.1 1 0), .ref (g.1 2 0), .int ((gS st 2) + p0), .int (gS st 3), .int (gS st 1), .int (gS st 0), .int 0])) (kd_ne h_TL h_X rfl) h_TL
    have h_IL := mu_k (e := .inr (10, [.ref (g.1 1 0), .ref (g.1 2 0), .int ((gS st 2) + p0), .int (gS st 3), .int (gS st 1), .int (gS st 0), .int 0])) (kd_ne h_IL h_X rfl) h_IL
    rw [mu_uu] at hP hI h_TL h_IL
    have h_X : (mu Mw (g.1 0 0) (.inr (10, [.ref (g.1 1 0), .ref (g.1 2 0), .int ((gS st 2) + p0), .int (gS st 3), .int (gS st 1), .int (gS st 0), .int 0]))) (g.1 0 0) = some (.inr (10, [.ref (g.1 1 0), .ref (g.1 2 0), .int ((gS st 2) + p0), .int (gS st 3), .int (gS st 1), .int (gS st 0), .int 0])) := mu_s
    refine lv_aload_n hx hb dX7_buy_35 rfl (lv_at hl 0 rfl) ?_
    refine m_get (ci := 10) (v := .int ((gS st 2) + p0)) (C := RX7) (T := TX7) (N := 7) hx hb hts i_X7 hown hK (hP _ _ h_X) rfl 2 (by decide) (hts (.fieldLink RX7 84 "MeniscusModel" "stock" "I") (by decide +kernel)) (fun _ h9 => h9) rfl dX7_buy_36 ?_
    refine W.widen (k := 0) (n := 0) (Nat.le_of_ble_eq_true rfl) (Nat.le_of_ble_eq_true rfl) ?_
    exact W.iret (v := (gS st 2) + p0) hx hb hr (fun t99 ht99 hW99 => ⟨⟨(gS st 2) + p0, (mu Mw (g.1 0 0) (.inr (10, [.ref (g.1 1 0), .ref (g.1 2 0), .int ((gS st 2) + p0), .int (gS st 3), .int (gS st 1), .int (gS st 0), .int 0]))), rfl, RP.ok (by unfold m_buy; first | (rw [chk_p hq_r1]; done) | (rw [chk_p hq_r1]; rfl)) (hR.gl (fu (fu (gS st) 4 (gS st 4 + p0)) 2 (gS st 2 + p0)) 0 h_X (fun x9 e9 hx9 h0 => ((mu_n h0).trans (rfl)).trans hx9)) rfl rfl, by rw [ht99]; exact hP, hI⟩, hS.F ht99⟩) hS.2.2 dX7_buy_39

set_option maxHeartbeats 4000000 in
set_option maxRecDepth 100000 in
theorem c_X7_boiling (l : Launch) (G : mg) (A : Nat → Prop) (Mw : mw) (st : St) (g : gR) (p0 : Int32) (hR : RS G st g Mw) (hV : Inv st) : Met l yX7_boiling wsX7_boiling ({ frames := 1, cells := 0, slots := 0, locals := 22 }) (va_Pc [.ref (g.1 0 0), .int p0] (mB G A Mw)) (va_Qi (fun r Mw1 => RP G (m_boiling st p0) g r Mw1) (mE G A) A) 0 0 A := by
  refine Met.ofW (cc := cX7_boiling) (maxL := 2) (ret := (some .int)) (by decide) rfl ?_
  intro p e s m args below meth c s₁ B hml hv
  obtain ⟨rfl, hG, hP, hI, hA⟩ := hv
  have hx := B.exec
  have hb := B.bytes
  have hr := B.returns
  have hts := atoms_spec (ws := wsX7_boiling) B.pre
  have hown : s.vm.findClass RX7 = some m.cls := findClass_of_methodNamed B.named
  have hlocks := B.notSynchronized
  have hK := hG.K
  have hS : va_S A s.heap s.heap [] := va_S.rf
  have hl := lv_entry ([.ref (g.1 0 0), .int p0]) (n := 2) (Nat.le_of_ble_eq_true rfl)
  rw [lg_entry_eq]
  generalize (lg_sl ([.ref (g.1 0 0), .int p0]) ++ List.replicate (2 - (lg_sl ([.ref (g.1 0 0), .int p0])).length) Slot.unset).toArray = ls at hl ⊢
  have hl : lv_has ls 2 [(0, .ref (g.1 0 0)), (1, .int p0)] := hl
  have hP : mP G.1 Mw s.heap := hP
  have h_X : Mw (g.1 0 0) = some (.inr (10, [.ref (g.1 1 0), .ref (g.1 2 0), .int (gS st 2), .int (gS st 3), .int (gS st 1), .int (gS st 0), .int (thR g)])) := hR.1 0 0 ro0
  have h_TL : Mw (g.1 1 0) = some (.inr (2, [.int (mcR g 1 0), .ref (g.1 3 0), .int ((nI (nT st)))])) := hR.1 1 0 ro1
  have h_IL : Mw (g.1 2 0) = some (.inr (2, [.int (mcR g 2 0), .ref (g.1 4 0), .int ((nI (nN st)))])) := hR.1 2 0 ro2
  have hti9 := hR.ne ro1 ro2 (by omega)
  have hnT8 := hV.1.1
  have hnN8 := Nat.le_trans hV.1.2 (show 6 ≤ 8 by decide)
  refine lv_aload_n hx hb dX7_boiling_0 rfl (lv_at hl 0 rfl) ?_
  refine lv_iload_n hx hb dX7_boiling_1 rfl (lv_at hl 1 rfl) ?_
  refine lv_sipush (v := (700)) hx hb dX7_boiling_2 (by decide) ?_
  refine lv_sipush (v := (800)) hx hb dX7_boiling_5 (by decide) ?_
  refine m_calli (va_runS (As := [.int p0, .int 700, .int 800]) (rest := [.ref (g.1 0 0)]) ⟨hx, hb, hml, hown, hts⟩ (c_X7_isIn l G A Mw  p0 700 800) (va_cwS 3 hts gX7_boiling_X7_isIn rfl rfl rfl (by decide +kernel) ⟨Nat.le_of_ble_eq_true rfl, Nat.le_of_ble_eq_true rfl⟩) (mPreS hG hS hP hI hA) rfl rfl hl.1 rfl (lv_room (Nat.le_of_ble_eq_true rfl)) dX7_boiling_8 ⟨Nat.le_of_ble_eq_true rfl, Nat.le_of_ble_eq_true rfl⟩) hS (fun r1 Mw1 H locs hp_r1 hP hI hS => ?_)
  obtain ⟨hb9, hm9⟩ := hp_r1
  subst Mw1
  rcases hb9 with ⟨hr9, hq_r1⟩ | ⟨hr9, hq_r1⟩
  · subst hr9
    refine lv_if_ne (tgt := 18) hx hb dX7_boiling_11 (by decide) (fun h9 => absurd h9 (by decide)) (fun _ => ?_)
    refine lv_iconst (v := 1) hx hb dX7_boiling_14 (by decide) ?_
    refine lv_goto (tgt := 19) hx hb dX7_boiling_15 (by decide) ?_
    refine lv_iconst (v := 1) hx hb dX7_boiling_19 (by decide) ?_
    refine m_calli (va_runV (As := [.int 1, .int 1]) (rest := []) ⟨hx, hb, hml, hown, hts⟩ (c_X7_isThrown1 l G A Mw  1 h_X) (cwV 2 hts gX7_boiling_X7_isThrown rfl rfl rfl (by decide +kernel) ⟨Nat.le_of_ble_eq_true rfl, Nat.le_of_ble_eq_true rfl⟩) (mPreV hG hS hP hI hA (hP _ _ h_X) (r := (RX7, TX7, 7)) rfl) rfl rfl hl.1 rfl (lv_room (Nat.le_of_ble_eq_true rfl)) dX7_boiling_20 ⟨Nat.le_of_ble_eq_true rfl, Nat.le_of_ble_eq_true rfl⟩) hS (fun r2 Mw1 H locs hp_r2 hP hI hS => ?_)
    obtain ⟨hp_r2, hm9⟩ := hp_r2
    subst Mw1
    subst hp_r2
    have h_TL := mu_k (e := .inr (10, [.ref (g.1 1 0), .ref (g.1 2 0), .int (gS st 2), .int (gS st 3), .int (gS st 1), .int (gS st 0), .int 1])) (kd_ne h_TL h_X rfl) h_TL
    have h_IL := mu_k (e := .inr (10, [.ref (g.1 1 0), .ref (g.1 2 0), .int (gS st 2), .int (gS st 3), .int (gS st 1), .int (gS st 0), .int 1])) (kd_ne h_IL h_X rfl) h_IL
    have h_X : (mu Mw (g.1 0 0) (.inr (10, [.ref (g.1 1 0), .ref (g.1 2 0), .int (gS st 2), .int (gS st 3), .int (gS st 1), .int (gS st 0), .int 1]))) (g.1 0 0) = some (.inr (10, [.ref (g.1 1 0), .ref (g.1 2 0), .int (gS st 2), .int (gS st 3), .int (gS st 1), .int (gS st 0), .int 1])) := mu_s
    refine lv_if_eq (tgt := 30) hx hb dX7_boiling_23 (by decide) (fun h9 => absurd h9 (by decide)) (fun _ => ?_)
    refine lv_iconst (v := 0) hx hb dX7_boiling_26 (by decide) ?_
    refine lv_goto (tgt := 34) hx hb dX7_boiling_27 (by decide) ?_
    refine W.widen (k := 0) (n := 0) (Nat.le_of_ble_eq_true rfl) (Nat.le_of_ble_eq_true rfl) ?_
    exact W.iret (v := 0) hx hb hr (fun t99 ht99 hW99 => ⟨⟨0, (mu Mw (g.1 0 0) (.inr (10, [.ref (g.1 1 0), .ref (g.1 2 0), .int (gS st 2), .int (gS st 3), .int (gS st 1), .int (gS st 0), .int 1]))), rfl, RP.no (k := 1) (by unfold m_boiling; first | (rw [chk_n hq_r1]; done) | (rw [chk_n hq_r1]; rfl)) (by decide) (hR.th 1 h_X (fun x9 e9 hx9 h0 => ((mu_n h0).trans (rfl)).trans hx9)) rfl rfl, by rw [ht99]; exact hP, hI⟩, hS.F ht99⟩) hS.2.2 dX7_boiling_34
  · subst hr9
    refine lv_if_ne (tgt := 18) hx hb dX7_boiling_11 (by decide) (fun _ => ?_) (fun h9 => absurd h9 (by decide))
    refine lv_iconst (v := 0) hx hb dX7_boiling_18 (by decide) ?_
    refine lv_iconst (v := 1) hx hb dX7_boiling_19 (by decide) ?_
    refine m_calli (va_runV (As := [.int 0, .int 1]) (rest := []) ⟨hx, hb, hml, hown, hts⟩ (c_X7_isThrown0 l G A Mw  1 h_X) (cwV 2 hts gX7_boiling_X7_isThrown rfl rfl rfl (by decide +kernel) ⟨Nat.le_of_ble_eq_true rfl, Nat.le_of_ble_eq_true rfl⟩) (mPreV hG hS hP hI hA (hP _ _ h_X) (r := (RX7, TX7, 7)) rfl) rfl rfl hl.1 rfl (lv_room (Nat.le_of_ble_eq_true rfl)) dX7_boiling_20 ⟨Nat.le_of_ble_eq_true rfl, Nat.le_of_ble_eq_true rfl⟩) hS (fun r3 Mw1 H locs hp_r3 hP hI hS => ?_)
    obtain ⟨hp_r3, hm9⟩ := hp_r3
    subst Mw1
    subst hp_r3
    have h_TL := mu_k (e := .inr (10, [.ref (g.1 1 0), .ref (g.1 2 0), .int (gS st 2), .int (gS st 3), .int (gS st 1), .int (gS st 0), .int 0])) (kd_ne h_TL h_X rfl) h_TL
    have h_IL := mu_k (e := .inr (10, [.ref (g.1 1 0), .ref (g.1 2 0), .int (gS st 2), .int (gS st 3), .int (gS st 1), .int (gS st 0), .int 0])) (kd_ne h_IL h_X rfl) h_IL
    have h_X : (mu Mw (g.1 0 0) (.inr (10, [.ref (g.1 1 0), .ref (g.1 2 0), .int (gS st 2), .int (gS st 3), .int (gS st 1), .int (gS st 0), .int 0]))) (g.1 0 0) = some (.inr (10, [.ref (g.1 1 0), .ref (g.1 2 0), .int (gS st 2), .int (gS st 3), .int (gS st 1), .int (gS st 0), .int 0])) := mu_s
    refine lv_if_eq (tgt := 30) hx hb dX7_boiling_23 (by decide) (fun _ => ?_) (fun h9 => absurd h9 (by decide))
    refine lv_iload_n hx hb dX7_boiling_30 rfl (lv_at hl 1 rfl) ?_
    refine m_calli (va_runS (As := [.int p0]) (rest := []) ⟨hx, hb, hml, hown, hts⟩ (c_X7_boils l G A (mu Mw (g.1 0 0) (.inr (10, [.ref (g.1 1 0), .ref (g.1 2 0), .int (gS st 2), .int (gS st 3), .int (gS st 1), .int (gS st 0), .int 0])))  p0) (va_cwS 1 hts gX7_boiling_X7_boils rfl rfl rfl (by decide +kernel) ⟨Nat.le_of_ble_eq_true rfl, Nat.le_of_ble_eq_true rfl⟩) (mPreS hG hS hP hI hA) rfl rfl hl.1 rfl (lv_room (Nat.le_of_ble_eq_true rfl)) dX7_boiling_31 ⟨Nat.le_of_ble_eq_true rfl, Nat.le_of_ble_eq_true rfl⟩) hS (fun r4 Mw1 H locs hp_r4 hP hI hS => ?_)
    obtain ⟨hp_r4, hm9⟩ := hp_r4
    subst Mw1
    subst hp_r4
    refine W.widen (k := 0) (n := 0) (Nat.le_of_ble_eq_true rfl) (Nat.le_of_ble_eq_true rfl) ?_
    exact W.iret (v := sta p0) hx hb hr (fun t99 ht99 hW99 => ⟨⟨sta p0, (mu Mw (g.1 0 0) (.inr (10, [.ref (g.1 1 0), .ref (g.1 2 0), .int (gS st 2), .int (gS st 3), .int (gS st 1), .int (gS st 0), .int 0]))), rfl, RP.ok (by unfold m_boiling; first | (rw [chk_p hq_r1]; done) | (rw [chk_p hq_r1]; rfl)) (hR.th 0 h_X (fun x9 e9 hx9 h0 => ((mu_n h0).trans (rfl)).trans hx9)) rfl rfl, by rw [ht99]; exact hP, hI⟩, hS.F ht99⟩) hS.2.2 dX7_boiling_34

set_option maxHeartbeats 4000000 in
set_option maxRecDepth 100000 in
theorem c_X7_barometer (l : Launch) (G : mg) (A : Nat → Prop) (Mw : mw) (st : St) (g : gR) (p0 p1 p2 p3 : Int32) (hR : RS G st g Mw) (hV : Inv st) : Met l yX7_barometer wsX7_barometer ({ frames := 1, cells := 0, slots := 0, locals := 22 }) (va_Pc [.ref (g.1 0 0), .int p0, .int p1, .int p2, .int p3] (mB G A Mw)) (va_Qi (fun r Mw1 => RP G (m_barometer st p0 p1 p2 p3) g r Mw1) (mE G A) A) 0 0 A := by
  refine Met.ofW (cc := cX7_barometer) (maxL := 5) (ret := (some .int)) (by decide) rfl ?_
  intro p e s m args below meth c s₁ B hml hv
  obtain ⟨rfl, hG, hP, hI, hA⟩ := hv
  have hx := B.exec
  have hb := B.bytes
  have hr := B.returns
  have hts := atoms_spec (ws := wsX7_barometer) B.pre
  have hown : s.vm.findClass RX7 = some m.cls := findClass_of_methodNamed B.named
  have hlocks := B.notSynchronized
  have hK := hG.K
  have hS : va_S A s.heap s.heap [] := va_S.rf
  have hl := lv_entry ([.ref (g.1 0 0), .int p0, .int p1, .int p2, .int p3]) (n := 5) (Nat.le_of_ble_eq_true rfl)
  rw [lg_entry_eq]
  generalize (lg_sl ([.ref (g.1 0 0), .int p0, .int p1, .int p2, .int p3]) ++ List.replicate (5 - (lg_sl ([.ref (g.1 0 0), .int p0, .int p1, .int p2, .int p3])).length) Slot.unset).toArray = ls at hl ⊢
  have hl : lv_has ls 5 [(0, .ref (g.1 0 0)), (1, .int p0), (2, .int p1), (3, .int p2), (4, .int p3)] := hl
  have hP : mP G.1 Mw s.heap := hP
  have h_X : Mw (g.1 0 0) = some (.inr (10, [.ref (g.1 1 0), .ref (g.1 2 0), .int (gS st 2), .int (gS st 3), .int (gS st 1), .int (gS st 0), .int (thR g)])) := hR.1 0 0 ro0
  have h_TL : Mw (g.1 1 0) = some (.inr (2, [.int (mcR g 1 0), .ref (g.1 3 0), .int ((nI (nT st)))])) := hR.1 1 0 ro1
  have h_IL : Mw (g.1 2 0) = some (.inr (2, [.int (mcR g 2 0), .ref (g.1 4 0), .int ((nI (nN st)))])) := hR.1 2 0 ro2
  have hti9 := hR.ne ro1 ro2 (by omega)
  have hnT8 := hV.1.1
  have hnN8 := Nat.le_trans hV.1.2 (show 6 ≤ 8 by decide)
  refine lv_aload_n hx hb dX7_barometer_0 rfl (lv_at hl 0 rfl) ?_
  refine lv_iload_n hx hb dX7_barometer_1 rfl (lv_at hl 1 rfl) ?_
  refine lv_sipush (v := (6000)) hx hb dX7_barometer_2 (by decide) ?_
  refine lv_sipush (v := (8000)) hx hb dX7_barometer_5 (by decide) ?_
  refine m_calli (va_runS (As := [.int p0, .int 6000, .int 8000]) (rest := [.ref (g.1 0 0)]) ⟨hx, hb, hml, hown, hts⟩ (c_X7_isIn l G A Mw  p0 6000 8000) (va_cwS 3 hts gX7_barometer_X7_isIn rfl rfl rfl (by decide +kernel) ⟨Nat.le_of_ble_eq_true rfl, Nat.le_of_ble_eq_true rfl⟩) (mPreS hG hS hP hI hA) rfl rfl hl.1 rfl (lv_room (Nat.le_of_ble_eq_true rfl)) dX7_barometer_8 ⟨Nat.le_of_ble_eq_true rfl, Nat.le_of_ble_eq_true rfl⟩) hS (fun r1 Mw1 H locs hp_r1 hP hI hS => ?_)
  obtain ⟨hb9, hm9⟩ := hp_r1
  subst Mw1
  rcases hb9 with ⟨hr9, hq_r1⟩ | ⟨hr9, hq_r1⟩
  · subst hr9
    refine lv_if_eq (tgt := 49) hx hb dX7_barometer_11 (by decide) (fun _ => ?_) (fun h9 => absurd h9 (by decide))
    refine lv_iconst (v := 1) hx hb dX7_barometer_49 (by decide) ?_
    refine lv_goto (tgt := 54) hx hb dX7_barometer_50 (by decide) ?_
    refine lv_iconst (v := 1) hx hb dX7_barometer_54 (by decide) ?_
    refine m_calli (va_runV (As := [.int 1, .int 1]) (rest := []) ⟨hx, hb, hml, hown, hts⟩ (c_X7_isThrown1 l G A Mw  1 h_X) (cwV 2 hts gX7_barometer_X7_isThrown rfl rfl rfl (by decide +kernel) ⟨Nat.le_of_ble_eq_true rfl, Nat.le_of_ble_eq_true rfl⟩) (mPreV hG hS hP hI hA (hP _ _ h_X) (r := (RX7, TX7, 7)) rfl) rfl rfl hl.1 rfl (lv_room (Nat.le_of_ble_eq_true rfl)) dX7_barometer_55 ⟨Nat.le_of_ble_eq_true rfl, Nat.le_of_ble_eq_true rfl⟩) hS (fun r2 Mw1 H locs hp_r2 hP hI hS => ?_)
    obtain ⟨hp_r2, hm9⟩ := hp_r2
    subst Mw1
    subst hp_r2
    have h_TL := mu_k (e := .inr (10, [.ref (g.1 1 0), .ref (g.1 2 0), .int (gS st 2), .int (gS st 3), .int (gS st 1), .int (gS st 0), .int 1])) (kd_ne h_TL h_X rfl) h_TL
    have h_IL := mu_k (e := .inr (10, [.ref (g.1 1 0), .ref (g.1 2 0), .int (gS st 2), .int (gS st 3), .int (gS st 1), .int (gS st 0), .int 1])) (kd_ne h_IL h_X rfl) h_IL
    have h_X : (mu Mw (g.1 0 0) (.inr (10, [.ref (g.1 1 0), .ref (g.1 2 0), .int (gS st 2), .int (gS st 3), .int (gS st 1), .int (gS st 0), .int 1]))) (g.1 0 0) = some (.inr (10, [.ref (g.1 1 0), .ref (g.1 2 0), .int (gS st 2), .int (gS st 3), .int (gS st 1), .int (gS st 0), .int 1])) := mu_s
    refine lv_if_eq (tgt := 63) hx hb dX7_barometer_58 (by decide) (fun h9 => absurd h9 (by decide)) (fun _ => ?_)
    refine lv_iconst (v := 0) hx hb dX7_barometer_61 (by decide) ?_
    refine W.widen (k := 0) (n := 0) (Nat.le_of_ble_eq_true rfl) (Nat.le_of_ble_eq_true rfl) ?_
    exact W.iret (v := 0) hx hb hr (fun t99 ht99 hW99 => ⟨⟨0, (mu Mw (g.1 0 0) (.inr (10, [.ref (g.1 1 0), .ref (g.1 2 0), .int (gS st 2), .int (gS st 3), .int (gS st 1), .int (gS st 0), .int 1]))), rfl, RP.no (k := 1) (by unfold m_barometer; first | (rw [chk_n hq_r1]; done) | (rw [chk_n hq_r1]; rfl)) (by decide) (hR.th 1 h_X (fun x9 e9 hx9 h0 => ((mu_n h0).trans (rfl)).trans hx9)) rfl rfl, by rw [ht99]; exact hP, hI⟩, hS.F ht99⟩) hS.2.2 dX7_barometer_62
  · subst hr9
    refine lv_if_eq (tgt := 49) hx hb dX7_barometer_11 (by decide) (fun h9 => absurd h9 (by decide)) (fun _ => ?_)
    refine lv_iload_n hx hb dX7_barometer_14 rfl (lv_at hl 2 rfl) ?_
    refine lv_bipush (v := (-20)) hx hb dX7_barometer_15 (by decide) ?_
    refine lv_bipush (v := (40)) hx hb dX7_barometer_17 (by decide) ?_
    refine m_calli (va_runS (As := [.int p1, .int ((-20)), .int 40]) (rest := [.ref (g.1 0 0)]) ⟨hx, hb, hml, hown, hts⟩ (c_X7_isIn l G A Mw  p1 (-20) 40) (va_cwS 3 hts gX7_barometer_X7_isIn rfl rfl rfl (by decide +kernel) ⟨Nat.le_of_ble_eq_true rfl, Nat.le_of_ble_eq_true rfl⟩) (mPreS hG hS hP hI hA) rfl rfl hl.1 rfl (lv_room (Nat.le_of_ble_eq_true rfl)) dX7_barometer_19 ⟨Nat.le_of_ble_eq_true rfl, Nat.le_of_ble_eq_true rfl⟩) hS (fun r3 Mw1 H locs hp_r3 hP hI hS => ?_)
    obtain ⟨hb9, hm9⟩ := hp_r3
    subst Mw1
    rcases hb9 with ⟨hr9, hq_r3⟩ | ⟨hr9, hq_r3⟩
    · subst hr9
      refine lv_if_eq (tgt := 49) hx hb dX7_barometer_22 (by decide) (fun _ => ?_) (fun h9 => absurd h9 (by decide))
      refine lv_iconst (v := 1) hx hb dX7_barometer_49 (by decide) ?_
      refine lv_goto (tgt := 54) hx hb dX7_barometer_50 (by decide) ?_
      refine lv_iconst (v := 1) hx hb dX7_barometer_54 (by decide) ?_
      refine m_calli (va_runV (As := [.int 1, .int 1]) (rest := []) ⟨hx, hb, hml, hown, hts⟩ (c_X7_isThrown1 l G A Mw  1 h_X) (cwV 2 hts gX7_barometer_X7_isThrown rfl rfl rfl (by decide +kernel) ⟨Nat.le_of_ble_eq_true rfl, Nat.le_of_ble_eq_true rfl⟩) (mPreV hG hS hP hI hA (hP _ _ h_X) (r := (RX7, TX7, 7)) rfl) rfl rfl hl.1 rfl (lv_room (Nat.le_of_ble_eq_true rfl)) dX7_barometer_55 ⟨Nat.le_of_ble_eq_true rfl, Nat.le_of_ble_eq_true rfl⟩) hS (fun r4 Mw1 H locs hp_r4 hP hI hS => ?_)
      obtain ⟨hp_r4, hm9⟩ := hp_r4
      subst Mw1
      subst hp_r4
      have h_TL := mu_k (e := .inr (10, [.ref (g.1 1 0), .ref (g.1 2 0), .int (gS st 2), .int (gS st 3), .int (gS st 1), .int (gS st 0), .int 1])) (kd_ne h_TL h_X rfl) h_TL
      have h_IL := mu_k (e := .inr (10, [.ref (g.1 1 0), .ref (g.1 2 0), .int (gS st 2), .int (gS st 3), .int (gS st 1), .int (gS st 0), .int 1])) (kd_ne h_IL h_X rfl) h_IL
      have h_X : (mu Mw (g.1 0 0) (.inr (10, [.ref (g.1 1 0), .ref (g.1 2 0), .int (gS st 2), .int (gS st 3), .int (gS st 1), .int (gS st 0), .int 1]))) (g.1 0 0) = some (.inr (10, [.ref (g.1 1 0), .ref (g.1 2 0), .int (gS st 2), .int (gS st 3), .int (gS st 1), .int (gS st 0), .int 1])) := mu_s
      refine lv_if_eq (tgt := 63) hx hb dX7_barometer_58 (by decide) (fun h9 => absurd h9 (by decide)) (fun _ => ?_)
      refine lv_iconst (v := 0) hx hb dX7_barometer_61 (by decide) ?_
      refine W.widen (k := 0) (n := 0) (Nat.le_of_ble_eq_true rfl) (Nat.le_of_ble_eq_true rfl) ?_
      exact W.iret (v := 0) hx hb hr (fun t99 ht99 hW99 => ⟨⟨0, (mu Mw (g.1 0 0) (.inr (10, [.ref (g.1 1 0), .ref (g.1 2 0), .int (gS st 2), .int (gS st 3), .int (gS st 1), .int (gS st 0), .int 1]))), rfl, RP.no (k := 1) (by unfold m_barometer; first | (rw [chk_p hq_r1, chk_n hq_r3]; done) | (rw [chk_p hq_r1, chk_n hq_r3]; rfl)) (by decide) (hR.th 1 h_X (fun x9 e9 hx9 h0 => ((mu_n h0).trans (rfl)).trans hx9)) rfl rfl, by rw [ht99]; exact hP, hI⟩, hS.F ht99⟩) hS.2.2 dX7_barometer_62
    · subst hr9
      refine lv_if_eq (tgt := 49) hx hb dX7_barometer_22 (by decide) (fun h9 => absurd h9 (by decide)) (fun _ => ?_)
      refine lv_iload_n hx hb dX7_barometer_25 rfl (lv_at hl 3 rfl) ?_
      refine lv_sipush (v := (9780)) hx hb dX7_barometer_26 (by decide) ?_
      refine lv_sipush (v := (9832)) hx hb dX7_barometer_29 (by decide) ?_
      refine m_calli (va_runS (As := [.int p2, .int 9780, .int 9832]) (rest := [.ref (g.1 0 0)]) ⟨hx, hb, hml, hown, hts⟩ (c_X7_isIn l G A Mw  p2 9780 9832) (va_cwS 3 hts gX7_barometer_X7_isIn rfl rfl rfl (by decide +kernel) ⟨Nat.le_of_ble_eq_true rfl, Nat.le_of_ble_eq_true rfl⟩) (mPreS hG hS hP hI hA) rfl rfl hl.1 rfl (lv_room (Nat.le_of_ble_eq_true rfl)) dX7_barometer_32 ⟨Nat.le_of_ble_eq_true rfl, Nat.le_of_ble_eq_true rfl⟩) hS (fun r5 Mw1 H locs hp_r5 hP hI hS => ?_)
      obtain ⟨hb9, hm9⟩ := hp_r5
      subst Mw1
      rcases hb9 with ⟨hr9, hq_r5⟩ | ⟨hr9, hq_r5⟩
      · subst hr9
        refine lv_if_eq (tgt := 49) hx hb dX7_barometer_35 (by decide) (fun _ => ?_) (fun h9 => absurd h9 (by decide))
        refine lv_iconst (v := 1) hx hb dX7_barometer_49 (by decide) ?_
        refine lv_goto (tgt := 54) hx hb dX7_barometer_50 (by decide) ?_
        refine lv_iconst (v := 1) hx hb dX7_barometer_54 (by decide) ?_
        refine m_calli (va_runV (As := [.int 1, .int 1]) (rest := []) ⟨hx, hb, hml, hown, hts⟩ (c_X7_isThrown1 l G A Mw  1 h_X) (cwV 2 hts gX7_barometer_X7_isThrown rfl rfl rfl (by decide +kernel) ⟨Nat.le_of_ble_eq_true rfl, Nat.le_of_ble_eq_true rfl⟩) (mPreV hG hS hP hI hA (hP _ _ h_X) (r := (RX7, TX7, 7)) rfl) rfl rfl hl.1 rfl (lv_room (Nat.le_of_ble_eq_true rfl)) dX7_barometer_55 ⟨Nat.le_of_ble_eq_true rfl, Nat.le_of_ble_eq_true rfl⟩) hS (fun r6 Mw1 H locs hp_r6 hP hI hS => ?_)
        obtain ⟨hp_r6, hm9⟩ := hp_r6
        subst Mw1
        subst hp_r6
        have h_TL := mu_k (e := .inr (10, [.ref (g.1 1 0), .ref (g.1 2 0), .int (gS st 2), .int (gS st 3), .int (gS st 1), .int (gS st 0), .int 1])) (kd_ne h_TL h_X rfl) h_TL
        have h_IL := mu_k (e := .inr (10, [.ref (g.1 1 0), .ref (g.1 2 0), .int (gS st 2), .int (gS st 3), .int (gS st 1), .int (gS st 0), .int 1])) (kd_ne h_IL h_X rfl) h_IL
        have h_X : (mu Mw (g.1 0 0) (.inr (10, [.ref (g.1 1 0), .ref (g.1 2 0), .int (gS st 2), .int (gS st 3), .int (gS st 1), .int (gS st 0), .int 1]))) (g.1 0 0) = some (.inr (10, [.ref (g.1 1 0), .ref (g.1 2 0), .int (gS st 2), .int (gS st 3), .int (gS st 1), .int (gS st 0), .int 1])) := mu_s
        refine lv_if_eq (tgt := 63) hx hb dX7_barometer_58 (by decide) (fun h9 => absurd h9 (by decide)) (fun _ => ?_)
        refine lv_iconst (v := 0) hx hb dX7_barometer_61 (by decide) ?_
        refine W.widen (k := 0) (n := 0) (Nat.le_of_ble_eq_true rfl) (Nat.le_of_ble_eq_true rfl) ?_
        exact W.iret (v := 0) hx hb hr (fun t99 ht99 hW99 => ⟨⟨0, (mu Mw (g.1 0 0) (.inr (10, [.ref (g.1 1 0), .ref (g.1 2 0), .int (gS st 2), .int (gS st 3), .int (gS st 1), .int (gS st 0), .int 1]))), rfl, RP.no (k := 1) (by unfold m_barometer; first | (rw [chk_p hq_r1, chk_p hq_r3, chk_n hq_r5]; done) | (rw [chk_p hq_r1, chk_p hq_r3, chk_n hq_r5]; rfl)) (by decide) (hR.th 1 h_X (fun x9 e9 hx9 h0 => ((mu_n h0).trans (rfl)).trans hx9)) rfl rfl, by rw [ht99]; exact hP, hI⟩, hS.F ht99⟩) hS.2.2 dX7_barometer_62
      · subst hr9
        refine lv_if_eq (tgt := 49) hx hb dX7_barometer_35 (by decide) (fun h9 => absurd h9 (by decide)) (fun _ => ?_)
        refine lv_iload hx hb dX7_barometer_38 (lv_at hl 4 rfl) ?_
        refine lv_iconst (v := 1) hx hb dX7_barometer_40 (by decide) ?_
        refine lv_bipush (v := (60)) hx hb dX7_barometer_41 (by decide) ?_
        refine m_calli (va_runS (As := [.int p3, .int 1, .int 60]) (rest := [.ref (g.1 0 0)]) ⟨hx, hb, hml, hown, hts⟩ (c_X7_isIn l G A Mw  p3 1 60) (va_cwS 3 hts gX7_barometer_X7_isIn rfl rfl rfl (by decide +kernel) ⟨Nat.le_of_ble_eq_true rfl, Nat.le_of_ble_eq_true rfl⟩) (mPreS hG hS hP hI hA) rfl rfl hl.1 rfl (lv_room (Nat.le_of_ble_eq_true rfl)) dX7_barometer_43 ⟨Nat.le_of_ble_eq_true rfl, Nat.le_of_ble_eq_true rfl⟩) hS (fun r7 Mw1 H locs hp_r7 hP hI hS => ?_)
        obtain ⟨hb9, hm9⟩ := hp_r7
        subst Mw1
        rcases hb9 with ⟨hr9, hq_r7⟩ | ⟨hr9, hq_r7⟩
        · subst hr9
          refine lv_if_ne (tgt := 53) hx hb dX7_barometer_46 (by decide) (fun h9 => absurd h9 (by decide)) (fun _ => ?_)
          refine lv_iconst (v := 1) hx hb dX7_barometer_49 (by decide) ?_
          refine lv_goto (tgt := 54) hx hb dX7_barometer_50 (by decide) ?_
          refine lv_iconst (v := 1) hx hb dX7_barometer_54 (by decide) ?_
          refine m_calli (va_runV (As := [.int 1, .int 1]) (rest := []) ⟨hx, hb, hml, hown, hts⟩ (c_X7_isThrown1 l G A Mw  1 h_X) (cwV 2 hts gX7_barometer_X7_isThrown rfl rfl rfl (by decide +kernel) ⟨Nat.le_of_ble_eq_true rfl, Nat.le_of_ble_eq_true rfl⟩) (mPreV hG hS hP hI hA (hP _ _ h_X) (r := (RX7, TX7, 7)) rfl) rfl rfl hl.1 rfl (lv_room (Nat.le_of_ble_eq_true rfl)) dX7_barometer_55 ⟨Nat.le_of_ble_eq_true rfl, Nat.le_of_ble_eq_true rfl⟩) hS (fun r8 Mw1 H locs hp_r8 hP hI hS => ?_)
          obtain ⟨hp_r8, hm9⟩ := hp_r8
          subst Mw1
          subst hp_r8
          have h_TL := mu_k (e := .inr (10, [.ref (g.1 1 0), .ref (g.1 2 0), .int (gS st 2), .int (gS st 3), .int (gS st 1), .int (gS st 0), .int 1])) (kd_ne h_TL h_X rfl) h_TL
          have h_IL := mu_k (e := .inr (10, [.ref (g.1 1 0), .ref (g.1 2 0), .int (gS st 2), .int (gS st 3), .int (gS st 1), .int (gS st 0), .int 1])) (kd_ne h_IL h_X rfl) h_IL
          have h_X : (mu Mw (g.1 0 0) (.inr (10, [.ref (g.1 1 0), .ref (g.1 2 0), .int (gS st 2), .int (gS st 3), .int (gS st 1), .int (gS st 0), .int 1]))) (g.1 0 0) = some (.inr (10, [.ref (g.1 1 0), .ref (g.1 2 0), .int (gS st 2), .int (gS st 3), .int (gS st 1), .int (gS st 0), .int 1])) := mu_s
          refine lv_if_eq (tgt := 63) hx hb dX7_barometer_58 (by decide) (fun h9 => absurd h9 (by decide)) (fun _ => ?_)
          refine lv_iconst (v := 0) hx hb dX7_barometer_61 (by decide) ?_
          refine W.widen (k := 0) (n := 0) (Nat.le_of_ble_eq_true rfl) (Nat.le_of_ble_eq_true rfl) ?_
          exact W.iret (v := 0) hx hb hr (fun t99 ht99 hW99 => ⟨⟨0, (mu Mw (g.1 0 0) (.inr (10, [.ref (g.1 1 0), .ref (g.1 2 0), .int (gS st 2), .int (gS st 3), .int (gS st 1), .int (gS st 0), .int 1]))), rfl, RP.no (k := 1) (by unfold m_barometer; first | (rw [chk_p hq_r1, chk_p hq_r3, chk_p hq_r5, chk_n hq_r7]; done) | (rw [chk_p hq_r1, chk_p hq_r3, chk_p hq_r5, chk_n hq_r7]; rfl)) (by decide) (hR.th 1 h_X (fun x9 e9 hx9 h0 => ((mu_n h0).trans (rfl)).trans hx9)) rfl rfl, by rw [ht99]; exact hP, hI⟩, hS.F ht99⟩) hS.2.2 dX7_barometer_62
        · subst hr9
          refine lv_if_ne (tgt := 53) hx hb dX7_barometer_46 (by decide) (fun _ => ?_) (fun h9 => absurd h9 (by decide))
          refine lv_iconst (v := 0) hx hb dX7_barometer_53 (by decide) ?_
          refine lv_iconst (v := 1) hx hb dX7_barometer_54 (by decide) ?_
          refine m_calli (va_runV (As := [.int 0, .int 1]) (rest := []) ⟨hx, hb, hml, hown, hts⟩ (c_X7_isThrown0 l G A Mw  1 h_X) (cwV 2 hts gX7_barometer_X7_isThrown rfl rfl rfl (by decide +kernel) ⟨Nat.le_of_ble_eq_true rfl, Nat.le_of_ble_eq_true rfl⟩) (mPreV hG hS hP hI hA (hP _ _ h_X) (r := (RX7, TX7, 7)) rfl) rfl rfl hl.1 rfl (lv_room (Nat.le_of_ble_eq_true rfl)) dX7_barometer_55 ⟨Nat.le_of_ble_eq_true rfl, Nat.le_of_ble_eq_true rfl⟩) hS (fun r9 Mw1 H locs hp_r9 hP hI hS => ?_)
          obtain ⟨hp_r9, hm9⟩ := hp_r9
          subst Mw1
          subst hp_r9
          have h_TL := mu_k (e := .inr (10, [.ref (g.1 1 0), .ref (g.1 2 0), .int (gS st 2), .int (gS st 3), .int (gS st 1), .int (gS st 0), .int 0])) (kd_ne h_TL h_X rfl) h_TL
          have h_IL := mu_k (e := .inr (10, [.ref (g.1 1 0), .ref (g.1 2 0), .int (gS st 2), .int (gS st 3), .int (gS st 1), .int (gS st 0), .int 0])) (kd_ne h_IL h_X rfl) h_IL
          have h_X : (mu Mw (g.1 0 0) (.inr (10, [.ref (g.1 1 0), .ref (g.1 2 0), .int (gS st 2), .int (gS st 3), .int (gS st 1), .int (gS st 0), .int 0]))) (g.1 0 0) = some (.inr (10, [.ref (g.1 1 0), .ref (g.1 2 0), .int (gS st 2), .int (gS st 3), .int (gS st 1), .int (gS st 0), .int 0])) := mu_s
          refine lv_if_eq (tgt := 63) hx hb dX7_barometer_58 (by decide) (fun _ => ?_) (fun h9 => absurd h9 (by decide))
          refine lv_iload_n hx hb dX7_barometer_63 rfl (lv_at hl 1 rfl) ?_
          refine lv_iload_n hx hb dX7_barometer_64 rfl (lv_at hl 1 rfl) ?_
          refine lv_bipush (v := (18)) hx hb dX7_barometer_65 (by decide) ?_
          refine lv_imul hx hb dX7_barometer_67 ?_
          refine lv_iload_n hx hb dX7_barometer_68 rfl (lv_at hl 2 rfl) ?_
          refine lv_imul hx hb dX7_barometer_69 ?_
          refine lv_ldc (v := 100000) hx hb hown (hts (.constant RX7 222 (100000)) (by decide +kernel)) dX7_barometer_70 ?_
          refine lv_idiv hx hb dX7_barometer_72 (by decide) ?_
          refine lv_isub hx hb dX7_barometer_73 ?_
          refine lv_iload_n hx hb dX7_barometer_74 rfl (lv_at hl 3 rfl) ?_
          refine lv_imul hx hb dX7_barometer_75 ?_
          refine lv_sipush (v := (9807)) hx hb dX7_barometer_76 (by decide) ?_
          refine lv_idiv hx hb dX7_barometer_79 (by decide) ?_
          refine lv_bipush (v := (60)) hx hb dX7_barometer_80 (by decide) ?_
          refine lv_iload hx hb dX7_barometer_82 (lv_at hl 4 rfl) ?_
          refine lv_idiv hx hb dX7_barometer_84 (fun q9 => by have h8 := hq_r7.1; rw [q9] at h8; exact h8 (by decide)) ?_
          refine lv_iadd hx hb dX7_barometer_85 ?_
          refine W.widen (k := 0) (n := 0) (Nat.le_of_ble_eq_true rfl) (Nat.le_of_ble_eq_true rfl) ?_
          exact W.iret (v := (((p0 - (((p0 * 18) * p1) / 100000)) * p2) / 9807) + (60 / p3)) hx hb hr (fun t99 ht99 hW99 => ⟨⟨(((p0 - (((p0 * 18) * p1) / 100000)) * p2) / 9807) + (60 / p3), (mu Mw (g.1 0 0) (.inr (10, [.ref (g.1 1 0), .ref (g.1 2 0), .int (gS st 2), .int (gS st 3), .int (gS st 1), .int (gS st 0), .int 0]))), rfl, RP.ok (by unfold m_barometer; first | (rw [chk_p hq_r1, chk_p hq_r3, chk_p hq_r5, chk_p hq_r7]; done) | (rw [chk_p hq_r1, chk_p hq_r3, chk_p hq_r5, chk_p hq_r7]; rfl)) (hR.th 0 h_X (fun x9 e9 hx9 h0 => ((mu_n h0).trans (rfl)).trans hx9)) rfl rfl, by rw [ht99]; exact hP, hI⟩, hS.F ht99⟩) hS.2.2 dX7_barometer_86

set_option maxHeartbeats 4000000 in
set_option maxRecDepth 100000 in
theorem c_X7_level (l : Launch) (G : mg) (A : Nat → Prop) (Mw : mw) (st : St) (g : gR) (p0 p1 p2 : Int32) (hR : RS G st g Mw) (hV : Inv st) : Met l yX7_level wsX7_level ({ frames := 4, cells := 0, slots := 0, locals := 85 }) (va_Pc [.ref (g.1 0 0), .int p0, .int p1, .int p2] (mB G A Mw)) (va_Qi (fun r Mw1 => RP G (m_level st p0 p1 p2) g r Mw1) (mE G A) A) 0 0 A := by
  refine Met.ofW (cc := cX7_level) (maxL := 5) (ret := (some .int)) (by decide) rfl ?_
  intro p e s m args below meth c s₁ B hml hv
  obtain ⟨rfl, hG, hP, hI, hA⟩ := hv
  have hx := B.exec
  have hb := B.bytes
  have hr := B.returns
  have hts := atoms_spec (ws := wsX7_level) B.pre
  have hown : s.vm.findClass RX7 = some m.cls := findClass_of_methodNamed B.named
  have hlocks := B.notSynchronized
  have hK := hG.K
  have i_X7 : ∀ w ∈ wsX70, w ∈ wsX7_level := by decide +kernel
  have hS : va_S A s.heap s.heap [] := va_S.rf
  have hl := lv_entry ([.ref (g.1 0 0), .int p0, .int p1, .int p2]) (n := 5) (Nat.le_of_ble_eq_true rfl)
  rw [lg_entry_eq]
  generalize (lg_sl ([.ref (g.1 0 0), .int p0, .int p1, .int p2]) ++ List.replicate (5 - (lg_sl ([.ref (g.1 0 0), .int p0, .int p1, .int p2])).length) Slot.unset).toArray = ls at hl ⊢
  have hl : lv_has ls 5 [(0, .ref (g.1 0 0)), (1, .int p0), (2, .int p1), (3, .int p2)] := hl
  have hP : mP G.1 Mw s.heap := hP
  have h_X : Mw (g.1 0 0) = some (.inr (10, [.ref (g.1 1 0), .ref (g.1 2 0), .int (gS st 2), .int (gS st 3), .int (gS st 1), .int (gS st 0), .int (thR g)])) := hR.1 0 0 ro0
  have h_TL : Mw (g.1 1 0) = some (.inr (2, [.int (mcR g 1 0), .ref (g.1 3 0), .int ((nI (nT st)))])) := hR.1 1 0 ro1
  have h_IL : Mw (g.1 2 0) = some (.inr (2, [.int (mcR g 2 0), .ref (g.1 4 0), .int ((nI (nN st)))])) := hR.1 2 0 ro2
  have hti9 := hR.ne ro1 ro2 (by omega)
  have hnT8 := hV.1.1
  have hnN8 := Nat.le_trans hV.1.2 (show 6 ≤ 8 by decide)
  refine lv_aload_n hx hb dX7_level_0 rfl (lv_at hl 0 rfl) ?_
  refine lv_aload_n hx hb dX7_level_1 rfl (lv_at hl 0 rfl) ?_
  refine lv_iload_n hx hb dX7_level_2 rfl (lv_at hl 1 rfl) ?_
  refine m_calli (va_runV (As := [.int p0]) (rest := [.ref (g.1 0 0)]) ⟨hx, hb, hml, hown, hts⟩ (c_X7_isNone l G A Mw  p0 h_X h_IL hnN8) (cwV 1 hts gX7_level_X7_isNone rfl rfl rfl (by decide +kernel) ⟨Nat.le_of_ble_eq_true rfl, Nat.le_of_ble_eq_true rfl⟩) (mPreV hG hS hP hI hA (hP _ _ h_X) (r := (RX7, TX7, 7)) rfl) rfl rfl hl.1 rfl (lv_room (Nat.le_of_ble_eq_true rfl)) dX7_level_3 ⟨Nat.le_of_ble_eq_true rfl, Nat.le_of_ble_eq_true rfl⟩) hS (fun r1 Mw1 H locs hp_r1 hP hI hS => ?_)
  obtain ⟨hb9, hm9⟩ := hp_r1
  subst Mw1
  rcases hb9 with ⟨hr9, hq_r1⟩ | ⟨hr9, hq_r1⟩
  · subst hr9
    have hi9 := hq_r1
    have e_p0 : p0 = nI (ix p0) := nI_cl hi9.1
    rw [e_p0] at hl
    have hf4 := hR.f4 hi9.2
    have h_ID : Mw (g.1 4 0) = some (.inl (G.2.1 5, 10, .inr (.inr (.inr (.inr (qf (nN st) (g.1 7))))))) := hR.1 4 0 (ro4 hf4)
    have h_I : Mw (g.1 7 (ix p0)) = some (.inr (8, [.ref (g.1 5 (tbN st (ix p0))), .int (itS st (ix p0) 1), .int (sof (itS st (ix p0) 2)), .int (itS st (ix p0) 3), .int (itS st (ix p0) 7), .int (itS st (ix p0) 6), .int (itS st (ix p0) 5), .int (itS st (ix p0) 12), .int (itS st (ix p0) 13), .int (itS st (ix p0) 14), .int (itS st (ix p0) 15), .int (itS st (ix p0) 8), .int (itS st (ix p0) 9), .int (itS st (ix p0) 10), .int (ceR g (ix p0)), .ref (g.1 8 (ix p0)), .ref (g.1 9 (ix p0))])) := hR.1 7 _ (ro7 hi9.2)
    have hT9 := hV.tb hi9.2
    have h_T : Mw (g.1 5 (tbN st (ix p0))) = some (.inr (9, [.ref (g.1 6 (tbN st (ix p0))), .int (usS st (tbN st (ix p0)))])) := hR.1 5 _ (ro5 hT9)
    have h_B : Mw (g.1 6 (tbN st (ix p0))) = some (.inl (G.2.1 0, 20, .inl (boS st (tbN st (ix p0))))) := hR.1 6 _ (ro6 hT9)
    refine lv_iconst (v := 1) hx hb dX7_level_6 (by decide) ?_
    refine m_calli (va_runV (As := [.int 0, .int 1]) (rest := []) ⟨hx, hb, hml, hown, hts⟩ (c_X7_isThrown0 l G A Mw  1 h_X) (cwV 2 hts gX7_level_X7_isThrown rfl rfl rfl (by decide +kernel) ⟨Nat.le_of_ble_eq_true rfl, Nat.le_of_ble_eq_true rfl⟩) (mPreV hG hS hP hI hA (hP _ _ h_X) (r := (RX7, TX7, 7)) rfl) rfl rfl hl.1 rfl (lv_room (Nat.le_of_ble_eq_true rfl)) dX7_level_7 ⟨Nat.le_of_ble_eq_true rfl, Nat.le_of_ble_eq_true rfl⟩) hS (fun r2 Mw1 H locs hp_r2 hP hI hS => ?_)
    obtain ⟨hp_r2, hm9⟩ := hp_r2
    subst Mw1
    subst hp_r2
    have h_TL := mu_k (e := .inr (10, [.ref (g.1 1 0), .ref (g.1 2 0), .int (gS st 2), .int (gS st 3), .int (gS st 1), .int (gS st 0), .int 0])) (kd_ne h_TL h_X rfl) h_TL
    have h_IL := mu_k (e := .inr (10, [.ref (g.1 1 0), .ref (g.1 2 0), .int (gS st 2), .int (gS st 3), .int (gS st 1), .int (gS st 0), .int 0])) (kd_ne h_IL h_X rfl) h_IL
    have h_ID := mu_k (e := .inr (10, [.ref (g.1 1 0), .ref (g.1 2 0), .int (gS st 2), .int (gS st 3), .int (gS st 1), .int (gS st 0), .int 0])) (kd_ne h_ID h_X rfl) h_ID
    have h_I := mu_k (e := .inr (10, [.ref (g.1 1 0), .ref (g.1 2 0), .int (gS st 2), .int (gS st 3), .int (gS st 1), .int (gS st 0), .int 0])) (kd_ne h_I h_X rfl) h_I
    have h_T := mu_k (e := .inr (10, [.ref (g.1 1 0), .ref (g.1 2 0), .int (gS st 2), .int (gS st 3), .int (gS st 1), .int (gS st 0), .int 0])) (kd_ne h_T h_X rfl) h_T
    have h_B := mu_k (e := .inr (10, [.ref (g.1 1 0), .ref (g.1 2 0), .int (gS st 2), .int (gS st 3), .int (gS st 1), .int (gS st 0), .int 0])) (kd_ne h_B h_X rfl) h_B
    have h_X : (mu Mw (g.1 0 0) (.inr (10, [.ref (g.1 1 0), .ref (g.1 2 0), .int (gS st 2), .int (gS st 3), .int (gS st 1), .int (gS st 0), .int 0]))) (g.1 0 0) = some (.inr (10, [.ref (g.1 1 0), .ref (g.1 2 0), .int (gS st 2), .int (gS st 3), .int (gS st 1), .int (gS st 0), .int 0])) := mu_s
    refine lv_if_ne (tgt := 53) hx hb dX7_level_10 (by decide) (fun h9 => absurd h9 (by decide)) (fun _ => ?_)
    refine lv_aload_n hx hb dX7_level_13 rfl (lv_at hl 0 rfl) ?_
    refine lv_iload_n hx hb dX7_level_14 rfl (lv_at hl 2 rfl) ?_
    refine m_calli (va_runS (As := [.int p1]) (rest := [.ref (g.1 0 0)]) ⟨hx, hb, hml, hown, hts⟩ (c_X7_isNoHeat l G A (mu Mw (g.1 0 0) (.inr (10, [.ref (g.1 1 0), .ref (g.1 2 0), .int (gS st 2), .int (gS st 3), .int (gS st 1), .int (gS st 0), .int 0])))  p1) (va_cwS 1 hts gX7_level_X7_isNoHeat rfl rfl rfl (by decide +kernel) ⟨Nat.le_of_ble_eq_true rfl, Nat.le_of_ble_eq_true rfl⟩) (mPreS hG hS hP hI hA) rfl rfl hl.1 rfl (lv_room (Nat.le_of_ble_eq_true rfl)) dX7_level_15 ⟨Nat.le_of_ble_eq_true rfl, Nat.le_of_ble_eq_true rfl⟩) hS (fun r3 Mw1 H locs hp_r3 hP hI hS => ?_)
    obtain ⟨hb9, hm9⟩ := hp_r3
    subst Mw1
    rcases hb9 with ⟨hr9, hq_r3⟩ | ⟨hr9, hq_r3⟩
    · subst hr9
      refine lv_if_ne (tgt := 28) hx hb dX7_level_18 (by decide) (fun h9 => absurd h9 (by decide)) (fun _ => ?_)
      refine lv_iload_n hx hb dX7_level_21 rfl (lv_at hl 3 rfl) ?_
      refine m_calli (va_runS (As := [.int p2]) (rest := [.ref (g.1 0 0)]) ⟨hx, hb, hml, hown, hts⟩ (c_X7_isNoPlace l G A (mu Mw (g.1 0 0) (.inr (10, [.ref (g.1 1 0), .ref (g.1 2 0), .int (gS st 2), .int (gS st 3), .int (gS st 1), .int (gS st 0), .int 0])))  p2) (va_cwS 1 hts gX7_level_X7_isNoPlace rfl rfl rfl (by decide +kernel) ⟨Nat.le_of_ble_eq_true rfl, Nat.le_of_ble_eq_true rfl⟩) (mPreS hG hS hP hI hA) rfl rfl hl.1 rfl (lv_room (Nat.le_of_ble_eq_true rfl)) dX7_level_22 ⟨Nat.le_of_ble_eq_true rfl, Nat.le_of_ble_eq_true rfl⟩) hS (fun r4 Mw1 H locs hp_r4 hP hI hS => ?_)
      obtain ⟨hb9, hm9⟩ := hp_r4
      subst Mw1
      rcases hb9 with ⟨hr9, hq_r4⟩ | ⟨hr9, hq_r4⟩
      · subst hr9
        have e_p2 : p2 = nI (ix p2) := nI_cl hq_r4.1
        rw [e_p2] at hl
        have hk_p2 := rg200 hq_r4
        have hv_p2 := hq_r4
        refine lv_if_eq (tgt := 32) hx hb dX7_level_25 (by decide) (fun _ => ?_) (fun h9 => absurd h9 (by decide))
        refine lv_iconst (v := 0) hx hb dX7_level_32 (by decide) ?_
        refine lv_iconst (v := 2) hx hb dX7_level_33 (by decide) ?_
        refine m_calli (va_runV (As := [.int 0, .int 2]) (rest := []) ⟨hx, hb, hml, hown, hts⟩ (c_X7_isThrown0 l G A (mu Mw (g.1 0 0) (.inr (10, [.ref (g.1 1 0), .ref (g.1 2 0), .int (gS st 2), .int (gS st 3), .int (gS st 1), .int (gS st 0), .int 0])))  2 h_X) (cwV 2 hts gX7_level_X7_isThrown rfl rfl rfl (by decide +kernel) ⟨Nat.le_of_ble_eq_true rfl, Nat.le_of_ble_eq_true rfl⟩) (mPreV hG hS hP hI hA (hP _ _ h_X) (r := (RX7, TX7, 7)) rfl) rfl rfl hl.1 rfl (lv_room (Nat.le_of_ble_eq_true rfl)) dX7_level_34 ⟨Nat.le_of_ble_eq_true rfl, Nat.le_of_ble_eq_true rfl⟩) hS (fun r5 Mw1 H locs hp_r5 hP hI hS => ?_)
        obtain ⟨hp_r5, hm9⟩ := hp_r5
        subst Mw1
        subst hp_r5
        have h_TL := mu_k (e := .inr (10, [.ref (g.1 1 0), .ref (g.1 2 0), .int (gS st 2), .int (gS st 3), .int (gS st 1), .int (gS st 0), .int 0])) (kd_ne h_TL h_X rfl) h_TL
        have h_IL := mu_k (e := .inr (10, [.ref (g.1 1 0), .ref (g.1 2 0), .int (gS st 2), .int (gS st 3), .int (gS st 1), .int (gS st 0), .int 0])) (kd_ne h_IL h_X rfl) h_IL
        have h_ID := mu_k (e := .inr (10, [.ref (g.1 1 0), .ref (g.1 2 0), .int (gS st 2), .int (gS st 3), .int (gS st 1), .int (gS st 0), .int 0])) (kd_ne h_ID h_X rfl) h_ID
        have h_I := mu_k (e := .inr (10, [.ref (g.1 1 0), .ref (g.1 2 0), .int (gS st 2), .int (gS st 3), .int (gS st 1), .int (gS st 0), .int 0])) (kd_ne h_I h_X rfl) h_I
        have h_T := mu_k (e := .inr (10, [.ref (g.1 1 0), .ref (g.1 2 0), .int (gS st 2), .int (gS st 3), .int (gS st 1), .int (gS st 0), .int 0])) (kd_ne h_T h_X rfl) h_T
        have h_B := mu_k (e := .inr (10, [.ref (g.1 1 0), .ref (g.1 2 0), .int (gS st 2), .int (gS st 3), .int (gS st 1), .int (gS st 0), .int 0])) (kd_ne h_B h_X rfl) h_B
        have h_X : (mu (mu Mw (g.1 0 0) (.inr (10, [.ref (g.1 1 0), .ref (g.1 2 0), .int (gS st 2), .int (gS st 3), .int (gS st 1), .int (gS st 0), .int 0]))) (g.1 0 0) (.inr (10, [.ref (g.1 1 0), .ref (g.1 2 0), .int (gS st 2), .int (gS st 3), .int (gS st 1), .int (gS st 0), .int 0]))) (g.1 0 0) = some (.inr (10, [.ref (g.1 1 0), .ref (g.1 2 0), .int (gS st 2), .int (gS st 3), .int (gS st 1), .int (gS st 0), .int 0])) := mu_s
        refine lv_if_ne (tgt := 53) hx hb dX7_level_37 (by decide) (fun h9 => absurd h9 (by decide)) (fun _ => ?_)
        refine lv_aload_n hx hb dX7_level_40 rfl (lv_at hl 0 rfl) ?_
        refine lv_aload_n hx hb dX7_level_41 rfl (lv_at hl 0 rfl) ?_
        refine lv_iload_n hx hb dX7_level_42 rfl (lv_at hl 1 rfl) ?_
        refine m_calli (va_runV (As := [.int (nI (ix p0))]) (rest := [.ref (g.1 0 0)]) ⟨hx, hb, hml, hown, hts⟩ (c_X7_isEmpty l G A (mu (mu Mw (g.1 0 0) (.inr (10, [.ref (g.1 1 0), .ref (g.1 2 0), .int (gS st 2), .int (gS st 3), .int (gS st 1), .int (gS st 0), .int 0]))) (g.1 0 0) (.inr (10, [.ref (g.1 1 0), .ref (g.1 2 0), .int (gS st 2), .int (gS st 3), .int (gS st 1), .int (gS st 0), .int 0])))  h_X h_IL hnN8 h_ID h_I (ix p0) hi9.2 (qf_p hi9.2)) (cwV 1 hts gX7_level_X7_isEmpty rfl rfl rfl (by decide +kernel) ⟨Nat.le_of_ble_eq_true rfl, Nat.le_of_ble_eq_true rfl⟩) (mPreV hG hS hP hI hA (hP _ _ h_X) (r := (RX7, TX7, 7)) rfl) rfl rfl hl.1 rfl (lv_room (Nat.le_of_ble_eq_true rfl)) dX7_level_43 ⟨Nat.le_of_ble_eq_true rfl, Nat.le_of_ble_eq_true rfl⟩) hS (fun r6 Mw1 H locs hp_r6 hP hI hS => ?_)
        obtain ⟨hb9, hm9⟩ := hp_r6
        subst Mw1
        rcases hb9 with ⟨hr9, hq_r6⟩ | ⟨hr9, hq_r6⟩
        · subst hr9
          have hfi9 : ¬ itS st (ix p0) 4 = 0 := fun q9 => hq_r6 ((hV.fil hi9.2).mpr q9)
          refine lv_iconst (v := 3) hx hb dX7_level_46 (by decide) ?_
          refine m_calli (va_runV (As := [.int 0, .int 3]) (rest := []) ⟨hx, hb, hml, hown, hts⟩ (c_X7_isThrown0 l G A (mu (mu Mw (g.1 0 0) (.inr (10, [.ref (g.1 1 0), .ref (g.1 2 0), .int (gS st 2), .int (gS st 3), .int (gS st 1), .int (gS st 0), .int 0]))) (g.1 0 0) (.inr (10, [.ref (g.1 1 0), .ref (g.1 2 0), .int (gS st 2), .int (gS st 3), .int (gS st 1), .int (gS st 0), .int 0])))  3 h_X) (cwV 2 hts gX7_level_X7_isThrown rfl rfl rfl (by decide +kernel) ⟨Nat.le_of_ble_eq_true rfl, Nat.le_of_ble_eq_true rfl⟩) (mPreV hG hS hP hI hA (hP _ _ h_X) (r := (RX7, TX7, 7)) rfl) rfl rfl hl.1 rfl (lv_room (Nat.le_of_ble_eq_true rfl)) dX7_level_47 ⟨Nat.le_of_ble_eq_true rfl, Nat.le_of_ble_eq_true rfl⟩) hS (fun r7 Mw1 H locs hp_r7 hP hI hS => ?_)
          obtain ⟨hp_r7, hm9⟩ := hp_r7
          subst Mw1
          subst hp_r7
          have h_TL := mu_k (e := .inr (10, [.ref (g.1 1 0), .ref (g.1 2 0), .int (gS st 2), .int (gS st 3), .int (gS st 1), .int (gS st 0), .int 0])) (kd_ne h_TL h_X rfl) h_TL
          have h_IL := mu_k (e := .inr (10, [.ref (g.1 1 0), .ref (g.1 2 0), .int (gS st 2), .int (gS st 3), .int (gS st 1), .int (gS st 0), .int 0])) (kd_ne h_IL h_X rfl) h_IL
          have h_ID := mu_k (e := .inr (10, [.ref (g.1 1 0), .ref (g.1 2 0), .int (gS st 2), .int (gS st 3), .int (gS st 1), .int (gS st 0), .int 0])) (kd_ne h_ID h_X rfl) h_ID
          have h_I := mu_k (e := .inr (10, [.ref (g.1 1 0), .ref (g.1 2 0), .int (gS st 2), .int (gS st 3), .int (gS st 1), .int (gS st 0), .int 0])) (kd_ne h_I h_X rfl) h_I
          have h_T := mu_k (e := .inr (10, [.ref (g.1 1 0), .ref (g.1 2 0), .int (gS st 2), .int (gS st 3), .int (gS st 1), .int (gS st 0), .int 0])) (kd_ne h_T h_X rfl) h_T
          have h_B := mu_k (e := .inr (10, [.ref (g.1 1 0), .ref (g.1 2 0), .int (gS st 2), .int (gS st 3), .int (gS st 1), .int (gS st 0), .int 0])) (kd_ne h_B h_X rfl) h_B
          have h_X : (mu (mu (mu Mw (g.1 0 0) (.inr (10, [.ref (g.1 1 0), .ref (g.1 2 0), .int (gS st 2), .int (gS st 3), .int (gS st 1), .int (gS st 0), .int 0]))) (g.1 0 0) (.inr (10, [.ref (g.1 1 0), .ref (g.1 2 0), .int (gS st 2), .int (gS st 3), .int (gS st 1), .int (gS st 0), .int 0]))) (g.1 0 0) (.inr (10, [.ref (g.1 1 0), .ref (g.1 2 0), .int (gS st 2), .int (gS st 3), .int (gS st 1), .int (gS st 0), .int 0]))) (g.1 0 0) = some (.inr (10, [.ref (g.1 1 0), .ref (g.1 2 0), .int (gS st 2), .int (gS st 3), .int (gS st 1), .int (gS st 0), .int 0])) := mu_s
          refine lv_if_eq (tgt := 55) hx hb dX7_level_50 (by decide) (fun _ => ?_) (fun h9 => absurd h9 (by decide))
          refine lv_aload_n hx hb dX7_level_55 rfl (lv_at hl 0 rfl) ?_
          refine m_get (ci := 10) (v := .ref (g.1 2 0)) (C := RX7) (T := TX7) (N := 7) hx hb hts i_X7 hown hK (hP _ _ h_X) rfl 1 (by decide) (hts (.fieldLink RX7 16 "MeniscusModel" "instruments" "Ljava/util/ArrayList;") (by decide +kernel)) (fun _ h9 => h9) rfl dX7_level_56 ?_
          refine lv_iload_n hx hb dX7_level_59 rfl (lv_at hl 1 rfl) ?_
          refine m_callq (va_runV (As := [.int (nI (ix p0))]) (rest := []) ⟨hx, hb, hml, hown, hts⟩ (c_Jx4a65c_get_915e3 l G A (mu (mu (mu Mw (g.1 0 0) (.inr (10, [.ref (g.1 1 0), .ref (g.1 2 0), .int (gS st 2), .int (gS st 3), .int (gS st 1), .int (gS st 0), .int 0]))) (g.1 0 0) (.inr (10, [.ref (g.1 1 0), .ref (g.1 2 0), .int (gS st 2), .int (gS st 3), .int (gS st 1), .int (gS st 0), .int 0]))) (g.1 0 0) (.inr (10, [.ref (g.1 1 0), .ref (g.1 2 0), .int (gS st 2), .int (gS st 3), .int (gS st 1), .int (gS st 0), .int 0])))  h_IL h_ID (ix p0) (g.1 7 (ix p0)) hi9.2 hnN8 (qf_p hi9.2)) (cwV 1 hts gX7_level_Jx4a65c_get_915e3 rfl rfl rfl (by decide +kernel) ⟨Nat.le_of_ble_eq_true rfl, Nat.le_of_ble_eq_true rfl⟩) (mPreV hG hS hP hI hA (hP _ _ h_IL) (r := (RJx4a65c, TJx4a65c, 3)) rfl) rfl rfl hl.1 rfl (lv_room (Nat.le_of_ble_eq_true rfl)) dX7_level_60 ⟨Nat.le_of_ble_eq_true rfl, Nat.le_of_ble_eq_true rfl⟩) hS (fun r8 Mw1 H locs hp_r8 hP hI hS => ?_)
          obtain ⟨hp_r8, hm9⟩ := hp_r8
          subst Mw1
          subst hp_r8
          refine va_castE hx hb hown (hts (.classLink RX7 79 RX5) (by decide +kernel)) (va_recv hK (va_at.one (hP _ _ h_I)) (q0 := 0) (q := (RX5, TX5, 17)) rfl rfl) dX7_level_63 ?_
          refine lv_iload_n hx hb dX7_level_66 rfl (lv_at hl 2 rfl) ?_
          refine lv_iload_n hx hb dX7_level_67 rfl (lv_at hl 3 rfl) ?_
          refine lv_aload_n hx hb dX7_level_68 rfl (lv_at hl 0 rfl) ?_
          refine m_get (ci := 10) (v := .int (gS st 0)) (C := RX7) (T := TX7) (N := 7) hx hb hts i_X7 hown hK (hP _ _ h_X) rfl 5 (by decide) (hts (.fieldLink RX7 19 "MeniscusModel" "air" "I") (by decide +kernel)) (fun _ h9 => h9) rfl dX7_level_69 ?_
          refine m_calli (va_runV (As := [.int p1, .int (nI (ix p2)), .int (gS st 0)]) (rest := []) ⟨hx, hb, hml, hown, hts⟩ (c_X5_level l G A (mu (mu (mu Mw (g.1 0 0) (.inr (10, [.ref (g.1 1 0), .ref (g.1 2 0), .int (gS st 2), .int (gS st 3), .int (gS st 1), .int (gS st 0), .int 0]))) (g.1 0 0) (.inr (10, [.ref (g.1 1 0), .ref (g.1 2 0), .int (gS st 2), .int (gS st 3), .int (gS st 1), .int (gS st 0), .int 0]))) (g.1 0 0) (.inr (10, [.ref (g.1 1 0), .ref (g.1 2 0), .int (gS st 2), .int (gS st 3), .int (gS st 1), .int (gS st 0), .int 0])))  p1 (gS st 0) (ix p2) hk_p2 h_I h_T h_B) (cwV 3 hts gX7_level_X5_level rfl rfl rfl (by decide +kernel) ⟨Nat.le_of_ble_eq_true rfl, Nat.le_of_ble_eq_true rfl⟩) (mPreV hG hS hP hI hA (hP _ _ h_I) (r := (RX5, TX5, 17)) rfl) rfl rfl hl.1 rfl (lv_room (Nat.le_of_ble_eq_true rfl)) dX7_level_72 ⟨Nat.le_of_ble_eq_true rfl, Nat.le_of_ble_eq_true rfl⟩) hS (fun r9 Mw1 H locs hp_r9 hP hI hS => ?_)
          obtain ⟨hp_r9, hm9⟩ := hp_r9
          subst Mw1
          rw [← lvl_m hV hi9.2 p1 hk_p2, ← e_p2] at hp_r9
          subst hp_r9
          refine lv_istore (lv' := [(4, .int (lvl st (ix p0) p1 p2)), (0, .ref (g.1 0 0)), (1, .int (nI (ix p0))), (2, .int p1), (3, .int (nI (ix p2)))]) hx hb dX7_level_75 hl (by decide) rfl (fun ls hl => ?_)
          refine lv_aload_n hx hb dX7_level_77 rfl (lv_at hl 1 rfl) ?_
          refine lv_iload hx hb dX7_level_78 (lv_at hl 0 rfl) ?_
          refine lv_iconst (v := (-1)) hx hb dX7_level_80 (by decide) ?_
          refine lv_icmp_ne (tgt := 88) hx hb dX7_level_81 (by decide) (fun c10 => ?_) (fun c10 => ?_)
          · skip
            refine lv_iconst (v := 0) hx hb dX7_level_88 (by decide) ?_
            refine lv_iconst (v := 4) hx hb dX7_level_89 (by decide) ?_
            refine m_calli (va_runV (As := [.int 0, .int 4]) (rest := []) ⟨hx, hb, hml, hown, hts⟩ (c_X7_isThrown0 l G A (mu (mu (mu Mw (g.1 0 0) (.inr (10, [.ref (g.1 1 0), .ref (g.1 2 0), .int (gS st 2), .int (gS st 3), .int (gS st 1), .int (gS st 0), .int 0]))) (g.1 0 0) (.inr (10, [.ref (g.1 1 0), .ref (g.1 2 0), .int (gS st 2), .int (gS st 3), .int (gS st 1), .int (gS st 0), .int 0]))) (g.1 0 0) (.inr (10, [.ref (g.1 1 0), .ref (g.1 2 0), .int (gS st 2), .int (gS st 3), .int (gS st 1), .int (gS st 0), .int 0])))  4 h_X) (cwV 2 hts gX7_level_X7_isThrown rfl rfl rfl (by decide +kernel) ⟨Nat.le_of_ble_eq_true rfl, Nat.le_of_ble_eq_true rfl⟩) (mPreV hG hS hP hI hA (hP _ _ h_X) (r := (RX7, TX7, 7)) rfl) rfl rfl hl.1 rfl (lv_room (Nat.le_of_ble_eq_true rfl)) dX7_level_90 ⟨Nat.le_of_ble_eq_true rfl, Nat.le_of_ble_eq_true rfl⟩) hS (fun r11 Mw1 H locs hp_r11 hP hI hS => ?_)
            obtain ⟨hp_r11, hm9⟩ := hp_r11
            subst Mw1
            subst hp_r11
            have h_TL := mu_k (e := .inr (10, [.ref (g.1 1 0), .ref (g.1 2 0), .int (gS st 2), .int (gS st 3), .int (gS st 1), .int (gS st 0), .int 0])) (kd_ne h_TL h_X rfl) h_TL
            have h_IL := mu_k (e := .inr (10, [.ref (g.1 1 0), .ref (g.1 2 0), .int (gS st 2), .int (gS st 3), .int (gS st 1), .int (gS st 0), .int 0])) (kd_ne h_IL h_X rfl) h_IL
            have h_ID := mu_k (e := .inr (10, [.ref (g.1 1 0), .ref (g.1 2 0), .int (gS st 2), .int (gS st 3), .int (gS st 1), .int (gS st 0), .int 0])) (kd_ne h_ID h_X rfl) h_ID
            have h_I := mu_k (e := .inr (10, [.ref (g.1 1 0), .ref (g.1 2 0), .int (gS st 2), .int (gS st 3), .int (gS st 1), .int (gS st 0), .int 0])) (kd_ne h_I h_X rfl) h_I
            have h_T := mu_k (e := .inr (10, [.ref (g.1 1 0), .ref (g.1 2 0), .int (gS st 2), .int (gS st 3), .int (gS st 1), .int (gS st 0), .int 0])) (kd_ne h_T h_X rfl) h_T
            have h_B := mu_k (e := .inr (10, [.ref (g.1 1 0), .ref (g.1 2 0), .int (gS st 2), .int (gS st 3), .int (gS st 1), .int (gS st 0), .int 0])) (kd_ne h_B h_X rfl) h_B
            have h_X : (mu (mu (mu (mu Mw (g.1 0 0) (.inr (10, [.ref (g.1 1 0), .ref (g.1 2 0), .int (gS st 2), .int (gS st 3), .int (gS st 1), .int (gS st 0), .int 0]))) (g.1 0 0) (.inr (10, [.ref (g.1 1 0), .ref (g.1 2 0), .int (gS st 2), .int (gS st 3), .int (gS st 1), .int (gS st 0), .int 0]))) (g.1 0 0) (.inr (10, [.ref (g.1 1 0), .ref (g.1 2 0), .int (gS st 2), .int (gS st 3), .int (gS st 1), .int (gS st 0), .int 0]))) (g.1 0 0) (.inr (10, [.ref (g.1 1 0), .ref (g.1 2 0), .int (gS st 2), .int (gS st 3), .int (gS st 1), .int (gS st 0), .int 0]))) (g.1 0 0) = some (.inr (10, [.ref (g.1 1 0), .ref (g.1 2 0), .int (gS st 2), .int (gS st 3), .int (gS st 1), .int (gS st 0), .int 0])) := mu_s
            refine lv_if_eq (tgt := 100) hx hb dX7_level_93 (by decide) (fun _ => ?_) (fun h9 => absurd h9 (by decide))
            refine lv_iload hx hb dX7_level_100 (lv_at hl 0 rfl) ?_
            refine W.widen (k := 0) (n := 0) (Nat.le_of_ble_eq_true rfl) (Nat.le_of_ble_eq_true rfl) ?_
            exact W.iret (v := lvl st (ix p0) p1 p2) hx hb hr (fun t99 ht99 hW99 => ⟨⟨lvl st (ix p0) p1 p2, (mu (mu (mu (mu Mw (g.1 0 0) (.inr (10, [.ref (g.1 1 0), .ref (g.1 2 0), .int (gS st 2), .int (gS st 3), .int (gS st 1), .int (gS st 0), .int 0]))) (g.1 0 0) (.inr (10, [.ref (g.1 1 0), .ref (g.1 2 0), .int (gS st 2), .int (gS st 3), .int (gS st 1), .int (gS st 0), .int 0]))) (g.1 0 0) (.inr (10, [.ref (g.1 1 0), .ref (g.1 2 0), .int (gS st 2), .int (gS st 3), .int (gS st 1), .int (gS st 0), .int 0]))) (g.1 0 0) (.inr (10, [.ref (g.1 1 0), .ref (g.1 2 0), .int (gS st 2), .int (gS st 3), .int (gS st 1), .int (gS st 0), .int 0]))), rfl, RP.ok (by unfold m_level; first | (rw [chk_p hi9, chk_p hq_r3, chk_p hq_r4, chk_p hfi9, chk_p c10]; done) | (rw [chk_p hi9, chk_p hq_r3, chk_p hq_r4, chk_p hfi9, chk_p c10]; rfl)) (hR.th 0 h_X (fun x9 e9 hx9 h0 => ((mu_n h0).trans ((mu_n h0).trans ((mu_n h0).trans ((mu_n h0).trans (rfl))))).trans hx9)) rfl rfl, by rw [ht99]; exact hP, hI⟩, hS.F ht99⟩) hS.2.2 dX7_level_102
          · skip
            refine lv_iconst (v := 1) hx hb dX7_level_84 (by decide) ?_
            refine lv_goto (tgt := 89) hx hb dX7_level_85 (by decide) ?_
            refine lv_iconst (v := 4) hx hb dX7_level_89 (by decide) ?_
            refine m_calli (va_runV (As := [.int 1, .int 4]) (rest := []) ⟨hx, hb, hml, hown, hts⟩ (c_X7_isThrown1 l G A (mu (mu (mu Mw (g.1 0 0) (.inr (10, [.ref (g.1 1 0), .ref (g.1 2 0), .int (gS st 2), .int (gS st 3), .int (gS st 1), .int (gS st 0), .int 0]))) (g.1 0 0) (.inr (10, [.ref (g.1 1 0), .ref (g.1 2 0), .int (gS st 2), .int (gS st 3), .int (gS st 1), .int (gS st 0), .int 0]))) (g.1 0 0) (.inr (10, [.ref (g.1 1 0), .ref (g.1 2 0), .int (gS st 2), .int (gS st 3), .int (gS st 1), .int (gS st 0), .int 0])))  4 h_X) (cwV 2 hts gX7_level_X7_isThrown rfl rfl rfl (by decide +kernel) ⟨Nat.le_of_ble_eq_true rfl, Nat.le_of_ble_eq_true rfl⟩) (mPreV hG hS hP hI hA (hP _ _ h_X) (r := (RX7, TX7, 7)) rfl) rfl rfl hl.1 rfl (lv_room (Nat.le_of_ble_eq_true rfl)) dX7_level_90 ⟨Nat.le_of_ble_eq_true rfl, Nat.le_of_ble_eq_true rfl⟩) hS (fun r12 Mw1 H locs hp_r12 hP hI hS => ?_)
            obtain ⟨hp_r12, hm9⟩ := hp_r12
            subst Mw1
            subst hp_r12
            have h_TL := mu_k (e := .inr (10, [.ref (g.1 1 0), .ref (g.1 2 0), .int (gS st 2), .int (gS st 3), .int (gS st 1), .int (gS st 0), .int 4])) (kd_ne h_TL h_X rfl) h_TL
            have h_IL := mu_k (e := .inr (10, [.ref (g.1 1 0), .ref (g.1 2 0), .int (gS st 2), .int (gS st 3), .int (gS st 1), .int (gS st 0), .int 4])) (kd_ne h_IL h_X rfl) h_IL
            have h_ID := mu_k (e := .inr (10, [.ref (g.1 1 0), .ref (g.1 2 0), .int (gS st 2), .int (gS st 3), .int (gS st 1), .int (gS st 0), .int 4])) (kd_ne h_ID h_X rfl) h_ID
            have h_I := mu_k (e := .inr (10, [.ref (g.1 1 0), .ref (g.1 2 0), .int (gS st 2), .int (gS st 3), .int (gS st 1), .int (gS st 0), .int 4])) (kd_ne h_I h_X rfl) h_I
            have h_T := mu_k (e := .inr (10, [.ref (g.1 1 0), .ref (g.1 2 0), .int (gS st 2), .int (gS st 3), .int (gS st 1), .int (gS st 0), .int 4])) (kd_ne h_T h_X rfl) h_T
            have h_B := mu_k (e := .inr (10, [.ref (g.1 1 0), .ref (g.1 2 0), .int (gS st 2), .int (gS st 3), .int (gS st 1), .int (gS st 0), .int 4])) (kd_ne h_B h_X rfl) h_B
            have h_X : (mu (mu (mu (mu Mw (g.1 0 0) (.inr (10, [.ref (g.1 1 0), .ref (g.1 2 0), .int (gS st 2), .int (gS st 3), .int (gS st 1), .int (gS st 0), .int 0]))) (g.1 0 0) (.inr (10, [.ref (g.1 1 0), .ref (g.1 2 0), .int (gS st 2), .int (gS st 3), .int (gS st 1), .int (gS st 0), .int 0]))) (g.1 0 0) (.inr (10, [.ref (g.1 1 0), .ref (g.1 2 0), .int (gS st 2), .int (gS st 3), .int (gS st 1), .int (gS st 0), .int 0]))) (g.1 0 0) (.inr (10, [.ref (g.1 1 0), .ref (g.1 2 0), .int (gS st 2), .int (gS st 3), .int (gS st 1), .int (gS st 0), .int 4]))) (g.1 0 0) = some (.inr (10, [.ref (g.1 1 0), .ref (g.1 2 0), .int (gS st 2), .int (gS st 3), .int (gS st 1), .int (gS st 0), .int 4])) := mu_s
            refine lv_if_eq (tgt := 100) hx hb dX7_level_93 (by decide) (fun h9 => absurd h9 (by decide)) (fun _ => ?_)
            refine lv_iconst (v := 0) hx hb dX7_level_96 (by decide) ?_
            refine lv_goto (tgt := 102) hx hb dX7_level_97 (by decide) ?_
            refine W.widen (k := 0) (n := 0) (Nat.le_of_ble_eq_true rfl) (Nat.le_of_ble_eq_true rfl) ?_
            exact W.iret (v := 0) hx hb hr (fun t99 ht99 hW99 => ⟨⟨0, (mu (mu (mu (mu Mw (g.1 0 0) (.inr (10, [.ref (g.1 1 0), .ref (g.1 2 0), .int (gS st 2), .int (gS st 3), .int (gS st 1), .int (gS st 0), .int 0]))) (g.1 0 0) (.inr (10, [.ref (g.1 1 0), .ref (g.1 2 0), .int (gS st 2), .int (gS st 3), .int (gS st 1), .int (gS st 0), .int 0]))) (g.1 0 0) (.inr (10, [.ref (g.1 1 0), .ref (g.1 2 0), .int (gS st 2), .int (gS st 3), .int (gS st 1), .int (gS st 0), .int 0]))) (g.1 0 0) (.inr (10, [.ref (g.1 1 0), .ref (g.1 2 0), .int (gS st 2), .int (gS st 3), .int (gS st 1), .int (gS st 0), .int 4]))), rfl, RP.no (k := 4) (by unfold m_level; first | (rw [chk_p hi9, chk_p hq_r3, chk_p hq_r4, chk_p hfi9, chk_n (fun q9 => q9 c10)]; done) | (rw [chk_p hi9, chk_p hq_r3, chk_p hq_r4, chk_p hfi9, chk_n (fun q9 => q9 c10)]; rfl)) (by decide) (hR.th 4 h_X (fun x9 e9 hx9 h0 => ((mu_n h0).trans ((mu_n h0).trans ((mu_n h0).trans ((mu_n h0).trans (rfl))))).trans hx9)) rfl rfl, by rw [ht99]; exact hP, hI⟩, hS.F ht99⟩) hS.2.2 dX7_level_102
        · subst hr9
          refine lv_iconst (v := 3) hx hb dX7_level_46 (by decide) ?_
          refine m_calli (va_runV (As := [.int 1, .int 3]) (rest := []) ⟨hx, hb, hml, hown, hts⟩ (c_X7_isThrown1 l G A (mu (mu Mw (g.1 0 0) (.inr (10, [.ref (g.1 1 0), .ref (g.1 2 0), .int (gS st 2), .int (gS st 3), .int (gS st 1), .int (gS st 0), .int 0]))) (g.1 0 0) (.inr (10, [.ref (g.1 1 0), .ref (g.1 2 0), .int (gS st 2), .int (gS st 3), .int (gS st 1), .int (gS st 0), .int 0])))  3 h_X) (cwV 2 hts gX7_level_X7_isThrown rfl rfl rfl (by decide +kernel) ⟨Nat.le_of_ble_eq_true rfl, Nat.le_of_ble_eq_true rfl⟩) (mPreV hG hS hP hI hA (hP _ _ h_X) (r := (RX7, TX7, 7)) rfl) rfl rfl hl.1 rfl (lv_room (Nat.le_of_ble_eq_true rfl)) dX7_level_47 ⟨Nat.le_of_ble_eq_true rfl, Nat.le_of_ble_eq_true rfl⟩) hS (fun r13 Mw1 H locs hp_r13 hP hI hS => ?_)
          obtain ⟨hp_r13, hm9⟩ := hp_r13
          subst Mw1
          subst hp_r13
          have h_TL := mu_k (e := .inr (10, [.ref (g.1 1 0), .ref (g.1 2 0), .int (gS st 2), .int (gS st 3), .int (gS st 1), .int (gS st 0), .int 3])) (kd_ne h_TL h_X rfl) h_TL
          have h_IL := mu_k (e := .inr (10, [.ref (g.1 1 0), .ref (g.1 2 0), .int (gS st 2), .int (gS st 3), .int (gS st 1), .int (gS st 0), .int 3])) (kd_ne h_IL h_X rfl) h_IL
          have h_ID := mu_k (e := .inr (10, [.ref (g.1 1 0), .ref (g.1 2 0), .int (gS st 2), .int (gS st 3), .int (gS st 1), .int (gS st 0), .int 3])) (kd_ne h_ID h_X rfl) h_ID
          have h_I := mu_k (e := .inr (10, [.ref (g.1 1 0), .ref (g.1 2 0), .int (gS st 2), .int (gS st 3), .int (gS st 1), .int (gS st 0), .int 3])) (kd_ne h_I h_X rfl) h_I
          have h_T := mu_k (e := .inr (10, [.ref (g.1 1 0), .ref (g.1 2 0), .int (gS st 2), .int (gS st 3), .int (gS st 1), .int (gS st 0), .int 3])) (kd_ne h_T h_X rfl) h_T
          have h_B := mu_k (e := .inr (10, [.ref (g.1 1 0), .ref (g.1 2 0), .int (gS st 2), .int (gS st 3), .int (gS st 1), .int (gS st 0), .int 3])) (kd_ne h_B h_X rfl) h_B
          have h_X : (mu (mu (mu Mw (g.1 0 0) (.inr (10, [.ref (g.1 1 0), .ref (g.1 2 0), .int (gS st 2), .int (gS st 3), .int (gS st 1), .int (gS st 0), .int 0]))) (g.1 0 0) (.inr (10, [.ref (g.1 1 0), .ref (g.1 2 0), .int (gS st 2), .int (gS st 3), .int (gS st 1), .int (gS st 0), .int 0]))) (g.1 0 0) (.inr (10, [.ref (g.1 1 0), .ref (g.1 2 0), .int (gS st 2), .int (gS st 3), .int (gS st 1), .int (gS st 0), .int 3]))) (g.1 0 0) = some (.inr (10, [.ref (g.1 1 0), .ref (g.1 2 0), .int (gS st 2), .int (gS st 3), .int (gS st 1), .int (gS st 0), .int 3])) := mu_s
          refine lv_if_eq (tgt := 55) hx hb dX7_level_50 (by decide) (fun h9 => absurd h9 (by decide)) (fun _ => ?_)
          refine lv_iconst (v := 0) hx hb dX7_level_53 (by decide) ?_
          refine W.widen (k := 0) (n := 0) (Nat.le_of_ble_eq_true rfl) (Nat.le_of_ble_eq_true rfl) ?_
          exact W.iret (v := 0) hx hb hr (fun t99 ht99 hW99 => ⟨⟨0, (mu (mu (mu Mw (g.1 0 0) (.inr (10, [.ref (g.1 1 0), .ref (g.1 2 0), .int (gS st 2), .int (gS st 3), .int (gS st 1), .int (gS st 0), .int 0]))) (g.1 0 0) (.inr (10, [.ref (g.1 1 0), .ref (g.1 2 0), .int (gS st 2), .int (gS st 3), .int (gS st 1), .int (gS st 0), .int 0]))) (g.1 0 0) (.inr (10, [.ref (g.1 1 0), .ref (g.1 2 0), .int (gS st 2), .int (gS st 3), .int (gS st 1), .int (gS st 0), .int 3]))), rfl, RP.no (k := 3) (by unfold m_level; first | (rw [chk_p hi9, chk_p hq_r3, chk_p hq_r4, chk_n (fun q9 => q9 ((hV.fil hi9.2).mp hq_r6))]; done) | (rw [chk_p hi9, chk_p hq_r3, chk_p hq_r4, chk_n (fun q9 => q9 ((hV.fil hi9.2).mp hq_r6))]; rfl)) (by decide) (hR.th 3 h_X (fun x9 e9 hx9 h0 => ((mu_n h0).trans ((mu_n h0).trans ((mu_n h0).trans (rfl)))).trans hx9)) rfl rfl, by rw [ht99]; exact hP, hI⟩, hS.F ht99⟩) hS.2.2 dX7_level_54
      · subst hr9
        refine lv_if_eq (tgt := 32) hx hb dX7_level_25 (by decide) (fun h9 => absurd h9 (by decide)) (fun _ => ?_)
        refine lv_iconst (v := 1) hx hb dX7_level_28 (by decide) ?_
        refine lv_goto (tgt := 33) hx hb dX7_level_29 (by decide) ?_
        refine lv_iconst (v := 2) hx hb dX7_level_33 (by decide) ?_
        refine m_calli (va_runV (As := [.int 1, .int 2]) (rest := []) ⟨hx, hb, hml, hown, hts⟩ (c_X7_isThrown1 l G A (mu Mw (g.1 0 0) (.inr (10, [.ref (g.1 1 0), .ref (g.1 2 0), .int (gS st 2), .int (gS st 3), .int (gS st 1), .int (gS st 0), .int 0])))  2 h_X) (cwV 2 hts gX7_level_X7_isThrown rfl rfl rfl (by decide +kernel) ⟨Nat.le_of_ble_eq_true rfl, Nat.le_of_ble_eq_true rfl⟩) (mPreV hG hS hP hI hA (hP _ _ h_X) (r := (RX7, TX7, 7)) rfl) rfl rfl hl.1 rfl (lv_room (Nat.le_of_ble_eq_true rfl)) dX7_level_34 ⟨Nat.le_of_ble_eq_true rfl, Nat.le_of_ble_eq_true rfl⟩) hS (fun r14 Mw1 H locs hp_r14 hP hI hS => ?_)
        obtain ⟨hp_r14, hm9⟩ := hp_r14
        subst Mw1
        subst hp_r14
        have h_TL := mu_k (e := .inr (10, [.ref (g.1 1 0), .ref (g.1 2 0), .int (gS st 2), .int (gS st 3), .int (gS st 1), .int (gS st 0), .int 2])) (kd_ne h_TL h_X rfl) h_TL
        have h_IL := mu_k (e := .inr (10, [.ref (g.1 1 0), .ref (g.1 2 0), .int (gS st 2), .int (gS st 3), .int (gS st 1), .int (gS st 0), .int 2])) (kd_ne h_IL h_X rfl) h_IL
        have h_ID := mu_k (e := .inr (10, [.ref (g.1 1 0), .ref (g.1 2 0), .int (gS st 2), .int (gS st 3), .int (gS st 1), .int (gS st 0), .int 2])) (kd_ne h_ID h_X rfl) h_ID
        have h_I := mu_k (e := .inr (10, [.ref (g.1 1 0), .ref (g.1 2 0), .int (gS st 2), .int (gS st 3), .int (gS st 1), .int (gS st 0), .int 2])) (kd_ne h_I h_X rfl) h_I
        have h_T := mu_k (e := .inr (10, [.ref (g.1 1 0), .ref (g.1 2 0), .int (gS st 2), .int (gS st 3), .int (gS st 1), .int (gS st 0), .int 2])) (kd_ne h_T h_X rfl) h_T
        have h_B := mu_k (e := .inr (10, [.ref (g.1 1 0), .ref (g.1 2 0), .int (gS st 2), .int (gS st 3), .int (gS st 1), .int (gS st 0), .int 2])) (kd_ne h_B h_X rfl) h_B
        have h_X : (mu (mu Mw (g.1 0 0) (.inr (10, [.ref (g.1 1 0), .ref (g.1 2 0), .int (gS st 2), .int (gS st 3), .int (gS st 1), .int (gS st 0), .int 0]))) (g.1 0 0) (.inr (10, [.ref (g.1 1 0), .ref (g.1 2 0), .int (gS st 2), .int (gS st 3), .int (gS st 1), .int (gS st 0), .int 2]))) (g.1 0 0) = some (.inr (10, [.ref (g.1 1 0), .ref (g.1 2 0), .int (gS st 2), .int (gS st 3), .int (gS st 1), .int (gS st 0), .int 2])) := mu_s
        refine lv_if_ne (tgt := 53) hx hb dX7_level_37 (by decide) (fun _ => ?_) (fun h9 => absurd h9 (by decide))
        refine lv_iconst (v := 0) hx hb dX7_level_53 (by decide) ?_
        refine W.widen (k := 0) (n := 0) (Nat.le_of_ble_eq_true rfl) (Nat.le_of_ble_eq_true rfl) ?_
        exact W.iret (v := 0) hx hb hr (fun t99 ht99 hW99 => ⟨⟨0, (mu (mu Mw (g.1 0 0) (.inr (10, [.ref (g.1 1 0), .ref (g.1 2 0), .int (gS st 2), .int (gS st 3), .int (gS st 1), .int (gS st 0), .int 0]))) (g.1 0 0) (.inr (10, [.ref (g.1 1 0), .ref (g.1 2 0), .int (gS st 2), .int (gS st 3), .int (gS st 1), .int (gS st 0), .int 2]))), rfl, RP.no (k := 2) (by unfold m_level; first | (rw [chk_p hi9, chk_p hq_r3, chk_n hq_r4]; done) | (rw [chk_p hi9, chk_p hq_r3, chk_n hq_r4]; rfl)) (by decide) (hR.th 2 h_X (fun x9 e9 hx9 h0 => ((mu_n h0).trans ((mu_n h0).trans (rfl))).trans hx9)) rfl rfl, by rw [ht99]; exact hP, hI⟩, hS.F ht99⟩) hS.2.2 dX7_level_54
    · subst hr9
      refine lv_if_ne (tgt := 28) hx hb dX7_level_18 (by decide) (fun _ => ?_) (fun h9 => absurd h9 (by decide))
      refine lv_iconst (v := 1) hx hb dX7_level_28 (by decide) ?_
      refine lv_goto (tgt := 33) hx hb dX7_level_29 (by decide) ?_
      refine lv_iconst (v := 2) hx hb dX7_level_33 (by decide) ?_
      refine m_calli (va_runV (As := [.int 1, .int 2]) (rest := []) ⟨hx, hb, hml, hown, hts⟩ (c_X7_isThrown1 l G A (mu Mw (g.1 0 0) (.inr (10, [.ref (g.1 1 0), .ref (g.1 2 0), .int (gS st 2), .int (gS st 3), .int (gS st 1), .int (gS st 0), .int 0])))  2 h_X) (cwV 2 hts gX7_level_X7_isThrown rfl rfl rfl (by decide +kernel) ⟨Nat.le_of_ble_eq_true rfl, Nat.le_of_ble_eq_true rfl⟩) (mPreV hG hS hP hI hA (hP _ _ h_X) (r := (RX7, TX7, 7)) rfl) rfl rfl hl.1 rfl (lv_room (Nat.le_of_ble_eq_true rfl)) dX7_level_34 ⟨Nat.le_of_ble_eq_true rfl, Nat.le_of_ble_eq_true rfl⟩) hS (fun r15 Mw1 H locs hp_r15 hP hI hS => ?_)
      obtain ⟨hp_r15, hm9⟩ := hp_r15
      subst Mw1
      subst hp_r15
      have h_TL := mu_k (e := .inr (10, [.ref (g.1 1 0), .ref (g.1 2 0), .int (gS st 2), .int (gS st 3), .int (gS st 1), .int (gS st 0), .int 2])) (kd_ne h_TL h_X rfl) h_TL
      have h_IL := mu_k (e := .inr (10, [.ref (g.1 1 0), .ref (g.1 2 0), .int (gS st 2), .int (gS st 3), .int (gS st 1), .int (gS st 0), .int 2])) (kd_ne h_IL h_X rfl) h_IL
      have h_ID := mu_k (e := .inr (10, [.ref (g.1 1 0), .ref (g.1 2 0), .int (gS st 2), .int (gS st 3), .int (gS st 1), .int (gS st 0), .int 2])) (kd_ne h_ID h_X rfl) h_ID
      have h_I := mu_k (e := .inr (10, [.ref (g.1 1 0), .ref (g.1 2 0), .int (gS st 2), .int (gS st 3), .int (gS st 1), .int (gS st 0), .int 2])) (kd_ne h_I h_X rfl) h_I
      have h_T := mu_k (e := .inr (10, [.ref (g.1 1 0), .ref (g.1 2 0), .int (gS st 2), .int (gS st 3), .int (gS st 1), .int (gS st 0), .int 2])) (kd_ne h_T h_X rfl) h_T
      have h_B := mu_k (e := .inr (10, [.ref (g.1 1 0), .ref (g.1 2 0), .int (gS st 2), .int (gS st 3), .int (gS st 1), .int (gS st 0), .int 2])) (kd_ne h_B h_X rfl) h_B
      have h_X : (mu (mu Mw (g.1 0 0) (.inr (10, [.ref (g.1 1 0), .ref (g.1 2 0), .int (gS st 2), .int (gS st 3), .int (gS st 1), .int (gS st 0), .int 0]))) (g.1 0 0) (.inr (10, [.ref (g.1 1 0), .ref (g.1 2 0), .int (gS st 2), .int (gS st 3), .int (gS st 1), .int (gS st 0), .int 2]))) (g.1 0 0) = some (.inr (10, [.ref (g.1 1 0), .ref (g.1 2 0), .int (gS st 2), .int (gS st 3), .int (gS st 1), .int (gS st 0), .int 2])) := mu_s
      refine lv_if_ne (tgt := 53) hx hb dX7_level_37 (by decide) (fun _ => ?_) (fun h9 => absurd h9 (by decide))
      refine lv_iconst (v := 0) hx hb dX7_level_53 (by decide) ?_
      refine W.widen (k := 0) (n := 0) (Nat.le_of_ble_eq_true rfl) (Nat.le_of_ble_eq_true rfl) ?_
      exact W.iret (v := 0) hx hb hr (fun t99 ht99 hW99 => ⟨⟨0, (mu (mu Mw (g.1 0 0) (.inr (10, [.ref (g.1 1 0), .ref (g.1 2 0), .int (gS st 2), .int (gS st 3), .int (gS st 1), .int (gS st 0), .int 0]))) (g.1 0 0) (.inr (10, [.ref (g.1 1 0), .ref (g.1 2 0), .int (gS st 2), .int (gS st 3), .int (gS st 1), .int (gS st 0), .int 2]))), rfl, RP.no (k := 2) (by unfold m_level; first | (rw [chk_p hi9, chk_n hq_r3]; done) | (rw [chk_p hi9, chk_n hq_r3]; rfl)) (by decide) (hR.th 2 h_X (fun x9 e9 hx9 h0 => ((mu_n h0).trans ((mu_n h0).trans (rfl))).trans hx9)) rfl rfl, by rw [ht99]; exact hP, hI⟩, hS.F ht99⟩) hS.2.2 dX7_level_54
  · subst hr9
    refine lv_iconst (v := 1) hx hb dX7_level_6 (by decide) ?_
    refine m_calli (va_runV (As := [.int 1, .int 1]) (rest := []) ⟨hx, hb, hml, hown, hts⟩ (c_X7_isThrown1 l G A Mw  1 h_X) (cwV 2 hts gX7_level_X7_isThrown rfl rfl rfl (by decide +kernel) ⟨Nat.le_of_ble_eq_true rfl, Nat.le_of_ble_eq_true rfl⟩) (mPreV hG hS hP hI hA (hP _ _ h_X) (r := (RX7, TX7, 7)) rfl) rfl rfl hl.1 rfl (lv_room (Nat.le_of_ble_eq_true rfl)) dX7_level_7 ⟨Nat.le_of_ble_eq_true rfl, Nat.le_of_ble_eq_true rfl⟩) hS (fun r16 Mw1 H locs hp_r16 hP hI hS => ?_)
    obtain ⟨hp_r16, hm9⟩ := hp_r16
    subst Mw1
    subst hp_r16
    have h_TL := mu_k (e := .inr (10, [.ref (g.1 1 0), .ref (g.1 2 0), .int (gS st 2), .int (gS st 3), .int (gS st 1), .int (gS st 0), .int 1])) (kd_ne h_TL h_X rfl) h_TL
    have h_IL := mu_k (e := .inr (10, [.ref (g.1 1 0), .ref (g.1 2 0), .int (gS st 2), .int (gS st 3), .int (gS st 1), .int (gS st 0), .int 1])) (kd_ne h_IL h_X rfl) h_IL
    have h_X : (mu Mw (g.1 0 0) (.inr (10, [.ref (g.1 1 0), .ref (g.1 2 0), .int (gS st 2), .int (gS st 3), .int (gS st 1), .int (gS st 0), .int 1]))) (g.1 0 0) = some (.inr (10, [.ref (g.1 1 0), .ref (g.1 2 0), .int (gS st 2), .int (gS st 3), .int (gS st 1), .int (gS st 0), .int 1])) := mu_s
    refine lv_if_ne (tgt := 53) hx hb dX7_level_10 (by decide) (fun _ => ?_) (fun h9 => absurd h9 (by decide))
    refine lv_iconst (v := 0) hx hb dX7_level_53 (by decide) ?_
    refine W.widen (k := 0) (n := 0) (Nat.le_of_ble_eq_true rfl) (Nat.le_of_ble_eq_true rfl) ?_
    exact W.iret (v := 0) hx hb hr (fun t99 ht99 hW99 => ⟨⟨0, (mu Mw (g.1 0 0) (.inr (10, [.ref (g.1 1 0), .ref (g.1 2 0), .int (gS st 2), .int (gS st 3), .int (gS st 1), .int (gS st 0), .int 1]))), rfl, RP.no (k := 1) (by unfold m_level; first | (rw [chk_n hq_r1]; done) | (rw [chk_n hq_r1]; rfl)) (by decide) (hR.th 1 h_X (fun x9 e9 hx9 h0 => ((mu_n h0).trans (rfl)).trans hx9)) rfl rfl, by rw [ht99]; exact hP, hI⟩, hS.F ht99⟩) hS.2.2 dX7_level_54

set_option maxHeartbeats 4000000 in
set_option maxRecDepth 100000 in
theorem c_X7_ice (l : Launch) (G : mg) (A : Nat → Prop) (Mw : mw) (st : St) (g : gR) (p0 : Int32) (hR : RS G st g Mw) (hV : Inv st) : Met l yX7_ice wsX7_ice ({ frames := 4, cells := 0, slots := 0, locals := 85 }) (va_Pc [.ref (g.1 0 0), .int p0] (mB G A Mw)) (va_Qi (fun r Mw1 => RP G (m_ice st p0) g r Mw1) (mE G A) A) 0 0 A := by
  refine Met.ofW (cc := cX7_ice) (maxL := 4) (ret := (some .int)) (by decide) rfl ?_
  intro p e s m args below meth c s₁ B hml hv
  obtain ⟨rfl, hG, hP, hI, hA⟩ := hv
  have hx := B.exec
  have hb := B.bytes
  have hr := B.returns
  have hts := atoms_spec (ws := wsX7_ice) B.pre
  have hown : s.vm.findClass RX7 = some m.cls := findClass_of_methodNamed B.named
  have hlocks := B.notSynchronized
  have hK := hG.K
  have i_X5 : ∀ w ∈ wsX50, w ∈ wsX7_ice := by decide +kernel
  have i_X7 : ∀ w ∈ wsX70, w ∈ wsX7_ice := by decide +kernel
  have hS : va_S A s.heap s.heap [] := va_S.rf
  have hl := lv_entry ([.ref (g.1 0 0), .int p0]) (n := 4) (Nat.le_of_ble_eq_true rfl)
  rw [lg_entry_eq]
  generalize (lg_sl ([.ref (g.1 0 0), .int p0]) ++ List.replicate (4 - (lg_sl ([.ref (g.1 0 0), .int p0])).length) Slot.unset).toArray = ls at hl ⊢
  have hl : lv_has ls 4 [(0, .ref (g.1 0 0)), (1, .int p0)] := hl
  have hP : mP G.1 Mw s.heap := hP
  have h_X : Mw (g.1 0 0) = some (.inr (10, [.ref (g.1 1 0), .ref (g.1 2 0), .int (gS st 2), .int (gS st 3), .int (gS st 1), .int (gS st 0), .int (thR g)])) := hR.1 0 0 ro0
  have h_TL : Mw (g.1 1 0) = some (.inr (2, [.int (mcR g 1 0), .ref (g.1 3 0), .int ((nI (nT st)))])) := hR.1 1 0 ro1
  have h_IL : Mw (g.1 2 0) = some (.inr (2, [.int (mcR g 2 0), .ref (g.1 4 0), .int ((nI (nN st)))])) := hR.1 2 0 ro2
  have hti9 := hR.ne ro1 ro2 (by omega)
  have hnT8 := hV.1.1
  have hnN8 := Nat.le_trans hV.1.2 (show 6 ≤ 8 by decide)
  refine lv_aload_n hx hb dX7_ice_0 rfl (lv_at hl 0 rfl) ?_
  refine lv_aload_n hx hb dX7_ice_1 rfl (lv_at hl 0 rfl) ?_
  refine lv_iload_n hx hb dX7_ice_2 rfl (lv_at hl 1 rfl) ?_
  refine m_calli (va_runV (As := [.int p0]) (rest := [.ref (g.1 0 0)]) ⟨hx, hb, hml, hown, hts⟩ (c_X7_isNone l G A Mw  p0 h_X h_IL hnN8) (cwV 1 hts gX7_ice_X7_isNone rfl rfl rfl (by decide +kernel) ⟨Nat.le_of_ble_eq_true rfl, Nat.le_of_ble_eq_true rfl⟩) (mPreV hG hS hP hI hA (hP _ _ h_X) (r := (RX7, TX7, 7)) rfl) rfl rfl hl.1 rfl (lv_room (Nat.le_of_ble_eq_true rfl)) dX7_ice_3 ⟨Nat.le_of_ble_eq_true rfl, Nat.le_of_ble_eq_true rfl⟩) hS (fun r1 Mw1 H locs hp_r1 hP hI hS => ?_)
  obtain ⟨hb9, hm9⟩ := hp_r1
  subst Mw1
  rcases hb9 with ⟨hr9, hq_r1⟩ | ⟨hr9, hq_r1⟩
  · subst hr9
    have hi9 := hq_r1
    have e_p0 : p0 = nI (ix p0) := nI_cl hi9.1
    rw [e_p0] at hl
    have hf4 := hR.f4 hi9.2
    have h_ID : Mw (g.1 4 0) = some (.inl (G.2.1 5, 10, .inr (.inr (.inr (.inr (qf (nN st) (g.1 7))))))) := hR.1 4 0 (ro4 hf4)
    have h_I : Mw (g.1 7 (ix p0)) = some (.inr (8, [.ref (g.1 5 (tbN st (ix p0))), .int (itS st (ix p0) 1), .int (sof (itS st (ix p0) 2)), .int (itS st (ix p0) 3), .int (itS st (ix p0) 7), .int (itS st (ix p0) 6), .int (itS st (ix p0) 5), .int (itS st (ix p0) 12), .int (itS st (ix p0) 13), .int (itS st (ix p0) 14), .int (itS st (ix p0) 15), .int (itS st (ix p0) 8), .int (itS st (ix p0) 9), .int (itS st (ix p0) 10), .int (ceR g (ix p0)), .ref (g.1 8 (ix p0)), .ref (g.1 9 (ix p0))])) := hR.1 7 _ (ro7 hi9.2)
    have hT9 := hV.tb hi9.2
    have h_T : Mw (g.1 5 (tbN st (ix p0))) = some (.inr (9, [.ref (g.1 6 (tbN st (ix p0))), .int (usS st (tbN st (ix p0)))])) := hR.1 5 _ (ro5 hT9)
    have h_B : Mw (g.1 6 (tbN st (ix p0))) = some (.inl (G.2.1 0, 20, .inl (boS st (tbN st (ix p0))))) := hR.1 6 _ (ro6 hT9)
    refine lv_iconst (v := 1) hx hb dX7_ice_6 (by decide) ?_
    refine m_calli (va_runV (As := [.int 0, .int 1]) (rest := []) ⟨hx, hb, hml, hown, hts⟩ (c_X7_isThrown0 l G A Mw  1 h_X) (cwV 2 hts gX7_ice_X7_isThrown rfl rfl rfl (by decide +kernel) ⟨Nat.le_of_ble_eq_true rfl, Nat.le_of_ble_eq_true rfl⟩) (mPreV hG hS hP hI hA (hP _ _ h_X) (r := (RX7, TX7, 7)) rfl) rfl rfl hl.1 rfl (lv_room (Nat.le_of_ble_eq_true rfl)) dX7_ice_7 ⟨Nat.le_of_ble_eq_true rfl, Nat.le_of_ble_eq_true rfl⟩) hS (fun r2 Mw1 H locs hp_r2 hP hI hS => ?_)
    obtain ⟨hp_r2, hm9⟩ := hp_r2
    subst Mw1
    subst hp_r2
    have h_TL := mu_k (e := .inr (10, [.ref (g.1 1 0), .ref (g.1 2 0), .int (gS st 2), .int (gS st 3), .int (gS st 1), .int (gS st 0), .int 0])) (kd_ne h_TL h_X rfl) h_TL
    have h_IL := mu_k (e := .inr (10, [.ref (g.1 1 0), .ref (g.1 2 0), .int (gS st 2), .int (gS st 3), .int (gS st 1), .int (gS st 0), .int 0])) (kd_ne h_IL h_X rfl) h_IL
    have h_ID := mu_k (e := .inr (10, [.ref (g.1 1 0), .ref (g.1 2 0), .int (gS st 2), .int (gS st 3), .int (gS st 1), .int (gS st 0), .int 0])) (kd_ne h_ID h_X rfl) h_ID
    have h_I := mu_k (e := .inr (10, [.ref (g.1 1 0), .ref (g.1 2 0), .int (gS st 2), .int (gS st 3), .int (gS st 1), .int (gS st 0), .int 0])) (kd_ne h_I h_X rfl) h_I
    have h_T := mu_k (e := .inr (10, [.ref (g.1 1 0), .ref (g.1 2 0), .int (gS st 2), .int (gS st 3), .int (gS st 1), .int (gS st 0), .int 0])) (kd_ne h_T h_X rfl) h_T
    have h_B := mu_k (e := .inr (10, [.ref (g.1 1 0), .ref (g.1 2 0), .int (gS st 2), .int (gS st 3), .int (gS st 1), .int (gS st 0), .int 0])) (kd_ne h_B h_X rfl) h_B
    have h_X : (mu Mw (g.1 0 0) (.inr (10, [.ref (g.1 1 0), .ref (g.1 2 0), .int (gS st 2), .int (gS st 3), .int (gS st 1), .int (gS st 0), .int 0]))) (g.1 0 0) = some (.inr (10, [.ref (g.1 1 0), .ref (g.1 2 0), .int (gS st 2), .int (gS st 3), .int (gS st 1), .int (gS st 0), .int 0])) := mu_s
    refine lv_if_ne (tgt := 26) hx hb dX7_ice_10 (by decide) (fun h9 => absurd h9 (by decide)) (fun _ => ?_)
    refine lv_aload_n hx hb dX7_ice_13 rfl (lv_at hl 0 rfl) ?_
    refine lv_aload_n hx hb dX7_ice_14 rfl (lv_at hl 0 rfl) ?_
    refine lv_iload_n hx hb dX7_ice_15 rfl (lv_at hl 1 rfl) ?_
    refine m_calli (va_runV (As := [.int (nI (ix p0))]) (rest := [.ref (g.1 0 0)]) ⟨hx, hb, hml, hown, hts⟩ (c_X7_isEmpty l G A (mu Mw (g.1 0 0) (.inr (10, [.ref (g.1 1 0), .ref (g.1 2 0), .int (gS st 2), .int (gS st 3), .int (gS st 1), .int (gS st 0), .int 0])))  h_X h_IL hnN8 h_ID h_I (ix p0) hi9.2 (qf_p hi9.2)) (cwV 1 hts gX7_ice_X7_isEmpty rfl rfl rfl (by decide +kernel) ⟨Nat.le_of_ble_eq_true rfl, Nat.le_of_ble_eq_true rfl⟩) (mPreV hG hS hP hI hA (hP _ _ h_X) (r := (RX7, TX7, 7)) rfl) rfl rfl hl.1 rfl (lv_room (Nat.le_of_ble_eq_true rfl)) dX7_ice_16 ⟨Nat.le_of_ble_eq_true rfl, Nat.le_of_ble_eq_true rfl⟩) hS (fun r3 Mw1 H locs hp_r3 hP hI hS => ?_)
    obtain ⟨hb9, hm9⟩ := hp_r3
    subst Mw1
    rcases hb9 with ⟨hr9, hq_r3⟩ | ⟨hr9, hq_r3⟩
    · subst hr9
      have hfi9 : ¬ itS st (ix p0) 4 = 0 := fun q9 => hq_r3 ((hV.fil hi9.2).mpr q9)
      refine lv_iconst (v := 2) hx hb dX7_ice_19 (by decide) ?_
      refine m_calli (va_runV (As := [.int 0, .int 2]) (rest := []) ⟨hx, hb, hml, hown, hts⟩ (c_X7_isThrown0 l G A (mu Mw (g.1 0 0) (.inr (10, [.ref (g.1 1 0), .ref (g.1 2 0), .int (gS st 2), .int (gS st 3), .int (gS st 1), .int (gS st 0), .int 0])))  2 h_X) (cwV 2 hts gX7_ice_X7_isThrown rfl rfl rfl (by decide +kernel) ⟨Nat.le_of_ble_eq_true rfl, Nat.le_of_ble_eq_true rfl⟩) (mPreV hG hS hP hI hA (hP _ _ h_X) (r := (RX7, TX7, 7)) rfl) rfl rfl hl.1 rfl (lv_room (Nat.le_of_ble_eq_true rfl)) dX7_ice_20 ⟨Nat.le_of_ble_eq_true rfl, Nat.le_of_ble_eq_true rfl⟩) hS (fun r4 Mw1 H locs hp_r4 hP hI hS => ?_)
      obtain ⟨hp_r4, hm9⟩ := hp_r4
      subst Mw1
      subst hp_r4
      have h_TL := mu_k (e := .inr (10, [.ref (g.1 1 0), .ref (g.1 2 0), .int (gS st 2), .int (gS st 3), .int (gS st 1), .int (gS st 0), .int 0])) (kd_ne h_TL h_X rfl) h_TL
      have h_IL := mu_k (e := .inr (10, [.ref (g.1 1 0), .ref (g.1 2 0), .int (gS st 2), .int (gS st 3), .int (gS st 1), .int (gS st 0), .int 0])) (kd_ne h_IL h_X rfl) h_IL
      have h_ID := mu_k (e := .inr (10, [.ref (g.1 1 0), .ref (g.1 2 0), .int (gS st 2), .int (gS st 3), .int (gS st 1), .int (gS st 0), .int 0])) (kd_ne h_ID h_X rfl) h_ID
      have h_I := mu_k (e := .inr (10, [.ref (g.1 1 0), .ref (g.1 2 0), .int (gS st 2), .int (gS st 3), .int (gS st 1), .int (gS st 0), .int 0])) (kd_ne h_I h_X rfl) h_I
      have h_T := mu_k (e := .inr (10, [.ref (g.1 1 0), .ref (g.1 2 0), .int (gS st 2), .int (gS st 3), .int (gS st 1), .int (gS st 0), .int 0])) (kd_ne h_T h_X rfl) h_T
      have h_B := mu_k (e := .inr (10, [.ref (g.1 1 0), .ref (g.1 2 0), .int (gS st 2), .int (gS st 3), .int (gS st 1), .int (gS st 0), .int 0])) (kd_ne h_B h_X rfl) h_B
      have h_X : (mu (mu Mw (g.1 0 0) (.inr (10, [.ref (g.1 1 0), .ref (g.1 2 0), .int (gS st 2), .int (gS st 3), .int (gS st 1), .int (gS st 0), .int 0]))) (g.1 0 0) (.inr (10, [.ref (g.1 1 0), .ref (g.1 2 0), .int (gS st 2), .int (gS st 3), .int (gS st 1), .int (gS st 0), .int 0]))) (g.1 0 0) = some (.inr (10, [.ref (g.1 1 0), .ref (g.1 2 0), .int (gS st 2), .int (gS st 3), .int (gS st 1), .int (gS st 0), .int 0])) := mu_s
      refine lv_if_eq (tgt := 28) hx hb dX7_ice_23 (by decide) (fun _ => ?_) (fun h9 => absurd h9 (by decide))
      refine lv_aload_n hx hb dX7_ice_28 rfl (lv_at hl 0 rfl) ?_
      refine m_get (ci := 10) (v := .ref (g.1 2 0)) (C := RX7) (T := TX7) (N := 7) hx hb hts i_X7 hown hK (hP _ _ h_X) rfl 1 (by decide) (hts (.fieldLink RX7 16 "MeniscusModel" "instruments" "Ljava/util/ArrayList;") (by decide +kernel)) (fun _ h9 => h9) rfl dX7_ice_29 ?_
      refine lv_iload_n hx hb dX7_ice_32 rfl (lv_at hl 1 rfl) ?_
      refine m_callq (va_runV (As := [.int (nI (ix p0))]) (rest := []) ⟨hx, hb, hml, hown, hts⟩ (c_Jx4a65c_get_915e3 l G A (mu (mu Mw (g.1 0 0) (.inr (10, [.ref (g.1 1 0), .ref (g.1 2 0), .int (gS st 2), .int (gS st 3), .int (gS st 1), .int (gS st 0), .int 0]))) (g.1 0 0) (.inr (10, [.ref (g.1 1 0), .ref (g.1 2 0), .int (gS st 2), .int (gS st 3), .int (gS st 1), .int (gS st 0), .int 0])))  h_IL h_ID (ix p0) (g.1 7 (ix p0)) hi9.2 hnN8 (qf_p hi9.2)) (cwV 1 hts gX7_ice_Jx4a65c_get_915e3 rfl rfl rfl (by decide +kernel) ⟨Nat.le_of_ble_eq_true rfl, Nat.le_of_ble_eq_true rfl⟩) (mPreV hG hS hP hI hA (hP _ _ h_IL) (r := (RJx4a65c, TJx4a65c, 3)) rfl) rfl rfl hl.1 rfl (lv_room (Nat.le_of_ble_eq_true rfl)) dX7_ice_33 ⟨Nat.le_of_ble_eq_true rfl, Nat.le_of_ble_eq_true rfl⟩) hS (fun r5 Mw1 H locs hp_r5 hP hI hS => ?_)
      obtain ⟨hp_r5, hm9⟩ := hp_r5
      subst Mw1
      subst hp_r5
      refine va_castE hx hb hown (hts (.classLink RX7 79 RX5) (by decide +kernel)) (va_recv hK (va_at.one (hP _ _ h_I)) (q0 := 0) (q := (RX5, TX5, 17)) rfl rfl) dX7_ice_36 ?_
      refine lv_astore_n (lv' := [(2, .ref (g.1 7 (ix p0))), (0, .ref (g.1 0 0)), (1, .int (nI (ix p0)))]) hx hb dX7_ice_39 rfl hl (by decide) rfl (fun ls hl => ?_)
      refine lv_aload_n hx hb dX7_ice_40 rfl (lv_at hl 0 rfl) ?_
      refine lv_iconst (v := 0) hx hb dX7_ice_41 (by decide) ?_
      refine lv_sipush (v := (200)) hx hb dX7_ice_42 (by decide) ?_
      rw [i200]
      refine lv_aload_n hx hb dX7_ice_45 rfl (lv_at hl 1 rfl) ?_
      refine m_get (ci := 10) (v := .int (gS st 0)) (C := RX7) (T := TX7) (N := 7) hx hb hts i_X7 hown hK (hP _ _ h_X) rfl 5 (by decide) (hts (.fieldLink RX7 19 "MeniscusModel" "air" "I") (by decide +kernel)) (fun _ h9 => h9) rfl dX7_ice_46 ?_
      refine m_calli (va_runV (As := [.int 0, .int (nI 200), .int (gS st 0)]) (rest := []) ⟨hx, hb, hml, hown, hts⟩ (c_X5_level l G A (mu (mu Mw (g.1 0 0) (.inr (10, [.ref (g.1 1 0), .ref (g.1 2 0), .int (gS st 2), .int (gS st 3), .int (gS st 1), .int (gS st 0), .int 0]))) (g.1 0 0) (.inr (10, [.ref (g.1 1 0), .ref (g.1 2 0), .int (gS st 2), .int (gS st 3), .int (gS st 1), .int (gS st 0), .int 0])))  0 (gS st 0) 200 (Nat.le_refl 200) h_I h_T h_B) (cwV 3 hts gX7_ice_X5_level rfl rfl rfl (by decide +kernel) ⟨Nat.le_of_ble_eq_true rfl, Nat.le_of_ble_eq_true rfl⟩) (mPreV hG hS hP hI hA (hP _ _ h_I) (r := (RX5, TX5, 17)) rfl) rfl rfl hl.1 rfl (lv_room (Nat.le_of_ble_eq_true rfl)) dX7_ice_49 ⟨Nat.le_of_ble_eq_true rfl, Nat.le_of_ble_eq_true rfl⟩) hS (fun r6 Mw1 H locs hp_r6 hP hI hS => ?_)
      obtain ⟨hp_r6, hm9⟩ := hp_r6
      subst Mw1
      rw [← lvl_m hV hi9.2 0 (Nat.le_refl 200), ← i200] at hp_r6
      subst hp_r6
      refine lv_istore_n (lv' := [(3, .int (lvl st (ix p0) 0 200)), (2, .ref (g.1 7 (ix p0))), (0, .ref (g.1 0 0)), (1, .int (nI (ix p0)))]) hx hb dX7_ice_52 rfl hl (by decide) rfl (fun ls hl => ?_)
      refine lv_aload_n hx hb dX7_ice_53 rfl (lv_at hl 2 rfl) ?_
      refine lv_iload_n hx hb dX7_ice_54 rfl (lv_at hl 0 rfl) ?_
      refine lv_iconst (v := (-1)) hx hb dX7_ice_55 (by decide) ?_
      refine lv_icmp_ne (tgt := 63) hx hb dX7_ice_56 (by decide) (fun c7 => ?_) (fun c7 => ?_)
      · skip
        refine lv_iconst (v := 0) hx hb dX7_ice_63 (by decide) ?_
        refine lv_iconst (v := 3) hx hb dX7_ice_64 (by decide) ?_
        refine m_calli (va_runV (As := [.int 0, .int 3]) (rest := []) ⟨hx, hb, hml, hown, hts⟩ (c_X7_isThrown0 l G A (mu (mu Mw (g.1 0 0) (.inr (10, [.ref (g.1 1 0), .ref (g.1 2 0), .int (gS st 2), .int (gS st 3), .int (gS st 1), .int (gS st 0), .int 0]))) (g.1 0 0) (.inr (10, [.ref (g.1 1 0), .ref (g.1 2 0), .int (gS st 2), .int (gS st 3), .int (gS st 1), .int (gS st 0), .int 0])))  3 h_X) (cwV 2 hts gX7_ice_X7_isThrown rfl rfl rfl (by decide +kernel) ⟨Nat.le_of_ble_eq_true rfl, Nat.le_of_ble_eq_true rfl⟩) (mPreV hG hS hP hI hA (hP _ _ h_X) (r := (RX7, TX7, 7)) rfl) rfl rfl hl.1 rfl (lv_room (Nat.le_of_ble_eq_true rfl)) dX7_ice_65 ⟨Nat.le_of_ble_eq_true rfl, Nat.le_of_ble_eq_true rfl⟩) hS (fun r8 Mw1 H locs hp_r8 hP hI hS => ?_)
        obtain ⟨hp_r8, hm9⟩ := hp_r8
        subst Mw1
        subst hp_r8
        have h_TL := mu_k (e := .inr (10, [.ref (g.1 1 0), .ref (g.1 2 0), .int (gS st 2), .int (gS st 3), .int (gS st 1), .int (gS st 0), .int 0])) (kd_ne h_TL h_X rfl) h_TL
        have h_IL := mu_k (e := .inr (10, [.ref (g.1 1 0), .ref (g.1 2 0), .int (gS st 2), .int (gS st 3), .int (gS st 1), .int (gS st 0), .int 0])) (kd_ne h_IL h_X rfl) h_IL
        have h_ID := mu_k (e := .inr (10, [.ref (g.1 1 0), .ref (g.1 2 0), .int (gS st 2), .int (gS st 3), .int (gS st 1), .int (gS st 0), .int 0])) (kd_ne h_ID h_X rfl) h_ID
        have h_I := mu_k (e := .inr (10, [.ref (g.1 1 0), .ref (g.1 2 0), .int (gS st 2), .int (gS st 3), .int (gS st 1), .int (gS st 0), .int 0])) (kd_ne h_I h_X rfl) h_I
        have h_T := mu_k (e := .inr (10, [.ref (g.1 1 0), .ref (g.1 2 0), .int (gS st 2), .int (gS st 3), .int (gS st 1), .int (gS st 0), .int 0])) (kd_ne h_T h_X rfl) h_T
        have h_B := mu_k (e := .inr (10, [.ref (g.1 1 0), .ref (g.1 2 0), .int (gS st 2), .int (gS st 3), .int (gS st 1), .int (gS st 0), .int 0])) (kd_ne h_B h_X rfl) h_B
        have h_X : (mu (mu (mu Mw (g.1 0 0) (.inr (10, [.ref (g.1 1 0), .ref (g.1 2 0), .int (gS st 2), .int (gS st 3), .int (gS st 1), .int (gS st 0), .int 0]))) (g.1 0 0) (.inr (10, [.ref (g.1 1 0), .ref (g.1 2 0), .int (gS st 2), .int (gS st 3), .int (gS st 1), .int (gS st 0), .int 0]))) (g.1 0 0) (.inr (10, [.ref (g.1 1 0), .ref (g.1 2 0), .int (gS st 2), .int (gS st 3), .int (gS st 1), .int (gS st 0), .int 0]))) (g.1 0 0) = some (.inr (10, [.ref (g.1 1 0), .ref (g.1 2 0), .int (gS st 2), .int (gS st 3), .int (gS st 1), .int (gS st 0), .int 0])) := mu_s
        refine lv_if_eq (tgt := 73) hx hb dX7_ice_68 (by decide) (fun _ => ?_) (fun h9 => absurd h9 (by decide))
        refine lv_aload_n hx hb dX7_ice_73 rfl (lv_at hl 1 rfl) ?_
        refine lv_iload_n hx hb dX7_ice_74 rfl (lv_at hl 0 rfl) ?_
        refine m_putN (ci := 8) (v := .int (lvl st (ix p0) 0 200)) (ty := .int) (C := RX5) (T := TX5) (N := 17) hx hb hts i_X5 tyX5 tyX5_ok nmX5 hown hK hP hI hS h_I rfl 7 (by decide) (va_Nw.use rfl (hG.2.1.2.1 ("MeniscusModel", 149, "MeniscusModel$Instrument", "ice", "I", "MeniscusModel") (by decide +kernel))) (fun _ h9 => h9) rfl (by decide +kernel) rfl rfl (Nat.le_of_ble_eq_true rfl) dX7_ice_75 (fun H locs hP hI hS => ?_)
        have hP : mP G.1 (mu (mu (mu (mu Mw (g.1 0 0) (.inr (10, [.ref (g.1 1 0), .ref (g.1 2 0), .int (gS st 2), .int (gS st 3), .int (gS st 1), .int (gS st 0), .int 0]))) (g.1 0 0) (.inr (10, [.ref (g.1 1 0), .ref (g.1 2 0), .int (gS st 2), .int (gS st 3), .int (gS st 1), .int (gS st 0), .int 0]))) (g.1 0 0) (.inr (10, [.ref (g.1 1 0), .ref (g.1 2 0), .int (gS st 2), .int (gS st 3), .int (gS st 1), .int (gS st 0), .int 0]))) (g.1 7 (ix p0)) (.inr (8, [.ref (g.1 5 (tbN st (ix p0))), .int (itS st (ix p0) 1), .int (sof (itS st (ix p0) 2)), .int (itS st (ix p0) 3), .int (itS st (ix p0) 7), .int (itS st (ix p0) 6), .int (itS st (ix p0) 5), .int (lvl st (ix p0) 0 200), .int (itS st (ix p0) 13), .int (itS st (ix p0) 14), .int (itS st (ix p0) 15), .int (itS st (ix p0) 8), .int (itS st (ix p0) 9), .int (itS st (ix p0) 10), .int (ceR g (ix p0)), .ref (g.1 8 (ix p0)), .ref (g.1 9 (ix p0))]))) H := hP
        have hI : mI A (mu (mu (mu (mu Mw (g.1 0 0) (.inr (10, [.ref (g.1 1 0), .ref (g.1 2 0), .int (gS st 2), .int (gS st 3), .int (gS st 1), .int (gS st 0), .int 0]))) (g.1 0 0) (.inr (10, [.ref (g.1 1 0), .ref (g.1 2 0), .int (gS st 2), .int (gS st 3), .int (gS st 1), .int (gS st 0), .int 0]))) (g.1 0 0) (.inr (10, [.ref (g.1 1 0), .ref (g.1 2 0), .int (gS st 2), .int (gS st 3), .int (gS st 1), .int (gS st 0), .int 0]))) (g.1 7 (ix p0)) (.inr (8, [.ref (g.1 5 (tbN st (ix p0))), .int (itS st (ix p0) 1), .int (sof (itS st (ix p0) 2)), .int (itS st (ix p0) 3), .int (itS st (ix p0) 7), .int (itS st (ix p0) 6), .int (itS st (ix p0) 5), .int (lvl st (ix p0) 0 200), .int (itS st (ix p0) 13), .int (itS st (ix p0) 14), .int (itS st (ix p0) 15), .int (itS st (ix p0) 8), .int (itS st (ix p0) 9), .int (itS st (ix p0) 10), .int (ceR g (ix p0)), .ref (g.1 8 (ix p0)), .ref (g.1 9 (ix p0))]))) := hI
        have h_X := mu_k (e := .inr (8, [.ref (g.1 5 (tbN st (ix p0))), .int (itS st (ix p0) 1), .int (sof (itS st (ix p0) 2)), .int (itS st (ix p0) 3), .int (itS st (ix p0) 7), .int (itS st (ix p0) 6), .int (itS st (ix p0) 5), .int (lvl st (ix p0) 0 200), .int (itS st (ix p0) 13), .int (itS st (ix p0) 14), .int (itS st (ix p0) 15), .int (itS st (ix p0) 8), .int (itS st (ix p0) 9), .int (itS st (ix p0) 10), .int (ceR g (ix p0)), .ref (g.1 8 (ix p0)), .ref (g.1 9 (ix p0))])) (kd_ne h_X h_I rfl) h_X
        have h_TL := mu_k (e := .inr (8, [.ref (g.1 5 (tbN st (ix p0))), .int (itS st (ix p0) 1), .int (sof (itS st (ix p0) 2)), .int (itS st (ix p0) 3), .int (itS st (ix p0) 7), .int (itS st (ix p0) 6), .int (itS st (ix p0) 5), .int (lvl st (ix p0) 0 200), .int (itS st (ix p0) 13), .int (itS st (ix p0) 14), .int (itS st (ix p0) 15), .int (itS st (ix p0) 8), .int (itS st (ix p0) 9), .int (itS st (ix p0) 10), .int (ceR g (ix p0)), .ref (g.1 8 (ix p0)), .ref (g.1 9 (ix p0))])) (kd_ne h_TL h_I rfl) h_TL
        have h_IL := mu_k (e := .inr (8, [.ref (g.1 5 (tbN st (ix p0))), .int (itS st (ix p0) 1), .int (sof (itS st (ix p0) 2)), .int (itS st (ix p0) 3), .int (itS st (ix p0) 7), .int (itS st (ix p0) 6), .int (itS st (ix p0) 5), .int (lvl st (ix p0) 0 200), .int (itS st (ix p0) 13), .int (itS st (ix p0) 14), .int (itS st (ix p0) 15), .int (itS st (ix p0) 8), .int (itS st (ix p0) 9), .int (itS st (ix p0) 10), .int (ceR g (ix p0)), .ref (g.1 8 (ix p0)), .ref (g.1 9 (ix p0))])) (kd_ne h_IL h_I rfl) h_IL
        have h_ID := mu_k (e := .inr (8, [.ref (g.1 5 (tbN st (ix p0))), .int (itS st (ix p0) 1), .int (sof (itS st (ix p0) 2)), .int (itS st (ix p0) 3), .int (itS st (ix p0) 7), .int (itS st (ix p0) 6), .int (itS st (ix p0) 5), .int (lvl st (ix p0) 0 200), .int (itS st (ix p0) 13), .int (itS st (ix p0) 14), .int (itS st (ix p0) 15), .int (itS st (ix p0) 8), .int (itS st (ix p0) 9), .int (itS st (ix p0) 10), .int (ceR g (ix p0)), .ref (g.1 8 (ix p0)), .ref (g.1 9 (ix p0))])) (kd_ne h_ID h_I rfl) h_ID
        have h_T := mu_k (e := .inr (8, [.ref (g.1 5 (tbN st (ix p0))), .int (itS st (ix p0) 1), .int (sof (itS st (ix p0) 2)), .int (itS st (ix p0) 3), .int (itS st (ix p0) 7), .int (itS st (ix p0) 6), .int (itS st (ix p0) 5), .int (lvl st (ix p0) 0 200), .int (itS st (ix p0) 13), .int (itS st (ix p0) 14), .int (itS st (ix p0) 15), .int (itS st (ix p0) 8), .int (itS st (ix p0) 9), .int (itS st (ix p0) 10), .int (ceR g (ix p0)), .ref (g.1 8 (ix p0)), .ref (g.1 9 (ix p0))])) (kd_ne h_T h_I rfl) h_T
        have h_B := mu_k (e := .inr (8, [.ref (g.1 5 (tbN st (ix p0))), .int (itS st (ix p0) 1), .int (sof (itS st (ix p0) 2)), .int (itS st (ix p0) 3), .int (itS st (ix p0) 7), .int (itS st (ix p0) 6), .int (itS st (ix p0) 5), .int (lvl st (ix p0) 0 200), .int (itS st (ix p0) 13), .int (itS st (ix p0) 14), .int (itS st (ix p0) 15), .int (itS st (ix p0) 8), .int (itS st (ix p0) 9), .int (itS st (ix p0) 10), .int (ceR g (ix p0)), .ref (g.1 8 (ix p0)), .ref (g.1 9 (ix p0))])) (kd_ne h_B h_I rfl) h_B
        have h_I : (mu (mu (mu (mu Mw (g.1 0 0) (.inr (10, [.ref (g.1 1 0), .ref (g.1 2 0), .int (gS st 2), .int (gS st 3), .int (gS st 1), .int (gS st 0), .int 0]))) (g.1 0 0) (.inr (10, [.ref (g.1 1 0), .ref (g.1 2 0), .int (gS st 2), .int (gS st 3), .int (gS st 1), .int (gS st 0), .int 0]))) (g.1 0 0) (.inr (10, [.ref (g.1 1 0), .ref (g.1 2 0), .int (gS st 2), .int (gS st 3), .int (gS st 1), .int (gS st 0), .int 0]))) (g.1 7 (ix p0)) (.inr (8, [.ref (g.1 5 (tbN st (ix p0))), .int (itS st (ix p0) 1), .int (sof (itS st (ix p0) 2)), .int (itS st (ix p0) 3), .int (itS st (ix p0) 7), .int (itS st (ix p0) 6), .int (itS st (ix p0) 5), .int (lvl st (ix p0) 0 200), .int (itS st (ix p0) 13), .int (itS st (ix p0) 14), .int (itS st (ix p0) 15), .int (itS st (ix p0) 8), .int (itS st (ix p0) 9), .int (itS st (ix p0) 10), .int (ceR g (ix p0)), .ref (g.1 8 (ix p0)), .ref (g.1 9 (ix p0))]))) (g.1 7 (ix p0)) = some (.inr (8, [.ref (g.1 5 (tbN st (ix p0))), .int (itS st (ix p0) 1), .int (sof (itS st (ix p0) 2)), .int (itS st (ix p0) 3), .int (itS st (ix p0) 7), .int (itS st (ix p0) 6), .int (itS st (ix p0) 5), .int (lvl st (ix p0) 0 200), .int (itS st (ix p0) 13), .int (itS st (ix p0) 14), .int (itS st (ix p0) 15), .int (itS st (ix p0) 8), .int (itS st (ix p0) 9), .int (itS st (ix p0) 10), .int (ceR g (ix p0)), .ref (g.1 8 (ix p0)), .ref (g.1 9 (ix p0))])) := mu_s
        refine lv_aload_n hx hb dX7_ice_78 rfl (lv_at hl 1 rfl) ?_
        refine lv_bipush (v := (32)) hx hb dX7_ice_79 (by decide) ?_
        refine m_putN (ci := 8) (v := .int 32) (ty := .char) (C := RX5) (T := TX5) (N := 17) hx hb hts i_X5 tyX5 tyX5_ok nmX5 hown hK hP hI hS h_I rfl 10 (by decide) (va_Nw.use rfl (hG.2.1.2.1 ("MeniscusModel", 152, "MeniscusModel$Instrument", "kind", "C", "MeniscusModel") (by decide +kernel))) (fun _ h9 => h9) rfl (by decide +kernel) rfl rfl (Nat.le_of_ble_eq_true rfl) dX7_ice_81 (fun H locs hP hI hS => ?_)
        have hP : mP G.1 (mu (mu (mu (mu (mu Mw (g.1 0 0) (.inr (10, [.ref (g.1 1 0), .ref (g.1 2 0), .int (gS st 2), .int (gS st 3), .int (gS st 1), .int (gS st 0), .int 0]))) (g.1 0 0) (.inr (10, [.ref (g.1 1 0), .ref (g.1 2 0), .int (gS st 2), .int (gS st 3), .int (gS st 1), .int (gS st 0), .int 0]))) (g.1 0 0) (.inr (10, [.ref (g.1 1 0), .ref (g.1 2 0), .int (gS st 2), .int (gS st 3), .int (gS st 1), .int (gS st 0), .int 0]))) (g.1 7 (ix p0)) (.inr (8, [.ref (g.1 5 (tbN st (ix p0))), .int (itS st (ix p0) 1), .int (sof (itS st (ix p0) 2)), .int (itS st (ix p0) 3), .int (itS st (ix p0) 7), .int (itS st (ix p0) 6), .int (itS st (ix p0) 5), .int (lvl st (ix p0) 0 200), .int (itS st (ix p0) 13), .int (itS st (ix p0) 14), .int (itS st (ix p0) 15), .int (itS st (ix p0) 8), .int (itS st (ix p0) 9), .int (itS st (ix p0) 10), .int (ceR g (ix p0)), .ref (g.1 8 (ix p0)), .ref (g.1 9 (ix p0))]))) (g.1 7 (ix p0)) (.inr (8, [.ref (g.1 5 (tbN st (ix p0))), .int (itS st (ix p0) 1), .int (sof (itS st (ix p0) 2)), .int (itS st (ix p0) 3), .int (itS st (ix p0) 7), .int (itS st (ix p0) 6), .int (itS st (ix p0) 5), .int (lvl st (ix p0) 0 200), .int (itS st (ix p0) 13), .int (itS st (ix p0) 14), .int 32, .int (itS st (ix p0) 8), .int (itS st (ix p0) 9), .int (itS st (ix p0) 10), .int (ceR g (ix p0)), .ref (g.1 8 (ix p0)), .ref (g.1 9 (ix p0))]))) H := hP
        have hI : mI A (mu (mu (mu (mu (mu Mw (g.1 0 0) (.inr (10, [.ref (g.1 1 0), .ref (g.1 2 0), .int (gS st 2), .int (gS st 3), .int (gS st 1), .int (gS st 0), .int 0]))) (g.1 0 0) (.inr (10, [.ref (g.1 1 0), .ref (g.1 2 0), .int (gS st 2), .int (gS st 3), .int (gS st 1), .int (gS st 0), .int 0]))) (g.1 0 0) (.inr (10, [.ref (g.1 1 0), .ref (g.1 2 0), .int (gS st 2), .int (gS st 3), .int (gS st 1), .int (gS st 0), .int 0]))) (g.1 7 (ix p0)) (.inr (8, [.ref (g.1 5 (tbN st (ix p0))), .int (itS st (ix p0) 1), .int (sof (itS st (ix p0) 2)), .int (itS st (ix p0) 3), .int (itS st (ix p0) 7), .int (itS st (ix p0) 6), .int (itS st (ix p0) 5), .int (lvl st (ix p0) 0 200), .int (itS st (ix p0) 13), .int (itS st (ix p0) 14), .int (itS st (ix p0) 15), .int (itS st (ix p0) 8), .int (itS st (ix p0) 9), .int (itS st (ix p0) 10), .int (ceR g (ix p0)), .ref (g.1 8 (ix p0)), .ref (g.1 9 (ix p0))]))) (g.1 7 (ix p0)) (.inr (8, [.ref (g.1 5 (tbN st (ix p0))), .int (itS st (ix p0) 1), .int (sof (itS st (ix p0) 2)), .int (itS st (ix p0) 3), .int (itS st (ix p0) 7), .int (itS st (ix p0) 6), .int (itS st (ix p0) 5), .int (lvl st (ix p0) 0 200), .int (itS st (ix p0) 13), .int (itS st (ix p0) 14), .int 32, .int (itS st (ix p0) 8), .int (itS st (ix p0) 9), .int (itS st (ix p0) 10), .int (ceR g (ix p0)), .ref (g.1 8 (ix p0)), .ref (g.1 9 (ix p0))]))) := hI
        have h_X := mu_k (e := .inr (8, [.ref (g.1 5 (tbN st (ix p0))), .int (itS st (ix p0) 1), .int (sof (itS st (ix p0) 2)), .int (itS st (ix p0) 3), .int (itS st (ix p0) 7), .int (itS st (ix p0) 6), .int (itS st (ix p0) 5), .int (lvl st (ix p0) 0 200), .int (itS st (ix p0) 13), .int (itS st (ix p0) 14), .int 32, .int (itS st (ix p0) 8), .int (itS st (ix p0) 9), .int (itS st (ix p0) 10), .int (ceR g (ix p0)), .ref (g.1 8 (ix p0)), .ref (g.1 9 (ix p0))])) (kd_ne h_X h_I rfl) h_X
        have h_TL := mu_k (e := .inr (8, [.ref (g.1 5 (tbN st (ix p0))), .int (itS st (ix p0) 1), .int (sof (itS st (ix p0) 2)), .int (itS st (ix p0) 3), .int (itS st (ix p0) 7), .int (itS st (ix p0) 6), .int (itS st (ix p0) 5), .int (lvl st (ix p0) 0 200), .int (itS st (ix p0) 13), .int (itS st (ix p0) 14), .int 32, .int (itS st (ix p0) 8), .int (itS st (ix p0) 9), .int (itS st (ix p0) 10), .int (ceR g (ix p0)), .ref (g.1 8 (ix p0)), .ref (g.1 9 (ix p0))])) (kd_ne h_TL h_I rfl) h_TL
        have h_IL := mu_k (e := .inr (8, [.ref (g.1 5 (tbN st (ix p0))), .int (itS st (ix p0) 1), .int (sof (itS st (ix p0) 2)), .int (itS st (ix p0) 3), .int (itS st (ix p0) 7), .int (itS st (ix p0) 6), .int (itS st (ix p0) 5), .int (lvl st (ix p0) 0 200), .int (itS st (ix p0) 13), .int (itS st (ix p0) 14), .int 32, .int (itS st (ix p0) 8), .int (itS st (ix p0) 9), .int (itS st (ix p0) 10), .int (ceR g (ix p0)), .ref (g.1 8 (ix p0)), .ref (g.1 9 (ix p0))])) (kd_ne h_IL h_I rfl) h_IL
        have h_ID := mu_k (e := .inr (8, [.ref (g.1 5 (tbN st (ix p0))), .int (itS st (ix p0) 1), .int (sof (itS st (ix p0) 2)), .int (itS st (ix p0) 3), .int (itS st (ix p0) 7), .int (itS st (ix p0) 6), .int (itS st (ix p0) 5), .int (lvl st (ix p0) 0 200), .int (itS st (ix p0) 13), .int (itS st (ix p0) 14), .int 32, .int (itS st (ix p0) 8), .int (itS st (ix p0) 9), .int (itS st (ix p0) 10), .int (ceR g (ix p0)), .ref (g.1 8 (ix p0)), .ref (g.1 9 (ix p0))])) (kd_ne h_ID h_I rfl) h_ID
        have h_T := mu_k (e := .inr (8, [.ref (g.1 5 (tbN st (ix p0))), .int (itS st (ix p0) 1), .int (sof (itS st (ix p0) 2)), .int (itS st (ix p0) 3), .int (itS st (ix p0) 7), .int (itS st (ix p0) 6), .int (itS st (ix p0) 5), .int (lvl st (ix p0) 0 200), .int (itS st (ix p0) 13), .int (itS st (ix p0) 14), .int 32, .int (itS st (ix p0) 8), .int (itS st (ix p0) 9), .int (itS st (ix p0) 10), .int (ceR g (ix p0)), .ref (g.1 8 (ix p0)), .ref (g.1 9 (ix p0))])) (kd_ne h_T h_I rfl) h_T
        have h_B := mu_k (e := .inr (8, [.ref (g.1 5 (tbN st (ix p0))), .int (itS st (ix p0) 1), .int (sof (itS st (ix p0) 2)), .int (itS st (ix p0) 3), .int (itS st (ix p0) 7), .int (itS st (ix p0) 6), .int (itS st (ix p0) 5), .int (lvl st (ix p0) 0 200), .int (itS st (ix p0) 13), .int (itS st (ix p0) 14), .int 32, .int (itS st (ix p0) 8), .int (itS st (ix p0) 9), .int (itS st (ix p0) 10), .int (ceR g (ix p0)), .ref (g.1 8 (ix p0)), .ref (g.1 9 (ix p0))])) (kd_ne h_B h_I rfl) h_B
        rw [mu_uu] at hP hI h_X h_TL h_IL h_ID h_T h_B
        have h_I : (mu (mu (mu (mu Mw (g.1 0 0) (.inr (10, [.ref (g.1 1 0), .ref (g.1 2 0), .int (gS st 2), .int (gS st 3), .int (gS st 1), .int (gS st 0), .int 0]))) (g.1 0 0) (.inr (10, [.ref (g.1 1 0), .ref (g.1 2 0), .int (gS st 2), .int (gS st 3), .int (gS st 1), .int (gS st 0), .int 0]))) (g.1 0 0) (.inr (10, [.ref (g.1 1 0), .ref (g.1 2 0), .int (gS st 2), .int (gS st 3), .int (gS st 1), .int (gS st 0), .int 0]))) (g.1 7 (ix p0)) (.inr (8, [.ref (g.1 5 (tbN st (ix p0))), .int (itS st (ix p0) 1), .int (sof (itS st (ix p0) 2)), .int (itS st (ix p0) 3), .int (itS st (ix p0) 7), .int (itS st (ix p0) 6), .int (itS st (ix p0) 5), .int (lvl st (ix p0) 0 200), .int (itS st (ix p0) 13), .int (itS st (ix p0) 14), .int 32, .int (itS st (ix p0) 8), .int (itS st (ix p0) 9), .int (itS st (ix p0) 10), .int (ceR g (ix p0)), .ref (g.1 8 (ix p0)), .ref (g.1 9 (ix p0))]))) (g.1 7 (ix p0)) = some (.inr (8, [.ref (g.1 5 (tbN st (ix p0))), .int (itS st (ix p0) 1), .int (sof (itS st (ix p0) 2)), .int (itS st (ix p0) 3), .int (itS st (ix p0) 7), .int (itS st (ix p0) 6), .int (itS st (ix p0) 5), .int (lvl st (ix p0) 0 200), .int (itS st (ix p0) 13), .int (itS st (ix p0) 14), .int 32, .int (itS st (ix p0) 8), .int (itS st (ix p0) 9), .int (itS st (ix p0) 10), .int (ceR g (ix p0)), .ref (g.1 8 (ix p0)), .ref (g.1 9 (ix p0))])) := mu_s
        refine lv_iload_n hx hb dX7_ice_84 rfl (lv_at hl 0 rfl) ?_
        refine W.widen (k := 0) (n := 0) (Nat.le_of_ble_eq_true rfl) (Nat.le_of_ble_eq_true rfl) ?_
        exact W.iret (v := lvl st (ix p0) 0 200) hx hb hr (fun t99 ht99 hW99 => ⟨⟨lvl st (ix p0) 0 200, (mu (mu (mu (mu Mw (g.1 0 0) (.inr (10, [.ref (g.1 1 0), .ref (g.1 2 0), .int (gS st 2), .int (gS st 3), .int (gS st 1), .int (gS st 0), .int 0]))) (g.1 0 0) (.inr (10, [.ref (g.1 1 0), .ref (g.1 2 0), .int (gS st 2), .int (gS st 3), .int (gS st 1), .int (gS st 0), .int 0]))) (g.1 0 0) (.inr (10, [.ref (g.1 1 0), .ref (g.1 2 0), .int (gS st 2), .int (gS st 3), .int (gS st 1), .int (gS st 0), .int 0]))) (g.1 7 (ix p0)) (.inr (8, [.ref (g.1 5 (tbN st (ix p0))), .int (itS st (ix p0) 1), .int (sof (itS st (ix p0) 2)), .int (itS st (ix p0) 3), .int (itS st (ix p0) 7), .int (itS st (ix p0) 6), .int (itS st (ix p0) 5), .int (lvl st (ix p0) 0 200), .int (itS st (ix p0) 13), .int (itS st (ix p0) 14), .int 32, .int (itS st (ix p0) 8), .int (itS st (ix p0) 9), .int (itS st (ix p0) 10), .int (ceR g (ix p0)), .ref (g.1 8 (ix p0)), .ref (g.1 9 (ix p0))]))), rfl, RP.ok (by unfold m_ice; first | (rw [chk_p hi9, chk_p hfi9, chk_p c7]; done) | (rw [chk_p hi9, chk_p hfi9, chk_p c7]; rfl)) (hR.io hi9.2 (gS st) (fu (fu (itS st (ix p0)) 12 (lvl st (ix p0) 0 200)) 15 32) rfl (ceR g (ix p0)) 0 h_X h_I (fun x9 e9 hx9 h0 h1 => ((mu_n h1).trans ((mu_n h0).trans ((mu_n h0).trans ((mu_n h0).trans (rfl))))).trans hx9) ((hR.2.2.2.2 _ hi9.2).2.1)) rfl rfl, by rw [ht99]; exact hP, hI⟩, hS.F ht99⟩) hS.2.2 dX7_ice_85
      · skip
        refine lv_iconst (v := 1) hx hb dX7_ice_59 (by decide) ?_
        refine lv_goto (tgt := 64) hx hb dX7_ice_60 (by decide) ?_
        refine lv_iconst (v := 3) hx hb dX7_ice_64 (by decide) ?_
        refine m_calli (va_runV (As := [.int 1, .int 3]) (rest := []) ⟨hx, hb, hml, hown, hts⟩ (c_X7_isThrown1 l G A (mu (mu Mw (g.1 0 0) (.inr (10, [.ref (g.1 1 0), .ref (g.1 2 0), .int (gS st 2), .int (gS st 3), .int (gS st 1), .int (gS st 0), .int 0]))) (g.1 0 0) (.inr (10, [.ref (g.1 1 0), .ref (g.1 2 0), .int (gS st 2), .int (gS st 3), .int (gS st 1), .int (gS st 0), .int 0])))  3 h_X) (cwV 2 hts gX7_ice_X7_isThrown rfl rfl rfl (by decide +kernel) ⟨Nat.le_of_ble_eq_true rfl, Nat.le_of_ble_eq_true rfl⟩) (mPreV hG hS hP hI hA (hP _ _ h_X) (r := (RX7, TX7, 7)) rfl) rfl rfl hl.1 rfl (lv_room (Nat.le_of_ble_eq_true rfl)) dX7_ice_65 ⟨Nat.le_of_ble_eq_true rfl, Nat.le_of_ble_eq_true rfl⟩) hS (fun r9 Mw1 H locs hp_r9 hP hI hS => ?_)
        obtain ⟨hp_r9, hm9⟩ := hp_r9
        subst Mw1
        subst hp_r9
        have h_TL := mu_k (e := .inr (10, [.ref (g.1 1 0), .ref (g.1 2 0), .int (gS st 2), .int (gS st 3), .int (gS st 1), .int (gS st 0), .int 3])) (kd_ne h_TL h_X rfl) h_TL
        have h_IL := mu_k (e := .inr (10, [.ref (g.1 1 0), .ref (g.1 2 0), .int (gS st 2), .int (gS st 3), .int (gS st 1), .int (gS st 0), .int 3])) (kd_ne h_IL h_X rfl) h_IL
        have h_ID := mu_k (e := .inr (10, [.ref (g.1 1 0), .ref (g.1 2 0), .int (gS st 2), .int (gS st 3), .int (gS st 1), .int (gS st 0), .int 3])) (kd_ne h_ID h_X rfl) h_ID
        have h_I := mu_k (e := .inr (10, [.ref (g.1 1 0), .ref (g.1 2 0), .int (gS st 2), .int (gS st 3), .int (gS st 1), .int (gS st 0), .int 3])) (kd_ne h_I h_X rfl) h_I
        have h_T := mu_k (e := .inr (10, [.ref (g.1 1 0), .ref (g.1 2 0), .int (gS st 2), .int (gS st 3), .int (gS st 1), .int (gS st 0), .int 3])) (kd_ne h_T h_X rfl) h_T
        have h_B := mu_k (e := .inr (10, [.ref (g.1 1 0), .ref (g.1 2 0), .int (gS st 2), .int (gS st 3), .int (gS st 1), .int (gS st 0), .int 3])) (kd_ne h_B h_X rfl) h_B
        have h_X : (mu (mu (mu Mw (g.1 0 0) (.inr (10, [.ref (g.1 1 0), .ref (g.1 2 0), .int (gS st 2), .int (gS st 3), .int (gS st 1), .int (gS st 0), .int 0]))) (g.1 0 0) (.inr (10, [.ref (g.1 1 0), .ref (g.1 2 0), .int (gS st 2), .int (gS st 3), .int (gS st 1), .int (gS st 0), .int 0]))) (g.1 0 0) (.inr (10, [.ref (g.1 1 0), .ref (g.1 2 0), .int (gS st 2), .int (gS st 3), .int (gS st 1), .int (gS st 0), .int 3]))) (g.1 0 0) = some (.inr (10, [.ref (g.1 1 0), .ref (g.1 2 0), .int (gS st 2), .int (gS st 3), .int (gS st 1), .int (gS st 0), .int 3])) := mu_s
        refine lv_if_eq (tgt := 73) hx hb dX7_ice_68 (by decide) (fun h9 => absurd h9 (by decide)) (fun _ => ?_)
        refine lv_iconst (v := 0) hx hb dX7_ice_71 (by decide) ?_
        refine W.widen (k := 0) (n := 0) (Nat.le_of_ble_eq_true rfl) (Nat.le_of_ble_eq_true rfl) ?_
        exact W.iret (v := 0) hx hb hr (fun t99 ht99 hW99 => ⟨⟨0, (mu (mu (mu Mw (g.1 0 0) (.inr (10, [.ref (g.1 1 0), .ref (g.1 2 0), .int (gS st 2), .int (gS st 3), .int (gS st 1), .int (gS st 0), .int 0]))) (g.1 0 0) (.inr (10, [.ref (g.1 1 0), .ref (g.1 2 0), .int (gS st 2), .int (gS st 3), .int (gS st 1), .int (gS st 0), .int 0]))) (g.1 0 0) (.inr (10, [.ref (g.1 1 0), .ref (g.1 2 0), .int (gS st 2), .int (gS st 3), .int (gS st 1), .int (gS st 0), .int 3]))), rfl, RP.no (k := 3) (by unfold m_ice; first | (rw [chk_p hi9, chk_p hfi9, chk_n (fun q9 => q9 c7)]; done) | (rw [chk_p hi9, chk_p hfi9, chk_n (fun q9 => q9 c7)]; rfl)) (by decide) (hR.th 3 h_X (fun x9 e9 hx9 h0 => ((mu_n h0).trans ((mu_n h0).trans ((mu_n h0).trans (rfl)))).trans hx9)) rfl rfl, by rw [ht99]; exact hP, hI⟩, hS.F ht99⟩) hS.2.2 dX7_ice_72
    · subst hr9
      refine lv_iconst (v := 2) hx hb dX7_ice_19 (by decide) ?_
      refine m_calli (va_runV (As := [.int 1, .int 2]) (rest := []) ⟨hx, hb, hml, hown, hts⟩ (c_X7_isThrown1 l G A (mu Mw (g.1 0 0) (.inr (10, [.ref (g.1 1 0), .ref (g.1 2 0), .int (gS st 2), .int (gS st 3), .int (gS st 1), .int (gS st 0), .int 0])))  2 h_X) (cwV 2 hts gX7_ice_X7_isThrown rfl rfl rfl (by decide +kernel) ⟨Nat.le_of_ble_eq_true rfl, Nat.le_of_ble_eq_true rfl⟩) (mPreV hG hS hP hI hA (hP _ _ h_X) (r := (RX7, TX7, 7)) rfl) rfl rfl hl.1 rfl (lv_room (Nat.le_of_ble_eq_true rfl)) dX7_ice_20 ⟨Nat.le_of_ble_eq_true rfl, Nat.le_of_ble_eq_true rfl⟩) hS (fun r10 Mw1 H locs hp_r10 hP hI hS => ?_)
      obtain ⟨hp_r10, hm9⟩ := hp_r10
      subst Mw1
      subst hp_r10
      have h_TL := mu_k (e := .inr (10, [.ref (g.1 1 0), .ref (g.1 2 0), .int (gS st 2), .int (gS st 3), .int (gS st 1), .int (gS st 0), .int 2])) (kd_ne h_TL h_X rfl) h_TL
      have h_IL := mu_k (e := .inr (10, [.ref (g.1 1 0), .ref (g.1 2 0), .int (gS st 2), .int (gS st 3), .int (gS st 1), .int (gS st 0), .int 2])) (kd_ne h_IL h_X rfl) h_IL
      have h_ID := mu_k (e := .inr (10, [.ref (g.1 1 0), .ref (g.1 2 0), .int (gS st 2), .int (gS st 3), .int (gS st 1), .int (gS st 0), .int 2])) (kd_ne h_ID h_X rfl) h_ID
      have h_I := mu_k (e := .inr (10, [.ref (g.1 1 0), .ref (g.1 2 0), .int (gS st 2), .int (gS st 3), .int (gS st 1), .int (gS st 0), .int 2])) (kd_ne h_I h_X rfl) h_I
      have h_T := mu_k (e := .inr (10, [.ref (g.1 1 0), .ref (g.1 2 0), .int (gS st 2), .int (gS st 3), .int (gS st 1), .int (gS st 0), .int 2])) (kd_ne h_T h_X rfl) h_T
      have h_B := mu_k (e := .inr (10, [.ref (g.1 1 0), .ref (g.1 2 0), .int (gS st 2), .int (gS st 3), .int (gS st 1), .int (gS st 0), .int 2])) (kd_ne h_B h_X rfl) h_B
      have h_X : (mu (mu Mw (g.1 0 0) (.inr (10, [.ref (g.1 1 0), .ref (g.1 2 0), .int (gS st 2), .int (gS st 3), .int (gS st 1), .int (gS st 0), .int 0]))) (g.1 0 0) (.inr (10, [.ref (g.1 1 0), .ref (g.1 2 0), .int (gS st 2), .int (gS st 3), .int (gS st 1), .int (gS st 0), .int 2]))) (g.1 0 0) = some (.inr (10, [.ref (g.1 1 0), .ref (g.1 2 0), .int (gS st 2), .int (gS st 3), .int (gS st 1), .int (gS st 0), .int 2])) := mu_s
      refine lv_if_eq (tgt := 28) hx hb dX7_ice_23 (by decide) (fun h9 => absurd h9 (by decide)) (fun _ => ?_)
      refine lv_iconst (v := 0) hx hb dX7_ice_26 (by decide) ?_
      refine W.widen (k := 0) (n := 0) (Nat.le_of_ble_eq_true rfl) (Nat.le_of_ble_eq_true rfl) ?_
      exact W.iret (v := 0) hx hb hr (fun t99 ht99 hW99 => ⟨⟨0, (mu (mu Mw (g.1 0 0) (.inr (10, [.ref (g.1 1 0), .ref (g.1 2 0), .int (gS st 2), .int (gS st 3), .int (gS st 1), .int (gS st 0), .int 0]))) (g.1 0 0) (.inr (10, [.ref (g.1 1 0), .ref (g.1 2 0), .int (gS st 2), .int (gS st 3), .int (gS st 1), .int (gS st 0), .int 2]))), rfl, RP.no (k := 2) (by unfold m_ice; first | (rw [chk_p hi9, chk_n (fun q9 => q9 ((hV.fil hi9.2).mp hq_r3))]; done) | (rw [chk_p hi9, chk_n (fun q9 => q9 ((hV.fil hi9.2).mp hq_r3))]; rfl)) (by decide) (hR.th 2 h_X (fun x9 e9 hx9 h0 => ((mu_n h0).trans ((mu_n h0).trans (rfl))).trans hx9)) rfl rfl, by rw [ht99]; exact hP, hI⟩, hS.F ht99⟩) hS.2.2 dX7_ice_27
  · subst hr9
    refine lv_iconst (v := 1) hx hb dX7_ice_6 (by decide) ?_
    refine m_calli (va_runV (As := [.int 1, .int 1]) (rest := []) ⟨hx, hb, hml, hown, hts⟩ (c_X7_isThrown1 l G A Mw  1 h_X) (cwV 2 hts gX7_ice_X7_isThrown rfl rfl rfl (by decide +kernel) ⟨Nat.le_of_ble_eq_true rfl, Nat.le_of_ble_eq_true rfl⟩) (mPreV hG hS hP hI hA (hP _ _ h_X) (r := (RX7, TX7, 7)) rfl) rfl rfl hl.1 rfl (lv_room (Nat.le_of_ble_eq_true rfl)) dX7_ice_7 ⟨Nat.le_of_ble_eq_true rfl, Nat.le_of_ble_eq_true rfl⟩) hS (fun r11 Mw1 H locs hp_r11 hP hI hS => ?_)
    obtain ⟨hp_r11, hm9⟩ := hp_r11
    subst Mw1
    subst hp_r11
    have h_TL := mu_k (e := .inr (10, [.ref (g.1 1 0), .ref (g.1 2 0), .int (gS st 2), .int (gS st 3), .int (gS st 1), .int (gS st 0), .int 1])) (kd_ne h_TL h_X rfl) h_TL
    have h_IL := mu_k (e := .inr (10, [.ref (g.1 1 0), .ref (g.1 2 0), .int (gS st 2), .int (gS st 3), .int (gS st 1), .int (gS st 0), .int 1])) (kd_ne h_IL h_X rfl) h_IL
    have h_X : (mu Mw (g.1 0 0) (.inr (10, [.ref (g.1 1 0), .ref (g.1 2 0), .int (gS st 2), .int (gS st 3), .int (gS st 1), .int (gS st 0), .int 1]))) (g.1 0 0) = some (.inr (10, [.ref (g.1 1 0), .ref (g.1 2 0), .int (gS st 2), .int (gS st 3), .int (gS st 1), .int (gS st 0), .int 1])) := mu_s
    refine lv_if_ne (tgt := 26) hx hb dX7_ice_10 (by decide) (fun _ => ?_) (fun h9 => absurd h9 (by decide))
    refine lv_iconst (v := 0) hx hb dX7_ice_26 (by decide) ?_
    refine W.widen (k := 0) (n := 0) (Nat.le_of_ble_eq_true rfl) (Nat.le_of_ble_eq_true rfl) ?_
    exact W.iret (v := 0) hx hb hr (fun t99 ht99 hW99 => ⟨⟨0, (mu Mw (g.1 0 0) (.inr (10, [.ref (g.1 1 0), .ref (g.1 2 0), .int (gS st 2), .int (gS st 3), .int (gS st 1), .int (gS st 0), .int 1]))), rfl, RP.no (k := 1) (by unfold m_ice; first | (rw [chk_n hq_r1]; done) | (rw [chk_n hq_r1]; rfl)) (by decide) (hR.th 1 h_X (fun x9 e9 hx9 h0 => ((mu_n h0).trans (rfl)).trans hx9)) rfl rfl, by rw [ht99]; exact hP, hI⟩, hS.F ht99⟩) hS.2.2 dX7_ice_27

set_option maxHeartbeats 4000000 in
set_option maxRecDepth 100000 in
theorem c_X7_steam (l : Launch) (G : mg) (A : Nat → Prop) (Mw : mw) (st : St) (g : gR) (p0 p1 : Int32) (hR : RS G st g Mw) (hV : Inv st) : Met l yX7_steam wsX7_steam ({ frames := 4, cells := 0, slots := 0, locals := 85 }) (va_Pc [.ref (g.1 0 0), .int p0, .int p1] (mB G A Mw)) (va_Qi (fun r Mw1 => RP G (m_steam st p0 p1) g r Mw1) (mE G A) A) 0 0 A := by
  refine Met.ofW (cc := cX7_steam) (maxL := 6) (ret := (some .int)) (by decide) rfl ?_
  intro p e s m args below meth c s₁ B hml hv
  obtain ⟨rfl, hG, hP, hI, hA⟩ := hv
  have hx := B.exec
  have hb := B.bytes
  have hr := B.returns
  have hts := atoms_spec (ws := wsX7_steam) B.pre
  have hown : s.vm.findClass RX7 = some m.cls := findClass_of_methodNamed B.named
  have hlocks := B.notSynchronized
  have hK := hG.K
  have i_X5 : ∀ w ∈ wsX50, w ∈ wsX7_steam := by decide +kernel
  have i_X7 : ∀ w ∈ wsX70, w ∈ wsX7_steam := by decide +kernel
  have hS : va_S A s.heap s.heap [] := va_S.rf
  have hl := lv_entry ([.ref (g.1 0 0), .int p0, .int p1]) (n := 6) (Nat.le_of_ble_eq_true rfl)
  rw [lg_entry_eq]
  generalize (lg_sl ([.ref (g.1 0 0), .int p0, .int p1]) ++ List.replicate (6 - (lg_sl ([.ref (g.1 0 0), .int p0, .int p1])).length) Slot.unset).toArray = ls at hl ⊢
  have hl : lv_has ls 6 [(0, .ref (g.1 0 0)), (1, .int p0), (2, .int p1)] := hl
  have hP : mP G.1 Mw s.heap := hP
  have h_X : Mw (g.1 0 0) = some (.inr (10, [.ref (g.1 1 0), .ref (g.1 2 0), .int (gS st 2), .int (gS st 3), .int (gS st 1), .int (gS st 0), .int (thR g)])) := hR.1 0 0 ro0
  have h_TL : Mw (g.1 1 0) = some (.inr (2, [.int (mcR g 1 0), .ref (g.1 3 0), .int ((nI (nT st)))])) := hR.1 1 0 ro1
  have h_IL : Mw (g.1 2 0) = some (.inr (2, [.int (mcR g 2 0), .ref (g.1 4 0), .int ((nI (nN st)))])) := hR.1 2 0 ro2
  have hti9 := hR.ne ro1 ro2 (by omega)
  have hnT8 := hV.1.1
  have hnN8 := Nat.le_trans hV.1.2 (show 6 ≤ 8 by decide)
  refine lv_aload_n hx hb dX7_steam_0 rfl (lv_at hl 0 rfl) ?_
  refine lv_aload_n hx hb dX7_steam_1 rfl (lv_at hl 0 rfl) ?_
  refine lv_iload_n hx hb dX7_steam_2 rfl (lv_at hl 1 rfl) ?_
  refine m_calli (va_runV (As := [.int p0]) (rest := [.ref (g.1 0 0)]) ⟨hx, hb, hml, hown, hts⟩ (c_X7_isNone l G A Mw  p0 h_X h_IL hnN8) (cwV 1 hts gX7_steam_X7_isNone rfl rfl rfl (by decide +kernel) ⟨Nat.le_of_ble_eq_true rfl, Nat.le_of_ble_eq_true rfl⟩) (mPreV hG hS hP hI hA (hP _ _ h_X) (r := (RX7, TX7, 7)) rfl) rfl rfl hl.1 rfl (lv_room (Nat.le_of_ble_eq_true rfl)) dX7_steam_3 ⟨Nat.le_of_ble_eq_true rfl, Nat.le_of_ble_eq_true rfl⟩) hS (fun r1 Mw1 H locs hp_r1 hP hI hS => ?_)
  obtain ⟨hb9, hm9⟩ := hp_r1
  subst Mw1
  rcases hb9 with ⟨hr9, hq_r1⟩ | ⟨hr9, hq_r1⟩
  · subst hr9
    have hi9 := hq_r1
    have e_p0 : p0 = nI (ix p0) := nI_cl hi9.1
    rw [e_p0] at hl
    have hf4 := hR.f4 hi9.2
    have h_ID : Mw (g.1 4 0) = some (.inl (G.2.1 5, 10, .inr (.inr (.inr (.inr (qf (nN st) (g.1 7))))))) := hR.1 4 0 (ro4 hf4)
    have h_I : Mw (g.1 7 (ix p0)) = some (.inr (8, [.ref (g.1 5 (tbN st (ix p0))), .int (itS st (ix p0) 1), .int (sof (itS st (ix p0) 2)), .int (itS st (ix p0) 3), .int (itS st (ix p0) 7), .int (itS st (ix p0) 6), .int (itS st (ix p0) 5), .int (itS st (ix p0) 12), .int (itS st (ix p0) 13), .int (itS st (ix p0) 14), .int (itS st (ix p0) 15), .int (itS st (ix p0) 8), .int (itS st (ix p0) 9), .int (itS st (ix p0) 10), .int (ceR g (ix p0)), .ref (g.1 8 (ix p0)), .ref (g.1 9 (ix p0))])) := hR.1 7 _ (ro7 hi9.2)
    have hT9 := hV.tb hi9.2
    have h_T : Mw (g.1 5 (tbN st (ix p0))) = some (.inr (9, [.ref (g.1 6 (tbN st (ix p0))), .int (usS st (tbN st (ix p0)))])) := hR.1 5 _ (ro5 hT9)
    have h_B : Mw (g.1 6 (tbN st (ix p0))) = some (.inl (G.2.1 0, 20, .inl (boS st (tbN st (ix p0))))) := hR.1 6 _ (ro6 hT9)
    refine lv_iconst (v := 1) hx hb dX7_steam_6 (by decide) ?_
    refine m_calli (va_runV (As := [.int 0, .int 1]) (rest := []) ⟨hx, hb, hml, hown, hts⟩ (c_X7_isThrown0 l G A Mw  1 h_X) (cwV 2 hts gX7_steam_X7_isThrown rfl rfl rfl (by decide +kernel) ⟨Nat.le_of_ble_eq_true rfl, Nat.le_of_ble_eq_true rfl⟩) (mPreV hG hS hP hI hA (hP _ _ h_X) (r := (RX7, TX7, 7)) rfl) rfl rfl hl.1 rfl (lv_room (Nat.le_of_ble_eq_true rfl)) dX7_steam_7 ⟨Nat.le_of_ble_eq_true rfl, Nat.le_of_ble_eq_true rfl⟩) hS (fun r2 Mw1 H locs hp_r2 hP hI hS => ?_)
    obtain ⟨hp_r2, hm9⟩ := hp_r2
    subst Mw1
    subst hp_r2
    have h_TL := mu_k (e := .inr (10, [.ref (g.1 1 0), .ref (g.1 2 0), .int (gS st 2), .int (gS st 3), .int (gS st 1), .int (gS st 0), .int 0])) (kd_ne h_TL h_X rfl) h_TL
    have h_IL := mu_k (e := .inr (10, [.ref (g.1 1 0), .ref (g.1 2 0), .int (gS st 2), .int (gS st 3), .int (gS st 1), .int (gS st 0), .int 0])) (kd_ne h_IL h_X rfl) h_IL
    have h_ID := mu_k (e := .inr (10, [.ref (g.1 1 0), .ref (g.1 2 0), .int (gS st 2), .int (gS st 3), .int (gS st 1), .int (gS st 0), .int 0])) (kd_ne h_ID h_X rfl) h_ID
    have h_I := mu_k (e := .inr (10, [.ref (g.1 1 0), .ref (g.1 2 0), .int (gS st 2), .int (gS st 3), .int (gS st 1), .int (gS st 0), .int 0])) (kd_ne h_I h_X rfl) h_I
    have h_T := mu_k (e := .inr (10, [.ref (g.1 1 0), .ref (g.1 2 0), .int (gS st 2), .int (gS st 3), .int (gS st 1), .int (gS st 0), .int 0])) (kd_ne h_T h_X rfl) h_T
    have h_B := mu_k (e := .inr (10, [.ref (g.1 1 0), .ref (g.1 2 0), .int (gS st 2), .int (gS st 3), .int (gS st 1), .int (gS st 0), .int 0])) (kd_ne h_B h_X rfl) h_B
    have h_X : (mu Mw (g.1 0 0) (.inr (10, [.ref (g.1 1 0), .ref (g.1 2 0), .int (gS st 2), .int (gS st 3), .int (gS st 1), .int (gS st 0), .int 0]))) (g.1 0 0) = some (.inr (10, [.ref (g.1 1 0), .ref (g.1 2 0), .int (gS st 2), .int (gS st 3), .int (gS st 1), .int (gS st 0), .int 0])) := mu_s
    refine lv_if_ne (tgt := 52) hx hb dX7_steam_10 (by decide) (fun h9 => absurd h9 (by decide)) (fun _ => ?_)
    refine lv_aload_n hx hb dX7_steam_13 rfl (lv_at hl 0 rfl) ?_
    refine lv_iload_n hx hb dX7_steam_14 rfl (lv_at hl 2 rfl) ?_
    refine lv_sipush (v := (700)) hx hb dX7_steam_15 (by decide) ?_
    refine lv_sipush (v := (800)) hx hb dX7_steam_18 (by decide) ?_
    refine m_calli (va_runS (As := [.int p1, .int 700, .int 800]) (rest := [.ref (g.1 0 0)]) ⟨hx, hb, hml, hown, hts⟩ (c_X7_isIn l G A (mu Mw (g.1 0 0) (.inr (10, [.ref (g.1 1 0), .ref (g.1 2 0), .int (gS st 2), .int (gS st 3), .int (gS st 1), .int (gS st 0), .int 0])))  p1 700 800) (va_cwS 3 hts gX7_steam_X7_isIn rfl rfl rfl (by decide +kernel) ⟨Nat.le_of_ble_eq_true rfl, Nat.le_of_ble_eq_true rfl⟩) (mPreS hG hS hP hI hA) rfl rfl hl.1 rfl (lv_room (Nat.le_of_ble_eq_true rfl)) dX7_steam_21 ⟨Nat.le_of_ble_eq_true rfl, Nat.le_of_ble_eq_true rfl⟩) hS (fun r3 Mw1 H locs hp_r3 hP hI hS => ?_)
    obtain ⟨hb9, hm9⟩ := hp_r3
    subst Mw1
    rcases hb9 with ⟨hr9, hq_r3⟩ | ⟨hr9, hq_r3⟩
    · subst hr9
      refine lv_if_ne (tgt := 31) hx hb dX7_steam_24 (by decide) (fun h9 => absurd h9 (by decide)) (fun _ => ?_)
      refine lv_iconst (v := 1) hx hb dX7_steam_27 (by decide) ?_
      refine lv_goto (tgt := 32) hx hb dX7_steam_28 (by decide) ?_
      refine lv_iconst (v := 2) hx hb dX7_steam_32 (by decide) ?_
      refine m_calli (va_runV (As := [.int 1, .int 2]) (rest := []) ⟨hx, hb, hml, hown, hts⟩ (c_X7_isThrown1 l G A (mu Mw (g.1 0 0) (.inr (10, [.ref (g.1 1 0), .ref (g.1 2 0), .int (gS st 2), .int (gS st 3), .int (gS st 1), .int (gS st 0), .int 0])))  2 h_X) (cwV 2 hts gX7_steam_X7_isThrown rfl rfl rfl (by decide +kernel) ⟨Nat.le_of_ble_eq_true rfl, Nat.le_of_ble_eq_true rfl⟩) (mPreV hG hS hP hI hA (hP _ _ h_X) (r := (RX7, TX7, 7)) rfl) rfl rfl hl.1 rfl (lv_room (Nat.le_of_ble_eq_true rfl)) dX7_steam_33 ⟨Nat.le_of_ble_eq_true rfl, Nat.le_of_ble_eq_true rfl⟩) hS (fun r4 Mw1 H locs hp_r4 hP hI hS => ?_)
      obtain ⟨hp_r4, hm9⟩ := hp_r4
      subst Mw1
      subst hp_r4
      have h_TL := mu_k (e := .inr (10, [.ref (g.1 1 0), .ref (g.1 2 0), .int (gS st 2), .int (gS st 3), .int (gS st 1), .int (gS st 0), .int 2])) (kd_ne h_TL h_X rfl) h_TL
      have h_IL := mu_k (e := .inr (10, [.ref (g.1 1 0), .ref (g.1 2 0), .int (gS st 2), .int (gS st 3), .int (gS st 1), .int (gS st 0), .int 2])) (kd_ne h_IL h_X rfl) h_IL
      have h_ID := mu_k (e := .inr (10, [.ref (g.1 1 0), .ref (g.1 2 0), .int (gS st 2), .int (gS st 3), .int (gS st 1), .int (gS st 0), .int 2])) (kd_ne h_ID h_X rfl) h_ID
      have h_I := mu_k (e := .inr (10, [.ref (g.1 1 0), .ref (g.1 2 0), .int (gS st 2), .int (gS st 3), .int (gS st 1), .int (gS st 0), .int 2])) (kd_ne h_I h_X rfl) h_I
      have h_T := mu_k (e := .inr (10, [.ref (g.1 1 0), .ref (g.1 2 0), .int (gS st 2), .int (gS st 3), .int (gS st 1), .int (gS st 0), .int 2])) (kd_ne h_T h_X rfl) h_T
      have h_B := mu_k (e := .inr (10, [.ref (g.1 1 0), .ref (g.1 2 0), .int (gS st 2), .int (gS st 3), .int (gS st 1), .int (gS st 0), .int 2])) (kd_ne h_B h_X rfl) h_B
      have h_X : (mu (mu Mw (g.1 0 0) (.inr (10, [.ref (g.1 1 0), .ref (g.1 2 0), .int (gS st 2), .int (gS st 3), .int (gS st 1), .int (gS st 0), .int 0]))) (g.1 0 0) (.inr (10, [.ref (g.1 1 0), .ref (g.1 2 0), .int (gS st 2), .int (gS st 3), .int (gS st 1), .int (gS st 0), .int 2]))) (g.1 0 0) = some (.inr (10, [.ref (g.1 1 0), .ref (g.1 2 0), .int (gS st 2), .int (gS st 3), .int (gS st 1), .int (gS st 0), .int 2])) := mu_s
      refine lv_if_ne (tgt := 52) hx hb dX7_steam_36 (by decide) (fun _ => ?_) (fun h9 => absurd h9 (by decide))
      refine lv_iconst (v := 0) hx hb dX7_steam_52 (by decide) ?_
      refine W.widen (k := 0) (n := 0) (Nat.le_of_ble_eq_true rfl) (Nat.le_of_ble_eq_true rfl) ?_
      exact W.iret (v := 0) hx hb hr (fun t99 ht99 hW99 => ⟨⟨0, (mu (mu Mw (g.1 0 0) (.inr (10, [.ref (g.1 1 0), .ref (g.1 2 0), .int (gS st 2), .int (gS st 3), .int (gS st 1), .int (gS st 0), .int 0]))) (g.1 0 0) (.inr (10, [.ref (g.1 1 0), .ref (g.1 2 0), .int (gS st 2), .int (gS st 3), .int (gS st 1), .int (gS st 0), .int 2]))), rfl, RP.no (k := 2) (by unfold m_steam; first | (rw [chk_p hi9, chk_n hq_r3]; done) | (rw [chk_p hi9, chk_n hq_r3]; rfl)) (by decide) (hR.th 2 h_X (fun x9 e9 hx9 h0 => ((mu_n h0).trans ((mu_n h0).trans (rfl))).trans hx9)) rfl rfl, by rw [ht99]; exact hP, hI⟩, hS.F ht99⟩) hS.2.2 dX7_steam_53
    · subst hr9
      refine lv_if_ne (tgt := 31) hx hb dX7_steam_24 (by decide) (fun _ => ?_) (fun h9 => absurd h9 (by decide))
      refine lv_iconst (v := 0) hx hb dX7_steam_31 (by decide) ?_
      refine lv_iconst (v := 2) hx hb dX7_steam_32 (by decide) ?_
      refine m_calli (va_runV (As := [.int 0, .int 2]) (rest := []) ⟨hx, hb, hml, hown, hts⟩ (c_X7_isThrown0 l G A (mu Mw (g.1 0 0) (.inr (10, [.ref (g.1 1 0), .ref (g.1 2 0), .int (gS st 2), .int (gS st 3), .int (gS st 1), .int (gS st 0), .int 0])))  2 h_X) (cwV 2 hts gX7_steam_X7_isThrown rfl rfl rfl (by decide +kernel) ⟨Nat.le_of_ble_eq_true rfl, Nat.le_of_ble_eq_true rfl⟩) (mPreV hG hS hP hI hA (hP _ _ h_X) (r := (RX7, TX7, 7)) rfl) rfl rfl hl.1 rfl (lv_room (Nat.le_of_ble_eq_true rfl)) dX7_steam_33 ⟨Nat.le_of_ble_eq_true rfl, Nat.le_of_ble_eq_true rfl⟩) hS (fun r5 Mw1 H locs hp_r5 hP hI hS => ?_)
      obtain ⟨hp_r5, hm9⟩ := hp_r5
      subst Mw1
      subst hp_r5
      have h_TL := mu_k (e := .inr (10, [.ref (g.1 1 0), .ref (g.1 2 0), .int (gS st 2), .int (gS st 3), .int (gS st 1), .int (gS st 0), .int 0])) (kd_ne h_TL h_X rfl) h_TL
      have h_IL := mu_k (e := .inr (10, [.ref (g.1 1 0), .ref (g.1 2 0), .int (gS st 2), .int (gS st 3), .int (gS st 1), .int (gS st 0), .int 0])) (kd_ne h_IL h_X rfl) h_IL
      have h_ID := mu_k (e := .inr (10, [.ref (g.1 1 0), .ref (g.1 2 0), .int (gS st 2), .int (gS st 3), .int (gS st 1), .int (gS st 0), .int 0])) (kd_ne h_ID h_X rfl) h_ID
      have h_I := mu_k (e := .inr (10, [.ref (g.1 1 0), .ref (g.1 2 0), .int (gS st 2), .int (gS st 3), .int (gS st 1), .int (gS st 0), .int 0])) (kd_ne h_I h_X rfl) h_I
      have h_T := mu_k (e := .inr (10, [.ref (g.1 1 0), .ref (g.1 2 0), .int (gS st 2), .int (gS st 3), .int (gS st 1), .int (gS st 0), .int 0])) (kd_ne h_T h_X rfl) h_T
      have h_B := mu_k (e := .inr (10, [.ref (g.1 1 0), .ref (g.1 2 0), .int (gS st 2), .int (gS st 3), .int (gS st 1), .int (gS st 0), .int 0])) (kd_ne h_B h_X rfl) h_B
      have h_X : (mu (mu Mw (g.1 0 0) (.inr (10, [.ref (g.1 1 0), .ref (g.1 2 0), .int (gS st 2), .int (gS st 3), .int (gS st 1), .int (gS st 0), .int 0]))) (g.1 0 0) (.inr (10, [.ref (g.1 1 0), .ref (g.1 2 0), .int (gS st 2), .int (gS st 3), .int (gS st 1), .int (gS st 0), .int 0]))) (g.1 0 0) = some (.inr (10, [.ref (g.1 1 0), .ref (g.1 2 0), .int (gS st 2), .int (gS st 3), .int (gS st 1), .int (gS st 0), .int 0])) := mu_s
      refine lv_if_ne (tgt := 52) hx hb dX7_steam_36 (by decide) (fun h9 => absurd h9 (by decide)) (fun _ => ?_)
      refine lv_aload_n hx hb dX7_steam_39 rfl (lv_at hl 0 rfl) ?_
      refine lv_aload_n hx hb dX7_steam_40 rfl (lv_at hl 0 rfl) ?_
      refine lv_iload_n hx hb dX7_steam_41 rfl (lv_at hl 1 rfl) ?_
      refine m_calli (va_runV (As := [.int (nI (ix p0))]) (rest := [.ref (g.1 0 0)]) ⟨hx, hb, hml, hown, hts⟩ (c_X7_isEmpty l G A (mu (mu Mw (g.1 0 0) (.inr (10, [.ref (g.1 1 0), .ref (g.1 2 0), .int (gS st 2), .int (gS st 3), .int (gS st 1), .int (gS st 0), .int 0]))) (g.1 0 0) (.inr (10, [.ref (g.1 1 0), .ref (g.1 2 0), .int (gS st 2), .int (gS st 3), .int (gS st 1), .int (gS st 0), .int 0])))  h_X h_IL hnN8 h_ID h_I (ix p0) hi9.2 (qf_p hi9.2)) (cwV 1 hts gX7_steam_X7_isEmpty rfl rfl rfl (by decide +kernel) ⟨Nat.le_of_ble_eq_true rfl, Nat.le_of_ble_eq_true rfl⟩) (mPreV hG hS hP hI hA (hP _ _ h_X) (r := (RX7, TX7, 7)) rfl) rfl rfl hl.1 rfl (lv_room (Nat.le_of_ble_eq_true rfl)) dX7_steam_42 ⟨Nat.le_of_ble_eq_true rfl, Nat.le_of_ble_eq_true rfl⟩) hS (fun r6 Mw1 H locs hp_r6 hP hI hS => ?_)
      obtain ⟨hb9, hm9⟩ := hp_r6
      subst Mw1
      rcases hb9 with ⟨hr9, hq_r6⟩ | ⟨hr9, hq_r6⟩
      · subst hr9
        have hfi9 : ¬ itS st (ix p0) 4 = 0 := fun q9 => hq_r6 ((hV.fil hi9.2).mpr q9)
        refine lv_iconst (v := 3) hx hb dX7_steam_45 (by decide) ?_
        refine m_calli (va_runV (As := [.int 0, .int 3]) (rest := []) ⟨hx, hb, hml, hown, hts⟩ (c_X7_isThrown0 l G A (mu (mu Mw (g.1 0 0) (.inr (10, [.ref (g.1 1 0), .ref (g.1 2 0), .int (gS st 2), .int (gS st 3), .int (gS st 1), .int (gS st 0), .int 0]))) (g.1 0 0) (.inr (10, [.ref (g.1 1 0), .ref (g.1 2 0), .int (gS st 2), .int (gS st 3), .int (gS st 1), .int (gS st 0), .int 0])))  3 h_X) (cwV 2 hts gX7_steam_X7_isThrown rfl rfl rfl (by decide +kernel) ⟨Nat.le_of_ble_eq_true rfl, Nat.le_of_ble_eq_true rfl⟩) (mPreV hG hS hP hI hA (hP _ _ h_X) (r := (RX7, TX7, 7)) rfl) rfl rfl hl.1 rfl (lv_room (Nat.le_of_ble_eq_true rfl)) dX7_steam_46 ⟨Nat.le_of_ble_eq_true rfl, Nat.le_of_ble_eq_true rfl⟩) hS (fun r7 Mw1 H locs hp_r7 hP hI hS => ?_)
        obtain ⟨hp_r7, hm9⟩ := hp_r7
        subst Mw1
        subst hp_r7
        have h_TL := mu_k (e := .inr (10, [.ref (g.1 1 0), .ref (g.1 2 0), .int (gS st 2), .int (gS st 3), .int (gS st 1), .int (gS st 0), .int 0])) (kd_ne h_TL h_X rfl) h_TL
        have h_IL := mu_k (e := .inr (10, [.ref (g.1 1 0), .ref (g.1 2 0), .int (gS st 2), .int (gS st 3), .int (gS st 1), .int (gS st 0), .int 0])) (kd_ne h_IL h_X rfl) h_IL
        have h_ID := mu_k (e := .inr (10, [.ref (g.1 1 0), .ref (g.1 2 0), .int (gS st 2), .int (gS st 3), .int (gS st 1), .int (gS st 0), .int 0])) (kd_ne h_ID h_X rfl) h_ID
        have h_I := mu_k (e := .inr (10, [.ref (g.1 1 0), .ref (g.1 2 0), .int (gS st 2), .int (gS st 3), .int (gS st 1), .int (gS st 0), .int 0])) (kd_ne h_I h_X rfl) h_I
        have h_T := mu_k (e := .inr (10, [.ref (g.1 1 0), .ref (g.1 2 0), .int (gS st 2), .int (gS st 3), .int (gS st 1), .int (gS st 0), .int 0])) (kd_ne h_T h_X rfl) h_T
        have h_B := mu_k (e := .inr (10, [.ref (g.1 1 0), .ref (g.1 2 0), .int (gS st 2), .int (gS st 3), .int (gS st 1), .int (gS st 0), .int 0])) (kd_ne h_B h_X rfl) h_B
        have h_X : (mu (mu (mu Mw (g.1 0 0) (.inr (10, [.ref (g.1 1 0), .ref (g.1 2 0), .int (gS st 2), .int (gS st 3), .int (gS st 1), .int (gS st 0), .int 0]))) (g.1 0 0) (.inr (10, [.ref (g.1 1 0), .ref (g.1 2 0), .int (gS st 2), .int (gS st 3), .int (gS st 1), .int (gS st 0), .int 0]))) (g.1 0 0) (.inr (10, [.ref (g.1 1 0), .ref (g.1 2 0), .int (gS st 2), .int (gS st 3), .int (gS st 1), .int (gS st 0), .int 0]))) (g.1 0 0) = some (.inr (10, [.ref (g.1 1 0), .ref (g.1 2 0), .int (gS st 2), .int (gS st 3), .int (gS st 1), .int (gS st 0), .int 0])) := mu_s
        refine lv_if_eq (tgt := 54) hx hb dX7_steam_49 (by decide) (fun _ => ?_) (fun h9 => absurd h9 (by decide))
        refine lv_aload_n hx hb dX7_steam_54 rfl (lv_at hl 0 rfl) ?_
        refine m_get (ci := 10) (v := .ref (g.1 2 0)) (C := RX7) (T := TX7) (N := 7) hx hb hts i_X7 hown hK (hP _ _ h_X) rfl 1 (by decide) (hts (.fieldLink RX7 16 "MeniscusModel" "instruments" "Ljava/util/ArrayList;") (by decide +kernel)) (fun _ h9 => h9) rfl dX7_steam_55 ?_
        refine lv_iload_n hx hb dX7_steam_58 rfl (lv_at hl 1 rfl) ?_
        refine m_callq (va_runV (As := [.int (nI (ix p0))]) (rest := []) ⟨hx, hb, hml, hown, hts⟩ (c_Jx4a65c_get_915e3 l G A (mu (mu (mu Mw (g.1 0 0) (.inr (10, [.ref (g.1 1 0), .ref (g.1 2 0), .int (gS st 2), .int (gS st 3), .int (gS st 1), .int (gS st 0), .int 0]))) (g.1 0 0) (.inr (10, [.ref (g.1 1 0), .ref (g.1 2 0), .int (gS st 2), .int (gS st 3), .int (gS st 1), .int (gS st 0), .int 0]))) (g.1 0 0) (.inr (10, [.ref (g.1 1 0), .ref (g.1 2 0), .int (gS st 2), .int (gS st 3), .int (gS st 1), .int (gS st 0), .int 0])))  h_IL h_ID (ix p0) (g.1 7 (ix p0)) hi9.2 hnN8 (qf_p hi9.2)) (cwV 1 hts gX7_steam_Jx4a65c_get_915e3 rfl rfl rfl (by decide +kernel) ⟨Nat.le_of_ble_eq_true rfl, Nat.le_of_ble_eq_true rfl⟩) (mPreV hG hS hP hI hA (hP _ _ h_IL) (r := (RJx4a65c, TJx4a65c, 3)) rfl) rfl rfl hl.1 rfl (lv_room (Nat.le_of_ble_eq_true rfl)) dX7_steam_59 ⟨Nat.le_of_ble_eq_true rfl, Nat.le_of_ble_eq_true rfl⟩) hS (fun r8 Mw1 H locs hp_r8 hP hI hS => ?_)
        obtain ⟨hp_r8, hm9⟩ := hp_r8
        subst Mw1
        subst hp_r8
        refine va_castE hx hb hown (hts (.classLink RX7 79 RX5) (by decide +kernel)) (va_recv hK (va_at.one (hP _ _ h_I)) (q0 := 0) (q := (RX5, TX5, 17)) rfl rfl) dX7_steam_62 ?_
        refine lv_astore_n (lv' := [(3, .ref (g.1 7 (ix p0))), (0, .ref (g.1 0 0)), (1, .int (nI (ix p0))), (2, .int p1)]) hx hb dX7_steam_65 rfl hl (by decide) rfl (fun ls hl => ?_)
        refine lv_iload_n hx hb dX7_steam_66 rfl (lv_at hl 3 rfl) ?_
        refine m_calli (va_runS (As := [.int p1]) (rest := []) ⟨hx, hb, hml, hown, hts⟩ (c_X7_boils l G A (mu (mu (mu Mw (g.1 0 0) (.inr (10, [.ref (g.1 1 0), .ref (g.1 2 0), .int (gS st 2), .int (gS st 3), .int (gS st 1), .int (gS st 0), .int 0]))) (g.1 0 0) (.inr (10, [.ref (g.1 1 0), .ref (g.1 2 0), .int (gS st 2), .int (gS st 3), .int (gS st 1), .int (gS st 0), .int 0]))) (g.1 0 0) (.inr (10, [.ref (g.1 1 0), .ref (g.1 2 0), .int (gS st 2), .int (gS st 3), .int (gS st 1), .int (gS st 0), .int 0])))  p1) (va_cwS 1 hts gX7_steam_X7_boils rfl rfl rfl (by decide +kernel) ⟨Nat.le_of_ble_eq_true rfl, Nat.le_of_ble_eq_true rfl⟩) (mPreS hG hS hP hI hA) rfl rfl hl.1 rfl (lv_room (Nat.le_of_ble_eq_true rfl)) dX7_steam_67 ⟨Nat.le_of_ble_eq_true rfl, Nat.le_of_ble_eq_true rfl⟩) hS (fun r9 Mw1 H locs hp_r9 hP hI hS => ?_)
        obtain ⟨hp_r9, hm9⟩ := hp_r9
        subst Mw1
        subst hp_r9
        refine lv_istore (lv' := [(4, .int (sta p1)), (3, .ref (g.1 7 (ix p0))), (0, .ref (g.1 0 0)), (1, .int (nI (ix p0))), (2, .int p1)]) hx hb dX7_steam_70 hl (by decide) rfl (fun ls hl => ?_)
        refine lv_aload_n hx hb dX7_steam_72 rfl (lv_at hl 1 rfl) ?_
        refine lv_iload hx hb dX7_steam_73 (lv_at hl 0 rfl) ?_
        refine lv_sipush (v := (200)) hx hb dX7_steam_75 (by decide) ?_
        rw [i200]
        refine lv_aload_n hx hb dX7_steam_78 rfl (lv_at hl 2 rfl) ?_
        refine m_get (ci := 10) (v := .int (gS st 0)) (C := RX7) (T := TX7) (N := 7) hx hb hts i_X7 hown hK (hP _ _ h_X) rfl 5 (by decide) (hts (.fieldLink RX7 19 "MeniscusModel" "air" "I") (by decide +kernel)) (fun _ h9 => h9) rfl dX7_steam_79 ?_
        refine m_calli (va_runV (As := [.int (sta p1), .int (nI 200), .int (gS st 0)]) (rest := []) ⟨hx, hb, hml, hown, hts⟩ (c_X5_level l G A (mu (mu (mu Mw (g.1 0 0) (.inr (10, [.ref (g.1 1 0), .ref (g.1 2 0), .int (gS st 2), .int (gS st 3), .int (gS st 1), .int (gS st 0), .int 0]))) (g.1 0 0) (.inr (10, [.ref (g.1 1 0), .ref (g.1 2 0), .int (gS st 2), .int (gS st 3), .int (gS st 1), .int (gS st 0), .int 0]))) (g.1 0 0) (.inr (10, [.ref (g.1 1 0), .ref (g.1 2 0), .int (gS st 2), .int (gS st 3), .int (gS st 1), .int (gS st 0), .int 0])))  (sta p1) (gS st 0) 200 (Nat.le_refl 200) h_I h_T h_B) (cwV 3 hts gX7_steam_X5_level rfl rfl rfl (by decide +kernel) ⟨Nat.le_of_ble_eq_true rfl, Nat.le_of_ble_eq_true rfl⟩) (mPreV hG hS hP hI hA (hP _ _ h_I) (r := (RX5, TX5, 17)) rfl) rfl rfl hl.1 rfl (lv_room (Nat.le_of_ble_eq_true rfl)) dX7_steam_82 ⟨Nat.le_of_ble_eq_true rfl, Nat.le_of_ble_eq_true rfl⟩) hS (fun r10 Mw1 H locs hp_r10 hP hI hS => ?_)
        obtain ⟨hp_r10, hm9⟩ := hp_r10
        subst Mw1
        rw [← lvl_m hV hi9.2 (sta p1) (Nat.le_refl 200), ← i200] at hp_r10
        subst hp_r10
        refine lv_istore (lv' := [(5, .int (lvl st (ix p0) (sta p1) 200)), (4, .int (sta p1)), (3, .ref (g.1 7 (ix p0))), (0, .ref (g.1 0 0)), (1, .int (nI (ix p0))), (2, .int p1)]) hx hb dX7_steam_85 hl (by decide) rfl (fun ls hl => ?_)
        refine lv_aload_n hx hb dX7_steam_87 rfl (lv_at hl 3 rfl) ?_
        refine lv_iload hx hb dX7_steam_88 (lv_at hl 0 rfl) ?_
        refine lv_iconst (v := (-1)) hx hb dX7_steam_90 (by decide) ?_
        refine lv_icmp_ne (tgt := 98) hx hb dX7_steam_91 (by decide) (fun c11 => ?_) (fun c11 => ?_)
        · skip
          refine lv_iconst (v := 0) hx hb dX7_steam_98 (by decide) ?_
          refine lv_iconst (v := 4) hx hb dX7_steam_99 (by decide) ?_
          refine m_calli (va_runV (As := [.int 0, .int 4]) (rest := []) ⟨hx, hb, hml, hown, hts⟩ (c_X7_isThrown0 l G A (mu (mu (mu Mw (g.1 0 0) (.inr (10, [.ref (g.1 1 0), .ref (g.1 2 0), .int (gS st 2), .int (gS st 3), .int (gS st 1), .int (gS st 0), .int 0]))) (g.1 0 0) (.inr (10, [.ref (g.1 1 0), .ref (g.1 2 0), .int (gS st 2), .int (gS st 3), .int (gS st 1), .int (gS st 0), .int 0]))) (g.1 0 0) (.inr (10, [.ref (g.1 1 0), .ref (g.1 2 0), .int (gS st 2), .int (gS st 3), .int (gS st 1), .int (gS st 0), .int 0])))  4 h_X) (cwV 2 hts gX7_steam_X7_isThrown rfl rfl rfl (by decide +kernel) ⟨Nat.le_of_ble_eq_true rfl, Nat.le_of_ble_eq_true rfl⟩) (mPreV hG hS hP hI hA (hP _ _ h_X) (r := (RX7, TX7, 7)) rfl) rfl rfl hl.1 rfl (lv_room (Nat.le_of_ble_eq_true rfl)) dX7_steam_100 ⟨Nat.le_of_ble_eq_true rfl, Nat.le_of_ble_eq_true rfl⟩) hS (fun r12 Mw1 H locs hp_r12 hP hI hS => ?_)
          obtain ⟨hp_r12, hm9⟩ := hp_r12
          subst Mw1
          subst hp_r12
          have h_TL := mu_k (e := .inr (10, [.ref (g.1 1 0), .ref (g.1 2 0), .int (gS st 2), .int (gS st 3), .int (gS st 1), .int (gS st 0), .int 0])) (kd_ne h_TL h_X rfl) h_TL
          have h_IL := mu_k (e := .inr (10, [.ref (g.1 1 0), .ref (g.1 2 0), .int (gS st 2), .int (gS st 3), .int (gS st 1), .int (gS st 0), .int 0])) (kd_ne h_IL h_X rfl) h_IL
          have h_ID := mu_k (e := .inr (10, [.ref (g.1 1 0), .ref (g.1 2 0), .int (gS st 2), .int (gS st 3), .int (gS st 1), .int (gS st 0), .int 0])) (kd_ne h_ID h_X rfl) h_ID
          have h_I := mu_k (e := .inr (10, [.ref (g.1 1 0), .ref (g.1 2 0), .int (gS st 2), .int (gS st 3), .int (gS st 1), .int (gS st 0), .int 0])) (kd_ne h_I h_X rfl) h_I
          have h_T := mu_k (e := .inr (10, [.ref (g.1 1 0), .ref (g.1 2 0), .int (gS st 2), .int (gS st 3), .int (gS st 1), .int (gS st 0), .int 0])) (kd_ne h_T h_X rfl) h_T
          have h_B := mu_k (e := .inr (10, [.ref (g.1 1 0), .ref (g.1 2 0), .int (gS st 2), .int (gS st 3), .int (gS st 1), .int (gS st 0), .int 0])) (kd_ne h_B h_X rfl) h_B
          have h_X : (mu (mu (mu (mu Mw (g.1 0 0) (.inr (10, [.ref (g.1 1 0), .ref (g.1 2 0), .int (gS st 2), .int (gS st 3), .int (gS st 1), .int (gS st 0), .int 0]))) (g.1 0 0) (.inr (10, [.ref (g.1 1 0), .ref (g.1 2 0), .int (gS st 2), .int (gS st 3), .int (gS st 1), .int (gS st 0), .int 0]))) (g.1 0 0) (.inr (10, [.ref (g.1 1 0), .ref (g.1 2 0), .int (gS st 2), .int (gS st 3), .int (gS st 1), .int (gS st 0), .int 0]))) (g.1 0 0) (.inr (10, [.ref (g.1 1 0), .ref (g.1 2 0), .int (gS st 2), .int (gS st 3), .int (gS st 1), .int (gS st 0), .int 0]))) (g.1 0 0) = some (.inr (10, [.ref (g.1 1 0), .ref (g.1 2 0), .int (gS st 2), .int (gS st 3), .int (gS st 1), .int (gS st 0), .int 0])) := mu_s
          refine lv_if_eq (tgt := 108) hx hb dX7_steam_103 (by decide) (fun _ => ?_) (fun h9 => absurd h9 (by decide))
          refine lv_aload_n hx hb dX7_steam_108 rfl (lv_at hl 2 rfl) ?_
          refine lv_iload hx hb dX7_steam_109 (lv_at hl 0 rfl) ?_
          refine m_putN (ci := 8) (v := .int (lvl st (ix p0) (sta p1) 200)) (ty := .int) (C := RX5) (T := TX5) (N := 17) hx hb hts i_X5 tyX5 tyX5_ok nmX5 hown hK hP hI hS h_I rfl 8 (by decide) (va_Nw.use rfl (hG.2.1.2.1 ("MeniscusModel", 158, "MeniscusModel$Instrument", "steam", "I", "MeniscusModel") (by decide +kernel))) (fun _ h9 => h9) rfl (by decide +kernel) rfl rfl (Nat.le_of_ble_eq_true rfl) dX7_steam_111 (fun H locs hP hI hS => ?_)
          have hP : mP G.1 (mu (mu (mu (mu (mu Mw (g.1 0 0) (.inr (10, [.ref (g.1 1 0), .ref (g.1 2 0), .int (gS st 2), .int (gS st 3), .int (gS st 1), .int (gS st 0), .int 0]))) (g.1 0 0) (.inr (10, [.ref (g.1 1 0), .ref (g.1 2 0), .int (gS st 2), .int (gS st 3), .int (gS st 1), .int (gS st 0), .int 0]))) (g.1 0 0) (.inr (10, [.ref (g.1 1 0), .ref (g.1 2 0), .int (gS st 2), .int (gS st 3), .int (gS st 1), .int (gS st 0), .int 0]))) (g.1 0 0) (.inr (10, [.ref (g.1 1 0), .ref (g.1 2 0), .int (gS st 2), .int (gS st 3), .int (gS st 1), .int (gS st 0), .int 0]))) (g.1 7 (ix p0)) (.inr (8, [.ref (g.1 5 (tbN st (ix p0))), .int (itS st (ix p0) 1), .int (sof (itS st (ix p0) 2)), .int (itS st (ix p0) 3), .int (itS st (ix p0) 7), .int (itS st (ix p0) 6), .int (itS st (ix p0) 5), .int (itS st (ix p0) 12), .int (lvl st (ix p0) (sta p1) 200), .int (itS st (ix p0) 14), .int (itS st (ix p0) 15), .int (itS st (ix p0) 8), .int (itS st (ix p0) 9), .int (itS st (ix p0) 10), .int (ceR g (ix p0)), .ref (g.1 8 (ix p0)), .ref (g.1 9 (ix p0))]))) H := hP
          have hI : mI A (mu (mu (mu (mu (mu Mw (g.1 0 0) (.inr (10, [.ref (g.1 1 0), .ref (g.1 2 0), .int (gS st 2), .int (gS st 3), .int (gS st 1), .int (gS st 0), .int 0]))) (g.1 0 0) (.inr (10, [.ref (g.1 1 0), .ref (g.1 2 0), .int (gS st 2), .int (gS st 3), .int (gS st 1), .int (gS st 0), .int 0]))) (g.1 0 0) (.inr (10, [.ref (g.1 1 0), .ref (g.1 2 0), .int (gS st 2), .int (gS st 3), .int (gS st 1), .int (gS st 0), .int 0]))) (g.1 0 0) (.inr (10, [.ref (g.1 1 0), .ref (g.1 2 0), .int (gS st 2), .int (gS st 3), .int (gS st 1), .int (gS st 0), .int 0]))) (g.1 7 (ix p0)) (.inr (8, [.ref (g.1 5 (tbN st (ix p0))), .int (itS st (ix p0) 1), .int (sof (itS st (ix p0) 2)), .int (itS st (ix p0) 3), .int (itS st (ix p0) 7), .int (itS st (ix p0) 6), .int (itS st (ix p0) 5), .int (itS st (ix p0) 12), .int (lvl st (ix p0) (sta p1) 200), .int (itS st (ix p0) 14), .int (itS st (ix p0) 15), .int (itS st (ix p0) 8), .int (itS st (ix p0) 9), .int (itS st (ix p0) 10), .int (ceR g (ix p0)), .ref (g.1 8 (ix p0)), .ref (g.1 9 (ix p0))]))) := hI
          have h_X := mu_k (e := .inr (8, [.ref (g.1 5 (tbN st (ix p0))), .int (itS st (ix p0) 1), .int (sof (itS st (ix p0) 2)), .int (itS st (ix p0) 3), .int (itS st (ix p0) 7), .int (itS st (ix p0) 6), .int (itS st (ix p0) 5), .int (itS st (ix p0) 12), .int (lvl st (ix p0) (sta p1) 200), .int (itS st (ix p0) 14), .int (itS st (ix p0) 15), .int (itS st (ix p0) 8), .int (itS st (ix p0) 9), .int (itS st (ix p0) 10), .int (ceR g (ix p0)), .ref (g.1 8 (ix p0)), .ref (g.1 9 (ix p0))])) (kd_ne h_X h_I rfl) h_X
          have h_TL := mu_k (e := .inr (8, [.ref (g.1 5 (tbN st (ix p0))), .int (itS st (ix p0) 1), .int (sof (itS st (ix p0) 2)), .int (itS st (ix p0) 3), .int (itS st (ix p0) 7), .int (itS st (ix p0) 6), .int (itS st (ix p0) 5), .int (itS st (ix p0) 12), .int (lvl st (ix p0) (sta p1) 200), .int (itS st (ix p0) 14), .int (itS st (ix p0) 15), .int (itS st (ix p0) 8), .int (itS st (ix p0) 9), .int (itS st (ix p0) 10), .int (ceR g (ix p0)), .ref (g.1 8 (ix p0)), .ref (g.1 9 (ix p0))])) (kd_ne h_TL h_I rfl) h_TL
          have h_IL := mu_k (e := .inr (8, [.ref (g.1 5 (tbN st (ix p0))), .int (itS st (ix p0) 1), .int (sof (itS st (ix p0) 2)), .int (itS st (ix p0) 3), .int (itS st (ix p0) 7), .int (itS st (ix p0) 6), .int (itS st (ix p0) 5), .int (itS st (ix p0) 12), .int (lvl st (ix p0) (sta p1) 200), .int (itS st (ix p0) 14), .int (itS st (ix p0) 15), .int (itS st (ix p0) 8), .int (itS st (ix p0) 9), .int (itS st (ix p0) 10), .int (ceR g (ix p0)), .ref (g.1 8 (ix p0)), .ref (g.1 9 (ix p0))])) (kd_ne h_IL h_I rfl) h_IL
          have h_ID := mu_k (e := .inr (8, [.ref (g.1 5 (tbN st (ix p0))), .int (itS st (ix p0) 1), .int (sof (itS st (ix p0) 2)), .int (itS st (ix p0) 3), .int (itS st (ix p0) 7), .int (itS st (ix p0) 6), .int (itS st (ix p0) 5), .int (itS st (ix p0) 12), .int (lvl st (ix p0) (sta p1) 200), .int (itS st (ix p0) 14), .int (itS st (ix p0) 15), .int (itS st (ix p0) 8), .int (itS st (ix p0) 9), .int (itS st (ix p0) 10), .int (ceR g (ix p0)), .ref (g.1 8 (ix p0)), .ref (g.1 9 (ix p0))])) (kd_ne h_ID h_I rfl) h_ID
          have h_T := mu_k (e := .inr (8, [.ref (g.1 5 (tbN st (ix p0))), .int (itS st (ix p0) 1), .int (sof (itS st (ix p0) 2)), .int (itS st (ix p0) 3), .int (itS st (ix p0) 7), .int (itS st (ix p0) 6), .int (itS st (ix p0) 5), .int (itS st (ix p0) 12), .int (lvl st (ix p0) (sta p1) 200), .int (itS st (ix p0) 14), .int (itS st (ix p0) 15), .int (itS st (ix p0) 8), .int (itS st (ix p0) 9), .int (itS st (ix p0) 10), .int (ceR g (ix p0)), .ref (g.1 8 (ix p0)), .ref (g.1 9 (ix p0))])) (kd_ne h_T h_I rfl) h_T
          have h_B := mu_k (e := .inr (8, [.ref (g.1 5 (tbN st (ix p0))), .int (itS st (ix p0) 1), .int (sof (itS st (ix p0) 2)), .int (itS st (ix p0) 3), .int (itS st (ix p0) 7), .int (itS st (ix p0) 6), .int (itS st (ix p0) 5), .int (itS st (ix p0) 12), .int (lvl st (ix p0) (sta p1) 200), .int (itS st (ix p0) 14), .int (itS st (ix p0) 15), .int (itS st (ix p0) 8), .int (itS st (ix p0) 9), .int (itS st (ix p0) 10), .int (ceR g (ix p0)), .ref (g.1 8 (ix p0)), .ref (g.1 9 (ix p0))])) (kd_ne h_B h_I rfl) h_B
          have h_I : (mu (mu (mu (mu (mu Mw (g.1 0 0) (.inr (10, [.ref (g.1 1 0), .ref (g.1 2 0), .int (gS st 2), .int (gS st 3), .int (gS st 1), .int (gS st 0), .int 0]))) (g.1 0 0) (.inr (10, [.ref (g.1 1 0), .ref (g.1 2 0), .int (gS st 2), .int (gS st 3), .int (gS st 1), .int (gS st 0), .int 0]))) (g.1 0 0) (.inr (10, [.ref (g.1 1 0), .ref (g.1 2 0), .int (gS st 2), .int (gS st 3), .int (gS st 1), .int (gS st 0), .int 0]))) (g.1 0 0) (.inr (10, [.ref (g.1 1 0), .ref (g.1 2 0), .int (gS st 2), .int (gS st 3), .int (gS st 1), .int (gS st 0), .int 0]))) (g.1 7 (ix p0)) (.inr (8, [.ref (g.1 5 (tbN st (ix p0))), .int (itS st (ix p0) 1), .int (sof (itS st (ix p0) 2)), .int (itS st (ix p0) 3), .int (itS st (ix p0) 7), .int (itS st (ix p0) 6), .int (itS st (ix p0) 5), .int (itS st (ix p0) 12), .int (lvl st (ix p0) (sta p1) 200), .int (itS st (ix p0) 14), .int (itS st (ix p0) 15), .int (itS st (ix p0) 8), .int (itS st (ix p0) 9), .int (itS st (ix p0) 10), .int (ceR g (ix p0)), .ref (g.1 8 (ix p0)), .ref (g.1 9 (ix p0))]))) (g.1 7 (ix p0)) = some (.inr (8, [.ref (g.1 5 (tbN st (ix p0))), .int (itS st (ix p0) 1), .int (sof (itS st (ix p0) 2)), .int (itS st (ix p0) 3), .int (itS st (ix p0) 7), .int (itS st (ix p0) 6), .int (itS st (ix p0) 5), .int (itS st (ix p0) 12), .int (lvl st (ix p0) (sta p1) 200), .int (itS st (ix p0) 14), .int (itS st (ix p0) 15), .int (itS st (ix p0) 8), .int (itS st (ix p0) 9), .int (itS st (ix p0) 10), .int (ceR g (ix p0)), .ref (g.1 8 (ix p0)), .ref (g.1 9 (ix p0))])) := mu_s
          refine lv_aload_n hx hb dX7_steam_114 rfl (lv_at hl 2 rfl) ?_
          refine lv_iload hx hb dX7_steam_115 (lv_at hl 1 rfl) ?_
          refine m_putN (ci := 8) (v := .int (sta p1)) (ty := .int) (C := RX5) (T := TX5) (N := 17) hx hb hts i_X5 tyX5 tyX5_ok nmX5 hown hK hP hI hS h_I rfl 9 (by decide) (va_Nw.use rfl (hG.2.1.2.1 ("MeniscusModel", 161, "MeniscusModel$Instrument", "steamHeat", "I", "MeniscusModel") (by decide +kernel))) (fun _ h9 => h9) rfl (by decide +kernel) rfl rfl (Nat.le_of_ble_eq_true rfl) dX7_steam_117 (fun H locs hP hI hS => ?_)
          have hP : mP G.1 (mu (mu (mu (mu (mu (mu Mw (g.1 0 0) (.inr (10, [.ref (g.1 1 0), .ref (g.1 2 0), .int (gS st 2), .int (gS st 3), .int (gS st 1), .int (gS st 0), .int 0]))) (g.1 0 0) (.inr (10, [.ref (g.1 1 0), .ref (g.1 2 0), .int (gS st 2), .int (gS st 3), .int (gS st 1), .int (gS st 0), .int 0]))) (g.1 0 0) (.inr (10, [.ref (g.1 1 0), .ref (g.1 2 0), .int (gS st 2), .int (gS st 3), .int (gS st 1), .int (gS st 0), .int 0]))) (g.1 0 0) (.inr (10, [.ref (g.1 1 0), .ref (g.1 2 0), .int (gS st 2), .int (gS st 3), .int (gS st 1), .int (gS st 0), .int 0]))) (g.1 7 (ix p0)) (.inr (8, [.ref (g.1 5 (tbN st (ix p0))), .int (itS st (ix p0) 1), .int (sof (itS st (ix p0) 2)), .int (itS st (ix p0) 3), .int (itS st (ix p0) 7), .int (itS st (ix p0) 6), .int (itS st (ix p0) 5), .int (itS st (ix p0) 12), .int (lvl st (ix p0) (sta p1) 200), .int (itS st (ix p0) 14), .int (itS st (ix p0) 15), .int (itS st (ix p0) 8), .int (itS st (ix p0) 9), .int (itS st (ix p0) 10), .int (ceR g (ix p0)), .ref (g.1 8 (ix p0)), .ref (g.1 9 (ix p0))]))) (g.1 7 (ix p0)) (.inr (8, [.ref (g.1 5 (tbN st (ix p0))), .int (itS st (ix p0) 1), .int (sof (itS st (ix p0) 2)), .int (itS st (ix p0) 3), .int (itS st (ix p0) 7), .int (itS st (ix p0) 6), .int (itS st (ix p0) 5), .int (itS st (ix p0) 12), .int (lvl st (ix p0) (sta p1) 200), .int (sta p1), .int (itS st (ix p0) 15), .int (itS st (ix p0) 8), .int (itS st (ix p0) 9), .int (itS st (ix p0) 10), .int (ceR g (ix p0)), .ref (g.1 8 (ix p0)), .ref (g.1 9 (ix p0))]))) H := hP
          have hI : mI A (mu (mu (mu (mu (mu (mu Mw (g.1 0 0) (.inr (10, [.ref (g.1 1 0), .ref (g.1 2 0), .int (gS st 2), .int (gS st 3), .int (gS st 1), .int (gS st 0), .int 0]))) (g.1 0 0) (.inr (10, [.ref (g.1 1 0), .ref (g.1 2 0), .int (gS st 2), .int (gS st 3), .int (gS st 1), .int (gS st 0), .int 0]))) (g.1 0 0) (.inr (10, [.ref (g.1 1 0), .ref (g.1 2 0), .int (gS st 2), .int (gS st 3), .int (gS st 1), .int (gS st 0), .int 0]))) (g.1 0 0) (.inr (10, [.ref (g.1 1 0), .ref (g.1 2 0), .int (gS st 2), .int (gS st 3), .int (gS st 1), .int (gS st 0), .int 0]))) (g.1 7 (ix p0)) (.inr (8, [.ref (g.1 5 (tbN st (ix p0))), .int (itS st (ix p0) 1), .int (sof (itS st (ix p0) 2)), .int (itS st (ix p0) 3), .int (itS st (ix p0) 7), .int (itS st (ix p0) 6), .int (itS st (ix p0) 5), .int (itS st (ix p0) 12), .int (lvl st (ix p0) (sta p1) 200), .int (itS st (ix p0) 14), .int (itS st (ix p0) 15), .int (itS st (ix p0) 8), .int (itS st (ix p0) 9), .int (itS st (ix p0) 10), .int (ceR g (ix p0)), .ref (g.1 8 (ix p0)), .ref (g.1 9 (ix p0))]))) (g.1 7 (ix p0)) (.inr (8, [.ref (g.1 5 (tbN st (ix p0))), .int (itS st (ix p0) 1), .int (sof (itS st (ix p0) 2)), .int (itS st (ix p0) 3), .int (itS st (ix p0) 7), .int (itS st (ix p0) 6), .int (itS st (ix p0) 5), .int (itS st (ix p0) 12), .int (lvl st (ix p0) (sta p1) 200), .int (sta p1), .int (itS st (ix p0) 15), .int (itS st (ix p0) 8), .int (itS st (ix p0) 9), .int (itS st (ix p0) 10), .int (ceR g (ix p0)), .ref (g.1 8 (ix p0)), .ref (g.1 9 (ix p0))]))) := hI
          have h_X := mu_k (e := .inr (8, [.ref (g.1 5 (tbN st (ix p0))), .int (itS st (ix p0) 1), .int (sof (itS st (ix p0) 2)), .int (itS st (ix p0) 3), .int (itS st (ix p0) 7), .int (itS st (ix p0) 6), .int (itS st (ix p0) 5), .int (itS st (ix p0) 12), .int (lvl st (ix p0) (sta p1) 200), .int (sta p1), .int (itS st (ix p0) 15), .int (itS st (ix p0) 8), .int (itS st (ix p0) 9), .int (itS st (ix p0) 10), .int (ceR g (ix p0)), .ref (g.1 8 (ix p0)), .ref (g.1 9 (ix p0))])) (kd_ne h_X h_I rfl) h_X
          have h_TL := mu_k (e := .inr (8, [.ref (g.1 5 (tbN st (ix p0))), .int (itS st (ix p0) 1), .int (sof (itS st (ix p0) 2)), .int (itS st (ix p0) 3), .int (itS st (ix p0) 7), .int (itS st (ix p0) 6), .int (itS st (ix p0) 5), .int (itS st (ix p0) 12), .int (lvl st (ix p0) (sta p1) 200), .int (sta p1), .int (itS st (ix p0) 15), .int (itS st (ix p0) 8), .int (itS st (ix p0) 9), .int (itS st (ix p0) 10), .int (ceR g (ix p0)), .ref (g.1 8 (ix p0)), .ref (g.1 9 (ix p0))])) (kd_ne h_TL h_I rfl) h_TL
          have h_IL := mu_k (e := .inr (8, [.ref (g.1 5 (tbN st (ix p0))), .int (itS st (ix p0) 1), .int (sof (itS st (ix p0) 2)), .int (itS st (ix p0) 3), .int (itS st (ix p0) 7), .int (itS st (ix p0) 6), .int (itS st (ix p0) 5), .int (itS st (ix p0) 12), .int (lvl st (ix p0) (sta p1) 200), .int (sta p1), .int (itS st (ix p0) 15), .int (itS st (ix p0) 8), .int (itS st (ix p0) 9), .int (itS st (ix p0) 10), .int (ceR g (ix p0)), .ref (g.1 8 (ix p0)), .ref (g.1 9 (ix p0))])) (kd_ne h_IL h_I rfl) h_IL
          have h_ID := mu_k (e := .inr (8, [.ref (g.1 5 (tbN st (ix p0))), .int (itS st (ix p0) 1), .int (sof (itS st (ix p0) 2)), .int (itS st (ix p0) 3), .int (itS st (ix p0) 7), .int (itS st (ix p0) 6), .int (itS st (ix p0) 5), .int (itS st (ix p0) 12), .int (lvl st (ix p0) (sta p1) 200), .int (sta p1), .int (itS st (ix p0) 15), .int (itS st (ix p0) 8), .int (itS st (ix p0) 9), .int (itS st (ix p0) 10), .int (ceR g (ix p0)), .ref (g.1 8 (ix p0)), .ref (g.1 9 (ix p0))])) (kd_ne h_ID h_I rfl) h_ID
          have h_T := mu_k (e := .inr (8, [.ref (g.1 5 (tbN st (ix p0))), .int (itS st (ix p0) 1), .int (sof (itS st (ix p0) 2)), .int (itS st (ix p0) 3), .int (itS st (ix p0) 7), .int (itS st (ix p0) 6), .int (itS st (ix p0) 5), .int (itS st (ix p0) 12), .int (lvl st (ix p0) (sta p1) 200), .int (sta p1), .int (itS st (ix p0) 15), .int (itS st (ix p0) 8), .int (itS st (ix p0) 9), .int (itS st (ix p0) 10), .int (ceR g (ix p0)), .ref (g.1 8 (ix p0)), .ref (g.1 9 (ix p0))])) (kd_ne h_T h_I rfl) h_T
          have h_B := mu_k (e := .inr (8, [.ref (g.1 5 (tbN st (ix p0))), .int (itS st (ix p0) 1), .int (sof (itS st (ix p0) 2)), .int (itS st (ix p0) 3), .int (itS st (ix p0) 7), .int (itS st (ix p0) 6), .int (itS st (ix p0) 5), .int (itS st (ix p0) 12), .int (lvl st (ix p0) (sta p1) 200), .int (sta p1), .int (itS st (ix p0) 15), .int (itS st (ix p0) 8), .int (itS st (ix p0) 9), .int (itS st (ix p0) 10), .int (ceR g (ix p0)), .ref (g.1 8 (ix p0)), .ref (g.1 9 (ix p0))])) (kd_ne h_B h_I rfl) h_B
          rw [mu_uu] at hP hI h_X h_TL h_IL h_ID h_T h_B
          have h_I : (mu (mu (mu (mu (mu Mw (g.1 0 0) (.inr (10, [.ref (g.1 1 0), .ref (g.1 2 0), .int (gS st 2), .int (gS st 3), .int (gS st 1), .int (gS st 0), .int 0]))) (g.1 0 0) (.inr (10, [.ref (g.1 1 0), .ref (g.1 2 0), .int (gS st 2), .int (gS st 3), .int (gS st 1), .int (gS st 0), .int 0]))) (g.1 0 0) (.inr (10, [.ref (g.1 1 0), .ref (g.1 2 0), .int (gS st 2), .int (gS st 3), .int (gS st 1), .int (gS st 0), .int 0]))) (g.1 0 0) (.inr (10, [.ref (g.1 1 0), .ref (g.1 2 0), .int (gS st 2), .int (gS st 3), .int (gS st 1), .int (gS st 0), .int 0]))) (g.1 7 (ix p0)) (.inr (8, [.ref (g.1 5 (tbN st (ix p0))), .int (itS st (ix p0) 1), .int (sof (itS st (ix p0) 2)), .int (itS st (ix p0) 3), .int (itS st (ix p0) 7), .int (itS st (ix p0) 6), .int (itS st (ix p0) 5), .int (itS st (ix p0) 12), .int (lvl st (ix p0) (sta p1) 200), .int (sta p1), .int (itS st (ix p0) 15), .int (itS st (ix p0) 8), .int (itS st (ix p0) 9), .int (itS st (ix p0) 10), .int (ceR g (ix p0)), .ref (g.1 8 (ix p0)), .ref (g.1 9 (ix p0))]))) (g.1 7 (ix p0)) = some (.inr (8, [.ref (g.1 5 (tbN st (ix p0))), .int (itS st (ix p0) 1), .int (sof (itS st (ix p0) 2)), .int (itS st (ix p0) 3), .int (itS st (ix p0) 7), .int (itS st (ix p0) 6), .int (itS st (ix p0) 5), .int (itS st (ix p0) 12), .int (lvl st (ix p0) (sta p1) 200), .int (sta p1), .int (itS st (ix p0) 15), .int (itS st (ix p0) 8), .int (itS st (ix p0) 9), .int (itS st (ix p0) 10), .int (ceR g (ix p0)), .ref (g.1 8 (ix p0)), .ref (g.1 9 (ix p0))])) := mu_s
          refine lv_aload_n hx hb dX7_steam_120 rfl (lv_at hl 2 rfl) ?_
          refine lv_bipush (v := (32)) hx hb dX7_steam_121 (by decide) ?_
          refine m_putN (ci := 8) (v := .int 32) (ty := .char) (C := RX5) (T := TX5) (N := 17) hx hb hts i_X5 tyX5 tyX5_ok nmX5 hown hK hP hI hS h_I rfl 10 (by decide) (va_Nw.use rfl (hG.2.1.2.1 ("MeniscusModel", 152, "MeniscusModel$Instrument", "kind", "C", "MeniscusModel") (by decide +kernel))) (fun _ h9 => h9) rfl (by decide +kernel) rfl rfl (Nat.le_of_ble_eq_true rfl) dX7_steam_123 (fun H locs hP hI hS => ?_)
          have hP : mP G.1 (mu (mu (mu (mu (mu (mu Mw (g.1 0 0) (.inr (10, [.ref (g.1 1 0), .ref (g.1 2 0), .int (gS st 2), .int (gS st 3), .int (gS st 1), .int (gS st 0), .int 0]))) (g.1 0 0) (.inr (10, [.ref (g.1 1 0), .ref (g.1 2 0), .int (gS st 2), .int (gS st 3), .int (gS st 1), .int (gS st 0), .int 0]))) (g.1 0 0) (.inr (10, [.ref (g.1 1 0), .ref (g.1 2 0), .int (gS st 2), .int (gS st 3), .int (gS st 1), .int (gS st 0), .int 0]))) (g.1 0 0) (.inr (10, [.ref (g.1 1 0), .ref (g.1 2 0), .int (gS st 2), .int (gS st 3), .int (gS st 1), .int (gS st 0), .int 0]))) (g.1 7 (ix p0)) (.inr (8, [.ref (g.1 5 (tbN st (ix p0))), .int (itS st (ix p0) 1), .int (sof (itS st (ix p0) 2)), .int (itS st (ix p0) 3), .int (itS st (ix p0) 7), .int (itS st (ix p0) 6), .int (itS st (ix p0) 5), .int (itS st (ix p0) 12), .int (lvl st (ix p0) (sta p1) 200), .int (sta p1), .int (itS st (ix p0) 15), .int (itS st (ix p0) 8), .int (itS st (ix p0) 9), .int (itS st (ix p0) 10), .int (ceR g (ix p0)), .ref (g.1 8 (ix p0)), .ref (g.1 9 (ix p0))]))) (g.1 7 (ix p0)) (.inr (8, [.ref (g.1 5 (tbN st (ix p0))), .int (itS st (ix p0) 1), .int (sof (itS st (ix p0) 2)), .int (itS st (ix p0) 3), .int (itS st (ix p0) 7), .int (itS st (ix p0) 6), .int (itS st (ix p0) 5), .int (itS st (ix p0) 12), .int (lvl st (ix p0) (sta p1) 200), .int (sta p1), .int 32, .int (itS st (ix p0) 8), .int (itS st (ix p0) 9), .int (itS st (ix p0) 10), .int (ceR g (ix p0)), .ref (g.1 8 (ix p0)), .ref (g.1 9 (ix p0))]))) H := hP
          have hI : mI A (mu (mu (mu (mu (mu (mu Mw (g.1 0 0) (.inr (10, [.ref (g.1 1 0), .ref (g.1 2 0), .int (gS st 2), .int (gS st 3), .int (gS st 1), .int (gS st 0), .int 0]))) (g.1 0 0) (.inr (10, [.ref (g.1 1 0), .ref (g.1 2 0), .int (gS st 2), .int (gS st 3), .int (gS st 1), .int (gS st 0), .int 0]))) (g.1 0 0) (.inr (10, [.ref (g.1 1 0), .ref (g.1 2 0), .int (gS st 2), .int (gS st 3), .int (gS st 1), .int (gS st 0), .int 0]))) (g.1 0 0) (.inr (10, [.ref (g.1 1 0), .ref (g.1 2 0), .int (gS st 2), .int (gS st 3), .int (gS st 1), .int (gS st 0), .int 0]))) (g.1 7 (ix p0)) (.inr (8, [.ref (g.1 5 (tbN st (ix p0))), .int (itS st (ix p0) 1), .int (sof (itS st (ix p0) 2)), .int (itS st (ix p0) 3), .int (itS st (ix p0) 7), .int (itS st (ix p0) 6), .int (itS st (ix p0) 5), .int (itS st (ix p0) 12), .int (lvl st (ix p0) (sta p1) 200), .int (sta p1), .int (itS st (ix p0) 15), .int (itS st (ix p0) 8), .int (itS st (ix p0) 9), .int (itS st (ix p0) 10), .int (ceR g (ix p0)), .ref (g.1 8 (ix p0)), .ref (g.1 9 (ix p0))]))) (g.1 7 (ix p0)) (.inr (8, [.ref (g.1 5 (tbN st (ix p0))), .int (itS st (ix p0) 1), .int (sof (itS st (ix p0) 2)), .int (itS st (ix p0) 3), .int (itS st (ix p0) 7), .int (itS st (ix p0) 6), .int (itS st (ix p0) 5), .int (itS st (ix p0) 12), .int (lvl st (ix p0) (sta p1) 200), .int (sta p1), .int 32, .int (itS st (ix p0) 8), .int (itS st (ix p0) 9), .int (itS st (ix p0) 10), .int (ceR g (ix p0)), .ref (g.1 8 (ix p0)), .ref (g.1 9 (ix p0))]))) := hI
          have h_X := mu_k (e := .inr (8, [.ref (g.1 5 (tbN st (ix p0))), .int (itS st (ix p0) 1), .int (sof (itS st (ix p0) 2)), .int (itS st (ix p0) 3), .int (itS st (ix p0) 7), .int (itS st (ix p0) 6), .int (itS st (ix p0) 5), .int (itS st (ix p0) 12), .int (lvl st (ix p0) (sta p1) 200), .int (sta p1), .int 32, .int (itS st (ix p0) 8), .int (itS st (ix p0) 9), .int (itS st (ix p0) 10), .int (ceR g (ix p0)), .ref (g.1 8 (ix p0)), .ref (g.1 9 (ix p0))])) (kd_ne h_X h_I rfl) h_X
          have h_TL := mu_k (e := .inr (8, [.ref (g.1 5 (tbN st (ix p0))), .int (itS st (ix p0) 1), .int (sof (itS st (ix p0) 2)), .int (itS st (ix p0) 3), .int (itS st (ix p0) 7), .int (itS st (ix p0) 6), .int (itS st (ix p0) 5), .int (itS st (ix p0) 12), .int (lvl st (ix p0) (sta p1) 200), .int (sta p1), .int 32, .int (itS st (ix p0) 8), .int (itS st (ix p0) 9), .int (itS st (ix p0) 10), .int (ceR g (ix p0)), .ref (g.1 8 (ix p0)), .ref (g.1 9 (ix p0))])) (kd_ne h_TL h_I rfl) h_TL
          have h_IL := mu_k (e := .inr (8, [.ref (g.1 5 (tbN st (ix p0))), .int (itS st (ix p0) 1), .int (sof (itS st (ix p0) 2)), .int (itS st (ix p0) 3), .int (itS st (ix p0) 7), .int (itS st (ix p0) 6), .int (itS st (ix p0) 5), .int (itS st (ix p0) 12), .int (lvl st (ix p0) (sta p1) 200), .int (sta p1), .int 32, .int (itS st (ix p0) 8), .int (itS st (ix p0) 9), .int (itS st (ix p0) 10), .int (ceR g (ix p0)), .ref (g.1 8 (ix p0)), .ref (g.1 9 (ix p0))])) (kd_ne h_IL h_I rfl) h_IL
          have h_ID := mu_k (e := .inr (8, [.ref (g.1 5 (tbN st (ix p0))), .int (itS st (ix p0) 1), .int (sof (itS st (ix p0) 2)), .int (itS st (ix p0) 3), .int (itS st (ix p0) 7), .int (itS st (ix p0) 6), .int (itS st (ix p0) 5), .int (itS st (ix p0) 12), .int (lvl st (ix p0) (sta p1) 200), .int (sta p1), .int 32, .int (itS st (ix p0) 8), .int (itS st (ix p0) 9), .int (itS st (ix p0) 10), .int (ceR g (ix p0)), .ref (g.1 8 (ix p0)), .ref (g.1 9 (ix p0))])) (kd_ne h_ID h_I rfl) h_ID
          have h_T := mu_k (e := .inr (8, [.ref (g.1 5 (tbN st (ix p0))), .int (itS st (ix p0) 1), .int (sof (itS st (ix p0) 2)), .int (itS st (ix p0) 3), .int (itS st (ix p0) 7), .int (itS st (ix p0) 6), .int (itS st (ix p0) 5), .int (itS st (ix p0) 12), .int (lvl st (ix p0) (sta p1) 200), .int (sta p1), .int 32, .int (itS st (ix p0) 8), .int (itS st (ix p0) 9), .int (itS st (ix p0) 10), .int (ceR g (ix p0)), .ref (g.1 8 (ix p0)), .ref (g.1 9 (ix p0))])) (kd_ne h_T h_I rfl) h_T
          have h_B := mu_k (e := .inr (8, [.ref (g.1 5 (tbN st (ix p0))), .int (itS st (ix p0) 1), .int (sof (itS st (ix p0) 2)), .int (itS st (ix p0) 3), .int (itS st (ix p0) 7), .int (itS st (ix p0) 6), .int (itS st (ix p0) 5), .int (itS st (ix p0) 12), .int (lvl st (ix p0) (sta p1) 200), .int (sta p1), .int 32, .int (itS st (ix p0) 8), .int (itS st (ix p0) 9), .int (itS st (ix p0) 10), .int (ceR g (ix p0)), .ref (g.1 8 (ix p0)), .ref (g.1 9 (ix p0))])) (kd_ne h_B h_I rfl) h_B
          rw [mu_uu] at hP hI h_X h_TL h_IL h_ID h_T h_B
          have h_I : (mu (mu (mu (mu (mu Mw (g.1 0 0) (.inr (10, [.ref (g.1 1 0), .ref (g.1 2 0), .int (gS st 2), .int (gS st 3), .int (gS st 1), .int (gS st 0), .int 0]))) (g.1 0 0) (.inr (10, [.ref (g.1 1 0), .ref (g.1 2 0), .int (gS st 2), .int (gS st 3), .int (gS st 1), .int (gS st 0), .int 0]))) (g.1 0 0) (.inr (10, [.ref (g.1 1 0), .ref (g.1 2 0), .int (gS st 2), .int (gS st 3), .int (gS st 1), .int (gS st 0), .int 0]))) (g.1 0 0) (.inr (10, [.ref (g.1 1 0), .ref (g.1 2 0), .int (gS st 2), .int (gS st 3), .int (gS st 1), .int (gS st 0), .int 0]))) (g.1 7 (ix p0)) (.inr (8, [.ref (g.1 5 (tbN st (ix p0))), .int (itS st (ix p0) 1), .int (sof (itS st (ix p0) 2)), .int (itS st (ix p0) 3), .int (itS st (ix p0) 7), .int (itS st (ix p0) 6), .int (itS st (ix p0) 5), .int (itS st (ix p0) 12), .int (lvl st (ix p0) (sta p1) 200), .int (sta p1), .int 32, .int (itS st (ix p0) 8), .int (itS st (ix p0) 9), .int (itS st (ix p0) 10), .int (ceR g (ix p0)), .ref (g.1 8 (ix p0)), .ref (g.1 9 (ix p0))]))) (g.1 7 (ix p0)) = some (.inr (8, [.ref (g.1 5 (tbN st (ix p0))), .int (itS st (ix p0) 1), .int (sof (itS st (ix p0) 2)), .int (itS st (ix p0) 3), .int (itS st (ix p0) 7), .int (itS st (ix p0) 6), .int (itS st (ix p0) 5), .int (itS st (ix p0) 12), .int (lvl st (ix p0) (sta p1) 200), .int (sta p1), .int 32, .int (itS st (ix p0) 8), .int (itS st (ix p0) 9), .int (itS st (ix p0) 10), .int (ceR g (ix p0)), .ref (g.1 8 (ix p0)), .ref (g.1 9 (ix p0))])) := mu_s
          refine lv_iload hx hb dX7_steam_126 (lv_at hl 1 rfl) ?_
          refine W.widen (k := 0) (n := 0) (Nat.le_of_ble_eq_true rfl) (Nat.le_of_ble_eq_true rfl) ?_
          exact W.iret (v := sta p1) hx hb hr (fun t99 ht99 hW99 => ⟨⟨sta p1, (mu (mu (mu (mu (mu Mw (g.1 0 0) (.inr (10, [.ref (g.1 1 0), .ref (g.1 2 0), .int (gS st 2), .int (gS st 3), .int (gS st 1), .int (gS st 0), .int 0]))) (g.1 0 0) (.inr (10, [.ref (g.1 1 0), .ref (g.1 2 0), .int (gS st 2), .int (gS st 3), .int (gS st 1), .int (gS st 0), .int 0]))) (g.1 0 0) (.inr (10, [.ref (g.1 1 0), .ref (g.1 2 0), .int (gS st 2), .int (gS st 3), .int (gS st 1), .int (gS st 0), .int 0]))) (g.1 0 0) (.inr (10, [.ref (g.1 1 0), .ref (g.1 2 0), .int (gS st 2), .int (gS st 3), .int (gS st 1), .int (gS st 0), .int 0]))) (g.1 7 (ix p0)) (.inr (8, [.ref (g.1 5 (tbN st (ix p0))), .int (itS st (ix p0) 1), .int (sof (itS st (ix p0) 2)), .int (itS st (ix p0) 3), .int (itS st (ix p0) 7), .int (itS st (ix p0) 6), .int (itS st (ix p0) 5), .int (itS st (ix p0) 12), .int (lvl st (ix p0) (sta p1) 200), .int (sta p1), .int 32, .int (itS st (ix p0) 8), .int (itS st (ix p0) 9), .int (itS st (ix p0) 10), .int (ceR g (ix p0)), .ref (g.1 8 (ix p0)), .ref (g.1 9 (ix p0))]))), rfl, RP.ok (by unfold m_steam; first | (rw [chk_p hi9, chk_p hq_r3, chk_p hfi9, chk_p c11]; done) | (rw [chk_p hi9, chk_p hq_r3, chk_p hfi9, chk_p c11]; rfl)) (hR.io hi9.2 (gS st) (fu (fu (fu (itS st (ix p0)) 13 (lvl st (ix p0) (sta p1) 200)) 14 (sta p1)) 15 32) rfl (ceR g (ix p0)) 0 h_X h_I (fun x9 e9 hx9 h0 h1 => ((mu_n h1).trans ((mu_n h0).trans ((mu_n h0).trans ((mu_n h0).trans ((mu_n h0).trans (rfl)))))).trans hx9) ((hR.2.2.2.2 _ hi9.2).2.1)) rfl rfl, by rw [ht99]; exact hP, hI⟩, hS.F ht99⟩) hS.2.2 dX7_steam_128
        · skip
          refine lv_iconst (v := 1) hx hb dX7_steam_94 (by decide) ?_
          refine lv_goto (tgt := 99) hx hb dX7_steam_95 (by decide) ?_
          refine lv_iconst (v := 4) hx hb dX7_steam_99 (by decide) ?_
          refine m_calli (va_runV (As := [.int 1, .int 4]) (rest := []) ⟨hx, hb, hml, hown, hts⟩ (c_X7_isThrown1 l G A (mu (mu (mu Mw (g.1 0 0) (.inr (10, [.ref (g.1 1 0), .ref (g.1 2 0), .int (gS st 2), .int (gS st 3), .int (gS st 1), .int (gS st 0), .int 0]))) (g.1 0 0) (.inr (10, [.ref (g.1 1 0), .ref (g.1 2 0), .int (gS st 2), .int (gS st 3), .int (gS st 1), .int (gS st 0), .int 0]))) (g.1 0 0) (.inr (10, [.ref (g.1 1 0), .ref (g.1 2 0), .int (gS st 2), .int (gS st 3), .int (gS st 1), .int (gS st 0), .int 0])))  4 h_X) (cwV 2 hts gX7_steam_X7_isThrown rfl rfl rfl (by decide +kernel) ⟨Nat.le_of_ble_eq_true rfl, Nat.le_of_ble_eq_true rfl⟩) (mPreV hG hS hP hI hA (hP _ _ h_X) (r := (RX7, TX7, 7)) rfl) rfl rfl hl.1 rfl (lv_room (Nat.le_of_ble_eq_true rfl)) dX7_steam_100 ⟨Nat.le_of_ble_eq_true rfl, Nat.le_of_ble_eq_true rfl⟩) hS (fun r13 Mw1 H locs hp_r13 hP hI hS => ?_)
          obtain ⟨hp_r13, hm9⟩ := hp_r13
          subst Mw1
          subst hp_r13
          have h_TL := mu_k (e := .inr (10, [.ref (g.1 1 0), .ref (g.1 2 0), .int (gS st 2), .int (gS st 3), .int (gS st 1), .int (gS st 0), .int 4])) (kd_ne h_TL h_X rfl) h_TL
          have h_IL := mu_k (e := .inr (10, [.ref (g.1 1 0), .ref (g.1 2 0), .int (gS st 2), .int (gS st 3), .int (gS st 1), .int (gS st 0), .int 4])) (kd_ne h_IL h_X rfl) h_IL
          have h_ID := mu_k (e := .inr (10, [.ref (g.1 1 0), .ref (g.1 2 0), .int (gS st 2), .int (gS st 3), .int (gS st 1), .int (gS st 0), .int 4])) (kd_ne h_ID h_X rfl) h_ID
          have h_I := mu_k (e := .inr (10, [.ref (g.1 1 0), .ref (g.1 2 0), .int (gS st 2), .int (gS st 3), .int (gS st 1), .int (gS st 0), .int 4])) (kd_ne h_I h_X rfl) h_I
          have h_T := mu_k (e := .inr (10, [.ref (g.1 1 0), .ref (g.1 2 0), .int (gS st 2), .int (gS st 3), .int (gS st 1), .int (gS st 0), .int 4])) (kd_ne h_T h_X rfl) h_T
          have h_B := mu_k (e := .inr (10, [.ref (g.1 1 0), .ref (g.1 2 0), .int (gS st 2), .int (gS st 3), .int (gS st 1), .int (gS st 0), .int 4])) (kd_ne h_B h_X rfl) h_B
          have h_X : (mu (mu (mu (mu Mw (g.1 0 0) (.inr (10, [.ref (g.1 1 0), .ref (g.1 2 0), .int (gS st 2), .int (gS st 3), .int (gS st 1), .int (gS st 0), .int 0]))) (g.1 0 0) (.inr (10, [.ref (g.1 1 0), .ref (g.1 2 0), .int (gS st 2), .int (gS st 3), .int (gS st 1), .int (gS st 0), .int 0]))) (g.1 0 0) (.inr (10, [.ref (g.1 1 0), .ref (g.1 2 0), .int (gS st 2), .int (gS st 3), .int (gS st 1), .int (gS st 0), .int 0]))) (g.1 0 0) (.inr (10, [.ref (g.1 1 0), .ref (g.1 2 0), .int (gS st 2), .int (gS st 3), .int (gS st 1), .int (gS st 0), .int 4]))) (g.1 0 0) = some (.inr (10, [.ref (g.1 1 0), .ref (g.1 2 0), .int (gS st 2), .int (gS st 3), .int (gS st 1), .int (gS st 0), .int 4])) := mu_s
          refine lv_if_eq (tgt := 108) hx hb dX7_steam_103 (by decide) (fun h9 => absurd h9 (by decide)) (fun _ => ?_)
          refine lv_iconst (v := 0) hx hb dX7_steam_106 (by decide) ?_
          refine W.widen (k := 0) (n := 0) (Nat.le_of_ble_eq_true rfl) (Nat.le_of_ble_eq_true rfl) ?_
          exact W.iret (v := 0) hx hb hr (fun t99 ht99 hW99 => ⟨⟨0, (mu (mu (mu (mu Mw (g.1 0 0) (.inr (10, [.ref (g.1 1 0), .ref (g.1 2 0), .int (gS st 2), .int (gS st 3), .int (gS st 1), .int (gS st 0), .int 0]))) (g.1 0 0) (.inr (10, [.ref (g.1 1 0), .ref (g.1 2 0), .int (gS st 2), .int (gS st 3), .int (gS st 1), .int (gS st 0), .int 0]))) (g.1 0 0) (.inr (10, [.ref (g.1 1 0), .ref (g.1 2 0), .int (gS st 2), .int (gS st 3), .int (gS st 1), .int (gS st 0), .int 0]))) (g.1 0 0) (.inr (10, [.ref (g.1 1 0), .ref (g.1 2 0), .int (gS st 2), .int (gS st 3), .int (gS st 1), .int (gS st 0), .int 4]))), rfl, RP.no (k := 4) (by unfold m_steam; first | (rw [chk_p hi9, chk_p hq_r3, chk_p hfi9, chk_n (fun q9 => q9 c11)]; done) | (rw [chk_p hi9, chk_p hq_r3, chk_p hfi9, chk_n (fun q9 => q9 c11)]; rfl)) (by decide) (hR.th 4 h_X (fun x9 e9 hx9 h0 => ((mu_n h0).trans ((mu_n h0).trans ((mu_n h0).trans ((mu_n h0).trans (rfl))))).trans hx9)) rfl rfl, by rw [ht99]; exact hP, hI⟩, hS.F ht99⟩) hS.2.2 dX7_steam_107
      · subst hr9
        refine lv_iconst (v := 3) hx hb dX7_steam_45 (by decide) ?_
        refine m_calli (va_runV (As := [.int 1, .int 3]) (rest := []) ⟨hx, hb, hml, hown, hts⟩ (c_X7_isThrown1 l G A (mu (mu Mw (g.1 0 0) (.inr (10, [.ref (g.1 1 0), .ref (g.1 2 0), .int (gS st 2), .int (gS st 3), .int (gS st 1), .int (gS st 0), .int 0]))) (g.1 0 0) (.inr (10, [.ref (g.1 1 0), .ref (g.1 2 0), .int (gS st 2), .int (gS st 3), .int (gS st 1), .int (gS st 0), .int 0])))  3 h_X) (cwV 2 hts gX7_steam_X7_isThrown rfl rfl rfl (by decide +kernel) ⟨Nat.le_of_ble_eq_true rfl, Nat.le_of_ble_eq_true rfl⟩) (mPreV hG hS hP hI hA (hP _ _ h_X) (r := (RX7, TX7, 7)) rfl) rfl rfl hl.1 rfl (lv_room (Nat.le_of_ble_eq_true rfl)) dX7_steam_46 ⟨Nat.le_of_ble_eq_true rfl, Nat.le_of_ble_eq_true rfl⟩) hS (fun r14 Mw1 H locs hp_r14 hP hI hS => ?_)
        obtain ⟨hp_r14, hm9⟩ := hp_r14
        subst Mw1
        subst hp_r14
        have h_TL := mu_k (e := .inr (10, [.ref (g.1 1 0), .ref (g.1 2 0), .int (gS st 2), .int (gS st 3), .int (gS st 1), .int (gS st 0), .int 3])) (kd_ne h_TL h_X rfl) h_TL
        have h_IL := mu_k (e := .inr (10, [.ref (g.1 1 0), .ref (g.1 2 0), .int (gS st 2), .int (gS st 3), .int (gS st 1), .int (gS st 0), .int 3])) (kd_ne h_IL h_X rfl) h_IL
        have h_ID := mu_k (e := .inr (10, [.ref (g.1 1 0), .ref (g.1 2 0), .int (gS st 2), .int (gS st 3), .int (gS st 1), .int (gS st 0), .int 3])) (kd_ne h_ID h_X rfl) h_ID
        have h_I := mu_k (e := .inr (10, [.ref (g.1 1 0), .ref (g.1 2 0), .int (gS st 2), .int (gS st 3), .int (gS st 1), .int (gS st 0), .int 3])) (kd_ne h_I h_X rfl) h_I
        have h_T := mu_k (e := .inr (10, [.ref (g.1 1 0), .ref (g.1 2 0), .int (gS st 2), .int (gS st 3), .int (gS st 1), .int (gS st 0), .int 3])) (kd_ne h_T h_X rfl) h_T
        have h_B := mu_k (e := .inr (10, [.ref (g.1 1 0), .ref (g.1 2 0), .int (gS st 2), .int (gS st 3), .int (gS st 1), .int (gS st 0), .int 3])) (kd_ne h_B h_X rfl) h_B
        have h_X : (mu (mu (mu Mw (g.1 0 0) (.inr (10, [.ref (g.1 1 0), .ref (g.1 2 0), .int (gS st 2), .int (gS st 3), .int (gS st 1), .int (gS st 0), .int 0]))) (g.1 0 0) (.inr (10, [.ref (g.1 1 0), .ref (g.1 2 0), .int (gS st 2), .int (gS st 3), .int (gS st 1), .int (gS st 0), .int 0]))) (g.1 0 0) (.inr (10, [.ref (g.1 1 0), .ref (g.1 2 0), .int (gS st 2), .int (gS st 3), .int (gS st 1), .int (gS st 0), .int 3]))) (g.1 0 0) = some (.inr (10, [.ref (g.1 1 0), .ref (g.1 2 0), .int (gS st 2), .int (gS st 3), .int (gS st 1), .int (gS st 0), .int 3])) := mu_s
        refine lv_if_eq (tgt := 54) hx hb dX7_steam_49 (by decide) (fun h9 => absurd h9 (by decide)) (fun _ => ?_)
        refine lv_iconst (v := 0) hx hb dX7_steam_52 (by decide) ?_
        refine W.widen (k := 0) (n := 0) (Nat.le_of_ble_eq_true rfl) (Nat.le_of_ble_eq_true rfl) ?_
        exact W.iret (v := 0) hx hb hr (fun t99 ht99 hW99 => ⟨⟨0, (mu (mu (mu Mw (g.1 0 0) (.inr (10, [.ref (g.1 1 0), .ref (g.1 2 0), .int (gS st 2), .int (gS st 3), .int (gS st 1), .int (gS st 0), .int 0]))) (g.1 0 0) (.inr (10, [.ref (g.1 1 0), .ref (g.1 2 0), .int (gS st 2), .int (gS st 3), .int (gS st 1), .int (gS st 0), .int 0]))) (g.1 0 0) (.inr (10, [.ref (g.1 1 0), .ref (g.1 2 0), .int (gS st 2), .int (gS st 3), .int (gS st 1), .int (gS st 0), .int 3]))), rfl, RP.no (k := 3) (by unfold m_steam; first | (rw [chk_p hi9, chk_p hq_r3, chk_n (fun q9 => q9 ((hV.fil hi9.2).mp hq_r6))]; done) | (rw [chk_p hi9, chk_p hq_r3, chk_n (fun q9 => q9 ((hV.fil hi9.2).mp hq_r6))]; rfl)) (by decide) (hR.th 3 h_X (fun x9 e9 hx9 h0 => ((mu_n h0).trans ((mu_n h0).trans ((mu_n h0).trans (rfl)))).trans hx9)) rfl rfl, by rw [ht99]; exact hP, hI⟩, hS.F ht99⟩) hS.2.2 dX7_steam_53
  · subst hr9
    refine lv_iconst (v := 1) hx hb dX7_steam_6 (by decide) ?_
    refine m_calli (va_runV (As := [.int 1, .int 1]) (rest := []) ⟨hx, hb, hml, hown, hts⟩ (c_X7_isThrown1 l G A Mw  1 h_X) (cwV 2 hts gX7_steam_X7_isThrown rfl rfl rfl (by decide +kernel) ⟨Nat.le_of_ble_eq_true rfl, Nat.le_of_ble_eq_true rfl⟩) (mPreV hG hS hP hI hA (hP _ _ h_X) (r := (RX7, TX7, 7)) rfl) rfl rfl hl.1 rfl (lv_room (Nat.le_of_ble_eq_true rfl)) dX7_steam_7 ⟨Nat.le_of_ble_eq_true rfl, Nat.le_of_ble_eq_true rfl⟩) hS (fun r15 Mw1 H locs hp_r15 hP hI hS => ?_)
    obtain ⟨hp_r15, hm9⟩ := hp_r15
    subst Mw1
    subst hp_r15
    have h_TL := mu_k (e := .inr (10, [.ref (g.1 1 0), .ref (g.1 2 0), .int (gS st 2), .int (gS st 3), .int (gS st 1), .int (gS st 0), .int 1])) (kd_ne h_TL h_X rfl) h_TL
    have h_IL := mu_k (e := .inr (10, [.ref (g.1 1 0), .ref (g.1 2 0), .int (gS st 2), .int (gS st 3), .int (gS st 1), .int (gS st 0), .int 1])) (kd_ne h_IL h_X rfl) h_IL
    have h_X : (mu Mw (g.1 0 0) (.inr (10, [.ref (g.1 1 0), .ref (g.1 2 0), .int (gS st 2), .int (gS st 3), .int (gS st 1), .int (gS st 0), .int 1]))) (g.1 0 0) = some (.inr (10, [.ref (g.1 1 0), .ref (g.1 2 0), .int (gS st 2), .int (gS st 3), .int (gS st 1), .int (gS st 0), .int 1])) := mu_s
    refine lv_if_ne (tgt := 52) hx hb dX7_steam_10 (by decide) (fun _ => ?_) (fun h9 => absurd h9 (by decide))
    refine lv_iconst (v := 0) hx hb dX7_steam_52 (by decide) ?_
    refine W.widen (k := 0) (n := 0) (Nat.le_of_ble_eq_true rfl) (Nat.le_of_ble_eq_true rfl) ?_
    exact W.iret (v := 0) hx hb hr (fun t99 ht99 hW99 => ⟨⟨0, (mu Mw (g.1 0 0) (.inr (10, [.ref (g.1 1 0), .ref (g.1 2 0), .int (gS st 2), .int (gS st 3), .int (gS st 1), .int (gS st 0), .int 1]))), rfl, RP.no (k := 1) (by unfold m_steam; first | (rw [chk_n hq_r1]; done) | (rw [chk_n hq_r1]; rfl)) (by decide) (hR.th 1 h_X (fun x9 e9 hx9 h0 => ((mu_n h0).trans (rfl)).trans hx9)) rfl rfl, by rw [ht99]; exact hP, hI⟩, hS.F ht99⟩) hS.2.2 dX7_steam_53

set_option maxHeartbeats 4000000 in
set_option maxRecDepth 100000 in
theorem c_X7_divide (l : Launch) (G : mg) (A : Nat → Prop) (Mw : mw) (st : St) (g : gR) (p0 p1 : Int32) (hR : RS G st g Mw) (hV : Inv st) : Met l yX7_divide wsX7_divide ({ frames := 4, cells := 0, slots := 0, locals := 85 }) (va_Pc [.ref (g.1 0 0), .int p0, .int p1] (mB G A Mw)) (va_Qi (fun r Mw1 => RP G (m_divide st p0 p1) g r Mw1) (mE G A) A) 0 0 A := by
  refine Met.ofW (cc := cX7_divide) (maxL := 4) (ret := (some .int)) (by decide) rfl ?_
  intro p e s m args below meth c s₁ B hml hv
  obtain ⟨rfl, hG, hP, hI, hA⟩ := hv
  have hx := B.exec
  have hb := B.bytes
  have hr := B.returns
  have hts := atoms_spec (ws := wsX7_divide) B.pre
  have hown : s.vm.findClass RX7 = some m.cls := findClass_of_methodNamed B.named
  have hlocks := B.notSynchronized
  have hK := hG.K
  have i_X5 : ∀ w ∈ wsX50, w ∈ wsX7_divide := by decide +kernel
  have i_X7 : ∀ w ∈ wsX70, w ∈ wsX7_divide := by decide +kernel
  have hS : va_S A s.heap s.heap [] := va_S.rf
  have hl := lv_entry ([.ref (g.1 0 0), .int p0, .int p1]) (n := 4) (Nat.le_of_ble_eq_true rfl)
  rw [lg_entry_eq]
  generalize (lg_sl ([.ref (g.1 0 0), .int p0, .int p1]) ++ List.replicate (4 - (lg_sl ([.ref (g.1 0 0), .int p0, .int p1])).length) Slot.unset).toArray = ls at hl ⊢
  have hl : lv_has ls 4 [(0, .ref (g.1 0 0)), (1, .int p0), (2, .int p1)] := hl
  have hP : mP G.1 Mw s.heap := hP
  have h_X : Mw (g.1 0 0) = some (.inr (10, [.ref (g.1 1 0), .ref (g.1 2 0), .int (gS st 2), .int (gS st 3), .int (gS st 1), .int (gS st 0), .int (thR g)])) := hR.1 0 0 ro0
  have h_TL : Mw (g.1 1 0) = some (.inr (2, [.int (mcR g 1 0), .ref (g.1 3 0), .int ((nI (nT st)))])) := hR.1 1 0 ro1
  have h_IL : Mw (g.1 2 0) = some (.inr (2, [.int (mcR g 2 0), .ref (g.1 4 0), .int ((nI (nN st)))])) := hR.1 2 0 ro2
  have hti9 := hR.ne ro1 ro2 (by omega)
  have hnT8 := hV.1.1
  have hnN8 := Nat.le_trans hV.1.2 (show 6 ≤ 8 by decide)
  refine lv_aload_n hx hb dX7_divide_0 rfl (lv_at hl 0 rfl) ?_
  refine lv_aload_n hx hb dX7_divide_1 rfl (lv_at hl 0 rfl) ?_
  refine lv_iload_n hx hb dX7_divide_2 rfl (lv_at hl 1 rfl) ?_
  refine m_calli (va_runV (As := [.int p0]) (rest := [.ref (g.1 0 0)]) ⟨hx, hb, hml, hown, hts⟩ (c_X7_isNone l G A Mw  p0 h_X h_IL hnN8) (cwV 1 hts gX7_divide_X7_isNone rfl rfl rfl (by decide +kernel) ⟨Nat.le_of_ble_eq_true rfl, Nat.le_of_ble_eq_true rfl⟩) (mPreV hG hS hP hI hA (hP _ _ h_X) (r := (RX7, TX7, 7)) rfl) rfl rfl hl.1 rfl (lv_room (Nat.le_of_ble_eq_true rfl)) dX7_divide_3 ⟨Nat.le_of_ble_eq_true rfl, Nat.le_of_ble_eq_true rfl⟩) hS (fun r1 Mw1 H locs hp_r1 hP hI hS => ?_)
  obtain ⟨hb9, hm9⟩ := hp_r1
  subst Mw1
  rcases hb9 with ⟨hr9, hq_r1⟩ | ⟨hr9, hq_r1⟩
  · subst hr9
    have hi9 := hq_r1
    have e_p0 : p0 = nI (ix p0) := nI_cl hi9.1
    rw [e_p0] at hl
    have hf4 := hR.f4 hi9.2
    have h_ID : Mw (g.1 4 0) = some (.inl (G.2.1 5, 10, .inr (.inr (.inr (.inr (qf (nN st) (g.1 7))))))) := hR.1 4 0 (ro4 hf4)
    have h_I : Mw (g.1 7 (ix p0)) = some (.inr (8, [.ref (g.1 5 (tbN st (ix p0))), .int (itS st (ix p0) 1), .int (sof (itS st (ix p0) 2)), .int (itS st (ix p0) 3), .int (itS st (ix p0) 7), .int (itS st (ix p0) 6), .int (itS st (ix p0) 5), .int (itS st (ix p0) 12), .int (itS st (ix p0) 13), .int (itS st (ix p0) 14), .int (itS st (ix p0) 15), .int (itS st (ix p0) 8), .int (itS st (ix p0) 9), .int (itS st (ix p0) 10), .int (ceR g (ix p0)), .ref (g.1 8 (ix p0)), .ref (g.1 9 (ix p0))])) := hR.1 7 _ (ro7 hi9.2)
    refine lv_iconst (v := 1) hx hb dX7_divide_6 (by decide) ?_
    refine m_calli (va_runV (As := [.int 0, .int 1]) (rest := []) ⟨hx, hb, hml, hown, hts⟩ (c_X7_isThrown0 l G A Mw  1 h_X) (cwV 2 hts gX7_divide_X7_isThrown rfl rfl rfl (by decide +kernel) ⟨Nat.le_of_ble_eq_true rfl, Nat.le_of_ble_eq_true rfl⟩) (mPreV hG hS hP hI hA (hP _ _ h_X) (r := (RX7, TX7, 7)) rfl) rfl rfl hl.1 rfl (lv_room (Nat.le_of_ble_eq_true rfl)) dX7_divide_7 ⟨Nat.le_of_ble_eq_true rfl, Nat.le_of_ble_eq_true rfl⟩) hS (fun r2 Mw1 H locs hp_r2 hP hI hS => ?_)
    obtain ⟨hp_r2, hm9⟩ := hp_r2
    subst Mw1
    subst hp_r2
    have h_TL := mu_k (e := .inr (10, [.ref (g.1 1 0), .ref (g.1 2 0), .int (gS st 2), .int (gS st 3), .int (gS st 1), .int (gS st 0), .int 0])) (kd_ne h_TL h_X rfl) h_TL
    have h_IL := mu_k (e := .inr (10, [.ref (g.1 1 0), .ref (g.1 2 0), .int (gS st 2), .int (gS st 3), .int (gS st 1), .int (gS st 0), .int 0])) (kd_ne h_IL h_X rfl) h_IL
    have h_ID := mu_k (e := .inr (10, [.ref (g.1 1 0), .ref (g.1 2 0), .int (gS st 2), .int (gS st 3), .int (gS st 1), .int (gS st 0), .int 0])) (kd_ne h_ID h_X rfl) h_ID
    have h_I := mu_k (e := .inr (10, [.ref (g.1 1 0), .ref (g.1 2 0), .int (gS st 2), .int (gS st 3), .int (gS st 1), .int (gS st 0), .int 0])) (kd_ne h_I h_X rfl) h_I
    have h_X : (mu Mw (g.1 0 0) (.inr (10, [.ref (g.1 1 0), .ref (g.1 2 0), .int (gS st 2), .int (gS st 3), .int (gS st 1), .int (gS st 0), .int 0]))) (g.1 0 0) = some (.inr (10, [.ref (g.1 1 0), .ref (g.1 2 0), .int (gS st 2), .int (gS st 3), .int (gS st 1), .int (gS st 0), .int 0])) := mu_s
    refine lv_if_ne (tgt := 38) hx hb dX7_divide_10 (by decide) (fun h9 => absurd h9 (by decide)) (fun _ => ?_)
    refine lv_aload_n hx hb dX7_divide_13 rfl (lv_at hl 0 rfl) ?_
    refine lv_iload_n hx hb dX7_divide_14 rfl (lv_at hl 2 rfl) ?_
    refine lv_bipush (v := (108)) hx hb dX7_divide_15 (by decide) ?_
    refine lv_icmp_eq (tgt := 30) hx hb dX7_divide_17 (by decide) (fun c3 => ?_) (fun c3 => ?_)
    · skip
      refine lv_iconst (v := 0) hx hb dX7_divide_30 (by decide) ?_
      refine lv_iconst (v := 2) hx hb dX7_divide_31 (by decide) ?_
      refine m_calli (va_runV (As := [.int 0, .int 2]) (rest := []) ⟨hx, hb, hml, hown, hts⟩ (c_X7_isThrown0 l G A (mu Mw (g.1 0 0) (.inr (10, [.ref (g.1 1 0), .ref (g.1 2 0), .int (gS st 2), .int (gS st 3), .int (gS st 1), .int (gS st 0), .int 0])))  2 h_X) (cwV 2 hts gX7_divide_X7_isThrown rfl rfl rfl (by decide +kernel) ⟨Nat.le_of_ble_eq_true rfl, Nat.le_of_ble_eq_true rfl⟩) (mPreV hG hS hP hI hA (hP _ _ h_X) (r := (RX7, TX7, 7)) rfl) rfl rfl hl.1 rfl (lv_room (Nat.le_of_ble_eq_true rfl)) dX7_divide_32 ⟨Nat.le_of_ble_eq_true rfl, Nat.le_of_ble_eq_true rfl⟩) hS (fun r4 Mw1 H locs hp_r4 hP hI hS => ?_)
      obtain ⟨hp_r4, hm9⟩ := hp_r4
      subst Mw1
      subst hp_r4
      have h_TL := mu_k (e := .inr (10, [.ref (g.1 1 0), .ref (g.1 2 0), .int (gS st 2), .int (gS st 3), .int (gS st 1), .int (gS st 0), .int 0])) (kd_ne h_TL h_X rfl) h_TL
      have h_IL := mu_k (e := .inr (10, [.ref (g.1 1 0), .ref (g.1 2 0), .int (gS st 2), .int (gS st 3), .int (gS st 1), .int (gS st 0), .int 0])) (kd_ne h_IL h_X rfl) h_IL
      have h_ID := mu_k (e := .inr (10, [.ref (g.1 1 0), .ref (g.1 2 0), .int (gS st 2), .int (gS st 3), .int (gS st 1), .int (gS st 0), .int 0])) (kd_ne h_ID h_X rfl) h_ID
      have h_I := mu_k (e := .inr (10, [.ref (g.1 1 0), .ref (g.1 2 0), .int (gS st 2), .int (gS st 3), .int (gS st 1), .int (gS st 0), .int 0])) (kd_ne h_I h_X rfl) h_I
      have h_X : (mu (mu Mw (g.1 0 0) (.inr (10, [.ref (g.1 1 0), .ref (g.1 2 0), .int (gS st 2), .int (gS st 3), .int (gS st 1), .int (gS st 0), .int 0]))) (g.1 0 0) (.inr (10, [.ref (g.1 1 0), .ref (g.1 2 0), .int (gS st 2), .int (gS st 3), .int (gS st 1), .int (gS st 0), .int 0]))) (g.1 0 0) = some (.inr (10, [.ref (g.1 1 0), .ref (g.1 2 0), .int (gS st 2), .int (gS st 3), .int (gS st 1), .int (gS st 0), .int 0])) := mu_s
      refine lv_if_eq (tgt := 40) hx hb dX7_divide_35 (by decide) (fun _ => ?_) (fun h9 => absurd h9 (by decide))
      refine lv_aload_n hx hb dX7_divide_40 rfl (lv_at hl 0 rfl) ?_
      refine m_get (ci := 10) (v := .ref (g.1 2 0)) (C := RX7) (T := TX7) (N := 7) hx hb hts i_X7 hown hK (hP _ _ h_X) rfl 1 (by decide) (hts (.fieldLink RX7 16 "MeniscusModel" "instruments" "Ljava/util/ArrayList;") (by decide +kernel)) (fun _ h9 => h9) rfl dX7_divide_41 ?_
      refine lv_iload_n hx hb dX7_divide_44 rfl (lv_at hl 1 rfl) ?_
      refine m_callq (va_runV (As := [.int (nI (ix p0))]) (rest := []) ⟨hx, hb, hml, hown, hts⟩ (c_Jx4a65c_get_915e3 l G A (mu (mu Mw (g.1 0 0) (.inr (10, [.ref (g.1 1 0), .ref (g.1 2 0), .int (gS st 2), .int (gS st 3), .int (gS st 1), .int (gS st 0), .int 0]))) (g.1 0 0) (.inr (10, [.ref (g.1 1 0), .ref (g.1 2 0), .int (gS st 2), .int (gS st 3), .int (gS st 1), .int (gS st 0), .int 0])))  h_IL h_ID (ix p0) (g.1 7 (ix p0)) hi9.2 hnN8 (qf_p hi9.2)) (cwV 1 hts gX7_divide_Jx4a65c_get_915e3 rfl rfl rfl (by decide +kernel) ⟨Nat.le_of_ble_eq_true rfl, Nat.le_of_ble_eq_true rfl⟩) (mPreV hG hS hP hI hA (hP _ _ h_IL) (r := (RJx4a65c, TJx4a65c, 3)) rfl) rfl rfl hl.1 rfl (lv_room (Nat.le_of_ble_eq_true rfl)) dX7_divide_45 ⟨Nat.le_of_ble_eq_true rfl, Nat.le_of_ble_eq_true rfl⟩) hS (fun r5 Mw1 H locs hp_r5 hP hI hS => ?_)
      obtain ⟨hp_r5, hm9⟩ := hp_r5
      subst Mw1
      subst hp_r5
      refine va_castE hx hb hown (hts (.classLink RX7 79 RX5) (by decide +kernel)) (va_recv hK (va_at.one (hP _ _ h_I)) (q0 := 0) (q := (RX5, TX5, 17)) rfl rfl) dX7_divide_48 ?_
      refine lv_astore_n (lv' := [(3, .ref (g.1 7 (ix p0))), (0, .ref (g.1 0 0)), (1, .int (nI (ix p0))), (2, .int p1)]) hx hb dX7_divide_51 rfl hl (by decide) rfl (fun ls hl => ?_)
      refine lv_aload_n hx hb dX7_divide_52 rfl (lv_at hl 1 rfl) ?_
      refine lv_aload_n hx hb dX7_divide_53 rfl (lv_at hl 1 rfl) ?_
      refine lv_iload_n hx hb dX7_divide_54 rfl (lv_at hl 2 rfl) ?_
      refine m_calli (va_runV (As := [.int (nI (ix p0))]) (rest := [.ref (g.1 0 0)]) ⟨hx, hb, hml, hown, hts⟩ (c_X7_isEmpty l G A (mu (mu Mw (g.1 0 0) (.inr (10, [.ref (g.1 1 0), .ref (g.1 2 0), .int (gS st 2), .int (gS st 3), .int (gS st 1), .int (gS st 0), .int 0]))) (g.1 0 0) (.inr (10, [.ref (g.1 1 0), .ref (g.1 2 0), .int (gS st 2), .int (gS st 3), .int (gS st 1), .int (gS st 0), .int 0])))  h_X h_IL hnN8 h_ID h_I (ix p0) hi9.2 (qf_p hi9.2)) (cwV 1 hts gX7_divide_X7_isEmpty rfl rfl rfl (by decide +kernel) ⟨Nat.le_of_ble_eq_true rfl, Nat.le_of_ble_eq_true rfl⟩) (mPreV hG hS hP hI hA (hP _ _ h_X) (r := (RX7, TX7, 7)) rfl) rfl rfl hl.1 rfl (lv_room (Nat.le_of_ble_eq_true rfl)) dX7_divide_55 ⟨Nat.le_of_ble_eq_true rfl, Nat.le_of_ble_eq_true rfl⟩) hS (fun r6 Mw1 H locs hp_r6 hP hI hS => ?_)
      obtain ⟨hb9, hm9⟩ := hp_r6
      subst Mw1
      rcases hb9 with ⟨hr9, hq_r6⟩ | ⟨hr9, hq_r6⟩
      · subst hr9
        have hfi9 : ¬ itS st (ix p0) 4 = 0 := fun q9 => hq_r6 ((hV.fil hi9.2).mpr q9)
        refine lv_if_ne (tgt := 88) hx hb dX7_divide_58 (by decide) (fun h9 => absurd h9 (by decide)) (fun _ => ?_)
        refine lv_aload_n hx hb dX7_divide_61 rfl (lv_at hl 0 rfl) ?_
        refine m_getN (ci := 8) (v := .int (itS st (ix p0) 12)) (C := RX5) (T := TX5) (N := 17) hx hb hts i_X5 hown hK (hP _ _ h_I) rfl 7 (by decide) (va_Nw.use rfl (hG.2.1.2.1 ("MeniscusModel", 149, "MeniscusModel$Instrument", "ice", "I", "MeniscusModel") (by decide +kernel))) (fun _ h9 => h9) rfl dX7_divide_62 ?_
        refine lv_iconst (v := (-1)) hx hb dX7_divide_65 (by decide) ?_
        refine lv_icmp_eq (tgt := 88) hx hb dX7_divide_66 (by decide) (fun c7 => ?_) (fun c7 => ?_)
        · skip
          refine lv_iconst (v := 1) hx hb dX7_divide_88 (by decide) ?_
          refine lv_goto (tgt := 93) hx hb dX7_divide_89 (by decide) ?_
          refine lv_iconst (v := 3) hx hb dX7_divide_93 (by decide) ?_
          refine m_calli (va_runV (As := [.int 1, .int 3]) (rest := []) ⟨hx, hb, hml, hown, hts⟩ (c_X7_isThrown1 l G A (mu (mu Mw (g.1 0 0) (.inr (10, [.ref (g.1 1 0), .ref (g.1 2 0), .int (gS st 2), .int (gS st 3), .int (gS st 1), .int (gS st 0), .int 0]))) (g.1 0 0) (.inr (10, [.ref (g.1 1 0), .ref (g.1 2 0), .int (gS st 2), .int (gS st 3), .int (gS st 1), .int (gS st 0), .int 0])))  3 h_X) (cwV 2 hts gX7_divide_X7_isThrown rfl rfl rfl (by decide +kernel) ⟨Nat.le_of_ble_eq_true rfl, Nat.le_of_ble_eq_true rfl⟩) (mPreV hG hS hP hI hA (hP _ _ h_X) (r := (RX7, TX7, 7)) rfl) rfl rfl hl.1 rfl (lv_room (Nat.le_of_ble_eq_true rfl)) dX7_divide_94 ⟨Nat.le_of_ble_eq_true rfl, Nat.le_of_ble_eq_true rfl⟩) hS (fun r8 Mw1 H locs hp_r8 hP hI hS => ?_)
          obtain ⟨hp_r8, hm9⟩ := hp_r8
          subst Mw1
          subst hp_r8
          have h_TL := mu_k (e := .inr (10, [.ref (g.1 1 0), .ref (g.1 2 0), .int (gS st 2), .int (gS st 3), .int (gS st 1), .int (gS st 0), .int 3])) (kd_ne h_TL h_X rfl) h_TL
          have h_IL := mu_k (e := .inr (10, [.ref (g.1 1 0), .ref (g.1 2 0), .int (gS st 2), .int (gS st 3), .int (gS st 1), .int (gS st 0), .int 3])) (kd_ne h_IL h_X rfl) h_IL
          have h_ID := mu_k (e := .inr (10, [.ref (g.1 1 0), .ref (g.1 2 0), .int (gS st 2), .int (gS st 3), .int (gS st 1), .int (gS st 0), .int 3])) (kd_ne h_ID h_X rfl) h_ID
          have h_I := mu_k (e := .inr (10, [.ref (g.1 1 0), .ref (g.1 2 0), .int (gS st 2), .int (gS st 3), .int (gS st 1), .int (gS st 0), .int 3])) (kd_ne h_I h_X rfl) h_I
          have h_X : (mu (mu (mu Mw (g.1 0 0) (.inr (10, [.ref (g.1 1 0), .ref (g.1 2 0), .int (gS st 2), .int (gS st 3), .int (gS st 1), .int (gS st 0), .int 0]))) (g.1 0 0) (.inr (10, [.ref (g.1 1 0), .ref (g.1 2 0), .int (gS st 2), .int (gS st 3), .int (gS st 1), .int (gS st 0), .int 0]))) (g.1 0 0) (.inr (10, [.ref (g.1 1 0), .ref (g.1 2 0), .int (gS st 2), .int (gS st 3), .int (gS st 1), .int (gS st 0), .int 3]))) (g.1 0 0) = some (.inr (10, [.ref (g.1 1 0), .ref (g.1 2 0), .int (gS st 2), .int (gS st 3), .int (gS st 1), .int (gS st 0), .int 3])) := mu_s
          refine lv_if_eq (tgt := 102) hx hb dX7_divide_97 (by decide) (fun h9 => absurd h9 (by decide)) (fun _ => ?_)
          refine lv_iconst (v := 0) hx hb dX7_divide_100 (by decide) ?_
          refine W.widen (k := 0) (n := 0) (Nat.le_of_ble_eq_true rfl) (Nat.le_of_ble_eq_true rfl) ?_
          exact W.iret (v := 0) hx hb hr (fun t99 ht99 hW99 => ⟨⟨0, (mu (mu (mu Mw (g.1 0 0) (.inr (10, [.ref (g.1 1 0), .ref (g.1 2 0), .int (gS st 2), .int (gS st 3), .int (gS st 1), .int (gS st 0), .int 0]))) (g.1 0 0) (.inr (10, [.ref (g.1 1 0), .ref (g.1 2 0), .int (gS st 2), .int (gS st 3), .int (gS st 1), .int (gS st 0), .int 0]))) (g.1 0 0) (.inr (10, [.ref (g.1 1 0), .ref (g.1 2 0), .int (gS st 2), .int (gS st 3), .int (gS st 1), .int (gS st 0), .int 3]))), rfl, RP.no (k := 3) (by unfold m_divide; first | (rw [chk_p hi9, chk_p (show eith p1 108 118 from Or.inl c3), chk_p hfi9, chk_n (fun q9 => q9 (unl_1 c7))]; done) | (rw [chk_p hi9, chk_p (show eith p1 108 118 from Or.inl c3), chk_p hfi9, chk_n (fun q9 => q9 (unl_1 c7))]; rfl)) (by decide) (hR.th 3 h_X (fun x9 e9 hx9 h0 => ((mu_n h0).trans ((mu_n h0).trans ((mu_n h0).trans (rfl)))).trans hx9)) rfl rfl, by rw [ht99]; exact hP, hI⟩, hS.F ht99⟩) hS.2.2 dX7_divide_101
        · skip
          refine lv_aload_n hx hb dX7_divide_69 rfl (lv_at hl 0 rfl) ?_
          refine m_getN (ci := 8) (v := .int (itS st (ix p0) 13)) (C := RX5) (T := TX5) (N := 17) hx hb hts i_X5 hown hK (hP _ _ h_I) rfl 8 (by decide) (va_Nw.use rfl (hG.2.1.2.1 ("MeniscusModel", 158, "MeniscusModel$Instrument", "steam", "I", "MeniscusModel") (by decide +kernel))) (fun _ h9 => h9) rfl dX7_divide_70 ?_
          refine lv_iconst (v := (-1)) hx hb dX7_divide_73 (by decide) ?_
          refine lv_icmp_eq (tgt := 88) hx hb dX7_divide_74 (by decide) (fun c9 => ?_) (fun c9 => ?_)
          · skip
            refine lv_iconst (v := 1) hx hb dX7_divide_88 (by decide) ?_
            refine lv_goto (tgt := 93) hx hb dX7_divide_89 (by decide) ?_
            refine lv_iconst (v := 3) hx hb dX7_divide_93 (by decide) ?_
            refine m_calli (va_runV (As := [.int 1, .int 3]) (rest := []) ⟨hx, hb, hml, hown, hts⟩ (c_X7_isThrown1 l G A (mu (mu Mw (g.1 0 0) (.inr (10, [.ref (g.1 1 0), .ref (g.1 2 0), .int (gS st 2), .int (gS st 3), .int (gS st 1), .int (gS st 0), .int 0]))) (g.1 0 0) (.inr (10, [.ref (g.1 1 0), .ref (g.1 2 0), .int (gS st 2), .int (gS st 3), .int (gS st 1), .int (gS st 0), .int 0])))  3 h_X) (cwV 2 hts gX7_divide_X7_isThrown rfl rfl rfl (by decide +kernel) ⟨Nat.le_of_ble_eq_true rfl, Nat.le_of_ble_eq_true rfl⟩) (mPreV hG hS hP hI hA (hP _ _ h_X) (r := (RX7, TX7, 7)) rfl) rfl rfl hl.1 rfl (lv_room (Nat.le_of_ble_eq_true rfl)) dX7_divide_94 ⟨Nat.le_of_ble_eq_true rfl, Nat.le_of_ble_eq_true rfl⟩) hS (fun r10 Mw1 H locs hp_r10 hP hI hS => ?_)
            obtain ⟨hp_r10, hm9⟩ := hp_r10
            subst Mw1
            subst hp_r10
            have h_TL := mu_k (e := .inr (10, [.ref (g.1 1 0), .ref (g.1 2 0), .int (gS st 2), .int (gS st 3), .int (gS st 1), .int (gS st 0), .int 3])) (kd_ne h_TL h_X rfl) h_TL
            have h_IL := mu_k (e := .inr (10, [.ref (g.1 1 0), .ref (g.1 2 0), .int (gS st 2), .int (gS st 3), .int (gS st 1), .int (gS st 0), .int 3])) (kd_ne h_IL h_X rfl) h_IL
            have h_ID := mu_k (e := .inr (10, [.ref (g.1 1 0), .ref (g.1 2 0), .int (gS st 2), .int (gS st 3), .int (gS st 1), .int (gS st 0), .int 3])) (kd_ne h_ID h_X rfl) h_ID
            have h_I := mu_k (e := .inr (10, [.ref (g.1 1 0), .ref (g.1 2 0), .int (gS st 2), .int (gS st 3), .int (gS st 1), .int (gS st 0), .int 3])) (kd_ne h_I h_X rfl) h_I
            have h_X : (mu (mu (mu Mw (g.1 0 0) (.inr (10, [.ref (g.1 1 0), .ref (g.1 2 0), .int (gS st 2), .int (gS st 3), .int (gS st 1), .int (gS st 0), .int 0]))) (g.1 0 0) (.inr (10, [.ref (g.1 1 0), .ref (g.1 2 0), .int (gS st 2), .int (gS st 3), .int (gS st 1), .int (gS st 0), .int 0]))) (g.1 0 0) (.inr (10, [.ref (g.1 1 0), .ref (g.1 2 0), .int (gS st 2), .int (gS st 3), .int (gS st 1), .int (gS st 0), .int 3]))) (g.1 0 0) = some (.inr (10, [.ref (g.1 1 0), .ref (g.1 2 0), .int (gS st 2), .int (gS st 3), .int (gS st 1), .int (gS st 0), .int 3])) := mu_s
            refine lv_if_eq (tgt := 102) hx hb dX7_divide_97 (by decide) (fun h9 => absurd h9 (by decide)) (fun _ => ?_)
            refine lv_iconst (v := 0) hx hb dX7_divide_100 (by decide) ?_
            refine W.widen (k := 0) (n := 0) (Nat.le_of_ble_eq_true rfl) (Nat.le_of_ble_eq_true rfl) ?_
            exact W.iret (v := 0) hx hb hr (fun t99 ht99 hW99 => ⟨⟨0, (mu (mu (mu Mw (g.1 0 0) (.inr (10, [.ref (g.1 1 0), .ref (g.1 2 0), .int (gS st 2), .int (gS st 3), .int (gS st 1), .int (gS st 0), .int 0]))) (g.1 0 0) (.inr (10, [.ref (g.1 1 0), .ref (g.1 2 0), .int (gS st 2), .int (gS st 3), .int (gS st 1), .int (gS st 0), .int 0]))) (g.1 0 0) (.inr (10, [.ref (g.1 1 0), .ref (g.1 2 0), .int (gS st 2), .int (gS st 3), .int (gS st 1), .int (gS st 0), .int 3]))), rfl, RP.no (k := 3) (by unfold m_divide; first | (rw [chk_p hi9, chk_p (show eith p1 108 118 from Or.inl c3), chk_p hfi9, chk_n (fun q9 => q9 (unl_2 c9))]; done) | (rw [chk_p hi9, chk_p (show eith p1 108 118 from Or.inl c3), chk_p hfi9, chk_n (fun q9 => q9 (unl_2 c9))]; rfl)) (by decide) (hR.th 3 h_X (fun x9 e9 hx9 h0 => ((mu_n h0).trans ((mu_n h0).trans ((mu_n h0).trans (rfl)))).trans hx9)) rfl rfl, by rw [ht99]; exact hP, hI⟩, hS.F ht99⟩) hS.2.2 dX7_divide_101
          · skip
            refine lv_aload_n hx hb dX7_divide_77 rfl (lv_at hl 0 rfl) ?_
            refine m_getN (ci := 8) (v := .int (itS st (ix p0) 12)) (C := RX5) (T := TX5) (N := 17) hx hb hts i_X5 hown hK (hP _ _ h_I) rfl 7 (by decide) (va_Nw.use rfl (hG.2.1.2.1 ("MeniscusModel", 149, "MeniscusModel$Instrument", "ice", "I", "MeniscusModel") (by decide +kernel))) (fun _ h9 => h9) rfl dX7_divide_78 ?_
            refine lv_aload_n hx hb dX7_divide_81 rfl (lv_at hl 0 rfl) ?_
            refine m_getN (ci := 8) (v := .int (itS st (ix p0) 13)) (C := RX5) (T := TX5) (N := 17) hx hb hts i_X5 hown hK (hP _ _ h_I) rfl 8 (by decide) (va_Nw.use rfl (hG.2.1.2.1 ("MeniscusModel", 158, "MeniscusModel$Instrument", "steam", "I", "MeniscusModel") (by decide +kernel))) (fun _ h9 => h9) rfl dX7_divide_82 ?_
            refine lv_icmp_ne (tgt := 92) hx hb dX7_divide_85 (by decide) (fun c11 => ?_) (fun c11 => ?_)
            · skip
              refine lv_iconst (v := 0) hx hb dX7_divide_92 (by decide) ?_
              refine lv_iconst (v := 3) hx hb dX7_divide_93 (by decide) ?_
              refine m_calli (va_runV (As := [.int 0, .int 3]) (rest := []) ⟨hx, hb, hml, hown, hts⟩ (c_X7_isThrown0 l G A (mu (mu Mw (g.1 0 0) (.inr (10, [.ref (g.1 1 0), .ref (g.1 2 0), .int (gS st 2), .int (gS st 3), .int (gS st 1), .int (gS st 0), .int 0]))) (g.1 0 0) (.inr (10, [.ref (g.1 1 0), .ref (g.1 2 0), .int (gS st 2), .int (gS st 3), .int (gS st 1), .int (gS st 0), .int 0])))  3 h_X) (cwV 2 hts gX7_divide_X7_isThrown rfl rfl rfl (by decide +kernel) ⟨Nat.le_of_ble_eq_true rfl, Nat.le_of_ble_eq_true rfl⟩) (mPreV hG hS hP hI hA (hP _ _ h_X) (r := (RX7, TX7, 7)) rfl) rfl rfl hl.1 rfl (lv_room (Nat.le_of_ble_eq_true rfl)) dX7_divide_94 ⟨Nat.le_of_ble_eq_true rfl, Nat.le_of_ble_eq_true rfl⟩) hS (fun r12 Mw1 H locs hp_r12 hP hI hS => ?_)
              obtain ⟨hp_r12, hm9⟩ := hp_r12
              subst Mw1
              subst hp_r12
              have h_TL := mu_k (e := .inr (10, [.ref (g.1 1 0), .ref (g.1 2 0), .int (gS st 2), .int (gS st 3), .int (gS st 1), .int (gS st 0), .int 0])) (kd_ne h_TL h_X rfl) h_TL
              have h_IL := mu_k (e := .inr (10, [.ref (g.1 1 0), .ref (g.1 2 0), .int (gS st 2), .int (gS st 3), .int (gS st 1), .int (gS st 0), .int 0])) (kd_ne h_IL h_X rfl) h_IL
              have h_ID := mu_k (e := .inr (10, [.ref (g.1 1 0), .ref (g.1 2 0), .int (gS st 2), .int (gS st 3), .int (gS st 1), .int (gS st 0), .int 0])) (kd_ne h_ID h_X rfl) h_ID
              have h_I := mu_k (e := .inr (10, [.ref (g.1 1 0), .ref (g.1 2 0), .int (gS st 2), .int (gS st 3), .int (gS st 1), .int (gS st 0), .int 0])) (kd_ne h_I h_X rfl) h_I
              have h_X : (mu (mu (mu Mw (g.1 0 0) (.inr (10, [.ref (g.1 1 0), .ref (g.1 2 0), .int (gS st 2), .int (gS st 3), .int (gS st 1), .int (gS st 0), .int 0]))) (g.1 0 0) (.inr (10, [.ref (g.1 1 0), .ref (g.1 2 0), .int (gS st 2), .int (gS st 3), .int (gS st 1), .int (gS st 0), .int 0]))) (g.1 0 0) (.inr (10, [.ref (g.1 1 0), .ref (g.1 2 0), .int (gS st 2), .int (gS st 3), .int (gS st 1), .int (gS st 0), .int 0]))) (g.1 0 0) = some (.inr (10, [.ref (g.1 1 0), .ref (g.1 2 0), .int (gS st 2), .int (gS st 3), .int (gS st 1), .int (gS st 0), .int 0])) := mu_s
              refine lv_if_eq (tgt := 102) hx hb dX7_divide_97 (by decide) (fun _ => ?_) (fun h9 => absurd h9 (by decide))
              refine lv_aload_n hx hb dX7_divide_102 rfl (lv_at hl 0 rfl) ?_
              refine lv_iload_n hx hb dX7_divide_103 rfl (lv_at hl 3 rfl) ?_
              refine m_putN (ci := 8) (v := .int p1) (ty := .char) (C := RX5) (T := TX5) (N := 17) hx hb hts i_X5 tyX5 tyX5_ok nmX5 hown hK hP hI hS h_I rfl 10 (by decide) (va_Nw.use rfl (hG.2.1.2.1 ("MeniscusModel", 152, "MeniscusModel$Instrument", "kind", "C", "MeniscusModel") (by decide +kernel))) (fun _ h9 => h9) rfl (by decide +kernel) (nch (show eith p1 108 118 from Or.inl c3) ⟨rfl, rfl⟩ ⟨rfl, rfl⟩).1 (nch (show eith p1 108 118 from Or.inl c3) ⟨rfl, rfl⟩ ⟨rfl, rfl⟩).2 (Nat.le_of_ble_eq_true rfl) dX7_divide_104 (fun H locs hP hI hS => ?_)
              have hP : mP G.1 (mu (mu (mu (mu Mw (g.1 0 0) (.inr (10, [.ref (g.1 1 0), .ref (g.1 2 0), .int (gS st 2), .int (gS st 3), .int (gS st 1), .int (gS st 0), .int 0]))) (g.1 0 0) (.inr (10, [.ref (g.1 1 0), .ref (g.1 2 0), .int (gS st 2), .int (gS st 3), .int (gS st 1), .int (gS st 0), .int 0]))) (g.1 0 0) (.inr (10, [.ref (g.1 1 0), .ref (g.1 2 0), .int (gS st 2), .int (gS st 3), .int (gS st 1), .int (gS st 0), .int 0]))) (g.1 7 (ix p0)) (.inr (8, [.ref (g.1 5 (tbN st (ix p0))), .int (itS st (ix p0) 1), .int (sof (itS st (ix p0) 2)), .int (itS st (ix p0) 3), .int (itS st (ix p0) 7), .int (itS st (ix p0) 6), .int (itS st (ix p0) 5), .int (itS st (ix p0) 12), .int (itS st (ix p0) 13), .int (itS st (ix p0) 14), .int p1, .int (itS st (ix p0) 8), .int (itS st (ix p0) 9), .int (itS st (ix p0) 10), .int (ceR g (ix p0)), .ref (g.1 8 (ix p0)), .ref (g.1 9 (ix p0))]))) H := hP
              have hI : mI A (mu (mu (mu (mu Mw (g.1 0 0) (.inr (10, [.ref (g.1 1 0), .ref (g.1 2 0), .int (gS st 2), .int (gS st 3), .int (gS st 1), .int (gS st 0), .int 0]))) (g.1 0 0) (.inr (10, [.ref (g.1 1 0), .ref (g.1 2 0), .int (gS st 2), .int (gS st 3), .int (gS st 1), .int (gS st 0), .int 0]))) (g.1 0 0) (.inr (10, [.ref (g.1 1 0), .ref (g.1 2 0), .int (gS st 2), .int (gS st 3), .int (gS st 1), .int (gS st 0), .int 0]))) (g.1 7 (ix p0)) (.inr (8, [.ref (g.1 5 (tbN st (ix p0))), .int (itS st (ix p0) 1), .int (sof (itS st (ix p0) 2)), .int (itS st (ix p0) 3), .int (itS st (ix p0) 7), .int (itS st (ix p0) 6), .int (itS st (ix p0) 5), .int (itS st (ix p0) 12), .int (itS st (ix p0) 13), .int (itS st (ix p0) 14), .int p1, .int (itS st (ix p0) 8), .int (itS st (ix p0) 9), .int (itS st (ix p0) 10), .int (ceR g (ix p0)), .ref (g.1 8 (ix p0)), .ref (g.1 9 (ix p0))]))) := hI
              have h_X := mu_k (e := .inr (8, [.ref (g.1 5 (tbN st (ix p0))), .int (itS st (ix p0) 1), .int (sof (itS st (ix p0) 2)), .int (itS st (ix p0) 3), .int (itS st (ix p0) 7), .int (itS st (ix p0) 6), .int (itS st (ix p0) 5), .int (itS st (ix p0) 12), .int (itS st (ix p0) 13), .int (itS st (ix p0) 14), .int p1, .int (itS st (ix p0) 8), .int (itS st (ix p0) 9), .int (itS st (ix p0) 10), .int (ceR g (ix p0)), .ref (g.1 8 (ix p0)), .ref (g.1 9 (ix p0))])) (kd_ne h_X h_I rfl) h_X
              have h_TL := mu_k (e := .inr (8, [.ref (g.1 5 (tbN st (ix p0))), .int (itS st (ix p0) 1), .int (sof (itS st (ix p0) 2)), .int (itS st (ix p0) 3), .int (itS st (ix p0) 7), .int (itS st (ix p0) 6), .int (itS st (ix p0) 5), .int (itS st (ix p0) 12), .int (itS st (ix p0) 13), .int (itS st (ix p0) 14), .int p1, .int (itS st (ix p0) 8), .int (itS st (ix p0) 9), .int (itS st (ix p0) 10), .int (ceR g (ix p0)), .ref (g.1 8 (ix p0)), .ref (g.1 9 (ix p0))])) (kd_ne h_TL h_I rfl) h_TL
              have h_IL := mu_k (e := .inr (8, [.ref (g.1 5 (tbN st (ix p0))), .int (itS st (ix p0) 1), .int (sof (itS st (ix p0) 2)), .int (itS st (ix p0) 3), .int (itS st (ix p0) 7), .int (itS st (ix p0) 6), .int (itS st (ix p0) 5), .int (itS st (ix p0) 12), .int (itS st (ix p0) 13), .int (itS st (ix p0) 14), .int p1, .int (itS st (ix p0) 8), .int (itS st (ix p0) 9), .int (itS st (ix p0) 10), .int (ceR g (ix p0)), .ref (g.1 8 (ix p0)), .ref (g.1 9 (ix p0))])) (kd_ne h_IL h_I rfl) h_IL
              have h_ID := mu_k (e := .inr (8, [.ref (g.1 5 (tbN st (ix p0))), .int (itS st (ix p0) 1), .int (sof (itS st (ix p0) 2)), .int (itS st (ix p0) 3), .int (itS st (ix p0) 7), .int (itS st (ix p0) 6), .int (itS st (ix p0) 5), .int (itS st (ix p0) 12), .int (itS st (ix p0) 13), .int (itS st (ix p0) 14), .int p1, .int (itS st (ix p0) 8), .int (itS st (ix p0) 9), .int (itS st (ix p0) 10), .int (ceR g (ix p0)), .ref (g.1 8 (ix p0)), .ref (g.1 9 (ix p0))])) (kd_ne h_ID h_I rfl) h_ID
              have h_I : (mu (mu (mu (mu Mw (g.1 0 0) (.inr (10, [.ref (g.1 1 0), .ref (g.1 2 0), .int (gS st 2), .int (gS st 3), .int (gS st 1), .int (gS st 0), .int 0]))) (g.1 0 0) (.inr (10, [.ref (g.1 1 0), .ref (g.1 2 0), .int (gS st 2), .int (gS st 3), .int (gS st 1), .int (gS st 0), .int 0]))) (g.1 0 0) (.inr (10, [.ref (g.1 1 0), .ref (g.1 2 0), .int (gS st 2), .int (gS st 3), .int (gS st 1), .int (gS st 0), .int 0]))) (g.1 7 (ix p0)) (.inr (8, [.ref (g.1 5 (tbN st (ix p0))), .int (itS st (ix p0) 1), .int (sof (itS st (ix p0) 2)), .int (itS st (ix p0) 3), .int (itS st (ix p0) 7), .int (itS st (ix p0) 6), .int (itS st (ix p0) 5), .int (itS st (ix p0) 12), .int (itS st (ix p0) 13), .int (itS st (ix p0) 14), .int p1, .int (itS st (ix p0) 8), .int (itS st (ix p0) 9), .int (itS st (ix p0) 10), .int (ceR g (ix p0)), .ref (g.1 8 (ix p0)), .ref (g.1 9 (ix p0))]))) (g.1 7 (ix p0)) = some (.inr (8, [.ref (g.1 5 (tbN st (ix p0))), .int (itS st (ix p0) 1), .int (sof (itS st (ix p0) 2)), .int (itS st (ix p0) 3), .int (itS st (ix p0) 7), .int (itS st (ix p0) 6), .int (itS st (ix p0) 5), .int (itS st (ix p0) 12), .int (itS st (ix p0) 13), .int (itS st (ix p0) 14), .int p1, .int (itS st (ix p0) 8), .int (itS st (ix p0) 9), .int (itS st (ix p0) 10), .int (ceR g (ix p0)), .ref (g.1 8 (ix p0)), .ref (g.1 9 (ix p0))])) := mu_s
              refine lv_aload_n hx hb dX7_divide_107 rfl (lv_at hl 0 rfl) ?_
              refine m_getN (ci := 8) (v := .int (itS st (ix p0) 13)) (C := RX5) (T := TX5) (N := 17) hx hb hts i_X5 hown hK (hP _ _ h_I) rfl 8 (by decide) (va_Nw.use rfl (hG.2.1.2.1 ("MeniscusModel", 158, "MeniscusModel$Instrument", "steam", "I", "MeniscusModel") (by decide +kernel))) (fun _ h9 => h9) rfl dX7_divide_108 ?_
              refine lv_aload_n hx hb dX7_divide_111 rfl (lv_at hl 0 rfl) ?_
              refine m_getN (ci := 8) (v := .int (itS st (ix p0) 12)) (C := RX5) (T := TX5) (N := 17) hx hb hts i_X5 hown hK (hP _ _ h_I) rfl 7 (by decide) (va_Nw.use rfl (hG.2.1.2.1 ("MeniscusModel", 149, "MeniscusModel$Instrument", "ice", "I", "MeniscusModel") (by decide +kernel))) (fun _ h9 => h9) rfl dX7_divide_112 ?_
              refine lv_isub hx hb dX7_divide_115 ?_
              refine W.widen (k := 0) (n := 0) (Nat.le_of_ble_eq_true rfl) (Nat.le_of_ble_eq_true rfl) ?_
              exact W.iret (v := (itS st (ix p0) 13) - (itS st (ix p0) 12)) hx hb hr (fun t99 ht99 hW99 => ⟨⟨(itS st (ix p0) 13) - (itS st (ix p0) 12), (mu (mu (mu (mu Mw (g.1 0 0) (.inr (10, [.ref (g.1 1 0), .ref (g.1 2 0), .int (gS st 2), .int (gS st 3), .int (gS st 1), .int (gS st 0), .int 0]))) (g.1 0 0) (.inr (10, [.ref (g.1 1 0), .ref (g.1 2 0), .int (gS st 2), .int (gS st 3), .int (gS st 1), .int (gS st 0), .int 0]))) (g.1 0 0) (.inr (10, [.ref (g.1 1 0), .ref (g.1 2 0), .int (gS st 2), .int (gS st 3), .int (gS st 1), .int (gS st 0), .int 0]))) (g.1 7 (ix p0)) (.inr (8, [.ref (g.1 5 (tbN st (ix p0))), .int (itS st (ix p0) 1), .int (sof (itS st (ix p0) 2)), .int (itS st (ix p0) 3), .int (itS st (ix p0) 7), .int (itS st (ix p0) 6), .int (itS st (ix p0) 5), .int (itS st (ix p0) 12), .int (itS st (ix p0) 13), .int (itS st (ix p0) 14), .int p1, .int (itS st (ix p0) 8), .int (itS st (ix p0) 9), .int (itS st (ix p0) 10), .int (ceR g (ix p0)), .ref (g.1 8 (ix p0)), .ref (g.1 9 (ix p0))]))), rfl, RP.ok (by unfold m_divide; first | (rw [chk_p hi9, chk_p (show eith p1 108 118 from Or.inl c3), chk_p hfi9, chk_p (unl_p c7 c9 c11)]; done) | (rw [chk_p hi9, chk_p (show eith p1 108 118 from Or.inl c3), chk_p hfi9, chk_p (unl_p c7 c9 c11)]; rfl)) (hR.io hi9.2 (gS st) (fu (itS st (ix p0)) 15 p1) rfl (ceR g (ix p0)) 0 h_X h_I (fun x9 e9 hx9 h0 h1 => ((mu_n h1).trans ((mu_n h0).trans ((mu_n h0).trans ((mu_n h0).trans (rfl))))).trans hx9) ((hR.2.2.2.2 _ hi9.2).2.1)) rfl rfl, by rw [ht99]; exact hP, hI⟩, hS.F ht99⟩) hS.2.2 dX7_divide_116
            · skip
              refine lv_iconst (v := 1) hx hb dX7_divide_88 (by decide) ?_
              refine lv_goto (tgt := 93) hx hb dX7_divide_89 (by decide) ?_
              refine lv_iconst (v := 3) hx hb dX7_divide_93 (by decide) ?_
              refine m_calli (va_runV (As := [.int 1, .int 3]) (rest := []) ⟨hx, hb, hml, hown, hts⟩ (c_X7_isThrown1 l G A (mu (mu Mw (g.1 0 0) (.inr (10, [.ref (g.1 1 0), .ref (g.1 2 0), .int (gS st 2), .int (gS st 3), .int (gS st 1), .int (gS st 0), .int 0]))) (g.1 0 0) (.inr (10, [.ref (g.1 1 0), .ref (g.1 2 0), .int (gS st 2), .int (gS st 3), .int (gS st 1), .int (gS st 0), .int 0])))  3 h_X) (cwV 2 hts gX7_divide_X7_isThrown rfl rfl rfl (by decide +kernel) ⟨Nat.le_of_ble_eq_true rfl, Nat.le_of_ble_eq_true rfl⟩) (mPreV hG hS hP hI hA (hP _ _ h_X) (r := (RX7, TX7, 7)) rfl) rfl rfl hl.1 rfl (lv_room (Nat.le_of_ble_eq_true rfl)) dX7_divide_94 ⟨Nat.le_of_ble_eq_true rfl, Nat.le_of_ble_eq_true rfl⟩) hS (fun r13 Mw1 H locs hp_r13 hP hI hS => ?_)
              obtain ⟨hp_r13, hm9⟩ := hp_r13
              subst Mw1
              subst hp_r13
              have h_TL := mu_k (e := .inr (10, [.ref (g.1 1 0), .ref (g.1 2 0), .int (gS st 2), .int (gS st 3), .int (gS st 1), .int (gS st 0), .int 3])) (kd_ne h_TL h_X rfl) h_TL
              have h_IL := mu_k (e := .inr (10, [.ref (g.1 1 0), .ref (g.1 2 0), .int (gS st 2), .int (gS st 3), .int (gS st 1), .int (gS st 0), .int 3])) (kd_ne h_IL h_X rfl) h_IL
              have h_ID := mu_k (e := .inr (10, [.ref (g.1 1 0), .ref (g.1 2 0), .int (gS st 2), .int (gS st 3), .int (gS st 1), .int (gS st 0), .int 3])) (kd_ne h_ID h_X rfl) h_ID
              have h_I := mu_k (e := .inr (10, [.ref (g.1 1 0), .ref (g.1 2 0), .int (gS st 2), .int (gS st 3), .int (gS st 1), .int (gS st 0), .int 3])) (kd_ne h_I h_X rfl) h_I
              have h_X : (mu (mu (mu Mw (g.1 0 0) (.inr (10, [.ref (g.1 1 0), .ref (g.1 2 0), .int (gS st 2), .int (gS st 3), .int (gS st 1), .int (gS st 0), .int 0]))) (g.1 0 0) (.inr (10, [.ref (g.1 1 0), .ref (g.1 2 0), .int (gS st 2), .int (gS st 3), .int (gS st 1), .int (gS st 0), .int 0]))) (g.1 0 0) (.inr (10, [.ref (g.1 1 0), .ref (g.1 2 0), .int (gS st 2), .int (gS st 3), .int (gS st 1), .int (gS st 0), .int 3]))) (g.1 0 0) = some (.inr (10, [.ref (g.1 1 0), .ref (g.1 2 0), .int (gS st 2), .int (gS st 3), .int (gS st 1), .int (gS st 0), .int 3])) := mu_s
              refine lv_if_eq (tgt := 102) hx hb dX7_divide_97 (by decide) (fun h9 => absurd h9 (by decide)) (fun _ => ?_)
              refine lv_iconst (v := 0) hx hb dX7_divide_100 (by decide) ?_
              refine W.widen (k := 0) (n := 0) (Nat.le_of_ble_eq_true rfl) (Nat.le_of_ble_eq_true rfl) ?_
              exact W.iret (v := 0) hx hb hr (fun t99 ht99 hW99 => ⟨⟨0, (mu (mu (mu Mw (g.1 0 0) (.inr (10, [.ref (g.1 1 0), .ref (g.1 2 0), .int (gS st 2), .int (gS st 3), .int (gS st 1), .int (gS st 0), .int 0]))) (g.1 0 0) (.inr (10, [.ref (g.1 1 0), .ref (g.1 2 0), .int (gS st 2), .int (gS st 3), .int (gS st 1), .int (gS st 0), .int 0]))) (g.1 0 0) (.inr (10, [.ref (g.1 1 0), .ref (g.1 2 0), .int (gS st 2), .int (gS st 3), .int (gS st 1), .int (gS st 0), .int 3]))), rfl, RP.no (k := 3) (by unfold m_divide; first | (rw [chk_p hi9, chk_p (show eith p1 108 118 from Or.inl c3), chk_p hfi9, chk_n (fun q9 => q9 (unl_3 c11))]; done) | (rw [chk_p hi9, chk_p (show eith p1 108 118 from Or.inl c3), chk_p hfi9, chk_n (fun q9 => q9 (unl_3 c11))]; rfl)) (by decide) (hR.th 3 h_X (fun x9 e9 hx9 h0 => ((mu_n h0).trans ((mu_n h0).trans ((mu_n h0).trans (rfl)))).trans hx9)) rfl rfl, by rw [ht99]; exact hP, hI⟩, hS.F ht99⟩) hS.2.2 dX7_divide_101
      · subst hr9
        refine lv_if_ne (tgt := 88) hx hb dX7_divide_58 (by decide) (fun _ => ?_) (fun h9 => absurd h9 (by decide))
        refine lv_iconst (v := 1) hx hb dX7_divide_88 (by decide) ?_
        refine lv_goto (tgt := 93) hx hb dX7_divide_89 (by decide) ?_
        refine lv_iconst (v := 3) hx hb dX7_divide_93 (by decide) ?_
        refine m_calli (va_runV (As := [.int 1, .int 3]) (rest := []) ⟨hx, hb, hml, hown, hts⟩ (c_X7_isThrown1 l G A (mu (mu Mw (g.1 0 0) (.inr (10, [.ref (g.1 1 0), .ref (g.1 2 0), .int (gS st 2), .int (gS st 3), .int (gS st 1), .int (gS st 0), .int 0]))) (g.1 0 0) (.inr (10, [.ref (g.1 1 0), .ref (g.1 2 0), .int (gS st 2), .int (gS st 3), .int (gS st 1), .int (gS st 0), .int 0])))  3 h_X) (cwV 2 hts gX7_divide_X7_isThrown rfl rfl rfl (by decide +kernel) ⟨Nat.le_of_ble_eq_true rfl, Nat.le_of_ble_eq_true rfl⟩) (mPreV hG hS hP hI hA (hP _ _ h_X) (r := (RX7, TX7, 7)) rfl) rfl rfl hl.1 rfl (lv_room (Nat.le_of_ble_eq_true rfl)) dX7_divide_94 ⟨Nat.le_of_ble_eq_true rfl, Nat.le_of_ble_eq_true rfl⟩) hS (fun r14 Mw1 H locs hp_r14 hP hI hS => ?_)
        obtain ⟨hp_r14, hm9⟩ := hp_r14
        subst Mw1
        subst hp_r14
        have h_TL := mu_k (e := .inr (10, [.ref (g.1 1 0), .ref (g.1 2 0), .int (gS st 2), .int (gS st 3), .int (gS st 1), .int (gS st 0), .int 3])) (kd_ne h_TL h_X rfl) h_TL
        have h_IL := mu_k (e := .inr (10, [.ref (g.1 1 0), .ref (g.1 2 0), .int (gS st 2), .int (gS st 3), .int (gS st 1), .int (gS st 0), .int 3])) (kd_ne h_IL h_X rfl) h_IL
        have h_ID := mu_k (e := .inr (10, [.ref (g.1 1 0), .ref (g.1 2 0), .int (gS st 2), .int (gS st 3), .int (gS st 1), .int (gS st 0), .int 3])) (kd_ne h_ID h_X rfl) h_ID
        have h_I := mu_k (e := .inr (10, [.ref (g.1 1 0), .ref (g.1 2 0), .int (gS st 2), .int (gS st 3), .int (gS st 1), .int (gS st 0), .int 3])) (kd_ne h_I h_X rfl) h_I
        have h_X : (mu (mu (mu Mw (g.1 0 0) (.inr (10, [.ref (g.1 1 0), .ref (g.1 2 0), .int (gS st 2), .int (gS st 3), .int (gS st 1), .int (gS st 0), .int 0]))) (g.1 0 0) (.inr (10, [.ref (g.1 1 0), .ref (g.1 2 0), .int (gS st 2), .int (gS st 3), .int (gS st 1), .int (gS st 0), .int 0]))) (g.1 0 0) (.inr (10, [.ref (g.1 1 0), .ref (g.1 2 0), .int (gS st 2), .int (gS st 3), .int (gS st 1), .int (gS st 0), .int 3]))) (g.1 0 0) = some (.inr (10, [.ref (g.1 1 0), .ref (g.1 2 0), .int (gS st 2), .int (gS st 3), .int (gS st 1), .int (gS st 0), .int 3])) := mu_s
        refine lv_if_eq (tgt := 102) hx hb dX7_divide_97 (by decide) (fun h9 => absurd h9 (by decide)) (fun _ => ?_)
        refine lv_iconst (v := 0) hx hb dX7_divide_100 (by decide) ?_
        refine W.widen (k := 0) (n := 0) (Nat.le_of_ble_eq_true rfl) (Nat.le_of_ble_eq_true rfl) ?_
        exact W.iret (v := 0) hx hb hr (fun t99 ht99 hW99 => ⟨⟨0, (mu (mu (mu Mw (g.1 0 0) (.inr (10, [.ref (g.1 1 0), .ref (g.1 2 0), .int (gS st 2), .int (gS st 3), .int (gS st 1), .int (gS st 0), .int 0]))) (g.1 0 0) (.inr (10, [.ref (g.1 1 0), .ref (g.1 2 0), .int (gS st 2), .int (gS st 3), .int (gS st 1), .int (gS st 0), .int 0]))) (g.1 0 0) (.inr (10, [.ref (g.1 1 0), .ref (g.1 2 0), .int (gS st 2), .int (gS st 3), .int (gS st 1), .int (gS st 0), .int 3]))), rfl, RP.no (k := 3) (by unfold m_divide; first | (rw [chk_p hi9, chk_p (show eith p1 108 118 from Or.inl c3), chk_n (fun q9 => q9 ((hV.fil hi9.2).mp hq_r6))]; done) | (rw [chk_p hi9, chk_p (show eith p1 108 118 from Or.inl c3), chk_n (fun q9 => q9 ((hV.fil hi9.2).mp hq_r6))]; rfl)) (by decide) (hR.th 3 h_X (fun x9 e9 hx9 h0 => ((mu_n h0).trans ((mu_n h0).trans ((mu_n h0).trans (rfl)))).trans hx9)) rfl rfl, by rw [ht99]; exact hP, hI⟩, hS.F ht99⟩) hS.2.2 dX7_divide_101
    · skip
      refine lv_iload_n hx hb dX7_divide_20 rfl (lv_at hl 2 rfl) ?_
      refine lv_bipush (v := (118)) hx hb dX7_divide_21 (by decide) ?_
      refine lv_icmp_eq (tgt := 30) hx hb dX7_divide_23 (by decide) (fun c15 => ?_) (fun c15 => ?_)
      · skip
        refine lv_iconst (v := 0) hx hb dX7_divide_30 (by decide) ?_
        refine lv_iconst (v := 2) hx hb dX7_divide_31 (by decide) ?_
        refine m_calli (va_runV (As := [.int 0, .int 2]) (rest := []) ⟨hx, hb, hml, hown, hts⟩ (c_X7_isThrown0 l G A (mu Mw (g.1 0 0) (.inr (10, [.ref (g.1 1 0), .ref (g.1 2 0), .int (gS st 2), .int (gS st 3), .int (gS st 1), .int (gS st 0), .int 0])))  2 h_X) (cwV 2 hts gX7_divide_X7_isThrown rfl rfl rfl (by decide +kernel) ⟨Nat.le_of_ble_eq_true rfl, Nat.le_of_ble_eq_true rfl⟩) (mPreV hG hS hP hI hA (hP _ _ h_X) (r := (RX7, TX7, 7)) rfl) rfl rfl hl.1 rfl (lv_room (Nat.le_of_ble_eq_true rfl)) dX7_divide_32 ⟨Nat.le_of_ble_eq_true rfl, Nat.le_of_ble_eq_true rfl⟩) hS (fun r16 Mw1 H locs hp_r16 hP hI hS => ?_)
        obtain ⟨hp_r16, hm9⟩ := hp_r16
        subst Mw1
        subst hp_r16
        have h_TL := mu_k (e := .inr (10, [.ref (g.1 1 0), .ref (g.1 2 0), .int (gS st 2), .int (gS st 3), .int (gS st 1), .int (gS st 0), .int 0])) (kd_ne h_TL h_X rfl) h_TL
        have h_IL := mu_k (e := .inr (10, [.ref (g.1 1 0), .ref (g.1 2 0), .int (gS st 2), .int (gS st 3), .int (gS st 1), .int (gS st 0), .int 0])) (kd_ne h_IL h_X rfl) h_IL
        have h_ID := mu_k (e := .inr (10, [.ref (g.1 1 0), .ref (g.1 2 0), .int (gS st 2), .int (gS st 3), .int (gS st 1), .int (gS st 0), .int 0])) (kd_ne h_ID h_X rfl) h_ID
        have h_I := mu_k (e := .inr (10, [.ref (g.1 1 0), .ref (g.1 2 0), .int (gS st 2), .int (gS st 3), .int (gS st 1), .int (gS st 0), .int 0])) (kd_ne h_I h_X rfl) h_I
        have h_X : (mu (mu Mw (g.1 0 0) (.inr (10, [.ref (g.1 1 0), .ref (g.1 2 0), .int (gS st 2), .int (gS st 3), .int (gS st 1), .int (gS st 0), .int 0]))) (g.1 0 0) (.inr (10, [.ref (g.1 1 0), .ref (g.1 2 0), .int (gS st 2), .int (gS st 3), .int (gS st 1), .int (gS st 0), .int 0]))) (g.1 0 0) = some (.inr (10, [.ref (g.1 1 0), .ref (g.1 2 0), .int (gS st 2), .int (gS st 3), .int (gS st 1), .int (gS st 0), .int 0])) := mu_s
        refine lv_if_eq (tgt := 40) hx hb dX7_divide_35 (by decide) (fun _ => ?_) (fun h9 => absurd h9 (by decide))
        refine lv_aload_n hx hb dX7_divide_40 rfl (lv_at hl 0 rfl) ?_
        refine m_get (ci := 10) (v := .ref (g.1 2 0)) (C := RX7) (T := TX7) (N := 7) hx hb hts i_X7 hown hK (hP _ _ h_X) rfl 1 (by decide) (hts (.fieldLink RX7 16 "MeniscusModel" "instruments" "Ljava/util/ArrayList;") (by decide +kernel)) (fun _ h9 => h9) rfl dX7_divide_41 ?_
        refine lv_iload_n hx hb dX7_divide_44 rfl (lv_at hl 1 rfl) ?_
        refine m_callq (va_runV (As := [.int (nI (ix p0))]) (rest := []) ⟨hx, hb, hml, hown, hts⟩ (c_Jx4a65c_get_915e3 l G A (mu (mu Mw (g.1 0 0) (.inr (10, [.ref (g.1 1 0), .ref (g.1 2 0), .int (gS st 2), .int (gS st 3), .int (gS st 1), .int (gS st 0), .int 0]))) (g.1 0 0) (.inr (10, [.ref (g.1 1 0), .ref (g.1 2 0), .int (gS st 2), .int (gS st 3), .int (gS st 1), .int (gS st 0), .int 0])))  h_IL h_ID (ix p0) (g.1 7 (ix p0)) hi9.2 hnN8 (qf_p hi9.2)) (cwV 1 hts gX7_divide_Jx4a65c_get_915e3 rfl rfl rfl (by decide +kernel) ⟨Nat.le_of_ble_eq_true rfl, Nat.le_of_ble_eq_true rfl⟩) (mPreV hG hS hP hI hA (hP _ _ h_IL) (r := (RJx4a65c, TJx4a65c, 3)) rfl) rfl rfl hl.1 rfl (lv_room (Nat.le_of_ble_eq_true rfl)) dX7_divide_45 ⟨Nat.le_of_ble_eq_true rfl, Nat.le_of_ble_eq_true rfl⟩) hS (fun r17 Mw1 H locs hp_r17 hP hI hS => ?_)
        obtain ⟨hp_r17, hm9⟩ := hp_r17
        subst Mw1
        subst hp_r17
        refine va_castE hx hb hown (hts (.classLink RX7 79 RX5) (by decide +kernel)) (va_recv hK (va_at.one (hP _ _ h_I)) (q0 := 0) (q := (RX5, TX5, 17)) rfl rfl) dX7_divide_48 ?_
        refine lv_astore_n (lv' := [(3, .ref (g.1 7 (ix p0))), (0, .ref (g.1 0 0)), (1, .int (nI (ix p0))), (2, .int p1)]) hx hb dX7_divide_51 rfl hl (by decide) rfl (fun ls hl => ?_)
        refine lv_aload_n hx hb dX7_divide_52 rfl (lv_at hl 1 rfl) ?_
        refine lv_aload_n hx hb dX7_divide_53 rfl (lv_at hl 1 rfl) ?_
        refine lv_iload_n hx hb dX7_divide_54 rfl (lv_at hl 2 rfl) ?_
        refine m_calli (va_runV (As := [.int (nI (ix p0))]) (rest := [.ref (g.1 0 0)]) ⟨hx, hb, hml, hown, hts⟩ (c_X7_isEmpty l G A (mu (mu Mw (g.1 0 0) (.inr (10, [.ref (g.1 1 0), .ref (g.1 2 0), .int (gS st 2), .int (gS st 3), .int (gS st 1), .int (gS st 0), .int 0]))) (g.1 0 0) (.inr (10, [.ref (g.1 1 0), .ref (g.1 2 0), .int (gS st 2), .int (gS st 3), .int (gS st 1), .int (gS st 0), .int 0])))  h_X h_IL hnN8 h_ID h_I (ix p0) hi9.2 (qf_p hi9.2)) (cwV 1 hts gX7_divide_X7_isEmpty rfl rfl rfl (by decide +kernel) ⟨Nat.le_of_ble_eq_true rfl, Nat.le_of_ble_eq_true rfl⟩) (mPreV hG hS hP hI hA (hP _ _ h_X) (r := (RX7, TX7, 7)) rfl) rfl rfl hl.1 rfl (lv_room (Nat.le_of_ble_eq_true rfl)) dX7_divide_55 ⟨Nat.le_of_ble_eq_true rfl, Nat.le_of_ble_eq_true rfl⟩) hS (fun r18 Mw1 H locs hp_r18 hP hI hS => ?_)
        obtain ⟨hb9, hm9⟩ := hp_r18
        subst Mw1
        rcases hb9 with ⟨hr9, hq_r18⟩ | ⟨hr9, hq_r18⟩
        · subst hr9
          have hfi9 : ¬ itS st (ix p0) 4 = 0 := fun q9 => hq_r18 ((hV.fil hi9.2).mpr q9)
          refine lv_if_ne (tgt := 88) hx hb dX7_divide_58 (by decide) (fun h9 => absurd h9 (by decide)) (fun _ => ?_)
          refine lv_aload_n hx hb dX7_divide_61 rfl (lv_at hl 0 rfl) ?_
          refine m_getN (ci := 8) (v := .int (itS st (ix p0) 12)) (C := RX5) (T := TX5) (N := 17) hx hb hts i_X5 hown hK (hP _ _ h_I) rfl 7 (by decide) (va_Nw.use rfl (hG.2.1.2.1 ("MeniscusModel", 149, "MeniscusModel$Instrument", "ice", "I", "MeniscusModel") (by decide +kernel))) (fun _ h9 => h9) rfl dX7_divide_62 ?_
          refine lv_iconst (v := (-1)) hx hb dX7_divide_65 (by decide) ?_
          refine lv_icmp_eq (tgt := 88) hx hb dX7_divide_66 (by decide) (fun c19 => ?_) (fun c19 => ?_)
          · skip
            refine lv_iconst (v := 1) hx hb dX7_divide_88 (by decide) ?_
            refine lv_goto (tgt := 93) hx hb dX7_divide_89 (by decide) ?_
            refine lv_iconst (v := 3) hx hb dX7_divide_93 (by decide) ?_
            refine m_calli (va_runV (As := [.int 1, .int 3]) (rest := []) ⟨hx, hb, hml, hown, hts⟩ (c_X7_isThrown1 l G A (mu (mu Mw (g.1 0 0) (.inr (10, [.ref (g.1 1 0), .ref (g.1 2 0), .int (gS st 2), .int (gS st 3), .int (gS st 1), .int (gS st 0), .int 0]))) (g.1 0 0) (.inr (10, [.ref (g.1 1 0), .ref (g.1 2 0), .int (gS st 2), .int (gS st 3), .int (gS st 1), .int (gS st 0), .int 0])))  3 h_X) (cwV 2 hts gX7_divide_X7_isThrown rfl rfl rfl (by decide +kernel) ⟨Nat.le_of_ble_eq_true rfl, Nat.le_of_ble_eq_true rfl⟩) (mPreV hG hS hP hI hA (hP _ _ h_X) (r := (RX7, TX7, 7)) rfl) rfl rfl hl.1 rfl (lv_room (Nat.le_of_ble_eq_true rfl)) dX7_divide_94 ⟨Nat.le_of_ble_eq_true rfl, Nat.le_of_ble_eq_true rfl⟩) hS (fun r20 Mw1 H locs hp_r20 hP hI hS => ?_)
            obtain ⟨hp_r20, hm9⟩ := hp_r20
            subst Mw1
            subst hp_r20
            have h_TL := mu_k (e := .inr (10, [.ref (g.1 1 0), .ref (g.1 2 0), .int (gS st 2), .int (gS st 3), .int (gS st 1), .int (gS st 0), .int 3])) (kd_ne h_TL h_X rfl) h_TL
            have h_IL := mu_k (e := .inr (10, [.ref (g.1 1 0), .ref (g.1 2 0), .int (gS st 2), .int (gS st 3), .int (gS st 1), .int (gS st 0), .int 3])) (kd_ne h_IL h_X rfl) h_IL
            have h_ID := mu_k (e := .inr (10, [.ref (g.1 1 0), .ref (g.1 2 0), .int (gS st 2), .int (gS st 3), .int (gS st 1), .int (gS st 0), .int 3])) (kd_ne h_ID h_X rfl) h_ID
            have h_I := mu_k (e := .inr (10, [.ref (g.1 1 0), .ref (g.1 2 0), .int (gS st 2), .int (gS st 3), .int (gS st 1), .int (gS st 0), .int 3])) (kd_ne h_I h_X rfl) h_I
            have h_X : (mu (mu (mu Mw (g.1 0 0) (.inr (10, [.ref (g.1 1 0), .ref (g.1 2 0), .int (gS st 2), .int (gS st 3), .int (gS st 1), .int (gS st 0), .int 0]))) (g.1 0 0) (.inr (10, [.ref (g.1 1 0), .ref (g.1 2 0), .int (gS st 2), .int (gS st 3), .int (gS st 1), .int (gS st 0), .int 0]))) (g.1 0 0) (.inr (10, [.ref (g.1 1 0), .ref (g.1 2 0), .int (gS st 2), .int (gS st 3), .int (gS st 1), .int (gS st 0), .int 3]))) (g.1 0 0) = some (.inr (10, [.ref (g.1 1 0), .ref (g.1 2 0), .int (gS st 2), .int (gS st 3), .int (gS st 1), .int (gS st 0), .int 3])) := mu_s
            refine lv_if_eq (tgt := 102) hx hb dX7_divide_97 (by decide) (fun h9 => absurd h9 (by decide)) (fun _ => ?_)
            refine lv_iconst (v := 0) hx hb dX7_divide_100 (by decide) ?_
            refine W.widen (k := 0) (n := 0) (Nat.le_of_ble_eq_true rfl) (Nat.le_of_ble_eq_true rfl) ?_
            exact W.iret (v := 0) hx hb hr (fun t99 ht99 hW99 => ⟨⟨0, (mu (mu (mu Mw (g.1 0 0) (.inr (10, [.ref (g.1 1 0), .ref (g.1 2 0), .int (gS st 2), .int (gS st 3), .int (gS st 1), .int (gS st 0), .int 0]))) (g.1 0 0) (.inr (10, [.ref (g.1 1 0), .ref (g.1 2 0), .int (gS st 2), .int (gS st 3), .int (gS st 1), .int (gS st 0), .int 0]))) (g.1 0 0) (.inr (10, [.ref (g.1 1 0), .ref (g.1 2 0), .int (gS st 2), .int (gS st 3), .int (gS st 1), .int (gS st 0), .int 3]))), rfl, RP.no (k := 3) (by unfold m_divide; first | (rw [chk_p hi9, chk_p (show eith p1 108 118 from Or.inr c15), chk_p hfi9, chk_n (fun q9 => q9 (unl_1 c19))]; done) | (rw [chk_p hi9, chk_p (show eith p1 108 118 from Or.inr c15), chk_p hfi9, chk_n (fun q9 => q9 (unl_1 c19))]; rfl)) (by decide) (hR.th 3 h_X (fun x9 e9 hx9 h0 => ((mu_n h0).trans ((mu_n h0).trans ((mu_n h0).trans (rfl)))).trans hx9)) rfl rfl, by rw [ht99]; exact hP, hI⟩, hS.F ht99⟩) hS.2.2 dX7_divide_101
          · skip
            refine lv_aload_n hx hb dX7_divide_69 rfl (lv_at hl 0 rfl) ?_
            refine m_getN (ci := 8) (v := .int (itS st (ix p0) 13)) (C := RX5) (T := TX5) (N := 17) hx hb hts i_X5 hown hK (hP _ _ h_I) rfl 8 (by decide) (va_Nw.use rfl (hG.2.1.2.1 ("MeniscusModel", 158, "MeniscusModel$Instrument", "steam", "I", "MeniscusModel") (by decide +kernel))) (fun _ h9 => h9) rfl dX7_divide_70 ?_
            refine lv_iconst (v := (-1)) hx hb dX7_divide_73 (by decide) ?_
            refine lv_icmp_eq (tgt := 88) hx hb dX7_divide_74 (by decide) (fun c21 => ?_) (fun c21 => ?_)
            · skip
              refine lv_iconst (v := 1) hx hb dX7_divide_88 (by decide) ?_
              refine lv_goto (tgt := 93) hx hb dX7_divide_89 (by decide) ?_
              refine lv_iconst (v := 3) hx hb dX7_divide_93 (by decide) ?_
              refine m_calli (va_runV (As := [.int 1, .int 3]) (rest := []) ⟨hx, hb, hml, hown, hts⟩ (c_X7_isThrown1 l G A (mu (mu Mw (g.1 0 0) (.inr (10, [.ref (g.1 1 0), .ref (g.1 2 0), .int (gS st 2), .int (gS st 3), .int (gS st 1), .int (gS st 0), .int 0]))) (g.1 0 0) (.inr (10, [.ref (g.1 1 0), .ref (g.1 2 0), .int (gS st 2), .int (gS st 3), .int (gS st 1), .int (gS st 0), .int 0])))  3 h_X) (cwV 2 hts gX7_divide_X7_isThrown rfl rfl rfl (by decide +kernel) ⟨Nat.le_of_ble_eq_true rfl, Nat.le_of_ble_eq_true rfl⟩) (mPreV hG hS hP hI hA (hP _ _ h_X) (r := (RX7, TX7, 7)) rfl) rfl rfl hl.1 rfl (lv_room (Nat.le_of_ble_eq_true rfl)) dX7_divide_94 ⟨Nat.le_of_ble_eq_true rfl, Nat.le_of_ble_eq_true rfl⟩) hS (fun r22 Mw1 H locs hp_r22 hP hI hS => ?_)
              obtain ⟨hp_r22, hm9⟩ := hp_r22
              subst Mw1
              subst hp_r22
              have h_TL := mu_k (e := .inr (10, [.ref (g.1 1 0), .ref (g.1 2 0), .int (gS st 2), .int (gS st 3), .int (gS st 1), .int (gS st 0), .int 3])) (kd_ne h_TL h_X rfl) h_TL
              have h_IL := mu_k (e := .inr (10, [.ref (g.1 1 0), .ref (g.1 2 0), .int (gS st 2), .int (gS st 3), .int (gS st 1), .int (gS st 0), .int 3])) (kd_ne h_IL h_X rfl) h_IL
              have h_ID := mu_k (e := .inr (10, [.ref (g.1 1 0), .ref (g.1 2 0), .int (gS st 2), .int (gS st 3), .int (gS st 1), .int (gS st 0), .int 3])) (kd_ne h_ID h_X rfl) h_ID
              have h_I := mu_k (e := .inr (10, [.ref (g.1 1 0), .ref (g.1 2 0), .int (gS st 2), .int (gS st 3), .int (gS st 1), .int (gS st 0), .int 3])) (kd_ne h_I h_X rfl) h_I
              have h_X : (mu (mu (mu Mw (g.1 0 0) (.inr (10, [.ref (g.1 1 0), .ref (g.1 2 0), .int (gS st 2), .int (gS st 3), .int (gS st 1), .int (gS st 0), .int 0]))) (g.1 0 0) (.inr (10, [.ref (g.1 1 0), .ref (g.1 2 0), .int (gS st 2), .int (gS st 3), .int (gS st 1), .int (gS st 0), .int 0]))) (g.1 0 0) (.inr (10, [.ref (g.1 1 0), .ref (g.1 2 0), .int (gS st 2), .int (gS st 3), .int (gS st 1), .int (gS st 0), .int 3]))) (g.1 0 0) = some (.inr (10, [.ref (g.1 1 0), .ref (g.1 2 0), .int (gS st 2), .int (gS st 3), .int (gS st 1), .int (gS st 0), .int 3])) := mu_s
              refine lv_if_eq (tgt := 102) hx hb dX7_divide_97 (by decide) (fun h9 => absurd h9 (by decide)) (fun _ => ?_)
              refine lv_iconst (v := 0) hx hb dX7_divide_100 (by decide) ?_
              refine W.widen (k := 0) (n := 0) (Nat.le_of_ble_eq_true rfl) (Nat.le_of_ble_eq_true rfl) ?_
              exact W.iret (v := 0) hx hb hr (fun t99 ht99 hW99 => ⟨⟨0, (mu (mu (mu Mw (g.1 0 0) (.inr (10, [.ref (g.1 1 0), .ref (g.1 2 0), .int (gS st 2), .int (gS st 3), .int (gS st 1), .int (gS st 0), .int 0]))) (g.1 0 0) (.inr (10, [.ref (g.1 1 0), .ref (g.1 2 0), .int (gS st 2), .int (gS st 3), .int (gS st 1), .int (gS st 0), .int 0]))) (g.1 0 0) (.inr (10, [.ref (g.1 1 0), .ref (g.1 2 0), .int (gS st 2), .int (gS st 3), .int (gS st 1), .int (gS st 0), .int 3]))), rfl, RP.no (k := 3) (by unfold m_divide; first | (rw [chk_p hi9, chk_p (show eith p1 108 118 from Or.inr c15), chk_p hfi9, chk_n (fun q9 => q9 (unl_2 c21))]; done) | (rw [chk_p hi9, chk_p (show eith p1 108 118 from Or.inr c15), chk_p hfi9, chk_n (fun q9 => q9 (unl_2 c21))]; rfl)) (by decide) (hR.th 3 h_X (fun x9 e9 hx9 h0 => ((mu_n h0).trans ((mu_n h0).trans ((mu_n h0).trans (rfl)))).trans hx9)) rfl rfl, by rw [ht99]; exact hP, hI⟩, hS.F ht99⟩) hS.2.2 dX7_divide_101
            · skip
              refine lv_aload_n hx hb dX7_divide_77 rfl (lv_at hl 0 rfl) ?_
              refine m_getN (ci := 8) (v := .int (itS st (ix p0) 12)) (C := RX5) (T := TX5) (N := 17) hx hb hts i_X5 hown hK (hP _ _ h_I) rfl 7 (by decide) (va_Nw.use rfl (hG.2.1.2.1 ("MeniscusModel", 149, "MeniscusModel$Instrument", "ice", "I", "MeniscusModel") (by decide +kernel))) (fun _ h9 => h9) rfl dX7_divide_78 ?_
              refine lv_aload_n hx hb dX7_divide_81 rfl (lv_at hl 0 rfl) ?_
              refine m_getN (ci := 8) (v := .int (itS st (ix p0) 13)) (C := RX5) (T := TX5) (N := 17) hx hb hts i_X5 hown hK (hP _ _ h_I) rfl 8 (by decide) (va_Nw.use rfl (hG.2.1.2.1 ("MeniscusModel", 158, "MeniscusModel$Instrument", "steam", "I", "MeniscusModel") (by decide +kernel))) (fun _ h9 => h9) rfl dX7_divide_82 ?_
              refine lv_icmp_ne (tgt := 92) hx hb dX7_divide_85 (by decide) (fun c23 => ?_) (fun c23 => ?_)
              · skip
                refine lv_iconst (v := 0) hx hb dX7_divide_92 (by decide) ?_
                refine lv_iconst (v := 3) hx hb dX7_divide_93 (by decide) ?_
                refine m_calli (va_runV (As := [.int 0, .int 3]) (rest := []) ⟨hx, hb, hml, hown, hts⟩ (c_X7_isThrown0 l G A (mu (mu Mw (g.1 0 0) (.inr (10, [.ref (g.1 1 0), .ref (g.1 2 0), .int (gS st 2), .int (gS st 3), .int (gS st 1), .int (gS st 0), .int 0]))) (g.1 0 0) (.inr (10, [.ref (g.1 1 0), .ref (g.1 2 0), .int (gS st 2), .int (gS st 3), .int (gS st 1), .int (gS st 0), .int 0])))  3 h_X) (cwV 2 hts gX7_divide_X7_isThrown rfl rfl rfl (by decide +kernel) ⟨Nat.le_of_ble_eq_true rfl, Nat.le_of_ble_eq_true rfl⟩) (mPreV hG hS hP hI hA (hP _ _ h_X) (r := (RX7, TX7, 7)) rfl) rfl rfl hl.1 rfl (lv_room (Nat.le_of_ble_eq_true rfl)) dX7_divide_94 ⟨Nat.le_of_ble_eq_true rfl, Nat.le_of_ble_eq_true rfl⟩) hS (fun r24 Mw1 H locs hp_r24 hP hI hS => ?_)
                obtain ⟨hp_r24, hm9⟩ := hp_r24
                subst Mw1
                subst hp_r24
                have h_TL := mu_k (e := .inr (10, [.ref (g.1 1 0), .ref (g.1 2 0), .int (gS st 2), .int (gS st 3), .int (gS st 1), .int (gS st 0), .int 0])) (kd_ne h_TL h_X rfl) h_TL
                have h_IL := mu_k (e := .inr (10, [.ref (g.1 1 0), .ref (g.1 2 0), .int (gS st 2), .int (gS st 3), .int (gS st 1), .int (gS st 0), .int 0])) (kd_ne h_IL h_X rfl) h_IL
                have h_ID := mu_k (e := .inr (10, [.ref (g.1 1 0), .ref (g.1 2 0), .int (gS st 2), .int (gS st 3), .int (gS st 1), .int (gS st 0), .int 0])) (kd_ne h_ID h_X rfl) h_ID
                have h_I := mu_k (e := .inr (10, [.ref (g.1 1 0), .ref (g.1 2 0), .int (gS st 2), .int (gS st 3), .int (gS st 1), .int (gS st 0), .int 0])) (kd_ne h_I h_X rfl) h_I
                have h_X : (mu (mu (mu Mw (g.1 0 0) (.inr (10, [.ref (g.1 1 0), .ref (g.1 2 0), .int (gS st 2), .int (gS st 3), .int (gS st 1), .int (gS st 0), .int 0]))) (g.1 0 0) (.inr (10, [.ref (g.1 1 0), .ref (g.1 2 0), .int (gS st 2), .int (gS st 3), .int (gS st 1), .int (gS st 0), .int 0]))) (g.1 0 0) (.inr (10, [.ref (g.1 1 0), .ref (g.1 2 0), .int (gS st 2), .int (gS st 3), .int (gS st 1), .int (gS st 0), .int 0]))) (g.1 0 0) = some (.inr (10, [.ref (g.1 1 0), .ref (g.1 2 0), .int (gS st 2), .int (gS st 3), .int (gS st 1), .int (gS st 0), .int 0])) := mu_s
                refine lv_if_eq (tgt := 102) hx hb dX7_divide_97 (by decide) (fun _ => ?_) (fun h9 => absurd h9 (by decide))
                refine lv_aload_n hx hb dX7_divide_102 rfl (lv_at hl 0 rfl) ?_
                refine lv_iload_n hx hb dX7_divide_103 rfl (lv_at hl 3 rfl) ?_
                refine m_putN (ci := 8) (v := .int p1) (ty := .char) (C := RX5) (T := TX5) (N := 17) hx hb hts i_X5 tyX5 tyX5_ok nmX5 hown hK hP hI hS h_I rfl 10 (by decide) (va_Nw.use rfl (hG.2.1.2.1 ("MeniscusModel", 152, "MeniscusModel$Instrument", "kind", "C", "MeniscusModel") (by decide +kernel))) (fun _ h9 => h9) rfl (by decide +kernel) (nch (show eith p1 108 118 from Or.inr c15) ⟨rfl, rfl⟩ ⟨rfl, rfl⟩).1 (nch (show eith p1 108 118 from Or.inr c15) ⟨rfl, rfl⟩ ⟨rfl, rfl⟩).2 (Nat.le_of_ble_eq_true rfl) dX7_divide_104 (fun H locs hP hI hS => ?_)
                have hP : mP G.1 (mu (mu (mu (mu Mw (g.1 0 0) (.inr (10, [.ref (g.1 1 0), .ref (g.1 2 0), .int (gS st 2), .int (gS st 3), .int (gS st 1), .int (gS st 0), .int 0]))) (g.1 0 0) (.inr (10, [.ref (g.1 1 0), .ref (g.1 2 0), .int (gS st 2), .int (gS st 3), .int (gS st 1), .int (gS st 0), .int 0]))) (g.1 0 0) (.inr (10, [.ref (g.1 1 0), .ref (g.1 2 0), .int (gS st 2), .int (gS st 3), .int (gS st 1), .int (gS st 0), .int 0]))) (g.1 7 (ix p0)) (.inr (8, [.ref (g.1 5 (tbN st (ix p0))), .int (itS st (ix p0) 1), .int (sof (itS st (ix p0) 2)), .int (itS st (ix p0) 3), .int (itS st (ix p0) 7), .int (itS st (ix p0) 6), .int (itS st (ix p0) 5), .int (itS st (ix p0) 12), .int (itS st (ix p0) 13), .int (itS st (ix p0) 14), .int p1, .int (itS st (ix p0) 8), .int (itS st (ix p0) 9), .int (itS st (ix p0) 10), .int (ceR g (ix p0)), .ref (g.1 8 (ix p0)), .ref (g.1 9 (ix p0))]))) H := hP
                have hI : mI A (mu (mu (mu (mu Mw (g.1 0 0) (.inr (10, [.ref (g.1 1 0), .ref (g.1 2 0), .int (gS st 2), .int (gS st 3), .int (gS st 1), .int (gS st 0), .int 0]))) (g.1 0 0) (.inr (10, [.ref (g.1 1 0), .ref (g.1 2 0), .int (gS st 2), .int (gS st 3), .int (gS st 1), .int (gS st 0), .int 0]))) (g.1 0 0) (.inr (10, [.ref (g.1 1 0), .ref (g.1 2 0), .int (gS st 2), .int (gS st 3), .int (gS st 1), .int (gS st 0), .int 0]))) (g.1 7 (ix p0)) (.inr (8, [.ref (g.1 5 (tbN st (ix p0))), .int (itS st (ix p0) 1), .int (sof (itS st (ix p0) 2)), .int (itS st (ix p0) 3), .int (itS st (ix p0) 7), .int (itS st (ix p0) 6), .int (itS st (ix p0) 5), .int (itS st (ix p0) 12), .int (itS st (ix p0) 13), .int (itS st (ix p0) 14), .int p1, .int (itS st (ix p0) 8), .int (itS st (ix p0) 9), .int (itS st (ix p0) 10), .int (ceR g (ix p0)), .ref (g.1 8 (ix p0)), .ref (g.1 9 (ix p0))]))) := hI
                have h_X := mu_k (e := .inr (8, [.ref (g.1 5 (tbN st (ix p0))), .int (itS st (ix p0) 1), .int (sof (itS st (ix p0) 2)), .int (itS st (ix p0) 3), .int (itS st (ix p0) 7), .int (itS st (ix p0) 6), .int (itS st (ix p0) 5), .int (itS st (ix p0) 12), .int (itS st (ix p0) 13), .int (itS st (ix p0) 14), .int p1, .int (itS st (ix p0) 8), .int (itS st (ix p0) 9), .int (itS st (ix p0) 10), .int (ceR g (ix p0)), .ref (g.1 8 (ix p0)), .ref (g.1 9 (ix p0))])) (kd_ne h_X h_I rfl) h_X
                have h_TL := mu_k (e := .inr (8, [.ref (g.1 5 (tbN st (ix p0))), .int (itS st (ix p0) 1), .int (sof (itS st (ix p0) 2)), .int (itS st (ix p0) 3), .int (itS st (ix p0) 7), .int (itS st (ix p0) 6), .int (itS st (ix p0) 5), .int (itS st (ix p0) 12), .int (itS st (ix p0) 13), .int (itS st (ix p0) 14), .int p1, .int (itS st (ix p0) 8), .int (itS st (ix p0) 9), .int (itS st (ix p0) 10), .int (ceR g (ix p0)), .ref (g.1 8 (ix p0)), .ref (g.1 9 (ix p0))])) (kd_ne h_TL h_I rfl) h_TL
                have h_IL := mu_k (e := .inr (8, [.ref (g.1 5 (tbN st (ix p0))), .int (itS st (ix p0) 1), .int (sof (itS st (ix p0) 2)), .int (itS st (ix p0) 3), .int (itS st (ix p0) 7), .int (itS st (ix p0) 6), .int (itS st (ix p0) 5), .int (itS st (ix p0) 12), .int (itS st (ix p0) 13), .int (itS st (ix p0) 14), .int p1, .int (itS st (ix p0) 8), .int (itS st (ix p0) 9), .int (itS st (ix p0) 10), .int (ceR g (ix p0)), .ref (g.1 8 (ix p0)), .ref (g.1 9 (ix p0))])) (kd_ne h_IL h_I rfl) h_IL
                have h_ID := mu_k (e := .inr (8, [.ref (g.1 5 (tbN st (ix p0))), .int (itS st (ix p0) 1), .int (sof (itS st (ix p0) 2)), .int (itS st (ix p0) 3), .int (itS st (ix p0) 7), .int (itS st (ix p0) 6), .int (itS st (ix p0) 5), .int (itS st (ix p0) 12), .int (itS st (ix p0) 13), .int (itS st (ix p0) 14), .int p1, .int (itS st (ix p0) 8), .int (itS st (ix p0) 9), .int (itS st (ix p0) 10), .int (ceR g (ix p0)), .ref (g.1 8 (ix p0)), .ref (g.1 9 (ix p0))])) (kd_ne h_ID h_I rfl) h_ID
                have h_I : (mu (mu (mu (mu Mw (g.1 0 0) (.inr (10, [.ref (g.1 1 0), .ref (g.1 2 0), .int (gS st 2), .int (gS st 3), .int (gS st 1), .int (gS st 0), .int 0]))) (g.1 0 0) (.inr (10, [.ref (g.1 1 0), .ref (g.1 2 0), .int (gS st 2), .int (gS st 3), .int (gS st 1), .int (gS st 0), .int 0]))) (g.1 0 0) (.inr (10, [.ref (g.1 1 0), .ref (g.1 2 0), .int (gS st 2), .int (gS st 3), .int (gS st 1), .int (gS st 0), .int 0]))) (g.1 7 (ix p0)) (.inr (8, [.ref (g.1 5 (tbN st (ix p0))), .int (itS st (ix p0) 1), .int (sof (itS st (ix p0) 2)), .int (itS st (ix p0) 3), .int (itS st (ix p0) 7), .int (itS st (ix p0) 6), .int (itS st (ix p0) 5), .int (itS st (ix p0) 12), .int (itS st (ix p0) 13), .int (itS st (ix p0) 14), .int p1, .int (itS st (ix p0) 8), .int (itS st (ix p0) 9), .int (itS st (ix p0) 10), .int (ceR g (ix p0)), .ref (g.1 8 (ix p0)), .ref (g.1 9 (ix p0))]))) (g.1 7 (ix p0)) = some (.inr (8, [.ref (g.1 5 (tbN st (ix p0))), .int (itS st (ix p0) 1), .int (sof (itS st (ix p0) 2)), .int (itS st (ix p0) 3), .int (itS st (ix p0) 7), .int (itS st (ix p0) 6), .int (itS st (ix p0) 5), .int (itS st (ix p0) 12), .int (itS st (ix p0) 13), .int (itS st (ix p0) 14), .int p1, .int (itS st (ix p0) 8), .int (itS st (ix p0) 9), .int (itS st (ix p0) 10), .int (ceR g (ix p0)), .ref (g.1 8 (ix p0)), .ref (g.1 9 (ix p0))])) := mu_s
                refine lv_aload_n hx hb dX7_divide_107 rfl (lv_at hl 0 rfl) ?_
                refine m_getN (ci := 8) (v := .int (itS st (ix p0) 13)) (C := RX5) (T := TX5) (N := 17) hx hb hts i_X5 hown hK (hP _ _ h_I) rfl 8 (by decide) (va_Nw.use rfl (hG.2.1.2.1 ("MeniscusModel", 158, "MeniscusModel$Instrument", "steam", "I", "MeniscusModel") (by decide +kernel))) (fun _ h9 => h9) rfl dX7_divide_108 ?_
                refine lv_aload_n hx hb dX7_divide_111 rfl (lv_at hl 0 rfl) ?_
                refine m_getN (ci := 8) (v := .int (itS st (ix p0) 12)) (C := RX5) (T := TX5) (N := 17) hx hb hts i_X5 hown hK (hP _ _ h_I) rfl 7 (by decide) (va_Nw.use rfl (hG.2.1.2.1 ("MeniscusModel", 149, "MeniscusModel$Instrument", "ice", "I", "MeniscusModel") (by decide +kernel))) (fun _ h9 => h9) rfl dX7_divide_112 ?_
                refine lv_isub hx hb dX7_divide_115 ?_
                refine W.widen (k := 0) (n := 0) (Nat.le_of_ble_eq_true rfl) (Nat.le_of_ble_eq_true rfl) ?_
                exact W.iret (v := (itS st (ix p0) 13) - (itS st (ix p0) 12)) hx hb hr (fun t99 ht99 hW99 => ⟨⟨(itS st (ix p0) 13) - (itS st (ix p0) 12), (mu (mu (mu (mu Mw (g.1 0 0) (.inr (10, [.ref (g.1 1 0), .ref (g.1 2 0), .int (gS st 2), .int (gS st 3), .int (gS st 1), .int (gS st 0), .int 0]))) (g.1 0 0) (.inr (10, [.ref (g.1 1 0), .ref (g.1 2 0), .int (gS st 2), .int (gS st 3), .int (gS st 1), .int (gS st 0), .int 0]))) (g.1 0 0) (.inr (10, [.ref (g.1 1 0), .ref (g.1 2 0), .int (gS st 2), .int (gS st 3), .int (gS st 1), .int (gS st 0), .int 0]))) (g.1 7 (ix p0)) (.inr (8, [.ref (g.1 5 (tbN st (ix p0))), .int (itS st (ix p0) 1), .int (sof (itS st (ix p0) 2)), .int (itS st (ix p0) 3), .int (itS st (ix p0) 7), .int (itS st (ix p0) 6), .int (itS st (ix p0) 5), .int (itS st (ix p0) 12), .int (itS st (ix p0) 13), .int (itS st (ix p0) 14), .int p1, .int (itS st (ix p0) 8), .int (itS st (ix p0) 9), .int (itS st (ix p0) 10), .int (ceR g (ix p0)), .ref (g.1 8 (ix p0)), .ref (g.1 9 (ix p0))]))), rfl, RP.ok (by unfold m_divide; first | (rw [chk_p hi9, chk_p (show eith p1 108 118 from Or.inr c15), chk_p hfi9, chk_p (unl_p c19 c21 c23)]; done) | (rw [chk_p hi9, chk_p (show eith p1 108 118 from Or.inr c15), chk_p hfi9, chk_p (unl_p c19 c21 c23)]; rfl)) (hR.io hi9.2 (gS st) (fu (itS st (ix p0)) 15 p1) rfl (ceR g (ix p0)) 0 h_X h_I (fun x9 e9 hx9 h0 h1 => ((mu_n h1).trans ((mu_n h0).trans ((mu_n h0).trans ((mu_n h0).trans (rfl))))).trans hx9) ((hR.2.2.2.2 _ hi9.2).2.1)) rfl rfl, by rw [ht99]; exact hP, hI⟩, hS.F ht99⟩) hS.2.2 dX7_divide_116
              · skip
                refine lv_iconst (v := 1) hx hb dX7_divide_88 (by decide) ?_
                refine lv_goto (tgt := 93) hx hb dX7_divide_89 (by decide) ?_
                refine lv_iconst (v := 3) hx hb dX7_divide_93 (by decide) ?_
                refine m_calli (va_runV (As := [.int 1, .int 3]) (rest := []) ⟨hx, hb, hml, hown, hts⟩ (c_X7_isThrown1 l G A (mu (mu Mw (g.1 0 0) (.inr (10, [.ref (g.1 1 0), .ref (g.1 2 0), .int (gS st 2), .int (gS st 3), .int (gS st 1), .int (gS st 0), .int 0]))) (g.1 0 0) (.inr (10, [.ref (g.1 1 0), .ref (g.1 2 0), .int (gS st 2), .int (gS st 3), .int (gS st 1), .int (gS st 0), .int 0])))  3 h_X) (cwV 2 hts gX7_divide_X7_isThrown rfl rfl rfl (by decide +kernel) ⟨Nat.le_of_ble_eq_true rfl, Nat.le_of_ble_eq_true rfl⟩) (mPreV hG hS hP hI hA (hP _ _ h_X) (r := (RX7, TX7, 7)) rfl) rfl rfl hl.1 rfl (lv_room (Nat.le_of_ble_eq_true rfl)) dX7_divide_94 ⟨Nat.le_of_ble_eq_true rfl, Nat.le_of_ble_eq_true rfl⟩) hS (fun r25 Mw1 H locs hp_r25 hP hI hS => ?_)
                obtain ⟨hp_r25, hm9⟩ := hp_r25
                subst Mw1
                subst hp_r25
                have h_TL := mu_k (e := .inr (10, [.ref (g.1 1 0), .ref (g.1 2 0), .int (gS st 2), .int (gS st 3), .int (gS st 1), .int (gS st 0), .int 3])) (kd_ne h_TL h_X rfl) h_TL
                have h_IL := mu_k (e := .inr (10, [.ref (g.1 1 0), .ref (g.1 2 0), .int (gS st 2), .int (gS st 3), .int (gS st 1), .int (gS st 0), .int 3])) (kd_ne h_IL h_X rfl) h_IL
                have h_ID := mu_k (e := .inr (10, [.ref (g.1 1 0), .ref (g.1 2 0), .int (gS st 2), .int (gS st 3), .int (gS st 1), .int (gS st 0), .int 3])) (kd_ne h_ID h_X rfl) h_ID
                have h_I := mu_k (e := .inr (10, [.ref (g.1 1 0), .ref (g.1 2 0), .int (gS st 2), .int (gS st 3), .int (gS st 1), .int (gS st 0), .int 3])) (kd_ne h_I h_X rfl) h_I
                have h_X : (mu (mu (mu Mw (g.1 0 0) (.inr (10, [.ref (g.1 1 0), .ref (g.1 2 0), .int (gS st 2), .int (gS st 3), .int (gS st 1), .int (gS st 0), .int 0]))) (g.1 0 0) (.inr (10, [.ref (g.1 1 0), .ref (g.1 2 0), .int (gS st 2), .int (gS st 3), .int (gS st 1), .int (gS st 0), .int 0]))) (g.1 0 0) (.inr (10, [.ref (g.1 1 0), .ref (g.1 2 0), .int (gS st 2), .int (gS st 3), .int (gS st 1), .int (gS st 0), .int 3]))) (g.1 0 0) = some (.inr (10, [.ref (g.1 1 0), .ref (g.1 2 0), .int (gS st 2), .int (gS st 3), .int (gS st 1), .int (gS st 0), .int 3])) := mu_s
                refine lv_if_eq (tgt := 102) hx hb dX7_divide_97 (by decide) (fun h9 => absurd h9 (by decide)) (fun _ => ?_)
                refine lv_iconst (v := 0) hx hb dX7_divide_100 (by decide) ?_
                refine W.widen (k := 0) (n := 0) (Nat.le_of_ble_eq_true rfl) (Nat.le_of_ble_eq_true rfl) ?_
                exact W.iret (v := 0) hx hb hr (fun t99 ht99 hW99 => ⟨⟨0, (mu (mu (mu Mw (g.1 0 0) (.inr (10, [.ref (g.1 1 0), .ref (g.1 2 0), .int (gS st 2), .int (gS st 3), .int (gS st 1), .int (gS st 0), .int 0]))) (g.1 0 0) (.inr (10, [.ref (g.1 1 0), .ref (g.1 2 0), .int (gS st 2), .int (gS st 3), .int (gS st 1), .int (gS st 0), .int 0]))) (g.1 0 0) (.inr (10, [.ref (g.1 1 0), .ref (g.1 2 0), .int (gS st 2), .int (gS st 3), .int (gS st 1), .int (gS st 0), .int 3]))), rfl, RP.no (k := 3) (by unfold m_divide; first | (rw [chk_p hi9, chk_p (show eith p1 108 118 from Or.inr c15), chk_p hfi9, chk_n (fun q9 => q9 (unl_3 c23))]; done) | (rw [chk_p hi9, chk_p (show eith p1 108 118 from Or.inr c15), chk_p hfi9, chk_n (fun q9 => q9 (unl_3 c23))]; rfl)) (by decide) (hR.th 3 h_X (fun x9 e9 hx9 h0 => ((mu_n h0).trans ((mu_n h0).trans ((mu_n h0).trans (rfl)))).trans hx9)) rfl rfl, by rw [ht99]; exact hP, hI⟩, hS.F ht99⟩) hS.2.2 dX7_divide_101
        · subst hr9
          refine lv_if_ne (tgt := 88) hx hb dX7_divide_58 (by decide) (fun _ => ?_) (fun h9 => absurd h9 (by decide))
          refine lv_iconst (v := 1) hx hb dX7_divide_88 (by decide) ?_
          refine lv_goto (tgt := 93) hx hb dX7_divide_89 (by decide) ?_
          refine lv_iconst (v := 3) hx hb dX7_divide_93 (by decide) ?_
          refine m_calli (va_runV (As := [.int 1, .int 3]) (rest := []) ⟨hx, hb, hml, hown, hts⟩ (c_X7_isThrown1 l G A (mu (mu Mw (g.1 0 0) (.inr (10, [.ref (g.1 1 0), .ref (g.1 2 0), .int (gS st 2), .int (gS st 3), .int (gS st 1), .int (gS st 0), .int 0]))) (g.1 0 0) (.inr (10, [.ref (g.1 1 0), .ref (g.1 2 0), .int (gS st 2), .int (gS st 3), .int (gS st 1), .int (gS st 0), .int 0])))  3 h_X) (cwV 2 hts gX7_divide_X7_isThrown rfl rfl rfl (by decide +kernel) ⟨Nat.le_of_ble_eq_true rfl, Nat.le_of_ble_eq_true rfl⟩) (mPreV hG hS hP hI hA (hP _ _ h_X) (r := (RX7, TX7, 7)) rfl) rfl rfl hl.1 rfl (lv_room (Nat.le_of_ble_eq_true rfl)) dX7_divide_94 ⟨Nat.le_of_ble_eq_true rfl, Nat.le_of_ble_eq_true rfl⟩) hS (fun r26 Mw1 H locs hp_r26 hP hI hS => ?_)
          obtain ⟨hp_r26, hm9⟩ := hp_r26
          subst Mw1
          subst hp_r26
          have h_TL := mu_k (e := .inr (10, [.ref (g.1 1 0), .ref (g.1 2 0), .int (gS st 2), .int (gS st 3), .int (gS st 1), .int (gS st 0), .int 3])) (kd_ne h_TL h_X rfl) h_TL
          have h_IL := mu_k (e := .inr (10, [.ref (g.1 1 0), .ref (g.1 2 0), .int (gS st 2), .int (gS st 3), .int (gS st 1), .int (gS st 0), .int 3])) (kd_ne h_IL h_X rfl) h_IL
          have h_ID := mu_k (e := .inr (10, [.ref (g.1 1 0), .ref (g.1 2 0), .int (gS st 2), .int (gS st 3), .int (gS st 1), .int (gS st 0), .int 3])) (kd_ne h_ID h_X rfl) h_ID
          have h_I := mu_k (e := .inr (10, [.ref (g.1 1 0), .ref (g.1 2 0), .int (gS st 2), .int (gS st 3), .int (gS st 1), .int (gS st 0), .int 3])) (kd_ne h_I h_X rfl) h_I
          have h_X : (mu (mu (mu Mw (g.1 0 0) (.inr (10, [.ref (g.1 1 0), .ref (g.1 2 0), .int (gS st 2), .int (gS st 3), .int (gS st 1), .int (gS st 0), .int 0]))) (g.1 0 0) (.inr (10, [.ref (g.1 1 0), .ref (g.1 2 0), .int (gS st 2), .int (gS st 3), .int (gS st 1), .int (gS st 0), .int 0]))) (g.1 0 0) (.inr (10, [.ref (g.1 1 0), .ref (g.1 2 0), .int (gS st 2), .int (gS st 3), .int (gS st 1), .int (gS st 0), .int 3]))) (g.1 0 0) = some (.inr (10, [.ref (g.1 1 0), .ref (g.1 2 0), .int (gS st 2), .int (gS st 3), .int (gS st 1), .int (gS st 0), .int 3])) := mu_s
          refine lv_if_eq (tgt := 102) hx hb dX7_divide_97 (by decide) (fun h9 => absurd h9 (by decide)) (fun _ => ?_)
          refine lv_iconst (v := 0) hx hb dX7_divide_100 (by decide) ?_
          refine W.widen (k := 0) (n := 0) (Nat.le_of_ble_eq_true rfl) (Nat.le_of_ble_eq_true rfl) ?_
          exact W.iret (v := 0) hx hb hr (fun t99 ht99 hW99 => ⟨⟨0, (mu (mu (mu Mw (g.1 0 0) (.inr (10, [.ref (g.1 1 0), .ref (g.1 2 0), .int (gS st 2), .int (gS st 3), .int (gS st 1), .int (gS st 0), .int 0]))) (g.1 0 0) (.inr (10, [.ref (g.1 1 0), .ref (g.1 2 0), .int (gS st 2), .int (gS st 3), .int (gS st 1), .int (gS st 0), .int 0]))) (g.1 0 0) (.inr (10, [.ref (g.1 1 0), .ref (g.1 2 0), .int (gS st 2), .int (gS st 3), .int (gS st 1), .int (gS st 0), .int 3]))), rfl, RP.no (k := 3) (by unfold m_divide; first | (rw [chk_p hi9, chk_p (show eith p1 108 118 from Or.inr c15), chk_n (fun q9 => q9 ((hV.fil hi9.2).mp hq_r18))]; done) | (rw [chk_p hi9, chk_p (show eith p1 108 118 from Or.inr c15), chk_n (fun q9 => q9 ((hV.fil hi9.2).mp hq_r18))]; rfl)) (by decide) (hR.th 3 h_X (fun x9 e9 hx9 h0 => ((mu_n h0).trans ((mu_n h0).trans ((mu_n h0).trans (rfl)))).trans hx9)) rfl rfl, by rw [ht99]; exact hP, hI⟩, hS.F ht99⟩) hS.2.2 dX7_divide_101
      · skip
        refine lv_iconst (v := 1) hx hb dX7_divide_26 (by decide) ?_
        refine lv_goto (tgt := 31) hx hb dX7_divide_27 (by decide) ?_
        refine lv_iconst (v := 2) hx hb dX7_divide_31 (by decide) ?_
        refine m_calli (va_runV (As := [.int 1, .int 2]) (rest := []) ⟨hx, hb, hml, hown, hts⟩ (c_X7_isThrown1 l G A (mu Mw (g.1 0 0) (.inr (10, [.ref (g.1 1 0), .ref (g.1 2 0), .int (gS st 2), .int (gS st 3), .int (gS st 1), .int (gS st 0), .int 0])))  2 h_X) (cwV 2 hts gX7_divide_X7_isThrown rfl rfl rfl (by decide +kernel) ⟨Nat.le_of_ble_eq_true rfl, Nat.le_of_ble_eq_true rfl⟩) (mPreV hG hS hP hI hA (hP _ _ h_X) (r := (RX7, TX7, 7)) rfl) rfl rfl hl.1 rfl (lv_room (Nat.le_of_ble_eq_true rfl)) dX7_divide_32 ⟨Nat.le_of_ble_eq_true rfl, Nat.le_of_ble_eq_true rfl⟩) hS (fun r27 Mw1 H locs hp_r27 hP hI hS => ?_)
        obtain ⟨hp_r27, hm9⟩ := hp_r27
        subst Mw1
        subst hp_r27
        have h_TL := mu_k (e := .inr (10, [.ref (g.1 1 0), .ref (g.1 2 0), .int (gS st 2), .int (gS st 3), .int (gS st 1), .int (gS st 0), .int 2])) (kd_ne h_TL h_X rfl) h_TL
        have h_IL := mu_k (e := .inr (10, [.ref (g.1 1 0), .ref (g.1 2 0), .int (gS st 2), .int (gS st 3), .int (gS st 1), .int (gS st 0), .int 2])) (kd_ne h_IL h_X rfl) h_IL
        have h_ID := mu_k (e := .inr (10, [.ref (g.1 1 0), .ref (g.1 2 0), .int (gS st 2), .int (gS st 3), .int (gS st 1), .int (gS st 0), .int 2])) (kd_ne h_ID h_X rfl) h_ID
        have h_I := mu_k (e := .inr (10, [.ref (g.1 1 0), .ref (g.1 2 0), .int (gS st 2), .int (gS st 3), .int (gS st 1), .int (gS st 0), .int 2])) (kd_ne h_I h_X rfl) h_I
        have h_X : (mu (mu Mw (g.1 0 0) (.inr (10, [.ref (g.1 1 0), .ref (g.1 2 0), .int (gS st 2), .int (gS st 3), .int (gS st 1), .int (gS st 0), .int 0]))) (g.1 0 0) (.inr (10, [.ref (g.1 1 0), .ref (g.1 2 0), .int (gS st 2), .int (gS st 3), .int (gS st 1), .int (gS st 0), .int 2]))) (g.1 0 0) = some (.inr (10, [.ref (g.1 1 0), .ref (g.1 2 0), .int (gS st 2), .int (gS st 3), .int (gS st 1), .int (gS st 0), .int 2])) := mu_s
        refine lv_if_eq (tgt := 40) hx hb dX7_divide_35 (by decide) (fun h9 => absurd h9 (by decide)) (fun _ => ?_)
        refine lv_iconst (v := 0) hx hb dX7_divide_38 (by decide) ?_
        refine W.widen (k := 0) (n := 0) (Nat.le_of_ble_eq_true rfl) (Nat.le_of_ble_eq_true rfl) ?_
        exact W.iret (v := 0) hx hb hr (fun t99 ht99 hW99 => ⟨⟨0, (mu (mu Mw (g.1 0 0) (.inr (10, [.ref (g.1 1 0), .ref (g.1 2 0), .int (gS st 2), .int (gS st 3), .int (gS st 1), .int (gS st 0), .int 0]))) (g.1 0 0) (.inr (10, [.ref (g.1 1 0), .ref (g.1 2 0), .int (gS st 2), .int (gS st 3), .int (gS st 1), .int (gS st 0), .int 2]))), rfl, RP.no (k := 2) (by unfold m_divide; first | (rw [chk_p hi9, chk_n (show ¬ eith p1 108 118 from fun q9 => q9.elim c3 c15)]; done) | (rw [chk_p hi9, chk_n (show ¬ eith p1 108 118 from fun q9 => q9.elim c3 c15)]; rfl)) (by decide) (hR.th 2 h_X (fun x9 e9 hx9 h0 => ((mu_n h0).trans ((mu_n h0).trans (rfl))).trans hx9)) rfl rfl, by rw [ht99]; exact hP, hI⟩, hS.F ht99⟩) hS.2.2 dX7_divide_39
  · subst hr9
    refine lv_iconst (v := 1) hx hb dX7_divide_6 (by decide) ?_
    refine m_calli (va_runV (As := [.int 1, .int 1]) (rest := []) ⟨hx, hb, hml, hown, hts⟩ (c_X7_isThrown1 l G A Mw  1 h_X) (cwV 2 hts gX7_divide_X7_isThrown rfl rfl rfl (by decide +kernel) ⟨Nat.le_of_ble_eq_true rfl, Nat.le_of_ble_eq_true rfl⟩) (mPreV hG hS hP hI hA (hP _ _ h_X) (r := (RX7, TX7, 7)) rfl) rfl rfl hl.1 rfl (lv_room (Nat.le_of_ble_eq_true rfl)) dX7_divide_7 ⟨Nat.le_of_ble_eq_true rfl, Nat.le_of_ble_eq_true rfl⟩) hS (fun r28 Mw1 H locs hp_r28 hP hI hS => ?_)
    obtain ⟨hp_r28, hm9⟩ := hp_r28
    subst Mw1
    subst hp_r28
    have h_TL := mu_k (e := .inr (10, [.ref (g.1 1 0), .ref (g.1 2 0), .int (gS st 2), .int (gS st 3), .int (gS st 1), .int (gS st 0), .int 1])) (kd_ne h_TL h_X rfl) h_TL
    have h_IL := mu_k (e := .inr (10, [.ref (g.1 1 0), .ref (g.1 2 0), .int (gS st 2), .int (gS st 3), .int (gS st 1), .int (gS st 0), .int 1])) (kd_ne h_IL h_X rfl) h_IL
    have h_X : (mu Mw (g.1 0 0) (.inr (10, [.ref (g.1 1 0), .ref (g.1 2 0), .int (gS st 2), .int (gS st 3), .int (gS st 1), .int (gS st 0), .int 1]))) (g.1 0 0) = some (.inr (10, [.ref (g.1 1 0), .ref (g.1 2 0), .int (gS st 2), .int (gS st 3), .int (gS st 1), .int (gS st 0), .int 1])) := mu_s
    refine lv_if_ne (tgt := 38) hx hb dX7_divide_10 (by decide) (fun _ => ?_) (fun h9 => absurd h9 (by decide))
    refine lv_iconst (v := 0) hx hb dX7_divide_38 (by decide) ?_
    refine W.widen (k := 0) (n := 0) (Nat.le_of_ble_eq_true rfl) (Nat.le_of_ble_eq_true rfl) ?_
    exact W.iret (v := 0) hx hb hr (fun t99 ht99 hW99 => ⟨⟨0, (mu Mw (g.1 0 0) (.inr (10, [.ref (g.1 1 0), .ref (g.1 2 0), .int (gS st 2), .int (gS st 3), .int (gS st 1), .int (gS st 0), .int 1]))), rfl, RP.no (k := 1) (by unfold m_divide; first | (rw [chk_n hq_r1]; done) | (rw [chk_n hq_r1]; rfl)) (by decide) (hR.th 1 h_X (fun x9 e9 hx9 h0 => ((mu_n h0).trans (rfl)).trans hx9)) rfl rfl, by rw [ht99]; exact hP, hI⟩, hS.F ht99⟩) hS.2.2 dX7_divide_39

set_option maxHeartbeats 4000000 in
set_option maxRecDepth 100000 in
theorem c_X7_readsAt (l : Launch) (G : mg) (A : Nat → Prop) (Mw : mw) (st : St) (g : gR) (p0 p1 : Int32) (hR : RS G st g Mw) (hV : Inv st) : Met l yX7_readsAt wsX7_readsAt ({ frames := 3, cells := 0, slots := 0, locals := 64 }) (va_Pc [.ref (g.1 0 0), .int p0, .int p1] (mB G A Mw)) (va_Qi (fun r Mw1 => RP G (m_readsAt st p0 p1) g r Mw1) (mE G A) A) 0 0 A := by
  refine Met.ofW (cc := cX7_readsAt) (maxL := 3) (ret := (some .int)) (by decide) rfl ?_
  intro p e s m args below meth c s₁ B hml hv
  obtain ⟨rfl, hG, hP, hI, hA⟩ := hv
  have hx := B.exec
  have hb := B.bytes
  have hr := B.returns
  have hts := atoms_spec (ws := wsX7_readsAt) B.pre
  have hown : s.vm.findClass RX7 = some m.cls := findClass_of_methodNamed B.named
  have hlocks := B.notSynchronized
  have hK := hG.K
  have i_X5 : ∀ w ∈ wsX50, w ∈ wsX7_readsAt := by decide +kernel
  have i_X7 : ∀ w ∈ wsX70, w ∈ wsX7_readsAt := by decide +kernel
  have hS : va_S A s.heap s.heap [] := va_S.rf
  have hl := lv_entry ([.ref (g.1 0 0), .int p0, .int p1]) (n := 3) (Nat.le_of_ble_eq_true rfl)
  rw [lg_entry_eq]
  generalize (lg_sl ([.ref (g.1 0 0), .int p0, .int p1]) ++ List.replicate (3 - (lg_sl ([.ref (g.1 0 0), .int p0, .int p1])).length) Slot.unset).toArray = ls at hl ⊢
  have hl : lv_has ls 3 [(0, .ref (g.1 0 0)), (1, .int p0), (2, .int p1)] := hl
  have hP : mP G.1 Mw s.heap := hP
  have h_X : Mw (g.1 0 0) = some (.inr (10, [.ref (g.1 1 0), .ref (g.1 2 0), .int (gS st 2), .int (gS st 3), .int (gS st 1), .int (gS st 0), .int (thR g)])) := hR.1 0 0 ro0
  have h_TL : Mw (g.1 1 0) = some (.inr (2, [.int (mcR g 1 0), .ref (g.1 3 0), .int ((nI (nT st)))])) := hR.1 1 0 ro1
  have h_IL : Mw (g.1 2 0) = some (.inr (2, [.int (mcR g 2 0), .ref (g.1 4 0), .int ((nI (nN st)))])) := hR.1 2 0 ro2
  have hti9 := hR.ne ro1 ro2 (by omega)
  have hnT8 := hV.1.1
  have hnN8 := Nat.le_trans hV.1.2 (show 6 ≤ 8 by decide)
  refine lv_aload_n hx hb dX7_readsAt_0 rfl (lv_at hl 0 rfl) ?_
  refine lv_aload_n hx hb dX7_readsAt_1 rfl (lv_at hl 0 rfl) ?_
  refine lv_iload_n hx hb dX7_readsAt_2 rfl (lv_at hl 1 rfl) ?_
  refine m_calli (va_runV (As := [.int p0]) (rest := [.ref (g.1 0 0)]) ⟨hx, hb, hml, hown, hts⟩ (c_X7_isNone l G A Mw  p0 h_X h_IL hnN8) (cwV 1 hts gX7_readsAt_X7_isNone rfl rfl rfl (by decide +kernel) ⟨Nat.le_of_ble_eq_true rfl, Nat.le_of_ble_eq_true rfl⟩) (mPreV hG hS hP hI hA (hP _ _ h_X) (r := (RX7, TX7, 7)) rfl) rfl rfl hl.1 rfl (lv_room (Nat.le_of_ble_eq_true rfl)) dX7_readsAt_3 ⟨Nat.le_of_ble_eq_true rfl, Nat.le_of_ble_eq_true rfl⟩) hS (fun r1 Mw1 H locs hp_r1 hP hI hS => ?_)
  obtain ⟨hb9, hm9⟩ := hp_r1
  subst Mw1
  rcases hb9 with ⟨hr9, hq_r1⟩ | ⟨hr9, hq_r1⟩
  · subst hr9
    have hi9 := hq_r1
    have e_p0 : p0 = nI (ix p0) := nI_cl hi9.1
    rw [e_p0] at hl
    have hf4 := hR.f4 hi9.2
    have h_ID : Mw (g.1 4 0) = some (.inl (G.2.1 5, 10, .inr (.inr (.inr (.inr (qf (nN st) (g.1 7))))))) := hR.1 4 0 (ro4 hf4)
    have h_I : Mw (g.1 7 (ix p0)) = some (.inr (8, [.ref (g.1 5 (tbN st (ix p0))), .int (itS st (ix p0) 1), .int (sof (itS st (ix p0) 2)), .int (itS st (ix p0) 3), .int (itS st (ix p0) 7), .int (itS st (ix p0) 6), .int (itS st (ix p0) 5), .int (itS st (ix p0) 12), .int (itS st (ix p0) 13), .int (itS st (ix p0) 14), .int (itS st (ix p0) 15), .int (itS st (ix p0) 8), .int (itS st (ix p0) 9), .int (itS st (ix p0) 10), .int (ceR g (ix p0)), .ref (g.1 8 (ix p0)), .ref (g.1 9 (ix p0))])) := hR.1 7 _ (ro7 hi9.2)
    have hT9 := hV.tb hi9.2
    have h_T : Mw (g.1 5 (tbN st (ix p0))) = some (.inr (9, [.ref (g.1 6 (tbN st (ix p0))), .int (usS st (tbN st (ix p0)))])) := hR.1 5 _ (ro5 hT9)
    have h_B : Mw (g.1 6 (tbN st (ix p0))) = some (.inl (G.2.1 0, 20, .inl (boS st (tbN st (ix p0))))) := hR.1 6 _ (ro6 hT9)
    refine lv_iconst (v := 1) hx hb dX7_readsAt_6 (by decide) ?_
    refine m_calli (va_runV (As := [.int 0, .int 1]) (rest := []) ⟨hx, hb, hml, hown, hts⟩ (c_X7_isThrown0 l G A Mw  1 h_X) (cwV 2 hts gX7_readsAt_X7_isThrown rfl rfl rfl (by decide +kernel) ⟨Nat.le_of_ble_eq_true rfl, Nat.le_of_ble_eq_true rfl⟩) (mPreV hG hS hP hI hA (hP _ _ h_X) (r := (RX7, TX7, 7)) rfl) rfl rfl hl.1 rfl (lv_room (Nat.le_of_ble_eq_true rfl)) dX7_readsAt_7 ⟨Nat.le_of_ble_eq_true rfl, Nat.le_of_ble_eq_true rfl⟩) hS (fun r2 Mw1 H locs hp_r2 hP hI hS => ?_)
    obtain ⟨hp_r2, hm9⟩ := hp_r2
    subst Mw1
    subst hp_r2
    have h_TL := mu_k (e := .inr (10, [.ref (g.1 1 0), .ref (g.1 2 0), .int (gS st 2), .int (gS st 3), .int (gS st 1), .int (gS st 0), .int 0])) (kd_ne h_TL h_X rfl) h_TL
    have h_IL := mu_k (e := .inr (10, [.ref (g.1 1 0), .ref (g.1 2 0), .int (gS st 2), .int (gS st 3), .int (gS st 1), .int (gS st 0), .int 0])) (kd_ne h_IL h_X rfl) h_IL
    have h_ID := mu_k (e := .inr (10, [.ref (g.1 1 0), .ref (g.1 2 0), .int (gS st 2), .int (gS st 3), .int (gS st 1), .int (gS st 0), .int 0])) (kd_ne h_ID h_X rfl) h_ID
    have h_I := mu_k (e := .inr (10, [.ref (g.1 1 0), .ref (g.1 2 0), .int (gS st 2), .int (gS st 3), .int (gS st 1), .int (gS st 0), .int 0])) (kd_ne h_I h_X rfl) h_I
    have h_T := mu_k (e := .inr (10, [.ref (g.1 1 0), .ref (g.1 2 0), .int (gS st 2), .int (gS st 3), .int (gS st 1), .int (gS st 0), .int 0])) (kd_ne h_T h_X rfl) h_T
    have h_B := mu_k (e := .inr (10, [.ref (g.1 1 0), .ref (g.1 2 0), .int (gS st 2), .int (gS st 3), .int (gS st 1), .int (gS st 0), .int 0])) (kd_ne h_B h_X rfl) h_B
    have h_X : (mu Mw (g.1 0 0) (.inr (10, [.ref (g.1 1 0), .ref (g.1 2 0), .int (gS st 2), .int (gS st 3), .int (gS st 1), .int (gS st 0), .int 0]))) (g.1 0 0) = some (.inr (10, [.ref (g.1 1 0), .ref (g.1 2 0), .int (gS st 2), .int (gS st 3), .int (gS st 1), .int (gS st 0), .int 0])) := mu_s
    refine lv_if_ne (tgt := 57) hx hb dX7_readsAt_10 (by decide) (fun h9 => absurd h9 (by decide)) (fun _ => ?_)
    refine lv_aload_n hx hb dX7_readsAt_13 rfl (lv_at hl 0 rfl) ?_
    refine lv_iload_n hx hb dX7_readsAt_14 rfl (lv_at hl 2 rfl) ?_
    refine m_calli (va_runS (As := [.int p1]) (rest := [.ref (g.1 0 0)]) ⟨hx, hb, hml, hown, hts⟩ (c_X7_isNoPlace l G A (mu Mw (g.1 0 0) (.inr (10, [.ref (g.1 1 0), .ref (g.1 2 0), .int (gS st 2), .int (gS st 3), .int (gS st 1), .int (gS st 0), .int 0])))  p1) (va_cwS 1 hts gX7_readsAt_X7_isNoPlace rfl rfl rfl (by decide +kernel) ⟨Nat.le_of_ble_eq_true rfl, Nat.le_of_ble_eq_true rfl⟩) (mPreS hG hS hP hI hA) rfl rfl hl.1 rfl (lv_room (Nat.le_of_ble_eq_true rfl)) dX7_readsAt_15 ⟨Nat.le_of_ble_eq_true rfl, Nat.le_of_ble_eq_true rfl⟩) hS (fun r3 Mw1 H locs hp_r3 hP hI hS => ?_)
    obtain ⟨hb9, hm9⟩ := hp_r3
    subst Mw1
    rcases hb9 with ⟨hr9, hq_r3⟩ | ⟨hr9, hq_r3⟩
    · subst hr9
      have e_p1 : p1 = nI (ix p1) := nI_cl hq_r3.1
      rw [e_p1] at hl
      have hk_p1 := rg200 hq_r3
      have hv_p1 := hq_r3
      refine lv_iconst (v := 2) hx hb dX7_readsAt_18 (by decide) ?_
      refine m_calli (va_runV (As := [.int 0, .int 2]) (rest := []) ⟨hx, hb, hml, hown, hts⟩ (c_X7_isThrown0 l G A (mu Mw (g.1 0 0) (.inr (10, [.ref (g.1 1 0), .ref (g.1 2 0), .int (gS st 2), .int (gS st 3), .int (gS st 1), .int (gS st 0), .int 0])))  2 h_X) (cwV 2 hts gX7_readsAt_X7_isThrown rfl rfl rfl (by decide +kernel) ⟨Nat.le_of_ble_eq_true rfl, Nat.le_of_ble_eq_true rfl⟩) (mPreV hG hS hP hI hA (hP _ _ h_X) (r := (RX7, TX7, 7)) rfl) rfl rfl hl.1 rfl (lv_room (Nat.le_of_ble_eq_true rfl)) dX7_readsAt_19 ⟨Nat.le_of_ble_eq_true rfl, Nat.le_of_ble_eq_true rfl⟩) hS (fun r4 Mw1 H locs hp_r4 hP hI hS => ?_)
      obtain ⟨hp_r4, hm9⟩ := hp_r4
      subst Mw1
      subst hp_r4
      have h_TL := mu_k (e := .inr (10, [.ref (g.1 1 0), .ref (g.1 2 0), .int (gS st 2), .int (gS st 3), .int (gS st 1), .int (gS st 0), .int 0])) (kd_ne h_TL h_X rfl) h_TL
      have h_IL := mu_k (e := .inr (10, [.ref (g.1 1 0), .ref (g.1 2 0), .int (gS st 2), .int (gS st 3), .int (gS st 1), .int (gS st 0), .int 0])) (kd_ne h_IL h_X rfl) h_IL
      have h_ID := mu_k (e := .inr (10, [.ref (g.1 1 0), .ref (g.1 2 0), .int (gS st 2), .int (gS st 3), .int (gS st 1), .int (gS st 0), .int 0])) (kd_ne h_ID h_X rfl) h_ID
      have h_I := mu_k (e := .inr (10, [.ref (g.1 1 0), .ref (g.1 2 0), .int (gS st 2), .int (gS st 3), .int (gS st 1), .int (gS st 0), .int 0])) (kd_ne h_I h_X rfl) h_I
      have h_T := mu_k (e := .inr (10, [.ref (g.1 1 0), .ref (g.1 2 0), .int (gS st 2), .int (gS st 3), .int (gS st 1), .int (gS st 0), .int 0])) (kd_ne h_T h_X rfl) h_T
      have h_B := mu_k (e := .inr (10, [.ref (g.1 1 0), .ref (g.1 2 0), .int (gS st 2), .int (gS st 3), .int (gS st 1), .int (gS st 0), .int 0])) (kd_ne h_B h_X rfl) h_B
      have h_X : (mu (mu Mw (g.1 0 0) (.inr (10, [.ref (g.1 1 0), .ref (g.1 2 0), .int (gS st 2), .int (gS st 3), .int (gS st 1), .int (gS st 0), .int 0]))) (g.1 0 0) (.inr (10, [.ref (g.1 1 0), .ref (g.1 2 0), .int (gS st 2), .int (gS st 3), .int (gS st 1), .int (gS st 0), .int 0]))) (g.1 0 0) = some (.inr (10, [.ref (g.1 1 0), .ref (g.1 2 0), .int (gS st 2), .int (gS st 3), .int (gS st 1), .int (gS st 0), .int 0])) := mu_s
      refine lv_if_ne (tgt := 57) hx hb dX7_readsAt_22 (by decide) (fun h9 => absurd h9 (by decide)) (fun _ => ?_)
      refine lv_aload_n hx hb dX7_readsAt_25 rfl (lv_at hl 0 rfl) ?_
      refine lv_aload_n hx hb dX7_readsAt_26 rfl (lv_at hl 0 rfl) ?_
      refine m_get (ci := 10) (v := .ref (g.1 2 0)) (C := RX7) (T := TX7) (N := 7) hx hb hts i_X7 hown hK (hP _ _ h_X) rfl 1 (by decide) (hts (.fieldLink RX7 16 "MeniscusModel" "instruments" "Ljava/util/ArrayList;") (by decide +kernel)) (fun _ h9 => h9) rfl dX7_readsAt_27 ?_
      refine lv_iload_n hx hb dX7_readsAt_30 rfl (lv_at hl 1 rfl) ?_
      refine m_callq (va_runV (As := [.int (nI (ix p0))]) (rest := [.ref (g.1 0 0)]) ⟨hx, hb, hml, hown, hts⟩ (c_Jx4a65c_get_915e3 l G A (mu (mu Mw (g.1 0 0) (.inr (10, [.ref (g.1 1 0), .ref (g.1 2 0), .int (gS st 2), .int (gS st 3), .int (gS st 1), .int (gS st 0), .int 0]))) (g.1 0 0) (.inr (10, [.ref (g.1 1 0), .ref (g.1 2 0), .int (gS st 2), .int (gS st 3), .int (gS st 1), .int (gS st 0), .int 0])))  h_IL h_ID (ix p0) (g.1 7 (ix p0)) hi9.2 hnN8 (qf_p hi9.2)) (cwV 1 hts gX7_readsAt_Jx4a65c_get_915e3 rfl rfl rfl (by decide +kernel) ⟨Nat.le_of_ble_eq_true rfl, Nat.le_of_ble_eq_true rfl⟩) (mPreV hG hS hP hI hA (hP _ _ h_IL) (r := (RJx4a65c, TJx4a65c, 3)) rfl) rfl rfl hl.1 rfl (lv_room (Nat.le_of_ble_eq_true rfl)) dX7_readsAt_31 ⟨Nat.le_of_ble_eq_true rfl, Nat.le_of_ble_eq_true rfl⟩) hS (fun r5 Mw1 H locs hp_r5 hP hI hS => ?_)
      obtain ⟨hp_r5, hm9⟩ := hp_r5
      subst Mw1
      subst hp_r5
      refine va_castE hx hb hown (hts (.classLink RX7 79 RX5) (by decide +kernel)) (va_recv hK (va_at.one (hP _ _ h_I)) (q0 := 0) (q := (RX5, TX5, 17)) rfl rfl) dX7_readsAt_34 ?_
      refine m_getN (ci := 8) (v := .int (itS st (ix p0) 15)) (C := RX5) (T := TX5) (N := 17) hx hb hts i_X5 hown hK (hP _ _ h_I) rfl 10 (by decide) (va_Nw.use rfl (hG.2.1.2.1 ("MeniscusModel", 152, "MeniscusModel$Instrument", "kind", "C", "MeniscusModel") (by decide +kernel))) (fun _ h9 => h9) rfl dX7_readsAt_37 ?_
      refine lv_bipush (v := (32)) hx hb dX7_readsAt_40 (by decide) ?_
      refine lv_icmp_ne (tgt := 49) hx hb dX7_readsAt_42 (by decide) (fun c6 => ?_) (fun c6 => ?_)
      · skip
        obtain ⟨sk9, se9, ss9, ee9, es9, sn9, st1, st2⟩ := hV.sc hi9.2 c6
        have hbb9 := (hV.2.1 _ hT9).1
        refine lv_iconst (v := 0) hx hb dX7_readsAt_49 (by decide) ?_
        refine lv_iconst (v := 3) hx hb dX7_readsAt_50 (by decide) ?_
        refine m_calli (va_runV (As := [.int 0, .int 3]) (rest := []) ⟨hx, hb, hml, hown, hts⟩ (c_X7_isThrown0 l G A (mu (mu Mw (g.1 0 0) (.inr (10, [.ref (g.1 1 0), .ref (g.1 2 0), .int (gS st 2), .int (gS st 3), .int (gS st 1), .int (gS st 0), .int 0]))) (g.1 0 0) (.inr (10, [.ref (g.1 1 0), .ref (g.1 2 0), .int (gS st 2), .int (gS st 3), .int (gS st 1), .int (gS st 0), .int 0])))  3 h_X) (cwV 2 hts gX7_readsAt_X7_isThrown rfl rfl rfl (by decide +kernel) ⟨Nat.le_of_ble_eq_true rfl, Nat.le_of_ble_eq_true rfl⟩) (mPreV hG hS hP hI hA (hP _ _ h_X) (r := (RX7, TX7, 7)) rfl) rfl rfl hl.1 rfl (lv_room (Nat.le_of_ble_eq_true rfl)) dX7_readsAt_51 ⟨Nat.le_of_ble_eq_true rfl, Nat.le_of_ble_eq_true rfl⟩) hS (fun r7 Mw1 H locs hp_r7 hP hI hS => ?_)
        obtain ⟨hp_r7, hm9⟩ := hp_r7
        subst Mw1
        subst hp_r7
        have h_TL := mu_k (e := .inr (10, [.ref (g.1 1 0), .ref (g.1 2 0), .int (gS st 2), .int (gS st 3), .int (gS st 1), .int (gS st 0), .int 0])) (kd_ne h_TL h_X rfl) h_TL
        have h_IL := mu_k (e := .inr (10, [.ref (g.1 1 0), .ref (g.1 2 0), .int (gS st 2), .int (gS st 3), .int (gS st 1), .int (gS st 0), .int 0])) (kd_ne h_IL h_X rfl) h_IL
        have h_ID := mu_k (e := .inr (10, [.ref (g.1 1 0), .ref (g.1 2 0), .int (gS st 2), .int (gS st 3), .int (gS st 1), .int (gS st 0), .int 0])) (kd_ne h_ID h_X rfl) h_ID
        have h_I := mu_k (e := .inr (10, [.ref (g.1 1 0), .ref (g.1 2 0), .int (gS st 2), .int (gS st 3), .int (gS st 1), .int (gS st 0), .int 0])) (kd_ne h_I h_X rfl) h_I
        have h_T := mu_k (e := .inr (10, [.ref (g.1 1 0), .ref (g.1 2 0), .int (gS st 2), .int (gS st 3), .int (gS st 1), .int (gS st 0), .int 0])) (kd_ne h_T h_X rfl) h_T
        have h_B := mu_k (e := .inr (10, [.ref (g.1 1 0), .ref (g.1 2 0), .int (gS st 2), .int (gS st 3), .int (gS st 1), .int (gS st 0), .int 0])) (kd_ne h_B h_X rfl) h_B
        have h_X : (mu (mu (mu Mw (g.1 0 0) (.inr (10, [.ref (g.1 1 0), .ref (g.1 2 0), .int (gS st 2), .int (gS st 3), .int (gS st 1), .int (gS st 0), .int 0]))) (g.1 0 0) (.inr (10, [.ref (g.1 1 0), .ref (g.1 2 0), .int (gS st 2), .int (gS st 3), .int (gS st 1), .int (gS st 0), .int 0]))) (g.1 0 0) (.inr (10, [.ref (g.1 1 0), .ref (g.1 2 0), .int (gS st 2), .int (gS st 3), .int (gS st 1), .int (gS st 0), .int 0]))) (g.1 0 0) = some (.inr (10, [.ref (g.1 1 0), .ref (g.1 2 0), .int (gS st 2), .int (gS st 3), .int (gS st 1), .int (gS st 0), .int 0])) := mu_s
        refine lv_if_eq (tgt := 59) hx hb dX7_readsAt_54 (by decide) (fun _ => ?_) (fun h9 => absurd h9 (by decide))
        refine lv_aload_n hx hb dX7_readsAt_59 rfl (lv_at hl 0 rfl) ?_
        refine m_get (ci := 10) (v := .ref (g.1 2 0)) (C := RX7) (T := TX7) (N := 7) hx hb hts i_X7 hown hK (hP _ _ h_X) rfl 1 (by decide) (hts (.fieldLink RX7 16 "MeniscusModel" "instruments" "Ljava/util/ArrayList;") (by decide +kernel)) (fun _ h9 => h9) rfl dX7_readsAt_60 ?_
        refine lv_iload_n hx hb dX7_readsAt_63 rfl (lv_at hl 1 rfl) ?_
        refine m_callq (va_runV (As := [.int (nI (ix p0))]) (rest := []) ⟨hx, hb, hml, hown, hts⟩ (c_Jx4a65c_get_915e3 l G A (mu (mu (mu Mw (g.1 0 0) (.inr (10, [.ref (g.1 1 0), .ref (g.1 2 0), .int (gS st 2), .int (gS st 3), .int (gS st 1), .int (gS st 0), .int 0]))) (g.1 0 0) (.inr (10, [.ref (g.1 1 0), .ref (g.1 2 0), .int (gS st 2), .int (gS st 3), .int (gS st 1), .int (gS st 0), .int 0]))) (g.1 0 0) (.inr (10, [.ref (g.1 1 0), .ref (g.1 2 0), .int (gS st 2), .int (gS st 3), .int (gS st 1), .int (gS st 0), .int 0])))  h_IL h_ID (ix p0) (g.1 7 (ix p0)) hi9.2 hnN8 (qf_p hi9.2)) (cwV 1 hts gX7_readsAt_Jx4a65c_get_915e3 rfl rfl rfl (by decide +kernel) ⟨Nat.le_of_ble_eq_true rfl, Nat.le_of_ble_eq_true rfl⟩) (mPreV hG hS hP hI hA (hP _ _ h_IL) (r := (RJx4a65c, TJx4a65c, 3)) rfl) rfl rfl hl.1 rfl (lv_room (Nat.le_of_ble_eq_true rfl)) dX7_readsAt_64 ⟨Nat.le_of_ble_eq_true rfl, Nat.le_of_ble_eq_true rfl⟩) hS (fun r8 Mw1 H locs hp_r8 hP hI hS => ?_)
        obtain ⟨hp_r8, hm9⟩ := hp_r8
        subst Mw1
        subst hp_r8
        refine va_castE hx hb hown (hts (.classLink RX7 79 RX5) (by decide +kernel)) (va_recv hK (va_at.one (hP _ _ h_I)) (q0 := 0) (q := (RX5, TX5, 17)) rfl rfl) dX7_readsAt_67 ?_
        have h_I9 : (mu (mu (mu Mw (g.1 0 0) (.inr (10, [.ref (g.1 1 0), .ref (g.1 2 0), .int (gS st 2), .int (gS st 3), .int (gS st 1), .int (gS st 0), .int 0]))) (g.1 0 0) (.inr (10, [.ref (g.1 1 0), .ref (g.1 2 0), .int (gS st 2), .int (gS st 3), .int (gS st 1), .int (gS st 0), .int 0]))) (g.1 0 0) (.inr (10, [.ref (g.1 1 0), .ref (g.1 2 0), .int (gS st 2), .int (gS st 3), .int (gS st 1), .int (gS st 0), .int 0]))) (g.1 7 (ix p0)) = some (.inr (8, [.ref (g.1 5 (tbN st (ix p0))), .int (itS st (ix p0) 1), .int (sof (itS st (ix p0) 2)), .int (itS st (ix p0) 3), .int (itS st (ix p0) 7), .int (itS st (ix p0) 6), .int (itS st (ix p0) 5), .int (nI (ix (itS st (ix p0) 12))), .int (nI (ix (itS st (ix p0) 13))), .int (itS st (ix p0) 14), .int (itS st (ix p0) 15), .int (itS st (ix p0) 8), .int (itS st (ix p0) 9), .int (itS st (ix p0) 10), .int (ceR g (ix p0)), .ref (g.1 8 (ix p0)), .ref (g.1 9 (ix p0))])) := h_I.trans (congrArg some (by rw [← ee9, ← es9]))
        refine lv_iload_n hx hb dX7_readsAt_70 rfl (lv_at hl 2 rfl) ?_
        refine m_calli (va_runV (As := [.int (nI (ix p1))]) (rest := []) ⟨hx, hb, hml, hown, hts⟩ (c_X5_readsAt l G A (mu (mu (mu Mw (g.1 0 0) (.inr (10, [.ref (g.1 1 0), .ref (g.1 2 0), .int (gS st 2), .int (gS st 3), .int (gS st 1), .int (gS st 0), .int 0]))) (g.1 0 0) (.inr (10, [.ref (g.1 1 0), .ref (g.1 2 0), .int (gS st 2), .int (gS st 3), .int (gS st 1), .int (gS st 0), .int 0]))) (g.1 0 0) (.inr (10, [.ref (g.1 1 0), .ref (g.1 2 0), .int (gS st 2), .int (gS st 3), .int (gS st 1), .int (gS st 0), .int 0])))  (ix p1) (ix (itS st (ix p0) 12)) (ix (itS st (ix p0) 13)) hk_p1 se9 ss9 h_I9 h_T h_B (rd_m sk9 hbb9 se9 ss9 (Nat.zero_le 200) sn9 st1 st2).1) (cwV 1 hts gX7_readsAt_X5_readsAt rfl rfl rfl (by decide +kernel) ⟨Nat.le_of_ble_eq_true rfl, Nat.le_of_ble_eq_true rfl⟩) (mPreV hG hS hP hI hA (hP _ _ h_I) (r := (RX5, TX5, 17)) rfl) rfl rfl hl.1 rfl (lv_room (Nat.le_of_ble_eq_true rfl)) dX7_readsAt_71 ⟨Nat.le_of_ble_eq_true rfl, Nat.le_of_ble_eq_true rfl⟩) hS (fun r9 Mw1 H locs hp_r9 hP hI hS => ?_)
        obtain ⟨hp_r9, hm9⟩ := hp_r9
        subst Mw1
        rw [(rd_m sk9 hbb9 se9 ss9 hk_p1 sn9 st1 st2).2, ← ee9, ← es9] at hp_r9
        refine W.widen (k := 0) (n := 0) (Nat.le_of_ble_eq_true rfl) (Nat.le_of_ble_eq_true rfl) ?_
        exact W.iret (v := r9) hx hb hr (fun t99 ht99 hW99 => ⟨⟨r9, (mu (mu (mu Mw (g.1 0 0) (.inr (10, [.ref (g.1 1 0), .ref (g.1 2 0), .int (gS st 2), .int (gS st 3), .int (gS st 1), .int (gS st 0), .int 0]))) (g.1 0 0) (.inr (10, [.ref (g.1 1 0), .ref (g.1 2 0), .int (gS st 2), .int (gS st 3), .int (gS st 1), .int (gS st 0), .int 0]))) (g.1 0 0) (.inr (10, [.ref (g.1 1 0), .ref (g.1 2 0), .int (gS st 2), .int (gS st 3), .int (gS st 1), .int (gS st 0), .int 0]))), rfl, RP.ok (by unfold m_readsAt; first | (rw [chk_p hi9, chk_p hq_r3, chk_p c6, show rdS st (ix p0) p1 = r9 from by rw [hp_r9, ← e_p1]; rfl]; done) | (rw [chk_p hi9, chk_p hq_r3, chk_p c6, show rdS st (ix p0) p1 = r9 from by rw [hp_r9, ← e_p1]; rfl]; rfl)) (hR.th 0 h_X (fun x9 e9 hx9 h0 => ((mu_n h0).trans ((mu_n h0).trans ((mu_n h0).trans (rfl)))).trans hx9)) rfl rfl, by rw [ht99]; exact hP, hI⟩, hS.F ht99⟩) hS.2.2 dX7_readsAt_74
      · skip
        refine lv_iconst (v := 1) hx hb dX7_readsAt_45 (by decide) ?_
        refine lv_goto (tgt := 50) hx hb dX7_readsAt_46 (by decide) ?_
        refine lv_iconst (v := 3) hx hb dX7_readsAt_50 (by decide) ?_
        refine m_calli (va_runV (As := [.int 1, .int 3]) (rest := []) ⟨hx, hb, hml, hown, hts⟩ (c_X7_isThrown1 l G A (mu (mu Mw (g.1 0 0) (.inr (10, [.ref (g.1 1 0), .ref (g.1 2 0), .int (gS st 2), .int (gS st 3), .int (gS st 1), .int (gS st 0), .int 0]))) (g.1 0 0) (.inr (10, [.ref (g.1 1 0), .ref (g.1 2 0), .int (gS st 2), .int (gS st 3), .int (gS st 1), .int (gS st 0), .int 0])))  3 h_X) (cwV 2 hts gX7_readsAt_X7_isThrown rfl rfl rfl (by decide +kernel) ⟨Nat.le_of_ble_eq_true rfl, Nat.le_of_ble_eq_true rfl⟩) (mPreV hG hS hP hI hA (hP _ _ h_X) (r := (RX7, TX7, 7)) rfl) rfl rfl hl.1 rfl (lv_room (Nat.le_of_ble_eq_true rfl)) dX7_readsAt_51 ⟨Nat.le_of_ble_eq_true rfl, Nat.le_of_ble_eq_true rfl⟩) hS (fun r10 Mw1 H locs hp_r10 hP hI hS => ?_)
        obtain ⟨hp_r10, hm9⟩ := hp_r10
        subst Mw1
        subst hp_r10
        have h_TL := mu_k (e := .inr (10, [.ref (g.1 1 0), .ref (g.1 2 0), .int (gS st 2), .int (gS st 3), .int (gS st 1), .int (gS st 0), .int 3])) (kd_ne h_TL h_X rfl) h_TL
        have h_IL := mu_k (e := .inr (10, [.ref (g.1 1 0), .ref (g.1 2 0), .int (gS st 2), .int (gS st 3), .int (gS st 1), .int (gS st 0), .int 3])) (kd_ne h_IL h_X rfl) h_IL
        have h_ID := mu_k (e := .inr (10, [.ref (g.1 1 0), .ref (g.1 2 0), .int (gS st 2), .int (gS st 3), .int (gS st 1), .int (gS st 0), .int 3])) (kd_ne h_ID h_X rfl) h_ID
        have h_I := mu_k (e := .inr (10, [.ref (g.1 1 0), .ref (g.1 2 0), .int (gS st 2), .int (gS st 3), .int (gS st 1), .int (gS st 0), .int 3])) (kd_ne h_I h_X rfl) h_I
        have h_T := mu_k (e := .inr (10, [.ref (g.1 1 0), .ref (g.1 2 0), .int (gS st 2), .int (gS st 3), .int (gS st 1), .int (gS st 0), .int 3])) (kd_ne h_T h_X rfl) h_T
        have h_B := mu_k (e := .inr (10, [.ref (g.1 1 0), .ref (g.1 2 0), .int (gS st 2), .int (gS st 3), .int (gS st 1), .int (gS st 0), .int 3])) (kd_ne h_B h_X rfl) h_B
        have h_X : (mu (mu (mu Mw (g.1 0 0) (.inr (10, [.ref (g.1 1 0), .ref (g.1 2 0), .int (gS st 2), .int (gS st 3), .int (gS st 1), .int (gS st 0), .int 0]))) (g.1 0 0) (.inr (10, [.ref (g.1 1 0), .ref (g.1 2 0), .int (gS st 2), .int (gS st 3), .int (gS st 1), .int (gS st 0), .int 0]))) (g.1 0 0) (.inr (10, [.ref (g.1 1 0), .ref (g.1 2 0), .int (gS st 2), .int (gS st 3), .int (gS st 1), .int (gS st 0), .int 3]))) (g.1 0 0) = some (.inr (10, [.ref (g.1 1 0), .ref (g.1 2 0), .int (gS st 2), .int (gS st 3), .int (gS st 1), .int (gS st 0), .int 3])) := mu_s
        refine lv_if_eq (tgt := 59) hx hb dX7_readsAt_54 (by decide) (fun h9 => absurd h9 (by decide)) (fun _ => ?_)
        refine lv_iconst (v := 0) hx hb dX7_readsAt_57 (by decide) ?_
        refine W.widen (k := 0) (n := 0) (Nat.le_of_ble_eq_true rfl) (Nat.le_of_ble_eq_true rfl) ?_
        exact W.iret (v := 0) hx hb hr (fun t99 ht99 hW99 => ⟨⟨0, (mu (mu (mu Mw (g.1 0 0) (.inr (10, [.ref (g.1 1 0), .ref (g.1 2 0), .int (gS st 2), .int (gS st 3), .int (gS st 1), .int (gS st 0), .int 0]))) (g.1 0 0) (.inr (10, [.ref (g.1 1 0), .ref (g.1 2 0), .int (gS st 2), .int (gS st 3), .int (gS st 1), .int (gS st 0), .int 0]))) (g.1 0 0) (.inr (10, [.ref (g.1 1 0), .ref (g.1 2 0), .int (gS st 2), .int (gS st 3), .int (gS st 1), .int (gS st 0), .int 3]))), rfl, RP.no (k := 3) (by unfold m_readsAt; first | (rw [chk_p hi9, chk_p hq_r3, chk_n (fun q9 => q9 c6)]; done) | (rw [chk_p hi9, chk_p hq_r3, chk_n (fun q9 => q9 c6)]; rfl)) (by decide) (hR.th 3 h_X (fun x9 e9 hx9 h0 => ((mu_n h0).trans ((mu_n h0).trans ((mu_n h0).trans (rfl)))).trans hx9)) rfl rfl, by rw [ht99]; exact hP, hI⟩, hS.F ht99⟩) hS.2.2 dX7_readsAt_58
    · subst hr9
      refine lv_iconst (v := 2) hx hb dX7_readsAt_18 (by decide) ?_
      refine m_calli (va_runV (As := [.int 1, .int 2]) (rest := []) ⟨hx, hb, hml, hown, hts⟩ (c_X7_isThrown1 l G A (mu Mw (g.1 0 0) (.inr (10, [.ref (g.1 1 0), .ref (g.1 2 0), .int (gS st 2), .int (gS st 3), .int (gS st 1), .int (gS st 0), .int 0])))  2 h_X) (cwV 2 hts gX7_readsAt_X7_isThrown rfl rfl rfl (by decide +kernel) ⟨Nat.le_of_ble_eq_true rfl, Nat.le_of_ble_eq_true rfl⟩) (mPreV hG hS hP hI hA (hP _ _ h_X) (r := (RX7, TX7, 7)) rfl) rfl rfl hl.1 rfl (lv_room (Nat.le_of_ble_eq_true rfl)) dX7_readsAt_19 ⟨Nat.le_of_ble_eq_true rfl, Nat.le_of_ble_eq_true rfl⟩) hS (fun r11 Mw1 H locs hp_r11 hP hI hS => ?_)
      obtain ⟨hp_r11, hm9⟩ := hp_r11
      subst Mw1
      subst hp_r11
      have h_TL := mu_k (e := .inr (10, [.ref (g.1 1 0), .ref (g.1 2 0), .int (gS st 2), .int (gS st 3), .int (gS st 1), .int (gS st 0), .int 2])) (kd_ne h_TL h_X rfl) h_TL
      have h_IL := mu_k (e := .inr (10, [.ref (g.1 1 0), .ref (g.1 2 0), .int (gS st 2), .int (gS st 3), .int (gS st 1), .int (gS st 0), .int 2])) (kd_ne h_IL h_X rfl) h_IL
      have h_ID := mu_k (e := .inr (10, [.ref (g.1 1 0), .ref (g.1 2 0), .int (gS st 2), .int (gS st 3), .int (gS st 1), .int (gS st 0), .int 2])) (kd_ne h_ID h_X rfl) h_ID
      have h_I := mu_k (e := .inr (10, [.ref (g.1 1 0), .ref (g.1 2 0), .int (gS st 2), .int (gS st 3), .int (gS st 1), .int (gS st 0), .int 2])) (kd_ne h_I h_X rfl) h_I
      have h_T := mu_k (e := .inr (10, [.ref (g.1 1 0), .ref (g.1 2 0), .int (gS st 2), .int (gS st 3), .int (gS st 1), .int (gS st 0), .int 2])) (kd_ne h_T h_X rfl) h_T
      have h_B := mu_k (e := .inr (10, [.ref (g.1 1 0), .ref (g.1 2 0), .int (gS st 2), .int (gS st 3), .int (gS st 1), .int (gS st 0), .int 2])) (kd_ne h_B h_X rfl) h_B
      have h_X : (mu (mu Mw (g.1 0 0) (.inr (10, [.ref (g.1 1 0), .ref (g.1 2 0), .int (gS st 2), .int (gS st 3), .int (gS st 1), .int (gS st 0), .int 0]))) (g.1 0 0) (.inr (10, [.ref (g.1 1 0), .ref (g.1 2 0), .int (gS st 2), .int (gS st 3), .int (gS st 1), .int (gS st 0), .int 2]))) (g.1 0 0) = some (.inr (10, [.ref (g.1 1 0), .ref (g.1 2 0), .int (gS st 2), .int (gS st 3), .int (gS st 1), .int (gS st 0), .int 2])) := mu_s
      refine lv_if_ne (tgt := 57) hx hb dX7_readsAt_22 (by decide) (fun _ => ?_) (fun h9 => absurd h9 (by decide))
      refine lv_iconst (v := 0) hx hb dX7_readsAt_57 (by decide) ?_
      refine W.widen (k := 0) (n := 0) (Nat.le_of_ble_eq_true rfl) (Nat.le_of_ble_eq_true rfl) ?_
      exact W.iret (v := 0) hx hb hr (fun t99 ht99 hW99 => ⟨⟨0, (mu (mu Mw (g.1 0 0) (.inr (10, [.ref (g.1 1 0), .ref (g.1 2 0), .int (gS st 2), .int (gS st 3), .int (gS st 1), .int (gS st 0), .int 0]))) (g.1 0 0) (.inr (10, [.ref (g.1 1 0), .ref (g.1 2 0), .int (gS st 2), .int (gS st 3), .int (gS st 1), .int (gS st 0), .int 2]))), rfl, RP.no (k := 2) (by unfold m_readsAt; first | (rw [chk_p hi9, chk_n hq_r3]; done) | (rw [chk_p hi9, chk_n hq_r3]; rfl)) (by decide) (hR.th 2 h_X (fun x9 e9 hx9 h0 => ((mu_n h0).trans ((mu_n h0).trans (rfl))).trans hx9)) rfl rfl, by rw [ht99]; exact hP, hI⟩, hS.F ht99⟩) hS.2.2 dX7_readsAt_58
  · subst hr9
    refine lv_iconst (v := 1) hx hb dX7_readsAt_6 (by decide) ?_
    refine m_calli (va_runV (As := [.int 1, .int 1]) (rest := []) ⟨hx, hb, hml, hown, hts⟩ (c_X7_isThrown1 l G A Mw  1 h_X) (cwV 2 hts gX7_readsAt_X7_isThrown rfl rfl rfl (by decide +kernel) ⟨Nat.le_of_ble_eq_true rfl, Nat.le_of_ble_eq_true rfl⟩) (mPreV hG hS hP hI hA (hP _ _ h_X) (r := (RX7, TX7, 7)) rfl) rfl rfl hl.1 rfl (lv_room (Nat.le_of_ble_eq_true rfl)) dX7_readsAt_7 ⟨Nat.le_of_ble_eq_true rfl, Nat.le_of_ble_eq_true rfl⟩) hS (fun r12 Mw1 H locs hp_r12 hP hI hS => ?_)
    obtain ⟨hp_r12, hm9⟩ := hp_r12
    subst Mw1
    subst hp_r12
    have h_TL := mu_k (e := .inr (10, [.ref (g.1 1 0), .ref (g.1 2 0), .int (gS st 2), .int (gS st 3), .int (gS st 1), .int (gS st 0), .int 1])) (kd_ne h_TL h_X rfl) h_TL
    have h_IL := mu_k (e := .inr (10, [.ref (g.1 1 0), .ref (g.1 2 0), .int (gS st 2), .int (gS st 3), .int (gS st 1), .int (gS st 0), .int 1])) (kd_ne h_IL h_X rfl) h_IL
    have h_X : (mu Mw (g.1 0 0) (.inr (10, [.ref (g.1 1 0), .ref (g.1 2 0), .int (gS st 2), .int (gS st 3), .int (gS st 1), .int (gS st 0), .int 1]))) (g.1 0 0) = some (.inr (10, [.ref (g.1 1 0), .ref (g.1 2 0), .int (gS st 2), .int (gS st 3), .int (gS st 1), .int (gS st 0), .int 1])) := mu_s
    refine lv_if_ne (tgt := 57) hx hb dX7_readsAt_10 (by decide) (fun _ => ?_) (fun h9 => absurd h9 (by decide))
    refine lv_iconst (v := 0) hx hb dX7_readsAt_57 (by decide) ?_
    refine W.widen (k := 0) (n := 0) (Nat.le_of_ble_eq_true rfl) (Nat.le_of_ble_eq_true rfl) ?_
    exact W.iret (v := 0) hx hb hr (fun t99 ht99 hW99 => ⟨⟨0, (mu Mw (g.1 0 0) (.inr (10, [.ref (g.1 1 0), .ref (g.1 2 0), .int (gS st 2), .int (gS st 3), .int (gS st 1), .int (gS st 0), .int 1]))), rfl, RP.no (k := 1) (by unfold m_readsAt; first | (rw [chk_n hq_r1]; done) | (rw [chk_n hq_r1]; rfl)) (by decide) (hR.th 1 h_X (fun x9 e9 hx9 h0 => ((mu_n h0).trans (rfl)).trans hx9)) rfl rfl, by rw [ht99]; exact hP, hI⟩, hS.F ht99⟩) hS.2.2 dX7_readsAt_58

theorem or_fr {M M1 C : mw} {y : Nat} {e : va_E} (hf : M y = some e → M1 y = M y) (h : M y = some e ∨ C y = some e) : M1 y = some e ∨ C y = some e := h.imp (fun q => (hf q).trans q) id
theorem nI_m1 {n : Nat} (h : ¬ n = 0) : nI n - 1 = nI (n - 1) := by
  obtain ⟨m, rfl⟩ := Nat.exists_eq_succ_of_ne_zero h
  exact nI_pred m
set_option maxHeartbeats 4000000 in
set_option maxRecDepth 100000 in
theorem c_X7_error (l : Launch) (G : mg) (A : Nat → Prop) (Mw : mw) (st : St) (g : gR) (p0 : Int32) (hR : RS G st g Mw) (hV : Inv st) : Met l yX7_error wsX7_error ({ frames := 4, cells := 0, slots := 0, locals := 85 }) (va_Pc [.ref (g.1 0 0), .int p0] (mB G A Mw)) (va_Qi (fun r Mw1 => RP G (m_error st p0) g r Mw1) (mE G A) A) 0 0 A := by
  refine Met.ofW (cc := cX7_error) (maxL := 2) (ret := (some .int)) (by decide) rfl ?_
  intro p e s m args below meth c s₁ B hml hv
  obtain ⟨rfl, hG, hP, hI, hA⟩ := hv
  have hx := B.exec
  have hb := B.bytes
  have hr := B.returns
  have hts := atoms_spec (ws := wsX7_error) B.pre
  have hown : s.vm.findClass RX7 = some m.cls := findClass_of_methodNamed B.named
  have hlocks := B.notSynchronized
  have hK := hG.K
  have i_X5 : ∀ w ∈ wsX50, w ∈ wsX7_error := by decide +kernel
  have i_X7 : ∀ w ∈ wsX70, w ∈ wsX7_error := by decide +kernel
  have hS : va_S A s.heap s.heap [] := va_S.rf
  have hl := lv_entry ([.ref (g.1 0 0), .int p0]) (n := 2) (Nat.le_of_ble_eq_true rfl)
  rw [lg_entry_eq]
  generalize (lg_sl ([.ref (g.1 0 0), .int p0]) ++ List.replicate (2 - (lg_sl ([.ref (g.1 0 0), .int p0])).length) Slot.unset).toArray = ls at hl ⊢
  have hl : lv_has ls 2 [(0, .ref (g.1 0 0)), (1, .int p0)] := hl
  have hP : mP G.1 Mw s.heap := hP
  have h_X : Mw (g.1 0 0) = some (.inr (10, [.ref (g.1 1 0), .ref (g.1 2 0), .int (gS st 2), .int (gS st 3), .int (gS st 1), .int (gS st 0), .int (thR g)])) := hR.1 0 0 ro0
  have h_TL : Mw (g.1 1 0) = some (.inr (2, [.int (mcR g 1 0), .ref (g.1 3 0), .int ((nI (nT st)))])) := hR.1 1 0 ro1
  have h_IL : Mw (g.1 2 0) = some (.inr (2, [.int (mcR g 2 0), .ref (g.1 4 0), .int ((nI (nN st)))])) := hR.1 2 0 ro2
  have hti9 := hR.ne ro1 ro2 (by omega)
  have hnT8 := hV.1.1
  have hnN8 := Nat.le_trans hV.1.2 (show 6 ≤ 8 by decide)
  have h_X0 := h_X
  refine lv_aload_n hx hb dX7_error_0 rfl (lv_at hl 0 rfl) ?_
  refine lv_aload_n hx hb dX7_error_1 rfl (lv_at hl 0 rfl) ?_
  refine lv_iload_n hx hb dX7_error_2 rfl (lv_at hl 1 rfl) ?_
  refine m_calli (va_runV (As := [.int p0]) (rest := [.ref (g.1 0 0)]) ⟨hx, hb, hml, hown, hts⟩ (c_X7_isNone l G A Mw  p0 h_X h_IL hnN8) (cwV 1 hts gX7_error_X7_isNone rfl rfl rfl (by decide +kernel) ⟨Nat.le_of_ble_eq_true rfl, Nat.le_of_ble_eq_true rfl⟩) (mPreV hG hS hP hI hA (hP _ _ h_X) (r := (RX7, TX7, 7)) rfl) rfl rfl hl.1 rfl (lv_room (Nat.le_of_ble_eq_true rfl)) dX7_error_3 ⟨Nat.le_of_ble_eq_true rfl, Nat.le_of_ble_eq_true rfl⟩) hS (fun r1 Mw1 H locs hp_r1 hP hI hS => ?_)
  obtain ⟨hb9, hm9⟩ := hp_r1
  subst Mw1
  rcases hb9 with ⟨hr9, hq_r1⟩ | ⟨hr9, hq_r1⟩
  · subst hr9
    have hi9 := hq_r1
    have e_p0 : p0 = nI (ix p0) := nI_cl hi9.1
    rw [e_p0] at hl
    have hf4 := hR.f4 hi9.2
    have h_ID : Mw (g.1 4 0) = some (.inl (G.2.1 5, 10, .inr (.inr (.inr (.inr (qf (nN st) (g.1 7))))))) := hR.1 4 0 (ro4 hf4)
    have h_I : Mw (g.1 7 (ix p0)) = some (.inr (8, [.ref (g.1 5 (tbN st (ix p0))), .int (itS st (ix p0) 1), .int (sof (itS st (ix p0) 2)), .int (itS st (ix p0) 3), .int (itS st (ix p0) 7), .int (itS st (ix p0) 6), .int (itS st (ix p0) 5), .int (itS st (ix p0) 12), .int (itS st (ix p0) 13), .int (itS st (ix p0) 14), .int (itS st (ix p0) 15), .int (itS st (ix p0) 8), .int (itS st (ix p0) 9), .int (itS st (ix p0) 10), .int (ceR g (ix p0)), .ref (g.1 8 (ix p0)), .ref (g.1 9 (ix p0))])) := hR.1 7 _ (ro7 hi9.2)
    have hT9 := hV.tb hi9.2
    have h_T : Mw (g.1 5 (tbN st (ix p0))) = some (.inr (9, [.ref (g.1 6 (tbN st (ix p0))), .int (usS st (tbN st (ix p0)))])) := hR.1 5 _ (ro5 hT9)
    have h_B : Mw (g.1 6 (tbN st (ix p0))) = some (.inl (G.2.1 0, 20, .inl (boS st (tbN st (ix p0))))) := hR.1 6 _ (ro6 hT9)
    have hrn9 := hV.rn hi9.2
    have hli9 := hR.ne (ro8 hi9.2) ro2 (by omega)
    have h_L : Mw (g.1 8 (ix p0)) = some (.inr (2, [.int (mcR g 8 (ix p0)), .ref (g.1 10 (ix p0)), .int ((nI (rnS st (ix p0))))])) := hR.1 8 _ (ro8 hi9.2)
    have hhi9 := hR.ne (ro9 hi9.2) ro2 (by omega)
    have hlh9 := hR.ne (ro8 hi9.2) (ro9 hi9.2) (by omega)
    have hlt9 := hR.ne (ro8 hi9.2) ro1 (by omega)
    have hht9 := hR.ne (ro9 hi9.2) ro1 (by omega)
    have h_H : Mw (g.1 9 (ix p0)) = some (.inr (2, [.int (mcR g 9 (ix p0)), .ref (g.1 11 (ix p0)), .int ((nI (rnS st (ix p0))))])) := hR.1 9 _ (ro9 hi9.2)
    refine lv_iconst (v := 1) hx hb dX7_error_6 (by decide) ?_
    refine m_calli (va_runV (As := [.int 0, .int 1]) (rest := []) ⟨hx, hb, hml, hown, hts⟩ (c_X7_isThrown0 l G A Mw  1 h_X) (cwV 2 hts gX7_error_X7_isThrown rfl rfl rfl (by decide +kernel) ⟨Nat.le_of_ble_eq_true rfl, Nat.le_of_ble_eq_true rfl⟩) (mPreV hG hS hP hI hA (hP _ _ h_X) (r := (RX7, TX7, 7)) rfl) rfl rfl hl.1 rfl (lv_room (Nat.le_of_ble_eq_true rfl)) dX7_error_7 ⟨Nat.le_of_ble_eq_true rfl, Nat.le_of_ble_eq_true rfl⟩) hS (fun r2 Mw1 H locs hp_r2 hP hI hS => ?_)
    obtain ⟨hp_r2, hm9⟩ := hp_r2
    subst Mw1
    subst hp_r2
    have h_TL := mu_k (e := .inr (10, [.ref (g.1 1 0), .ref (g.1 2 0), .int (gS st 2), .int (gS st 3), .int (gS st 1), .int (gS st 0), .int 0])) (kd_ne h_TL h_X rfl) h_TL
    have h_IL := mu_k (e := .inr (10, [.ref (g.1 1 0), .ref (g.1 2 0), .int (gS st 2), .int (gS st 3), .int (gS st 1), .int (gS st 0), .int 0])) (kd_ne h_IL h_X rfl) h_IL
    have h_ID := mu_k (e := .inr (10, [.ref (g.1 1 0), .ref (g.1 2 0), .int (gS st 2), .int (gS st 3), .int (gS st 1), .int (gS st 0), .int 0])) (kd_ne h_ID h_X rfl) h_ID
    have h_I := mu_k (e := .inr (10, [.ref (g.1 1 0), .ref (g.1 2 0), .int (gS st 2), .int (gS st 3), .int (gS st 1), .int (gS st 0), .int 0])) (kd_ne h_I h_X rfl) h_I
    have h_T := mu_k (e := .inr (10, [.ref (g.1 1 0), .ref (g.1 2 0), .int (gS st 2), .int (gS st 3), .int (gS st 1), .int (gS st 0), .int 0])) (kd_ne h_T h_X rfl) h_T
    have h_B := mu_k (e := .inr (10, [.ref (g.1 1 0), .ref (g.1 2 0), .int (gS st 2), .int (gS st 3), .int (gS st 1), .int (gS st 0), .int 0])) (kd_ne h_B h_X rfl) h_B
    have h_L := mu_k (e := .inr (10, [.ref (g.1 1 0), .ref (g.1 2 0), .int (gS st 2), .int (gS st 3), .int (gS st 1), .int (gS st 0), .int 0])) (kd_ne h_L h_X rfl) h_L
    have h_H := mu_k (e := .inr (10, [.ref (g.1 1 0), .ref (g.1 2 0), .int (gS st 2), .int (gS st 3), .int (gS st 1), .int (gS st 0), .int 0])) (kd_ne h_H h_X rfl) h_H
    have h_X : (mu Mw (g.1 0 0) (.inr (10, [.ref (g.1 1 0), .ref (g.1 2 0), .int (gS st 2), .int (gS st 3), .int (gS st 1), .int (gS st 0), .int 0]))) (g.1 0 0) = some (.inr (10, [.ref (g.1 1 0), .ref (g.1 2 0), .int (gS st 2), .int (gS st 3), .int (gS st 1), .int (gS st 0), .int 0])) := mu_s
    refine lv_if_ne (tgt := 26) hx hb dX7_error_10 (by decide) (fun h9 => absurd h9 (by decide)) (fun _ => ?_)
    refine lv_aload_n hx hb dX7_error_13 rfl (lv_at hl 0 rfl) ?_
    refine lv_aload_n hx hb dX7_error_14 rfl (lv_at hl 0 rfl) ?_
    refine lv_iload_n hx hb dX7_error_15 rfl (lv_at hl 1 rfl) ?_
    refine m_calli (va_runV (As := [.int (nI (ix p0))]) (rest := [.ref (g.1 0 0)]) ⟨hx, hb, hml, hown, hts⟩ (c_X7_hasNone l G A (mu Mw (g.1 0 0) (.inr (10, [.ref (g.1 1 0), .ref (g.1 2 0), .int (gS st 2), .int (gS st 3), .int (gS st 1), .int (gS st 0), .int 0])))  h_X h_IL hnN8 h_ID h_I (ix p0) hi9.2 (qf_p hi9.2) h_L hrn9 hli9) (cwV 1 hts gX7_error_X7_hasNone rfl rfl rfl (by decide +kernel) ⟨Nat.le_of_ble_eq_true rfl, Nat.le_of_ble_eq_true rfl⟩) (mPreV hG hS hP hI hA (hP _ _ h_X) (r := (RX7, TX7, 7)) rfl) rfl rfl hl.1 rfl (lv_room (Nat.le_of_ble_eq_true rfl)) dX7_error_16 ⟨Nat.le_of_ble_eq_true rfl, Nat.le_of_ble_eq_true rfl⟩) hS (fun r3 Mw1 H locs hp_r3 hP hI hS => ?_)
    obtain ⟨hb9, hm9⟩ := hp_r3
    subst Mw1
    rcases hb9 with ⟨hr9, hq_r3⟩ | ⟨hr9, hq_r3⟩
    · subst hr9
      refine lv_iconst (v := 2) hx hb dX7_error_19 (by decide) ?_
      refine m_calli (va_runV (As := [.int 0, .int 2]) (rest := []) ⟨hx, hb, hml, hown, hts⟩ (c_X7_isThrown0 l G A (mu Mw (g.1 0 0) (.inr (10, [.ref (g.1 1 0), .ref (g.1 2 0), .int (gS st 2), .int (gS st 3), .int (gS st 1), .int (gS st 0), .int 0])))  2 h_X) (cwV 2 hts gX7_error_X7_isThrown rfl rfl rfl (by decide +kernel) ⟨Nat.le_of_ble_eq_true rfl, Nat.le_of_ble_eq_true rfl⟩) (mPreV hG hS hP hI hA (hP _ _ h_X) (r := (RX7, TX7, 7)) rfl) rfl rfl hl.1 rfl (lv_room (Nat.le_of_ble_eq_true rfl)) dX7_error_20 ⟨Nat.le_of_ble_eq_true rfl, Nat.le_of_ble_eq_true rfl⟩) hS (fun r4 Mw1 H locs hp_r4 hP hI hS => ?_)
      obtain ⟨hp_r4, hm9⟩ := hp_r4
      subst Mw1
      subst hp_r4
      have h_TL := mu_k (e := .inr (10, [.ref (g.1 1 0), .ref (g.1 2 0), .int (gS st 2), .int (gS st 3), .int (gS st 1), .int (gS st 0), .int 0])) (kd_ne h_TL h_X rfl) h_TL
      have h_IL := mu_k (e := .inr (10, [.ref (g.1 1 0), .ref (g.1 2 0), .int (gS st 2), .int (gS st 3), .int (gS st 1), .int (gS st 0), .int 0])) (kd_ne h_IL h_X rfl) h_IL
      have h_ID := mu_k (e := .inr (10, [.ref (g.1 1 0), .ref (g.1 2 0), .int (gS st 2), .int (gS st 3), .int (gS st 1), .int (gS st 0), .int 0])) (kd_ne h_ID h_X rfl) h_ID
      have h_I := mu_k (e := .inr (10, [.ref (g.1 1 0), .ref (g.1 2 0), .int (gS st 2), .int (gS st 3), .int (gS st 1), .int (gS st 0), .int 0])) (kd_ne h_I h_X rfl) h_I
      have h_T := mu_k (e := .inr (10, [.ref (g.1 1 0), .ref (g.1 2 0), .int (gS st 2), .int (gS st 3), .int (gS st 1), .int (gS st 0), .int 0])) (kd_ne h_T h_X rfl) h_T
      have h_B := mu_k (e := .inr (10, [.ref (g.1 1 0), .ref (g.1 2 0), .int (gS st 2), .int (gS st 3), .int (gS st 1), .int (gS st 0), .int 0])) (kd_ne h_B h_X rfl) h_B
      have h_L := mu_k (e := .inr (10, [.ref (g.1 1 0), .ref (g.1 2 0), .int (gS st 2), .int (gS st 3), .int (gS st 1), .int (gS st 0), .int 0])) (kd_ne h_L h_X rfl) h_L
      have h_H := mu_k (e := .inr (10, [.ref (g.1 1 0), .ref (g.1 2 0), .int (gS st 2), .int (gS st 3), .int (gS st 1), .int (gS st 0), .int 0])) (kd_ne h_H h_X rfl) h_H
      have h_X : (mu (mu Mw (g.1 0 0) (.inr (10, [.ref (g.1 1 0), .ref (g.1 2 0), .int (gS st 2), .int (gS st 3), .int (gS st 1), .int (gS st 0), .int 0]))) (g.1 0 0) (.inr (10, [.ref (g.1 1 0), .ref (g.1 2 0), .int (gS st 2), .int (gS st 3), .int (gS st 1), .int (gS st 0), .int 0]))) (g.1 0 0) = some (.inr (10, [.ref (g.1 1 0), .ref (g.1 2 0), .int (gS st 2), .int (gS st 3), .int (gS st 1), .int (gS st 0), .int 0])) := mu_s
      refine lv_if_eq (tgt := 28) hx hb dX7_error_23 (by decide) (fun _ => ?_) (fun h9 => absurd h9 (by decide))
      have hf10 := hR.f10 hi9.2 hq_r3
      have hdd9 := hR.ne (ro10 hi9.2 hf10) (ro11 hi9.2 hf10) (by omega)
      have h_DR0 : Mw (g.1 10 (ix p0)) = some (.inl (G.2.1 5, 10, .inr (.inr (.inr (.inr (qf (rnS st (ix p0)) (ivR g (ix p0)))))))) := hR.1 10 _ (ro10 hi9.2 hf10)
      have h_DR : (mu (mu Mw (g.1 0 0) (.inr (10, [.ref (g.1 1 0), .ref (g.1 2 0), .int (gS st 2), .int (gS st 3), .int (gS st 1), .int (gS st 0), .int 0]))) (g.1 0 0) (.inr (10, [.ref (g.1 1 0), .ref (g.1 2 0), .int (gS st 2), .int (gS st 3), .int (gS st 1), .int (gS st 0), .int 0]))) (g.1 10 (ix p0)) = some (.inl (G.2.1 5, 10, .inr (.inr (.inr (.inr (qf (rnS st (ix p0)) (ivR g (ix p0)))))))) := by first | exact h_DR0 | exact ((mu_n (kd_ne h_DR0 h_X0 rfl)).trans ((mu_n (kd_ne h_DR0 h_X0 rfl)).trans (rfl))).trans h_DR0
      have h_DH0 : Mw (g.1 11 (ix p0)) = some (.inl (G.2.1 5, 10, .inr (.inr (.inr (.inr (qf (rnS st (ix p0)) (ihR g (ix p0)))))))) := hR.1 11 _ (ro11 hi9.2 hf10)
      have h_DH : (mu (mu Mw (g.1 0 0) (.inr (10, [.ref (g.1 1 0), .ref (g.1 2 0), .int (gS st 2), .int (gS st 3), .int (gS st 1), .int (gS st 0), .int 0]))) (g.1 0 0) (.inr (10, [.ref (g.1 1 0), .ref (g.1 2 0), .int (gS st 2), .int (gS st 3), .int (gS st 1), .int (gS st 0), .int 0]))) (g.1 11 (ix p0)) = some (.inl (G.2.1 5, 10, .inr (.inr (.inr (.inr (qf (rnS st (ix p0)) (ihR g (ix p0)))))))) := by first | exact h_DH0 | exact ((mu_n (kd_ne h_DH0 h_X0 rfl)).trans ((mu_n (kd_ne h_DH0 h_X0 rfl)).trans (rfl))).trans h_DH0
      have hRR : ∀ i, i < rnS st (ix p0) → ∃ y : Nat, (qf (rnS st (ix p0)) (ivR g (ix p0))) i = some y ∧ ((mu (mu Mw (g.1 0 0) (.inr (10, [.ref (g.1 1 0), .ref (g.1 2 0), .int (gS st 2), .int (gS st 3), .int (gS st 1), .int (gS st 0), .int 0]))) (g.1 0 0) (.inr (10, [.ref (g.1 1 0), .ref (g.1 2 0), .int (gS st 2), .int (gS st 3), .int (gS st 1), .int (gS st 0), .int 0]))) y = some (.inr (0, [.int (rvS st (ix p0) i)])) ∨ G.2.2.1 y = some (.inr (0, [.int (rvS st (ix p0) i)]))) := fun i9 hi8 => ⟨_, qf_p hi8, or_fr (fun q9 => (mu_n (kd_ne q9 h_X0 rfl)).trans ((mu_n (kd_ne q9 h_X0 rfl)).trans (rfl))) ((hR.2.2.2.2 _ hi9.2).2.2 i9 hi8).1⟩
      have hHH : ∀ i, i < rnS st (ix p0) → ∃ y : Nat, (qf (rnS st (ix p0)) (ihR g (ix p0))) i = some y ∧ ((mu (mu Mw (g.1 0 0) (.inr (10, [.ref (g.1 1 0), .ref (g.1 2 0), .int (gS st 2), .int (gS st 3), .int (gS st 1), .int (gS st 0), .int 0]))) (g.1 0 0) (.inr (10, [.ref (g.1 1 0), .ref (g.1 2 0), .int (gS st 2), .int (gS st 3), .int (gS st 1), .int (gS st 0), .int 0]))) y = some (.inr (0, [.int (rhS st (ix p0) i)])) ∨ G.2.2.1 y = some (.inr (0, [.int (rhS st (ix p0) i)]))) := fun i9 hi8 => ⟨_, qf_p hi8, or_fr (fun q9 => (mu_n (kd_ne q9 h_X0 rfl)).trans ((mu_n (kd_ne q9 h_X0 rfl)).trans (rfl))) ((hR.2.2.2.2 _ hi9.2).2.2 i9 hi8).2⟩
      refine lv_aload_n hx hb dX7_error_28 rfl (lv_at hl 0 rfl) ?_
      refine m_get (ci := 10) (v := .ref (g.1 2 0)) (C := RX7) (T := TX7) (N := 7) hx hb hts i_X7 hown hK (hP _ _ h_X) rfl 1 (by decide) (hts (.fieldLink RX7 16 "MeniscusModel" "instruments" "Ljava/util/ArrayList;") (by decide +kernel)) (fun _ h9 => h9) rfl dX7_error_29 ?_
      refine lv_iload_n hx hb dX7_error_32 rfl (lv_at hl 1 rfl) ?_
      refine m_callq (va_runV (As := [.int (nI (ix p0))]) (rest := []) ⟨hx, hb, hml, hown, hts⟩ (c_Jx4a65c_get_915e3 l G A (mu (mu Mw (g.1 0 0) (.inr (10, [.ref (g.1 1 0), .ref (g.1 2 0), .int (gS st 2), .int (gS st 3), .int (gS st 1), .int (gS st 0), .int 0]))) (g.1 0 0) (.inr (10, [.ref (g.1 1 0), .ref (g.1 2 0), .int (gS st 2), .int (gS st 3), .int (gS st 1), .int (gS st 0), .int 0])))  h_IL h_ID (ix p0) (g.1 7 (ix p0)) hi9.2 hnN8 (qf_p hi9.2)) (cwV 1 hts gX7_error_Jx4a65c_get_915e3 rfl rfl rfl (by decide +kernel) ⟨Nat.le_of_ble_eq_true rfl, Nat.le_of_ble_eq_true rfl⟩) (mPreV hG hS hP hI hA (hP _ _ h_IL) (r := (RJx4a65c, TJx4a65c, 3)) rfl) rfl rfl hl.1 rfl (lv_room (Nat.le_of_ble_eq_true rfl)) dX7_error_33 ⟨Nat.le_of_ble_eq_true rfl, Nat.le_of_ble_eq_true rfl⟩) hS (fun r5 Mw1 H locs hp_r5 hP hI hS => ?_)
      obtain ⟨hp_r5, hm9⟩ := hp_r5
      subst Mw1
      subst hp_r5
      refine va_castE hx hb hown (hts (.classLink RX7 79 RX5) (by decide +kernel)) (va_recv hK (va_at.one (hP _ _ h_I)) (q0 := 0) (q := (RX5, TX5, 17)) rfl rfl) dX7_error_36 ?_
      refine lv_aload_n hx hb dX7_error_39 rfl (lv_at hl 0 rfl) ?_
      refine m_get (ci := 10) (v := .ref (g.1 2 0)) (C := RX7) (T := TX7) (N := 7) hx hb hts i_X7 hown hK (hP _ _ h_X) rfl 1 (by decide) (hts (.fieldLink RX7 16 "MeniscusModel" "instruments" "Ljava/util/ArrayList;") (by decide +kernel)) (fun _ h9 => h9) rfl dX7_error_40 ?_
      refine lv_iload_n hx hb dX7_error_43 rfl (lv_at hl 1 rfl) ?_
      refine m_callq (va_runV (As := [.int (nI (ix p0))]) (rest := [.ref (g.1 7 (ix p0))]) ⟨hx, hb, hml, hown, hts⟩ (c_Jx4a65c_get_915e3 l G A (mu (mu Mw (g.1 0 0) (.inr (10, [.ref (g.1 1 0), .ref (g.1 2 0), .int (gS st 2), .int (gS st 3), .int (gS st 1), .int (gS st 0), .int 0]))) (g.1 0 0) (.inr (10, [.ref (g.1 1 0), .ref (g.1 2 0), .int (gS st 2), .int (gS st 3), .int (gS st 1), .int (gS st 0), .int 0])))  h_IL h_ID (ix p0) (g.1 7 (ix p0)) hi9.2 hnN8 (qf_p hi9.2)) (cwV 1 hts gX7_error_Jx4a65c_get_915e3 rfl rfl rfl (by decide +kernel) ⟨Nat.le_of_ble_eq_true rfl, Nat.le_of_ble_eq_true rfl⟩) (mPreV hG hS hP hI hA (hP _ _ h_IL) (r := (RJx4a65c, TJx4a65c, 3)) rfl) rfl rfl hl.1 rfl (lv_room (Nat.le_of_ble_eq_true rfl)) dX7_error_44 ⟨Nat.le_of_ble_eq_true rfl, Nat.le_of_ble_eq_true rfl⟩) hS (fun r6 Mw1 H locs hp_r6 hP hI hS => ?_)
      obtain ⟨hp_r6, hm9⟩ := hp_r6
      subst Mw1
      subst hp_r6
      refine va_castE hx hb hown (hts (.classLink RX7 79 RX5) (by decide +kernel)) (va_recv hK (va_at.one (hP _ _ h_I)) (q0 := 0) (q := (RX5, TX5, 17)) rfl rfl) dX7_error_47 ?_
      refine m_getN (ci := 8) (v := .ref (g.1 8 (ix p0))) (C := RX5) (T := TX5) (N := 17) hx hb hts i_X5 hown hK (hP _ _ h_I) rfl 15 (by decide) (va_Nw.use rfl (hG.2.1.2.1 ("MeniscusModel", 176, "MeniscusModel$Instrument", "readings", "Ljava/util/ArrayList;", "MeniscusModel") (by decide +kernel))) (fun _ h9 => h9) rfl dX7_error_50 ?_
      refine m_calli (va_runV (As := []) (rest := [.ref (g.1 7 (ix p0))]) ⟨hx, hb, hml, hown, hts⟩ (c_Jx4a65c_size_8abf5 l G A (mu (mu Mw (g.1 0 0) (.inr (10, [.ref (g.1 1 0), .ref (g.1 2 0), .int (gS st 2), .int (gS st 3), .int (gS st 1), .int (gS st 0), .int 0]))) (g.1 0 0) (.inr (10, [.ref (g.1 1 0), .ref (g.1 2 0), .int (gS st 2), .int (gS st 3), .int (gS st 1), .int (gS st 0), .int 0])))  h_L) (cwV 0 hts gX7_error_Jx4a65c_size_8abf5 rfl rfl rfl (by decide +kernel) ⟨Nat.le_of_ble_eq_true rfl, Nat.le_of_ble_eq_true rfl⟩) (mPreV hG hS hP hI hA (hP _ _ h_L) (r := (RJx4a65c, TJx4a65c, 3)) rfl) rfl rfl hl.1 rfl (lv_room (Nat.le_of_ble_eq_true rfl)) dX7_error_53 ⟨Nat.le_of_ble_eq_true rfl, Nat.le_of_ble_eq_true rfl⟩) hS (fun r7 Mw1 H locs hp_r7 hP hI hS => ?_)
      obtain ⟨hp_r7, hm9⟩ := hp_r7
      subst Mw1
      subst hp_r7
      refine lv_iconst (v := 1) hx hb dX7_error_56 (by decide) ?_
      refine lv_isub hx hb dX7_error_57 ?_
      have hm8 : nI (rnS st (ix p0)) - 1 = nI (rnS st (ix p0) - 1) := nI_m1 hq_r3
      rw [hm8]
      refine m_calli (va_runV (As := [.int (nI (rnS st (ix p0) - 1))]) (rest := []) ⟨hx, hb, hml, hown, hts⟩ (c_X5_errorAt l G A (mu (mu Mw (g.1 0 0) (.inr (10, [.ref (g.1 1 0), .ref (g.1 2 0), .int (gS st 2), .int (gS st 3), .int (gS st 1), .int (gS st 0), .int 0]))) (g.1 0 0) (.inr (10, [.ref (g.1 1 0), .ref (g.1 2 0), .int (gS st 2), .int (gS st 3), .int (gS st 1), .int (gS st 0), .int 0])))  h_I hrn9 h_L h_H h_DR h_DH hRR hHH (rnS st (ix p0) - 1) (Nat.sub_one_lt hq_r3)) (cwV 1 hts gX7_error_X5_errorAt rfl rfl rfl (by decide +kernel) ⟨Nat.le_of_ble_eq_true rfl, Nat.le_of_ble_eq_true rfl⟩) (mPreV hG hS hP hI hA (hP _ _ h_I) (r := (RX5, TX5, 17)) rfl) rfl rfl hl.1 rfl (lv_room (Nat.le_of_ble_eq_true rfl)) dX7_error_58 ⟨Nat.le_of_ble_eq_true rfl, Nat.le_of_ble_eq_true rfl⟩) hS (fun r8 Mw1 H locs hp_r8 hP hI hS => ?_)
      obtain ⟨hp_r8, hm9⟩ := hp_r8
      subst Mw1
      refine W.widen (k := 0) (n := 0) (Nat.le_of_ble_eq_true rfl) (Nat.le_of_ble_eq_true rfl) ?_
      exact W.iret (v := r8) hx hb hr (fun t99 ht99 hW99 => ⟨⟨r8, (mu (mu Mw (g.1 0 0) (.inr (10, [.ref (g.1 1 0), .ref (g.1 2 0), .int (gS st 2), .int (gS st 3), .int (gS st 1), .int (gS st 0), .int 0]))) (g.1 0 0) (.inr (10, [.ref (g.1 1 0), .ref (g.1 2 0), .int (gS st 2), .int (gS st 3), .int (gS st 1), .int (gS st 0), .int 0]))), rfl, RP.ok (by unfold m_error; first | (rw [chk_p hi9, chk_p hq_r3, hp_r8]; done) | (rw [chk_p hi9, chk_p hq_r3, hp_r8]; rfl)) (hR.th 0 h_X (fun x9 e9 hx9 h0 => ((mu_n h0).trans ((mu_n h0).trans (rfl))).trans hx9)) rfl rfl, by rw [ht99]; exact hP, hI⟩, hS.F ht99⟩) hS.2.2 dX7_error_61
    · subst hr9
      refine lv_iconst (v := 2) hx hb dX7_error_19 (by decide) ?_
      refine m_calli (va_runV (As := [.int 1, .int 2]) (rest := []) ⟨hx, hb, hml, hown, hts⟩ (c_X7_isThrown1 l G A (mu Mw (g.1 0 0) (.inr (10, [.ref (g.1 1 0), .ref (g.1 2 0), .int (gS st 2), .int (gS st 3), .int (gS st 1), .int (gS st 0), .int 0])))  2 h_X) (cwV 2 hts gX7_error_X7_isThrown rfl rfl rfl (by decide +kernel) ⟨Nat.le_of_ble_eq_true rfl, Nat.le_of_ble_eq_true rfl⟩) (mPreV hG hS hP hI hA (hP _ _ h_X) (r := (RX7, TX7, 7)) rfl) rfl rfl hl.1 rfl (lv_room (Nat.le_of_ble_eq_true rfl)) dX7_error_20 ⟨Nat.le_of_ble_eq_true rfl, Nat.le_of_ble_eq_true rfl⟩) hS (fun r9 Mw1 H locs hp_r9 hP hI hS => ?_)
      obtain ⟨hp_r9, hm9⟩ := hp_r9
      subst Mw1
      subst hp_r9
      have h_TL := mu_k (e := .inr (10, [.ref (g.1 1 0), .ref (g.1 2 0), .int (gS st 2), .int (gS st 3), .int (gS st 1), .int (gS st 0), .int 2])) (kd_ne h_TL h_X rfl) h_TL
      have h_IL := mu_k (e := .inr (10, [.ref (g.1 1 0), .ref (g.1 2 0), .int (gS st 2), .int (gS st 3), .int (gS st 1), .int (gS st 0), .int 2])) (kd_ne h_IL h_X rfl) h_IL
      have h_ID := mu_k (e := .inr (10, [.ref (g.1 1 0), .ref (g.1 2 0), .int (gS st 2), .int (gS st 3), .int (gS st 1), .int (gS st 0), .int 2])) (kd_ne h_ID h_X rfl) h_ID
      have h_I := mu_k (e := .inr (10, [.ref (g.1 1 0), .ref (g.1 2 0), .int (gS st 2), .int (gS st 3), .int (gS st 1), .int (gS st 0), .int 2])) (kd_ne h_I h_X rfl) h_I
      have h_T := mu_k (e := .inr (10, [.ref (g.1 1 0), .ref (g.1 2 0), .int (gS st 2), .int (gS st 3), .int (gS st 1), .int (gS st 0), .int 2])) (kd_ne h_T h_X rfl) h_T
      have h_B := mu_k (e := .inr (10, [.ref (g.1 1 0), .ref (g.1 2 0), .int (gS st 2), .int (gS st 3), .int (gS st 1), .int (gS st 0), .int 2])) (kd_ne h_B h_X rfl) h_B
      have h_L := mu_k (e := .inr (10, [.ref (g.1 1 0), .ref (g.1 2 0), .int (gS st 2), .int (gS st 3), .int (gS st 1), .int (gS st 0), .int 2])) (kd_ne h_L h_X rfl) h_L
      have h_H := mu_k (e := .inr (10, [.ref (g.1 1 0), .ref (g.1 2 0), .int (gS st 2), .int (gS st 3), .int (gS st 1), .int (gS st 0), .int 2])) (kd_ne h_H h_X rfl) h_H
      have h_X : (mu (mu Mw (g.1 0 0) (.inr (10, [.ref (g.1 1 0), .ref (g.1 2 0), .int (gS st 2), .int (gS st 3), .int (gS st 1), .int (gS st 0), .int 0]))) (g.1 0 0) (.inr (10, [.ref (g.1 1 0), .ref (g.1 2 0), .int (gS st 2), .int (gS st 3), .int (gS st 1), .int (gS st 0), .int 2]))) (g.1 0 0) = some (.inr (10, [.ref (g.1 1 0), .ref (g.1 2 0), .int (gS st 2), .int (gS st 3), .int (gS st 1), .int (gS st 0), .int 2])) := mu_s
      refine lv_if_eq (tgt := 28) hx hb dX7_error_23 (by decide) (fun h9 => absurd h9 (by decide)) (fun _ => ?_)
      refine lv_iconst (v := 0) hx hb dX7_error_26 (by decide) ?_
      refine W.widen (k := 0) (n := 0) (Nat.le_of_ble_eq_true rfl) (Nat.le_of_ble_eq_true rfl) ?_
      exact W.iret (v := 0) hx hb hr (fun t99 ht99 hW99 => ⟨⟨0, (mu (mu Mw (g.1 0 0) (.inr (10, [.ref (g.1 1 0), .ref (g.1 2 0), .int (gS st 2), .int (gS st 3), .int (gS st 1), .int (gS st 0), .int 0]))) (g.1 0 0) (.inr (10, [.ref (g.1 1 0), .ref (g.1 2 0), .int (gS st 2), .int (gS st 3), .int (gS st 1), .int (gS st 0), .int 2]))), rfl, RP.no (k := 2) (by unfold m_error; first | (rw [chk_p hi9, chk_n (fun q9 => q9 hq_r3)]; done) | (rw [chk_p hi9, chk_n (fun q9 => q9 hq_r3)]; rfl)) (by decide) (hR.th 2 h_X (fun x9 e9 hx9 h0 => ((mu_n h0).trans ((mu_n h0).trans (rfl))).trans hx9)) rfl rfl, by rw [ht99]; exact hP, hI⟩, hS.F ht99⟩) hS.2.2 dX7_error_27
  · subst hr9
    refine lv_iconst (v := 1) hx hb dX7_error_6 (by decide) ?_
    refine m_calli (va_runV (As := [.int 1, .int 1]) (rest := []) ⟨hx, hb, hml, hown, hts⟩ (c_X7_isThrown1 l G A Mw  1 h_X) (cwV 2 hts gX7_error_X7_isThrown rfl rfl rfl (by decide +kernel) ⟨Nat.le_of_ble_eq_true rfl, Nat.le_of_ble_eq_true rfl⟩) (mPreV hG hS hP hI hA (hP _ _ h_X) (r := (RX7, TX7, 7)) rfl) rfl rfl hl.1 rfl (lv_room (Nat.le_of_ble_eq_true rfl)) dX7_error_7 ⟨Nat.le_of_ble_eq_true rfl, Nat.le_of_ble_eq_true rfl⟩) hS (fun r10 Mw1 H locs hp_r10 hP hI hS => ?_)
    obtain ⟨hp_r10, hm9⟩ := hp_r10
    subst Mw1
    subst hp_r10
    have h_TL := mu_k (e := .inr (10, [.ref (g.1 1 0), .ref (g.1 2 0), .int (gS st 2), .int (gS st 3), .int (gS st 1), .int (gS st 0), .int 1])) (kd_ne h_TL h_X rfl) h_TL
    have h_IL := mu_k (e := .inr (10, [.ref (g.1 1 0), .ref (g.1 2 0), .int (gS st 2), .int (gS st 3), .int (gS st 1), .int (gS st 0), .int 1])) (kd_ne h_IL h_X rfl) h_IL
    have h_X : (mu Mw (g.1 0 0) (.inr (10, [.ref (g.1 1 0), .ref (g.1 2 0), .int (gS st 2), .int (gS st 3), .int (gS st 1), .int (gS st 0), .int 1]))) (g.1 0 0) = some (.inr (10, [.ref (g.1 1 0), .ref (g.1 2 0), .int (gS st 2), .int (gS st 3), .int (gS st 1), .int (gS st 0), .int 1])) := mu_s
    refine lv_if_ne (tgt := 26) hx hb dX7_error_10 (by decide) (fun _ => ?_) (fun h9 => absurd h9 (by decide))
    refine lv_iconst (v := 0) hx hb dX7_error_26 (by decide) ?_
    refine W.widen (k := 0) (n := 0) (Nat.le_of_ble_eq_true rfl) (Nat.le_of_ble_eq_true rfl) ?_
    exact W.iret (v := 0) hx hb hr (fun t99 ht99 hW99 => ⟨⟨0, (mu Mw (g.1 0 0) (.inr (10, [.ref (g.1 1 0), .ref (g.1 2 0), .int (gS st 2), .int (gS st 3), .int (gS st 1), .int (gS st 0), .int 1]))), rfl, RP.no (k := 1) (by unfold m_error; first | (rw [chk_n hq_r1]; done) | (rw [chk_n hq_r1]; rfl)) (by decide) (hR.th 1 h_X (fun x9 e9 hx9 h0 => ((mu_n h0).trans (rfl)).trans hx9)) rfl rfl, by rw [ht99]; exact hP, hI⟩, hS.F ht99⟩) hS.2.2 dX7_error_27

set_option maxHeartbeats 4000000 in
set_option maxRecDepth 100000 in
theorem c_X7_tests (l : Launch) (G : mg) (A : Nat → Prop) (Mw : mw) (st : St) (g : gR) (p0 : Int32) (hR : RS G st g Mw) (hV : Inv st) : Met l yX7_tests wsX7_tests ({ frames := 3, cells := 0, slots := 0, locals := 64 }) (va_Pc [.ref (g.1 0 0), .int p0] (mB G A Mw)) (va_Qi (fun r Mw1 => RP G (m_tests st p0) g r Mw1) (mE G A) A) 0 0 A := by
  refine Met.ofW (cc := cX7_tests) (maxL := 2) (ret := (some .int)) (by decide) rfl ?_
  intro p e s m args below meth c s₁ B hml hv
  obtain ⟨rfl, hG, hP, hI, hA⟩ := hv
  have hx := B.exec
  have hb := B.bytes
  have hr := B.returns
  have hts := atoms_spec (ws := wsX7_tests) B.pre
  have hown : s.vm.findClass RX7 = some m.cls := findClass_of_methodNamed B.named
  have hlocks := B.notSynchronized
  have hK := hG.K
  have i_X5 : ∀ w ∈ wsX50, w ∈ wsX7_tests := by decide +kernel
  have i_X7 : ∀ w ∈ wsX70, w ∈ wsX7_tests := by decide +kernel
  have hS : va_S A s.heap s.heap [] := va_S.rf
  have hl := lv_entry ([.ref (g.1 0 0), .int p0]) (n := 2) (Nat.le_of_ble_eq_true rfl)
  rw [lg_entry_eq]
  generalize (lg_sl ([.ref (g.1 0 0), .int p0]) ++ List.replicate (2 - (lg_sl ([.ref (g.1 0 0), .int p0])).length) Slot.unset).toArray = ls at hl ⊢
  have hl : lv_has ls 2 [(0, .ref (g.1 0 0)), (1, .int p0)] := hl
  have hP : mP G.1 Mw s.heap := hP
  have h_X : Mw (g.1 0 0) = some (.inr (10, [.ref (g.1 1 0), .ref (g.1 2 0), .int (gS st 2), .int (gS st 3), .int (gS st 1), .int (gS st 0), .int (thR g)])) := hR.1 0 0 ro0
  have h_TL : Mw (g.1 1 0) = some (.inr (2, [.int (mcR g 1 0), .ref (g.1 3 0), .int ((nI (nT st)))])) := hR.1 1 0 ro1
  have h_IL : Mw (g.1 2 0) = some (.inr (2, [.int (mcR g 2 0), .ref (g.1 4 0), .int ((nI (nN st)))])) := hR.1 2 0 ro2
  have hti9 := hR.ne ro1 ro2 (by omega)
  have hnT8 := hV.1.1
  have hnN8 := Nat.le_trans hV.1.2 (show 6 ≤ 8 by decide)
  refine lv_aload_n hx hb dX7_tests_0 rfl (lv_at hl 0 rfl) ?_
  refine lv_aload_n hx hb dX7_tests_1 rfl (lv_at hl 0 rfl) ?_
  refine lv_iload_n hx hb dX7_tests_2 rfl (lv_at hl 1 rfl) ?_
  refine m_calli (va_runV (As := [.int p0]) (rest := [.ref (g.1 0 0)]) ⟨hx, hb, hml, hown, hts⟩ (c_X7_isNone l G A Mw  p0 h_X h_IL hnN8) (cwV 1 hts gX7_tests_X7_isNone rfl rfl rfl (by decide +kernel) ⟨Nat.le_of_ble_eq_true rfl, Nat.le_of_ble_eq_true rfl⟩) (mPreV hG hS hP hI hA (hP _ _ h_X) (r := (RX7, TX7, 7)) rfl) rfl rfl hl.1 rfl (lv_room (Nat.le_of_ble_eq_true rfl)) dX7_tests_3 ⟨Nat.le_of_ble_eq_true rfl, Nat.le_of_ble_eq_true rfl⟩) hS (fun r1 Mw1 H locs hp_r1 hP hI hS => ?_)
  obtain ⟨hb9, hm9⟩ := hp_r1
  subst Mw1
  rcases hb9 with ⟨hr9, hq_r1⟩ | ⟨hr9, hq_r1⟩
  · subst hr9
    have hi9 := hq_r1
    have e_p0 : p0 = nI (ix p0) := nI_cl hi9.1
    rw [e_p0] at hl
    have hf4 := hR.f4 hi9.2
    have h_ID : Mw (g.1 4 0) = some (.inl (G.2.1 5, 10, .inr (.inr (.inr (.inr (qf (nN st) (g.1 7))))))) := hR.1 4 0 (ro4 hf4)
    have h_I : Mw (g.1 7 (ix p0)) = some (.inr (8, [.ref (g.1 5 (tbN st (ix p0))), .int (itS st (ix p0) 1), .int (sof (itS st (ix p0) 2)), .int (itS st (ix p0) 3), .int (itS st (ix p0) 7), .int (itS st (ix p0) 6), .int (itS st (ix p0) 5), .int (itS st (ix p0) 12), .int (itS st (ix p0) 13), .int (itS st (ix p0) 14), .int (itS st (ix p0) 15), .int (itS st (ix p0) 8), .int (itS st (ix p0) 9), .int (itS st (ix p0) 10), .int (ceR g (ix p0)), .ref (g.1 8 (ix p0)), .ref (g.1 9 (ix p0))])) := hR.1 7 _ (ro7 hi9.2)
    have hrn9 := hV.rn hi9.2
    have hli9 := hR.ne (ro8 hi9.2) ro2 (by omega)
    have h_L : Mw (g.1 8 (ix p0)) = some (.inr (2, [.int (mcR g 8 (ix p0)), .ref (g.1 10 (ix p0)), .int ((nI (rnS st (ix p0))))])) := hR.1 8 _ (ro8 hi9.2)
    refine lv_iconst (v := 1) hx hb dX7_tests_6 (by decide) ?_
    refine m_calli (va_runV (As := [.int 0, .int 1]) (rest := []) ⟨hx, hb, hml, hown, hts⟩ (c_X7_isThrown0 l G A Mw  1 h_X) (cwV 2 hts gX7_tests_X7_isThrown rfl rfl rfl (by decide +kernel) ⟨Nat.le_of_ble_eq_true rfl, Nat.le_of_ble_eq_true rfl⟩) (mPreV hG hS hP hI hA (hP _ _ h_X) (r := (RX7, TX7, 7)) rfl) rfl rfl hl.1 rfl (lv_room (Nat.le_of_ble_eq_true rfl)) dX7_tests_7 ⟨Nat.le_of_ble_eq_true rfl, Nat.le_of_ble_eq_true rfl⟩) hS (fun r2 Mw1 H locs hp_r2 hP hI hS => ?_)
    obtain ⟨hp_r2, hm9⟩ := hp_r2
    subst Mw1
    subst hp_r2
    have h_TL := mu_k (e := .inr (10, [.ref (g.1 1 0), .ref (g.1 2 0), .int (gS st 2), .int (gS st 3), .int (gS st 1), .int (gS st 0), .int 0])) (kd_ne h_TL h_X rfl) h_TL
    have h_IL := mu_k (e := .inr (10, [.ref (g.1 1 0), .ref (g.1 2 0), .int (gS st 2), .int (gS st 3), .int (gS st 1), .int (gS st 0), .int 0])) (kd_ne h_IL h_X rfl) h_IL
    have h_ID := mu_k (e := .inr (10, [.ref (g.1 1 0), .ref (g.1 2 0), .int (gS st 2), .int (gS st 3), .int (gS st 1), .int (gS st 0), .int 0])) (kd_ne h_ID h_X rfl) h_ID
    have h_I := mu_k (e := .inr (10, [.ref (g.1 1 0), .ref (g.1 2 0), .int (gS st 2), .int (gS st 3), .int (gS st 1), .int (gS st 0), .int 0])) (kd_ne h_I h_X rfl) h_I
    have h_L := mu_k (e := .inr (10, [.ref (g.1 1 0), .ref (g.1 2 0), .int (gS st 2), .int (gS st 3), .int (gS st 1), .int (gS st 0), .int 0])) (kd_ne h_L h_X rfl) h_L
    have h_X : (mu Mw (g.1 0 0) (.inr (10, [.ref (g.1 1 0), .ref (g.1 2 0), .int (gS st 2), .int (gS st 3), .int (gS st 1), .int (gS st 0), .int 0]))) (g.1 0 0) = some (.inr (10, [.ref (g.1 1 0), .ref (g.1 2 0), .int (gS st 2), .int (gS st 3), .int (gS st 1), .int (gS st 0), .int 0])) := mu_s
    refine lv_if_eq (tgt := 17) hx hb dX7_tests_10 (by decide) (fun _ => ?_) (fun h9 => absurd h9 (by decide))
    refine lv_aload_n hx hb dX7_tests_17 rfl (lv_at hl 0 rfl) ?_
    refine m_get (ci := 10) (v := .ref (g.1 2 0)) (C := RX7) (T := TX7) (N := 7) hx hb hts i_X7 hown hK (hP _ _ h_X) rfl 1 (by decide) (hts (.fieldLink RX7 16 "MeniscusModel" "instruments" "Ljava/util/ArrayList;") (by decide +kernel)) (fun _ h9 => h9) rfl dX7_tests_18 ?_
    refine lv_iload_n hx hb dX7_tests_21 rfl (lv_at hl 1 rfl) ?_
    refine m_callq (va_runV (As := [.int (nI (ix p0))]) (rest := []) ⟨hx, hb, hml, hown, hts⟩ (c_Jx4a65c_get_915e3 l G A (mu Mw (g.1 0 0) (.inr (10, [.ref (g.1 1 0), .ref (g.1 2 0), .int (gS st 2), .int (gS st 3), .int (gS st 1), .int (gS st 0), .int 0])))  h_IL h_ID (ix p0) (g.1 7 (ix p0)) hi9.2 hnN8 (qf_p hi9.2)) (cwV 1 hts gX7_tests_Jx4a65c_get_915e3 rfl rfl rfl (by decide +kernel) ⟨Nat.le_of_ble_eq_true rfl, Nat.le_of_ble_eq_true rfl⟩) (mPreV hG hS hP hI hA (hP _ _ h_IL) (r := (RJx4a65c, TJx4a65c, 3)) rfl) rfl rfl hl.1 rfl (lv_room (Nat.le_of_ble_eq_true rfl)) dX7_tests_22 ⟨Nat.le_of_ble_eq_true rfl, Nat.le_of_ble_eq_true rfl⟩) hS (fun r3 Mw1 H locs hp_r3 hP hI hS => ?_)
    obtain ⟨hp_r3, hm9⟩ := hp_r3
    subst Mw1
    subst hp_r3
    refine va_castE hx hb hown (hts (.classLink RX7 79 RX5) (by decide +kernel)) (va_recv hK (va_at.one (hP _ _ h_I)) (q0 := 0) (q := (RX5, TX5, 17)) rfl rfl) dX7_tests_25 ?_
    refine m_getN (ci := 8) (v := .ref (g.1 8 (ix p0))) (C := RX5) (T := TX5) (N := 17) hx hb hts i_X5 hown hK (hP _ _ h_I) rfl 15 (by decide) (va_Nw.use rfl (hG.2.1.2.1 ("MeniscusModel", 176, "MeniscusModel$Instrument", "readings", "Ljava/util/ArrayList;", "MeniscusModel") (by decide +kernel))) (fun _ h9 => h9) rfl dX7_tests_28 ?_
    refine m_calli (va_runV (As := []) (rest := []) ⟨hx, hb, hml, hown, hts⟩ (c_Jx4a65c_size_8abf5 l G A (mu Mw (g.1 0 0) (.inr (10, [.ref (g.1 1 0), .ref (g.1 2 0), .int (gS st 2), .int (gS st 3), .int (gS st 1), .int (gS st 0), .int 0])))  h_L) (cwV 0 hts gX7_tests_Jx4a65c_size_8abf5 rfl rfl rfl (by decide +kernel) ⟨Nat.le_of_ble_eq_true rfl, Nat.le_of_ble_eq_true rfl⟩) (mPreV hG hS hP hI hA (hP _ _ h_L) (r := (RJx4a65c, TJx4a65c, 3)) rfl) rfl rfl hl.1 rfl (lv_room (Nat.le_of_ble_eq_true rfl)) dX7_tests_31 ⟨Nat.le_of_ble_eq_true rfl, Nat.le_of_ble_eq_true rfl⟩) hS (fun r4 Mw1 H locs hp_r4 hP hI hS => ?_)
    obtain ⟨hp_r4, hm9⟩ := hp_r4
    subst Mw1
    subst hp_r4
    refine W.widen (k := 0) (n := 0) (Nat.le_of_ble_eq_true rfl) (Nat.le_of_ble_eq_true rfl) ?_
    exact W.iret (v := (nI (rnS st (ix p0)))) hx hb hr (fun t99 ht99 hW99 => ⟨⟨(nI (rnS st (ix p0))), (mu Mw (g.1 0 0) (.inr (10, [.ref (g.1 1 0), .ref (g.1 2 0), .int (gS st 2), .int (gS st 3), .int (gS st 1), .int (gS st 0), .int 0]))), rfl, RP.ok (by unfold m_tests; first | (rw [chk_p hi9]; done) | (rw [chk_p hi9]; rfl)) (hR.th 0 h_X (fun x9 e9 hx9 h0 => ((mu_n h0).trans (rfl)).trans hx9)) rfl rfl, by rw [ht99]; exact hP, hI⟩, hS.F ht99⟩) hS.2.2 dX7_tests_34
  · subst hr9
    refine lv_iconst (v := 1) hx hb dX7_tests_6 (by decide) ?_
    refine m_calli (va_runV (As := [.int 1, .int 1]) (rest := []) ⟨hx, hb, hml, hown, hts⟩ (c_X7_isThrown1 l G A Mw  1 h_X) (cwV 2 hts gX7_tests_X7_isThrown rfl rfl rfl (by decide +kernel) ⟨Nat.le_of_ble_eq_true rfl, Nat.le_of_ble_eq_true rfl⟩) (mPreV hG hS hP hI hA (hP _ _ h_X) (r := (RX7, TX7, 7)) rfl) rfl rfl hl.1 rfl (lv_room (Nat.le_of_ble_eq_true rfl)) dX7_tests_7 ⟨Nat.le_of_ble_eq_true rfl, Nat.le_of_ble_eq_true rfl⟩) hS (fun r5 Mw1 H locs hp_r5 hP hI hS => ?_)
    obtain ⟨hp_r5, hm9⟩ := hp_r5
    subst Mw1
    subst hp_r5
    have h_TL := mu_k (e := .inr (10, [.ref (g.1 1 0), .ref (g.1 2 0), .int (gS st 2), .int (gS st 3), .int (gS st 1), .int (gS st 0), .int 1])) (kd_ne h_TL h_X rfl) h_TL
    have h_IL := mu_k (e := .inr (10, [.ref (g.1 1 0), .ref (g.1 2 0), .int (gS st 2), .int (gS st 3), .int (gS st 1), .int (gS st 0), .int 1])) (kd_ne h_IL h_X rfl) h_IL
    have h_X : (mu Mw (g.1 0 0) (.inr (10, [.ref (g.1 1 0), .ref (g.1 2 0), .int (gS st 2), .int (gS st 3), .int (gS st 1), .int (gS st 0), .int 1]))) (g.1 0 0) = some (.inr (10, [.ref (g.1 1 0), .ref (g.1 2 0), .int (gS st 2), .int (gS st 3), .int (gS st 1), .int (gS st 0), .int 1])) := mu_s
    refine lv_if_eq (tgt := 17) hx hb dX7_tests_10 (by decide) (fun h9 => absurd h9 (by decide)) (fun _ => ?_)
    refine lv_iconst (v := 0) hx hb dX7_tests_13 (by decide) ?_
    refine lv_goto (tgt := 34) hx hb dX7_tests_14 (by decide) ?_
    refine W.widen (k := 0) (n := 0) (Nat.le_of_ble_eq_true rfl) (Nat.le_of_ble_eq_true rfl) ?_
    exact W.iret (v := 0) hx hb hr (fun t99 ht99 hW99 => ⟨⟨0, (mu Mw (g.1 0 0) (.inr (10, [.ref (g.1 1 0), .ref (g.1 2 0), .int (gS st 2), .int (gS st 3), .int (gS st 1), .int (gS st 0), .int 1]))), rfl, RP.no (k := 1) (by unfold m_tests; first | (rw [chk_n hq_r1]; done) | (rw [chk_n hq_r1]; rfl)) (by decide) (hR.th 1 h_X (fun x9 e9 hx9 h0 => ((mu_n h0).trans (rfl)).trans hx9)) rfl rfl, by rw [ht99]; exact hP, hI⟩, hS.F ht99⟩) hS.2.2 dX7_tests_34

set_option maxHeartbeats 4000000 in
set_option maxRecDepth 100000 in
theorem c_X7_worst (l : Launch) (G : mg) (A : Nat → Prop) (Mw : mw) (st : St) (g : gR) (p0 : Int32) (hR : RS G st g Mw) (hV : Inv st) : Met l yX7_worst wsX7_worst ({ frames := 5, cells := 0, slots := 0, locals := 107 }) (va_Pc [.ref (g.1 0 0), .int p0] (mB G A Mw)) (va_Qi (fun r Mw1 => RP G (m_worst st p0) g r Mw1) (mE G A) A) 0 0 A := by
  refine Met.ofW (cc := cX7_worst) (maxL := 2) (ret := (some .int)) (by decide) rfl ?_
  intro p e s m args below meth c s₁ B hml hv
  obtain ⟨rfl, hG, hP, hI, hA⟩ := hv
  have hx := B.exec
  have hb := B.bytes
  have hr := B.returns
  have hts := atoms_spec (ws := wsX7_worst) B.pre
  have hown : s.vm.findClass RX7 = some m.cls := findClass_of_methodNamed B.named
  have hlocks := B.notSynchronized
  have hK := hG.K
  have i_X7 : ∀ w ∈ wsX70, w ∈ wsX7_worst := by decide +kernel
  have hS : va_S A s.heap s.heap [] := va_S.rf
  have hl := lv_entry ([.ref (g.1 0 0), .int p0]) (n := 2) (Nat.le_of_ble_eq_true rfl)
  rw [lg_entry_eq]
  generalize (lg_sl ([.ref (g.1 0 0), .int p0]) ++ List.replicate (2 - (lg_sl ([.ref (g.1 0 0), .int p0])).length) Slot.unset).toArray = ls at hl ⊢
  have hl : lv_has ls 2 [(0, .ref (g.1 0 0)), (1, .int p0)] := hl
  have hP : mP G.1 Mw s.heap := hP
  have h_X : Mw (g.1 0 0) = some (.inr (10, [.ref (g.1 1 0), .ref (g.1 2 0), .int (gS st 2), .int (gS st 3), .int (gS st 1), .int (gS st 0), .int (thR g)])) := hR.1 0 0 ro0
  have h_TL : Mw (g.1 1 0) = some (.inr (2, [.int (mcR g 1 0), .ref (g.1 3 0), .int ((nI (nT st)))])) := hR.1 1 0 ro1
  have h_IL : Mw (g.1 2 0) = some (.inr (2, [.int (mcR g 2 0), .ref (g.1 4 0), .int ((nI (nN st)))])) := hR.1 2 0 ro2
  have hti9 := hR.ne ro1 ro2 (by omega)
  have hnT8 := hV.1.1
  have hnN8 := Nat.le_trans hV.1.2 (show 6 ≤ 8 by decide)
  have h_X0 := h_X
  refine lv_aload_n hx hb dX7_worst_0 rfl (lv_at hl 0 rfl) ?_
  refine lv_aload_n hx hb dX7_worst_1 rfl (lv_at hl 0 rfl) ?_
  refine lv_iload_n hx hb dX7_worst_2 rfl (lv_at hl 1 rfl) ?_
  refine m_calli (va_runV (As := [.int p0]) (rest := [.ref (g.1 0 0)]) ⟨hx, hb, hml, hown, hts⟩ (c_X7_isNone l G A Mw  p0 h_X h_IL hnN8) (cwV 1 hts gX7_worst_X7_isNone rfl rfl rfl (by decide +kernel) ⟨Nat.le_of_ble_eq_true rfl, Nat.le_of_ble_eq_true rfl⟩) (mPreV hG hS hP hI hA (hP _ _ h_X) (r := (RX7, TX7, 7)) rfl) rfl rfl hl.1 rfl (lv_room (Nat.le_of_ble_eq_true rfl)) dX7_worst_3 ⟨Nat.le_of_ble_eq_true rfl, Nat.le_of_ble_eq_true rfl⟩) hS (fun r1 Mw1 H locs hp_r1 hP hI hS => ?_)
  obtain ⟨hb9, hm9⟩ := hp_r1
  subst Mw1
  rcases hb9 with ⟨hr9, hq_r1⟩ | ⟨hr9, hq_r1⟩
  · subst hr9
    have hi9 := hq_r1
    have e_p0 : p0 = nI (ix p0) := nI_cl hi9.1
    rw [e_p0] at hl
    have hf4 := hR.f4 hi9.2
    have h_ID : Mw (g.1 4 0) = some (.inl (G.2.1 5, 10, .inr (.inr (.inr (.inr (qf (nN st) (g.1 7))))))) := hR.1 4 0 (ro4 hf4)
    have h_I : Mw (g.1 7 (ix p0)) = some (.inr (8, [.ref (g.1 5 (tbN st (ix p0))), .int (itS st (ix p0) 1), .int (sof (itS st (ix p0) 2)), .int (itS st (ix p0) 3), .int (itS st (ix p0) 7), .int (itS st (ix p0) 6), .int (itS st (ix p0) 5), .int (itS st (ix p0) 12), .int (itS st (ix p0) 13), .int (itS st (ix p0) 14), .int (itS st (ix p0) 15), .int (itS st (ix p0) 8), .int (itS st (ix p0) 9), .int (itS st (ix p0) 10), .int (ceR g (ix p0)), .ref (g.1 8 (ix p0)), .ref (g.1 9 (ix p0))])) := hR.1 7 _ (ro7 hi9.2)
    have hrn9 := hV.rn hi9.2
    have hli9 := hR.ne (ro8 hi9.2) ro2 (by omega)
    have h_L : Mw (g.1 8 (ix p0)) = some (.inr (2, [.int (mcR g 8 (ix p0)), .ref (g.1 10 (ix p0)), .int ((nI (rnS st (ix p0))))])) := hR.1 8 _ (ro8 hi9.2)
    have hhi9 := hR.ne (ro9 hi9.2) ro2 (by omega)
    have hlh9 := hR.ne (ro8 hi9.2) (ro9 hi9.2) (by omega)
    have hlt9 := hR.ne (ro8 hi9.2) ro1 (by omega)
    have hht9 := hR.ne (ro9 hi9.2) ro1 (by omega)
    have h_H : Mw (g.1 9 (ix p0)) = some (.inr (2, [.int (mcR g 9 (ix p0)), .ref (g.1 11 (ix p0)), .int ((nI (rnS st (ix p0))))])) := hR.1 9 _ (ro9 hi9.2)
    refine lv_iconst (v := 1) hx hb dX7_worst_6 (by decide) ?_
    refine m_calli (va_runV (As := [.int 0, .int 1]) (rest := []) ⟨hx, hb, hml, hown, hts⟩ (c_X7_isThrown0 l G A Mw  1 h_X) (cwV 2 hts gX7_worst_X7_isThrown rfl rfl rfl (by decide +kernel) ⟨Nat.le_of_ble_eq_true rfl, Nat.le_of_ble_eq_true rfl⟩) (mPreV hG hS hP hI hA (hP _ _ h_X) (r := (RX7, TX7, 7)) rfl) rfl rfl hl.1 rfl (lv_room (Nat.le_of_ble_eq_true rfl)) dX7_worst_7 ⟨Nat.le_of_ble_eq_true rfl, Nat.le_of_ble_eq_true rfl⟩) hS (fun r2 Mw1 H locs hp_r2 hP hI hS => ?_)
    obtain ⟨hp_r2, hm9⟩ := hp_r2
    subst Mw1
    subst hp_r2
    have h_TL := mu_k (e := .inr (10, [.ref (g.1 1 0), .ref (g.1 2 0), .int (gS st 2), .int (gS st 3), .int (gS st 1), .int (gS st 0), .int 0])) (kd_ne h_TL h_X rfl) h_TL
    have h_IL := mu_k (e := .inr (10, [.ref (g.1 1 0), .ref (g.1 2 0), .int (gS st 2), .int (gS st 3), .int (gS st 1), .int (gS st 0), .int 0])) (kd_ne h_IL h_X rfl) h_IL
    have h_ID := mu_k (e := .inr (10, [.ref (g.1 1 0), .ref (g.1 2 0), .int (gS st 2), .int (gS st 3), .int (gS st 1), .int (gS st 0), .int 0])) (kd_ne h_ID h_X rfl) h_ID
    have h_I := mu_k (e := .inr (10, [.ref (g.1 1 0), .ref (g.1 2 0), .int (gS st 2), .int (gS st 3), .int (gS st 1), .int (gS st 0), .int 0])) (kd_ne h_I h_X rfl) h_I
    have h_L := mu_k (e := .inr (10, [.ref (g.1 1 0), .ref (g.1 2 0), .int (gS st 2), .int (gS st 3), .int (gS st 1), .int (gS st 0), .int 0])) (kd_ne h_L h_X rfl) h_L
    have h_H := mu_k (e := .inr (10, [.ref (g.1 1 0), .ref (g.1 2 0), .int (gS st 2), .int (gS st 3), .int (gS st 1), .int (gS st 0), .int 0])) (kd_ne h_H h_X rfl) h_H
    have h_X : (mu Mw (g.1 0 0) (.inr (10, [.ref (g.1 1 0), .ref (g.1 2 0), .int (gS st 2), .int (gS st 3), .int (gS st 1), .int (gS st 0), .int 0]))) (g.1 0 0) = some (.inr (10, [.ref (g.1 1 0), .ref (g.1 2 0), .int (gS st 2), .int (gS st 3), .int (gS st 1), .int (gS st 0), .int 0])) := mu_s
    refine lv_if_ne (tgt := 26) hx hb dX7_worst_10 (by decide) (fun h9 => absurd h9 (by decide)) (fun _ => ?_)
    refine lv_aload_n hx hb dX7_worst_13 rfl (lv_at hl 0 rfl) ?_
    refine lv_aload_n hx hb dX7_worst_14 rfl (lv_at hl 0 rfl) ?_
    refine lv_iload_n hx hb dX7_worst_15 rfl (lv_at hl 1 rfl) ?_
    refine m_calli (va_runV (As := [.int (nI (ix p0))]) (rest := [.ref (g.1 0 0)]) ⟨hx, hb, hml, hown, hts⟩ (c_X7_hasNone l G A (mu Mw (g.1 0 0) (.inr (10, [.ref (g.1 1 0), .ref (g.1 2 0), .int (gS st 2), .int (gS st 3), .int (gS st 1), .int (gS st 0), .int 0])))  h_X h_IL hnN8 h_ID h_I (ix p0) hi9.2 (qf_p hi9.2) h_L hrn9 hli9) (cwV 1 hts gX7_worst_X7_hasNone rfl rfl rfl (by decide +kernel) ⟨Nat.le_of_ble_eq_true rfl, Nat.le_of_ble_eq_true rfl⟩) (mPreV hG hS hP hI hA (hP _ _ h_X) (r := (RX7, TX7, 7)) rfl) rfl rfl hl.1 rfl (lv_room (Nat.le_of_ble_eq_true rfl)) dX7_worst_16 ⟨Nat.le_of_ble_eq_true rfl, Nat.le_of_ble_eq_true rfl⟩) hS (fun r3 Mw1 H locs hp_r3 hP hI hS => ?_)
    obtain ⟨hb9, hm9⟩ := hp_r3
    subst Mw1
    rcases hb9 with ⟨hr9, hq_r3⟩ | ⟨hr9, hq_r3⟩
    · subst hr9
      refine lv_iconst (v := 2) hx hb dX7_worst_19 (by decide) ?_
      refine m_calli (va_runV (As := [.int 0, .int 2]) (rest := []) ⟨hx, hb, hml, hown, hts⟩ (c_X7_isThrown0 l G A (mu Mw (g.1 0 0) (.inr (10, [.ref (g.1 1 0), .ref (g.1 2 0), .int (gS st 2), .int (gS st 3), .int (gS st 1), .int (gS st 0), .int 0])))  2 h_X) (cwV 2 hts gX7_worst_X7_isThrown rfl rfl rfl (by decide +kernel) ⟨Nat.le_of_ble_eq_true rfl, Nat.le_of_ble_eq_true rfl⟩) (mPreV hG hS hP hI hA (hP _ _ h_X) (r := (RX7, TX7, 7)) rfl) rfl rfl hl.1 rfl (lv_room (Nat.le_of_ble_eq_true rfl)) dX7_worst_20 ⟨Nat.le_of_ble_eq_true rfl, Nat.le_of_ble_eq_true rfl⟩) hS (fun r4 Mw1 H locs hp_r4 hP hI hS => ?_)
      obtain ⟨hp_r4, hm9⟩ := hp_r4
      subst Mw1
      subst hp_r4
      have h_TL := mu_k (e := .inr (10, [.ref (g.1 1 0), .ref (g.1 2 0), .int (gS st 2), .int (gS st 3), .int (gS st 1), .int (gS st 0), .int 0])) (kd_ne h_TL h_X rfl) h_TL
      have h_IL := mu_k (e := .inr (10, [.ref (g.1 1 0), .ref (g.1 2 0), .int (gS st 2), .int (gS st 3), .int (gS st 1), .int (gS st 0), .int 0])) (kd_ne h_IL h_X rfl) h_IL
      have h_ID := mu_k (e := .inr (10, [.ref (g.1 1 0), .ref (g.1 2 0), .int (gS st 2), .int (gS st 3), .int (gS st 1), .int (gS st 0), .int 0])) (kd_ne h_ID h_X rfl) h_ID
      have h_I := mu_k (e := .inr (10, [.ref (g.1 1 0), .ref (g.1 2 0), .int (gS st 2), .int (gS st 3), .int (gS st 1), .int (gS st 0), .int 0])) (kd_ne h_I h_X rfl) h_I
      have h_L := mu_k (e := .inr (10, [.ref (g.1 1 0), .ref (g.1 2 0), .int (gS st 2), .int (gS st 3), .int (gS st 1), .int (gS st 0), .int 0])) (kd_ne h_L h_X rfl) h_L
      have h_H := mu_k (e := .inr (10, [.ref (g.1 1 0), .ref (g.1 2 0), .int (gS st 2), .int (gS st 3), .int (gS st 1), .int (gS st 0), .int 0])) (kd_ne h_H h_X rfl) h_H
      have h_X : (mu (mu Mw (g.1 0 0) (.inr (10, [.ref (g.1 1 0), .ref (g.1 2 0), .int (gS st 2), .int (gS st 3), .int (gS st 1), .int (gS st 0), .int 0]))) (g.1 0 0) (.inr (10, [.ref (g.1 1 0), .ref (g.1 2 0), .int (gS st 2), .int (gS st 3), .int (gS st 1), .int (gS st 0), .int 0]))) (g.1 0 0) = some (.inr (10, [.ref (g.1 1 0), .ref (g.1 2 0), .int (gS st 2), .int (gS st 3), .int (gS st 1), .int (gS st 0), .int 0])) := mu_s
      refine lv_if_eq (tgt := 30) hx hb dX7_worst_23 (by decide) (fun _ => ?_) (fun h9 => absurd h9 (by decide))
      have hf10 := hR.f10 hi9.2 hq_r3
      have hdd9 := hR.ne (ro10 hi9.2 hf10) (ro11 hi9.2 hf10) (by omega)
      have h_DR0 : Mw (g.1 10 (ix p0)) = some (.inl (G.2.1 5, 10, .inr (.inr (.inr (.inr (qf (rnS st (ix p0)) (ivR g (ix p0)))))))) := hR.1 10 _ (ro10 hi9.2 hf10)
      have h_DR : (mu (mu Mw (g.1 0 0) (.inr (10, [.ref (g.1 1 0), .ref (g.1 2 0), .int (gS st 2), .int (gS st 3), .int (gS st 1), .int (gS st 0), .int 0]))) (g.1 0 0) (.inr (10, [.ref (g.1 1 0), .ref (g.1 2 0), .int (gS st 2), .int (gS st 3), .int (gS st 1), .int (gS st 0), .int 0]))) (g.1 10 (ix p0)) = some (.inl (G.2.1 5, 10, .inr (.inr (.inr (.inr (qf (rnS st (ix p0)) (ivR g (ix p0)))))))) := by first | exact h_DR0 | exact ((mu_n (kd_ne h_DR0 h_X0 rfl)).trans ((mu_n (kd_ne h_DR0 h_X0 rfl)).trans (rfl))).trans h_DR0
      have h_DH0 : Mw (g.1 11 (ix p0)) = some (.inl (G.2.1 5, 10, .inr (.inr (.inr (.inr (qf (rnS st (ix p0)) (ihR g (ix p0)))))))) := hR.1 11 _ (ro11 hi9.2 hf10)
      have h_DH : (mu (mu Mw (g.1 0 0) (.inr (10, [.ref (g.1 1 0), .ref (g.1 2 0), .int (gS st 2), .int (gS st 3), .int (gS st 1), .int (gS st 0), .int 0]))) (g.1 0 0) (.inr (10, [.ref (g.1 1 0), .ref (g.1 2 0), .int (gS st 2), .int (gS st 3), .int (gS st 1), .int (gS st 0), .int 0]))) (g.1 11 (ix p0)) = some (.inl (G.2.1 5, 10, .inr (.inr (.inr (.inr (qf (rnS st (ix p0)) (ihR g (ix p0)))))))) := by first | exact h_DH0 | exact ((mu_n (kd_ne h_DH0 h_X0 rfl)).trans ((mu_n (kd_ne h_DH0 h_X0 rfl)).trans (rfl))).trans h_DH0
      have hRR : ∀ i, i < rnS st (ix p0) → ∃ y : Nat, (qf (rnS st (ix p0)) (ivR g (ix p0))) i = some y ∧ ((mu (mu Mw (g.1 0 0) (.inr (10, [.ref (g.1 1 0), .ref (g.1 2 0), .int (gS st 2), .int (gS st 3), .int (gS st 1), .int (gS st 0), .int 0]))) (g.1 0 0) (.inr (10, [.ref (g.1 1 0), .ref (g.1 2 0), .int (gS st 2), .int (gS st 3), .int (gS st 1), .int (gS st 0), .int 0]))) y = some (.inr (0, [.int (rvS st (ix p0) i)])) ∨ G.2.2.1 y = some (.inr (0, [.int (rvS st (ix p0) i)]))) := fun i9 hi8 => ⟨_, qf_p hi8, or_fr (fun q9 => (mu_n (kd_ne q9 h_X0 rfl)).trans ((mu_n (kd_ne q9 h_X0 rfl)).trans (rfl))) ((hR.2.2.2.2 _ hi9.2).2.2 i9 hi8).1⟩
      have hHH : ∀ i, i < rnS st (ix p0) → ∃ y : Nat, (qf (rnS st (ix p0)) (ihR g (ix p0))) i = some y ∧ ((mu (mu Mw (g.1 0 0) (.inr (10, [.ref (g.1 1 0), .ref (g.1 2 0), .int (gS st 2), .int (gS st 3), .int (gS st 1), .int (gS st 0), .int 0]))) (g.1 0 0) (.inr (10, [.ref (g.1 1 0), .ref (g.1 2 0), .int (gS st 2), .int (gS st 3), .int (gS st 1), .int (gS st 0), .int 0]))) y = some (.inr (0, [.int (rhS st (ix p0) i)])) ∨ G.2.2.1 y = some (.inr (0, [.int (rhS st (ix p0) i)]))) := fun i9 hi8 => ⟨_, qf_p hi8, or_fr (fun q9 => (mu_n (kd_ne q9 h_X0 rfl)).trans ((mu_n (kd_ne q9 h_X0 rfl)).trans (rfl))) ((hR.2.2.2.2 _ hi9.2).2.2 i9 hi8).2⟩
      refine lv_aload_n hx hb dX7_worst_30 rfl (lv_at hl 0 rfl) ?_
      refine m_get (ci := 10) (v := .ref (g.1 2 0)) (C := RX7) (T := TX7) (N := 7) hx hb hts i_X7 hown hK (hP _ _ h_X) rfl 1 (by decide) (hts (.fieldLink RX7 16 "MeniscusModel" "instruments" "Ljava/util/ArrayList;") (by decide +kernel)) (fun _ h9 => h9) rfl dX7_worst_31 ?_
      refine lv_iload_n hx hb dX7_worst_34 rfl (lv_at hl 1 rfl) ?_
      refine m_callq (va_runV (As := [.int (nI (ix p0))]) (rest := []) ⟨hx, hb, hml, hown, hts⟩ (c_Jx4a65c_get_915e3 l G A (mu (mu Mw (g.1 0 0) (.inr (10, [.ref (g.1 1 0), .ref (g.1 2 0), .int (gS st 2), .int (gS st 3), .int (gS st 1), .int (gS st 0), .int 0]))) (g.1 0 0) (.inr (10, [.ref (g.1 1 0), .ref (g.1 2 0), .int (gS st 2), .int (gS st 3), .int (gS st 1), .int (gS st 0), .int 0])))  h_IL h_ID (ix p0) (g.1 7 (ix p0)) hi9.2 hnN8 (qf_p hi9.2)) (cwV 1 hts gX7_worst_Jx4a65c_get_915e3 rfl rfl rfl (by decide +kernel) ⟨Nat.le_of_ble_eq_true rfl, Nat.le_of_ble_eq_true rfl⟩) (mPreV hG hS hP hI hA (hP _ _ h_IL) (r := (RJx4a65c, TJx4a65c, 3)) rfl) rfl rfl hl.1 rfl (lv_room (Nat.le_of_ble_eq_true rfl)) dX7_worst_35 ⟨Nat.le_of_ble_eq_true rfl, Nat.le_of_ble_eq_true rfl⟩) hS (fun r5 Mw1 H locs hp_r5 hP hI hS => ?_)
      obtain ⟨hp_r5, hm9⟩ := hp_r5
      subst Mw1
      subst hp_r5
      refine va_castE hx hb hown (hts (.classLink RX7 79 RX5) (by decide +kernel)) (va_recv hK (va_at.one (hP _ _ h_I)) (q0 := 0) (q := (RX5, TX5, 17)) rfl rfl) dX7_worst_38 ?_
      refine m_calli (va_runV (As := []) (rest := []) ⟨hx, hb, hml, hown, hts⟩ (c_X5_worst l G A (mu (mu Mw (g.1 0 0) (.inr (10, [.ref (g.1 1 0), .ref (g.1 2 0), .int (gS st 2), .int (gS st 3), .int (gS st 1), .int (gS st 0), .int 0]))) (g.1 0 0) (.inr (10, [.ref (g.1 1 0), .ref (g.1 2 0), .int (gS st 2), .int (gS st 3), .int (gS st 1), .int (gS st 0), .int 0])))  h_I hrn9 h_L h_H h_DR h_DH hRR hHH) (cwV 0 hts gX7_worst_X5_worst rfl rfl rfl (by decide +kernel) ⟨Nat.le_of_ble_eq_true rfl, Nat.le_of_ble_eq_true rfl⟩) (mPreV hG hS hP hI hA (hP _ _ h_I) (r := (RX5, TX5, 17)) rfl) rfl rfl hl.1 rfl (lv_room (Nat.le_of_ble_eq_true rfl)) dX7_worst_41 ⟨Nat.le_of_ble_eq_true rfl, Nat.le_of_ble_eq_true rfl⟩) hS (fun r6 Mw1 H locs hp_r6 hP hI hS => ?_)
      obtain ⟨hp_r6, hm9⟩ := hp_r6
      subst Mw1
      refine W.widen (k := 0) (n := 0) (Nat.le_of_ble_eq_true rfl) (Nat.le_of_ble_eq_true rfl) ?_
      exact W.iret (v := r6) hx hb hr (fun t99 ht99 hW99 => ⟨⟨r6, (mu (mu Mw (g.1 0 0) (.inr (10, [.ref (g.1 1 0), .ref (g.1 2 0), .int (gS st 2), .int (gS st 3), .int (gS st 1), .int (gS st 0), .int 0]))) (g.1 0 0) (.inr (10, [.ref (g.1 1 0), .ref (g.1 2 0), .int (gS st 2), .int (gS st 3), .int (gS st 1), .int (gS st 0), .int 0]))), rfl, RP.ok (by unfold m_worst; first | (rw [chk_p hi9, chk_p hq_r3, hp_r6]; done) | (rw [chk_p hi9, chk_p hq_r3, hp_r6]; rfl)) (hR.th 0 h_X (fun x9 e9 hx9 h0 => ((mu_n h0).trans ((mu_n h0).trans (rfl))).trans hx9)) rfl rfl, by rw [ht99]; exact hP, hI⟩, hS.F ht99⟩) hS.2.2 dX7_worst_44
    · subst hr9
      refine lv_iconst (v := 2) hx hb dX7_worst_19 (by decide) ?_
      refine m_calli (va_runV (As := [.int 1, .int 2]) (rest := []) ⟨hx, hb, hml, hown, hts⟩ (c_X7_isThrown1 l G A (mu Mw (g.1 0 0) (.inr (10, [.ref (g.1 1 0), .ref (g.1 2 0), .int (gS st 2), .int (gS st 3), .int (gS st 1), .int (gS st 0), .int 0])))  2 h_X) (cwV 2 hts gX7_worst_X7_isThrown rfl rfl rfl (by decide +kernel) ⟨Nat.le_of_ble_eq_true rfl, Nat.le_of_ble_eq_true rfl⟩) (mPreV hG hS hP hI hA (hP _ _ h_X) (r := (RX7, TX7, 7)) rfl) rfl rfl hl.1 rfl (lv_room (Nat.le_of_ble_eq_true rfl)) dX7_worst_20 ⟨Nat.le_of_ble_eq_true rfl, Nat.le_of_ble_eq_true rfl⟩) hS (fun r7 Mw1 H locs hp_r7 hP hI hS => ?_)
      obtain ⟨hp_r7, hm9⟩ := hp_r7
      subst Mw1
      subst hp_r7
      have h_TL := mu_k (e := .inr (10, [.ref (g.1 1 0), .ref (g.1 2 0), .int (gS st 2), .int (gS st 3), .int (gS st 1), .int (gS st 0), .int 2])) (kd_ne h_TL h_X rfl) h_TL
      have h_IL := mu_k (e := .inr (10, [.ref (g.1 1 0), .ref (g.1 2 0), .int (gS st 2), .int (gS st 3), .int (gS st 1), .int (gS st 0), .int 2])) (kd_ne h_IL h_X rfl) h_IL
      have h_ID := mu_k (e := .inr (10, [.ref (g.1 1 0), .ref (g.1 2 0), .int (gS st 2), .int (gS st 3), .int (gS st 1), .int (gS st 0), .int 2])) (kd_ne h_ID h_X rfl) h_ID
      have h_I := mu_k (e := .inr (10, [.ref (g.1 1 0), .ref (g.1 2 0), .int (gS st 2), .int (gS st 3), .int (gS st 1), .int (gS st 0), .int 2])) (kd_ne h_I h_X rfl) h_I
      have h_L := mu_k (e := .inr (10, [.ref (g.1 1 0), .ref (g.1 2 0), .int (gS st 2), .int (gS st 3), .int (gS st 1), .int (gS st 0), .int 2])) (kd_ne h_L h_X rfl) h_L
      have h_H := mu_k (e := .inr (10, [.ref (g.1 1 0), .ref (g.1 2 0), .int (gS st 2), .int (gS st 3), .int (gS st 1), .int (gS st 0), .int 2])) (kd_ne h_H h_X rfl) h_H
      have h_X : (mu (mu Mw (g.1 0 0) (.inr (10, [.ref (g.1 1 0), .ref (g.1 2 0), .int (gS st 2), .int (gS st 3), .int (gS st 1), .int (gS st 0), .int 0]))) (g.1 0 0) (.inr (10, [.ref (g.1 1 0), .ref (g.1 2 0), .int (gS st 2), .int (gS st 3), .int (gS st 1), .int (gS st 0), .int 2]))) (g.1 0 0) = some (.inr (10, [.ref (g.1 1 0), .ref (g.1 2 0), .int (gS st 2), .int (gS st 3), .int (gS st 1), .int (gS st 0), .int 2])) := mu_s
      refine lv_if_eq (tgt := 30) hx hb dX7_worst_23 (by decide) (fun h9 => absurd h9 (by decide)) (fun _ => ?_)
      refine lv_iconst (v := 0) hx hb dX7_worst_26 (by decide) ?_
      refine lv_goto (tgt := 44) hx hb dX7_worst_27 (by decide) ?_
      refine W.widen (k := 0) (n := 0) (Nat.le_of_ble_eq_true rfl) (Nat.le_of_ble_eq_true rfl) ?_
      exact W.iret (v := 0) hx hb hr (fun t99 ht99 hW99 => ⟨⟨0, (mu (mu Mw (g.1 0 0) (.inr (10, [.ref (g.1 1 0), .ref (g.1 2 0), .int (gS st 2), .int (gS st 3), .int (gS st 1), .int (gS st 0), .int 0]))) (g.1 0 0) (.inr (10, [.ref (g.1 1 0), .ref (g.1 2 0), .int (gS st 2), .int (gS st 3), .int (gS st 1), .int (gS st 0), .int 2]))), rfl, RP.no (k := 2) (by unfold m_worst; first | (rw [chk_p hi9, chk_n (fun q9 => q9 hq_r3)]; done) | (rw [chk_p hi9, chk_n (fun q9 => q9 hq_r3)]; rfl)) (by decide) (hR.th 2 h_X (fun x9 e9 hx9 h0 => ((mu_n h0).trans ((mu_n h0).trans (rfl))).trans hx9)) rfl rfl, by rw [ht99]; exact hP, hI⟩, hS.F ht99⟩) hS.2.2 dX7_worst_44
  · subst hr9
    refine lv_iconst (v := 1) hx hb dX7_worst_6 (by decide) ?_
    refine m_calli (va_runV (As := [.int 1, .int 1]) (rest := []) ⟨hx, hb, hml, hown, hts⟩ (c_X7_isThrown1 l G A Mw  1 h_X) (cwV 2 hts gX7_worst_X7_isThrown rfl rfl rfl (by decide +kernel) ⟨Nat.le_of_ble_eq_true rfl, Nat.le_of_ble_eq_true rfl⟩) (mPreV hG hS hP hI hA (hP _ _ h_X) (r := (RX7, TX7, 7)) rfl) rfl rfl hl.1 rfl (lv_room (Nat.le_of_ble_eq_true rfl)) dX7_worst_7 ⟨Nat.le_of_ble_eq_true rfl, Nat.le_of_ble_eq_true rfl⟩) hS (fun r8 Mw1 H locs hp_r8 hP hI hS => ?_)
    obtain ⟨hp_r8, hm9⟩ := hp_r8
    subst Mw1
    subst hp_r8
    have h_TL := mu_k (e := .inr (10, [.ref (g.1 1 0), .ref (g.1 2 0), .int (gS st 2), .int (gS st 3), .int (gS st 1), .int (gS st 0), .int 1])) (kd_ne h_TL h_X rfl) h_TL
    have h_IL := mu_k (e := .inr (10, [.ref (g.1 1 0), .ref (g.1 2 0), .int (gS st 2), .int (gS st 3), .int (gS st 1), .int (gS st 0), .int 1])) (kd_ne h_IL h_X rfl) h_IL
    have h_X : (mu Mw (g.1 0 0) (.inr (10, [.ref (g.1 1 0), .ref (g.1 2 0), .int (gS st 2), .int (gS st 3), .int (gS st 1), .int (gS st 0), .int 1]))) (g.1 0 0) = some (.inr (10, [.ref (g.1 1 0), .ref (g.1 2 0), .int (gS st 2), .int (gS st 3), .int (gS st 1), .int (gS st 0), .int 1])) := mu_s
    refine lv_if_ne (tgt := 26) hx hb dX7_worst_10 (by decide) (fun _ => ?_) (fun h9 => absurd h9 (by decide))
    refine lv_iconst (v := 0) hx hb dX7_worst_26 (by decide) ?_
    refine lv_goto (tgt := 44) hx hb dX7_worst_27 (by decide) ?_
    refine W.widen (k := 0) (n := 0) (Nat.le_of_ble_eq_true rfl) (Nat.le_of_ble_eq_true rfl) ?_
    exact W.iret (v := 0) hx hb hr (fun t99 ht99 hW99 => ⟨⟨0, (mu Mw (g.1 0 0) (.inr (10, [.ref (g.1 1 0), .ref (g.1 2 0), .int (gS st 2), .int (gS st 3), .int (gS st 1), .int (gS st 0), .int 1]))), rfl, RP.no (k := 1) (by unfold m_worst; first | (rw [chk_n hq_r1]; done) | (rw [chk_n hq_r1]; rfl)) (by decide) (hR.th 1 h_X (fun x9 e9 hx9 h0 => ((mu_n h0).trans (rfl)).trans hx9)) rfl rfl, by rw [ht99]; exact hP, hI⟩, hS.F ht99⟩) hS.2.2 dX7_worst_44

set_option maxHeartbeats 4000000 in
set_option maxRecDepth 100000 in
theorem c_X7_grade (l : Launch) (G : mg) (A : Nat → Prop) (Mw : mw) (st : St) (g : gR) (p0 : Int32) (hR : RS G st g Mw) (hV : Inv st) : Met l yX7_grade wsX7_grade ({ frames := 6, cells := 0, slots := 0, locals := 128 }) (va_Pc [.ref (g.1 0 0), .int p0] (mB G A Mw)) (va_Qi (fun r Mw1 => RP G (m_grade st p0) g r Mw1) (mE G A) A) 0 0 A := by
  refine Met.ofW (cc := cX7_grade) (maxL := 2) (ret := (some .char)) (by decide) rfl ?_
  intro p e s m args below meth c s₁ B hml hv
  obtain ⟨rfl, hG, hP, hI, hA⟩ := hv
  have hx := B.exec
  have hb := B.bytes
  have hr := B.returns
  have hts := atoms_spec (ws := wsX7_grade) B.pre
  have hown : s.vm.findClass RX7 = some m.cls := findClass_of_methodNamed B.named
  have hlocks := B.notSynchronized
  have hK := hG.K
  have i_X7 : ∀ w ∈ wsX70, w ∈ wsX7_grade := by decide +kernel
  have hS : va_S A s.heap s.heap [] := va_S.rf
  have hl := lv_entry ([.ref (g.1 0 0), .int p0]) (n := 2) (Nat.le_of_ble_eq_true rfl)
  rw [lg_entry_eq]
  generalize (lg_sl ([.ref (g.1 0 0), .int p0]) ++ List.replicate (2 - (lg_sl ([.ref (g.1 0 0), .int p0])).length) Slot.unset).toArray = ls at hl ⊢
  have hl : lv_has ls 2 [(0, .ref (g.1 0 0)), (1, .int p0)] := hl
  have hP : mP G.1 Mw s.heap := hP
  have h_X : Mw (g.1 0 0) = some (.inr (10, [.ref (g.1 1 0), .ref (g.1 2 0), .int (gS st 2), .int (gS st 3), .int (gS st 1), .int (gS st 0), .int (thR g)])) := hR.1 0 0 ro0
  have h_TL : Mw (g.1 1 0) = some (.inr (2, [.int (mcR g 1 0), .ref (g.1 3 0), .int ((nI (nT st)))])) := hR.1 1 0 ro1
  have h_IL : Mw (g.1 2 0) = some (.inr (2, [.int (mcR g 2 0), .ref (g.1 4 0), .int ((nI (nN st)))])) := hR.1 2 0 ro2
  have hti9 := hR.ne ro1 ro2 (by omega)
  have hnT8 := hV.1.1
  have hnN8 := Nat.le_trans hV.1.2 (show 6 ≤ 8 by decide)
  have h_X0 := h_X
  refine lv_aload_n hx hb dX7_grade_0 rfl (lv_at hl 0 rfl) ?_
  refine lv_aload_n hx hb dX7_grade_1 rfl (lv_at hl 0 rfl) ?_
  refine lv_iload_n hx hb dX7_grade_2 rfl (lv_at hl 1 rfl) ?_
  refine m_calli (va_runV (As := [.int p0]) (rest := [.ref (g.1 0 0)]) ⟨hx, hb, hml, hown, hts⟩ (c_X7_isNone l G A Mw  p0 h_X h_IL hnN8) (cwV 1 hts gX7_grade_X7_isNone rfl rfl rfl (by decide +kernel) ⟨Nat.le_of_ble_eq_true rfl, Nat.le_of_ble_eq_true rfl⟩) (mPreV hG hS hP hI hA (hP _ _ h_X) (r := (RX7, TX7, 7)) rfl) rfl rfl hl.1 rfl (lv_room (Nat.le_of_ble_eq_true rfl)) dX7_grade_3 ⟨Nat.le_of_ble_eq_true rfl, Nat.le_of_ble_eq_true rfl⟩) hS (fun r1 Mw1 H locs hp_r1 hP hI hS => ?_)
  obtain ⟨hb9, hm9⟩ := hp_r1
  subst Mw1
  rcases hb9 with ⟨hr9, hq_r1⟩ | ⟨hr9, hq_r1⟩
  · subst hr9
    have hi9 := hq_r1
    have e_p0 : p0 = nI (ix p0) := nI_cl hi9.1
    rw [e_p0] at hl
    have hf4 := hR.f4 hi9.2
    have h_ID : Mw (g.1 4 0) = some (.inl (G.2.1 5, 10, .inr (.inr (.inr (.inr (qf (nN st) (g.1 7))))))) := hR.1 4 0 (ro4 hf4)
    have h_I : Mw (g.1 7 (ix p0)) = some (.inr (8, [.ref (g.1 5 (tbN st (ix p0))), .int (itS st (ix p0) 1), .int (sof (itS st (ix p0) 2)), .int (itS st (ix p0) 3), .int (itS st (ix p0) 7), .int (itS st (ix p0) 6), .int (itS st (ix p0) 5), .int (itS st (ix p0) 12), .int (itS st (ix p0) 13), .int (itS st (ix p0) 14), .int (itS st (ix p0) 15), .int (itS st (ix p0) 8), .int (itS st (ix p0) 9), .int (itS st (ix p0) 10), .int (ceR g (ix p0)), .ref (g.1 8 (ix p0)), .ref (g.1 9 (ix p0))])) := hR.1 7 _ (ro7 hi9.2)
    have hrn9 := hV.rn hi9.2
    have hli9 := hR.ne (ro8 hi9.2) ro2 (by omega)
    have h_L : Mw (g.1 8 (ix p0)) = some (.inr (2, [.int (mcR g 8 (ix p0)), .ref (g.1 10 (ix p0)), .int ((nI (rnS st (ix p0))))])) := hR.1 8 _ (ro8 hi9.2)
    have hhi9 := hR.ne (ro9 hi9.2) ro2 (by omega)
    have hlh9 := hR.ne (ro8 hi9.2) (ro9 hi9.2) (by omega)
    have hlt9 := hR.ne (ro8 hi9.2) ro1 (by omega)
    have hht9 := hR.ne (ro9 hi9.2) ro1 (by omega)
    have h_H : Mw (g.1 9 (ix p0)) = some (.inr (2, [.int (mcR g 9 (ix p0)), .ref (g.1 11 (ix p0)), .int ((nI (rnS st (ix p0))))])) := hR.1 9 _ (ro9 hi9.2)
    refine lv_iconst (v := 1) hx hb dX7_grade_6 (by decide) ?_
    refine m_calli (va_runV (As := [.int 0, .int 1]) (rest := []) ⟨hx, hb, hml, hown, hts⟩ (c_X7_isThrown0 l G A Mw  1 h_X) (cwV 2 hts gX7_grade_X7_isThrown rfl rfl rfl (by decide +kernel) ⟨Nat.le_of_ble_eq_true rfl, Nat.le_of_ble_eq_true rfl⟩) (mPreV hG hS hP hI hA (hP _ _ h_X) (r := (RX7, TX7, 7)) rfl) rfl rfl hl.1 rfl (lv_room (Nat.le_of_ble_eq_true rfl)) dX7_grade_7 ⟨Nat.le_of_ble_eq_true rfl, Nat.le_of_ble_eq_true rfl⟩) hS (fun r2 Mw1 H locs hp_r2 hP hI hS => ?_)
    obtain ⟨hp_r2, hm9⟩ := hp_r2
    subst Mw1
    subst hp_r2
    have h_TL := mu_k (e := .inr (10, [.ref (g.1 1 0), .ref (g.1 2 0), .int (gS st 2), .int (gS st 3), .int (gS st 1), .int (gS st 0), .int 0])) (kd_ne h_TL h_X rfl) h_TL
    have h_IL := mu_k (e := .inr (10, [.ref (g.1 1 0), .ref (g.1 2 0), .int (gS st 2), .int (gS st 3), .int (gS st 1), .int (gS st 0), .int 0])) (kd_ne h_IL h_X rfl) h_IL
    have h_ID := mu_k (e := .inr (10, [.ref (g.1 1 0), .ref (g.1 2 0), .int (gS st 2), .int (gS st 3), .int (gS st 1), .int (gS st 0), .int 0])) (kd_ne h_ID h_X rfl) h_ID
    have h_I := mu_k (e := .inr (10, [.ref (g.1 1 0), .ref (g.1 2 0), .int (gS st 2), .int (gS st 3), .int (gS st 1), .int (gS st 0), .int 0])) (kd_ne h_I h_X rfl) h_I
    have h_L := mu_k (e := .inr (10, [.ref (g.1 1 0), .ref (g.1 2 0), .int (gS st 2), .int (gS st 3), .int (gS st 1), .int (gS st 0), .int 0])) (kd_ne h_L h_X rfl) h_L
    have h_H := mu_k (e := .inr (10, [.ref (g.1 1 0), .ref (g.1 2 0), .int (gS st 2), .int (gS st 3), .int (gS st 1), .int (gS st 0), .int 0])) (kd_ne h_H h_X rfl) h_H
    have h_X : (mu Mw (g.1 0 0) (.inr (10, [.ref (g.1 1 0), .ref (g.1 2 0), .int (gS st 2), .int (gS st 3), .int (gS st 1), .int (gS st 0), .int 0]))) (g.1 0 0) = some (.inr (10, [.ref (g.1 1 0), .ref (g.1 2 0), .int (gS st 2), .int (gS st 3), .int (gS st 1), .int (gS st 0), .int 0])) := mu_s
    refine lv_if_ne (tgt := 26) hx hb dX7_grade_10 (by decide) (fun h9 => absurd h9 (by decide)) (fun _ => ?_)
    refine lv_aload_n hx hb dX7_grade_13 rfl (lv_at hl 0 rfl) ?_
    refine lv_aload_n hx hb dX7_grade_14 rfl (lv_at hl 0 rfl) ?_
    refine lv_iload_n hx hb dX7_grade_15 rfl (lv_at hl 1 rfl) ?_
    refine m_calli (va_runV (As := [.int (nI (ix p0))]) (rest := [.ref (g.1 0 0)]) ⟨hx, hb, hml, hown, hts⟩ (c_X7_isFew l G A (mu Mw (g.1 0 0) (.inr (10, [.ref (g.1 1 0), .ref (g.1 2 0), .int (gS st 2), .int (gS st 3), .int (gS st 1), .int (gS st 0), .int 0])))  h_X h_IL hnN8 h_ID h_I (ix p0) hi9.2 (qf_p hi9.2) h_L hrn9 hli9) (cwV 1 hts gX7_grade_X7_isFew rfl rfl rfl (by decide +kernel) ⟨Nat.le_of_ble_eq_true rfl, Nat.le_of_ble_eq_true rfl⟩) (mPreV hG hS hP hI hA (hP _ _ h_X) (r := (RX7, TX7, 7)) rfl) rfl rfl hl.1 rfl (lv_room (Nat.le_of_ble_eq_true rfl)) dX7_grade_16 ⟨Nat.le_of_ble_eq_true rfl, Nat.le_of_ble_eq_true rfl⟩) hS (fun r3 Mw1 H locs hp_r3 hP hI hS => ?_)
    obtain ⟨hb9, hm9⟩ := hp_r3
    subst Mw1
    rcases hb9 with ⟨hr9, hq_r3⟩ | ⟨hr9, hq_r3⟩
    · subst hr9
      refine lv_iconst (v := 2) hx hb dX7_grade_19 (by decide) ?_
      refine m_calli (va_runV (As := [.int 0, .int 2]) (rest := []) ⟨hx, hb, hml, hown, hts⟩ (c_X7_isThrown0 l G A (mu Mw (g.1 0 0) (.inr (10, [.ref (g.1 1 0), .ref (g.1 2 0), .int (gS st 2), .int (gS st 3), .int (gS st 1), .int (gS st 0), .int 0])))  2 h_X) (cwV 2 hts gX7_grade_X7_isThrown rfl rfl rfl (by decide +kernel) ⟨Nat.le_of_ble_eq_true rfl, Nat.le_of_ble_eq_true rfl⟩) (mPreV hG hS hP hI hA (hP _ _ h_X) (r := (RX7, TX7, 7)) rfl) rfl rfl hl.1 rfl (lv_room (Nat.le_of_ble_eq_true rfl)) dX7_grade_20 ⟨Nat.le_of_ble_eq_true rfl, Nat.le_of_ble_eq_true rfl⟩) hS (fun r4 Mw1 H locs hp_r4 hP hI hS => ?_)
      obtain ⟨hp_r4, hm9⟩ := hp_r4
      subst Mw1
      subst hp_r4
      have h_TL := mu_k (e := .inr (10, [.ref (g.1 1 0), .ref (g.1 2 0), .int (gS st 2), .int (gS st 3), .int (gS st 1), .int (gS st 0), .int 0])) (kd_ne h_TL h_X rfl) h_TL
      have h_IL := mu_k (e := .inr (10, [.ref (g.1 1 0), .ref (g.1 2 0), .int (gS st 2), .int (gS st 3), .int (gS st 1), .int (gS st 0), .int 0])) (kd_ne h_IL h_X rfl) h_IL
      have h_ID := mu_k (e := .inr (10, [.ref (g.1 1 0), .ref (g.1 2 0), .int (gS st 2), .int (gS st 3), .int (gS st 1), .int (gS st 0), .int 0])) (kd_ne h_ID h_X rfl) h_ID
      have h_I := mu_k (e := .inr (10, [.ref (g.1 1 0), .ref (g.1 2 0), .int (gS st 2), .int (gS st 3), .int (gS st 1), .int (gS st 0), .int 0])) (kd_ne h_I h_X rfl) h_I
      have h_L := mu_k (e := .inr (10, [.ref (g.1 1 0), .ref (g.1 2 0), .int (gS st 2), .int (gS st 3), .int (gS st 1), .int (gS st 0), .int 0])) (kd_ne h_L h_X rfl) h_L
      have h_H := mu_k (e := .inr (10, [.ref (g.1 1 0), .ref (g.1 2 0), .int (gS st 2), .int (gS st 3), .int (gS st 1), .int (gS st 0), .int 0])) (kd_ne h_H h_X rfl) h_H
      have h_X : (mu (mu Mw (g.1 0 0) (.inr (10, [.ref (g.1 1 0), .ref (g.1 2 0), .int (gS st 2), .int (gS st 3), .int (gS st 1), .int (gS st 0), .int 0]))) (g.1 0 0) (.inr (10, [.ref (g.1 1 0), .ref (g.1 2 0), .int (gS st 2), .int (gS st 3), .int (gS st 1), .int (gS st 0), .int 0]))) (g.1 0 0) = some (.inr (10, [.ref (g.1 1 0), .ref (g.1 2 0), .int (gS st 2), .int (gS st 3), .int (gS st 1), .int (gS st 0), .int 0])) := mu_s
      refine lv_if_eq (tgt := 31) hx hb dX7_grade_23 (by decide) (fun _ => ?_) (fun h9 => absurd h9 (by decide))
      have hn8 : rnS st (ix p0) ≠ 0 := fun q9 => by have h8 := hq_r3; omega
      have hf10 := hR.f10 hi9.2 hn8
      have hdd9 := hR.ne (ro10 hi9.2 hf10) (ro11 hi9.2 hf10) (by omega)
      have h_DR0 : Mw (g.1 10 (ix p0)) = some (.inl (G.2.1 5, 10, .inr (.inr (.inr (.inr (qf (rnS st (ix p0)) (ivR g (ix p0)))))))) := hR.1 10 _ (ro10 hi9.2 hf10)
      have h_DR : (mu (mu Mw (g.1 0 0) (.inr (10, [.ref (g.1 1 0), .ref (g.1 2 0), .int (gS st 2), .int (gS st 3), .int (gS st 1), .int (gS st 0), .int 0]))) (g.1 0 0) (.inr (10, [.ref (g.1 1 0), .ref (g.1 2 0), .int (gS st 2), .int (gS st 3), .int (gS st 1), .int (gS st 0), .int 0]))) (g.1 10 (ix p0)) = some (.inl (G.2.1 5, 10, .inr (.inr (.inr (.inr (qf (rnS st (ix p0)) (ivR g (ix p0)))))))) := by first | exact h_DR0 | exact ((mu_n (kd_ne h_DR0 h_X0 rfl)).trans ((mu_n (kd_ne h_DR0 h_X0 rfl)).trans (rfl))).trans h_DR0
      have h_DH0 : Mw (g.1 11 (ix p0)) = some (.inl (G.2.1 5, 10, .inr (.inr (.inr (.inr (qf (rnS st (ix p0)) (ihR g (ix p0)))))))) := hR.1 11 _ (ro11 hi9.2 hf10)
      have h_DH : (mu (mu Mw (g.1 0 0) (.inr (10, [.ref (g.1 1 0), .ref (g.1 2 0), .int (gS st 2), .int (gS st 3), .int (gS st 1), .int (gS st 0), .int 0]))) (g.1 0 0) (.inr (10, [.ref (g.1 1 0), .ref (g.1 2 0), .int (gS st 2), .int (gS st 3), .int (gS st 1), .int (gS st 0), .int 0]))) (g.1 11 (ix p0)) = some (.inl (G.2.1 5, 10, .inr (.inr (.inr (.inr (qf (rnS st (ix p0)) (ihR g (ix p0)))))))) := by first | exact h_DH0 | exact ((mu_n (kd_ne h_DH0 h_X0 rfl)).trans ((mu_n (kd_ne h_DH0 h_X0 rfl)).trans (rfl))).trans h_DH0
      have hRR : ∀ i, i < rnS st (ix p0) → ∃ y : Nat, (qf (rnS st (ix p0)) (ivR g (ix p0))) i = some y ∧ ((mu (mu Mw (g.1 0 0) (.inr (10, [.ref (g.1 1 0), .ref (g.1 2 0), .int (gS st 2), .int (gS st 3), .int (gS st 1), .int (gS st 0), .int 0]))) (g.1 0 0) (.inr (10, [.ref (g.1 1 0), .ref (g.1 2 0), .int (gS st 2), .int (gS st 3), .int (gS st 1), .int (gS st 0), .int 0]))) y = some (.inr (0, [.int (rvS st (ix p0) i)])) ∨ G.2.2.1 y = some (.inr (0, [.int (rvS st (ix p0) i)]))) := fun i9 hi8 => ⟨_, qf_p hi8, or_fr (fun q9 => (mu_n (kd_ne q9 h_X0 rfl)).trans ((mu_n (kd_ne q9 h_X0 rfl)).trans (rfl))) ((hR.2.2.2.2 _ hi9.2).2.2 i9 hi8).1⟩
      have hHH : ∀ i, i < rnS st (ix p0) → ∃ y : Nat, (qf (rnS st (ix p0)) (ihR g (ix p0))) i = some y ∧ ((mu (mu Mw (g.1 0 0) (.inr (10, [.ref (g.1 1 0), .ref (g.1 2 0), .int (gS st 2), .int (gS st 3), .int (gS st 1), .int (gS st 0), .int 0]))) (g.1 0 0) (.inr (10, [.ref (g.1 1 0), .ref (g.1 2 0), .int (gS st 2), .int (gS st 3), .int (gS st 1), .int (gS st 0), .int 0]))) y = some (.inr (0, [.int (rhS st (ix p0) i)])) ∨ G.2.2.1 y = some (.inr (0, [.int (rhS st (ix p0) i)]))) := fun i9 hi8 => ⟨_, qf_p hi8, or_fr (fun q9 => (mu_n (kd_ne q9 h_X0 rfl)).trans ((mu_n (kd_ne q9 h_X0 rfl)).trans (rfl))) ((hR.2.2.2.2 _ hi9.2).2.2 i9 hi8).2⟩
      refine lv_aload_n hx hb dX7_grade_31 rfl (lv_at hl 0 rfl) ?_
      refine m_get (ci := 10) (v := .ref (g.1 2 0)) (C := RX7) (T := TX7) (N := 7) hx hb hts i_X7 hown hK (hP _ _ h_X) rfl 1 (by decide) (hts (.fieldLink RX7 16 "MeniscusModel" "instruments" "Ljava/util/ArrayList;") (by decide +kernel)) (fun _ h9 => h9) rfl dX7_grade_32 ?_
      refine lv_iload_n hx hb dX7_grade_35 rfl (lv_at hl 1 rfl) ?_
      refine m_callq (va_runV (As := [.int (nI (ix p0))]) (rest := []) ⟨hx, hb, hml, hown, hts⟩ (c_Jx4a65c_get_915e3 l G A (mu (mu Mw (g.1 0 0) (.inr (10, [.ref (g.1 1 0), .ref (g.1 2 0), .int (gS st 2), .int (gS st 3), .int (gS st 1), .int (gS st 0), .int 0]))) (g.1 0 0) (.inr (10, [.ref (g.1 1 0), .ref (g.1 2 0), .int (gS st 2), .int (gS st 3), .int (gS st 1), .int (gS st 0), .int 0])))  h_IL h_ID (ix p0) (g.1 7 (ix p0)) hi9.2 hnN8 (qf_p hi9.2)) (cwV 1 hts gX7_grade_Jx4a65c_get_915e3 rfl rfl rfl (by decide +kernel) ⟨Nat.le_of_ble_eq_true rfl, Nat.le_of_ble_eq_true rfl⟩) (mPreV hG hS hP hI hA (hP _ _ h_IL) (r := (RJx4a65c, TJx4a65c, 3)) rfl) rfl rfl hl.1 rfl (lv_room (Nat.le_of_ble_eq_true rfl)) dX7_grade_36 ⟨Nat.le_of_ble_eq_true rfl, Nat.le_of_ble_eq_true rfl⟩) hS (fun r5 Mw1 H locs hp_r5 hP hI hS => ?_)
      obtain ⟨hp_r5, hm9⟩ := hp_r5
      subst Mw1
      subst hp_r5
      refine va_castE hx hb hown (hts (.classLink RX7 79 RX5) (by decide +kernel)) (va_recv hK (va_at.one (hP _ _ h_I)) (q0 := 0) (q := (RX5, TX5, 17)) rfl rfl) dX7_grade_39 ?_
      refine m_calli (va_runV (As := []) (rest := []) ⟨hx, hb, hml, hown, hts⟩ (c_X5_grade l G A (mu (mu Mw (g.1 0 0) (.inr (10, [.ref (g.1 1 0), .ref (g.1 2 0), .int (gS st 2), .int (gS st 3), .int (gS st 1), .int (gS st 0), .int 0]))) (g.1 0 0) (.inr (10, [.ref (g.1 1 0), .ref (g.1 2 0), .int (gS st 2), .int (gS st 3), .int (gS st 1), .int (gS st 0), .int 0])))  h_I hrn9 h_L h_H h_DR h_DH hRR hHH) (cwV 0 hts gX7_grade_X5_grade rfl rfl rfl (by decide +kernel) ⟨Nat.le_of_ble_eq_true rfl, Nat.le_of_ble_eq_true rfl⟩) (mPreV hG hS hP hI hA (hP _ _ h_I) (r := (RX5, TX5, 17)) rfl) rfl rfl hl.1 rfl (lv_room (Nat.le_of_ble_eq_true rfl)) dX7_grade_42 ⟨Nat.le_of_ble_eq_true rfl, Nat.le_of_ble_eq_true rfl⟩) hS (fun r6 Mw1 H locs hp_r6 hP hI hS => ?_)
      obtain ⟨hp_r6, hm9⟩ := hp_r6
      subst Mw1
      refine W.widen (k := 0) (n := 0) (Nat.le_of_ble_eq_true rfl) (Nat.le_of_ble_eq_true rfl) ?_
      exact W.zret (v := r6) hx hb hr (by rw [hp_r6]; exact clsEc _) (fun t99 ht99 hW99 => ⟨⟨r6, (mu (mu Mw (g.1 0 0) (.inr (10, [.ref (g.1 1 0), .ref (g.1 2 0), .int (gS st 2), .int (gS st 3), .int (gS st 1), .int (gS st 0), .int 0]))) (g.1 0 0) (.inr (10, [.ref (g.1 1 0), .ref (g.1 2 0), .int (gS st 2), .int (gS st 3), .int (gS st 1), .int (gS st 0), .int 0]))), rfl, RP.ok (by unfold m_grade; first | (rw [chk_p hi9, chk_p hq_r3, hp_r6]; done) | (rw [chk_p hi9, chk_p hq_r3, hp_r6]; rfl)) (hR.th 0 h_X (fun x9 e9 hx9 h0 => ((mu_n h0).trans ((mu_n h0).trans (rfl))).trans hx9)) rfl rfl, by rw [ht99]; exact hP, hI⟩, hS.F ht99⟩) hS.2.2 dX7_grade_45
    · subst hr9
      refine lv_iconst (v := 2) hx hb dX7_grade_19 (by decide) ?_
      refine m_calli (va_runV (As := [.int 1, .int 2]) (rest := []) ⟨hx, hb, hml, hown, hts⟩ (c_X7_isThrown1 l G A (mu Mw (g.1 0 0) (.inr (10, [.ref (g.1 1 0), .ref (g.1 2 0), .int (gS st 2), .int (gS st 3), .int (gS st 1), .int (gS st 0), .int 0])))  2 h_X) (cwV 2 hts gX7_grade_X7_isThrown rfl rfl rfl (by decide +kernel) ⟨Nat.le_of_ble_eq_true rfl, Nat.le_of_ble_eq_true rfl⟩) (mPreV hG hS hP hI hA (hP _ _ h_X) (r := (RX7, TX7, 7)) rfl) rfl rfl hl.1 rfl (lv_room (Nat.le_of_ble_eq_true rfl)) dX7_grade_20 ⟨Nat.le_of_ble_eq_true rfl, Nat.le_of_ble_eq_true rfl⟩) hS (fun r7 Mw1 H locs hp_r7 hP hI hS => ?_)
      obtain ⟨hp_r7, hm9⟩ := hp_r7
      subst Mw1
      subst hp_r7
      have h_TL := mu_k (e := .inr (10, [.ref (g.1 1 0), .ref (g.1 2 0), .int (gS st 2), .int (gS st 3), .int (gS st 1), .int (gS st 0), .int 2])) (kd_ne h_TL h_X rfl) h_TL
      have h_IL := mu_k (e := .inr (10, [.ref (g.1 1 0), .ref (g.1 2 0), .int (gS st 2), .int (gS st 3), .int (gS st 1), .int (gS st 0), .int 2])) (kd_ne h_IL h_X rfl) h_IL
      have h_ID := mu_k (e := .inr (10, [.ref (g.1 1 0), .ref (g.1 2 0), .int (gS st 2), .int (gS st 3), .int (gS st 1), .int (gS st 0), .int 2])) (kd_ne h_ID h_X rfl) h_ID
      have h_I := mu_k (e := .inr (10, [.ref (g.1 1 0), .ref (g.1 2 0), .int (gS st 2), .int (gS st 3), .int (gS st 1), .int (gS st 0), .int 2])) (kd_ne h_I h_X rfl) h_I
      have h_L := mu_k (e := .inr (10, [.ref (g.1 1 0), .ref (g.1 2 0), .int (gS st 2), .int (gS st 3), .int (gS st 1), .int (gS st 0), .int 2])) (kd_ne h_L h_X rfl) h_L
      have h_H := mu_k (e := .inr (10, [.ref (g.1 1 0), .ref (g.1 2 0), .int (gS st 2), .int (gS st 3), .int (gS st 1), .int (gS st 0), .int 2])) (kd_ne h_H h_X rfl) h_H
      have h_X : (mu (mu Mw (g.1 0 0) (.inr (10, [.ref (g.1 1 0), .ref (g.1 2 0), .int (gS st 2), .int (gS st 3), .int (gS st 1), .int (gS st 0), .int 0]))) (g.1 0 0) (.inr (10, [.ref (g.1 1 0), .ref (g.1 2 0), .int (gS st 2), .int (gS st 3), .int (gS st 1), .int (gS st 0), .int 2]))) (g.1 0 0) = some (.inr (10, [.ref (g.1 1 0), .ref (g.1 2 0), .int (gS st 2), .int (gS st 3), .int (gS st 1), .int (gS st 0), .int 2])) := mu_s
      refine lv_if_eq (tgt := 31) hx hb dX7_grade_23 (by decide) (fun h9 => absurd h9 (by decide)) (fun _ => ?_)
      refine lv_bipush (v := (32)) hx hb dX7_grade_26 (by decide) ?_
      refine lv_goto (tgt := 45) hx hb dX7_grade_28 (by decide) ?_
      refine W.widen (k := 0) (n := 0) (Nat.le_of_ble_eq_true rfl) (Nat.le_of_ble_eq_true rfl) ?_
      exact W.zret (v := 32) hx hb hr rfl (fun t99 ht99 hW99 => ⟨⟨32, (mu (mu Mw (g.1 0 0) (.inr (10, [.ref (g.1 1 0), .ref (g.1 2 0), .int (gS st 2), .int (gS st 3), .int (gS st 1), .int (gS st 0), .int 0]))) (g.1 0 0) (.inr (10, [.ref (g.1 1 0), .ref (g.1 2 0), .int (gS st 2), .int (gS st 3), .int (gS st 1), .int (gS st 0), .int 2]))), rfl, RP.no (k := 2) (by unfold m_grade; first | (rw [chk_p hi9, chk_n hq_r3]; done) | (rw [chk_p hi9, chk_n hq_r3]; rfl)) (by decide) (hR.th 2 h_X (fun x9 e9 hx9 h0 => ((mu_n h0).trans ((mu_n h0).trans (rfl))).trans hx9)) rfl rfl, by rw [ht99]; exact hP, hI⟩, hS.F ht99⟩) hS.2.2 dX7_grade_45
  · subst hr9
    refine lv_iconst (v := 1) hx hb dX7_grade_6 (by decide) ?_
    refine m_calli (va_runV (As := [.int 1, .int 1]) (rest := []) ⟨hx, hb, hml, hown, hts⟩ (c_X7_isThrown1 l G A Mw  1 h_X) (cwV 2 hts gX7_grade_X7_isThrown rfl rfl rfl (by decide +kernel) ⟨Nat.le_of_ble_eq_true rfl, Nat.le_of_ble_eq_true rfl⟩) (mPreV hG hS hP hI hA (hP _ _ h_X) (r := (RX7, TX7, 7)) rfl) rfl rfl hl.1 rfl (lv_room (Nat.le_of_ble_eq_true rfl)) dX7_grade_7 ⟨Nat.le_of_ble_eq_true rfl, Nat.le_of_ble_eq_true rfl⟩) hS (fun r8 Mw1 H locs hp_r8 hP hI hS => ?_)
    obtain ⟨hp_r8, hm9⟩ := hp_r8
    subst Mw1
    subst hp_r8
    have h_TL := mu_k (e := .inr (10, [.ref (g.1 1 0), .ref (g.1 2 0), .int (gS st 2), .int (gS st 3), .int (gS st 1), .int (gS st 0), .int 1])) (kd_ne h_TL h_X rfl) h_TL
    have h_IL := mu_k (e := .inr (10, [.ref (g.1 1 0), .ref (g.1 2 0), .int (gS st 2), .int (gS st 3), .int (gS st 1), .int (gS st 0), .int 1])) (kd_ne h_IL h_X rfl) h_IL
    have h_X : (mu Mw (g.1 0 0) (.inr (10, [.ref (g.1 1 0), .ref (g.1 2 0), .int (gS st 2), .int (gS st 3), .int (gS st 1), .int (gS st 0), .int 1]))) (g.1 0 0) = some (.inr (10, [.ref (g.1 1 0), .ref (g.1 2 0), .int (gS st 2), .int (gS st 3), .int (gS st 1), .int (gS st 0), .int 1])) := mu_s
    refine lv_if_ne (tgt := 26) hx hb dX7_grade_10 (by decide) (fun _ => ?_) (fun h9 => absurd h9 (by decide))
    refine lv_bipush (v := (32)) hx hb dX7_grade_26 (by decide) ?_
    refine lv_goto (tgt := 45) hx hb dX7_grade_28 (by decide) ?_
    refine W.widen (k := 0) (n := 0) (Nat.le_of_ble_eq_true rfl) (Nat.le_of_ble_eq_true rfl) ?_
    exact W.zret (v := 32) hx hb hr rfl (fun t99 ht99 hW99 => ⟨⟨32, (mu Mw (g.1 0 0) (.inr (10, [.ref (g.1 1 0), .ref (g.1 2 0), .int (gS st 2), .int (gS st 3), .int (gS st 1), .int (gS st 0), .int 1]))), rfl, RP.no (k := 1) (by unfold m_grade; first | (rw [chk_n hq_r1]; done) | (rw [chk_n hq_r1]; rfl)) (by decide) (hR.th 1 h_X (fun x9 e9 hx9 h0 => ((mu_n h0).trans (rfl)).trans hx9)) rfl rfl, by rw [ht99]; exact hP, hI⟩, hS.F ht99⟩) hS.2.2 dX7_grade_45

set_option maxHeartbeats 4000000 in
set_option maxRecDepth 100000 in
theorem c_X7_certify (l : Launch) (G : mg) (A : Nat → Prop) (Mw : mw) (st : St) (g : gR) (p0 : Int32) (hR : RS G st g Mw) (hV : Inv st) : Met l yX7_certify wsX7_certify ({ frames := 6, cells := 0, slots := 0, locals := 128 }) (va_Pc [.ref (g.1 0 0), .int p0] (mB G A Mw)) (va_Qi (fun r Mw1 => RP G (m_certify st p0) g r Mw1) (mE G A) A) 0 0 A := by
  refine Met.ofW (cc := cX7_certify) (maxL := 3) (ret := (some .int)) (by decide) rfl ?_
  intro p e s m args below meth c s₁ B hml hv
  obtain ⟨rfl, hG, hP, hI, hA⟩ := hv
  have hx := B.exec
  have hb := B.bytes
  have hr := B.returns
  have hts := atoms_spec (ws := wsX7_certify) B.pre
  have hown : s.vm.findClass RX7 = some m.cls := findClass_of_methodNamed B.named
  have hlocks := B.notSynchronized
  have hK := hG.K
  have i_X5 : ∀ w ∈ wsX50, w ∈ wsX7_certify := by decide +kernel
  have i_X7 : ∀ w ∈ wsX70, w ∈ wsX7_certify := by decide +kernel
  have hS : va_S A s.heap s.heap [] := va_S.rf
  have hl := lv_entry ([.ref (g.1 0 0), .int p0]) (n := 3) (Nat.le_of_ble_eq_true rfl)
  rw [lg_entry_eq]
  generalize (lg_sl ([.ref (g.1 0 0), .int p0]) ++ List.replicate (3 - (lg_sl ([.ref (g.1 0 0), .int p0])).length) Slot.unset).toArray = ls at hl ⊢
  have hl : lv_has ls 3 [(0, .ref (g.1 0 0)), (1, .int p0)] := hl
  have hP : mP G.1 Mw s.heap := hP
  have h_X : Mw (g.1 0 0) = some (.inr (10, [.ref (g.1 1 0), .ref (g.1 2 0), .int (gS st 2), .int (gS st 3), .int (gS st 1), .int (gS st 0), .int (thR g)])) := hR.1 0 0 ro0
  have h_TL : Mw (g.1 1 0) = some (.inr (2, [.int (mcR g 1 0), .ref (g.1 3 0), .int ((nI (nT st)))])) := hR.1 1 0 ro1
  have h_IL : Mw (g.1 2 0) = some (.inr (2, [.int (mcR g 2 0), .ref (g.1 4 0), .int ((nI (nN st)))])) := hR.1 2 0 ro2
  have hti9 := hR.ne ro1 ro2 (by omega)
  have hnT8 := hV.1.1
  have hnN8 := Nat.le_trans hV.1.2 (show 6 ≤ 8 by decide)
  have h_X0 := h_X
  refine lv_aload_n hx hb dX7_certify_0 rfl (lv_at hl 0 rfl) ?_
  refine lv_aload_n hx hb dX7_certify_1 rfl (lv_at hl 0 rfl) ?_
  refine lv_iload_n hx hb dX7_certify_2 rfl (lv_at hl 1 rfl) ?_
  refine m_calli (va_runV (As := [.int p0]) (rest := [.ref (g.1 0 0)]) ⟨hx, hb, hml, hown, hts⟩ (c_X7_isNone l G A Mw  p0 h_X h_IL hnN8) (cwV 1 hts gX7_certify_X7_isNone rfl rfl rfl (by decide +kernel) ⟨Nat.le_of_ble_eq_true rfl, Nat.le_of_ble_eq_true rfl⟩) (mPreV hG hS hP hI hA (hP _ _ h_X) (r := (RX7, TX7, 7)) rfl) rfl rfl hl.1 rfl (lv_room (Nat.le_of_ble_eq_true rfl)) dX7_certify_3 ⟨Nat.le_of_ble_eq_true rfl, Nat.le_of_ble_eq_true rfl⟩) hS (fun r1 Mw1 H locs hp_r1 hP hI hS => ?_)
  obtain ⟨hb9, hm9⟩ := hp_r1
  subst Mw1
  rcases hb9 with ⟨hr9, hq_r1⟩ | ⟨hr9, hq_r1⟩
  · subst hr9
    have hi9 := hq_r1
    have e_p0 : p0 = nI (ix p0) := nI_cl hi9.1
    rw [e_p0] at hl
    have hf4 := hR.f4 hi9.2
    have h_ID : Mw (g.1 4 0) = some (.inl (G.2.1 5, 10, .inr (.inr (.inr (.inr (qf (nN st) (g.1 7))))))) := hR.1 4 0 (ro4 hf4)
    have h_I : Mw (g.1 7 (ix p0)) = some (.inr (8, [.ref (g.1 5 (tbN st (ix p0))), .int (itS st (ix p0) 1), .int (sof (itS st (ix p0) 2)), .int (itS st (ix p0) 3), .int (itS st (ix p0) 7), .int (itS st (ix p0) 6), .int (itS st (ix p0) 5), .int (itS st (ix p0) 12), .int (itS st (ix p0) 13), .int (itS st (ix p0) 14), .int (itS st (ix p0) 15), .int (itS st (ix p0) 8), .int (itS st (ix p0) 9), .int (itS st (ix p0) 10), .int (ceR g (ix p0)), .ref (g.1 8 (ix p0)), .ref (g.1 9 (ix p0))])) := hR.1 7 _ (ro7 hi9.2)
    have hrn9 := hV.rn hi9.2
    have hli9 := hR.ne (ro8 hi9.2) ro2 (by omega)
    have h_L : Mw (g.1 8 (ix p0)) = some (.inr (2, [.int (mcR g 8 (ix p0)), .ref (g.1 10 (ix p0)), .int ((nI (rnS st (ix p0))))])) := hR.1 8 _ (ro8 hi9.2)
    have hhi9 := hR.ne (ro9 hi9.2) ro2 (by omega)
    have hlh9 := hR.ne (ro8 hi9.2) (ro9 hi9.2) (by omega)
    have hlt9 := hR.ne (ro8 hi9.2) ro1 (by omega)
    have hht9 := hR.ne (ro9 hi9.2) ro1 (by omega)
    have h_H : Mw (g.1 9 (ix p0)) = some (.inr (2, [.int (mcR g 9 (ix p0)), .ref (g.1 11 (ix p0)), .int ((nI (rnS st (ix p0))))])) := hR.1 9 _ (ro9 hi9.2)
    refine lv_iconst (v := 1) hx hb dX7_certify_6 (by decide) ?_
    refine m_calli (va_runV (As := [.int 0, .int 1]) (rest := []) ⟨hx, hb, hml, hown, hts⟩ (c_X7_isThrown0 l G A Mw  1 h_X) (cwV 2 hts gX7_certify_X7_isThrown rfl rfl rfl (by decide +kernel) ⟨Nat.le_of_ble_eq_true rfl, Nat.le_of_ble_eq_true rfl⟩) (mPreV hG hS hP hI hA (hP _ _ h_X) (r := (RX7, TX7, 7)) rfl) rfl rfl hl.1 rfl (lv_room (Nat.le_of_ble_eq_true rfl)) dX7_certify_7 ⟨Nat.le_of_ble_eq_true rfl, Nat.le_of_ble_eq_true rfl⟩) hS (fun r2 Mw1 H locs hp_r2 hP hI hS => ?_)
    obtain ⟨hp_r2, hm9⟩ := hp_r2
    subst Mw1
    subst hp_r2
    have h_TL := mu_k (e := .inr (10, [.ref (g.1 1 0), .ref (g.1 2 0), .int (gS st 2), .int (gS st 3), .int (gS st 1), .int (gS st 0), .int 0])) (kd_ne h_TL h_X rfl) h_TL
    have h_IL := mu_k (e := .inr (10, [.ref (g.1 1 0), .ref (g.1 2 0), .int (gS st 2), .int (gS st 3), .int (gS st 1), .int (gS st 0), .int 0])) (kd_ne h_IL h_X rfl) h_IL
    have h_ID := mu_k (e := .inr (10, [.ref (g.1 1 0), .ref (g.1 2 0), .int (gS st 2), .int (gS st 3), .int (gS st 1), .int (gS st 0), .int 0])) (kd_ne h_ID h_X rfl) h_ID
    have h_I := mu_k (e := .inr (10, [.ref (g.1 1 0), .ref (g.1 2 0), .int (gS st 2), .int (gS st 3), .int (gS st 1), .int (gS st 0), .int 0])) (kd_ne h_I h_X rfl) h_I
    have h_L := mu_k (e := .inr (10, [.ref (g.1 1 0), .ref (g.1 2 0), .int (gS st 2), .int (gS st 3), .int (gS st 1), .int (gS st 0), .int 0])) (kd_ne h_L h_X rfl) h_L
    have h_H := mu_k (e := .inr (10, [.ref (g.1 1 0), .ref (g.1 2 0), .int (gS st 2), .int (gS st 3), .int (gS st 1), .int (gS st 0), .int 0])) (kd_ne h_H h_X rfl) h_H
    have h_X : (mu Mw (g.1 0 0) (.inr (10, [.ref (g.1 1 0), .ref (g.1 2 0), .int (gS st 2), .int (gS st 3), .int (gS st 1), .int (gS st 0), .int 0]))) (g.1 0 0) = some (.inr (10, [.ref (g.1 1 0), .ref (g.1 2 0), .int (gS st 2), .int (gS st 3), .int (gS st 1), .int (gS st 0), .int 0])) := mu_s
    refine lv_if_ne (tgt := 53) hx hb dX7_certify_10 (by decide) (fun h9 => absurd h9 (by decide)) (fun _ => ?_)
    refine lv_aload_n hx hb dX7_certify_13 rfl (lv_at hl 0 rfl) ?_
    refine lv_aload_n hx hb dX7_certify_14 rfl (lv_at hl 0 rfl) ?_
    refine lv_iload_n hx hb dX7_certify_15 rfl (lv_at hl 1 rfl) ?_
    refine m_calli (va_runV (As := [.int (nI (ix p0))]) (rest := [.ref (g.1 0 0)]) ⟨hx, hb, hml, hown, hts⟩ (c_X7_isFew l G A (mu Mw (g.1 0 0) (.inr (10, [.ref (g.1 1 0), .ref (g.1 2 0), .int (gS st 2), .int (gS st 3), .int (gS st 1), .int (gS st 0), .int 0])))  h_X h_IL hnN8 h_ID h_I (ix p0) hi9.2 (qf_p hi9.2) h_L hrn9 hli9) (cwV 1 hts gX7_certify_X7_isFew rfl rfl rfl (by decide +kernel) ⟨Nat.le_of_ble_eq_true rfl, Nat.le_of_ble_eq_true rfl⟩) (mPreV hG hS hP hI hA (hP _ _ h_X) (r := (RX7, TX7, 7)) rfl) rfl rfl hl.1 rfl (lv_room (Nat.le_of_ble_eq_true rfl)) dX7_certify_16 ⟨Nat.le_of_ble_eq_true rfl, Nat.le_of_ble_eq_true rfl⟩) hS (fun r3 Mw1 H locs hp_r3 hP hI hS => ?_)
    obtain ⟨hb9, hm9⟩ := hp_r3
    subst Mw1
    rcases hb9 with ⟨hr9, hq_r3⟩ | ⟨hr9, hq_r3⟩
    · subst hr9
      have hn8 : rnS st (ix p0) ≠ 0 := fun q9 => by have h8 := hq_r3; omega
      have hf10 := hR.f10 hi9.2 hn8
      have hdd9 := hR.ne (ro10 hi9.2 hf10) (ro11 hi9.2 hf10) (by omega)
      have h_DR0 : Mw (g.1 10 (ix p0)) = some (.inl (G.2.1 5, 10, .inr (.inr (.inr (.inr (qf (rnS st (ix p0)) (ivR g (ix p0)))))))) := hR.1 10 _ (ro10 hi9.2 hf10)
      have h_DR : (mu Mw (g.1 0 0) (.inr (10, [.ref (g.1 1 0), .ref (g.1 2 0), .int (gS st 2), .int (gS st 3), .int (gS st 1), .int (gS st 0), .int 0]))) (g.1 10 (ix p0)) = some (.inl (G.2.1 5, 10, .inr (.inr (.inr (.inr (qf (rnS st (ix p0)) (ivR g (ix p0)))))))) := by first | exact h_DR0 | exact ((mu_n (kd_ne h_DR0 h_X0 rfl)).trans (rfl)).trans h_DR0
      have h_DH0 : Mw (g.1 11 (ix p0)) = some (.inl (G.2.1 5, 10, .inr (.inr (.inr (.inr (qf (rnS st (ix p0)) (ihR g (ix p0)))))))) := hR.1 11 _ (ro11 hi9.2 hf10)
      have h_DH : (mu Mw (g.1 0 0) (.inr (10, [.ref (g.1 1 0), .ref (g.1 2 0), .int (gS st 2), .int (gS st 3), .int (gS st 1), .int (gS st 0), .int 0]))) (g.1 11 (ix p0)) = some (.inl (G.2.1 5, 10, .inr (.inr (.inr (.inr (qf (rnS st (ix p0)) (ihR g (ix p0)))))))) := by first | exact h_DH0 | exact ((mu_n (kd_ne h_DH0 h_X0 rfl)).trans (rfl)).trans h_DH0
      have hRR : ∀ i, i < rnS st (ix p0) → ∃ y : Nat, (qf (rnS st (ix p0)) (ivR g (ix p0))) i = some y ∧ ((mu Mw (g.1 0 0) (.inr (10, [.ref (g.1 1 0), .ref (g.1 2 0), .int (gS st 2), .int (gS st 3), .int (gS st 1), .int (gS st 0), .int 0]))) y = some (.inr (0, [.int (rvS st (ix p0) i)])) ∨ G.2.2.1 y = some (.inr (0, [.int (rvS st (ix p0) i)]))) := fun i9 hi8 => ⟨_, qf_p hi8, or_fr (fun q9 => (mu_n (kd_ne q9 h_X0 rfl)).trans (rfl)) ((hR.2.2.2.2 _ hi9.2).2.2 i9 hi8).1⟩
      have hHH : ∀ i, i < rnS st (ix p0) → ∃ y : Nat, (qf (rnS st (ix p0)) (ihR g (ix p0))) i = some y ∧ ((mu Mw (g.1 0 0) (.inr (10, [.ref (g.1 1 0), .ref (g.1 2 0), .int (gS st 2), .int (gS st 3), .int (gS st 1), .int (gS st 0), .int 0]))) y = some (.inr (0, [.int (rhS st (ix p0) i)])) ∨ G.2.2.1 y = some (.inr (0, [.int (rhS st (ix p0) i)]))) := fun i9 hi8 => ⟨_, qf_p hi8, or_fr (fun q9 => (mu_n (kd_ne q9 h_X0 rfl)).trans (rfl)) ((hR.2.2.2.2 _ hi9.2).2.2 i9 hi8).2⟩
      refine lv_if_ne (tgt := 41) hx hb dX7_certify_19 (by decide) (fun h9 => absurd h9 (by decide)) (fun _ => ?_)
      refine lv_aload_n hx hb dX7_certify_22 rfl (lv_at hl 0 rfl) ?_
      refine m_get (ci := 10) (v := .ref (g.1 2 0)) (C := RX7) (T := TX7) (N := 7) hx hb hts i_X7 hown hK (hP _ _ h_X) rfl 1 (by decide) (hts (.fieldLink RX7 16 "MeniscusModel" "instruments" "Ljava/util/ArrayList;") (by decide +kernel)) (fun _ h9 => h9) rfl dX7_certify_23 ?_
      refine lv_iload_n hx hb dX7_certify_26 rfl (lv_at hl 1 rfl) ?_
      refine m_callq (va_runV (As := [.int (nI (ix p0))]) (rest := [.ref (g.1 0 0)]) ⟨hx, hb, hml, hown, hts⟩ (c_Jx4a65c_get_915e3 l G A (mu Mw (g.1 0 0) (.inr (10, [.ref (g.1 1 0), .ref (g.1 2 0), .int (gS st 2), .int (gS st 3), .int (gS st 1), .int (gS st 0), .int 0])))  h_IL h_ID (ix p0) (g.1 7 (ix p0)) hi9.2 hnN8 (qf_p hi9.2)) (cwV 1 hts gX7_certify_Jx4a65c_get_915e3 rfl rfl rfl (by decide +kernel) ⟨Nat.le_of_ble_eq_true rfl, Nat.le_of_ble_eq_true rfl⟩) (mPreV hG hS hP hI hA (hP _ _ h_IL) (r := (RJx4a65c, TJx4a65c, 3)) rfl) rfl rfl hl.1 rfl (lv_room (Nat.le_of_ble_eq_true rfl)) dX7_certify_27 ⟨Nat.le_of_ble_eq_true rfl, Nat.le_of_ble_eq_true rfl⟩) hS (fun r4 Mw1 H locs hp_r4 hP hI hS => ?_)
      obtain ⟨hp_r4, hm9⟩ := hp_r4
      subst Mw1
      subst hp_r4
      refine va_castE hx hb hown (hts (.classLink RX7 79 RX5) (by decide +kernel)) (va_recv hK (va_at.one (hP _ _ h_I)) (q0 := 0) (q := (RX5, TX5, 17)) rfl rfl) dX7_certify_30 ?_
      refine m_calli (va_runV (As := []) (rest := [.ref (g.1 0 0)]) ⟨hx, hb, hml, hown, hts⟩ (c_X5_grade l G A (mu Mw (g.1 0 0) (.inr (10, [.ref (g.1 1 0), .ref (g.1 2 0), .int (gS st 2), .int (gS st 3), .int (gS st 1), .int (gS st 0), .int 0])))  h_I hrn9 h_L h_H h_DR h_DH hRR hHH) (cwV 0 hts gX7_certify_X5_grade rfl rfl rfl (by decide +kernel) ⟨Nat.le_of_ble_eq_true rfl, Nat.le_of_ble_eq_true rfl⟩) (mPreV hG hS hP hI hA (hP _ _ h_I) (r := (RX5, TX5, 17)) rfl) rfl rfl hl.1 rfl (lv_room (Nat.le_of_ble_eq_true rfl)) dX7_certify_33 ⟨Nat.le_of_ble_eq_true rfl, Nat.le_of_ble_eq_true rfl⟩) hS (fun r5 Mw1 H locs hp_r5 hP hI hS => ?_)
      obtain ⟨hp_r5, hm9⟩ := hp_r5
      subst Mw1
      refine lv_bipush (v := (88)) hx hb dX7_certify_36 (by decide) ?_
      refine lv_icmp_ne (tgt := 45) hx hb dX7_certify_38 (by decide) (fun c6 => ?_) (fun c6 => ?_)
      · skip
        have hc9 : ¬ clsE (gmax (reS st (ix p0)) (rnS st (ix p0))) = 88 := by rw [← hp_r5]; exact c6
        refine lv_iconst (v := 0) hx hb dX7_certify_45 (by decide) ?_
        refine lv_iconst (v := 2) hx hb dX7_certify_46 (by decide) ?_
        refine m_calli (va_runV (As := [.int 0, .int 2]) (rest := []) ⟨hx, hb, hml, hown, hts⟩ (c_X7_isThrown0 l G A (mu Mw (g.1 0 0) (.inr (10, [.ref (g.1 1 0), .ref (g.1 2 0), .int (gS st 2), .int (gS st 3), .int (gS st 1), .int (gS st 0), .int 0])))  2 h_X) (cwV 2 hts gX7_certify_X7_isThrown rfl rfl rfl (by decide +kernel) ⟨Nat.le_of_ble_eq_true rfl, Nat.le_of_ble_eq_true rfl⟩) (mPreV hG hS hP hI hA (hP _ _ h_X) (r := (RX7, TX7, 7)) rfl) rfl rfl hl.1 rfl (lv_room (Nat.le_of_ble_eq_true rfl)) dX7_certify_47 ⟨Nat.le_of_ble_eq_true rfl, Nat.le_of_ble_eq_true rfl⟩) hS (fun r7 Mw1 H locs hp_r7 hP hI hS => ?_)
        obtain ⟨hp_r7, hm9⟩ := hp_r7
        subst Mw1
        subst hp_r7
        have h_TL := mu_k (e := .inr (10, [.ref (g.1 1 0), .ref (g.1 2 0), .int (gS st 2), .int (gS st 3), .int (gS st 1), .int (gS st 0), .int 0])) (kd_ne h_TL h_X rfl) h_TL
        have h_IL := mu_k (e := .inr (10, [.ref (g.1 1 0), .ref (g.1 2 0), .int (gS st 2), .int (gS st 3), .int (gS st 1), .int (gS st 0), .int 0])) (kd_ne h_IL h_X rfl) h_IL
        have h_ID := mu_k (e := .inr (10, [.ref (g.1 1 0), .ref (g.1 2 0), .int (gS st 2), .int (gS st 3), .int (gS st 1), .int (gS st 0), .int 0])) (kd_ne h_ID h_X rfl) h_ID
        have h_I := mu_k (e := .inr (10, [.ref (g.1 1 0), .ref (g.1 2 0), .int (gS st 2), .int (gS st 3), .int (gS st 1), .int (gS st 0), .int 0])) (kd_ne h_I h_X rfl) h_I
        have h_L := mu_k (e := .inr (10, [.ref (g.1 1 0), .ref (g.1 2 0), .int (gS st 2), .int (gS st 3), .int (gS st 1), .int (gS st 0), .int 0])) (kd_ne h_L h_X rfl) h_L
        have h_H := mu_k (e := .inr (10, [.ref (g.1 1 0), .ref (g.1 2 0), .int (gS st 2), .int (gS st 3), .int (gS st 1), .int (gS st 0), .int 0])) (kd_ne h_H h_X rfl) h_H
        have h_DR := mu_k (e := .inr (10, [.ref (g.1 1 0), .ref (g.1 2 0), .int (gS st 2), .int (gS st 3), .int (gS st 1), .int (gS st 0), .int 0])) (kd_ne h_DR h_X rfl) h_DR
        have h_DH := mu_k (e := .inr (10, [.ref (g.1 1 0), .ref (g.1 2 0), .int (gS st 2), .int (gS st 3), .int (gS st 1), .int (gS st 0), .int 0])) (kd_ne h_DH h_X rfl) h_DH
        have h_X : (mu (mu Mw (g.1 0 0) (.inr (10, [.ref (g.1 1 0), .ref (g.1 2 0), .int (gS st 2), .int (gS st 3), .int (gS st 1), .int (gS st 0), .int 0]))) (g.1 0 0) (.inr (10, [.ref (g.1 1 0), .ref (g.1 2 0), .int (gS st 2), .int (gS st 3), .int (gS st 1), .int (gS st 0), .int 0]))) (g.1 0 0) = some (.inr (10, [.ref (g.1 1 0), .ref (g.1 2 0), .int (gS st 2), .int (gS st 3), .int (gS st 1), .int (gS st 0), .int 0])) := mu_s
        refine lv_if_eq (tgt := 55) hx hb dX7_certify_50 (by decide) (fun _ => ?_) (fun h9 => absurd h9 (by decide))
        refine lv_aload_n hx hb dX7_certify_55 rfl (lv_at hl 0 rfl) ?_
        refine m_get (ci := 10) (v := .ref (g.1 2 0)) (C := RX7) (T := TX7) (N := 7) hx hb hts i_X7 hown hK (hP _ _ h_X) rfl 1 (by decide) (hts (.fieldLink RX7 16 "MeniscusModel" "instruments" "Ljava/util/ArrayList;") (by decide +kernel)) (fun _ h9 => h9) rfl dX7_certify_56 ?_
        refine lv_iload_n hx hb dX7_certify_59 rfl (lv_at hl 1 rfl) ?_
        refine m_callq (va_runV (As := [.int (nI (ix p0))]) (rest := []) ⟨hx, hb, hml, hown, hts⟩ (c_Jx4a65c_get_915e3 l G A (mu (mu Mw (g.1 0 0) (.inr (10, [.ref (g.1 1 0), .ref (g.1 2 0), .int (gS st 2), .int (gS st 3), .int (gS st 1), .int (gS st 0), .int 0]))) (g.1 0 0) (.inr (10, [.ref (g.1 1 0), .ref (g.1 2 0), .int (gS st 2), .int (gS st 3), .int (gS st 1), .int (gS st 0), .int 0])))  h_IL h_ID (ix p0) (g.1 7 (ix p0)) hi9.2 hnN8 (qf_p hi9.2)) (cwV 1 hts gX7_certify_Jx4a65c_get_915e3 rfl rfl rfl (by decide +kernel) ⟨Nat.le_of_ble_eq_true rfl, Nat.le_of_ble_eq_true rfl⟩) (mPreV hG hS hP hI hA (hP _ _ h_IL) (r := (RJx4a65c, TJx4a65c, 3)) rfl) rfl rfl hl.1 rfl (lv_room (Nat.le_of_ble_eq_true rfl)) dX7_certify_60 ⟨Nat.le_of_ble_eq_true rfl, Nat.le_of_ble_eq_true rfl⟩) hS (fun r8 Mw1 H locs hp_r8 hP hI hS => ?_)
        obtain ⟨hp_r8, hm9⟩ := hp_r8
        subst Mw1
        subst hp_r8
        refine va_castE hx hb hown (hts (.classLink RX7 79 RX5) (by decide +kernel)) (va_recv hK (va_at.one (hP _ _ h_I)) (q0 := 0) (q := (RX5, TX5, 17)) rfl rfl) dX7_certify_63 ?_
        refine lv_astore_n (lv' := [(2, .ref (g.1 7 (ix p0))), (0, .ref (g.1 0 0)), (1, .int (nI (ix p0)))]) hx hb dX7_certify_66 rfl hl (by decide) rfl (fun ls hl => ?_)
        refine lv_aload_n hx hb dX7_certify_67 rfl (lv_at hl 0 rfl) ?_
        refine lv_aload_n hx hb dX7_certify_68 rfl (lv_at hl 1 rfl) ?_
        refine m_get (ci := 10) (v := .int (gS st 1)) (C := RX7) (T := TX7) (N := 7) hx hb hts i_X7 hown hK (hP _ _ h_X) rfl 4 (by decide) (hts (.fieldLink RX7 116 "MeniscusModel" "day" "I") (by decide +kernel)) (fun _ h9 => h9) rfl dX7_certify_69 ?_
        refine lv_aload_n hx hb dX7_certify_72 rfl (lv_at hl 0 rfl) ?_
        refine m_getN (ci := 8) (v := .int (sof (itS st (ix p0) 2))) (C := RX5) (T := TX5) (N := 17) hx hb hts i_X5 hown hK (hP _ _ h_I) rfl 2 (by decide) (va_Nw.use rfl (hG.2.1.2.1 ("MeniscusModel", 215, "MeniscusModel$Instrument", "isSoft", "Z", "MeniscusModel") (by decide +kernel))) (fun _ h9 => h9) rfl dX7_certify_73 ?_
        refine lv_if_eq (tgt := 84) hx hb dX7_certify_76 (by decide) (fun c9 => ?_) (fun c9 => ?_)
        · skip
          have hg9 : itS st (ix p0) 2 = 104 := sof_0 c9
          have hv9 : cerV st (ix p0) = gS st 1 + 360 := congrArg (fun z => gS st 1 + z) (if_pos hg9)
          refine lv_sipush (v := (360)) hx hb dX7_certify_84 (by decide) ?_
          refine lv_iadd hx hb dX7_certify_87 ?_
          refine m_putN (ci := 8) (v := .int ((gS st 1) + 360)) (ty := .int) (C := RX5) (T := TX5) (N := 17) hx hb hts i_X5 tyX5 tyX5_ok nmX5 hown hK hP hI hS h_I rfl 14 (by decide) (va_Nw.use rfl (hG.2.1.2.1 ("MeniscusModel", 113, "MeniscusModel$Instrument", "certified", "I", "MeniscusModel") (by decide +kernel))) (fun _ h9 => h9) rfl (by decide +kernel) rfl rfl (Nat.le_of_ble_eq_true rfl) dX7_certify_88 (fun H locs hP hI hS => ?_)
          have hP : mP G.1 (mu (mu (mu Mw (g.1 0 0) (.inr (10, [.ref (g.1 1 0), .ref (g.1 2 0), .int (gS st 2), .int (gS st 3), .int (gS st 1), .int (gS st 0), .int 0]))) (g.1 0 0) (.inr (10, [.ref (g.1 1 0), .ref (g.1 2 0), .int (gS st 2), .int (gS st 3), .int (gS st 1), .int (gS st 0), .int 0]))) (g.1 7 (ix p0)) (.inr (8, [.ref (g.1 5 (tbN st (ix p0))), .int (itS st (ix p0) 1), .int (sof (itS st (ix p0) 2)), .int (itS st (ix p0) 3), .int (itS st (ix p0) 7), .int (itS st (ix p0) 6), .int (itS st (ix p0) 5), .int (itS st (ix p0) 12), .int (itS st (ix p0) 13), .int (itS st (ix p0) 14), .int (itS st (ix p0) 15), .int (itS st (ix p0) 8), .int (itS st (ix p0) 9), .int (itS st (ix p0) 10), .int ((gS st 1) + 360), .ref (g.1 8 (ix p0)), .ref (g.1 9 (ix p0))]))) H := hP
          have hI : mI A (mu (mu (mu Mw (g.1 0 0) (.inr (10, [.ref (g.1 1 0), .ref (g.1 2 0), .int (gS st 2), .int (gS st 3), .int (gS st 1), .int (gS st 0), .int 0]))) (g.1 0 0) (.inr (10, [.ref (g.1 1 0), .ref (g.1 2 0), .int (gS st 2), .int (gS st 3), .int (gS st 1), .int (gS st 0), .int 0]))) (g.1 7 (ix p0)) (.inr (8, [.ref (g.1 5 (tbN st (ix p0))), .int (itS st (ix p0) 1), .int (sof (itS st (ix p0) 2)), .int (itS st (ix p0) 3), .int (itS st (ix p0) 7), .int (itS st (ix p0) 6), .int (itS st (ix p0) 5), .int (itS st (ix p0) 12), .int (itS st (ix p0) 13), .int (itS st (ix p0) 14), .int (itS st (ix p0) 15), .int (itS st (ix p0) 8), .int (itS st (ix p0) 9), .int (itS st (ix p0) 10), .int ((gS st 1) + 360), .ref (g.1 8 (ix p0)), .ref (g.1 9 (ix p0))]))) := hI
          have h_X := mu_k (e := .inr (8, [.ref (g.1 5 (tbN st (ix p0))), .int (itS st (ix p0) 1), .int (sof (itS st (ix p0) 2)), .int (itS st (ix p0) 3), .int (itS st (ix p0) 7), .int (itS st (ix p0) 6), .int (itS st (ix p0) 5), .int (itS st (ix p0) 12), .int (itS st (ix p0) 13), .int (itS st (ix p0) 14), .int (itS st (ix p0) 15), .int (itS st (ix p0) 8), .int (itS st (ix p0) 9), .int (itS st (ix p0) 10), .int ((gS st 1) + 360), .ref (g.1 8 (ix p0)), .ref (g.1 9 (ix p0))])) (kd_ne h_X h_I rfl) h_X
          have h_TL := mu_k (e := .inr (8, [.ref (g.1 5 (tbN st (ix p0))), .int (itS st (ix p0) 1), .int (sof (itS st (ix p0) 2)), .int (itS st (ix p0) 3), .int (itS st (ix p0) 7), .int (itS st (ix p0) 6), .int (itS st (ix p0) 5), .int (itS st (ix p0) 12), .int (itS st (ix p0) 13), .int (itS st (ix p0) 14), .int (itS st (ix p0) 15), .int (itS st (ix p0) 8), .int (itS st (ix p0) 9), .int (itS st (ix p0) 10), .int ((gS st 1) + 360), .ref (g.1 8 (ix p0)), .ref (g.1 9 (ix p0))])) (kd_ne h_TL h_I rfl) h_TL
          have h_IL := mu_k (e := .inr (8, [.ref (g.1 5 (tbN st (ix p0))), .int (itS st (ix p0) 1), .int (sof (itS st (ix p0) 2)), .int (itS st (ix p0) 3), .int (itS st (ix p0) 7), .int (itS st (ix p0) 6), .int (itS st (ix p0) 5), .int (itS st (ix p0) 12), .int (itS st (ix p0) 13), .int (itS st (ix p0) 14), .int (itS st (ix p0) 15), .int (itS st (ix p0) 8), .int (itS st (ix p0) 9), .int (itS st (ix p0) 10), .int ((gS st 1) + 360), .ref (g.1 8 (ix p0)), .ref (g.1 9 (ix p0))])) (kd_ne h_IL h_I rfl) h_IL
          have h_ID := mu_k (e := .inr (8, [.ref (g.1 5 (tbN st (ix p0))), .int (itS st (ix p0) 1), .int (sof (itS st (ix p0) 2)), .int (itS st (ix p0) 3), .int (itS st (ix p0) 7), .int (itS st (ix p0) 6), .int (itS st (ix p0) 5), .int (itS st (ix p0) 12), .int (itS st (ix p0) 13), .int (itS st (ix p0) 14), .int (itS st (ix p0) 15), .int (itS st (ix p0) 8), .int (itS st (ix p0) 9), .int (itS st (ix p0) 10), .int ((gS st 1) + 360), .ref (g.1 8 (ix p0)), .ref (g.1 9 (ix p0))])) (kd_ne h_ID h_I rfl) h_ID
          have h_L := mu_k (e := .inr (8, [.ref (g.1 5 (tbN st (ix p0))), .int (itS st (ix p0) 1), .int (sof (itS st (ix p0) 2)), .int (itS st (ix p0) 3), .int (itS st (ix p0) 7), .int (itS st (ix p0) 6), .int (itS st (ix p0) 5), .int (itS st (ix p0) 12), .int (itS st (ix p0) 13), .int (itS st (ix p0) 14), .int (itS st (ix p0) 15), .int (itS st (ix p0) 8), .int (itS st (ix p0) 9), .int (itS st (ix p0) 10), .int ((gS st 1) + 360), .ref (g.1 8 (ix p0)), .ref (g.1 9 (ix p0))])) (kd_ne h_L h_I rfl) h_L
          have h_H := mu_k (e := .inr (8, [.ref (g.1 5 (tbN st (ix p0))), .int (itS st (ix p0) 1), .int (sof (itS st (ix p0) 2)), .int (itS st (ix p0) 3), .int (itS st (ix p0) 7), .int (itS st (ix p0) 6), .int (itS st (ix p0) 5), .int (itS st (ix p0) 12), .int (itS st (ix p0) 13), .int (itS st (ix p0) 14), .int (itS st (ix p0) 15), .int (itS st (ix p0) 8), .int (itS st (ix p0) 9), .int (itS st (ix p0) 10), .int ((gS st 1) + 360), .ref (g.1 8 (ix p0)), .ref (g.1 9 (ix p0))])) (kd_ne h_H h_I rfl) h_H
          have h_DR := mu_k (e := .inr (8, [.ref (g.1 5 (tbN st (ix p0))), .int (itS st (ix p0) 1), .int (sof (itS st (ix p0) 2)), .int (itS st (ix p0) 3), .int (itS st (ix p0) 7), .int (itS st (ix p0) 6), .int (itS st (ix p0) 5), .int (itS st (ix p0) 12), .int (itS st (ix p0) 13), .int (itS st (ix p0) 14), .int (itS st (ix p0) 15), .int (itS st (ix p0) 8), .int (itS st (ix p0) 9), .int (itS st (ix p0) 10), .int ((gS st 1) + 360), .ref (g.1 8 (ix p0)), .ref (g.1 9 (ix p0))])) (kd_ne h_DR h_I rfl) h_DR
          have h_DH := mu_k (e := .inr (8, [.ref (g.1 5 (tbN st (ix p0))), .int (itS st (ix p0) 1), .int (sof (itS st (ix p0) 2)), .int (itS st (ix p0) 3), .int (itS st (ix p0) 7), .int (itS st (ix p0) 6), .int (itS st (ix p0) 5), .int (itS st (ix p0) 12), .int (itS st (ix p0) 13), .int (itS st (ix p0) 14), .int (itS st (ix p0) 15), .int (itS st (ix p0) 8), .int (itS st (ix p0) 9), .int (itS st (ix p0) 10), .int ((gS st 1) + 360), .ref (g.1 8 (ix p0)), .ref (g.1 9 (ix p0))])) (kd_ne h_DH h_I rfl) h_DH
          have h_I : (mu (mu (mu Mw (g.1 0 0) (.inr (10, [.ref (g.1 1 0), .ref (g.1 2 0), .int (gS st 2), .int (gS st 3), .int (gS st 1), .int (gS st 0), .int 0]))) (g.1 0 0) (.inr (10, [.ref (g.1 1 0), .ref (g.1 2 0), .int (gS st 2), .int (gS st 3), .int (gS st 1), .int (gS st 0), .int 0]))) (g.1 7 (ix p0)) (.inr (8, [.ref (g.1 5 (tbN st (ix p0))), .int (itS st (ix p0) 1), .int (sof (itS st (ix p0) 2)), .int (itS st (ix p0) 3), .int (itS st (ix p0) 7), .int (itS st (ix p0) 6), .int (itS st (ix p0) 5), .int (itS st (ix p0) 12), .int (itS st (ix p0) 13), .int (itS st (ix p0) 14), .int (itS st (ix p0) 15), .int (itS st (ix p0) 8), .int (itS st (ix p0) 9), .int (itS st (ix p0) 10), .int ((gS st 1) + 360), .ref (g.1 8 (ix p0)), .ref (g.1 9 (ix p0))]))) (g.1 7 (ix p0)) = some (.inr (8, [.ref (g.1 5 (tbN st (ix p0))), .int (itS st (ix p0) 1), .int (sof (itS st (ix p0) 2)), .int (itS st (ix p0) 3), .int (itS st (ix p0) 7), .int (itS st (ix p0) 6), .int (itS st (ix p0) 5), .int (itS st (ix p0) 12), .int (itS st (ix p0) 13), .int (itS st (ix p0) 14), .int (itS st (ix p0) 15), .int (itS st (ix p0) 8), .int (itS st (ix p0) 9), .int (itS st (ix p0) 10), .int ((gS st 1) + 360), .ref (g.1 8 (ix p0)), .ref (g.1 9 (ix p0))])) := mu_s
          refine lv_aload_n hx hb dX7_certify_91 rfl (lv_at hl 0 rfl) ?_
          refine m_getN (ci := 8) (v := .int ((gS st 1) + 360)) (C := RX5) (T := TX5) (N := 17) hx hb hts i_X5 hown hK (hP _ _ h_I) rfl 14 (by decide) (va_Nw.use rfl (hG.2.1.2.1 ("MeniscusModel", 113, "MeniscusModel$Instrument", "certified", "I", "MeniscusModel") (by decide +kernel))) (fun _ h9 => h9) rfl dX7_certify_92 ?_
          refine W.widen (k := 0) (n := 0) (Nat.le_of_ble_eq_true rfl) (Nat.le_of_ble_eq_true rfl) ?_
          exact W.iret (v := (gS st 1) + 360) hx hb hr (fun t99 ht99 hW99 => ⟨⟨(gS st 1) + 360, (mu (mu (mu Mw (g.1 0 0) (.inr (10, [.ref (g.1 1 0), .ref (g.1 2 0), .int (gS st 2), .int (gS st 3), .int (gS st 1), .int (gS st 0), .int 0]))) (g.1 0 0) (.inr (10, [.ref (g.1 1 0), .ref (g.1 2 0), .int (gS st 2), .int (gS st 3), .int (gS st 1), .int (gS st 0), .int 0]))) (g.1 7 (ix p0)) (.inr (8, [.ref (g.1 5 (tbN st (ix p0))), .int (itS st (ix p0) 1), .int (sof (itS st (ix p0) 2)), .int (itS st (ix p0) 3), .int (itS st (ix p0) 7), .int (itS st (ix p0) 6), .int (itS st (ix p0) 5), .int (itS st (ix p0) 12), .int (itS st (ix p0) 13), .int (itS st (ix p0) 14), .int (itS st (ix p0) 15), .int (itS st (ix p0) 8), .int (itS st (ix p0) 9), .int (itS st (ix p0) 10), .int ((gS st 1) + 360), .ref (g.1 8 (ix p0)), .ref (g.1 9 (ix p0))]))), rfl, RP.ok (by unfold m_certify; first | (rw [chk_p hi9, chk_p hq_r3, chk_p hc9, hv9]; done) | (rw [chk_p hi9, chk_p hq_r3, chk_p hc9, hv9]; rfl)) (hR.io hi9.2 (gS st) (fu (itS st (ix p0)) 11 ((gS st 1) + 360)) rfl ((gS st 1) + 360) 0 h_X h_I (fun x9 e9 hx9 h0 h1 => ((mu_n h1).trans ((mu_n h0).trans ((mu_n h0).trans (rfl)))).trans hx9) (fun _ => rfl)) rfl rfl, by rw [ht99]; exact hP, hI⟩, hS.F ht99⟩) hS.2.2 dX7_certify_95
        · skip
          have hg9 : ¬ itS st (ix p0) 2 = 104 := sof_1 c9
          have hv9 : cerV st (ix p0) = gS st 1 + 120 := congrArg (fun z => gS st 1 + z) (if_neg hg9)
          refine lv_bipush (v := (120)) hx hb dX7_certify_79 (by decide) ?_
          refine lv_goto (tgt := 87) hx hb dX7_certify_81 (by decide) ?_
          refine lv_iadd hx hb dX7_certify_87 ?_
          refine m_putN (ci := 8) (v := .int ((gS st 1) + 120)) (ty := .int) (C := RX5) (T := TX5) (N := 17) hx hb hts i_X5 tyX5 tyX5_ok nmX5 hown hK hP hI hS h_I rfl 14 (by decide) (va_Nw.use rfl (hG.2.1.2.1 ("MeniscusModel", 113, "MeniscusModel$Instrument", "certified", "I", "MeniscusModel") (by decide +kernel))) (fun _ h9 => h9) rfl (by decide +kernel) rfl rfl (Nat.le_of_ble_eq_true rfl) dX7_certify_88 (fun H locs hP hI hS => ?_)
          have hP : mP G.1 (mu (mu (mu Mw (g.1 0 0) (.inr (10, [.ref (g.1 1 0), .ref (g.1 2 0), .int (gS st 2), .int (gS st 3), .int (gS st 1), .int (gS st 0), .int 0]))) (g.1 0 0) (.inr (10, [.ref (g.1 1 0), .ref (g.1 2 0), .int (gS st 2), .int (gS st 3), .int (gS st 1), .int (gS st 0), .int 0]))) (g.1 7 (ix p0)) (.inr (8, [.ref (g.1 5 (tbN st (ix p0))), .int (itS st (ix p0) 1), .int (sof (itS st (ix p0) 2)), .int (itS st (ix p0) 3), .int (itS st (ix p0) 7), .int (itS st (ix p0) 6), .int (itS st (ix p0) 5), .int (itS st (ix p0) 12), .int (itS st (ix p0) 13), .int (itS st (ix p0) 14), .int (itS st (ix p0) 15), .int (itS st (ix p0) 8), .int (itS st (ix p0) 9), .int (itS st (ix p0) 10), .int ((gS st 1) + 120), .ref (g.1 8 (ix p0)), .ref (g.1 9 (ix p0))]))) H := hP
          have hI : mI A (mu (mu (mu Mw (g.1 0 0) (.inr (10, [.ref (g.1 1 0), .ref (g.1 2 0), .int (gS st 2), .int (gS st 3), .int (gS st 1), .int (gS st 0), .int 0]))) (g.1 0 0) (.inr (10, [.ref (g.1 1 0), .ref (g.1 2 0), .int (gS st 2), .int (gS st 3), .int (gS st 1), .int (gS st 0), .int 0]))) (g.1 7 (ix p0)) (.inr (8, [.ref (g.1 5 (tbN st (ix p0))), .int (itS st (ix p0) 1), .int (sof (itS st (ix p0) 2)), .int (itS st (ix p0) 3), .int (itS st (ix p0) 7), .int (itS st (ix p0) 6), .int (itS st (ix p0) 5), .int (itS st (ix p0) 12), .int (itS st (ix p0) 13), .int (itS st (ix p0) 14), .int (itS st (ix p0) 15), .int (itS st (ix p0) 8), .int (itS st (ix p0) 9), .int (itS st (ix p0) 10), .int ((gS st 1) + 120), .ref (g.1 8 (ix p0)), .ref (g.1 9 (ix p0))]))) := hI
          have h_X := mu_k (e := .inr (8, [.ref (g.1 5 (tbN st (ix p0))), .int (itS st (ix p0) 1), .int (sof (itS st (ix p0) 2)), .int (itS st (ix p0) 3), .int (itS st (ix p0) 7), .int (itS st (ix p0) 6), .int (itS st (ix p0) 5), .int (itS st (ix p0) 12), .int (itS st (ix p0) 13), .int (itS st (ix p0) 14), .int (itS st (ix p0) 15), .int (itS st (ix p0) 8), .int (itS st (ix p0) 9), .int (itS st (ix p0) 10), .int ((gS st 1) + 120), .ref (g.1 8 (ix p0)), .ref (g.1 9 (ix p0))])) (kd_ne h_X h_I rfl) h_X
          have h_TL := mu_k (e := .inr (8, [.ref (g.1 5 (tbN st (ix p0))), .int (itS st (ix p0) 1), .int (sof (itS st (ix p0) 2)), .int (itS st (ix p0) 3), .int (itS st (ix p0) 7), .int (itS st (ix p0) 6), .int (itS st (ix p0) 5), .int (itS st (ix p0) 12), .int (itS st (ix p0) 13), .int (itS st (ix p0) 14), .int (itS st (ix p0) 15), .int (itS st (ix p0) 8), .int (itS st (ix p0) 9), .int (itS st (ix p0) 10), .int ((gS st 1) + 120), .ref (g.1 8 (ix p0)), .ref (g.1 9 (ix p0))])) (kd_ne h_TL h_I rfl) h_TL
          have h_IL := mu_k (e := .inr (8, [.ref (g.1 5 (tbN st (ix p0))), .int (itS st (ix p0) 1), .int (sof (itS st (ix p0) 2)), .int (itS st (ix p0) 3), .int (itS st (ix p0) 7), .int (itS st (ix p0) 6), .int (itS st (ix p0) 5), .int (itS st (ix p0) 12), .int (itS st (ix p0) 13), .int (itS st (ix p0) 14), .int (itS st (ix p0) 15), .int (itS st (ix p0) 8), .int (itS st (ix p0) 9), .int (itS st (ix p0) 10), .int ((gS st 1) + 120), .ref (g.1 8 (ix p0)), .ref (g.1 9 (ix p0))])) (kd_ne h_IL h_I rfl) h_IL
          have h_ID := mu_k (e := .inr (8, [.ref (g.1 5 (tbN st (ix p0))), .int (itS st (ix p0) 1), .int (sof (itS st (ix p0) 2)), .int (itS st (ix p0) 3), .int (itS st (ix p0) 7), .int (itS st (ix p0) 6), .int (itS st (ix p0) 5), .int (itS st (ix p0) 12), .int (itS st (ix p0) 13), .int (itS st (ix p0) 14), .int (itS st (ix p0) 15), .int (itS st (ix p0) 8), .int (itS st (ix p0) 9), .int (itS st (ix p0) 10), .int ((gS st 1) + 120), .ref (g.1 8 (ix p0)), .ref (g.1 9 (ix p0))])) (kd_ne h_ID h_I rfl) h_ID
          have h_L := mu_k (e := .inr (8, [.ref (g.1 5 (tbN st (ix p0))), .int (itS st (ix p0) 1), .int (sof (itS st (ix p0) 2)), .int (itS st (ix p0) 3), .int (itS st (ix p0) 7), .int (itS st (ix p0) 6), .int (itS st (ix p0) 5), .int (itS st (ix p0) 12), .int (itS st (ix p0) 13), .int (itS st (ix p0) 14), .int (itS st (ix p0) 15), .int (itS st (ix p0) 8), .int (itS st (ix p0) 9), .int (itS st (ix p0) 10), .int ((gS st 1) + 120), .ref (g.1 8 (ix p0)), .ref (g.1 9 (ix p0))])) (kd_ne h_L h_I rfl) h_L
          have h_H := mu_k (e := .inr (8, [.ref (g.1 5 (tbN st (ix p0))), .int (itS st (ix p0) 1), .int (sof (itS st (ix p0) 2)), .int (itS st (ix p0) 3), .int (itS st (ix p0) 7), .int (itS st (ix p0) 6), .int (itS st (ix p0) 5), .int (itS st (ix p0) 12), .int (itS st (ix p0) 13), .int (itS st (ix p0) 14), .int (itS st (ix p0) 15), .int (itS st (ix p0) 8), .int (itS st (ix p0) 9), .int (itS st (ix p0) 10), .int ((gS st 1) + 120), .ref (g.1 8 (ix p0)), .ref (g.1 9 (ix p0))])) (kd_ne h_H h_I rfl) h_H
          have h_DR := mu_k (e := .inr (8, [.ref (g.1 5 (tbN st (ix p0))), .int (itS st (ix p0) 1), .int (sof (itS st (ix p0) 2)), .int (itS st (ix p0) 3), .int (itS st (ix p0) 7), .int (itS st (ix p0) 6), .int (itS st (ix p0) 5), .int (itS st (ix p0) 12), .int (itS st (ix p0) 13), .int (itS st (ix p0) 14), .int (itS st (ix p0) 15), .int (itS st (ix p0) 8), .int (itS st (ix p0) 9), .int (itS st (ix p0) 10), .int ((gS st 1) + 120), .ref (g.1 8 (ix p0)), .ref (g.1 9 (ix p0))])) (kd_ne h_DR h_I rfl) h_DR
          have h_DH := mu_k (e := .inr (8, [.ref (g.1 5 (tbN st (ix p0))), .int (itS st (ix p0) 1), .int (sof (itS st (ix p0) 2)), .int (itS st (ix p0) 3), .int (itS st (ix p0) 7), .int (itS st (ix p0) 6), .int (itS st (ix p0) 5), .int (itS st (ix p0) 12), .int (itS st (ix p0) 13), .int (itS st (ix p0) 14), .int (itS st (ix p0) 15), .int (itS st (ix p0) 8), .int (itS st (ix p0) 9), .int (itS st (ix p0) 10), .int ((gS st 1) + 120), .ref (g.1 8 (ix p0)), .ref (g.1 9 (ix p0))])) (kd_ne h_DH h_I rfl) h_DH
          have h_I : (mu (mu (mu Mw (g.1 0 0) (.inr (10, [.ref (g.1 1 0), .ref (g.1 2 0), .int (gS st 2), .int (gS st 3), .int (gS st 1), .int (gS st 0), .int 0]))) (g.1 0 0) (.inr (10, [.ref (g.1 1 0), .ref (g.1 2 0), .int (gS st 2), .int (gS st 3), .int (gS st 1), .int (gS st 0), .int 0]))) (g.1 7 (ix p0)) (.inr (8, [.ref (g.1 5 (tbN st (ix p0))), .int (itS st (ix p0) 1), .int (sof (itS st (ix p0) 2)), .int (itS st (ix p0) 3), .int (itS st (ix p0) 7), .int (itS st (ix p0) 6), .int (itS st (ix p0) 5), .int (itS st (ix p0) 12), .int (itS st (ix p0) 13), .int (itS st (ix p0) 14), .int (itS st (ix p0) 15), .int (itS st (ix p0) 8), .int (itS st (ix p0) 9), .int (itS st (ix p0) 10), .int ((gS st 1) + 120), .ref (g.1 8 (ix p0)), .ref (g.1 9 (ix p0))]))) (g.1 7 (ix p0)) = some (.inr (8, [.ref (g.1 5 (tbN st (ix p0))), .int (itS st (ix p0) 1), .int (sof (itS st (ix p0) 2)), .int (itS st (ix p0) 3), .int (itS st (ix p0) 7), .int (itS st (ix p0) 6), .int (itS st (ix p0) 5), .int (itS st (ix p0) 12), .int (itS st (ix p0) 13), .int (itS st (ix p0) 14), .int (itS st (ix p0) 15), .int (itS st (ix p0) 8), .int (itS st (ix p0) 9), .int (itS st (ix p0) 10), .int ((gS st 1) + 120), .ref (g.1 8 (ix p0)), .ref (g.1 9 (ix p0))])) := mu_s
          refine lv_aload_n hx hb dX7_certify_91 rfl (lv_at hl 0 rfl) ?_
          refine m_getN (ci := 8) (v := .int ((gS st 1) + 120)) (C := RX5) (T := TX5) (N := 17) hx hb hts i_X5 hown hK (hP _ _ h_I) rfl 14 (by decide) (va_Nw.use rfl (hG.2.1.2.1 ("MeniscusModel", 113, "MeniscusModel$Instrument", "certified", "I", "MeniscusModel") (by decide +kernel))) (fun _ h9 => h9) rfl dX7_certify_92 ?_
          refine W.widen (k := 0) (n := 0) (Nat.le_of_ble_eq_true rfl) (Nat.le_of_ble_eq_true rfl) ?_
          exact W.iret (v := (gS st 1) + 120) hx hb hr (fun t99 ht99 hW99 => ⟨⟨(gS st 1) + 120, (mu (mu (mu Mw (g.1 0 0) (.inr (10, [.ref (g.1 1 0), .ref (g.1 2 0), .int (gS st 2), .int (gS st 3), .int (gS st 1), .int (gS st 0), .int 0]))) (g.1 0 0) (.inr (10, [.ref (g.1 1 0), .ref (g.1 2 0), .int (gS st 2), .int (gS st 3), .int (gS st 1), .int (gS st 0), .int 0]))) (g.1 7 (ix p0)) (.inr (8, [.ref (g.1 5 (tbN st (ix p0))), .int (itS st (ix p0) 1), .int (sof (itS st (ix p0) 2)), .int (itS st (ix p0) 3), .int (itS st (ix p0) 7), .int (itS st (ix p0) 6), .int (itS st (ix p0) 5), .int (itS st (ix p0) 12), .int (itS st (ix p0) 13), .int (itS st (ix p0) 14), .int (itS st (ix p0) 15), .int (itS st (ix p0) 8), .int (itS st (ix p0) 9), .int (itS st (ix p0) 10), .int ((gS st 1) + 120), .ref (g.1 8 (ix p0)), .ref (g.1 9 (ix p0))]))), rfl, RP.ok (by unfold m_certify; first | (rw [chk_p hi9, chk_p hq_r3, chk_p hc9, hv9]; done) | (rw [chk_p hi9, chk_p hq_r3, chk_p hc9, hv9]; rfl)) (hR.io hi9.2 (gS st) (fu (itS st (ix p0)) 11 ((gS st 1) + 120)) rfl ((gS st 1) + 120) 0 h_X h_I (fun x9 e9 hx9 h0 h1 => ((mu_n h1).trans ((mu_n h0).trans ((mu_n h0).trans (rfl)))).trans hx9) (fun _ => rfl)) rfl rfl, by rw [ht99]; exact hP, hI⟩, hS.F ht99⟩) hS.2.2 dX7_certify_95
      · skip
        refine lv_iconst (v := 1) hx hb dX7_certify_41 (by decide) ?_
        refine lv_goto (tgt := 46) hx hb dX7_certify_42 (by decide) ?_
        refine lv_iconst (v := 2) hx hb dX7_certify_46 (by decide) ?_
        refine m_calli (va_runV (As := [.int 1, .int 2]) (rest := []) ⟨hx, hb, hml, hown, hts⟩ (c_X7_isThrown1 l G A (mu Mw (g.1 0 0) (.inr (10, [.ref (g.1 1 0), .ref (g.1 2 0), .int (gS st 2), .int (gS st 3), .int (gS st 1), .int (gS st 0), .int 0])))  2 h_X) (cwV 2 hts gX7_certify_X7_isThrown rfl rfl rfl (by decide +kernel) ⟨Nat.le_of_ble_eq_true rfl, Nat.le_of_ble_eq_true rfl⟩) (mPreV hG hS hP hI hA (hP _ _ h_X) (r := (RX7, TX7, 7)) rfl) rfl rfl hl.1 rfl (lv_room (Nat.le_of_ble_eq_true rfl)) dX7_certify_47 ⟨Nat.le_of_ble_eq_true rfl, Nat.le_of_ble_eq_true rfl⟩) hS (fun r10 Mw1 H locs hp_r10 hP hI hS => ?_)
        obtain ⟨hp_r10, hm9⟩ := hp_r10
        subst Mw1
        subst hp_r10
        have h_TL := mu_k (e := .inr (10, [.ref (g.1 1 0), .ref (g.1 2 0), .int (gS st 2), .int (gS st 3), .int (gS st 1), .int (gS st 0), .int 2])) (kd_ne h_TL h_X rfl) h_TL
        have h_IL := mu_k (e := .inr (10, [.ref (g.1 1 0), .ref (g.1 2 0), .int (gS st 2), .int (gS st 3), .int (gS st 1), .int (gS st 0), .int 2])) (kd_ne h_IL h_X rfl) h_IL
        have h_ID := mu_k (e := .inr (10, [.ref (g.1 1 0), .ref (g.1 2 0), .int (gS st 2), .int (gS st 3), .int (gS st 1), .int (gS st 0), .int 2])) (kd_ne h_ID h_X rfl) h_ID
        have h_I := mu_k (e := .inr (10, [.ref (g.1 1 0), .ref (g.1 2 0), .int (gS st 2), .int (gS st 3), .int (gS st 1), .int (gS st 0), .int 2])) (kd_ne h_I h_X rfl) h_I
        have h_L := mu_k (e := .inr (10, [.ref (g.1 1 0), .ref (g.1 2 0), .int (gS st 2), .int (gS st 3), .int (gS st 1), .int (gS st 0), .int 2])) (kd_ne h_L h_X rfl) h_L
        have h_H := mu_k (e := .inr (10, [.ref (g.1 1 0), .ref (g.1 2 0), .int (gS st 2), .int (gS st 3), .int (gS st 1), .int (gS st 0), .int 2])) (kd_ne h_H h_X rfl) h_H
        have h_DR := mu_k (e := .inr (10, [.ref (g.1 1 0), .ref (g.1 2 0), .int (gS st 2), .int (gS st 3), .int (gS st 1), .int (gS st 0), .int 2])) (kd_ne h_DR h_X rfl) h_DR
        have h_DH := mu_k (e := .inr (10, [.ref (g.1 1 0), .ref (g.1 2 0), .int (gS st 2), .int (gS st 3), .int (gS st 1), .int (gS st 0), .int 2])) (kd_ne h_DH h_X rfl) h_DH
        have h_X : (mu (mu Mw (g.1 0 0) (.inr (10, [.ref (g.1 1 0), .ref (g.1 2 0), .int (gS st 2), .int (gS st 3), .int (gS st 1), .int (gS st 0), .int 0]))) (g.1 0 0) (.inr (10, [.ref (g.1 1 0), .ref (g.1 2 0), .int (gS st 2), .int (gS st 3), .int (gS st 1), .int (gS st 0), .int 2]))) (g.1 0 0) = some (.inr (10, [.ref (g.1 1 0), .ref (g.1 2 0), .int (gS st 2), .int (gS st 3), .int (gS st 1), .int (gS st 0), .int 2])) := mu_s
        refine lv_if_eq (tgt := 55) hx hb dX7_certify_50 (by decide) (fun h9 => absurd h9 (by decide)) (fun _ => ?_)
        refine lv_iconst (v := 0) hx hb dX7_certify_53 (by decide) ?_
        refine W.widen (k := 0) (n := 0) (Nat.le_of_ble_eq_true rfl) (Nat.le_of_ble_eq_true rfl) ?_
        exact W.iret (v := 0) hx hb hr (fun t99 ht99 hW99 => ⟨⟨0, (mu (mu Mw (g.1 0 0) (.inr (10, [.ref (g.1 1 0), .ref (g.1 2 0), .int (gS st 2), .int (gS st 3), .int (gS st 1), .int (gS st 0), .int 0]))) (g.1 0 0) (.inr (10, [.ref (g.1 1 0), .ref (g.1 2 0), .int (gS st 2), .int (gS st 3), .int (gS st 1), .int (gS st 0), .int 2]))), rfl, RP.no (k := 2) (by unfold m_certify; first | (rw [chk_p hi9, chk_p hq_r3, chk_n (fun q9 => q9 (by rw [← hp_r5]; exact c6))]; done) | (rw [chk_p hi9, chk_p hq_r3, chk_n (fun q9 => q9 (by rw [← hp_r5]; exact c6))]; rfl)) (by decide) (hR.th 2 h_X (fun x9 e9 hx9 h0 => ((mu_n h0).trans ((mu_n h0).trans (rfl))).trans hx9)) rfl rfl, by rw [ht99]; exact hP, hI⟩, hS.F ht99⟩) hS.2.2 dX7_certify_54
    · subst hr9
      refine lv_if_ne (tgt := 41) hx hb dX7_certify_19 (by decide) (fun _ => ?_) (fun h9 => absurd h9 (by decide))
      refine lv_iconst (v := 1) hx hb dX7_certify_41 (by decide) ?_
      refine lv_goto (tgt := 46) hx hb dX7_certify_42 (by decide) ?_
      refine lv_iconst (v := 2) hx hb dX7_certify_46 (by decide) ?_
      refine m_calli (va_runV (As := [.int 1, .int 2]) (rest := []) ⟨hx, hb, hml, hown, hts⟩ (c_X7_isThrown1 l G A (mu Mw (g.1 0 0) (.inr (10, [.ref (g.1 1 0), .ref (g.1 2 0), .int (gS st 2), .int (gS st 3), .int (gS st 1), .int (gS st 0), .int 0])))  2 h_X) (cwV 2 hts gX7_certify_X7_isThrown rfl rfl rfl (by decide +kernel) ⟨Nat.le_of_ble_eq_true rfl, Nat.le_of_ble_eq_true rfl⟩) (mPreV hG hS hP hI hA (hP _ _ h_X) (r := (RX7, TX7, 7)) rfl) rfl rfl hl.1 rfl (lv_room (Nat.le_of_ble_eq_true rfl)) dX7_certify_47 ⟨Nat.le_of_ble_eq_true rfl, Nat.le_of_ble_eq_true rfl⟩) hS (fun r11 Mw1 H locs hp_r11 hP hI hS => ?_)
      obtain ⟨hp_r11, hm9⟩ := hp_r11
      subst Mw1
      subst hp_r11
      have h_TL := mu_k (e := .inr (10, [.ref (g.1 1 0), .ref (g.1 2 0), .int (gS st 2), .int (gS st 3), .int (gS st 1), .int (gS st 0), .int 2])) (kd_ne h_TL h_X rfl) h_TL
      have h_IL := mu_k (e := .inr (10, [.ref (g.1 1 0), .ref (g.1 2 0), .int (gS st 2), .int (gS st 3), .int (gS st 1), .int (gS st 0), .int 2])) (kd_ne h_IL h_X rfl) h_IL
      have h_ID := mu_k (e := .inr (10, [.ref (g.1 1 0), .ref (g.1 2 0), .int (gS st 2), .int (gS st 3), .int (gS st 1), .int (gS st 0), .int 2])) (kd_ne h_ID h_X rfl) h_ID
      have h_I := mu_k (e := .inr (10, [.ref (g.1 1 0), .ref (g.1 2 0), .int (gS st 2), .int (gS st 3), .int (gS st 1), .int (gS st 0), .int 2])) (kd_ne h_I h_X rfl) h_I
      have h_L := mu_k (e := .inr (10, [.ref (g.1 1 0), .ref (g.1 2 0), .int (gS st 2), .int (gS st 3), .int (gS st 1), .int (gS st 0), .int 2])) (kd_ne h_L h_X rfl) h_L
      have h_H := mu_k (e := .inr (10, [.ref (g.1 1 0), .ref (g.1 2 0), .int (gS st 2), .int (gS st 3), .int (gS st 1), .int (gS st 0), .int 2])) (kd_ne h_H h_X rfl) h_H
      have h_X : (mu (mu Mw (g.1 0 0) (.inr (10, [.ref (g.1 1 0), .ref (g.1 2 0), .int (gS st 2), .int (gS st 3), .int (gS st 1), .int (gS st 0), .int 0]))) (g.1 0 0) (.inr (10, [.ref (g.1 1 0), .ref (g.1 2 0), .int (gS st 2), .int (gS st 3), .int (gS st 1), .int (gS st 0), .int 2]))) (g.1 0 0) = some (.inr (10, [.ref (g.1 1 0), .ref (g.1 2 0), .int (gS st 2), .int (gS st 3), .int (gS st 1), .int (gS st 0), .int 2])) := mu_s
      refine lv_if_eq (tgt := 55) hx hb dX7_certify_50 (by decide) (fun h9 => absurd h9 (by decide)) (fun _ => ?_)
      refine lv_iconst (v := 0) hx hb dX7_certify_53 (by decide) ?_
      refine W.widen (k := 0) (n := 0) (Nat.le_of_ble_eq_true rfl) (Nat.le_of_ble_eq_true rfl) ?_
      exact W.iret (v := 0) hx hb hr (fun t99 ht99 hW99 => ⟨⟨0, (mu (mu Mw (g.1 0 0) (.inr (10, [.ref (g.1 1 0), .ref (g.1 2 0), .int (gS st 2), .int (gS st 3), .int (gS st 1), .int (gS st 0), .int 0]))) (g.1 0 0) (.inr (10, [.ref (g.1 1 0), .ref (g.1 2 0), .int (gS st 2), .int (gS st 3), .int (gS st 1), .int (gS st 0), .int 2]))), rfl, RP.no (k := 2) (by unfold m_certify; first | (rw [chk_p hi9, chk_n hq_r3]; done) | (rw [chk_p hi9, chk_n hq_r3]; rfl)) (by decide) (hR.th 2 h_X (fun x9 e9 hx9 h0 => ((mu_n h0).trans ((mu_n h0).trans (rfl))).trans hx9)) rfl rfl, by rw [ht99]; exact hP, hI⟩, hS.F ht99⟩) hS.2.2 dX7_certify_54
  · subst hr9
    refine lv_iconst (v := 1) hx hb dX7_certify_6 (by decide) ?_
    refine m_calli (va_runV (As := [.int 1, .int 1]) (rest := []) ⟨hx, hb, hml, hown, hts⟩ (c_X7_isThrown1 l G A Mw  1 h_X) (cwV 2 hts gX7_certify_X7_isThrown rfl rfl rfl (by decide +kernel) ⟨Nat.le_of_ble_eq_true rfl, Nat.le_of_ble_eq_true rfl⟩) (mPreV hG hS hP hI hA (hP _ _ h_X) (r := (RX7, TX7, 7)) rfl) rfl rfl hl.1 rfl (lv_room (Nat.le_of_ble_eq_true rfl)) dX7_certify_7 ⟨Nat.le_of_ble_eq_true rfl, Nat.le_of_ble_eq_true rfl⟩) hS (fun r12 Mw1 H locs hp_r12 hP hI hS => ?_)
    obtain ⟨hp_r12, hm9⟩ := hp_r12
    subst Mw1
    subst hp_r12
    have h_TL := mu_k (e := .inr (10, [.ref (g.1 1 0), .ref (g.1 2 0), .int (gS st 2), .int (gS st 3), .int (gS st 1), .int (gS st 0), .int 1])) (kd_ne h_TL h_X rfl) h_TL
    have h_IL := mu_k (e := .inr (10, [.ref (g.1 1 0), .ref (g.1 2 0), .int (gS st 2), .int (gS st 3), .int (gS st 1), .int (gS st 0), .int 1])) (kd_ne h_IL h_X rfl) h_IL
    have h_X : (mu Mw (g.1 0 0) (.inr (10, [.ref (g.1 1 0), .ref (g.1 2 0), .int (gS st 2), .int (gS st 3), .int (gS st 1), .int (gS st 0), .int 1]))) (g.1 0 0) = some (.inr (10, [.ref (g.1 1 0), .ref (g.1 2 0), .int (gS st 2), .int (gS st 3), .int (gS st 1), .int (gS st 0), .int 1])) := mu_s
    refine lv_if_ne (tgt := 53) hx hb dX7_certify_10 (by decide) (fun _ => ?_) (fun h9 => absurd h9 (by decide))
    refine lv_iconst (v := 0) hx hb dX7_certify_53 (by decide) ?_
    refine W.widen (k := 0) (n := 0) (Nat.le_of_ble_eq_true rfl) (Nat.le_of_ble_eq_true rfl) ?_
    exact W.iret (v := 0) hx hb hr (fun t99 ht99 hW99 => ⟨⟨0, (mu Mw (g.1 0 0) (.inr (10, [.ref (g.1 1 0), .ref (g.1 2 0), .int (gS st 2), .int (gS st 3), .int (gS st 1), .int (gS st 0), .int 1]))), rfl, RP.no (k := 1) (by unfold m_certify; first | (rw [chk_n hq_r1]; done) | (rw [chk_n hq_r1]; rfl)) (by decide) (hR.th 1 h_X (fun x9 e9 hx9 h0 => ((mu_n h0).trans (rfl)).trans hx9)) rfl rfl, by rw [ht99]; exact hP, hI⟩, hS.F ht99⟩) hS.2.2 dX7_certify_54

theorem crt_g {a b c d : Int32} (h : a = 0 → b = c) : crtO a b d = 1 ↔ crtO a c d = 1 := by
  unfold crtO
  by_cases z : a = 0
  · rw [h z]
  · rw [if_neg z, if_neg z]
set_option maxHeartbeats 4000000 in
set_option maxRecDepth 100000 in
theorem c_X7_isCertified (l : Launch) (G : mg) (A : Nat → Prop) (Mw : mw) (st : St) (g : gR) (p0 : Int32) (hR : RS G st g Mw) (hV : Inv st) : Met l yX7_isCertified wsX7_isCertified ({ frames := 3, cells := 0, slots := 0, locals := 64 }) (va_Pc [.ref (g.1 0 0), .int p0] (mB G A Mw)) (va_Qi (fun r Mw1 => RP G (m_isCertified st p0) g r Mw1) (mE G A) A) 0 0 A := by
  refine Met.ofW (cc := cX7_isCertified) (maxL := 2) (ret := (some .boolean)) (by decide) rfl ?_
  intro p e s m args below meth c s₁ B hml hv
  obtain ⟨rfl, hG, hP, hI, hA⟩ := hv
  have hx := B.exec
  have hb := B.bytes
  have hr := B.returns
  have hts := atoms_spec (ws := wsX7_isCertified) B.pre
  have hown : s.vm.findClass RX7 = some m.cls := findClass_of_methodNamed B.named
  have hlocks := B.notSynchronized
  have hK := hG.K
  have i_X7 : ∀ w ∈ wsX70, w ∈ wsX7_isCertified := by decide +kernel
  have hS : va_S A s.heap s.heap [] := va_S.rf
  have hl := lv_entry ([.ref (g.1 0 0), .int p0]) (n := 2) (Nat.le_of_ble_eq_true rfl)
  rw [lg_entry_eq]
  generalize (lg_sl ([.ref (g.1 0 0), .int p0]) ++ List.replicate (2 - (lg_sl ([.ref (g.1 0 0), .int p0])).length) Slot.unset).toArray = ls at hl ⊢
  have hl : lv_has ls 2 [(0, .ref (g.1 0 0)), (1, .int p0)] := hl
  have hP : mP G.1 Mw s.heap := hP
  have h_X : Mw (g.1 0 0) = some (.inr (10, [.ref (g.1 1 0), .ref (g.1 2 0), .int (gS st 2), .int (gS st 3), .int (gS st 1), .int (gS st 0), .int (thR g)])) := hR.1 0 0 ro0
  have h_TL : Mw (g.1 1 0) = some (.inr (2, [.int (mcR g 1 0), .ref (g.1 3 0), .int ((nI (nT st)))])) := hR.1 1 0 ro1
  have h_IL : Mw (g.1 2 0) = some (.inr (2, [.int (mcR g 2 0), .ref (g.1 4 0), .int ((nI (nN st)))])) := hR.1 2 0 ro2
  have hti9 := hR.ne ro1 ro2 (by omega)
  have hnT8 := hV.1.1
  have hnN8 := Nat.le_trans hV.1.2 (show 6 ≤ 8 by decide)
  refine lv_aload_n hx hb dX7_isCertified_0 rfl (lv_at hl 0 rfl) ?_
  refine lv_aload_n hx hb dX7_isCertified_1 rfl (lv_at hl 0 rfl) ?_
  refine lv_iload_n hx hb dX7_isCertified_2 rfl (lv_at hl 1 rfl) ?_
  refine m_calli (va_runV (As := [.int p0]) (rest := [.ref (g.1 0 0)]) ⟨hx, hb, hml, hown, hts⟩ (c_X7_isNone l G A Mw  p0 h_X h_IL hnN8) (cwV 1 hts gX7_isCertified_X7_isNone rfl rfl rfl (by decide +kernel) ⟨Nat.le_of_ble_eq_true rfl, Nat.le_of_ble_eq_true rfl⟩) (mPreV hG hS hP hI hA (hP _ _ h_X) (r := (RX7, TX7, 7)) rfl) rfl rfl hl.1 rfl (lv_room (Nat.le_of_ble_eq_true rfl)) dX7_isCertified_3 ⟨Nat.le_of_ble_eq_true rfl, Nat.le_of_ble_eq_true rfl⟩) hS (fun r1 Mw1 H locs hp_r1 hP hI hS => ?_)
  obtain ⟨hb9, hm9⟩ := hp_r1
  subst Mw1
  rcases hb9 with ⟨hr9, hq_r1⟩ | ⟨hr9, hq_r1⟩
  · subst hr9
    have hi9 := hq_r1
    have e_p0 : p0 = nI (ix p0) := nI_cl hi9.1
    rw [e_p0] at hl
    have hf4 := hR.f4 hi9.2
    have h_ID : Mw (g.1 4 0) = some (.inl (G.2.1 5, 10, .inr (.inr (.inr (.inr (qf (nN st) (g.1 7))))))) := hR.1 4 0 (ro4 hf4)
    have h_I : Mw (g.1 7 (ix p0)) = some (.inr (8, [.ref (g.1 5 (tbN st (ix p0))), .int (itS st (ix p0) 1), .int (sof (itS st (ix p0) 2)), .int (itS st (ix p0) 3), .int (itS st (ix p0) 7), .int (itS st (ix p0) 6), .int (itS st (ix p0) 5), .int (itS st (ix p0) 12), .int (itS st (ix p0) 13), .int (itS st (ix p0) 14), .int (itS st (ix p0) 15), .int (itS st (ix p0) 8), .int (itS st (ix p0) 9), .int (itS st (ix p0) 10), .int (ceR g (ix p0)), .ref (g.1 8 (ix p0)), .ref (g.1 9 (ix p0))])) := hR.1 7 _ (ro7 hi9.2)
    refine lv_iconst (v := 1) hx hb dX7_isCertified_6 (by decide) ?_
    refine m_calli (va_runV (As := [.int 0, .int 1]) (rest := []) ⟨hx, hb, hml, hown, hts⟩ (c_X7_isThrown0 l G A Mw  1 h_X) (cwV 2 hts gX7_isCertified_X7_isThrown rfl rfl rfl (by decide +kernel) ⟨Nat.le_of_ble_eq_true rfl, Nat.le_of_ble_eq_true rfl⟩) (mPreV hG hS hP hI hA (hP _ _ h_X) (r := (RX7, TX7, 7)) rfl) rfl rfl hl.1 rfl (lv_room (Nat.le_of_ble_eq_true rfl)) dX7_isCertified_7 ⟨Nat.le_of_ble_eq_true rfl, Nat.le_of_ble_eq_true rfl⟩) hS (fun r2 Mw1 H locs hp_r2 hP hI hS => ?_)
    obtain ⟨hp_r2, hm9⟩ := hp_r2
    subst Mw1
    subst hp_r2
    have h_TL := mu_k (e := .inr (10, [.ref (g.1 1 0), .ref (g.1 2 0), .int (gS st 2), .int (gS st 3), .int (gS st 1), .int (gS st 0), .int 0])) (kd_ne h_TL h_X rfl) h_TL
    have h_IL := mu_k (e := .inr (10, [.ref (g.1 1 0), .ref (g.1 2 0), .int (gS st 2), .int (gS st 3), .int (gS st 1), .int (gS st 0), .int 0])) (kd_ne h_IL h_X rfl) h_IL
    have h_ID := mu_k (e := .inr (10, [.ref (g.1 1 0), .ref (g.1 2 0), .int (gS st 2), .int (gS st 3), .int (gS st 1), .int (gS st 0), .int 0])) (kd_ne h_ID h_X rfl) h_ID
    have h_I := mu_k (e := .inr (10, [.ref (g.1 1 0), .ref (g.1 2 0), .int (gS st 2), .int (gS st 3), .int (gS st 1), .int (gS st 0), .int 0])) (kd_ne h_I h_X rfl) h_I
    have h_X : (mu Mw (g.1 0 0) (.inr (10, [.ref (g.1 1 0), .ref (g.1 2 0), .int (gS st 2), .int (gS st 3), .int (gS st 1), .int (gS st 0), .int 0]))) (g.1 0 0) = some (.inr (10, [.ref (g.1 1 0), .ref (g.1 2 0), .int (gS st 2), .int (gS st 3), .int (gS st 1), .int (gS st 0), .int 0])) := mu_s
    refine lv_if_ne (tgt := 35) hx hb dX7_isCertified_10 (by decide) (fun h9 => absurd h9 (by decide)) (fun _ => ?_)
    have hcR : crtO (itS st (ix p0) 5) (ceR g (ix p0)) (gS st 1) = 1 ↔ crtO (itS st (ix p0) 5) (itS st (ix p0) 11) (gS st 1) = 1 := crt_g (hR.2.2.2.2 _ hi9.2).2.1
    refine lv_aload_n hx hb dX7_isCertified_13 rfl (lv_at hl 0 rfl) ?_
    refine lv_aload_n hx hb dX7_isCertified_14 rfl (lv_at hl 0 rfl) ?_
    refine m_get (ci := 10) (v := .ref (g.1 2 0)) (C := RX7) (T := TX7) (N := 7) hx hb hts i_X7 hown hK (hP _ _ h_X) rfl 1 (by decide) (hts (.fieldLink RX7 16 "MeniscusModel" "instruments" "Ljava/util/ArrayList;") (by decide +kernel)) (fun _ h9 => h9) rfl dX7_isCertified_15 ?_
    refine lv_iload_n hx hb dX7_isCertified_18 rfl (lv_at hl 1 rfl) ?_
    refine m_callq (va_runV (As := [.int (nI (ix p0))]) (rest := [.ref (g.1 0 0)]) ⟨hx, hb, hml, hown, hts⟩ (c_Jx4a65c_get_915e3 l G A (mu Mw (g.1 0 0) (.inr (10, [.ref (g.1 1 0), .ref (g.1 2 0), .int (gS st 2), .int (gS st 3), .int (gS st 1), .int (gS st 0), .int 0])))  h_IL h_ID (ix p0) (g.1 7 (ix p0)) hi9.2 hnN8 (qf_p hi9.2)) (cwV 1 hts gX7_isCertified_Jx4a65c_get_915e3 rfl rfl rfl (by decide +kernel) ⟨Nat.le_of_ble_eq_true rfl, Nat.le_of_ble_eq_true rfl⟩) (mPreV hG hS hP hI hA (hP _ _ h_IL) (r := (RJx4a65c, TJx4a65c, 3)) rfl) rfl rfl hl.1 rfl (lv_room (Nat.le_of_ble_eq_true rfl)) dX7_isCertified_19 ⟨Nat.le_of_ble_eq_true rfl, Nat.le_of_ble_eq_true rfl⟩) hS (fun r3 Mw1 H locs hp_r3 hP hI hS => ?_)
    obtain ⟨hp_r3, hm9⟩ := hp_r3
    subst Mw1
    subst hp_r3
    refine va_castE hx hb hown (hts (.classLink RX7 79 RX5) (by decide +kernel)) (va_recv hK (va_at.one (hP _ _ h_I)) (q0 := 0) (q := (RX5, TX5, 17)) rfl rfl) dX7_isCertified_22 ?_
    refine m_calli (va_runV (As := [.ref (g.1 7 (ix p0))]) (rest := []) ⟨hx, hb, hml, hown, hts⟩ (c_X7_holds l G A (mu Mw (g.1 0 0) (.inr (10, [.ref (g.1 1 0), .ref (g.1 2 0), .int (gS st 2), .int (gS st 3), .int (gS st 1), .int (gS st 0), .int 0])))  h_X h_I) (cwV 1 hts gX7_isCertified_X7_holds rfl rfl rfl (by decide +kernel) ⟨Nat.le_of_ble_eq_true rfl, Nat.le_of_ble_eq_true rfl⟩) (mPreV hG hS hP hI hA (hP _ _ h_X) (r := (RX7, TX7, 7)) rfl) rfl rfl hl.1 rfl (lv_room (Nat.le_of_ble_eq_true rfl)) dX7_isCertified_25 ⟨Nat.le_of_ble_eq_true rfl, Nat.le_of_ble_eq_true rfl⟩) hS (fun r4 Mw1 H locs hp_r4 hP hI hS => ?_)
    obtain ⟨hb9, hm9⟩ := hp_r4
    subst Mw1
    rcases hb9 with ⟨hr9, hq_r4⟩ | ⟨hr9, hq_r4⟩
    · subst hr9
      refine lv_if_eq (tgt := 35) hx hb dX7_isCertified_28 (by decide) (fun _ => ?_) (fun h9 => absurd h9 (by decide))
      refine lv_iconst (v := 0) hx hb dX7_isCertified_35 (by decide) ?_
      refine W.widen (k := 0) (n := 0) (Nat.le_of_ble_eq_true rfl) (Nat.le_of_ble_eq_true rfl) ?_
      exact W.zret (v := 0) hx hb hr rfl (fun t99 ht99 hW99 => ⟨⟨0, (mu Mw (g.1 0 0) (.inr (10, [.ref (g.1 1 0), .ref (g.1 2 0), .int (gS st 2), .int (gS st 3), .int (gS st 1), .int (gS st 0), .int 0]))), rfl, RP.ok (by unfold m_isCertified; first | (rw [chk_p hi9, show crtO (itS st (ix p0) 5) (itS st (ix p0) 11) (gS st 1) = 0 from (crtO01 _ _ _).resolve_right (fun q9 => hq_r4 (hcR.mpr q9))]; done) | (rw [chk_p hi9, show crtO (itS st (ix p0) 5) (itS st (ix p0) 11) (gS st 1) = 0 from (crtO01 _ _ _).resolve_right (fun q9 => hq_r4 (hcR.mpr q9))]; rfl)) (hR.th 0 h_X (fun x9 e9 hx9 h0 => ((mu_n h0).trans (rfl)).trans hx9)) rfl rfl, by rw [ht99]; exact hP, hI⟩, hS.F ht99⟩) hS.2.2 dX7_isCertified_36
    · subst hr9
      refine lv_if_eq (tgt := 35) hx hb dX7_isCertified_28 (by decide) (fun h9 => absurd h9 (by decide)) (fun _ => ?_)
      refine lv_iconst (v := 1) hx hb dX7_isCertified_31 (by decide) ?_
      refine lv_goto (tgt := 36) hx hb dX7_isCertified_32 (by decide) ?_
      refine W.widen (k := 0) (n := 0) (Nat.le_of_ble_eq_true rfl) (Nat.le_of_ble_eq_true rfl) ?_
      exact W.zret (v := 1) hx hb hr rfl (fun t99 ht99 hW99 => ⟨⟨1, (mu Mw (g.1 0 0) (.inr (10, [.ref (g.1 1 0), .ref (g.1 2 0), .int (gS st 2), .int (gS st 3), .int (gS st 1), .int (gS st 0), .int 0]))), rfl, RP.ok (by unfold m_isCertified; first | (rw [chk_p hi9, show crtO (itS st (ix p0) 5) (itS st (ix p0) 11) (gS st 1) = 1 from hcR.mp hq_r4]; done) | (rw [chk_p hi9, show crtO (itS st (ix p0) 5) (itS st (ix p0) 11) (gS st 1) = 1 from hcR.mp hq_r4]; rfl)) (hR.th 0 h_X (fun x9 e9 hx9 h0 => ((mu_n h0).trans (rfl)).trans hx9)) rfl rfl, by rw [ht99]; exact hP, hI⟩, hS.F ht99⟩) hS.2.2 dX7_isCertified_36
  · subst hr9
    refine lv_iconst (v := 1) hx hb dX7_isCertified_6 (by decide) ?_
    refine m_calli (va_runV (As := [.int 1, .int 1]) (rest := []) ⟨hx, hb, hml, hown, hts⟩ (c_X7_isThrown1 l G A Mw  1 h_X) (cwV 2 hts gX7_isCertified_X7_isThrown rfl rfl rfl (by decide +kernel) ⟨Nat.le_of_ble_eq_true rfl, Nat.le_of_ble_eq_true rfl⟩) (mPreV hG hS hP hI hA (hP _ _ h_X) (r := (RX7, TX7, 7)) rfl) rfl rfl hl.1 rfl (lv_room (Nat.le_of_ble_eq_true rfl)) dX7_isCertified_7 ⟨Nat.le_of_ble_eq_true rfl, Nat.le_of_ble_eq_true rfl⟩) hS (fun r5 Mw1 H locs hp_r5 hP hI hS => ?_)
    obtain ⟨hp_r5, hm9⟩ := hp_r5
    subst Mw1
    subst hp_r5
    have h_TL := mu_k (e := .inr (10, [.ref (g.1 1 0), .ref (g.1 2 0), .int (gS st 2), .int (gS st 3), .int (gS st 1), .int (gS st 0), .int 1])) (kd_ne h_TL h_X rfl) h_TL
    have h_IL := mu_k (e := .inr (10, [.ref (g.1 1 0), .ref (g.1 2 0), .int (gS st 2), .int (gS st 3), .int (gS st 1), .int (gS st 0), .int 1])) (kd_ne h_IL h_X rfl) h_IL
    have h_X : (mu Mw (g.1 0 0) (.inr (10, [.ref (g.1 1 0), .ref (g.1 2 0), .int (gS st 2), .int (gS st 3), .int (gS st 1), .int (gS st 0), .int 1]))) (g.1 0 0) = some (.inr (10, [.ref (g.1 1 0), .ref (g.1 2 0), .int (gS st 2), .int (gS st 3), .int (gS st 1), .int (gS st 0), .int 1])) := mu_s
    refine lv_if_ne (tgt := 35) hx hb dX7_isCertified_10 (by decide) (fun _ => ?_) (fun h9 => absurd h9 (by decide))
    refine lv_iconst (v := 0) hx hb dX7_isCertified_35 (by decide) ?_
    refine W.widen (k := 0) (n := 0) (Nat.le_of_ble_eq_true rfl) (Nat.le_of_ble_eq_true rfl) ?_
    exact W.zret (v := 0) hx hb hr rfl (fun t99 ht99 hW99 => ⟨⟨0, (mu Mw (g.1 0 0) (.inr (10, [.ref (g.1 1 0), .ref (g.1 2 0), .int (gS st 2), .int (gS st 3), .int (gS st 1), .int (gS st 0), .int 1]))), rfl, RP.no (k := 1) (by unfold m_isCertified; first | (rw [chk_n hq_r1]; done) | (rw [chk_n hq_r1]; rfl)) (by decide) (hR.th 1 h_X (fun x9 e9 hx9 h0 => ((mu_n h0).trans (rfl)).trans hx9)) rfl rfl, by rw [ht99]; exact hP, hI⟩, hS.F ht99⟩) hS.2.2 dX7_isCertified_36

set_option maxHeartbeats 4000000 in
set_option maxRecDepth 100000 in
theorem c_X7_isBroken (l : Launch) (G : mg) (A : Nat → Prop) (Mw : mw) (st : St) (g : gR) (p0 : Int32) (hR : RS G st g Mw) (hV : Inv st) : Met l yX7_isBroken wsX7_isBroken ({ frames := 3, cells := 0, slots := 0, locals := 64 }) (va_Pc [.ref (g.1 0 0), .int p0] (mB G A Mw)) (va_Qi (fun r Mw1 => RP G (m_isBroken st p0) g r Mw1) (mE G A) A) 0 0 A := by
  refine Met.ofW (cc := cX7_isBroken) (maxL := 2) (ret := (some .boolean)) (by decide) rfl ?_
  intro p e s m args below meth c s₁ B hml hv
  obtain ⟨rfl, hG, hP, hI, hA⟩ := hv
  have hx := B.exec
  have hb := B.bytes
  have hr := B.returns
  have hts := atoms_spec (ws := wsX7_isBroken) B.pre
  have hown : s.vm.findClass RX7 = some m.cls := findClass_of_methodNamed B.named
  have hlocks := B.notSynchronized
  have hK := hG.K
  have i_X5 : ∀ w ∈ wsX50, w ∈ wsX7_isBroken := by decide +kernel
  have i_X7 : ∀ w ∈ wsX70, w ∈ wsX7_isBroken := by decide +kernel
  have hS : va_S A s.heap s.heap [] := va_S.rf
  have hl := lv_entry ([.ref (g.1 0 0), .int p0]) (n := 2) (Nat.le_of_ble_eq_true rfl)
  rw [lg_entry_eq]
  generalize (lg_sl ([.ref (g.1 0 0), .int p0]) ++ List.replicate (2 - (lg_sl ([.ref (g.1 0 0), .int p0])).length) Slot.unset).toArray = ls at hl ⊢
  have hl : lv_has ls 2 [(0, .ref (g.1 0 0)), (1, .int p0)] := hl
  have hP : mP G.1 Mw s.heap := hP
  have h_X : Mw (g.1 0 0) = some (.inr (10, [.ref (g.1 1 0), .ref (g.1 2 0), .int (gS st 2), .int (gS st 3), .int (gS st 1), .int (gS st 0), .int (thR g)])) := hR.1 0 0 ro0
  have h_TL : Mw (g.1 1 0) = some (.inr (2, [.int (mcR g 1 0), .ref (g.1 3 0), .int ((nI (nT st)))])) := hR.1 1 0 ro1
  have h_IL : Mw (g.1 2 0) = some (.inr (2, [.int (mcR g 2 0), .ref (g.1 4 0), .int ((nI (nN st)))])) := hR.1 2 0 ro2
  have hti9 := hR.ne ro1 ro2 (by omega)
  have hnT8 := hV.1.1
  have hnN8 := Nat.le_trans hV.1.2 (show 6 ≤ 8 by decide)
  refine lv_aload_n hx hb dX7_isBroken_0 rfl (lv_at hl 0 rfl) ?_
  refine lv_aload_n hx hb dX7_isBroken_1 rfl (lv_at hl 0 rfl) ?_
  refine lv_iload_n hx hb dX7_isBroken_2 rfl (lv_at hl 1 rfl) ?_
  refine m_calli (va_runV (As := [.int p0]) (rest := [.ref (g.1 0 0)]) ⟨hx, hb, hml, hown, hts⟩ (c_X7_isNone l G A Mw  p0 h_X h_IL hnN8) (cwV 1 hts gX7_isBroken_X7_isNone rfl rfl rfl (by decide +kernel) ⟨Nat.le_of_ble_eq_true rfl, Nat.le_of_ble_eq_true rfl⟩) (mPreV hG hS hP hI hA (hP _ _ h_X) (r := (RX7, TX7, 7)) rfl) rfl rfl hl.1 rfl (lv_room (Nat.le_of_ble_eq_true rfl)) dX7_isBroken_3 ⟨Nat.le_of_ble_eq_true rfl, Nat.le_of_ble_eq_true rfl⟩) hS (fun r1 Mw1 H locs hp_r1 hP hI hS => ?_)
  obtain ⟨hb9, hm9⟩ := hp_r1
  subst Mw1
  rcases hb9 with ⟨hr9, hq_r1⟩ | ⟨hr9, hq_r1⟩
  · subst hr9
    have hi9 := hq_r1
    have e_p0 : p0 = nI (ix p0) := nI_cl hi9.1
    rw [e_p0] at hl
    have hf4 := hR.f4 hi9.2
    have h_ID : Mw (g.1 4 0) = some (.inl (G.2.1 5, 10, .inr (.inr (.inr (.inr (qf (nN st) (g.1 7))))))) := hR.1 4 0 (ro4 hf4)
    have h_I : Mw (g.1 7 (ix p0)) = some (.inr (8, [.ref (g.1 5 (tbN st (ix p0))), .int (itS st (ix p0) 1), .int (sof (itS st (ix p0) 2)), .int (itS st (ix p0) 3), .int (itS st (ix p0) 7), .int (itS st (ix p0) 6), .int (itS st (ix p0) 5), .int (itS st (ix p0) 12), .int (itS st (ix p0) 13), .int (itS st (ix p0) 14), .int (itS st (ix p0) 15), .int (itS st (ix p0) 8), .int (itS st (ix p0) 9), .int (itS st (ix p0) 10), .int (ceR g (ix p0)), .ref (g.1 8 (ix p0)), .ref (g.1 9 (ix p0))])) := hR.1 7 _ (ro7 hi9.2)
    refine lv_iconst (v := 1) hx hb dX7_isBroken_6 (by decide) ?_
    refine m_calli (va_runV (As := [.int 0, .int 1]) (rest := []) ⟨hx, hb, hml, hown, hts⟩ (c_X7_isThrown0 l G A Mw  1 h_X) (cwV 2 hts gX7_isBroken_X7_isThrown rfl rfl rfl (by decide +kernel) ⟨Nat.le_of_ble_eq_true rfl, Nat.le_of_ble_eq_true rfl⟩) (mPreV hG hS hP hI hA (hP _ _ h_X) (r := (RX7, TX7, 7)) rfl) rfl rfl hl.1 rfl (lv_room (Nat.le_of_ble_eq_true rfl)) dX7_isBroken_7 ⟨Nat.le_of_ble_eq_true rfl, Nat.le_of_ble_eq_true rfl⟩) hS (fun r2 Mw1 H locs hp_r2 hP hI hS => ?_)
    obtain ⟨hp_r2, hm9⟩ := hp_r2
    subst Mw1
    subst hp_r2
    have h_TL := mu_k (e := .inr (10, [.ref (g.1 1 0), .ref (g.1 2 0), .int (gS st 2), .int (gS st 3), .int (gS st 1), .int (gS st 0), .int 0])) (kd_ne h_TL h_X rfl) h_TL
    have h_IL := mu_k (e := .inr (10, [.ref (g.1 1 0), .ref (g.1 2 0), .int (gS st 2), .int (gS st 3), .int (gS st 1), .int (gS st 0), .int 0])) (kd_ne h_IL h_X rfl) h_IL
    have h_ID := mu_k (e := .inr (10, [.ref (g.1 1 0), .ref (g.1 2 0), .int (gS st 2), .int (gS st 3), .int (gS st 1), .int (gS st 0), .int 0])) (kd_ne h_ID h_X rfl) h_ID
    have h_I := mu_k (e := .inr (10, [.ref (g.1 1 0), .ref (g.1 2 0), .int (gS st 2), .int (gS st 3), .int (gS st 1), .int (gS st 0), .int 0])) (kd_ne h_I h_X rfl) h_I
    have h_X : (mu Mw (g.1 0 0) (.inr (10, [.ref (g.1 1 0), .ref (g.1 2 0), .int (gS st 2), .int (gS st 3), .int (gS st 1), .int (gS st 0), .int 0]))) (g.1 0 0) = some (.inr (10, [.ref (g.1 1 0), .ref (g.1 2 0), .int (gS st 2), .int (gS st 3), .int (gS st 1), .int (gS st 0), .int 0])) := mu_s
    refine lv_if_ne (tgt := 34) hx hb dX7_isBroken_10 (by decide) (fun h9 => absurd h9 (by decide)) (fun _ => ?_)
    refine lv_aload_n hx hb dX7_isBroken_13 rfl (lv_at hl 0 rfl) ?_
    refine m_get (ci := 10) (v := .ref (g.1 2 0)) (C := RX7) (T := TX7) (N := 7) hx hb hts i_X7 hown hK (hP _ _ h_X) rfl 1 (by decide) (hts (.fieldLink RX7 16 "MeniscusModel" "instruments" "Ljava/util/ArrayList;") (by decide +kernel)) (fun _ h9 => h9) rfl dX7_isBroken_14 ?_
    refine lv_iload_n hx hb dX7_isBroken_17 rfl (lv_at hl 1 rfl) ?_
    refine m_callq (va_runV (As := [.int (nI (ix p0))]) (rest := []) ⟨hx, hb, hml, hown, hts⟩ (c_Jx4a65c_get_915e3 l G A (mu Mw (g.1 0 0) (.inr (10, [.ref (g.1 1 0), .ref (g.1 2 0), .int (gS st 2), .int (gS st 3), .int (gS st 1), .int (gS st 0), .int 0])))  h_IL h_ID (ix p0) (g.1 7 (ix p0)) hi9.2 hnN8 (qf_p hi9.2)) (cwV 1 hts gX7_isBroken_Jx4a65c_get_915e3 rfl rfl rfl (by decide +kernel) ⟨Nat.le_of_ble_eq_true rfl, Nat.le_of_ble_eq_true rfl⟩) (mPreV hG hS hP hI hA (hP _ _ h_IL) (r := (RJx4a65c, TJx4a65c, 3)) rfl) rfl rfl hl.1 rfl (lv_room (Nat.le_of_ble_eq_true rfl)) dX7_isBroken_18 ⟨Nat.le_of_ble_eq_true rfl, Nat.le_of_ble_eq_true rfl⟩) hS (fun r3 Mw1 H locs hp_r3 hP hI hS => ?_)
    obtain ⟨hp_r3, hm9⟩ := hp_r3
    subst Mw1
    subst hp_r3
    refine va_castE hx hb hown (hts (.classLink RX7 79 RX5) (by decide +kernel)) (va_recv hK (va_at.one (hP _ _ h_I)) (q0 := 0) (q := (RX5, TX5, 17)) rfl rfl) dX7_isBroken_21 ?_
    refine m_getN (ci := 8) (v := .int (itS st (ix p0) 8)) (C := RX5) (T := TX5) (N := 17) hx hb hts i_X5 hown hK (hP _ _ h_I) rfl 11 (by decide) (va_Nw.use rfl (hG.2.1.2.1 ("MeniscusModel", 167, "MeniscusModel$Instrument", "gap", "I", "MeniscusModel") (by decide +kernel))) (fun _ h9 => h9) rfl dX7_isBroken_24 ?_
    refine lv_if_le (tgt := 34) hx hb dX7_isBroken_27 (by decide) (fun c4 => ?_) (fun c4 => ?_)
    · skip
      refine lv_iconst (v := 0) hx hb dX7_isBroken_34 (by decide) ?_
      refine W.widen (k := 0) (n := 0) (Nat.le_of_ble_eq_true rfl) (Nat.le_of_ble_eq_true rfl) ?_
      exact W.zret (v := 0) hx hb hr rfl (fun t99 ht99 hW99 => ⟨⟨0, (mu Mw (g.1 0 0) (.inr (10, [.ref (g.1 1 0), .ref (g.1 2 0), .int (gS st 2), .int (gS st 3), .int (gS st 1), .int (gS st 0), .int 0]))), rfl, RP.ok (by unfold m_isBroken; first | (rw [chk_p hi9, if_pos c4]; done) | (rw [chk_p hi9, if_pos c4]; rfl)) (hR.th 0 h_X (fun x9 e9 hx9 h0 => ((mu_n h0).trans (rfl)).trans hx9)) rfl rfl, by rw [ht99]; exact hP, hI⟩, hS.F ht99⟩) hS.2.2 dX7_isBroken_35
    · skip
      refine lv_iconst (v := 1) hx hb dX7_isBroken_30 (by decide) ?_
      refine lv_goto (tgt := 35) hx hb dX7_isBroken_31 (by decide) ?_
      refine W.widen (k := 0) (n := 0) (Nat.le_of_ble_eq_true rfl) (Nat.le_of_ble_eq_true rfl) ?_
      exact W.zret (v := 1) hx hb hr rfl (fun t99 ht99 hW99 => ⟨⟨1, (mu Mw (g.1 0 0) (.inr (10, [.ref (g.1 1 0), .ref (g.1 2 0), .int (gS st 2), .int (gS st 3), .int (gS st 1), .int (gS st 0), .int 0]))), rfl, RP.ok (by unfold m_isBroken; first | (rw [chk_p hi9, if_neg c4]; done) | (rw [chk_p hi9, if_neg c4]; rfl)) (hR.th 0 h_X (fun x9 e9 hx9 h0 => ((mu_n h0).trans (rfl)).trans hx9)) rfl rfl, by rw [ht99]; exact hP, hI⟩, hS.F ht99⟩) hS.2.2 dX7_isBroken_35
  · subst hr9
    refine lv_iconst (v := 1) hx hb dX7_isBroken_6 (by decide) ?_
    refine m_calli (va_runV (As := [.int 1, .int 1]) (rest := []) ⟨hx, hb, hml, hown, hts⟩ (c_X7_isThrown1 l G A Mw  1 h_X) (cwV 2 hts gX7_isBroken_X7_isThrown rfl rfl rfl (by decide +kernel) ⟨Nat.le_of_ble_eq_true rfl, Nat.le_of_ble_eq_true rfl⟩) (mPreV hG hS hP hI hA (hP _ _ h_X) (r := (RX7, TX7, 7)) rfl) rfl rfl hl.1 rfl (lv_room (Nat.le_of_ble_eq_true rfl)) dX7_isBroken_7 ⟨Nat.le_of_ble_eq_true rfl, Nat.le_of_ble_eq_true rfl⟩) hS (fun r5 Mw1 H locs hp_r5 hP hI hS => ?_)
    obtain ⟨hp_r5, hm9⟩ := hp_r5
    subst Mw1
    subst hp_r5
    have h_TL := mu_k (e := .inr (10, [.ref (g.1 1 0), .ref (g.1 2 0), .int (gS st 2), .int (gS st 3), .int (gS st 1), .int (gS st 0), .int 1])) (kd_ne h_TL h_X rfl) h_TL
    have h_IL := mu_k (e := .inr (10, [.ref (g.1 1 0), .ref (g.1 2 0), .int (gS st 2), .int (gS st 3), .int (gS st 1), .int (gS st 0), .int 1])) (kd_ne h_IL h_X rfl) h_IL
    have h_X : (mu Mw (g.1 0 0) (.inr (10, [.ref (g.1 1 0), .ref (g.1 2 0), .int (gS st 2), .int (gS st 3), .int (gS st 1), .int (gS st 0), .int 1]))) (g.1 0 0) = some (.inr (10, [.ref (g.1 1 0), .ref (g.1 2 0), .int (gS st 2), .int (gS st 3), .int (gS st 1), .int (gS st 0), .int 1])) := mu_s
    refine lv_if_ne (tgt := 34) hx hb dX7_isBroken_10 (by decide) (fun _ => ?_) (fun h9 => absurd h9 (by decide))
    refine lv_iconst (v := 0) hx hb dX7_isBroken_34 (by decide) ?_
    refine W.widen (k := 0) (n := 0) (Nat.le_of_ble_eq_true rfl) (Nat.le_of_ble_eq_true rfl) ?_
    exact W.zret (v := 0) hx hb hr rfl (fun t99 ht99 hW99 => ⟨⟨0, (mu Mw (g.1 0 0) (.inr (10, [.ref (g.1 1 0), .ref (g.1 2 0), .int (gS st 2), .int (gS st 3), .int (gS st 1), .int (gS st 0), .int 1]))), rfl, RP.no (k := 1) (by unfold m_isBroken; first | (rw [chk_n hq_r1]; done) | (rw [chk_n hq_r1]; rfl)) (by decide) (hR.th 1 h_X (fun x9 e9 hx9 h0 => ((mu_n h0).trans (rfl)).trans hx9)) rfl rfl, by rw [ht99]; exact hP, hI⟩, hS.F ht99⟩) hS.2.2 dX7_isBroken_35

set_option maxHeartbeats 4000000 in
set_option maxRecDepth 100000 in
theorem c_X7_breakThread (l : Launch) (G : mg) (A : Nat → Prop) (Mw : mw) (st : St) (g : gR) (p0 p1 : Int32) (hR : RS G st g Mw) (hV : Inv st) : Met l yX7_breakThread wsX7_breakThread ({ frames := 4, cells := 0, slots := 0, locals := 85 }) (va_Pc [.ref (g.1 0 0), .int p0, .int p1] (mB G A Mw)) (va_Qi (fun r Mw1 => RP G (m_breakThread st p0 p1) g r Mw1) (mE G A) A) 0 0 A := by
  refine Met.ofW (cc := cX7_breakThread) (maxL := 4) (ret := (some .int)) (by decide) rfl ?_
  intro p e s m args below meth c s₁ B hml hv
  obtain ⟨rfl, hG, hP, hI, hA⟩ := hv
  have hx := B.exec
  have hb := B.bytes
  have hr := B.returns
  have hts := atoms_spec (ws := wsX7_breakThread) B.pre
  have hown : s.vm.findClass RX7 = some m.cls := findClass_of_methodNamed B.named
  have hlocks := B.notSynchronized
  have hK := hG.K
  have i_X5 : ∀ w ∈ wsX50, w ∈ wsX7_breakThread := by decide +kernel
  have i_X7 : ∀ w ∈ wsX70, w ∈ wsX7_breakThread := by decide +kernel
  have hS : va_S A s.heap s.heap [] := va_S.rf
  have hl := lv_entry ([.ref (g.1 0 0), .int p0, .int p1]) (n := 4) (Nat.le_of_ble_eq_true rfl)
  rw [lg_entry_eq]
  generalize (lg_sl ([.ref (g.1 0 0), .int p0, .int p1]) ++ List.replicate (4 - (lg_sl ([.ref (g.1 0 0), .int p0, .int p1])).length) Slot.unset).toArray = ls at hl ⊢
  have hl : lv_has ls 4 [(0, .ref (g.1 0 0)), (1, .int p0), (2, .int p1)] := hl
  have hP : mP G.1 Mw s.heap := hP
  have h_X : Mw (g.1 0 0) = some (.inr (10, [.ref (g.1 1 0), .ref (g.1 2 0), .int (gS st 2), .int (gS st 3), .int (gS st 1), .int (gS st 0), .int (thR g)])) := hR.1 0 0 ro0
  have h_TL : Mw (g.1 1 0) = some (.inr (2, [.int (mcR g 1 0), .ref (g.1 3 0), .int ((nI (nT st)))])) := hR.1 1 0 ro1
  have h_IL : Mw (g.1 2 0) = some (.inr (2, [.int (mcR g 2 0), .ref (g.1 4 0), .int ((nI (nN st)))])) := hR.1 2 0 ro2
  have hti9 := hR.ne ro1 ro2 (by omega)
  have hnT8 := hV.1.1
  have hnN8 := Nat.le_trans hV.1.2 (show 6 ≤ 8 by decide)
  refine lv_aload_n hx hb dX7_breakThread_0 rfl (lv_at hl 0 rfl) ?_
  refine lv_aload_n hx hb dX7_breakThread_1 rfl (lv_at hl 0 rfl) ?_
  refine lv_iload_n hx hb dX7_breakThread_2 rfl (lv_at hl 1 rfl) ?_
  refine m_calli (va_runV (As := [.int p0]) (rest := [.ref (g.1 0 0)]) ⟨hx, hb, hml, hown, hts⟩ (c_X7_isNone l G A Mw  p0 h_X h_IL hnN8) (cwV 1 hts gX7_breakThread_X7_isNone rfl rfl rfl (by decide +kernel) ⟨Nat.le_of_ble_eq_true rfl, Nat.le_of_ble_eq_true rfl⟩) (mPreV hG hS hP hI hA (hP _ _ h_X) (r := (RX7, TX7, 7)) rfl) rfl rfl hl.1 rfl (lv_room (Nat.le_of_ble_eq_true rfl)) dX7_breakThread_3 ⟨Nat.le_of_ble_eq_true rfl, Nat.le_of_ble_eq_true rfl⟩) hS (fun r1 Mw1 H locs hp_r1 hP hI hS => ?_)
  obtain ⟨hb9, hm9⟩ := hp_r1
  subst Mw1
  rcases hb9 with ⟨hr9, hq_r1⟩ | ⟨hr9, hq_r1⟩
  · subst hr9
    have hi9 := hq_r1
    have e_p0 : p0 = nI (ix p0) := nI_cl hi9.1
    rw [e_p0] at hl
    have hf4 := hR.f4 hi9.2
    have h_ID : Mw (g.1 4 0) = some (.inl (G.2.1 5, 10, .inr (.inr (.inr (.inr (qf (nN st) (g.1 7))))))) := hR.1 4 0 (ro4 hf4)
    have h_I : Mw (g.1 7 (ix p0)) = some (.inr (8, [.ref (g.1 5 (tbN st (ix p0))), .int (itS st (ix p0) 1), .int (sof (itS st (ix p0) 2)), .int (itS st (ix p0) 3), .int (itS st (ix p0) 7), .int (itS st (ix p0) 6), .int (itS st (ix p0) 5), .int (itS st (ix p0) 12), .int (itS st (ix p0) 13), .int (itS st (ix p0) 14), .int (itS st (ix p0) 15), .int (itS st (ix p0) 8), .int (itS st (ix p0) 9), .int (itS st (ix p0) 10), .int (ceR g (ix p0)), .ref (g.1 8 (ix p0)), .ref (g.1 9 (ix p0))])) := hR.1 7 _ (ro7 hi9.2)
    refine lv_iconst (v := 1) hx hb dX7_breakThread_6 (by decide) ?_
    refine m_calli (va_runV (As := [.int 0, .int 1]) (rest := []) ⟨hx, hb, hml, hown, hts⟩ (c_X7_isThrown0 l G A Mw  1 h_X) (cwV 2 hts gX7_breakThread_X7_isThrown rfl rfl rfl (by decide +kernel) ⟨Nat.le_of_ble_eq_true rfl, Nat.le_of_ble_eq_true rfl⟩) (mPreV hG hS hP hI hA (hP _ _ h_X) (r := (RX7, TX7, 7)) rfl) rfl rfl hl.1 rfl (lv_room (Nat.le_of_ble_eq_true rfl)) dX7_breakThread_7 ⟨Nat.le_of_ble_eq_true rfl, Nat.le_of_ble_eq_true rfl⟩) hS (fun r2 Mw1 H locs hp_r2 hP hI hS => ?_)
    obtain ⟨hp_r2, hm9⟩ := hp_r2
    subst Mw1
    subst hp_r2
    have h_TL := mu_k (e := .inr (10, [.ref (g.1 1 0), .ref (g.1 2 0), .int (gS st 2), .int (gS st 3), .int (gS st 1), .int (gS st 0), .int 0])) (kd_ne h_TL h_X rfl) h_TL
    have h_IL := mu_k (e := .inr (10, [.ref (g.1 1 0), .ref (g.1 2 0), .int (gS st 2), .int (gS st 3), .int (gS st 1), .int (gS st 0), .int 0])) (kd_ne h_IL h_X rfl) h_IL
    have h_ID := mu_k (e := .inr (10, [.ref (g.1 1 0), .ref (g.1 2 0), .int (gS st 2), .int (gS st 3), .int (gS st 1), .int (gS st 0), .int 0])) (kd_ne h_ID h_X rfl) h_ID
    have h_I := mu_k (e := .inr (10, [.ref (g.1 1 0), .ref (g.1 2 0), .int (gS st 2), .int (gS st 3), .int (gS st 1), .int (gS st 0), .int 0])) (kd_ne h_I h_X rfl) h_I
    have h_X : (mu Mw (g.1 0 0) (.inr (10, [.ref (g.1 1 0), .ref (g.1 2 0), .int (gS st 2), .int (gS st 3), .int (gS st 1), .int (gS st 0), .int 0]))) (g.1 0 0) = some (.inr (10, [.ref (g.1 1 0), .ref (g.1 2 0), .int (gS st 2), .int (gS st 3), .int (gS st 1), .int (gS st 0), .int 0])) := mu_s
    refine lv_if_ne (tgt := 49) hx hb dX7_breakThread_10 (by decide) (fun h9 => absurd h9 (by decide)) (fun _ => ?_)
    refine lv_aload_n hx hb dX7_breakThread_13 rfl (lv_at hl 0 rfl) ?_
    refine lv_iload_n hx hb dX7_breakThread_14 rfl (lv_at hl 2 rfl) ?_
    refine lv_iconst (v := 1) hx hb dX7_breakThread_15 (by decide) ?_
    refine lv_bipush (v := (20)) hx hb dX7_breakThread_16 (by decide) ?_
    refine m_calli (va_runS (As := [.int p1, .int 1, .int 20]) (rest := [.ref (g.1 0 0)]) ⟨hx, hb, hml, hown, hts⟩ (c_X7_isIn l G A (mu Mw (g.1 0 0) (.inr (10, [.ref (g.1 1 0), .ref (g.1 2 0), .int (gS st 2), .int (gS st 3), .int (gS st 1), .int (gS st 0), .int 0])))  p1 1 20) (va_cwS 3 hts gX7_breakThread_X7_isIn rfl rfl rfl (by decide +kernel) ⟨Nat.le_of_ble_eq_true rfl, Nat.le_of_ble_eq_true rfl⟩) (mPreS hG hS hP hI hA) rfl rfl hl.1 rfl (lv_room (Nat.le_of_ble_eq_true rfl)) dX7_breakThread_18 ⟨Nat.le_of_ble_eq_true rfl, Nat.le_of_ble_eq_true rfl⟩) hS (fun r3 Mw1 H locs hp_r3 hP hI hS => ?_)
    obtain ⟨hb9, hm9⟩ := hp_r3
    subst Mw1
    rcases hb9 with ⟨hr9, hq_r3⟩ | ⟨hr9, hq_r3⟩
    · subst hr9
      refine lv_if_ne (tgt := 28) hx hb dX7_breakThread_21 (by decide) (fun h9 => absurd h9 (by decide)) (fun _ => ?_)
      refine lv_iconst (v := 1) hx hb dX7_breakThread_24 (by decide) ?_
      refine lv_goto (tgt := 29) hx hb dX7_breakThread_25 (by decide) ?_
      refine lv_iconst (v := 2) hx hb dX7_breakThread_29 (by decide) ?_
      refine m_calli (va_runV (As := [.int 1, .int 2]) (rest := []) ⟨hx, hb, hml, hown, hts⟩ (c_X7_isThrown1 l G A (mu Mw (g.1 0 0) (.inr (10, [.ref (g.1 1 0), .ref (g.1 2 0), .int (gS st 2), .int (gS st 3), .int (gS st 1), .int (gS st 0), .int 0])))  2 h_X) (cwV 2 hts gX7_breakThread_X7_isThrown rfl rfl rfl (by decide +kernel) ⟨Nat.le_of_ble_eq_true rfl, Nat.le_of_ble_eq_true rfl⟩) (mPreV hG hS hP hI hA (hP _ _ h_X) (r := (RX7, TX7, 7)) rfl) rfl rfl hl.1 rfl (lv_room (Nat.le_of_ble_eq_true rfl)) dX7_breakThread_30 ⟨Nat.le_of_ble_eq_true rfl, Nat.le_of_ble_eq_true rfl⟩) hS (fun r4 Mw1 H locs hp_r4 hP hI hS => ?_)
      obtain ⟨hp_r4, hm9⟩ := hp_r4
      subst Mw1
      subst hp_r4
      have h_TL := mu_k (e := .inr (10, [.ref (g.1 1 0), .ref (g.1 2 0), .int (gS st 2), .int (gS st 3), .int (gS st 1), .int (gS st 0), .int 2])) (kd_ne h_TL h_X rfl) h_TL
      have h_IL := mu_k (e := .inr (10, [.ref (g.1 1 0), .ref (g.1 2 0), .int (gS st 2), .int (gS st 3), .int (gS st 1), .int (gS st 0), .int 2])) (kd_ne h_IL h_X rfl) h_IL
      have h_ID := mu_k (e := .inr (10, [.ref (g.1 1 0), .ref (g.1 2 0), .int (gS st 2), .int (gS st 3), .int (gS st 1), .int (gS st 0), .int 2])) (kd_ne h_ID h_X rfl) h_ID
      have h_I := mu_k (e := .inr (10, [.ref (g.1 1 0), .ref (g.1 2 0), .int (gS st 2), .int (gS st 3), .int (gS st 1), .int (gS st 0), .int 2])) (kd_ne h_I h_X rfl) h_I
      have h_X : (mu (mu Mw (g.1 0 0) (.inr (10, [.ref (g.1 1 0), .ref (g.1 2 0), .int (gS st 2), .int (gS st 3), .int (gS st 1), .int (gS st 0), .int 0]))) (g.1 0 0) (.inr (10, [.ref (g.1 1 0), .ref (g.1 2 0), .int (gS st 2), .int (gS st 3), .int (gS st 1), .int (gS st 0), .int 2]))) (g.1 0 0) = some (.inr (10, [.ref (g.1 1 0), .ref (g.1 2 0), .int (gS st 2), .int (gS st 3), .int (gS st 1), .int (gS st 0), .int 2])) := mu_s
      refine lv_if_ne (tgt := 49) hx hb dX7_breakThread_33 (by decide) (fun _ => ?_) (fun h9 => absurd h9 (by decide))
      refine lv_iconst (v := 0) hx hb dX7_breakThread_49 (by decide) ?_
      refine W.widen (k := 0) (n := 0) (Nat.le_of_ble_eq_true rfl) (Nat.le_of_ble_eq_true rfl) ?_
      exact W.iret (v := 0) hx hb hr (fun t99 ht99 hW99 => ⟨⟨0, (mu (mu Mw (g.1 0 0) (.inr (10, [.ref (g.1 1 0), .ref (g.1 2 0), .int (gS st 2), .int (gS st 3), .int (gS st 1), .int (gS st 0), .int 0]))) (g.1 0 0) (.inr (10, [.ref (g.1 1 0), .ref (g.1 2 0), .int (gS st 2), .int (gS st 3), .int (gS st 1), .int (gS st 0), .int 2]))), rfl, RP.no (k := 2) (by unfold m_breakThread; first | (rw [chk_p hi9, chk_n hq_r3]; done) | (rw [chk_p hi9, chk_n hq_r3]; rfl)) (by decide) (hR.th 2 h_X (fun x9 e9 hx9 h0 => ((mu_n h0).trans ((mu_n h0).trans (rfl))).trans hx9)) rfl rfl, by rw [ht99]; exact hP, hI⟩, hS.F ht99⟩) hS.2.2 dX7_breakThread_50
    · subst hr9
      refine lv_if_ne (tgt := 28) hx hb dX7_breakThread_21 (by decide) (fun _ => ?_) (fun h9 => absurd h9 (by decide))
      refine lv_iconst (v := 0) hx hb dX7_breakThread_28 (by decide) ?_
      refine lv_iconst (v := 2) hx hb dX7_breakThread_29 (by decide) ?_
      refine m_calli (va_runV (As := [.int 0, .int 2]) (rest := []) ⟨hx, hb, hml, hown, hts⟩ (c_X7_isThrown0 l G A (mu Mw (g.1 0 0) (.inr (10, [.ref (g.1 1 0), .ref (g.1 2 0), .int (gS st 2), .int (gS st 3), .int (gS st 1), .int (gS st 0), .int 0])))  2 h_X) (cwV 2 hts gX7_breakThread_X7_isThrown rfl rfl rfl (by decide +kernel) ⟨Nat.le_of_ble_eq_true rfl, Nat.le_of_ble_eq_true rfl⟩) (mPreV hG hS hP hI hA (hP _ _ h_X) (r := (RX7, TX7, 7)) rfl) rfl rfl hl.1 rfl (lv_room (Nat.le_of_ble_eq_true rfl)) dX7_breakThread_30 ⟨Nat.le_of_ble_eq_true rfl, Nat.le_of_ble_eq_true rfl⟩) hS (fun r5 Mw1 H locs hp_r5 hP hI hS => ?_)
      obtain ⟨hp_r5, hm9⟩ := hp_r5
      subst Mw1
      subst hp_r5
      have h_TL := mu_k (e := .inr (10, [.ref (g.1 1 0), .ref (g.1 2 0), .int (gS st 2), .int (gS st 3), .int (gS st 1), .int (gS st 0), .int 0])) (kd_ne h_TL h_X rfl) h_TL
      have h_IL := mu_k (e := .inr (10, [.ref (g.1 1 0), .ref (g.1 2 0), .int (gS st 2), .int (gS st 3), .int (gS st 1), .int (gS st 0), .int 0])) (kd_ne h_IL h_X rfl) h_IL
      have h_ID := mu_k (e := .inr (10, [.ref (g.1 1 0), .ref (g.1 2 0), .int (gS st 2), .int (gS st 3), .int (gS st 1), .int (gS st 0), .int 0])) (kd_ne h_ID h_X rfl) h_ID
      have h_I := mu_k (e := .inr (10, [.ref (g.1 1 0), .ref (g.1 2 0), .int (gS st 2), .int (gS st 3), .int (gS st 1), .int (gS st 0), .int 0])) (kd_ne h_I h_X rfl) h_I
      have h_X : (mu (mu Mw (g.1 0 0) (.inr (10, [.ref (g.1 1 0), .ref (g.1 2 0), .int (gS st 2), .int (gS st 3), .int (gS st 1), .int (gS st 0), .int 0]))) (g.1 0 0) (.inr (10, [.ref (g.1 1 0), .ref (g.1 2 0), .int (gS st 2), .int (gS st 3), .int (gS st 1), .int (gS st 0), .int 0]))) (g.1 0 0) = some (.inr (10, [.ref (g.1 1 0), .ref (g.1 2 0), .int (gS st 2), .int (gS st 3), .int (gS st 1), .int (gS st 0), .int 0])) := mu_s
      refine lv_if_ne (tgt := 49) hx hb dX7_breakThread_33 (by decide) (fun h9 => absurd h9 (by decide)) (fun _ => ?_)
      refine lv_aload_n hx hb dX7_breakThread_36 rfl (lv_at hl 0 rfl) ?_
      refine lv_aload_n hx hb dX7_breakThread_37 rfl (lv_at hl 0 rfl) ?_
      refine lv_iload_n hx hb dX7_breakThread_38 rfl (lv_at hl 1 rfl) ?_
      refine m_calli (va_runV (As := [.int (nI (ix p0))]) (rest := [.ref (g.1 0 0)]) ⟨hx, hb, hml, hown, hts⟩ (c_X7_isEmpty l G A (mu (mu Mw (g.1 0 0) (.inr (10, [.ref (g.1 1 0), .ref (g.1 2 0), .int (gS st 2), .int (gS st 3), .int (gS st 1), .int (gS st 0), .int 0]))) (g.1 0 0) (.inr (10, [.ref (g.1 1 0), .ref (g.1 2 0), .int (gS st 2), .int (gS st 3), .int (gS st 1), .int (gS st 0), .int 0])))  h_X h_IL hnN8 h_ID h_I (ix p0) hi9.2 (qf_p hi9.2)) (cwV 1 hts gX7_breakThread_X7_isEmpty rfl rfl rfl (by decide +kernel) ⟨Nat.le_of_ble_eq_true rfl, Nat.le_of_ble_eq_true rfl⟩) (mPreV hG hS hP hI hA (hP _ _ h_X) (r := (RX7, TX7, 7)) rfl) rfl rfl hl.1 rfl (lv_room (Nat.le_of_ble_eq_true rfl)) dX7_breakThread_39 ⟨Nat.le_of_ble_eq_true rfl, Nat.le_of_ble_eq_true rfl⟩) hS (fun r6 Mw1 H locs hp_r6 hP hI hS => ?_)
      obtain ⟨hb9, hm9⟩ := hp_r6
      subst Mw1
      rcases hb9 with ⟨hr9, hq_r6⟩ | ⟨hr9, hq_r6⟩
      · subst hr9
        have hfi9 : ¬ itS st (ix p0) 4 = 0 := fun q9 => hq_r6 ((hV.fil hi9.2).mpr q9)
        refine lv_iconst (v := 3) hx hb dX7_breakThread_42 (by decide) ?_
        refine m_calli (va_runV (As := [.int 0, .int 3]) (rest := []) ⟨hx, hb, hml, hown, hts⟩ (c_X7_isThrown0 l G A (mu (mu Mw (g.1 0 0) (.inr (10, [.ref (g.1 1 0), .ref (g.1 2 0), .int (gS st 2), .int (gS st 3), .int (gS st 1), .int (gS st 0), .int 0]))) (g.1 0 0) (.inr (10, [.ref (g.1 1 0), .ref (g.1 2 0), .int (gS st 2), .int (gS st 3), .int (gS st 1), .int (gS st 0), .int 0])))  3 h_X) (cwV 2 hts gX7_breakThread_X7_isThrown rfl rfl rfl (by decide +kernel) ⟨Nat.le_of_ble_eq_true rfl, Nat.le_of_ble_eq_true rfl⟩) (mPreV hG hS hP hI hA (hP _ _ h_X) (r := (RX7, TX7, 7)) rfl) rfl rfl hl.1 rfl (lv_room (Nat.le_of_ble_eq_true rfl)) dX7_breakThread_43 ⟨Nat.le_of_ble_eq_true rfl, Nat.le_of_ble_eq_true rfl⟩) hS (fun r7 Mw1 H locs hp_r7 hP hI hS => ?_)
        obtain ⟨hp_r7, hm9⟩ := hp_r7
        subst Mw1
        subst hp_r7
        have h_TL := mu_k (e := .inr (10, [.ref (g.1 1 0), .ref (g.1 2 0), .int (gS st 2), .int (gS st 3), .int (gS st 1), .int (gS st 0), .int 0])) (kd_ne h_TL h_X rfl) h_TL
        have h_IL := mu_k (e := .inr (10, [.ref (g.1 1 0), .ref (g.1 2 0), .int (gS st 2), .int (gS st 3), .int (gS st 1), .int (gS st 0), .int 0])) (kd_ne h_IL h_X rfl) h_IL
        have h_ID := mu_k (e := .inr (10, [.ref (g.1 1 0), .ref (g.1 2 0), .int (gS st 2), .int (gS st 3), .int (gS st 1), .int (gS st 0), .int 0])) (kd_ne h_ID h_X rfl) h_ID
        have h_I := mu_k (e := .inr (10, [.ref (g.1 1 0), .ref (g.1 2 0), .int (gS st 2), .int (gS st 3), .int (gS st 1), .int (gS st 0), .int 0])) (kd_ne h_I h_X rfl) h_I
        have h_X : (mu (mu (mu Mw (g.1 0 0) (.inr (10, [.ref (g.1 1 0), .ref (g.1 2 0), .int (gS st 2), .int (gS st 3), .int (gS st 1), .int (gS st 0), .int 0]))) (g.1 0 0) (.inr (10, [.ref (g.1 1 0), .ref (g.1 2 0), .int (gS st 2), .int (gS st 3), .int (gS st 1), .int (gS st 0), .int 0]))) (g.1 0 0) (.inr (10, [.ref (g.1 1 0), .ref (g.1 2 0), .int (gS st 2), .int (gS st 3), .int (gS st 1), .int (gS st 0), .int 0]))) (g.1 0 0) = some (.inr (10, [.ref (g.1 1 0), .ref (g.1 2 0), .int (gS st 2), .int (gS st 3), .int (gS st 1), .int (gS st 0), .int 0])) := mu_s
        refine lv_if_eq (tgt := 51) hx hb dX7_breakThread_46 (by decide) (fun _ => ?_) (fun h9 => absurd h9 (by decide))
        refine lv_aload_n hx hb dX7_breakThread_51 rfl (lv_at hl 0 rfl) ?_
        refine m_get (ci := 10) (v := .ref (g.1 2 0)) (C := RX7) (T := TX7) (N := 7) hx hb hts i_X7 hown hK (hP _ _ h_X) rfl 1 (by decide) (hts (.fieldLink RX7 16 "MeniscusModel" "instruments" "Ljava/util/ArrayList;") (by decide +kernel)) (fun _ h9 => h9) rfl dX7_breakThread_52 ?_
        refine lv_iload_n hx hb dX7_breakThread_55 rfl (lv_at hl 1 rfl) ?_
        refine m_callq (va_runV (As := [.int (nI (ix p0))]) (rest := []) ⟨hx, hb, hml, hown, hts⟩ (c_Jx4a65c_get_915e3 l G A (mu (mu (mu Mw (g.1 0 0) (.inr (10, [.ref (g.1 1 0), .ref (g.1 2 0), .int (gS st 2), .int (gS st 3), .int (gS st 1), .int (gS st 0), .int 0]))) (g.1 0 0) (.inr (10, [.ref (g.1 1 0), .ref (g.1 2 0), .int (gS st 2), .int (gS st 3), .int (gS st 1), .int (gS st 0), .int 0]))) (g.1 0 0) (.inr (10, [.ref (g.1 1 0), .ref (g.1 2 0), .int (gS st 2), .int (gS st 3), .int (gS st 1), .int (gS st 0), .int 0])))  h_IL h_ID (ix p0) (g.1 7 (ix p0)) hi9.2 hnN8 (qf_p hi9.2)) (cwV 1 hts gX7_breakThread_Jx4a65c_get_915e3 rfl rfl rfl (by decide +kernel) ⟨Nat.le_of_ble_eq_true rfl, Nat.le_of_ble_eq_true rfl⟩) (mPreV hG hS hP hI hA (hP _ _ h_IL) (r := (RJx4a65c, TJx4a65c, 3)) rfl) rfl rfl hl.1 rfl (lv_room (Nat.le_of_ble_eq_true rfl)) dX7_breakThread_56 ⟨Nat.le_of_ble_eq_true rfl, Nat.le_of_ble_eq_true rfl⟩) hS (fun r8 Mw1 H locs hp_r8 hP hI hS => ?_)
        obtain ⟨hp_r8, hm9⟩ := hp_r8
        subst Mw1
        subst hp_r8
        refine va_castE hx hb hown (hts (.classLink RX7 79 RX5) (by decide +kernel)) (va_recv hK (va_at.one (hP _ _ h_I)) (q0 := 0) (q := (RX5, TX5, 17)) rfl rfl) dX7_breakThread_59 ?_
        refine m_getN (ci := 8) (v := .int (itS st (ix p0) 8)) (C := RX5) (T := TX5) (N := 17) hx hb hts i_X5 hown hK (hP _ _ h_I) rfl 11 (by decide) (va_Nw.use rfl (hG.2.1.2.1 ("MeniscusModel", 167, "MeniscusModel$Instrument", "gap", "I", "MeniscusModel") (by decide +kernel))) (fun _ h9 => h9) rfl dX7_breakThread_62 ?_
        refine lv_istore_n (lv' := [(3, .int (itS st (ix p0) 8)), (0, .ref (g.1 0 0)), (1, .int (nI (ix p0))), (2, .int p1)]) hx hb dX7_breakThread_65 rfl hl (by decide) rfl (fun ls hl => ?_)
        refine lv_aload_n hx hb dX7_breakThread_66 rfl (lv_at hl 1 rfl) ?_
        refine m_get (ci := 10) (v := .ref (g.1 2 0)) (C := RX7) (T := TX7) (N := 7) hx hb hts i_X7 hown hK (hP _ _ h_X) rfl 1 (by decide) (hts (.fieldLink RX7 16 "MeniscusModel" "instruments" "Ljava/util/ArrayList;") (by decide +kernel)) (fun _ h9 => h9) rfl dX7_breakThread_67 ?_
        refine lv_iload_n hx hb dX7_breakThread_70 rfl (lv_at hl 2 rfl) ?_
        refine m_callq (va_runV (As := [.int (nI (ix p0))]) (rest := []) ⟨hx, hb, hml, hown, hts⟩ (c_Jx4a65c_get_915e3 l G A (mu (mu (mu Mw (g.1 0 0) (.inr (10, [.ref (g.1 1 0), .ref (g.1 2 0), .int (gS st 2), .int (gS st 3), .int (gS st 1), .int (gS st 0), .int 0]))) (g.1 0 0) (.inr (10, [.ref (g.1 1 0), .ref (g.1 2 0), .int (gS st 2), .int (gS st 3), .int (gS st 1), .int (gS st 0), .int 0]))) (g.1 0 0) (.inr (10, [.ref (g.1 1 0), .ref (g.1 2 0), .int (gS st 2), .int (gS st 3), .int (gS st 1), .int (gS st 0), .int 0])))  h_IL h_ID (ix p0) (g.1 7 (ix p0)) hi9.2 hnN8 (qf_p hi9.2)) (cwV 1 hts gX7_breakThread_Jx4a65c_get_915e3 rfl rfl rfl (by decide +kernel) ⟨Nat.le_of_ble_eq_true rfl, Nat.le_of_ble_eq_true rfl⟩) (mPreV hG hS hP hI hA (hP _ _ h_IL) (r := (RJx4a65c, TJx4a65c, 3)) rfl) rfl rfl hl.1 rfl (lv_room (Nat.le_of_ble_eq_true rfl)) dX7_breakThread_71 ⟨Nat.le_of_ble_eq_true rfl, Nat.le_of_ble_eq_true rfl⟩) hS (fun r9 Mw1 H locs hp_r9 hP hI hS => ?_)
        obtain ⟨hp_r9, hm9⟩ := hp_r9
        subst Mw1
        subst hp_r9
        refine va_castE hx hb hown (hts (.classLink RX7 79 RX5) (by decide +kernel)) (va_recv hK (va_at.one (hP _ _ h_I)) (q0 := 0) (q := (RX5, TX5, 17)) rfl rfl) dX7_breakThread_74 ?_
        refine lv_iload_n hx hb dX7_breakThread_77 rfl (lv_at hl 3 rfl) ?_
        refine m_putN (ci := 8) (v := .int p1) (ty := .int) (C := RX5) (T := TX5) (N := 17) hx hb hts i_X5 tyX5 tyX5_ok nmX5 hown hK hP hI hS h_I rfl 11 (by decide) (va_Nw.use rfl (hG.2.1.2.1 ("MeniscusModel", 167, "MeniscusModel$Instrument", "gap", "I", "MeniscusModel") (by decide +kernel))) (fun _ h9 => h9) rfl (by decide +kernel) rfl rfl (Nat.le_of_ble_eq_true rfl) dX7_breakThread_78 (fun H locs hP hI hS => ?_)
        have hP : mP G.1 (mu (mu (mu (mu Mw (g.1 0 0) (.inr (10, [.ref (g.1 1 0), .ref (g.1 2 0), .int (gS st 2), .int (gS st 3), .int (gS st 1), .int (gS st 0), .int 0]))) (g.1 0 0) (.inr (10, [.ref (g.1 1 0), .ref (g.1 2 0), .int (gS st 2), .int (gS st 3), .int (gS st 1), .int (gS st 0), .int 0]))) (g.1 0 0) (.inr (10, [.ref (g.1 1 0), .ref (g.1 2 0), .int (gS st 2), .int (gS st 3), .int (gS st 1), .int (gS st 0), .int 0]))) (g.1 7 (ix p0)) (.inr (8, [.ref (g.1 5 (tbN st (ix p0))), .int (itS st (ix p0) 1), .int (sof (itS st (ix p0) 2)), .int (itS st (ix p0) 3), .int (itS st (ix p0) 7), .int (itS st (ix p0) 6), .int (itS st (ix p0) 5), .int (itS st (ix p0) 12), .int (itS st (ix p0) 13), .int (itS st (ix p0) 14), .int (itS st (ix p0) 15), .int p1, .int (itS st (ix p0) 9), .int (itS st (ix p0) 10), .int (ceR g (ix p0)), .ref (g.1 8 (ix p0)), .ref (g.1 9 (ix p0))]))) H := hP
        have hI : mI A (mu (mu (mu (mu Mw (g.1 0 0) (.inr (10, [.ref (g.1 1 0), .ref (g.1 2 0), .int (gS st 2), .int (gS st 3), .int (gS st 1), .int (gS st 0), .int 0]))) (g.1 0 0) (.inr (10, [.ref (g.1 1 0), .ref (g.1 2 0), .int (gS st 2), .int (gS st 3), .int (gS st 1), .int (gS st 0), .int 0]))) (g.1 0 0) (.inr (10, [.ref (g.1 1 0), .ref (g.1 2 0), .int (gS st 2), .int (gS st 3), .int (gS st 1), .int (gS st 0), .int 0]))) (g.1 7 (ix p0)) (.inr (8, [.ref (g.1 5 (tbN st (ix p0))), .int (itS st (ix p0) 1), .int (sof (itS st (ix p0) 2)), .int (itS st (ix p0) 3), .int (itS st (ix p0) 7), .int (itS st (ix p0) 6), .int (itS st (ix p0) 5), .int (itS st (ix p0) 12), .int (itS st (ix p0) 13), .int (itS st (ix p0) 14), .int (itS st (ix p0) 15), .int p1, .int (itS st (ix p0) 9), .int (itS st (ix p0) 10), .int (ceR g (ix p0)), .ref (g.1 8 (ix p0)), .ref (g.1 9 (ix p0))]))) := hI
        have h_X := mu_k (e := .inr (8, [.ref (g.1 5 (tbN st (ix p0))), .int (itS st (ix p0) 1), .int (sof (itS st (ix p0) 2)), .int (itS st (ix p0) 3), .int (itS st (ix p0) 7), .int (itS st (ix p0) 6), .int (itS st (ix p0) 5), .int (itS st (ix p0) 12), .int (itS st (ix p0) 13), .int (itS st (ix p0) 14), .int (itS st (ix p0) 15), .int p1, .int (itS st (ix p0) 9), .int (itS st (ix p0) 10), .int (ceR g (ix p0)), .ref (g.1 8 (ix p0)), .ref (g.1 9 (ix p0))])) (kd_ne h_X h_I rfl) h_X
        have h_TL := mu_k (e := .inr (8, [.ref (g.1 5 (tbN st (ix p0))), .int (itS st (ix p0) 1), .int (sof (itS st (ix p0) 2)), .int (itS st (ix p0) 3), .int (itS st (ix p0) 7), .int (itS st (ix p0) 6), .int (itS st (ix p0) 5), .int (itS st (ix p0) 12), .int (itS st (ix p0) 13), .int (itS st (ix p0) 14), .int (itS st (ix p0) 15), .int p1, .int (itS st (ix p0) 9), .int (itS st (ix p0) 10), .int (ceR g (ix p0)), .ref (g.1 8 (ix p0)), .ref (g.1 9 (ix p0))])) (kd_ne h_TL h_I rfl) h_TL
        have h_IL := mu_k (e := .inr (8, [.ref (g.1 5 (tbN st (ix p0))), .int (itS st (ix p0) 1), .int (sof (itS st (ix p0) 2)), .int (itS st (ix p0) 3), .int (itS st (ix p0) 7), .int (itS st (ix p0) 6), .int (itS st (ix p0) 5), .int (itS st (ix p0) 12), .int (itS st (ix p0) 13), .int (itS st (ix p0) 14), .int (itS st (ix p0) 15), .int p1, .int (itS st (ix p0) 9), .int (itS st (ix p0) 10), .int (ceR g (ix p0)), .ref (g.1 8 (ix p0)), .ref (g.1 9 (ix p0))])) (kd_ne h_IL h_I rfl) h_IL
        have h_ID := mu_k (e := .inr (8, [.ref (g.1 5 (tbN st (ix p0))), .int (itS st (ix p0) 1), .int (sof (itS st (ix p0) 2)), .int (itS st (ix p0) 3), .int (itS st (ix p0) 7), .int (itS st (ix p0) 6), .int (itS st (ix p0) 5), .int (itS st (ix p0) 12), .int (itS st (ix p0) 13), .int (itS st (ix p0) 14), .int (itS st (ix p0) 15), .int p1, .int (itS st (ix p0) 9), .int (itS st (ix p0) 10), .int (ceR g (ix p0)), .ref (g.1 8 (ix p0)), .ref (g.1 9 (ix p0))])) (kd_ne h_ID h_I rfl) h_ID
        have h_I : (mu (mu (mu (mu Mw (g.1 0 0) (.inr (10, [.ref (g.1 1 0), .ref (g.1 2 0), .int (gS st 2), .int (gS st 3), .int (gS st 1), .int (gS st 0), .int 0]))) (g.1 0 0) (.inr (10, [.ref (g.1 1 0), .ref (g.1 2 0), .int (gS st 2), .int (gS st 3), .int (gS st 1), .int (gS st 0), .int 0]))) (g.1 0 0) (.inr (10, [.ref (g.1 1 0), .ref (g.1 2 0), .int (gS st 2), .int (gS st 3), .int (gS st 1), .int (gS st 0), .int 0]))) (g.1 7 (ix p0)) (.inr (8, [.ref (g.1 5 (tbN st (ix p0))), .int (itS st (ix p0) 1), .int (sof (itS st (ix p0) 2)), .int (itS st (ix p0) 3), .int (itS st (ix p0) 7), .int (itS st (ix p0) 6), .int (itS st (ix p0) 5), .int (itS st (ix p0) 12), .int (itS st (ix p0) 13), .int (itS st (ix p0) 14), .int (itS st (ix p0) 15), .int p1, .int (itS st (ix p0) 9), .int (itS st (ix p0) 10), .int (ceR g (ix p0)), .ref (g.1 8 (ix p0)), .ref (g.1 9 (ix p0))]))) (g.1 7 (ix p0)) = some (.inr (8, [.ref (g.1 5 (tbN st (ix p0))), .int (itS st (ix p0) 1), .int (sof (itS st (ix p0) 2)), .int (itS st (ix p0) 3), .int (itS st (ix p0) 7), .int (itS st (ix p0) 6), .int (itS st (ix p0) 5), .int (itS st (ix p0) 12), .int (itS st (ix p0) 13), .int (itS st (ix p0) 14), .int (itS st (ix p0) 15), .int p1, .int (itS st (ix p0) 9), .int (itS st (ix p0) 10), .int (ceR g (ix p0)), .ref (g.1 8 (ix p0)), .ref (g.1 9 (ix p0))])) := mu_s
        refine lv_iload_n hx hb dX7_breakThread_81 rfl (lv_at hl 0 rfl) ?_
        refine W.widen (k := 0) (n := 0) (Nat.le_of_ble_eq_true rfl) (Nat.le_of_ble_eq_true rfl) ?_
        exact W.iret (v := itS st (ix p0) 8) hx hb hr (fun t99 ht99 hW99 => ⟨⟨itS st (ix p0) 8, (mu (mu (mu (mu Mw (g.1 0 0) (.inr (10, [.ref (g.1 1 0), .ref (g.1 2 0), .int (gS st 2), .int (gS st 3), .int (gS st 1), .int (gS st 0), .int 0]))) (g.1 0 0) (.inr (10, [.ref (g.1 1 0), .ref (g.1 2 0), .int (gS st 2), .int (gS st 3), .int (gS st 1), .int (gS st 0), .int 0]))) (g.1 0 0) (.inr (10, [.ref (g.1 1 0), .ref (g.1 2 0), .int (gS st 2), .int (gS st 3), .int (gS st 1), .int (gS st 0), .int 0]))) (g.1 7 (ix p0)) (.inr (8, [.ref (g.1 5 (tbN st (ix p0))), .int (itS st (ix p0) 1), .int (sof (itS st (ix p0) 2)), .int (itS st (ix p0) 3), .int (itS st (ix p0) 7), .int (itS st (ix p0) 6), .int (itS st (ix p0) 5), .int (itS st (ix p0) 12), .int (itS st (ix p0) 13), .int (itS st (ix p0) 14), .int (itS st (ix p0) 15), .int p1, .int (itS st (ix p0) 9), .int (itS st (ix p0) 10), .int (ceR g (ix p0)), .ref (g.1 8 (ix p0)), .ref (g.1 9 (ix p0))]))), rfl, RP.ok (by unfold m_breakThread; first | (rw [chk_p hi9, chk_p hq_r3, chk_p hfi9]; done) | (rw [chk_p hi9, chk_p hq_r3, chk_p hfi9]; rfl)) (hR.io hi9.2 (gS st) (fu (itS st (ix p0)) 8 p1) rfl (ceR g (ix p0)) 0 h_X h_I (fun x9 e9 hx9 h0 h1 => ((mu_n h1).trans ((mu_n h0).trans ((mu_n h0).trans ((mu_n h0).trans (rfl))))).trans hx9) ((hR.2.2.2.2 _ hi9.2).2.1)) rfl rfl, by rw [ht99]; exact hP, hI⟩, hS.F ht99⟩) hS.2.2 dX7_breakThread_82
      · subst hr9
        refine lv_iconst (v := 3) hx hb dX7_breakThread_42 (by decide) ?_
        refine m_calli (va_runV (As := [.int 1, .int 3]) (rest := []) ⟨hx, hb, hml, hown, hts⟩ (c_X7_isThrown1 l G A (mu (mu Mw (g.1 0 0) (.inr (10, [.ref (g.1 1 0), .ref (g.1 2 0), .int (gS st 2), .int (gS st 3), .int (gS st 1), .int (gS st 0), .int 0]))) (g.1 0 0) (.inr (10, [.ref (g.1 1 0), .ref (g.1 2 0), .int (gS st 2), .int (gS st 3), .int (gS st 1), .int (gS st 0), .int 0])))  3 h_X) (cwV 2 hts gX7_breakThread_X7_isThrown rfl rfl rfl (by decide +kernel) ⟨Nat.le_of_ble_eq_true rfl, Nat.le_of_ble_eq_true rfl⟩) (mPreV hG hS hP hI hA (hP _ _ h_X) (r := (RX7, TX7, 7)) rfl) rfl rfl hl.1 rfl (lv_room (Nat.le_of_ble_eq_true rfl)) dX7_breakThread_43 ⟨Nat.le_of_ble_eq_true rfl, Nat.le_of_ble_eq_true rfl⟩) hS (fun r10 Mw1 H locs hp_r10 hP hI hS => ?_)
        obtain ⟨hp_r10, hm9⟩ := hp_r10
        subst Mw1
        subst hp_r10
        have h_TL := mu_k (e := .inr (10, [.ref (g.1 1 0), .ref (g.1 2 0), .int (gS st 2), .int (gS st 3), .int (gS st 1), .int (gS st 0), .int 3])) (kd_ne h_TL h_X rfl) h_TL
        have h_IL := mu_k (e := .inr (10, [.ref (g.1 1 0), .ref (g.1 2 0), .int (gS st 2), .int (gS st 3), .int (gS st 1), .int (gS st 0), .int 3])) (kd_ne h_IL h_X rfl) h_IL
        have h_ID := mu_k (e := .inr (10, [.ref (g.1 1 0), .ref (g.1 2 0), .int (gS st 2), .int (gS st 3), .int (gS st 1), .int (gS st 0), .int 3])) (kd_ne h_ID h_X rfl) h_ID
        have h_I := mu_k (e := .inr (10, [.ref (g.1 1 0), .ref (g.1 2 0), .int (gS st 2), .int (gS st 3), .int (gS st 1), .int (gS st 0), .int 3])) (kd_ne h_I h_X rfl) h_I
        have h_X : (mu (mu (mu Mw (g.1 0 0) (.inr (10, [.ref (g.1 1 0), .ref (g.1 2 0), .int (gS st 2), .int (gS st 3), .int (gS st 1), .int (gS st 0), .int 0]))) (g.1 0 0) (.inr (10, [.ref (g.1 1 0), .ref (g.1 2 0), .int (gS st 2), .int (gS st 3), .int (gS st 1), .int (gS st 0), .int 0]))) (g.1 0 0) (.inr (10, [.ref (g.1 1 0), .ref (g.1 2 0), .int (gS st 2), .int (gS st 3), .int (gS st 1), .int (gS st 0), .int 3]))) (g.1 0 0) = some (.inr (10, [.ref (g.1 1 0), .ref (g.1 2 0), .int (gS st 2), .int (gS st 3), .int (gS st 1), .int (gS st 0), .int 3])) := mu_s
        refine lv_if_eq (tgt := 51) hx hb dX7_breakThread_46 (by decide) (fun h9 => absurd h9 (by decide)) (fun _ => ?_)
        refine lv_iconst (v := 0) hx hb dX7_breakThread_49 (by decide) ?_
        refine W.widen (k := 0) (n := 0) (Nat.le_of_ble_eq_true rfl) (Nat.le_of_ble_eq_true rfl) ?_
        exact W.iret (v := 0) hx hb hr (fun t99 ht99 hW99 => ⟨⟨0, (mu (mu (mu Mw (g.1 0 0) (.inr (10, [.ref (g.1 1 0), .ref (g.1 2 0), .int (gS st 2), .int (gS st 3), .int (gS st 1), .int (gS st 0), .int 0]))) (g.1 0 0) (.inr (10, [.ref (g.1 1 0), .ref (g.1 2 0), .int (gS st 2), .int (gS st 3), .int (gS st 1), .int (gS st 0), .int 0]))) (g.1 0 0) (.inr (10, [.ref (g.1 1 0), .ref (g.1 2 0), .int (gS st 2), .int (gS st 3), .int (gS st 1), .int (gS st 0), .int 3]))), rfl, RP.no (k := 3) (by unfold m_breakThread; first | (rw [chk_p hi9, chk_p hq_r3, chk_n (fun q9 => q9 ((hV.fil hi9.2).mp hq_r6))]; done) | (rw [chk_p hi9, chk_p hq_r3, chk_n (fun q9 => q9 ((hV.fil hi9.2).mp hq_r6))]; rfl)) (by decide) (hR.th 3 h_X (fun x9 e9 hx9 h0 => ((mu_n h0).trans ((mu_n h0).trans ((mu_n h0).trans (rfl)))).trans hx9)) rfl rfl, by rw [ht99]; exact hP, hI⟩, hS.F ht99⟩) hS.2.2 dX7_breakThread_50
  · subst hr9
    refine lv_iconst (v := 1) hx hb dX7_breakThread_6 (by decide) ?_
    refine m_calli (va_runV (As := [.int 1, .int 1]) (rest := []) ⟨hx, hb, hml, hown, hts⟩ (c_X7_isThrown1 l G A Mw  1 h_X) (cwV 2 hts gX7_breakThread_X7_isThrown rfl rfl rfl (by decide +kernel) ⟨Nat.le_of_ble_eq_true rfl, Nat.le_of_ble_eq_true rfl⟩) (mPreV hG hS hP hI hA (hP _ _ h_X) (r := (RX7, TX7, 7)) rfl) rfl rfl hl.1 rfl (lv_room (Nat.le_of_ble_eq_true rfl)) dX7_breakThread_7 ⟨Nat.le_of_ble_eq_true rfl, Nat.le_of_ble_eq_true rfl⟩) hS (fun r11 Mw1 H locs hp_r11 hP hI hS => ?_)
    obtain ⟨hp_r11, hm9⟩ := hp_r11
    subst Mw1
    subst hp_r11
    have h_TL := mu_k (e := .inr (10, [.ref (g.1 1 0), .ref (g.1 2 0), .int (gS st 2), .int (gS st 3), .int (gS st 1), .int (gS st 0), .int 1])) (kd_ne h_TL h_X rfl) h_TL
    have h_IL := mu_k (e := .inr (10, [.ref (g.1 1 0), .ref (g.1 2 0), .int (gS st 2), .int (gS st 3), .int (gS st 1), .int (gS st 0), .int 1])) (kd_ne h_IL h_X rfl) h_IL
    have h_X : (mu Mw (g.1 0 0) (.inr (10, [.ref (g.1 1 0), .ref (g.1 2 0), .int (gS st 2), .int (gS st 3), .int (gS st 1), .int (gS st 0), .int 1]))) (g.1 0 0) = some (.inr (10, [.ref (g.1 1 0), .ref (g.1 2 0), .int (gS st 2), .int (gS st 3), .int (gS st 1), .int (gS st 0), .int 1])) := mu_s
    refine lv_if_ne (tgt := 49) hx hb dX7_breakThread_10 (by decide) (fun _ => ?_) (fun h9 => absurd h9 (by decide))
    refine lv_iconst (v := 0) hx hb dX7_breakThread_49 (by decide) ?_
    refine W.widen (k := 0) (n := 0) (Nat.le_of_ble_eq_true rfl) (Nat.le_of_ble_eq_true rfl) ?_
    exact W.iret (v := 0) hx hb hr (fun t99 ht99 hW99 => ⟨⟨0, (mu Mw (g.1 0 0) (.inr (10, [.ref (g.1 1 0), .ref (g.1 2 0), .int (gS st 2), .int (gS st 3), .int (gS st 1), .int (gS st 0), .int 1]))), rfl, RP.no (k := 1) (by unfold m_breakThread; first | (rw [chk_n hq_r1]; done) | (rw [chk_n hq_r1]; rfl)) (by decide) (hR.th 1 h_X (fun x9 e9 hx9 h0 => ((mu_n h0).trans (rfl)).trans hx9)) rfl rfl, by rw [ht99]; exact hP, hI⟩, hS.F ht99⟩) hS.2.2 dX7_breakThread_50

set_option maxHeartbeats 4000000 in
set_option maxRecDepth 100000 in
theorem c_X7_keep (l : Launch) (G : mg) (A : Nat → Prop) (Mw : mw) (st : St) (g : gR) (p0 p1 : Int32) (hR : RS G st g Mw) (hV : Inv st) (h01 : p1 = 0 ∨ p1 = 1) : Met l yX7_keep wsX7_keep ({ frames := 3, cells := 0, slots := 0, locals := 64 }) (va_Pc [.ref (g.1 0 0), .int p0, .int p1] (mB G A Mw)) (va_Qi (fun r Mw1 => RP G (m_keep st p0 p1) g r Mw1) (mE G A) A) 0 0 A := by
  refine Met.ofW (cc := cX7_keep) (maxL := 4) (ret := (some .boolean)) (by decide) rfl ?_
  intro p e s m args below meth c s₁ B hml hv
  obtain ⟨rfl, hG, hP, hI, hA⟩ := hv
  have hx := B.exec
  have hb := B.bytes
  have hr := B.returns
  have hts := atoms_spec (ws := wsX7_keep) B.pre
  have hown : s.vm.findClass RX7 = some m.cls := findClass_of_methodNamed B.named
  have hlocks := B.notSynchronized
  have hK := hG.K
  have i_X5 : ∀ w ∈ wsX50, w ∈ wsX7_keep := by decide +kernel
  have i_X7 : ∀ w ∈ wsX70, w ∈ wsX7_keep := by decide +kernel
  have hS : va_S A s.heap s.heap [] := va_S.rf
  have hl := lv_entry ([.ref (g.1 0 0), .int p0, .int p1]) (n := 4) (Nat.le_of_ble_eq_true rfl)
  rw [lg_entry_eq]
  generalize (lg_sl ([.ref (g.1 0 0), .int p0, .int p1]) ++ List.replicate (4 - (lg_sl ([.ref (g.1 0 0), .int p0, .int p1])).length) Slot.unset).toArray = ls at hl ⊢
  have hl : lv_has ls 4 [(0, .ref (g.1 0 0)), (1, .int p0), (2, .int p1)] := hl
  have hP : mP G.1 Mw s.heap := hP
  have h_X : Mw (g.1 0 0) = some (.inr (10, [.ref (g.1 1 0), .ref (g.1 2 0), .int (gS st 2), .int (gS st 3), .int (gS st 1), .int (gS st 0), .int (thR g)])) := hR.1 0 0 ro0
  have h_TL : Mw (g.1 1 0) = some (.inr (2, [.int (mcR g 1 0), .ref (g.1 3 0), .int ((nI (nT st)))])) := hR.1 1 0 ro1
  have h_IL : Mw (g.1 2 0) = some (.inr (2, [.int (mcR g 2 0), .ref (g.1 4 0), .int ((nI (nN st)))])) := hR.1 2 0 ro2
  have hti9 := hR.ne ro1 ro2 (by omega)
  have hnT8 := hV.1.1
  have hnN8 := Nat.le_trans hV.1.2 (show 6 ≤ 8 by decide)
  refine lv_aload_n hx hb dX7_keep_0 rfl (lv_at hl 0 rfl) ?_
  refine lv_aload_n hx hb dX7_keep_1 rfl (lv_at hl 0 rfl) ?_
  refine lv_iload_n hx hb dX7_keep_2 rfl (lv_at hl 1 rfl) ?_
  refine m_calli (va_runV (As := [.int p0]) (rest := [.ref (g.1 0 0)]) ⟨hx, hb, hml, hown, hts⟩ (c_X7_isNone l G A Mw  p0 h_X h_IL hnN8) (cwV 1 hts gX7_keep_X7_isNone rfl rfl rfl (by decide +kernel) ⟨Nat.le_of_ble_eq_true rfl, Nat.le_of_ble_eq_true rfl⟩) (mPreV hG hS hP hI hA (hP _ _ h_X) (r := (RX7, TX7, 7)) rfl) rfl rfl hl.1 rfl (lv_room (Nat.le_of_ble_eq_true rfl)) dX7_keep_3 ⟨Nat.le_of_ble_eq_true rfl, Nat.le_of_ble_eq_true rfl⟩) hS (fun r1 Mw1 H locs hp_r1 hP hI hS => ?_)
  obtain ⟨hb9, hm9⟩ := hp_r1
  subst Mw1
  rcases hb9 with ⟨hr9, hq_r1⟩ | ⟨hr9, hq_r1⟩
  · subst hr9
    have hi9 := hq_r1
    have e_p0 : p0 = nI (ix p0) := nI_cl hi9.1
    rw [e_p0] at hl
    have hf4 := hR.f4 hi9.2
    have h_ID : Mw (g.1 4 0) = some (.inl (G.2.1 5, 10, .inr (.inr (.inr (.inr (qf (nN st) (g.1 7))))))) := hR.1 4 0 (ro4 hf4)
    have h_I : Mw (g.1 7 (ix p0)) = some (.inr (8, [.ref (g.1 5 (tbN st (ix p0))), .int (itS st (ix p0) 1), .int (sof (itS st (ix p0) 2)), .int (itS st (ix p0) 3), .int (itS st (ix p0) 7), .int (itS st (ix p0) 6), .int (itS st (ix p0) 5), .int (itS st (ix p0) 12), .int (itS st (ix p0) 13), .int (itS st (ix p0) 14), .int (itS st (ix p0) 15), .int (itS st (ix p0) 8), .int (itS st (ix p0) 9), .int (itS st (ix p0) 10), .int (ceR g (ix p0)), .ref (g.1 8 (ix p0)), .ref (g.1 9 (ix p0))])) := hR.1 7 _ (ro7 hi9.2)
    refine lv_iconst (v := 1) hx hb dX7_keep_6 (by decide) ?_
    refine m_calli (va_runV (As := [.int 0, .int 1]) (rest := []) ⟨hx, hb, hml, hown, hts⟩ (c_X7_isThrown0 l G A Mw  1 h_X) (cwV 2 hts gX7_keep_X7_isThrown rfl rfl rfl (by decide +kernel) ⟨Nat.le_of_ble_eq_true rfl, Nat.le_of_ble_eq_true rfl⟩) (mPreV hG hS hP hI hA (hP _ _ h_X) (r := (RX7, TX7, 7)) rfl) rfl rfl hl.1 rfl (lv_room (Nat.le_of_ble_eq_true rfl)) dX7_keep_7 ⟨Nat.le_of_ble_eq_true rfl, Nat.le_of_ble_eq_true rfl⟩) hS (fun r2 Mw1 H locs hp_r2 hP hI hS => ?_)
    obtain ⟨hp_r2, hm9⟩ := hp_r2
    subst Mw1
    subst hp_r2
    have h_TL := mu_k (e := .inr (10, [.ref (g.1 1 0), .ref (g.1 2 0), .int (gS st 2), .int (gS st 3), .int (gS st 1), .int (gS st 0), .int 0])) (kd_ne h_TL h_X rfl) h_TL
    have h_IL := mu_k (e := .inr (10, [.ref (g.1 1 0), .ref (g.1 2 0), .int (gS st 2), .int (gS st 3), .int (gS st 1), .int (gS st 0), .int 0])) (kd_ne h_IL h_X rfl) h_IL
    have h_ID := mu_k (e := .inr (10, [.ref (g.1 1 0), .ref (g.1 2 0), .int (gS st 2), .int (gS st 3), .int (gS st 1), .int (gS st 0), .int 0])) (kd_ne h_ID h_X rfl) h_ID
    have h_I := mu_k (e := .inr (10, [.ref (g.1 1 0), .ref (g.1 2 0), .int (gS st 2), .int (gS st 3), .int (gS st 1), .int (gS st 0), .int 0])) (kd_ne h_I h_X rfl) h_I
    have h_X : (mu Mw (g.1 0 0) (.inr (10, [.ref (g.1 1 0), .ref (g.1 2 0), .int (gS st 2), .int (gS st 3), .int (gS st 1), .int (gS st 0), .int 0]))) (g.1 0 0) = some (.inr (10, [.ref (g.1 1 0), .ref (g.1 2 0), .int (gS st 2), .int (gS st 3), .int (gS st 1), .int (gS st 0), .int 0])) := mu_s
    refine lv_if_eq (tgt := 15) hx hb dX7_keep_10 (by decide) (fun _ => ?_) (fun h9 => absurd h9 (by decide))
    refine lv_aload_n hx hb dX7_keep_15 rfl (lv_at hl 0 rfl) ?_
    refine m_get (ci := 10) (v := .ref (g.1 2 0)) (C := RX7) (T := TX7) (N := 7) hx hb hts i_X7 hown hK (hP _ _ h_X) rfl 1 (by decide) (hts (.fieldLink RX7 16 "MeniscusModel" "instruments" "Ljava/util/ArrayList;") (by decide +kernel)) (fun _ h9 => h9) rfl dX7_keep_16 ?_
    refine lv_iload_n hx hb dX7_keep_19 rfl (lv_at hl 1 rfl) ?_
    refine m_callq (va_runV (As := [.int (nI (ix p0))]) (rest := []) ⟨hx, hb, hml, hown, hts⟩ (c_Jx4a65c_get_915e3 l G A (mu Mw (g.1 0 0) (.inr (10, [.ref (g.1 1 0), .ref (g.1 2 0), .int (gS st 2), .int (gS st 3), .int (gS st 1), .int (gS st 0), .int 0])))  h_IL h_ID (ix p0) (g.1 7 (ix p0)) hi9.2 hnN8 (qf_p hi9.2)) (cwV 1 hts gX7_keep_Jx4a65c_get_915e3 rfl rfl rfl (by decide +kernel) ⟨Nat.le_of_ble_eq_true rfl, Nat.le_of_ble_eq_true rfl⟩) (mPreV hG hS hP hI hA (hP _ _ h_IL) (r := (RJx4a65c, TJx4a65c, 3)) rfl) rfl rfl hl.1 rfl (lv_room (Nat.le_of_ble_eq_true rfl)) dX7_keep_20 ⟨Nat.le_of_ble_eq_true rfl, Nat.le_of_ble_eq_true rfl⟩) hS (fun r3 Mw1 H locs hp_r3 hP hI hS => ?_)
    obtain ⟨hp_r3, hm9⟩ := hp_r3
    subst Mw1
    subst hp_r3
    refine va_castE hx hb hown (hts (.classLink RX7 79 RX5) (by decide +kernel)) (va_recv hK (va_at.one (hP _ _ h_I)) (q0 := 0) (q := (RX5, TX5, 17)) rfl rfl) dX7_keep_23 ?_
    refine m_getN (ci := 8) (v := .int (itS st (ix p0) 9)) (C := RX5) (T := TX5) (N := 17) hx hb hts i_X5 hown hK (hP _ _ h_I) rfl 12 (by decide) (va_Nw.use rfl (hG.2.1.2.1 ("MeniscusModel", 170, "MeniscusModel$Instrument", "isKeeper", "Z", "MeniscusModel") (by decide +kernel))) (fun _ h9 => h9) rfl dX7_keep_26 ?_
    refine lv_istore_n (lv' := [(3, .int (itS st (ix p0) 9)), (0, .ref (g.1 0 0)), (1, .int (nI (ix p0))), (2, .int p1)]) hx hb dX7_keep_29 rfl hl (by decide) rfl (fun ls hl => ?_)
    refine lv_aload_n hx hb dX7_keep_30 rfl (lv_at hl 1 rfl) ?_
    refine m_get (ci := 10) (v := .ref (g.1 2 0)) (C := RX7) (T := TX7) (N := 7) hx hb hts i_X7 hown hK (hP _ _ h_X) rfl 1 (by decide) (hts (.fieldLink RX7 16 "MeniscusModel" "instruments" "Ljava/util/ArrayList;") (by decide +kernel)) (fun _ h9 => h9) rfl dX7_keep_31 ?_
    refine lv_iload_n hx hb dX7_keep_34 rfl (lv_at hl 2 rfl) ?_
    refine m_callq (va_runV (As := [.int (nI (ix p0))]) (rest := []) ⟨hx, hb, hml, hown, hts⟩ (c_Jx4a65c_get_915e3 l G A (mu Mw (g.1 0 0) (.inr (10, [.ref (g.1 1 0), .ref (g.1 2 0), .int (gS st 2), .int (gS st 3), .int (gS st 1), .int (gS st 0), .int 0])))  h_IL h_ID (ix p0) (g.1 7 (ix p0)) hi9.2 hnN8 (qf_p hi9.2)) (cwV 1 hts gX7_keep_Jx4a65c_get_915e3 rfl rfl rfl (by decide +kernel) ⟨Nat.le_of_ble_eq_true rfl, Nat.le_of_ble_eq_true rfl⟩) (mPreV hG hS hP hI hA (hP _ _ h_IL) (r := (RJx4a65c, TJx4a65c, 3)) rfl) rfl rfl hl.1 rfl (lv_room (Nat.le_of_ble_eq_true rfl)) dX7_keep_35 ⟨Nat.le_of_ble_eq_true rfl, Nat.le_of_ble_eq_true rfl⟩) hS (fun r4 Mw1 H locs hp_r4 hP hI hS => ?_)
    obtain ⟨hp_r4, hm9⟩ := hp_r4
    subst Mw1
    subst hp_r4
    refine va_castE hx hb hown (hts (.classLink RX7 79 RX5) (by decide +kernel)) (va_recv hK (va_at.one (hP _ _ h_I)) (q0 := 0) (q := (RX5, TX5, 17)) rfl rfl) dX7_keep_38 ?_
    refine lv_iload_n hx hb dX7_keep_41 rfl (lv_at hl 3 rfl) ?_
    refine m_putN (ci := 8) (v := .int p1) (ty := .boolean) (C := RX5) (T := TX5) (N := 17) hx hb hts i_X5 tyX5 tyX5_ok nmX5 hown hK hP hI hS h_I rfl 12 (by decide) (va_Nw.use rfl (hG.2.1.2.1 ("MeniscusModel", 170, "MeniscusModel$Instrument", "isKeeper", "Z", "MeniscusModel") (by decide +kernel))) (fun _ h9 => h9) rfl (by decide +kernel) (nb01 h01).1 (nb01 h01).2 (Nat.le_of_ble_eq_true rfl) dX7_keep_42 (fun H locs hP hI hS => ?_)
    have hP : mP G.1 (mu (mu Mw (g.1 0 0) (.inr (10, [.ref (g.1 1 0), .ref (g.1 2 0), .int (gS st 2), .int (gS st 3), .int (gS st 1), .int (gS st 0), .int 0]))) (g.1 7 (ix p0)) (.inr (8, [.ref (g.1 5 (tbN st (ix p0))), .int (itS st (ix p0) 1), .int (sof (itS st (ix p0) 2)), .int (itS st (ix p0) 3), .int (itS st (ix p0) 7), .int (itS st (ix p0) 6), .int (itS st (ix p0) 5), .int (itS st (ix p0) 12), .int (itS st (ix p0) 13), .int (itS st (ix p0) 14), .int (itS st (ix p0) 15), .int (itS st (ix p0) 8), .int p1, .int (itS st (ix p0) 10), .int (ceR g (ix p0)), .ref (g.1 8 (ix p0)), .ref (g.1 9 (ix p0))]))) H := hP
    have hI : mI A (mu (mu Mw (g.1 0 0) (.inr (10, [.ref (g.1 1 0), .ref (g.1 2 0), .int (gS st 2), .int (gS st 3), .int (gS st 1), .int (gS st 0), .int 0]))) (g.1 7 (ix p0)) (.inr (8, [.ref (g.1 5 (tbN st (ix p0))), .int (itS st (ix p0) 1), .int (sof (itS st (ix p0) 2)), .int (itS st (ix p0) 3), .int (itS st (ix p0) 7), .int (itS st (ix p0) 6), .int (itS st (ix p0) 5), .int (itS st (ix p0) 12), .int (itS st (ix p0) 13), .int (itS st (ix p0) 14), .int (itS st (ix p0) 15), .int (itS st (ix p0) 8), .int p1, .int (itS st (ix p0) 10), .int (ceR g (ix p0)), .ref (g.1 8 (ix p0)), .ref (g.1 9 (ix p0))]))) := hI
    have h_X := mu_k (e := .inr (8, [.ref (g.1 5 (tbN st (ix p0))), .int (itS st (ix p0) 1), .int (sof (itS st (ix p0) 2)), .int (itS st (ix p0) 3), .int (itS st (ix p0) 7), .int (itS st (ix p0) 6), .int (itS st (ix p0) 5), .int (itS st (ix p0) 12), .int (itS st (ix p0) 13), .int (itS st (ix p0) 14), .int (itS st (ix p0) 15), .int (itS st (ix p0) 8), .int p1, .int (itS st (ix p0) 10), .int (ceR g (ix p0)), .ref (g.1 8 (ix p0)), .ref (g.1 9 (ix p0))])) (kd_ne h_X h_I rfl) h_X
    have h_TL := mu_k (e := .inr (8, [.ref (g.1 5 (tbN st (ix p0))), .int (itS st (ix p0) 1), .int (sof (itS st (ix p0) 2)), .int (itS st (ix p0) 3), .int (itS st (ix p0) 7), .int (itS st (ix p0) 6), .int (itS st (ix p0) 5), .int (itS st (ix p0) 12), .int (itS st (ix p0) 13), .int (itS st (ix p0) 14), .int (itS st (ix p0) 15), .int (itS st (ix p0) 8), .int p1, .int (itS st (ix p0) 10), .int (ceR g (ix p0)), .ref (g.1 8 (ix p0)), .ref (g.1 9 (ix p0))])) (kd_ne h_TL h_I rfl) h_TL
    have h_IL := mu_k (e := .inr (8, [.ref (g.1 5 (tbN st (ix p0))), .int (itS st (ix p0) 1), .int (sof (itS st (ix p0) 2)), .int (itS st (ix p0) 3), .int (itS st (ix p0) 7), .int (itS st (ix p0) 6), .int (itS st (ix p0) 5), .int (itS st (ix p0) 12), .int (itS st (ix p0) 13), .int (itS st (ix p0) 14), .int (itS st (ix p0) 15), .int (itS st (ix p0) 8), .int p1, .int (itS st (ix p0) 10), .int (ceR g (ix p0)), .ref (g.1 8 (ix p0)), .ref (g.1 9 (ix p0))])) (kd_ne h_IL h_I rfl) h_IL
    have h_ID := mu_k (e := .inr (8, [.ref (g.1 5 (tbN st (ix p0))), .int (itS st (ix p0) 1), .int (sof (itS st (ix p0) 2)), .int (itS st (ix p0) 3), .int (itS st (ix p0) 7), .int (itS st (ix p0) 6), .int (itS st (ix p0) 5), .int (itS st (ix p0) 12), .int (itS st (ix p0) 13), .int (itS st (ix p0) 14), .int (itS st (ix p0) 15), .int (itS st (ix p0) 8), .int p1, .int (itS st (ix p0) 10), .int (ceR g (ix p0)), .ref (g.1 8 (ix p0)), .ref (g.1 9 (ix p0))])) (kd_ne h_ID h_I rfl) h_ID
    have h_I : (mu (mu Mw (g.1 0 0) (.inr (10, [.ref (g.1 1 0), .ref (g.1 2 0), .int (gS st 2), .int (gS st 3), .int (gS st 1), .int (gS st 0), .int 0]))) (g.1 7 (ix p0)) (.inr (8, [.ref (g.1 5 (tbN st (ix p0))), .int (itS st (ix p0) 1), .int (sof (itS st (ix p0) 2)), .int (itS st (ix p0) 3), .int (itS st (ix p0) 7), .int (itS st (ix p0) 6), .int (itS st (ix p0) 5), .int (itS st (ix p0) 12), .int (itS st (ix p0) 13), .int (itS st (ix p0) 14), .int (itS st (ix p0) 15), .int (itS st (ix p0) 8), .int p1, .int (itS st (ix p0) 10), .int (ceR g (ix p0)), .ref (g.1 8 (ix p0)), .ref (g.1 9 (ix p0))]))) (g.1 7 (ix p0)) = some (.inr (8, [.ref (g.1 5 (tbN st (ix p0))), .int (itS st (ix p0) 1), .int (sof (itS st (ix p0) 2)), .int (itS st (ix p0) 3), .int (itS st (ix p0) 7), .int (itS st (ix p0) 6), .int (itS st (ix p0) 5), .int (itS st (ix p0) 12), .int (itS st (ix p0) 13), .int (itS st (ix p0) 14), .int (itS st (ix p0) 15), .int (itS st (ix p0) 8), .int p1, .int (itS st (ix p0) 10), .int (ceR g (ix p0)), .ref (g.1 8 (ix p0)), .ref (g.1 9 (ix p0))])) := mu_s
    refine lv_aload_n hx hb dX7_keep_45 rfl (lv_at hl 1 rfl) ?_
    refine m_get (ci := 10) (v := .ref (g.1 2 0)) (C := RX7) (T := TX7) (N := 7) hx hb hts i_X7 hown hK (hP _ _ h_X) rfl 1 (by decide) (hts (.fieldLink RX7 16 "MeniscusModel" "instruments" "Ljava/util/ArrayList;") (by decide +kernel)) (fun _ h9 => h9) rfl dX7_keep_46 ?_
    refine lv_iload_n hx hb dX7_keep_49 rfl (lv_at hl 2 rfl) ?_
    refine m_callq (va_runV (As := [.int (nI (ix p0))]) (rest := []) ⟨hx, hb, hml, hown, hts⟩ (c_Jx4a65c_get_915e3 l G A (mu (mu Mw (g.1 0 0) (.inr (10, [.ref (g.1 1 0), .ref (g.1 2 0), .int (gS st 2), .int (gS st 3), .int (gS st 1), .int (gS st 0), .int 0]))) (g.1 7 (ix p0)) (.inr (8, [.ref (g.1 5 (tbN st (ix p0))), .int (itS st (ix p0) 1), .int (sof (itS st (ix p0) 2)), .int (itS st (ix p0) 3), .int (itS st (ix p0) 7), .int (itS st (ix p0) 6), .int (itS st (ix p0) 5), .int (itS st (ix p0) 12), .int (itS st (ix p0) 13), .int (itS st (ix p0) 14), .int (itS st (ix p0) 15), .int (itS st (ix p0) 8), .int p1, .int (itS st (ix p0) 10), .int (ceR g (ix p0)), .ref (g.1 8 (ix p0)), .ref (g.1 9 (ix p0))])))  h_IL h_ID (ix p0) (g.1 7 (ix p0)) hi9.2 hnN8 (qf_p hi9.2)) (cwV 1 hts gX7_keep_Jx4a65c_get_915e3 rfl rfl rfl (by decide +kernel) ⟨Nat.le_of_ble_eq_true rfl, Nat.le_of_ble_eq_true rfl⟩) (mPreV hG hS hP hI hA (hP _ _ h_IL) (r := (RJx4a65c, TJx4a65c, 3)) rfl) rfl rfl hl.1 rfl (lv_room (Nat.le_of_ble_eq_true rfl)) dX7_keep_50 ⟨Nat.le_of_ble_eq_true rfl, Nat.le_of_ble_eq_true rfl⟩) hS (fun r5 Mw1 H locs hp_r5 hP hI hS => ?_)
    obtain ⟨hp_r5, hm9⟩ := hp_r5
    subst Mw1
    subst hp_r5
    refine va_castE hx hb hown (hts (.classLink RX7 79 RX5) (by decide +kernel)) (va_recv hK (va_at.one (hP _ _ h_I)) (q0 := 0) (q := (RX5, TX5, 17)) rfl rfl) dX7_keep_53 ?_
    refine lv_iconst (v := (-1)) hx hb dX7_keep_56 (by decide) ?_
    refine m_putN (ci := 8) (v := .int ((-1))) (ty := .int) (C := RX5) (T := TX5) (N := 17) hx hb hts i_X5 tyX5 tyX5_ok nmX5 hown hK hP hI hS h_I rfl 13 (by decide) (va_Nw.use rfl (hG.2.1.2.1 ("MeniscusModel", 173, "MeniscusModel$Instrument", "greatest", "I", "MeniscusModel") (by decide +kernel))) (fun _ h9 => h9) rfl (by decide +kernel) rfl rfl (Nat.le_of_ble_eq_true rfl) dX7_keep_57 (fun H locs hP hI hS => ?_)
    have hP : mP G.1 (mu (mu (mu Mw (g.1 0 0) (.inr (10, [.ref (g.1 1 0), .ref (g.1 2 0), .int (gS st 2), .int (gS st 3), .int (gS st 1), .int (gS st 0), .int 0]))) (g.1 7 (ix p0)) (.inr (8, [.ref (g.1 5 (tbN st (ix p0))), .int (itS st (ix p0) 1), .int (sof (itS st (ix p0) 2)), .int (itS st (ix p0) 3), .int (itS st (ix p0) 7), .int (itS st (ix p0) 6), .int (itS st (ix p0) 5), .int (itS st (ix p0) 12), .int (itS st (ix p0) 13), .int (itS st (ix p0) 14), .int (itS st (ix p0) 15), .int (itS st (ix p0) 8), .int p1, .int (itS st (ix p0) 10), .int (ceR g (ix p0)), .ref (g.1 8 (ix p0)), .ref (g.1 9 (ix p0))]))) (g.1 7 (ix p0)) (.inr (8, [.ref (g.1 5 (tbN st (ix p0))), .int (itS st (ix p0) 1), .int (sof (itS st (ix p0) 2)), .int (itS st (ix p0) 3), .int (itS st (ix p0) 7), .int (itS st (ix p0) 6), .int (itS st (ix p0) 5), .int (itS st (ix p0) 12), .int (itS st (ix p0) 13), .int (itS st (ix p0) 14), .int (itS st (ix p0) 15), .int (itS st (ix p0) 8), .int p1, .int ((-1)), .int (ceR g (ix p0)), .ref (g.1 8 (ix p0)), .ref (g.1 9 (ix p0))]))) H := hP
    have hI : mI A (mu (mu (mu Mw (g.1 0 0) (.inr (10, [.ref (g.1 1 0), .ref (g.1 2 0), .int (gS st 2), .int (gS st 3), .int (gS st 1), .int (gS st 0), .int 0]))) (g.1 7 (ix p0)) (.inr (8, [.ref (g.1 5 (tbN st (ix p0))), .int (itS st (ix p0) 1), .int (sof (itS st (ix p0) 2)), .int (itS st (ix p0) 3), .int (itS st (ix p0) 7), .int (itS st (ix p0) 6), .int (itS st (ix p0) 5), .int (itS st (ix p0) 12), .int (itS st (ix p0) 13), .int (itS st (ix p0) 14), .int (itS st (ix p0) 15), .int (itS st (ix p0) 8), .int p1, .int (itS st (ix p0) 10), .int (ceR g (ix p0)), .ref (g.1 8 (ix p0)), .ref (g.1 9 (ix p0))]))) (g.1 7 (ix p0)) (.inr (8, [.ref (g.1 5 (tbN st (ix p0))), .int (itS st (ix p0) 1), .int (sof (itS st (ix p0) 2)), .int (itS st (ix p0) 3), .int (itS st (ix p0) 7), .int (itS st (ix p0) 6), .int (itS st (ix p0) 5), .int (itS st (ix p0) 12), .int (itS st (ix p0) 13), .int (itS st (ix p0) 14), .int (itS st (ix p0) 15), .int (itS st (ix p0) 8), .int p1, .int ((-1)), .int (ceR g (ix p0)), .ref (g.1 8 (ix p0)), .ref (g.1 9 (ix p0))]))) := hI
    have h_X := mu_k (e := .inr (8, [.ref (g.1 5 (tbN st (ix p0))), .int (itS st (ix p0) 1), .int (sof (itS st (ix p0) 2)), .int (itS st (ix p0) 3), .int (itS st (ix p0) 7), .int (itS st (ix p0) 6), .int (itS st (ix p0) 5), .int (itS st (ix p0) 12), .int (itS st (ix p0) 13), .int (itS st (ix p0) 14), .int (itS st (ix p0) 15), .int (itS st (ix p0) 8), .int p1, .int ((-1)), .int (ceR g (ix p0)), .ref (g.1 8 (ix p0)), .ref (g.1 9 (ix p0))])) (kd_ne h_X h_I rfl) h_X
    have h_TL := mu_k (e := .inr (8, [.ref (g.1 5 (tbN st (ix p0))), .int (itS st (ix p0) 1), .int (sof (itS st (ix p0) 2)), .int (itS st (ix p0) 3), .int (itS st (ix p0) 7), .int (itS st (ix p0) 6), .int (itS st (ix p0) 5), .int (itS st (ix p0) 12), .int (itS st (ix p0) 13), .int (itS st (ix p0) 14), .int (itS st (ix p0) 15), .int (itS st (ix p0) 8), .int p1, .int ((-1)), .int (ceR g (ix p0)), .ref (g.1 8 (ix p0)), .ref (g.1 9 (ix p0))])) (kd_ne h_TL h_I rfl) h_TL
    have h_IL := mu_k (e := .inr (8, [.ref (g.1 5 (tbN st (ix p0))), .int (itS st (ix p0) 1), .int (sof (itS st (ix p0) 2)), .int (itS st (ix p0) 3), .int (itS st (ix p0) 7), .int (itS st (ix p0) 6), .int (itS st (ix p0) 5), .int (itS st (ix p0) 12), .int (itS st (ix p0) 13), .int (itS st (ix p0) 14), .int (itS st (ix p0) 15), .int (itS st (ix p0) 8), .int p1, .int ((-1)), .int (ceR g (ix p0)), .ref (g.1 8 (ix p0)), .ref (g.1 9 (ix p0))])) (kd_ne h_IL h_I rfl) h_IL
    have h_ID := mu_k (e := .inr (8, [.ref (g.1 5 (tbN st (ix p0))), .int (itS st (ix p0) 1), .int (sof (itS st (ix p0) 2)), .int (itS st (ix p0) 3), .int (itS st (ix p0) 7), .int (itS st (ix p0) 6), .int (itS st (ix p0) 5), .int (itS st (ix p0) 12), .int (itS st (ix p0) 13), .int (itS st (ix p0) 14), .int (itS st (ix p0) 15), .int (itS st (ix p0) 8), .int p1, .int ((-1)), .int (ceR g (ix p0)), .ref (g.1 8 (ix p0)), .ref (g.1 9 (ix p0))])) (kd_ne h_ID h_I rfl) h_ID
    rw [mu_uu] at hP hI h_X h_TL h_IL h_ID
    have h_I : (mu (mu Mw (g.1 0 0) (.inr (10, [.ref (g.1 1 0), .ref (g.1 2 0), .int (gS st 2), .int (gS st 3), .int (gS st 1), .int (gS st 0), .int 0]))) (g.1 7 (ix p0)) (.inr (8, [.ref (g.1 5 (tbN st (ix p0))), .int (itS st (ix p0) 1), .int (sof (itS st (ix p0) 2)), .int (itS st (ix p0) 3), .int (itS st (ix p0) 7), .int (itS st (ix p0) 6), .int (itS st (ix p0) 5), .int (itS st (ix p0) 12), .int (itS st (ix p0) 13), .int (itS st (ix p0) 14), .int (itS st (ix p0) 15), .int (itS st (ix p0) 8), .int p1, .int ((-1)), .int (ceR g (ix p0)), .ref (g.1 8 (ix p0)), .ref (g.1 9 (ix p0))]))) (g.1 7 (ix p0)) = some (.inr (8, [.ref (g.1 5 (tbN st (ix p0))), .int (itS st (ix p0) 1), .int (sof (itS st (ix p0) 2)), .int (itS st (ix p0) 3), .int (itS st (ix p0) 7), .int (itS st (ix p0) 6), .int (itS st (ix p0) 5), .int (itS st (ix p0) 12), .int (itS st (ix p0) 13), .int (itS st (ix p0) 14), .int (itS st (ix p0) 15), .int (itS st (ix p0) 8), .int p1, .int ((-1)), .int (ceR g (ix p0)), .ref (g.1 8 (ix p0)), .ref (g.1 9 (ix p0))])) := mu_s
    refine lv_iload_n hx hb dX7_keep_60 rfl (lv_at hl 0 rfl) ?_
    refine W.widen (k := 0) (n := 0) (Nat.le_of_ble_eq_true rfl) (Nat.le_of_ble_eq_true rfl) ?_
    exact W.zret (v := itS st (ix p0) 9) hx hb hr (nb01 (hV.ke hi9.2)).1 (fun t99 ht99 hW99 => ⟨⟨itS st (ix p0) 9, (mu (mu Mw (g.1 0 0) (.inr (10, [.ref (g.1 1 0), .ref (g.1 2 0), .int (gS st 2), .int (gS st 3), .int (gS st 1), .int (gS st 0), .int 0]))) (g.1 7 (ix p0)) (.inr (8, [.ref (g.1 5 (tbN st (ix p0))), .int (itS st (ix p0) 1), .int (sof (itS st (ix p0) 2)), .int (itS st (ix p0) 3), .int (itS st (ix p0) 7), .int (itS st (ix p0) 6), .int (itS st (ix p0) 5), .int (itS st (ix p0) 12), .int (itS st (ix p0) 13), .int (itS st (ix p0) 14), .int (itS st (ix p0) 15), .int (itS st (ix p0) 8), .int p1, .int ((-1)), .int (ceR g (ix p0)), .ref (g.1 8 (ix p0)), .ref (g.1 9 (ix p0))]))), rfl, RP.ok (by unfold m_keep; first | (rw [chk_p hi9]; done) | (rw [chk_p hi9]; rfl)) (hR.io hi9.2 (gS st) (fu (fu (itS st (ix p0)) 9 p1) 10 (-1)) rfl (ceR g (ix p0)) 0 h_X h_I (fun x9 e9 hx9 h0 h1 => ((mu_n h1).trans ((mu_n h0).trans (rfl))).trans hx9) ((hR.2.2.2.2 _ hi9.2).2.1)) rfl rfl, by rw [ht99]; exact hP, hI⟩, hS.F ht99⟩) hS.2.2 dX7_keep_61
  · subst hr9
    refine lv_iconst (v := 1) hx hb dX7_keep_6 (by decide) ?_
    refine m_calli (va_runV (As := [.int 1, .int 1]) (rest := []) ⟨hx, hb, hml, hown, hts⟩ (c_X7_isThrown1 l G A Mw  1 h_X) (cwV 2 hts gX7_keep_X7_isThrown rfl rfl rfl (by decide +kernel) ⟨Nat.le_of_ble_eq_true rfl, Nat.le_of_ble_eq_true rfl⟩) (mPreV hG hS hP hI hA (hP _ _ h_X) (r := (RX7, TX7, 7)) rfl) rfl rfl hl.1 rfl (lv_room (Nat.le_of_ble_eq_true rfl)) dX7_keep_7 ⟨Nat.le_of_ble_eq_true rfl, Nat.le_of_ble_eq_true rfl⟩) hS (fun r6 Mw1 H locs hp_r6 hP hI hS => ?_)
    obtain ⟨hp_r6, hm9⟩ := hp_r6
    subst Mw1
    subst hp_r6
    have h_TL := mu_k (e := .inr (10, [.ref (g.1 1 0), .ref (g.1 2 0), .int (gS st 2), .int (gS st 3), .int (gS st 1), .int (gS st 0), .int 1])) (kd_ne h_TL h_X rfl) h_TL
    have h_IL := mu_k (e := .inr (10, [.ref (g.1 1 0), .ref (g.1 2 0), .int (gS st 2), .int (gS st 3), .int (gS st 1), .int (gS st 0), .int 1])) (kd_ne h_IL h_X rfl) h_IL
    have h_X : (mu Mw (g.1 0 0) (.inr (10, [.ref (g.1 1 0), .ref (g.1 2 0), .int (gS st 2), .int (gS st 3), .int (gS st 1), .int (gS st 0), .int 1]))) (g.1 0 0) = some (.inr (10, [.ref (g.1 1 0), .ref (g.1 2 0), .int (gS st 2), .int (gS st 3), .int (gS st 1), .int (gS st 0), .int 1])) := mu_s
    refine lv_if_eq (tgt := 15) hx hb dX7_keep_10 (by decide) (fun h9 => absurd h9 (by decide)) (fun _ => ?_)
    refine lv_iconst (v := 0) hx hb dX7_keep_13 (by decide) ?_
    refine W.widen (k := 0) (n := 0) (Nat.le_of_ble_eq_true rfl) (Nat.le_of_ble_eq_true rfl) ?_
    exact W.zret (v := 0) hx hb hr rfl (fun t99 ht99 hW99 => ⟨⟨0, (mu Mw (g.1 0 0) (.inr (10, [.ref (g.1 1 0), .ref (g.1 2 0), .int (gS st 2), .int (gS st 3), .int (gS st 1), .int (gS st 0), .int 1]))), rfl, RP.no (k := 1) (by unfold m_keep; first | (rw [chk_n hq_r1]; done) | (rw [chk_n hq_r1]; rfl)) (by decide) (hR.th 1 h_X (fun x9 e9 hx9 h0 => ((mu_n h0).trans (rfl)).trans hx9)) rfl rfl, by rw [ht99]; exact hP, hI⟩, hS.F ht99⟩) hS.2.2 dX7_keep_14

set_option maxHeartbeats 4000000 in
set_option maxRecDepth 100000 in
theorem c_X7_shake (l : Launch) (G : mg) (A : Nat → Prop) (Mw : mw) (st : St) (g : gR) (p0 : Int32) (hR : RS G st g Mw) (hV : Inv st) : Met l yX7_shake wsX7_shake ({ frames := 3, cells := 0, slots := 0, locals := 64 }) (va_Pc [.ref (g.1 0 0), .int p0] (mB G A Mw)) (va_Qi (fun r Mw1 => RP G (m_shake st p0) g r Mw1) (mE G A) A) 0 0 A := by
  refine Met.ofW (cc := cX7_shake) (maxL := 3) (ret := (some .int)) (by decide) rfl ?_
  intro p e s m args below meth c s₁ B hml hv
  obtain ⟨rfl, hG, hP, hI, hA⟩ := hv
  have hx := B.exec
  have hb := B.bytes
  have hr := B.returns
  have hts := atoms_spec (ws := wsX7_shake) B.pre
  have hown : s.vm.findClass RX7 = some m.cls := findClass_of_methodNamed B.named
  have hlocks := B.notSynchronized
  have hK := hG.K
  have i_X5 : ∀ w ∈ wsX50, w ∈ wsX7_shake := by decide +kernel
  have i_X7 : ∀ w ∈ wsX70, w ∈ wsX7_shake := by decide +kernel
  have hS : va_S A s.heap s.heap [] := va_S.rf
  have hl := lv_entry ([.ref (g.1 0 0), .int p0]) (n := 3) (Nat.le_of_ble_eq_true rfl)
  rw [lg_entry_eq]
  generalize (lg_sl ([.ref (g.1 0 0), .int p0]) ++ List.replicate (3 - (lg_sl ([.ref (g.1 0 0), .int p0])).length) Slot.unset).toArray = ls at hl ⊢
  have hl : lv_has ls 3 [(0, .ref (g.1 0 0)), (1, .int p0)] := hl
  have hP : mP G.1 Mw s.heap := hP
  have h_X : Mw (g.1 0 0) = some (.inr (10, [.ref (g.1 1 0), .ref (g.1 2 0), .int (gS st 2), .int (gS st 3), .int (gS st 1), .int (gS st 0), .int (thR g)])) := hR.1 0 0 ro0
  have h_TL : Mw (g.1 1 0) = some (.inr (2, [.int (mcR g 1 0), .ref (g.1 3 0), .int ((nI (nT st)))])) := hR.1 1 0 ro1
  have h_IL : Mw (g.1 2 0) = some (.inr (2, [.int (mcR g 2 0), .ref (g.1 4 0), .int ((nI (nN st)))])) := hR.1 2 0 ro2
  have hti9 := hR.ne ro1 ro2 (by omega)
  have hnT8 := hV.1.1
  have hnN8 := Nat.le_trans hV.1.2 (show 6 ≤ 8 by decide)
  refine lv_aload_n hx hb dX7_shake_0 rfl (lv_at hl 0 rfl) ?_
  refine lv_aload_n hx hb dX7_shake_1 rfl (lv_at hl 0 rfl) ?_
  refine lv_iload_n hx hb dX7_shake_2 rfl (lv_at hl 1 rfl) ?_
  refine m_calli (va_runV (As := [.int p0]) (rest := [.ref (g.1 0 0)]) ⟨hx, hb, hml, hown, hts⟩ (c_X7_isNone l G A Mw  p0 h_X h_IL hnN8) (cwV 1 hts gX7_shake_X7_isNone rfl rfl rfl (by decide +kernel) ⟨Nat.le_of_ble_eq_true rfl, Nat.le_of_ble_eq_true rfl⟩) (mPreV hG hS hP hI hA (hP _ _ h_X) (r := (RX7, TX7, 7)) rfl) rfl rfl hl.1 rfl (lv_room (Nat.le_of_ble_eq_true rfl)) dX7_shake_3 ⟨Nat.le_of_ble_eq_true rfl, Nat.le_of_ble_eq_true rfl⟩) hS (fun r1 Mw1 H locs hp_r1 hP hI hS => ?_)
  obtain ⟨hb9, hm9⟩ := hp_r1
  subst Mw1
  rcases hb9 with ⟨hr9, hq_r1⟩ | ⟨hr9, hq_r1⟩
  · subst hr9
    have hi9 := hq_r1
    have e_p0 : p0 = nI (ix p0) := nI_cl hi9.1
    rw [e_p0] at hl
    have hf4 := hR.f4 hi9.2
    have h_ID : Mw (g.1 4 0) = some (.inl (G.2.1 5, 10, .inr (.inr (.inr (.inr (qf (nN st) (g.1 7))))))) := hR.1 4 0 (ro4 hf4)
    have h_I : Mw (g.1 7 (ix p0)) = some (.inr (8, [.ref (g.1 5 (tbN st (ix p0))), .int (itS st (ix p0) 1), .int (sof (itS st (ix p0) 2)), .int (itS st (ix p0) 3), .int (itS st (ix p0) 7), .int (itS st (ix p0) 6), .int (itS st (ix p0) 5), .int (itS st (ix p0) 12), .int (itS st (ix p0) 13), .int (itS st (ix p0) 14), .int (itS st (ix p0) 15), .int (itS st (ix p0) 8), .int (itS st (ix p0) 9), .int (itS st (ix p0) 10), .int (ceR g (ix p0)), .ref (g.1 8 (ix p0)), .ref (g.1 9 (ix p0))])) := hR.1 7 _ (ro7 hi9.2)
    refine lv_iconst (v := 1) hx hb dX7_shake_6 (by decide) ?_
    refine m_calli (va_runV (As := [.int 0, .int 1]) (rest := []) ⟨hx, hb, hml, hown, hts⟩ (c_X7_isThrown0 l G A Mw  1 h_X) (cwV 2 hts gX7_shake_X7_isThrown rfl rfl rfl (by decide +kernel) ⟨Nat.le_of_ble_eq_true rfl, Nat.le_of_ble_eq_true rfl⟩) (mPreV hG hS hP hI hA (hP _ _ h_X) (r := (RX7, TX7, 7)) rfl) rfl rfl hl.1 rfl (lv_room (Nat.le_of_ble_eq_true rfl)) dX7_shake_7 ⟨Nat.le_of_ble_eq_true rfl, Nat.le_of_ble_eq_true rfl⟩) hS (fun r2 Mw1 H locs hp_r2 hP hI hS => ?_)
    obtain ⟨hp_r2, hm9⟩ := hp_r2
    subst Mw1
    subst hp_r2
    have h_TL := mu_k (e := .inr (10, [.ref (g.1 1 0), .ref (g.1 2 0), .int (gS st 2), .int (gS st 3), .int (gS st 1), .int (gS st 0), .int 0])) (kd_ne h_TL h_X rfl) h_TL
    have h_IL := mu_k (e := .inr (10, [.ref (g.1 1 0), .ref (g.1 2 0), .int (gS st 2), .int (gS st 3), .int (gS st 1), .int (gS st 0), .int 0])) (kd_ne h_IL h_X rfl) h_IL
    have h_ID := mu_k (e := .inr (10, [.ref (g.1 1 0), .ref (g.1 2 0), .int (gS st 2), .int (gS st 3), .int (gS st 1), .int (gS st 0), .int 0])) (kd_ne h_ID h_X rfl) h_ID
    have h_I := mu_k (e := .inr (10, [.ref (g.1 1 0), .ref (g.1 2 0), .int (gS st 2), .int (gS st 3), .int (gS st 1), .int (gS st 0), .int 0])) (kd_ne h_I h_X rfl) h_I
    have h_X : (mu Mw (g.1 0 0) (.inr (10, [.ref (g.1 1 0), .ref (g.1 2 0), .int (gS st 2), .int (gS st 3), .int (gS st 1), .int (gS st 0), .int 0]))) (g.1 0 0) = some (.inr (10, [.ref (g.1 1 0), .ref (g.1 2 0), .int (gS st 2), .int (gS st 3), .int (gS st 1), .int (gS st 0), .int 0])) := mu_s
    refine lv_if_ne (tgt := 74) hx hb dX7_shake_10 (by decide) (fun h9 => absurd h9 (by decide)) (fun _ => ?_)
    refine lv_aload_n hx hb dX7_shake_13 rfl (lv_at hl 0 rfl) ?_
    refine lv_aload_n hx hb dX7_shake_14 rfl (lv_at hl 0 rfl) ?_
    refine m_get (ci := 10) (v := .ref (g.1 2 0)) (C := RX7) (T := TX7) (N := 7) hx hb hts i_X7 hown hK (hP _ _ h_X) rfl 1 (by decide) (hts (.fieldLink RX7 16 "MeniscusModel" "instruments" "Ljava/util/ArrayList;") (by decide +kernel)) (fun _ h9 => h9) rfl dX7_shake_15 ?_
    refine lv_iload_n hx hb dX7_shake_18 rfl (lv_at hl 1 rfl) ?_
    refine m_callq (va_runV (As := [.int (nI (ix p0))]) (rest := [.ref (g.1 0 0)]) ⟨hx, hb, hml, hown, hts⟩ (c_Jx4a65c_get_915e3 l G A (mu Mw (g.1 0 0) (.inr (10, [.ref (g.1 1 0), .ref (g.1 2 0), .int (gS st 2), .int (gS st 3), .int (gS st 1), .int (gS st 0), .int 0])))  h_IL h_ID (ix p0) (g.1 7 (ix p0)) hi9.2 hnN8 (qf_p hi9.2)) (cwV 1 hts gX7_shake_Jx4a65c_get_915e3 rfl rfl rfl (by decide +kernel) ⟨Nat.le_of_ble_eq_true rfl, Nat.le_of_ble_eq_true rfl⟩) (mPreV hG hS hP hI hA (hP _ _ h_IL) (r := (RJx4a65c, TJx4a65c, 3)) rfl) rfl rfl hl.1 rfl (lv_room (Nat.le_of_ble_eq_true rfl)) dX7_shake_19 ⟨Nat.le_of_ble_eq_true rfl, Nat.le_of_ble_eq_true rfl⟩) hS (fun r3 Mw1 H locs hp_r3 hP hI hS => ?_)
    obtain ⟨hp_r3, hm9⟩ := hp_r3
    subst Mw1
    subst hp_r3
    refine va_castE hx hb hown (hts (.classLink RX7 79 RX5) (by decide +kernel)) (va_recv hK (va_at.one (hP _ _ h_I)) (q0 := 0) (q := (RX5, TX5, 17)) rfl rfl) dX7_shake_22 ?_
    refine m_getN (ci := 8) (v := .int (itS st (ix p0) 9)) (C := RX5) (T := TX5) (N := 17) hx hb hts i_X5 hown hK (hP _ _ h_I) rfl 12 (by decide) (va_Nw.use rfl (hG.2.1.2.1 ("MeniscusModel", 170, "MeniscusModel$Instrument", "isKeeper", "Z", "MeniscusModel") (by decide +kernel))) (fun _ h9 => h9) rfl dX7_shake_25 ?_
    refine lv_if_ne (tgt := 35) hx hb dX7_shake_28 (by decide) (fun c4 => ?_) (fun c4 => ?_)
    · skip
      refine lv_iconst (v := 0) hx hb dX7_shake_35 (by decide) ?_
      refine lv_iconst (v := 2) hx hb dX7_shake_36 (by decide) ?_
      refine m_calli (va_runV (As := [.int 0, .int 2]) (rest := []) ⟨hx, hb, hml, hown, hts⟩ (c_X7_isThrown0 l G A (mu Mw (g.1 0 0) (.inr (10, [.ref (g.1 1 0), .ref (g.1 2 0), .int (gS st 2), .int (gS st 3), .int (gS st 1), .int (gS st 0), .int 0])))  2 h_X) (cwV 2 hts gX7_shake_X7_isThrown rfl rfl rfl (by decide +kernel) ⟨Nat.le_of_ble_eq_true rfl, Nat.le_of_ble_eq_true rfl⟩) (mPreV hG hS hP hI hA (hP _ _ h_X) (r := (RX7, TX7, 7)) rfl) rfl rfl hl.1 rfl (lv_room (Nat.le_of_ble_eq_true rfl)) dX7_shake_37 ⟨Nat.le_of_ble_eq_true rfl, Nat.le_of_ble_eq_true rfl⟩) hS (fun r5 Mw1 H locs hp_r5 hP hI hS => ?_)
      obtain ⟨hp_r5, hm9⟩ := hp_r5
      subst Mw1
      subst hp_r5
      have h_TL := mu_k (e := .inr (10, [.ref (g.1 1 0), .ref (g.1 2 0), .int (gS st 2), .int (gS st 3), .int (gS st 1), .int (gS st 0), .int 0])) (kd_ne h_TL h_X rfl) h_TL
      have h_IL := mu_k (e := .inr (10, [.ref (g.1 1 0), .ref (g.1 2 0), .int (gS st 2), .int (gS st 3), .int (gS st 1), .int (gS st 0), .int 0])) (kd_ne h_IL h_X rfl) h_IL
      have h_ID := mu_k (e := .inr (10, [.ref (g.1 1 0), .ref (g.1 2 0), .int (gS st 2), .int (gS st 3), .int (gS st 1), .int (gS st 0), .int 0])) (kd_ne h_ID h_X rfl) h_ID
      have h_I := mu_k (e := .inr (10, [.ref (g.1 1 0), .ref (g.1 2 0), .int (gS st 2), .int (gS st 3), .int (gS st 1), .int (gS st 0), .int 0])) (kd_ne h_I h_X rfl) h_I
      have h_X : (mu (mu Mw (g.1 0 0) (.inr (10, [.ref (g.1 1 0), .ref (g.1 2 0), .int (gS st 2), .int (gS st 3), .int (gS st 1), .int (gS st 0), .int 0]))) (g.1 0 0) (.inr (10, [.ref (g.1 1 0), .ref (g.1 2 0), .int (gS st 2), .int (gS st 3), .int (gS st 1), .int (gS st 0), .int 0]))) (g.1 0 0) = some (.inr (10, [.ref (g.1 1 0), .ref (g.1 2 0), .int (gS st 2), .int (gS st 3), .int (gS st 1), .int (gS st 0), .int 0])) := mu_s
      refine lv_if_ne (tgt := 74) hx hb dX7_shake_40 (by decide) (fun h9 => absurd h9 (by decide)) (fun _ => ?_)
      refine lv_aload_n hx hb dX7_shake_43 rfl (lv_at hl 0 rfl) ?_
      refine lv_aload_n hx hb dX7_shake_44 rfl (lv_at hl 0 rfl) ?_
      refine m_get (ci := 10) (v := .ref (g.1 2 0)) (C := RX7) (T := TX7) (N := 7) hx hb hts i_X7 hown hK (hP _ _ h_X) rfl 1 (by decide) (hts (.fieldLink RX7 16 "MeniscusModel" "instruments" "Ljava/util/ArrayList;") (by decide +kernel)) (fun _ h9 => h9) rfl dX7_shake_45 ?_
      refine lv_iload_n hx hb dX7_shake_48 rfl (lv_at hl 1 rfl) ?_
      refine m_callq (va_runV (As := [.int (nI (ix p0))]) (rest := [.ref (g.1 0 0)]) ⟨hx, hb, hml, hown, hts⟩ (c_Jx4a65c_get_915e3 l G A (mu (mu Mw (g.1 0 0) (.inr (10, [.ref (g.1 1 0), .ref (g.1 2 0), .int (gS st 2), .int (gS st 3), .int (gS st 1), .int (gS st 0), .int 0]))) (g.1 0 0) (.inr (10, [.ref (g.1 1 0), .ref (g.1 2 0), .int (gS st 2), .int (gS st 3), .int (gS st 1), .int (gS st 0), .int 0])))  h_IL h_ID (ix p0) (g.1 7 (ix p0)) hi9.2 hnN8 (qf_p hi9.2)) (cwV 1 hts gX7_shake_Jx4a65c_get_915e3 rfl rfl rfl (by decide +kernel) ⟨Nat.le_of_ble_eq_true rfl, Nat.le_of_ble_eq_true rfl⟩) (mPreV hG hS hP hI hA (hP _ _ h_IL) (r := (RJx4a65c, TJx4a65c, 3)) rfl) rfl rfl hl.1 rfl (lv_room (Nat.le_of_ble_eq_true rfl)) dX7_shake_49 ⟨Nat.le_of_ble_eq_true rfl, Nat.le_of_ble_eq_true rfl⟩) hS (fun r6 Mw1 H locs hp_r6 hP hI hS => ?_)
      obtain ⟨hp_r6, hm9⟩ := hp_r6
      subst Mw1
      subst hp_r6
      refine va_castE hx hb hown (hts (.classLink RX7 79 RX5) (by decide +kernel)) (va_recv hK (va_at.one (hP _ _ h_I)) (q0 := 0) (q := (RX5, TX5, 17)) rfl rfl) dX7_shake_52 ?_
      refine m_getN (ci := 8) (v := .int (itS st (ix p0) 10)) (C := RX5) (T := TX5) (N := 17) hx hb hts i_X5 hown hK (hP _ _ h_I) rfl 13 (by decide) (va_Nw.use rfl (hG.2.1.2.1 ("MeniscusModel", 173, "MeniscusModel$Instrument", "greatest", "I", "MeniscusModel") (by decide +kernel))) (fun _ h9 => h9) rfl dX7_shake_55 ?_
      refine lv_iconst (v := (-1)) hx hb dX7_shake_58 (by decide) ?_
      refine lv_icmp_ne (tgt := 66) hx hb dX7_shake_59 (by decide) (fun c7 => ?_) (fun c7 => ?_)
      · skip
        refine lv_iconst (v := 0) hx hb dX7_shake_66 (by decide) ?_
        refine lv_iconst (v := 3) hx hb dX7_shake_67 (by decide) ?_
        refine m_calli (va_runV (As := [.int 0, .int 3]) (rest := []) ⟨hx, hb, hml, hown, hts⟩ (c_X7_isThrown0 l G A (mu (mu Mw (g.1 0 0) (.inr (10, [.ref (g.1 1 0), .ref (g.1 2 0), .int (gS st 2), .int (gS st 3), .int (gS st 1), .int (gS st 0), .int 0]))) (g.1 0 0) (.inr (10, [.ref (g.1 1 0), .ref (g.1 2 0), .int (gS st 2), .int (gS st 3), .int (gS st 1), .int (gS st 0), .int 0])))  3 h_X) (cwV 2 hts gX7_shake_X7_isThrown rfl rfl rfl (by decide +kernel) ⟨Nat.le_of_ble_eq_true rfl, Nat.le_of_ble_eq_true rfl⟩) (mPreV hG hS hP hI hA (hP _ _ h_X) (r := (RX7, TX7, 7)) rfl) rfl rfl hl.1 rfl (lv_room (Nat.le_of_ble_eq_true rfl)) dX7_shake_68 ⟨Nat.le_of_ble_eq_true rfl, Nat.le_of_ble_eq_true rfl⟩) hS (fun r8 Mw1 H locs hp_r8 hP hI hS => ?_)
        obtain ⟨hp_r8, hm9⟩ := hp_r8
        subst Mw1
        subst hp_r8
        have h_TL := mu_k (e := .inr (10, [.ref (g.1 1 0), .ref (g.1 2 0), .int (gS st 2), .int (gS st 3), .int (gS st 1), .int (gS st 0), .int 0])) (kd_ne h_TL h_X rfl) h_TL
        have h_IL := mu_k (e := .inr (10, [.ref (g.1 1 0), .ref (g.1 2 0), .int (gS st 2), .int (gS st 3), .int (gS st 1), .int (gS st 0), .int 0])) (kd_ne h_IL h_X rfl) h_IL
        have h_ID := mu_k (e := .inr (10, [.ref (g.1 1 0), .ref (g.1 2 0), .int (gS st 2), .int (gS st 3), .int (gS st 1), .int (gS st 0), .int 0])) (kd_ne h_ID h_X rfl) h_ID
        have h_I := mu_k (e := .inr (10, [.ref (g.1 1 0), .ref (g.1 2 0), .int (gS st 2), .int (gS st 3), .int (gS st 1), .int (gS st 0), .int 0])) (kd_ne h_I h_X rfl) h_I
        have h_X : (mu (mu (mu Mw (g.1 0 0) (.inr (10, [.ref (g.1 1 0), .ref (g.1 2 0), .int (gS st 2), .int (gS st 3), .int (gS st 1), .int (gS st 0), .int 0]))) (g.1 0 0) (.inr (10, [.ref (g.1 1 0), .ref (g.1 2 0), .int (gS st 2), .int (gS st 3), .int (gS st 1), .int (gS st 0), .int 0]))) (g.1 0 0) (.inr (10, [.ref (g.1 1 0), .ref (g.1 2 0), .int (gS st 2), .int (gS st 3), .int (gS st 1), .int (gS st 0), .int 0]))) (g.1 0 0) = some (.inr (10, [.ref (g.1 1 0), .ref (g.1 2 0), .int (gS st 2), .int (gS st 3), .int (gS st 1), .int (gS st 0), .int 0])) := mu_s
        refine lv_if_eq (tgt := 76) hx hb dX7_shake_71 (by decide) (fun _ => ?_) (fun h9 => absurd h9 (by decide))
        refine lv_aload_n hx hb dX7_shake_76 rfl (lv_at hl 0 rfl) ?_
        refine m_get (ci := 10) (v := .ref (g.1 2 0)) (C := RX7) (T := TX7) (N := 7) hx hb hts i_X7 hown hK (hP _ _ h_X) rfl 1 (by decide) (hts (.fieldLink RX7 16 "MeniscusModel" "instruments" "Ljava/util/ArrayList;") (by decide +kernel)) (fun _ h9 => h9) rfl dX7_shake_77 ?_
        refine lv_iload_n hx hb dX7_shake_80 rfl (lv_at hl 1 rfl) ?_
        refine m_callq (va_runV (As := [.int (nI (ix p0))]) (rest := []) ⟨hx, hb, hml, hown, hts⟩ (c_Jx4a65c_get_915e3 l G A (mu (mu (mu Mw (g.1 0 0) (.inr (10, [.ref (g.1 1 0), .ref (g.1 2 0), .int (gS st 2), .int (gS st 3), .int (gS st 1), .int (gS st 0), .int 0]))) (g.1 0 0) (.inr (10, [.ref (g.1 1 0), .ref (g.1 2 0), .int (gS st 2), .int (gS st 3), .int (gS st 1), .int (gS st 0), .int 0]))) (g.1 0 0) (.inr (10, [.ref (g.1 1 0), .ref (g.1 2 0), .int (gS st 2), .int (gS st 3), .int (gS st 1), .int (gS st 0), .int 0])))  h_IL h_ID (ix p0) (g.1 7 (ix p0)) hi9.2 hnN8 (qf_p hi9.2)) (cwV 1 hts gX7_shake_Jx4a65c_get_915e3 rfl rfl rfl (by decide +kernel) ⟨Nat.le_of_ble_eq_true rfl, Nat.le_of_ble_eq_true rfl⟩) (mPreV hG hS hP hI hA (hP _ _ h_IL) (r := (RJx4a65c, TJx4a65c, 3)) rfl) rfl rfl hl.1 rfl (lv_room (Nat.le_of_ble_eq_true rfl)) dX7_shake_81 ⟨Nat.le_of_ble_eq_true rfl, Nat.le_of_ble_eq_true rfl⟩) hS (fun r9 Mw1 H locs hp_r9 hP hI hS => ?_)
        obtain ⟨hp_r9, hm9⟩ := hp_r9
        subst Mw1
        subst hp_r9
        refine va_castE hx hb hown (hts (.classLink RX7 79 RX5) (by decide +kernel)) (va_recv hK (va_at.one (hP _ _ h_I)) (q0 := 0) (q := (RX5, TX5, 17)) rfl rfl) dX7_shake_84 ?_
        refine m_getN (ci := 8) (v := .int (itS st (ix p0) 10)) (C := RX5) (T := TX5) (N := 17) hx hb hts i_X5 hown hK (hP _ _ h_I) rfl 13 (by decide) (va_Nw.use rfl (hG.2.1.2.1 ("MeniscusModel", 173, "MeniscusModel$Instrument", "greatest", "I", "MeniscusModel") (by decide +kernel))) (fun _ h9 => h9) rfl dX7_shake_87 ?_
        refine lv_istore_n (lv' := [(2, .int (itS st (ix p0) 10)), (0, .ref (g.1 0 0)), (1, .int (nI (ix p0)))]) hx hb dX7_shake_90 rfl hl (by decide) rfl (fun ls hl => ?_)
        refine lv_aload_n hx hb dX7_shake_91 rfl (lv_at hl 1 rfl) ?_
        refine m_get (ci := 10) (v := .ref (g.1 2 0)) (C := RX7) (T := TX7) (N := 7) hx hb hts i_X7 hown hK (hP _ _ h_X) rfl 1 (by decide) (hts (.fieldLink RX7 16 "MeniscusModel" "instruments" "Ljava/util/ArrayList;") (by decide +kernel)) (fun _ h9 => h9) rfl dX7_shake_92 ?_
        refine lv_iload_n hx hb dX7_shake_95 rfl (lv_at hl 2 rfl) ?_
        refine m_callq (va_runV (As := [.int (nI (ix p0))]) (rest := []) ⟨hx, hb, hml, hown, hts⟩ (c_Jx4a65c_get_915e3 l G A (mu (mu (mu Mw (g.1 0 0) (.inr (10, [.ref (g.1 1 0), .ref (g.1 2 0), .int (gS st 2), .int (gS st 3), .int (gS st 1), .int (gS st 0), .int 0]))) (g.1 0 0) (.inr (10, [.ref (g.1 1 0), .ref (g.1 2 0), .int (gS st 2), .int (gS st 3), .int (gS st 1), .int (gS st 0), .int 0]))) (g.1 0 0) (.inr (10, [.ref (g.1 1 0), .ref (g.1 2 0), .int (gS st 2), .int (gS st 3), .int (gS st 1), .int (gS st 0), .int 0])))  h_IL h_ID (ix p0) (g.1 7 (ix p0)) hi9.2 hnN8 (qf_p hi9.2)) (cwV 1 hts gX7_shake_Jx4a65c_get_915e3 rfl rfl rfl (by decide +kernel) ⟨Nat.le_of_ble_eq_true rfl, Nat.le_of_ble_eq_true rfl⟩) (mPreV hG hS hP hI hA (hP _ _ h_IL) (r := (RJx4a65c, TJx4a65c, 3)) rfl) rfl rfl hl.1 rfl (lv_room (Nat.le_of_ble_eq_true rfl)) dX7_shake_96 ⟨Nat.le_of_ble_eq_true rfl, Nat.le_of_ble_eq_true rfl⟩) hS (fun r10 Mw1 H locs hp_r10 hP hI hS => ?_)
        obtain ⟨hp_r10, hm9⟩ := hp_r10
        subst Mw1
        subst hp_r10
        refine va_castE hx hb hown (hts (.classLink RX7 79 RX5) (by decide +kernel)) (va_recv hK (va_at.one (hP _ _ h_I)) (q0 := 0) (q := (RX5, TX5, 17)) rfl rfl) dX7_shake_99 ?_
        refine lv_iconst (v := (-1)) hx hb dX7_shake_102 (by decide) ?_
        refine m_putN (ci := 8) (v := .int ((-1))) (ty := .int) (C := RX5) (T := TX5) (N := 17) hx hb hts i_X5 tyX5 tyX5_ok nmX5 hown hK hP hI hS h_I rfl 13 (by decide) (va_Nw.use rfl (hG.2.1.2.1 ("MeniscusModel", 173, "MeniscusModel$Instrument", "greatest", "I", "MeniscusModel") (by decide +kernel))) (fun _ h9 => h9) rfl (by decide +kernel) rfl rfl (Nat.le_of_ble_eq_true rfl) dX7_shake_103 (fun H locs hP hI hS => ?_)
        have hP : mP G.1 (mu (mu (mu (mu Mw (g.1 0 0) (.inr (10, [.ref (g.1 1 0), .ref (g.1 2 0), .int (gS st 2), .int (gS st 3), .int (gS st 1), .int (gS st 0), .int 0]))) (g.1 0 0) (.inr (10, [.ref (g.1 1 0), .ref (g.1 2 0), .int (gS st 2), .int (gS st 3), .int (gS st 1), .int (gS st 0), .int 0]))) (g.1 0 0) (.inr (10, [.ref (g.1 1 0), .ref (g.1 2 0), .int (gS st 2), .int (gS st 3), .int (gS st 1), .int (gS st 0), .int 0]))) (g.1 7 (ix p0)) (.inr (8, [.ref (g.1 5 (tbN st (ix p0))), .int (itS st (ix p0) 1), .int (sof (itS st (ix p0) 2)), .int (itS st (ix p0) 3), .int (itS st (ix p0) 7), .int (itS st (ix p0) 6), .int (itS st (ix p0) 5), .int (itS st (ix p0) 12), .int (itS st (ix p0) 13), .int (itS st (ix p0) 14), .int (itS st (ix p0) 15), .int (itS st (ix p0) 8), .int (itS st (ix p0) 9), .int ((-1)), .int (ceR g (ix p0)), .ref (g.1 8 (ix p0)), .ref (g.1 9 (ix p0))]))) H := hP
        have hI : mI A (mu (mu (mu (mu Mw (g.1 0 0) (.inr (10, [.ref (g.1 1 0), .ref (g.1 2 0), .int (gS st 2), .int (gS st 3), .int (gS st 1), .int (gS st 0), .int 0]))) (g.1 0 0) (.inr (10, [.ref (g.1 1 0), .ref (g.1 2 0), .int (gS st 2), .int (gS st 3), .int (gS st 1), .int (gS st 0), .int 0]))) (g.1 0 0) (.inr (10, [.ref (g.1 1 0), .ref (g.1 2 0), .int (gS st 2), .int (gS st 3), .int (gS st 1), .int (gS st 0), .int 0]))) (g.1 7 (ix p0)) (.inr (8, [.ref (g.1 5 (tbN st (ix p0))), .int (itS st (ix p0) 1), .int (sof (itS st (ix p0) 2)), .int (itS st (ix p0) 3), .int (itS st (ix p0) 7), .int (itS st (ix p0) 6), .int (itS st (ix p0) 5), .int (itS st (ix p0) 12), .int (itS st (ix p0) 13), .int (itS st (ix p0) 14), .int (itS st (ix p0) 15), .int (itS st (ix p0) 8), .int (itS st (ix p0) 9), .int ((-1)), .int (ceR g (ix p0)), .ref (g.1 8 (ix p0)), .ref (g.1 9 (ix p0))]))) := hI
        have h_X := mu_k (e := .inr (8, [.ref (g.1 5 (tbN st (ix p0))), .int (itS st (ix p0) 1), .int (sof (itS st (ix p0) 2)), .int (itS st (ix p0) 3), .int (itS st (ix p0) 7), .int (itS st (ix p0) 6), .int (itS st (ix p0) 5), .int (itS st (ix p0) 12), .int (itS st (ix p0) 13), .int (itS st (ix p0) 14), .int (itS st (ix p0) 15), .int (itS st (ix p0) 8), .int (itS st (ix p0) 9), .int ((-1)), .int (ceR g (ix p0)), .ref (g.1 8 (ix p0)), .ref (g.1 9 (ix p0))])) (kd_ne h_X h_I rfl) h_X
        have h_TL := mu_k (e := .inr (8, [.ref (g.1 5 (tbN st (ix p0))), .int (itS st (ix p0) 1), .int (sof (itS st (ix p0) 2)), .int (itS st (ix p0) 3), .int (itS st (ix p0) 7), .int (itS st (ix p0) 6), .int (itS st (ix p0) 5), .int (itS st (ix p0) 12), .int (itS st (ix p0) 13), .int (itS st (ix p0) 14), .int (itS st (ix p0) 15), .int (itS st (ix p0) 8), .int (itS st (ix p0) 9), .int ((-1)), .int (ceR g (ix p0)), .ref (g.1 8 (ix p0)), .ref (g.1 9 (ix p0))])) (kd_ne h_TL h_I rfl) h_TL
        have h_IL := mu_k (e := .inr (8, [.ref (g.1 5 (tbN st (ix p0))), .int (itS st (ix p0) 1), .int (sof (itS st (ix p0) 2)), .int (itS st (ix p0) 3), .int (itS st (ix p0) 7), .int (itS st (ix p0) 6), .int (itS st (ix p0) 5), .int (itS st (ix p0) 12), .int (itS st (ix p0) 13), .int (itS st (ix p0) 14), .int (itS st (ix p0) 15), .int (itS st (ix p0) 8), .int (itS st (ix p0) 9), .int ((-1)), .int (ceR g (ix p0)), .ref (g.1 8 (ix p0)), .ref (g.1 9 (ix p0))])) (kd_ne h_IL h_I rfl) h_IL
        have h_ID := mu_k (e := .inr (8, [.ref (g.1 5 (tbN st (ix p0))), .int (itS st (ix p0) 1), .int (sof (itS st (ix p0) 2)), .int (itS st (ix p0) 3), .int (itS st (ix p0) 7), .int (itS st (ix p0) 6), .int (itS st (ix p0) 5), .int (itS st (ix p0) 12), .int (itS st (ix p0) 13), .int (itS st (ix p0) 14), .int (itS st (ix p0) 15), .int (itS st (ix p0) 8), .int (itS st (ix p0) 9), .int ((-1)), .int (ceR g (ix p0)), .ref (g.1 8 (ix p0)), .ref (g.1 9 (ix p0))])) (kd_ne h_ID h_I rfl) h_ID
        have h_I : (mu (mu (mu (mu Mw (g.1 0 0) (.inr (10, [.ref (g.1 1 0), .ref (g.1 2 0), .int (gS st 2), .int (gS st 3), .int (gS st 1), .int (gS st 0), .int 0]))) (g.1 0 0) (.inr (10, [.ref (g.1 1 0), .ref (g.1 2 0), .int (gS st 2), .int (gS st 3), .int (gS st 1), .int (gS st 0), .int 0]))) (g.1 0 0) (.inr (10, [.ref (g.1 1 0), .ref (g.1 2 0), .int (gS st 2), .int (gS st 3), .int (gS st 1), .int (gS st 0), .int 0]))) (g.1 7 (ix p0)) (.inr (8, [.ref (g.1 5 (tbN st (ix p0))), .int (itS st (ix p0) 1), .int (sof (itS st (ix p0) 2)), .int (itS st (ix p0) 3), .int (itS st (ix p0) 7), .int (itS st (ix p0) 6), .int (itS st (ix p0) 5), .int (itS st (ix p0) 12), .int (itS st (ix p0) 13), .int (itS st (ix p0) 14), .int (itS st (ix p0) 15), .int (itS st (ix p0) 8), .int (itS st (ix p0) 9), .int ((-1)), .int (ceR g (ix p0)), .ref (g.1 8 (ix p0)), .ref (g.1 9 (ix p0))]))) (g.1 7 (ix p0)) = some (.inr (8, [.ref (g.1 5 (tbN st (ix p0))), .int (itS st (ix p0) 1), .int (sof (itS st (ix p0) 2)), .int (itS st (ix p0) 3), .int (itS st (ix p0) 7), .int (itS st (ix p0) 6), .int (itS st (ix p0) 5), .int (itS st (ix p0) 12), .int (itS st (ix p0) 13), .int (itS st (ix p0) 14), .int (itS st (ix p0) 15), .int (itS st (ix p0) 8), .int (itS st (ix p0) 9), .int ((-1)), .int (ceR g (ix p0)), .ref (g.1 8 (ix p0)), .ref (g.1 9 (ix p0))])) := mu_s
        refine lv_iload_n hx hb dX7_shake_106 rfl (lv_at hl 0 rfl) ?_
        refine W.widen (k := 0) (n := 0) (Nat.le_of_ble_eq_true rfl) (Nat.le_of_ble_eq_true rfl) ?_
        exact W.iret (v := itS st (ix p0) 10) hx hb hr (fun t99 ht99 hW99 => ⟨⟨itS st (ix p0) 10, (mu (mu (mu (mu Mw (g.1 0 0) (.inr (10, [.ref (g.1 1 0), .ref (g.1 2 0), .int (gS st 2), .int (gS st 3), .int (gS st 1), .int (gS st 0), .int 0]))) (g.1 0 0) (.inr (10, [.ref (g.1 1 0), .ref (g.1 2 0), .int (gS st 2), .int (gS st 3), .int (gS st 1), .int (gS st 0), .int 0]))) (g.1 0 0) (.inr (10, [.ref (g.1 1 0), .ref (g.1 2 0), .int (gS st 2), .int (gS st 3), .int (gS st 1), .int (gS st 0), .int 0]))) (g.1 7 (ix p0)) (.inr (8, [.ref (g.1 5 (tbN st (ix p0))), .int (itS st (ix p0) 1), .int (sof (itS st (ix p0) 2)), .int (itS st (ix p0) 3), .int (itS st (ix p0) 7), .int (itS st (ix p0) 6), .int (itS st (ix p0) 5), .int (itS st (ix p0) 12), .int (itS st (ix p0) 13), .int (itS st (ix p0) 14), .int (itS st (ix p0) 15), .int (itS st (ix p0) 8), .int (itS st (ix p0) 9), .int ((-1)), .int (ceR g (ix p0)), .ref (g.1 8 (ix p0)), .ref (g.1 9 (ix p0))]))), rfl, RP.ok (by unfold m_shake; first | (rw [chk_p hi9, chk_p c4, chk_p c7]; done) | (rw [chk_p hi9, chk_p c4, chk_p c7]; rfl)) (hR.io hi9.2 (gS st) (fu (itS st (ix p0)) 10 (-1)) rfl (ceR g (ix p0)) 0 h_X h_I (fun x9 e9 hx9 h0 h1 => ((mu_n h1).trans ((mu_n h0).trans ((mu_n h0).trans ((mu_n h0).trans (rfl))))).trans hx9) ((hR.2.2.2.2 _ hi9.2).2.1)) rfl rfl, by rw [ht99]; exact hP, hI⟩, hS.F ht99⟩) hS.2.2 dX7_shake_107
      · skip
        refine lv_iconst (v := 1) hx hb dX7_shake_62 (by decide) ?_
        refine lv_goto (tgt := 67) hx hb dX7_shake_63 (by decide) ?_
        refine lv_iconst (v := 3) hx hb dX7_shake_67 (by decide) ?_
        refine m_calli (va_runV (As := [.int 1, .int 3]) (rest := []) ⟨hx, hb, hml, hown, hts⟩ (c_X7_isThrown1 l G A (mu (mu Mw (g.1 0 0) (.inr (10, [.ref (g.1 1 0), .ref (g.1 2 0), .int (gS st 2), .int (gS st 3), .int (gS st 1), .int (gS st 0), .int 0]))) (g.1 0 0) (.inr (10, [.ref (g.1 1 0), .ref (g.1 2 0), .int (gS st 2), .int (gS st 3), .int (gS st 1), .int (gS st 0), .int 0])))  3 h_X) (cwV 2 hts gX7_shake_X7_isThrown rfl rfl rfl (by decide +kernel) ⟨Nat.le_of_ble_eq_true rfl, Nat.le_of_ble_eq_true rfl⟩) (mPreV hG hS hP hI hA (hP _ _ h_X) (r := (RX7, TX7, 7)) rfl) rfl rfl hl.1 rfl (lv_room (Nat.le_of_ble_eq_true rfl)) dX7_shake_68 ⟨Nat.le_of_ble_eq_true rfl, Nat.le_of_ble_eq_true rfl⟩) hS (fun r11 Mw1 H locs hp_r11 hP hI hS => ?_)
        obtain ⟨hp_r11, hm9⟩ := hp_r11
        subst Mw1
        subst hp_r11
        have h_TL := mu_k (e := .inr (10, [.ref (g.1 1 0), .ref (g.1 2 0), .int (gS st 2), .int (gS st 3), .int (gS st 1), .int (gS st 0), .int 3])) (kd_ne h_TL h_X rfl) h_TL
        have h_IL := mu_k (e := .inr (10, [.ref (g.1 1 0), .ref (g.1 2 0), .int (gS st 2), .int (gS st 3), .int (gS st 1), .int (gS st 0), .int 3])) (kd_ne h_IL h_X rfl) h_IL
        have h_ID := mu_k (e := .inr (10, [.ref (g.1 1 0), .ref (g.1 2 0), .int (gS st 2), .int (gS st 3), .int (gS st 1), .int (gS st 0), .int 3])) (kd_ne h_ID h_X rfl) h_ID
        have h_I := mu_k (e := .inr (10, [.ref (g.1 1 0), .ref (g.1 2 0), .int (gS st 2), .int (gS st 3), .int (gS st 1), .int (gS st 0), .int 3])) (kd_ne h_I h_X rfl) h_I
        have h_X : (mu (mu (mu Mw (g.1 0 0) (.inr (10, [.ref (g.1 1 0), .ref (g.1 2 0), .int (gS st 2), .int (gS st 3), .int (gS st 1), .int (gS st 0), .int 0]))) (g.1 0 0) (.inr (10, [.ref (g.1 1 0), .ref (g.1 2 0), .int (gS st 2), .int (gS st 3), .int (gS st 1), .int (gS st 0), .int 0]))) (g.1 0 0) (.inr (10, [.ref (g.1 1 0), .ref (g.1 2 0), .int (gS st 2), .int (gS st 3), .int (gS st 1), .int (gS st 0), .int 3]))) (g.1 0 0) = some (.inr (10, [.ref (g.1 1 0), .ref (g.1 2 0), .int (gS st 2), .int (gS st 3), .int (gS st 1), .int (gS st 0), .int 3])) := mu_s
        refine lv_if_eq (tgt := 76) hx hb dX7_shake_71 (by decide) (fun h9 => absurd h9 (by decide)) (fun _ => ?_)
        refine lv_iconst (v := 0) hx hb dX7_shake_74 (by decide) ?_
        refine W.widen (k := 0) (n := 0) (Nat.le_of_ble_eq_true rfl) (Nat.le_of_ble_eq_true rfl) ?_
        exact W.iret (v := 0) hx hb hr (fun t99 ht99 hW99 => ⟨⟨0, (mu (mu (mu Mw (g.1 0 0) (.inr (10, [.ref (g.1 1 0), .ref (g.1 2 0), .int (gS st 2), .int (gS st 3), .int (gS st 1), .int (gS st 0), .int 0]))) (g.1 0 0) (.inr (10, [.ref (g.1 1 0), .ref (g.1 2 0), .int (gS st 2), .int (gS st 3), .int (gS st 1), .int (gS st 0), .int 0]))) (g.1 0 0) (.inr (10, [.ref (g.1 1 0), .ref (g.1 2 0), .int (gS st 2), .int (gS st 3), .int (gS st 1), .int (gS st 0), .int 3]))), rfl, RP.no (k := 3) (by unfold m_shake; first | (rw [chk_p hi9, chk_p c4, chk_n (fun q9 => q9 c7)]; done) | (rw [chk_p hi9, chk_p c4, chk_n (fun q9 => q9 c7)]; rfl)) (by decide) (hR.th 3 h_X (fun x9 e9 hx9 h0 => ((mu_n h0).trans ((mu_n h0).trans ((mu_n h0).trans (rfl)))).trans hx9)) rfl rfl, by rw [ht99]; exact hP, hI⟩, hS.F ht99⟩) hS.2.2 dX7_shake_75
    · skip
      refine lv_iconst (v := 1) hx hb dX7_shake_31 (by decide) ?_
      refine lv_goto (tgt := 36) hx hb dX7_shake_32 (by decide) ?_
      refine lv_iconst (v := 2) hx hb dX7_shake_36 (by decide) ?_
      refine m_calli (va_runV (As := [.int 1, .int 2]) (rest := []) ⟨hx, hb, hml, hown, hts⟩ (c_X7_isThrown1 l G A (mu Mw (g.1 0 0) (.inr (10, [.ref (g.1 1 0), .ref (g.1 2 0), .int (gS st 2), .int (gS st 3), .int (gS st 1), .int (gS st 0), .int 0])))  2 h_X) (cwV 2 hts gX7_shake_X7_isThrown rfl rfl rfl (by decide +kernel) ⟨Nat.le_of_ble_eq_true rfl, Nat.le_of_ble_eq_true rfl⟩) (mPreV hG hS hP hI hA (hP _ _ h_X) (r := (RX7, TX7, 7)) rfl) rfl rfl hl.1 rfl (lv_room (Nat.le_of_ble_eq_true rfl)) dX7_shake_37 ⟨Nat.le_of_ble_eq_true rfl, Nat.le_of_ble_eq_true rfl⟩) hS (fun r12 Mw1 H locs hp_r12 hP hI hS => ?_)
      obtain ⟨hp_r12, hm9⟩ := hp_r12
      subst Mw1
      subst hp_r12
      have h_TL := mu_k (e := .inr (10, [.ref (g.1 1 0), .ref (g.1 2 0), .int (gS st 2), .int (gS st 3), .int (gS st 1), .int (gS st 0), .int 2])) (kd_ne h_TL h_X rfl) h_TL
      have h_IL := mu_k (e := .inr (10, [.ref (g.1 1 0), .ref (g.1 2 0), .int (gS st 2), .int (gS st 3), .int (gS st 1), .int (gS st 0), .int 2])) (kd_ne h_IL h_X rfl) h_IL
      have h_ID := mu_k (e := .inr (10, [.ref (g.1 1 0), .ref (g.1 2 0), .int (gS st 2), .int (gS st 3), .int (gS st 1), .int (gS st 0), .int 2])) (kd_ne h_ID h_X rfl) h_ID
      have h_I := mu_k (e := .inr (10, [.ref (g.1 1 0), .ref (g.1 2 0), .int (gS st 2), .int (gS st 3), .int (gS st 1), .int (gS st 0), .int 2])) (kd_ne h_I h_X rfl) h_I
      have h_X : (mu (mu Mw (g.1 0 0) (.inr (10, [.ref (g.1 1 0), .ref (g.1 2 0), .int (gS st 2), .int (gS st 3), .int (gS st 1), .int (gS st 0), .int 0]))) (g.1 0 0) (.inr (10, [.ref (g.1 1 0), .ref (g.1 2 0), .int (gS st 2), .int (gS st 3), .int (gS st 1), .int (gS st 0), .int 2]))) (g.1 0 0) = some (.inr (10, [.ref (g.1 1 0), .ref (g.1 2 0), .int (gS st 2), .int (gS st 3), .int (gS st 1), .int (gS st 0), .int 2])) := mu_s
      refine lv_if_ne (tgt := 74) hx hb dX7_shake_40 (by decide) (fun _ => ?_) (fun h9 => absurd h9 (by decide))
      refine lv_iconst (v := 0) hx hb dX7_shake_74 (by decide) ?_
      refine W.widen (k := 0) (n := 0) (Nat.le_of_ble_eq_true rfl) (Nat.le_of_ble_eq_true rfl) ?_
      exact W.iret (v := 0) hx hb hr (fun t99 ht99 hW99 => ⟨⟨0, (mu (mu Mw (g.1 0 0) (.inr (10, [.ref (g.1 1 0), .ref (g.1 2 0), .int (gS st 2), .int (gS st 3), .int (gS st 1), .int (gS st 0), .int 0]))) (g.1 0 0) (.inr (10, [.ref (g.1 1 0), .ref (g.1 2 0), .int (gS st 2), .int (gS st 3), .int (gS st 1), .int (gS st 0), .int 2]))), rfl, RP.no (k := 2) (by unfold m_shake; first | (rw [chk_p hi9, chk_n (fun q9 => q9 c4)]; done) | (rw [chk_p hi9, chk_n (fun q9 => q9 c4)]; rfl)) (by decide) (hR.th 2 h_X (fun x9 e9 hx9 h0 => ((mu_n h0).trans ((mu_n h0).trans (rfl))).trans hx9)) rfl rfl, by rw [ht99]; exact hP, hI⟩, hS.F ht99⟩) hS.2.2 dX7_shake_75
  · subst hr9
    refine lv_iconst (v := 1) hx hb dX7_shake_6 (by decide) ?_
    refine m_calli (va_runV (As := [.int 1, .int 1]) (rest := []) ⟨hx, hb, hml, hown, hts⟩ (c_X7_isThrown1 l G A Mw  1 h_X) (cwV 2 hts gX7_shake_X7_isThrown rfl rfl rfl (by decide +kernel) ⟨Nat.le_of_ble_eq_true rfl, Nat.le_of_ble_eq_true rfl⟩) (mPreV hG hS hP hI hA (hP _ _ h_X) (r := (RX7, TX7, 7)) rfl) rfl rfl hl.1 rfl (lv_room (Nat.le_of_ble_eq_true rfl)) dX7_shake_7 ⟨Nat.le_of_ble_eq_true rfl, Nat.le_of_ble_eq_true rfl⟩) hS (fun r13 Mw1 H locs hp_r13 hP hI hS => ?_)
    obtain ⟨hp_r13, hm9⟩ := hp_r13
    subst Mw1
    subst hp_r13
    have h_TL := mu_k (e := .inr (10, [.ref (g.1 1 0), .ref (g.1 2 0), .int (gS st 2), .int (gS st 3), .int (gS st 1), .int (gS st 0), .int 1])) (kd_ne h_TL h_X rfl) h_TL
    have h_IL := mu_k (e := .inr (10, [.ref (g.1 1 0), .ref (g.1 2 0), .int (gS st 2), .int (gS st 3), .int (gS st 1), .int (gS st 0), .int 1])) (kd_ne h_IL h_X rfl) h_IL
    have h_X : (mu Mw (g.1 0 0) (.inr (10, [.ref (g.1 1 0), .ref (g.1 2 0), .int (gS st 2), .int (gS st 3), .int (gS st 1), .int (gS st 0), .int 1]))) (g.1 0 0) = some (.inr (10, [.ref (g.1 1 0), .ref (g.1 2 0), .int (gS st 2), .int (gS st 3), .int (gS st 1), .int (gS st 0), .int 1])) := mu_s
    refine lv_if_ne (tgt := 74) hx hb dX7_shake_10 (by decide) (fun _ => ?_) (fun h9 => absurd h9 (by decide))
    refine lv_iconst (v := 0) hx hb dX7_shake_74 (by decide) ?_
    refine W.widen (k := 0) (n := 0) (Nat.le_of_ble_eq_true rfl) (Nat.le_of_ble_eq_true rfl) ?_
    exact W.iret (v := 0) hx hb hr (fun t99 ht99 hW99 => ⟨⟨0, (mu Mw (g.1 0 0) (.inr (10, [.ref (g.1 1 0), .ref (g.1 2 0), .int (gS st 2), .int (gS st 3), .int (gS st 1), .int (gS st 0), .int 1]))), rfl, RP.no (k := 1) (by unfold m_shake; first | (rw [chk_n hq_r1]; done) | (rw [chk_n hq_r1]; rfl)) (by decide) (hR.th 1 h_X (fun x9 e9 hx9 h0 => ((mu_n h0).trans (rfl)).trans hx9)) rfl rfl, by rw [ht99]; exact hP, hI⟩, hS.F ht99⟩) hS.2.2 dX7_shake_75

set_option maxHeartbeats 4000000 in
set_option maxRecDepth 100000 in
theorem c_X7_smash (l : Launch) (G : mg) (A : Nat → Prop) (Mw : mw) (st : St) (g : gR) (p0 : Int32) (hR : RS G st g Mw) (hV : Inv st) : Met l yX7_smash wsX7_smash ({ frames := 3, cells := 0, slots := 0, locals := 64 }) (va_Pc [.ref (g.1 0 0), .int p0] (mB G A Mw)) (va_Qi (fun r Mw1 => RP G (m_smash st p0) g r Mw1) (mE G A) A) 0 0 A := by
  refine Met.ofW (cc := cX7_smash) (maxL := 4) (ret := (some .int)) (by decide) rfl ?_
  intro p e s m args below meth c s₁ B hml hv
  obtain ⟨rfl, hG, hP, hI, hA⟩ := hv
  have hx := B.exec
  have hb := B.bytes
  have hr := B.returns
  have hts := atoms_spec (ws := wsX7_smash) B.pre
  have hown : s.vm.findClass RX7 = some m.cls := findClass_of_methodNamed B.named
  have hlocks := B.notSynchronized
  have hK := hG.K
  have i_X5 : ∀ w ∈ wsX50, w ∈ wsX7_smash := by decide +kernel
  have i_X7 : ∀ w ∈ wsX70, w ∈ wsX7_smash := by decide +kernel
  have hS : va_S A s.heap s.heap [] := va_S.rf
  have hl := lv_entry ([.ref (g.1 0 0), .int p0]) (n := 4) (Nat.le_of_ble_eq_true rfl)
  rw [lg_entry_eq]
  generalize (lg_sl ([.ref (g.1 0 0), .int p0]) ++ List.replicate (4 - (lg_sl ([.ref (g.1 0 0), .int p0])).length) Slot.unset).toArray = ls at hl ⊢
  have hl : lv_has ls 4 [(0, .ref (g.1 0 0)), (1, .int p0)] := hl
  have hP : mP G.1 Mw s.heap := hP
  have h_X : Mw (g.1 0 0) = some (.inr (10, [.ref (g.1 1 0), .ref (g.1 2 0), .int (gS st 2), .int (gS st 3), .int (gS st 1), .int (gS st 0), .int (thR g)])) := hR.1 0 0 ro0
  have h_TL : Mw (g.1 1 0) = some (.inr (2, [.int (mcR g 1 0), .ref (g.1 3 0), .int ((nI (nT st)))])) := hR.1 1 0 ro1
  have h_IL : Mw (g.1 2 0) = some (.inr (2, [.int (mcR g 2 0), .ref (g.1 4 0), .int ((nI (nN st)))])) := hR.1 2 0 ro2
  have hti9 := hR.ne ro1 ro2 (by omega)
  have hnT8 := hV.1.1
  have hnN8 := Nat.le_trans hV.1.2 (show 6 ≤ 8 by decide)
  refine lv_aload_n hx hb dX7_smash_0 rfl (lv_at hl 0 rfl) ?_
  refine lv_aload_n hx hb dX7_smash_1 rfl (lv_at hl 0 rfl) ?_
  refine lv_iload_n hx hb dX7_smash_2 rfl (lv_at hl 1 rfl) ?_
  refine m_calli (va_runV (As := [.int p0]) (rest := [.ref (g.1 0 0)]) ⟨hx, hb, hml, hown, hts⟩ (c_X7_isNone l G A Mw  p0 h_X h_IL hnN8) (cwV 1 hts gX7_smash_X7_isNone rfl rfl rfl (by decide +kernel) ⟨Nat.le_of_ble_eq_true rfl, Nat.le_of_ble_eq_true rfl⟩) (mPreV hG hS hP hI hA (hP _ _ h_X) (r := (RX7, TX7, 7)) rfl) rfl rfl hl.1 rfl (lv_room (Nat.le_of_ble_eq_true rfl)) dX7_smash_3 ⟨Nat.le_of_ble_eq_true rfl, Nat.le_of_ble_eq_true rfl⟩) hS (fun r1 Mw1 H locs hp_r1 hP hI hS => ?_)
  obtain ⟨hb9, hm9⟩ := hp_r1
  subst Mw1
  rcases hb9 with ⟨hr9, hq_r1⟩ | ⟨hr9, hq_r1⟩
  · subst hr9
    have hi9 := hq_r1
    have e_p0 : p0 = nI (ix p0) := nI_cl hi9.1
    rw [e_p0] at hl
    have hf4 := hR.f4 hi9.2
    have h_ID : Mw (g.1 4 0) = some (.inl (G.2.1 5, 10, .inr (.inr (.inr (.inr (qf (nN st) (g.1 7))))))) := hR.1 4 0 (ro4 hf4)
    have h_I : Mw (g.1 7 (ix p0)) = some (.inr (8, [.ref (g.1 5 (tbN st (ix p0))), .int (itS st (ix p0) 1), .int (sof (itS st (ix p0) 2)), .int (itS st (ix p0) 3), .int (itS st (ix p0) 7), .int (itS st (ix p0) 6), .int (itS st (ix p0) 5), .int (itS st (ix p0) 12), .int (itS st (ix p0) 13), .int (itS st (ix p0) 14), .int (itS st (ix p0) 15), .int (itS st (ix p0) 8), .int (itS st (ix p0) 9), .int (itS st (ix p0) 10), .int (ceR g (ix p0)), .ref (g.1 8 (ix p0)), .ref (g.1 9 (ix p0))])) := hR.1 7 _ (ro7 hi9.2)
    refine lv_iconst (v := 1) hx hb dX7_smash_6 (by decide) ?_
    refine m_calli (va_runV (As := [.int 0, .int 1]) (rest := []) ⟨hx, hb, hml, hown, hts⟩ (c_X7_isThrown0 l G A Mw  1 h_X) (cwV 2 hts gX7_smash_X7_isThrown rfl rfl rfl (by decide +kernel) ⟨Nat.le_of_ble_eq_true rfl, Nat.le_of_ble_eq_true rfl⟩) (mPreV hG hS hP hI hA (hP _ _ h_X) (r := (RX7, TX7, 7)) rfl) rfl rfl hl.1 rfl (lv_room (Nat.le_of_ble_eq_true rfl)) dX7_smash_7 ⟨Nat.le_of_ble_eq_true rfl, Nat.le_of_ble_eq_true rfl⟩) hS (fun r2 Mw1 H locs hp_r2 hP hI hS => ?_)
    obtain ⟨hp_r2, hm9⟩ := hp_r2
    subst Mw1
    subst hp_r2
    have h_TL := mu_k (e := .inr (10, [.ref (g.1 1 0), .ref (g.1 2 0), .int (gS st 2), .int (gS st 3), .int (gS st 1), .int (gS st 0), .int 0])) (kd_ne h_TL h_X rfl) h_TL
    have h_IL := mu_k (e := .inr (10, [.ref (g.1 1 0), .ref (g.1 2 0), .int (gS st 2), .int (gS st 3), .int (gS st 1), .int (gS st 0), .int 0])) (kd_ne h_IL h_X rfl) h_IL
    have h_ID := mu_k (e := .inr (10, [.ref (g.1 1 0), .ref (g.1 2 0), .int (gS st 2), .int (gS st 3), .int (gS st 1), .int (gS st 0), .int 0])) (kd_ne h_ID h_X rfl) h_ID
    have h_I := mu_k (e := .inr (10, [.ref (g.1 1 0), .ref (g.1 2 0), .int (gS st 2), .int (gS st 3), .int (gS st 1), .int (gS st 0), .int 0])) (kd_ne h_I h_X rfl) h_I
    have h_X : (mu Mw (g.1 0 0) (.inr (10, [.ref (g.1 1 0), .ref (g.1 2 0), .int (gS st 2), .int (gS st 3), .int (gS st 1), .int (gS st 0), .int 0]))) (g.1 0 0) = some (.inr (10, [.ref (g.1 1 0), .ref (g.1 2 0), .int (gS st 2), .int (gS st 3), .int (gS st 1), .int (gS st 0), .int 0])) := mu_s
    refine lv_if_ne (tgt := 35) hx hb dX7_smash_10 (by decide) (fun h9 => absurd h9 (by decide)) (fun _ => ?_)
    refine lv_aload_n hx hb dX7_smash_13 rfl (lv_at hl 0 rfl) ?_
    refine lv_aload_n hx hb dX7_smash_14 rfl (lv_at hl 0 rfl) ?_
    refine m_get (ci := 10) (v := .ref (g.1 2 0)) (C := RX7) (T := TX7) (N := 7) hx hb hts i_X7 hown hK (hP _ _ h_X) rfl 1 (by decide) (hts (.fieldLink RX7 16 "MeniscusModel" "instruments" "Ljava/util/ArrayList;") (by decide +kernel)) (fun _ h9 => h9) rfl dX7_smash_15 ?_
    refine lv_iload_n hx hb dX7_smash_18 rfl (lv_at hl 1 rfl) ?_
    refine m_callq (va_runV (As := [.int (nI (ix p0))]) (rest := [.ref (g.1 0 0)]) ⟨hx, hb, hml, hown, hts⟩ (c_Jx4a65c_get_915e3 l G A (mu Mw (g.1 0 0) (.inr (10, [.ref (g.1 1 0), .ref (g.1 2 0), .int (gS st 2), .int (gS st 3), .int (gS st 1), .int (gS st 0), .int 0])))  h_IL h_ID (ix p0) (g.1 7 (ix p0)) hi9.2 hnN8 (qf_p hi9.2)) (cwV 1 hts gX7_smash_Jx4a65c_get_915e3 rfl rfl rfl (by decide +kernel) ⟨Nat.le_of_ble_eq_true rfl, Nat.le_of_ble_eq_true rfl⟩) (mPreV hG hS hP hI hA (hP _ _ h_IL) (r := (RJx4a65c, TJx4a65c, 3)) rfl) rfl rfl hl.1 rfl (lv_room (Nat.le_of_ble_eq_true rfl)) dX7_smash_19 ⟨Nat.le_of_ble_eq_true rfl, Nat.le_of_ble_eq_true rfl⟩) hS (fun r3 Mw1 H locs hp_r3 hP hI hS => ?_)
    obtain ⟨hp_r3, hm9⟩ := hp_r3
    subst Mw1
    subst hp_r3
    refine va_castE hx hb hown (hts (.classLink RX7 79 RX5) (by decide +kernel)) (va_recv hK (va_at.one (hP _ _ h_I)) (q0 := 0) (q := (RX5, TX5, 17)) rfl rfl) dX7_smash_22 ?_
    refine m_getN (ci := 8) (v := .int (itS st (ix p0) 5)) (C := RX5) (T := TX5) (N := 17) hx hb hts i_X5 hown hK (hP _ _ h_I) rfl 6 (by decide) (va_Nw.use rfl (hG.2.1.2.1 ("MeniscusModel", 104, "MeniscusModel$Instrument", "isSmashed", "Z", "MeniscusModel") (by decide +kernel))) (fun _ h9 => h9) rfl dX7_smash_25 ?_
    rcases (ivG_of (hV.2.2.1 _ hi9.2)).2.2.2.2.2.1 with hz9 | hz9
    · rw [hz9]
      refine lv_iconst (v := 2) hx hb dX7_smash_28 (by decide) ?_
      refine m_calli (va_runV (As := [.int 0, .int 2]) (rest := []) ⟨hx, hb, hml, hown, hts⟩ (c_X7_isThrown0 l G A (mu Mw (g.1 0 0) (.inr (10, [.ref (g.1 1 0), .ref (g.1 2 0), .int (gS st 2), .int (gS st 3), .int (gS st 1), .int (gS st 0), .int 0])))  2 h_X) (cwV 2 hts gX7_smash_X7_isThrown rfl rfl rfl (by decide +kernel) ⟨Nat.le_of_ble_eq_true rfl, Nat.le_of_ble_eq_true rfl⟩) (mPreV hG hS hP hI hA (hP _ _ h_X) (r := (RX7, TX7, 7)) rfl) rfl rfl hl.1 rfl (lv_room (Nat.le_of_ble_eq_true rfl)) dX7_smash_29 ⟨Nat.le_of_ble_eq_true rfl, Nat.le_of_ble_eq_true rfl⟩) hS (fun r4 Mw1 H locs hp_r4 hP hI hS => ?_)
      obtain ⟨hp_r4, hm9⟩ := hp_r4
      subst Mw1
      subst hp_r4
      have h_TL := mu_k (e := .inr (10, [.ref (g.1 1 0), .ref (g.1 2 0), .int (gS st 2), .int (gS st 3), .int (gS st 1), .int (gS st 0), .int 0])) (kd_ne h_TL h_X rfl) h_TL
      have h_IL := mu_k (e := .inr (10, [.ref (g.1 1 0), .ref (g.1 2 0), .int (gS st 2), .int (gS st 3), .int (gS st 1), .int (gS st 0), .int 0])) (kd_ne h_IL h_X rfl) h_IL
      have h_ID := mu_k (e := .inr (10, [.ref (g.1 1 0), .ref (g.1 2 0), .int (gS st 2), .int (gS st 3), .int (gS st 1), .int (gS st 0), .int 0])) (kd_ne h_ID h_X rfl) h_ID
      have h_I := mu_k (e := .inr (10, [.ref (g.1 1 0), .ref (g.1 2 0), .int (gS st 2), .int (gS st 3), .int (gS st 1), .int (gS st 0), .int 0])) (kd_ne h_I h_X rfl) h_I
      have h_X : (mu (mu Mw (g.1 0 0) (.inr (10, [.ref (g.1 1 0), .ref (g.1 2 0), .int (gS st 2), .int (gS st 3), .int (gS st 1), .int (gS st 0), .int 0]))) (g.1 0 0) (.inr (10, [.ref (g.1 1 0), .ref (g.1 2 0), .int (gS st 2), .int (gS st 3), .int (gS st 1), .int (gS st 0), .int 0]))) (g.1 0 0) = some (.inr (10, [.ref (g.1 1 0), .ref (g.1 2 0), .int (gS st 2), .int (gS st 3), .int (gS st 1), .int (gS st 0), .int 0])) := mu_s
      refine lv_if_eq (tgt := 37) hx hb dX7_smash_32 (by decide) (fun _ => ?_) (fun h9 => absurd h9 (by decide))
      refine lv_aload_n hx hb dX7_smash_37 rfl (lv_at hl 0 rfl) ?_
      refine m_get (ci := 10) (v := .ref (g.1 2 0)) (C := RX7) (T := TX7) (N := 7) hx hb hts i_X7 hown hK (hP _ _ h_X) rfl 1 (by decide) (hts (.fieldLink RX7 16 "MeniscusModel" "instruments" "Ljava/util/ArrayList;") (by decide +kernel)) (fun _ h9 => h9) rfl dX7_smash_38 ?_
      refine lv_iload_n hx hb dX7_smash_41 rfl (lv_at hl 1 rfl) ?_
      refine m_callq (va_runV (As := [.int (nI (ix p0))]) (rest := []) ⟨hx, hb, hml, hown, hts⟩ (c_Jx4a65c_get_915e3 l G A (mu (mu Mw (g.1 0 0) (.inr (10, [.ref (g.1 1 0), .ref (g.1 2 0), .int (gS st 2), .int (gS st 3), .int (gS st 1), .int (gS st 0), .int 0]))) (g.1 0 0) (.inr (10, [.ref (g.1 1 0), .ref (g.1 2 0), .int (gS st 2), .int (gS st 3), .int (gS st 1), .int (gS st 0), .int 0])))  h_IL h_ID (ix p0) (g.1 7 (ix p0)) hi9.2 hnN8 (qf_p hi9.2)) (cwV 1 hts gX7_smash_Jx4a65c_get_915e3 rfl rfl rfl (by decide +kernel) ⟨Nat.le_of_ble_eq_true rfl, Nat.le_of_ble_eq_true rfl⟩) (mPreV hG hS hP hI hA (hP _ _ h_IL) (r := (RJx4a65c, TJx4a65c, 3)) rfl) rfl rfl hl.1 rfl (lv_room (Nat.le_of_ble_eq_true rfl)) dX7_smash_42 ⟨Nat.le_of_ble_eq_true rfl, Nat.le_of_ble_eq_true rfl⟩) hS (fun r5 Mw1 H locs hp_r5 hP hI hS => ?_)
      obtain ⟨hp_r5, hm9⟩ := hp_r5
      subst Mw1
      subst hp_r5
      refine va_castE hx hb hown (hts (.classLink RX7 79 RX5) (by decide +kernel)) (va_recv hK (va_at.one (hP _ _ h_I)) (q0 := 0) (q := (RX5, TX5, 17)) rfl rfl) dX7_smash_45 ?_
      refine lv_astore_n (lv' := [(2, .ref (g.1 7 (ix p0))), (0, .ref (g.1 0 0)), (1, .int (nI (ix p0)))]) hx hb dX7_smash_48 rfl hl (by decide) rfl (fun ls hl => ?_)
      refine lv_aload_n hx hb dX7_smash_49 rfl (lv_at hl 0 rfl) ?_
      refine m_getN (ci := 8) (v := .int (itS st (ix p0) 7)) (C := RX5) (T := TX5) (N := 17) hx hb hts i_X5 hown hK (hP _ _ h_I) rfl 4 (by decide) (va_Nw.use rfl (hG.2.1.2.1 ("MeniscusModel", 107, "MeniscusModel$Instrument", "inside", "I", "MeniscusModel") (by decide +kernel))) (fun _ h9 => h9) rfl dX7_smash_50 ?_
      refine lv_istore_n (lv' := [(3, .int (itS st (ix p0) 7)), (2, .ref (g.1 7 (ix p0))), (0, .ref (g.1 0 0)), (1, .int (nI (ix p0)))]) hx hb dX7_smash_53 rfl hl (by decide) rfl (fun ls hl => ?_)
      refine lv_aload_n hx hb dX7_smash_54 rfl (lv_at hl 2 rfl) ?_
      refine lv_dup hx hb dX7_smash_55 rfl ?_
      refine m_get (ci := 10) (v := .int (gS st 3)) (C := RX7) (T := TX7) (N := 7) hx hb hts i_X7 hown hK (hP _ _ h_X) rfl 3 (by decide) (hts (.fieldLink RX7 110 "MeniscusModel" "spilt" "I") (by decide +kernel)) (fun _ h9 => h9) rfl dX7_smash_56 ?_
      refine lv_aload_n hx hb dX7_smash_59 rfl (lv_at hl 1 rfl) ?_
      refine m_getN (ci := 8) (v := .int (itS st (ix p0) 6)) (C := RX5) (T := TX5) (N := 17) hx hb hts i_X5 hown hK (hP _ _ h_I) rfl 5 (by decide) (va_Nw.use rfl (hG.2.1.2.1 ("MeniscusModel", 100, "MeniscusModel$Instrument", "liquid", "C", "MeniscusModel") (by decide +kernel))) (fun _ h9 => h9) rfl dX7_smash_60 ?_
      refine lv_bipush (v := (109)) hx hb dX7_smash_63 (by decide) ?_
      refine lv_icmp_ne (tgt := 72) hx hb dX7_smash_65 (by decide) (fun c6 => ?_) (fun c6 => ?_)
      · skip
        refine lv_iconst (v := 0) hx hb dX7_smash_72 (by decide) ?_
        refine lv_iadd hx hb dX7_smash_73 ?_
        refine m_put (ci := 10) (v := .int ((gS st 3) + 0)) (ty := .int) (C := RX7) (T := TX7) (N := 7) hx hb hts i_X7 tyX7 tyX7_ok nmX7 hown hK hP hI hS h_X rfl 3 (by decide) (hts (.fieldLink RX7 110 "MeniscusModel" "spilt" "I") (by decide +kernel)) (fun _ h9 => h9) rfl (by decide +kernel) rfl rfl (Nat.le_of_ble_eq_true rfl) dX7_smash_74 (fun H locs hP hI hS => ?_)
        have hP : mP G.1 (mu (mu (mu Mw (g.1 0 0) (.inr (10, [.ref (g.1 1 0), .ref (g.1 2 0), .int (gS st 2), .int (gS st 3), .int (gS st 1), .int (gS st 0), .int 0]))) (g.1 0 0) (.inr (10, [.ref (g.1 1 0), .ref (g.1 2 0), .int (gS st 2), .int (gS st 3), .int (gS st 1), .int (gS st 0), .int 0]))) (g.1 0 0) (.inr (10, [.ref (g.1 1 0), .ref (g.1 2 0), .int (gS st 2), .int ((gS st 3) + 0), .int (gS st 1), .int (gS st 0), .int 0]))) H := hP
        have hI : mI A (mu (mu (mu Mw (g.1 0 0) (.inr (10, [.ref (g.1 1 0), .ref (g.1 2 0), .int (gS st 2), .int (gS st 3), .int (gS st 1), .int (gS st 0), .int 0]))) (g.1 0 0) (.inr (10, [.ref (g.1 1 0), .ref (g.1 2 0), .int (gS st 2), .int (gS st 3), .int (gS st 1), .int (gS st 0), .int 0]))) (g.1 0 0) (.inr (10, [.ref (g.1 1 0), .ref (g.1 2 0), .int (gS st 2), .int ((gS st 3) + 0), .int (gS st 1), .int (gS st 0), .int 0]))) := hI
        have h_TL := mu_k (e := .inr (10, [.ref (g.1 1 0), .ref (g.1 2 0), .int (gS st 2), .int ((gS st 3) + 0), .int (gS st 1), .int (gS st 0), .int 0])) (kd_ne h_TL h_X rfl) h_TL
        have h_IL := mu_k (e := .inr (10, [.ref (g.1 1 0), .ref (g.1 2 0), .int (gS st 2), .int ((gS st 3) + 0), .int (gS st 1), .int (gS st 0), .int 0])) (kd_ne h_IL h_X rfl) h_IL
        have h_ID := mu_k (e := .inr (10, [.ref (g.1 1 0), .ref (g.1 2 0), .int (gS st 2), .int ((gS st 3) + 0), .int (gS st 1), .int (gS st 0), .int 0])) (kd_ne h_ID h_X rfl) h_ID
        have h_I := mu_k (e := .inr (10, [.ref (g.1 1 0), .ref (g.1 2 0), .int (gS st 2), .int ((gS st 3) + 0), .int (gS st 1), .int (gS st 0), .int 0])) (kd_ne h_I h_X rfl) h_I
        rw [mu_uu] at hP hI h_TL h_IL h_ID h_I
        have h_X : (mu (mu Mw (g.1 0 0) (.inr (10, [.ref (g.1 1 0), .ref (g.1 2 0), .int (gS st 2), .int (gS st 3), .int (gS st 1), .int (gS st 0), .int 0]))) (g.1 0 0) (.inr (10, [.ref (g.1 1 0), .ref (g.1 2 0), .int (gS st 2), .int ((gS st 3) + 0), .int (gS st 1), .int (gS st 0), .int 0]))) (g.1 0 0) = some (.inr (10, [.ref (g.1 1 0), .ref (g.1 2 0), .int (gS st 2), .int ((gS st 3) + 0), .int (gS st 1), .int (gS st 0), .int 0])) := mu_s
        refine lv_aload_n hx hb dX7_smash_77 rfl (lv_at hl 1 rfl) ?_
        refine lv_iconst (v := 0) hx hb dX7_smash_78 (by decide) ?_
        refine m_putN (ci := 8) (v := .int 0) (ty := .int) (C := RX5) (T := TX5) (N := 17) hx hb hts i_X5 tyX5 tyX5_ok nmX5 hown hK hP hI hS h_I rfl 4 (by decide) (va_Nw.use rfl (hG.2.1.2.1 ("MeniscusModel", 107, "MeniscusModel$Instrument", "inside", "I", "MeniscusModel") (by decide +kernel))) (fun _ h9 => h9) rfl (by decide +kernel) rfl rfl (Nat.le_of_ble_eq_true rfl) dX7_smash_79 (fun H locs hP hI hS => ?_)
        have hP : mP G.1 (mu (mu (mu Mw (g.1 0 0) (.inr (10, [.ref (g.1 1 0), .ref (g.1 2 0), .int (gS st 2), .int (gS st 3), .int (gS st 1), .int (gS st 0), .int 0]))) (g.1 0 0) (.inr (10, [.ref (g.1 1 0), .ref (g.1 2 0), .int (gS st 2), .int ((gS st 3) + 0), .int (gS st 1), .int (gS st 0), .int 0]))) (g.1 7 (ix p0)) (.inr (8, [.ref (g.1 5 (tbN st (ix p0))), .int (itS st (ix p0) 1), .int (sof (itS st (ix p0) 2)), .int (itS st (ix p0) 3), .int 0, .int (itS st (ix p0) 6), .int (itS st (ix p0) 5), .int (itS st (ix p0) 12), .int (itS st (ix p0) 13), .int (itS st (ix p0) 14), .int (itS st (ix p0) 15), .int (itS st (ix p0) 8), .int (itS st (ix p0) 9), .int (itS st (ix p0) 10), .int (ceR g (ix p0)), .ref (g.1 8 (ix p0)), .ref (g.1 9 (ix p0))]))) H := hP
        have hI : mI A (mu (mu (mu Mw (g.1 0 0) (.inr (10, [.ref (g.1 1 0), .ref (g.1 2 0), .int (gS st 2), .int (gS st 3), .int (gS st 1), .int (gS st 0), .int 0]))) (g.1 0 0) (.inr (10, [.ref (g.1 1 0), .ref (g.1 2 0), .int (gS st 2), .int ((gS st 3) + 0), .int (gS st 1), .int (gS st 0), .int 0]))) (g.1 7 (ix p0)) (.inr (8, [.ref (g.1 5 (tbN st (ix p0))), .int (itS st (ix p0) 1), .int (sof (itS st (ix p0) 2)), .int (itS st (ix p0) 3), .int 0, .int (itS st (ix p0) 6), .int (itS st (ix p0) 5), .int (itS st (ix p0) 12), .int (itS st (ix p0) 13), .int (itS st (ix p0) 14), .int (itS st (ix p0) 15), .int (itS st (ix p0) 8), .int (itS st (ix p0) 9), .int (itS st (ix p0) 10), .int (ceR g (ix p0)), .ref (g.1 8 (ix p0)), .ref (g.1 9 (ix p0))]))) := hI
        have h_X := mu_k (e := .inr (8, [.ref (g.1 5 (tbN st (ix p0))), .int (itS st (ix p0) 1), .int (sof (itS st (ix p0) 2)), .int (itS st (ix p0) 3), .int 0, .int (itS st (ix p0) 6), .int (itS st (ix p0) 5), .int (itS st (ix p0) 12), .int (itS st (ix p0) 13), .int (itS st (ix p0) 14), .int (itS st (ix p0) 15), .int (itS st (ix p0) 8), .int (itS st (ix p0) 9), .int (itS st (ix p0) 10), .int (ceR g (ix p0)), .ref (g.1 8 (ix p0)), .ref (g.1 9 (ix p0))])) (kd_ne h_X h_I rfl) h_X
        have h_TL := mu_k (e := .inr (8, [.ref (g.1 5 (tbN st (ix p0))), .int (itS st (ix p0) 1), .int (sof (itS st (ix p0) 2)), .int (itS st (ix p0) 3), .int 0, .int (itS st (ix p0) 6), .int (itS st (ix p0) 5), .int (itS st (ix p0) 12), .int (itS st (ix p0) 13), .int (itS st (ix p0) 14), .int (itS st (ix p0) 15), .int (itS st (ix p0) 8), .int (itS st (ix p0) 9), .int (itS st (ix p0) 10), .int (ceR g (ix p0)), .ref (g.1 8 (ix p0)), .ref (g.1 9 (ix p0))])) (kd_ne h_TL h_I rfl) h_TL
        have h_IL := mu_k (e := .inr (8, [.ref (g.1 5 (tbN st (ix p0))), .int (itS st (ix p0) 1), .int (sof (itS st (ix p0) 2)), .int (itS st (ix p0) 3), .int 0, .int (itS st (ix p0) 6), .int (itS st (ix p0) 5), .int (itS st (ix p0) 12), .int (itS st (ix p0) 13), .int (itS st (ix p0) 14), .int (itS st (ix p0) 15), .int (itS st (ix p0) 8), .int (itS st (ix p0) 9), .int (itS st (ix p0) 10), .int (ceR g (ix p0)), .ref (g.1 8 (ix p0)), .ref (g.1 9 (ix p0))])) (kd_ne h_IL h_I rfl) h_IL
        have h_ID := mu_k (e := .inr (8, [.ref (g.1 5 (tbN st (ix p0))), .int (itS st (ix p0) 1), .int (sof (itS st (ix p0) 2)), .int (itS st (ix p0) 3), .int 0, .int (itS st (ix p0) 6), .int (itS st (ix p0) 5), .int (itS st (ix p0) 12), .int (itS st (ix p0) 13), .int (itS st (ix p0) 14), .int (itS st (ix p0) 15), .int (itS st (ix p0) 8), .int (itS st (ix p0) 9), .int (itS st (ix p0) 10), .int (ceR g (ix p0)), .ref (g.1 8 (ix p0)), .ref (g.1 9 (ix p0))])) (kd_ne h_ID h_I rfl) h_ID
        have h_I : (mu (mu (mu Mw (g.1 0 0) (.inr (10, [.ref (g.1 1 0), .ref (g.1 2 0), .int (gS st 2), .int (gS st 3), .int (gS st 1), .int (gS st 0), .int 0]))) (g.1 0 0) (.inr (10, [.ref (g.1 1 0), .ref (g.1 2 0), .int (gS st 2), .int ((gS st 3) + 0), .int (gS st 1), .int (gS st 0), .int 0]))) (g.1 7 (ix p0)) (.inr (8, [.ref (g.1 5 (tbN st (ix p0))), .int (itS st (ix p0) 1), .int (sof (itS st (ix p0) 2)), .int (itS st (ix p0) 3), .int 0, .int (itS st (ix p0) 6), .int (itS st (ix p0) 5), .int (itS st (ix p0) 12), .int (itS st (ix p0) 13), .int (itS st (ix p0) 14), .int (itS st (ix p0) 15), .int (itS st (ix p0) 8), .int (itS st (ix p0) 9), .int (itS st (ix p0) 10), .int (ceR g (ix p0)), .ref (g.1 8 (ix p0)), .ref (g.1 9 (ix p0))]))) (g.1 7 (ix p0)) = some (.inr (8, [.ref (g.1 5 (tbN st (ix p0))), .int (itS st (ix p0) 1), .int (sof (itS st (ix p0) 2)), .int (itS st (ix p0) 3), .int 0, .int (itS st (ix p0) 6), .int (itS st (ix p0) 5), .int (itS st (ix p0) 12), .int (itS st (ix p0) 13), .int (itS st (ix p0) 14), .int (itS st (ix p0) 15), .int (itS st (ix p0) 8), .int (itS st (ix p0) 9), .int (itS st (ix p0) 10), .int (ceR g (ix p0)), .ref (g.1 8 (ix p0)), .ref (g.1 9 (ix p0))])) := mu_s
        refine lv_aload_n hx hb dX7_smash_82 rfl (lv_at hl 1 rfl) ?_
        refine lv_iconst (v := 1) hx hb dX7_smash_83 (by decide) ?_
        refine m_putN (ci := 8) (v := .int 1) (ty := .boolean) (C := RX5) (T := TX5) (N := 17) hx hb hts i_X5 tyX5 tyX5_ok nmX5 hown hK hP hI hS h_I rfl 6 (by decide) (va_Nw.use rfl (hG.2.1.2.1 ("MeniscusModel", 104, "MeniscusModel$Instrument", "isSmashed", "Z", "MeniscusModel") (by decide +kernel))) (fun _ h9 => h9) rfl (by decide +kernel) rfl rfl (Nat.le_of_ble_eq_true rfl) dX7_smash_84 (fun H locs hP hI hS => ?_)
        have hP : mP G.1 (mu (mu (mu (mu Mw (g.1 0 0) (.inr (10, [.ref (g.1 1 0), .ref (g.1 2 0), .int (gS st 2), .int (gS st 3), .int (gS st 1), .int (gS st 0), .int 0]))) (g.1 0 0) (.inr (10, [.ref (g.1 1 0), .ref (g.1 2 0), .int (gS st 2), .int ((gS st 3) + 0), .int (gS st 1), .int (gS st 0), .int 0]))) (g.1 7 (ix p0)) (.inr (8, [.ref (g.1 5 (tbN st (ix p0))), .int (itS st (ix p0) 1), .int (sof (itS st (ix p0) 2)), .int (itS st (ix p0) 3), .int 0, .int (itS st (ix p0) 6), .int (itS st (ix p0) 5), .int (itS st (ix p0) 12), .int (itS st (ix p0) 13), .int (itS st (ix p0) 14), .int (itS st (ix p0) 15), .int (itS st (ix p0) 8), .int (itS st (ix p0) 9), .int (itS st (ix p0) 10), .int (ceR g (ix p0)), .ref (g.1 8 (ix p0)), .ref (g.1 9 (ix p0))]))) (g.1 7 (ix p0)) (.inr (8, [.ref (g.1 5 (tbN st (ix p0))), .int (itS st (ix p0) 1), .int (sof (itS st (ix p0) 2)), .int (itS st (ix p0) 3), .int 0, .int (itS st (ix p0) 6), .int 1, .int (itS st (ix p0) 12), .int (itS st (ix p0) 13), .int (itS st (ix p0) 14), .int (itS st (ix p0) 15), .int (itS st (ix p0) 8), .int (itS st (ix p0) 9), .int (itS st (ix p0) 10), .int (ceR g (ix p0)), .ref (g.1 8 (ix p0)), .ref (g.1 9 (ix p0))]))) H := hP
        have hI : mI A (mu (mu (mu (mu Mw (g.1 0 0) (.inr (10, [.ref (g.1 1 0), .ref (g.1 2 0), .int (gS st 2), .int (gS st 3), .int (gS st 1), .int (gS st 0), .int 0]))) (g.1 0 0) (.inr (10, [.ref (g.1 1 0), .ref (g.1 2 0), .int (gS st 2), .int ((gS st 3) + 0), .int (gS st 1), .int (gS st 0), .int 0]))) (g.1 7 (ix p0)) (.inr (8, [.ref (g.1 5 (tbN st (ix p0))), .int (itS st (ix p0) 1), .int (sof (itS st (ix p0) 2)), .int (itS st (ix p0) 3), .int 0, .int (itS st (ix p0) 6), .int (itS st (ix p0) 5), .int (itS st (ix p0) 12), .int (itS st (ix p0) 13), .int (itS st (ix p0) 14), .int (itS st (ix p0) 15), .int (itS st (ix p0) 8), .int (itS st (ix p0) 9), .int (itS st (ix p0) 10), .int (ceR g (ix p0)), .ref (g.1 8 (ix p0)), .ref (g.1 9 (ix p0))]))) (g.1 7 (ix p0)) (.inr (8, [.ref (g.1 5 (tbN st (ix p0))), .int (itS st (ix p0) 1), .int (sof (itS st (ix p0) 2)), .int (itS st (ix p0) 3), .int 0, .int (itS st (ix p0) 6), .int 1, .int (itS st (ix p0) 12), .int (itS st (ix p0) 13), .int (itS st (ix p0) 14), .int (itS st (ix p0) 15), .int (itS st (ix p0) 8), .int (itS st (ix p0) 9), .int (itS st (ix p0) 10), .int (ceR g (ix p0)), .ref (g.1 8 (ix p0)), .ref (g.1 9 (ix p0))]))) := hI
        have h_X := mu_k (e := .inr (8, [.ref (g.1 5 (tbN st (ix p0))), .int (itS st (ix p0) 1), .int (sof (itS st (ix p0) 2)), .int (itS st (ix p0) 3), .int 0, .int (itS st (ix p0) 6), .int 1, .int (itS st (ix p0) 12), .int (itS st (ix p0) 13), .int (itS st (ix p0) 14), .int (itS st (ix p0) 15), .int (itS st (ix p0) 8), .int (itS st (ix p0) 9), .int (itS st (ix p0) 10), .int (ceR g (ix p0)), .ref (g.1 8 (ix p0)), .ref (g.1 9 (ix p0))])) (kd_ne h_X h_I rfl) h_X
        have h_TL := mu_k (e := .inr (8, [.ref (g.1 5 (tbN st (ix p0))), .int (itS st (ix p0) 1), .int (sof (itS st (ix p0) 2)), .int (itS st (ix p0) 3), .int 0, .int (itS st (ix p0) 6), .int 1, .int (itS st (ix p0) 12), .int (itS st (ix p0) 13), .int (itS st (ix p0) 14), .int (itS st (ix p0) 15), .int (itS st (ix p0) 8), .int (itS st (ix p0) 9), .int (itS st (ix p0) 10), .int (ceR g (ix p0)), .ref (g.1 8 (ix p0)), .ref (g.1 9 (ix p0))])) (kd_ne h_TL h_I rfl) h_TL
        have h_IL := mu_k (e := .inr (8, [.ref (g.1 5 (tbN st (ix p0))), .int (itS st (ix p0) 1), .int (sof (itS st (ix p0) 2)), .int (itS st (ix p0) 3), .int 0, .int (itS st (ix p0) 6), .int 1, .int (itS st (ix p0) 12), .int (itS st (ix p0) 13), .int (itS st (ix p0) 14), .int (itS st (ix p0) 15), .int (itS st (ix p0) 8), .int (itS st (ix p0) 9), .int (itS st (ix p0) 10), .int (ceR g (ix p0)), .ref (g.1 8 (ix p0)), .ref (g.1 9 (ix p0))])) (kd_ne h_IL h_I rfl) h_IL
        have h_ID := mu_k (e := .inr (8, [.ref (g.1 5 (tbN st (ix p0))), .int (itS st (ix p0) 1), .int (sof (itS st (ix p0) 2)), .int (itS st (ix p0) 3), .int 0, .int (itS st (ix p0) 6), .int 1, .int (itS st (ix p0) 12), .int (itS st (ix p0) 13), .int (itS st (ix p0) 14), .int (itS st (ix p0) 15), .int (itS st (ix p0) 8), .int (itS st (ix p0) 9), .int (itS st (ix p0) 10), .int (ceR g (ix p0)), .ref (g.1 8 (ix p0)), .ref (g.1 9 (ix p0))])) (kd_ne h_ID h_I rfl) h_ID
        rw [mu_uu] at hP hI h_X h_TL h_IL h_ID
        have h_I : (mu (mu (mu Mw (g.1 0 0) (.inr (10, [.ref (g.1 1 0), .ref (g.1 2 0), .int (gS st 2), .int (gS st 3), .int (gS st 1), .int (gS st 0), .int 0]))) (g.1 0 0) (.inr (10, [.ref (g.1 1 0), .ref (g.1 2 0), .int (gS st 2), .int ((gS st 3) + 0), .int (gS st 1), .int (gS st 0), .int 0]))) (g.1 7 (ix p0)) (.inr (8, [.ref (g.1 5 (tbN st (ix p0))), .int (itS st (ix p0) 1), .int (sof (itS st (ix p0) 2)), .int (itS st (ix p0) 3), .int 0, .int (itS st (ix p0) 6), .int 1, .int (itS st (ix p0) 12), .int (itS st (ix p0) 13), .int (itS st (ix p0) 14), .int (itS st (ix p0) 15), .int (itS st (ix p0) 8), .int (itS st (ix p0) 9), .int (itS st (ix p0) 10), .int (ceR g (ix p0)), .ref (g.1 8 (ix p0)), .ref (g.1 9 (ix p0))]))) (g.1 7 (ix p0)) = some (.inr (8, [.ref (g.1 5 (tbN st (ix p0))), .int (itS st (ix p0) 1), .int (sof (itS st (ix p0) 2)), .int (itS st (ix p0) 3), .int 0, .int (itS st (ix p0) 6), .int 1, .int (itS st (ix p0) 12), .int (itS st (ix p0) 13), .int (itS st (ix p0) 14), .int (itS st (ix p0) 15), .int (itS st (ix p0) 8), .int (itS st (ix p0) 9), .int (itS st (ix p0) 10), .int (ceR g (ix p0)), .ref (g.1 8 (ix p0)), .ref (g.1 9 (ix p0))])) := mu_s
        refine lv_aload_n hx hb dX7_smash_87 rfl (lv_at hl 1 rfl) ?_
        refine lv_iconst (v := (-1)) hx hb dX7_smash_88 (by decide) ?_
        refine m_putN (ci := 8) (v := .int ((-1))) (ty := .int) (C := RX5) (T := TX5) (N := 17) hx hb hts i_X5 tyX5 tyX5_ok nmX5 hown hK hP hI hS h_I rfl 14 (by decide) (va_Nw.use rfl (hG.2.1.2.1 ("MeniscusModel", 113, "MeniscusModel$Instrument", "certified", "I", "MeniscusModel") (by decide +kernel))) (fun _ h9 => h9) rfl (by decide +kernel) rfl rfl (Nat.le_of_ble_eq_true rfl) dX7_smash_89 (fun H locs hP hI hS => ?_)
        have hP : mP G.1 (mu (mu (mu (mu Mw (g.1 0 0) (.inr (10, [.ref (g.1 1 0), .ref (g.1 2 0), .int (gS st 2), .int (gS st 3), .int (gS st 1), .int (gS st 0), .int 0]))) (g.1 0 0) (.inr (10, [.ref (g.1 1 0), .ref (g.1 2 0), .int (gS st 2), .int ((gS st 3) + 0), .int (gS st 1), .int (gS st 0), .int 0]))) (g.1 7 (ix p0)) (.inr (8, [.ref (g.1 5 (tbN st (ix p0))), .int (itS st (ix p0) 1), .int (sof (itS st (ix p0) 2)), .int (itS st (ix p0) 3), .int 0, .int (itS st (ix p0) 6), .int 1, .int (itS st (ix p0) 12), .int (itS st (ix p0) 13), .int (itS st (ix p0) 14), .int (itS st (ix p0) 15), .int (itS st (ix p0) 8), .int (itS st (ix p0) 9), .int (itS st (ix p0) 10), .int (ceR g (ix p0)), .ref (g.1 8 (ix p0)), .ref (g.1 9 (ix p0))]))) (g.1 7 (ix p0)) (.inr (8, [.ref (g.1 5 (tbN st (ix p0))), .int (itS st (ix p0) 1), .int (sof (itS st (ix p0) 2)), .int (itS st (ix p0) 3), .int 0, .int (itS st (ix p0) 6), .int 1, .int (itS st (ix p0) 12), .int (itS st (ix p0) 13), .int (itS st (ix p0) 14), .int (itS st (ix p0) 15), .int (itS st (ix p0) 8), .int (itS st (ix p0) 9), .int (itS st (ix p0) 10), .int ((-1)), .ref (g.1 8 (ix p0)), .ref (g.1 9 (ix p0))]))) H := hP
        have hI : mI A (mu (mu (mu (mu Mw (g.1 0 0) (.inr (10, [.ref (g.1 1 0), .ref (g.1 2 0), .int (gS st 2), .int (gS st 3), .int (gS st 1), .int (gS st 0), .int 0]))) (g.1 0 0) (.inr (10, [.ref (g.1 1 0), .ref (g.1 2 0), .int (gS st 2), .int ((gS st 3) + 0), .int (gS st 1), .int (gS st 0), .int 0]))) (g.1 7 (ix p0)) (.inr (8, [.ref (g.1 5 (tbN st (ix p0))), .int (itS st (ix p0) 1), .int (sof (itS st (ix p0) 2)), .int (itS st (ix p0) 3), .int 0, .int (itS st (ix p0) 6), .int 1, .int (itS st (ix p0) 12), .int (itS st (ix p0) 13), .int (itS st (ix p0) 14), .int (itS st (ix p0) 15), .int (itS st (ix p0) 8), .int (itS st (ix p0) 9), .int (itS st (ix p0) 10), .int (ceR g (ix p0)), .ref (g.1 8 (ix p0)), .ref (g.1 9 (ix p0))]))) (g.1 7 (ix p0)) (.inr (8, [.ref (g.1 5 (tbN st (ix p0))), .int (itS st (ix p0) 1), .int (sof (itS st (ix p0) 2)), .int (itS st (ix p0) 3), .int 0, .int (itS st (ix p0) 6), .int 1, .int (itS st (ix p0) 12), .int (itS st (ix p0) 13), .int (itS st (ix p0) 14), .int (itS st (ix p0) 15), .int (itS st (ix p0) 8), .int (itS st (ix p0) 9), .int (itS st (ix p0) 10), .int ((-1)), .ref (g.1 8 (ix p0)), .ref (g.1 9 (ix p0))]))) := hI
        have h_X := mu_k (e := .inr (8, [.ref (g.1 5 (tbN st (ix p0))), .int (itS st (ix p0) 1), .int (sof (itS st (ix p0) 2)), .int (itS st (ix p0) 3), .int 0, .int (itS st (ix p0) 6), .int 1, .int (itS st (ix p0) 12), .int (itS st (ix p0) 13), .int (itS st (ix p0) 14), .int (itS st (ix p0) 15), .int (itS st (ix p0) 8), .int (itS st (ix p0) 9), .int (itS st (ix p0) 10), .int ((-1)), .ref (g.1 8 (ix p0)), .ref (g.1 9 (ix p0))])) (kd_ne h_X h_I rfl) h_X
        have h_TL := mu_k (e := .inr (8, [.ref (g.1 5 (tbN st (ix p0))), .int (itS st (ix p0) 1), .int (sof (itS st (ix p0) 2)), .int (itS st (ix p0) 3), .int 0, .int (itS st (ix p0) 6), .int 1, .int (itS st (ix p0) 12), .int (itS st (ix p0) 13), .int (itS st (ix p0) 14), .int (itS st (ix p0) 15), .int (itS st (ix p0) 8), .int (itS st (ix p0) 9), .int (itS st (ix p0) 10), .int ((-1)), .ref (g.1 8 (ix p0)), .ref (g.1 9 (ix p0))])) (kd_ne h_TL h_I rfl) h_TL
        have h_IL := mu_k (e := .inr (8, [.ref (g.1 5 (tbN st (ix p0))), .int (itS st (ix p0) 1), .int (sof (itS st (ix p0) 2)), .int (itS st (ix p0) 3), .int 0, .int (itS st (ix p0) 6), .int 1, .int (itS st (ix p0) 12), .int (itS st (ix p0) 13), .int (itS st (ix p0) 14), .int (itS st (ix p0) 15), .int (itS st (ix p0) 8), .int (itS st (ix p0) 9), .int (itS st (ix p0) 10), .int ((-1)), .ref (g.1 8 (ix p0)), .ref (g.1 9 (ix p0))])) (kd_ne h_IL h_I rfl) h_IL
        have h_ID := mu_k (e := .inr (8, [.ref (g.1 5 (tbN st (ix p0))), .int (itS st (ix p0) 1), .int (sof (itS st (ix p0) 2)), .int (itS st (ix p0) 3), .int 0, .int (itS st (ix p0) 6), .int 1, .int (itS st (ix p0) 12), .int (itS st (ix p0) 13), .int (itS st (ix p0) 14), .int (itS st (ix p0) 15), .int (itS st (ix p0) 8), .int (itS st (ix p0) 9), .int (itS st (ix p0) 10), .int ((-1)), .ref (g.1 8 (ix p0)), .ref (g.1 9 (ix p0))])) (kd_ne h_ID h_I rfl) h_ID
        rw [mu_uu] at hP hI h_X h_TL h_IL h_ID
        have h_I : (mu (mu (mu Mw (g.1 0 0) (.inr (10, [.ref (g.1 1 0), .ref (g.1 2 0), .int (gS st 2), .int (gS st 3), .int (gS st 1), .int (gS st 0), .int 0]))) (g.1 0 0) (.inr (10, [.ref (g.1 1 0), .ref (g.1 2 0), .int (gS st 2), .int ((gS st 3) + 0), .int (gS st 1), .int (gS st 0), .int 0]))) (g.1 7 (ix p0)) (.inr (8, [.ref (g.1 5 (tbN st (ix p0))), .int (itS st (ix p0) 1), .int (sof (itS st (ix p0) 2)), .int (itS st (ix p0) 3), .int 0, .int (itS st (ix p0) 6), .int 1, .int (itS st (ix p0) 12), .int (itS st (ix p0) 13), .int (itS st (ix p0) 14), .int (itS st (ix p0) 15), .int (itS st (ix p0) 8), .int (itS st (ix p0) 9), .int (itS st (ix p0) 10), .int ((-1)), .ref (g.1 8 (ix p0)), .ref (g.1 9 (ix p0))]))) (g.1 7 (ix p0)) = some (.inr (8, [.ref (g.1 5 (tbN st (ix p0))), .int (itS st (ix p0) 1), .int (sof (itS st (ix p0) 2)), .int (itS st (ix p0) 3), .int 0, .int (itS st (ix p0) 6), .int 1, .int (itS st (ix p0) 12), .int (itS st (ix p0) 13), .int (itS st (ix p0) 14), .int (itS st (ix p0) 15), .int (itS st (ix p0) 8), .int (itS st (ix p0) 9), .int (itS st (ix p0) 10), .int ((-1)), .ref (g.1 8 (ix p0)), .ref (g.1 9 (ix p0))])) := mu_s
        refine lv_iload_n hx hb dX7_smash_92 rfl (lv_at hl 0 rfl) ?_
        refine W.widen (k := 0) (n := 0) (Nat.le_of_ble_eq_true rfl) (Nat.le_of_ble_eq_true rfl) ?_
        exact W.iret (v := itS st (ix p0) 7) hx hb hr (fun t99 ht99 hW99 => ⟨⟨itS st (ix p0) 7, (mu (mu (mu Mw (g.1 0 0) (.inr (10, [.ref (g.1 1 0), .ref (g.1 2 0), .int (gS st 2), .int (gS st 3), .int (gS st 1), .int (gS st 0), .int 0]))) (g.1 0 0) (.inr (10, [.ref (g.1 1 0), .ref (g.1 2 0), .int (gS st 2), .int ((gS st 3) + 0), .int (gS st 1), .int (gS st 0), .int 0]))) (g.1 7 (ix p0)) (.inr (8, [.ref (g.1 5 (tbN st (ix p0))), .int (itS st (ix p0) 1), .int (sof (itS st (ix p0) 2)), .int (itS st (ix p0) 3), .int 0, .int (itS st (ix p0) 6), .int 1, .int (itS st (ix p0) 12), .int (itS st (ix p0) 13), .int (itS st (ix p0) 14), .int (itS st (ix p0) 15), .int (itS st (ix p0) 8), .int (itS st (ix p0) 9), .int (itS st (ix p0) 10), .int ((-1)), .ref (g.1 8 (ix p0)), .ref (g.1 9 (ix p0))]))), rfl, RP.ok (by unfold m_smash; first | (rw [chk_p hi9, chk_p hz9]; done) | (rw [chk_p hi9, chk_p hz9]; rfl)) (hR.io hi9.2 (fu (gS st) 3 (gS st 3 + mer st (ix p0))) (smaG st (ix p0)) rfl ((-1)) 0 (h_X.trans (congrArg some (by first | (rw [show (0 : Int32) = mer st (ix p0) from (if_neg c6).symm]; done) | (rw [show (0 : Int32) = mer st (ix p0) from (if_neg c6).symm]; rfl)))) h_I (fun x9 e9 hx9 h0 h1 => ((mu_n h1).trans ((mu_n h0).trans ((mu_n h0).trans (rfl)))).trans hx9) (fun q9 => absurd (show (1 : Int32) = 0 from q9) (by decide))) rfl rfl, by rw [ht99]; exact hP, hI⟩, hS.F ht99⟩) hS.2.2 dX7_smash_93
      · skip
        refine lv_iload_n hx hb dX7_smash_68 rfl (lv_at hl 0 rfl) ?_
        refine lv_goto (tgt := 73) hx hb dX7_smash_69 (by decide) ?_
        refine lv_iadd hx hb dX7_smash_73 ?_
        refine m_put (ci := 10) (v := .int ((gS st 3) + (itS st (ix p0) 7))) (ty := .int) (C := RX7) (T := TX7) (N := 7) hx hb hts i_X7 tyX7 tyX7_ok nmX7 hown hK hP hI hS h_X rfl 3 (by decide) (hts (.fieldLink RX7 110 "MeniscusModel" "spilt" "I") (by decide +kernel)) (fun _ h9 => h9) rfl (by decide +kernel) rfl rfl (Nat.le_of_ble_eq_true rfl) dX7_smash_74 (fun H locs hP hI hS => ?_)
        have hP : mP G.1 (mu (mu (mu Mw (g.1 0 0) (.inr (10, [.ref (g.1 1 0), .ref (g.1 2 0), .int (gS st 2), .int (gS st 3), .int (gS st 1), .int (gS st 0), .int 0]))) (g.1 0 0) (.inr (10, [.ref (g.1 1 0), .ref (g.1 2 0), .int (gS st 2), .int (gS st 3), .int (gS st 1), .int (gS st 0), .int 0]))) (g.1 0 0) (.inr (10, [.ref (g.1 1 0), .ref (g.1 2 0), .int (gS st 2), .int ((gS st 3) + (itS st (ix p0) 7)), .int (gS st 1), .int (gS st 0), .int 0]))) H := hP
        have hI : mI A (mu (mu (mu Mw (g.1 0 0) (.inr (10, [.ref (g.1 1 0), .ref (g.1 2 0), .int (gS st 2), .int (gS st 3), .int (gS st 1), .int (gS st 0), .int 0]))) (g.1 0 0) (.inr (10, [.ref (g.1 1 0), .ref (g.1 2 0), .int (gS st 2), .int (gS st 3), .int (gS st 1), .int (gS st 0), .int 0]))) (g.1 0 0) (.inr (10, [.ref (g.1 1 0), .ref (g.1 2 0), .int (gS st 2), .int ((gS st 3) + (itS st (ix p0) 7)), .int (gS st 1), .int (gS st 0), .int 0]))) := hI
        have h_TL := mu_k (e := .inr (10, [.ref (g.1 1 0), .ref (g.1 2 0), .int (gS st 2), .int ((gS st 3) + (itS st (ix p0) 7)), .int (gS st 1), .int (gS st 0), .int 0])) (kd_ne h_TL h_X rfl) h_TL
        have h_IL := mu_k (e := .inr (10, [.ref (g.1 1 0), .ref (g.1 2 0), .int (gS st 2), .int ((gS st 3) + (itS st (ix p0) 7)), .int (gS st 1), .int (gS st 0), .int 0])) (kd_ne h_IL h_X rfl) h_IL
        have h_ID := mu_k (e := .inr (10, [.ref (g.1 1 0), .ref (g.1 2 0), .int (gS st 2), .int ((gS st 3) + (itS st (ix p0) 7)), .int (gS st 1), .int (gS st 0), .int 0])) (kd_ne h_ID h_X rfl) h_ID
        have h_I := mu_k (e := .inr (10, [.ref (g.1 1 0), .ref (g.1 2 0), .int (gS st 2), .int ((gS st 3) + (itS st (ix p0) 7)), .int (gS st 1), .int (gS st 0), .int 0])) (kd_ne h_I h_X rfl) h_I
        rw [mu_uu] at hP hI h_TL h_IL h_ID h_I
        have h_X : (mu (mu Mw (g.1 0 0) (.inr (10, [.ref (g.1 1 0), .ref (g.1 2 0), .int (gS st 2), .int (gS st 3), .int (gS st 1), .int (gS st 0), .int 0]))) (g.1 0 0) (.inr (10, [.ref (g.1 1 0), .ref (g.1 2 0), .int (gS st 2), .int ((gS st 3) + (itS st (ix p0) 7)), .int (gS st 1), .int (gS st 0), .int 0]))) (g.1 0 0) = some (.inr (10, [.ref (g.1 1 0), .ref (g.1 2 0), .int (gS st 2), .int ((gS st 3) + (itS st (ix p0) 7)), .int (gS st 1), .int (gS st 0), .int 0])) := mu_s
        refine lv_aload_n hx hb dX7_smash_77 rfl (lv_at hl 1 rfl) ?_
        refine lv_iconst (v := 0) hx hb dX7_smash_78 (by decide) ?_
        refine m_putN (ci := 8) (v := .int 0) (ty := .int) (C := RX5) (T := TX5) (N := 17) hx hb hts i_X5 tyX5 tyX5_ok nmX5 hown hK hP hI hS h_I rfl 4 (by decide) (va_Nw.use rfl (hG.2.1.2.1 ("MeniscusModel", 107, "MeniscusModel$Instrument", "inside", "I", "MeniscusModel") (by decide +kernel))) (fun _ h9 => h9) rfl (by decide +kernel) rfl rfl (Nat.le_of_ble_eq_true rfl) dX7_smash_79 (fun H locs hP hI hS => ?_)
        have hP : mP G.1 (mu (mu (mu Mw (g.1 0 0) (.inr (10, [.ref (g.1 1 0), .ref (g.1 2 0), .int (gS st 2), .int (gS st 3), .int (gS st 1), .int (gS st 0), .int 0]))) (g.1 0 0) (.inr (10, [.ref (g.1 1 0), .ref (g.1 2 0), .int (gS st 2), .int ((gS st 3) + (itS st (ix p0) 7)), .int (gS st 1), .int (gS st 0), .int 0]))) (g.1 7 (ix p0)) (.inr (8, [.ref (g.1 5 (tbN st (ix p0))), .int (itS st (ix p0) 1), .int (sof (itS st (ix p0) 2)), .int (itS st (ix p0) 3), .int 0, .int (itS st (ix p0) 6), .int (itS st (ix p0) 5), .int (itS st (ix p0) 12), .int (itS st (ix p0) 13), .int (itS st (ix p0) 14), .int (itS st (ix p0) 15), .int (itS st (ix p0) 8), .int (itS st (ix p0) 9), .int (itS st (ix p0) 10), .int (ceR g (ix p0)), .ref (g.1 8 (ix p0)), .ref (g.1 9 (ix p0))]))) H := hP
        have hI : mI A (mu (mu (mu Mw (g.1 0 0) (.inr (10, [.ref (g.1 1 0), .ref (g.1 2 0), .int (gS st 2), .int (gS st 3), .int (gS st 1), .int (gS st 0), .int 0]))) (g.1 0 0) (.inr (10, [.ref (g.1 1 0), .ref (g.1 2 0), .int (gS st 2), .int ((gS st 3) + (itS st (ix p0) 7)), .int (gS st 1), .int (gS st 0), .int 0]))) (g.1 7 (ix p0)) (.inr (8, [.ref (g.1 5 (tbN st (ix p0))), .int (itS st (ix p0) 1), .int (sof (itS st (ix p0) 2)), .int (itS st (ix p0) 3), .int 0, .int (itS st (ix p0) 6), .int (itS st (ix p0) 5), .int (itS st (ix p0) 12), .int (itS st (ix p0) 13), .int (itS st (ix p0) 14), .int (itS st (ix p0) 15), .int (itS st (ix p0) 8), .int (itS st (ix p0) 9), .int (itS st (ix p0) 10), .int (ceR g (ix p0)), .ref (g.1 8 (ix p0)), .ref (g.1 9 (ix p0))]))) := hI
        have h_X := mu_k (e := .inr (8, [.ref (g.1 5 (tbN st (ix p0))), .int (itS st (ix p0) 1), .int (sof (itS st (ix p0) 2)), .int (itS st (ix p0) 3), .int 0, .int (itS st (ix p0) 6), .int (itS st (ix p0) 5), .int (itS st (ix p0) 12), .int (itS st (ix p0) 13), .int (itS st (ix p0) 14), .int (itS st (ix p0) 15), .int (itS st (ix p0) 8), .int (itS st (ix p0) 9), .int (itS st (ix p0) 10), .int (ceR g (ix p0)), .ref (g.1 8 (ix p0)), .ref (g.1 9 (ix p0))])) (kd_ne h_X h_I rfl) h_X
        have h_TL := mu_k (e := .inr (8, [.ref (g.1 5 (tbN st (ix p0))), .int (itS st (ix p0) 1), .int (sof (itS st (ix p0) 2)), .int (itS st (ix p0) 3), .int 0, .int (itS st (ix p0) 6), .int (itS st (ix p0) 5), .int (itS st (ix p0) 12), .int (itS st (ix p0) 13), .int (itS st (ix p0) 14), .int (itS st (ix p0) 15), .int (itS st (ix p0) 8), .int (itS st (ix p0) 9), .int (itS st (ix p0) 10), .int (ceR g (ix p0)), .ref (g.1 8 (ix p0)), .ref (g.1 9 (ix p0))])) (kd_ne h_TL h_I rfl) h_TL
        have h_IL := mu_k (e := .inr (8, [.ref (g.1 5 (tbN st (ix p0))), .int (itS st (ix p0) 1), .int (sof (itS st (ix p0) 2)), .int (itS st (ix p0) 3), .int 0, .int (itS st (ix p0) 6), .int (itS st (ix p0) 5), .int (itS st (ix p0) 12), .int (itS st (ix p0) 13), .int (itS st (ix p0) 14), .int (itS st (ix p0) 15), .int (itS st (ix p0) 8), .int (itS st (ix p0) 9), .int (itS st (ix p0) 10), .int (ceR g (ix p0)), .ref (g.1 8 (ix p0)), .ref (g.1 9 (ix p0))])) (kd_ne h_IL h_I rfl) h_IL
        have h_ID := mu_k (e := .inr (8, [.ref (g.1 5 (tbN st (ix p0))), .int (itS st (ix p0) 1), .int (sof (itS st (ix p0) 2)), .int (itS st (ix p0) 3), .int 0, .int (itS st (ix p0) 6), .int (itS st (ix p0) 5), .int (itS st (ix p0) 12), .int (itS st (ix p0) 13), .int (itS st (ix p0) 14), .int (itS st (ix p0) 15), .int (itS st (ix p0) 8), .int (itS st (ix p0) 9), .int (itS st (ix p0) 10), .int (ceR g (ix p0)), .ref (g.1 8 (ix p0)), .ref (g.1 9 (ix p0))])) (kd_ne h_ID h_I rfl) h_ID
        have h_I : (mu (mu (mu Mw (g.1 0 0) (.inr (10, [.ref (g.1 1 0), .ref (g.1 2 0), .int (gS st 2), .int (gS st 3), .int (gS st 1), .int (gS st 0), .int 0]))) (g.1 0 0) (.inr (10, [.ref (g.1 1 0), .ref (g.1 2 0), .int (gS st 2), .int ((gS st 3) + (itS st (ix p0) 7)), .int (gS st 1), .int (gS st 0), .int 0]))) (g.1 7 (ix p0)) (.inr (8, [.ref (g.1 5 (tbN st (ix p0))), .int (itS st (ix p0) 1), .int (sof (itS st (ix p0) 2)), .int (itS st (ix p0) 3), .int 0, .int (itS st (ix p0) 6), .int (itS st (ix p0) 5), .int (itS st (ix p0) 12), .int (itS st (ix p0) 13), .int (itS st (ix p0) 14), .int (itS st (ix p0) 15), .int (itS st (ix p0) 8), .int (itS st (ix p0) 9), .int (itS st (ix p0) 10), .int (ceR g (ix p0)), .ref (g.1 8 (ix p0)), .ref (g.1 9 (ix p0))]))) (g.1 7 (ix p0)) = some (.inr (8, [.ref (g.1 5 (tbN st (ix p0))), .int (itS st (ix p0) 1), .int (sof (itS st (ix p0) 2)), .int (itS st (ix p0) 3), .int 0, .int (itS st (ix p0) 6), .int (itS st (ix p0) 5), .int (itS st (ix p0) 12), .int (itS st (ix p0) 13), .int (itS st (ix p0) 14), .int (itS st (ix p0) 15), .int (itS st (ix p0) 8), .int (itS st (ix p0) 9), .int (itS st (ix p0) 10), .int (ceR g (ix p0)), .ref (g.1 8 (ix p0)), .ref (g.1 9 (ix p0))])) := mu_s
        refine lv_aload_n hx hb dX7_smash_82 rfl (lv_at hl 1 rfl) ?_
        refine lv_iconst (v := 1) hx hb dX7_smash_83 (by decide) ?_
        refine m_putN (ci := 8) (v := .int 1) (ty := .boolean) (C := RX5) (T := TX5) (N := 17) hx hb hts i_X5 tyX5 tyX5_ok nmX5 hown hK hP hI hS h_I rfl 6 (by decide) (va_Nw.use rfl (hG.2.1.2.1 ("MeniscusModel", 104, "MeniscusModel$Instrument", "isSmashed", "Z", "MeniscusModel") (by decide +kernel))) (fun _ h9 => h9) rfl (by decide +kernel) rfl rfl (Nat.le_of_ble_eq_true rfl) dX7_smash_84 (fun H locs hP hI hS => ?_)
        have hP : mP G.1 (mu (mu (mu (mu Mw (g.1 0 0) (.inr (10, [.ref (g.1 1 0), .ref (g.1 2 0), .int (gS st 2), .int (gS st 3), .int (gS st 1), .int (gS st 0), .int 0]))) (g.1 0 0) (.inr (10, [.ref (g.1 1 0), .ref (g.1 2 0), .int (gS st 2), .int ((gS st 3) + (itS st (ix p0) 7)), .int (gS st 1), .int (gS st 0), .int 0]))) (g.1 7 (ix p0)) (.inr (8, [.ref (g.1 5 (tbN st (ix p0))), .int (itS st (ix p0) 1), .int (sof (itS st (ix p0) 2)), .int (itS st (ix p0) 3), .int 0, .int (itS st (ix p0) 6), .int (itS st (ix p0) 5), .int (itS st (ix p0) 12), .int (itS st (ix p0) 13), .int (itS st (ix p0) 14), .int (itS st (ix p0) 15), .int (itS st (ix p0) 8), .int (itS st (ix p0) 9), .int (itS st (ix p0) 10), .int (ceR g (ix p0)), .ref (g.1 8 (ix p0)), .ref (g.1 9 (ix p0))]))) (g.1 7 (ix p0)) (.inr (8, [.ref (g.1 5 (tbN st (ix p0))), .int (itS st (ix p0) 1), .int (sof (itS st (ix p0) 2)), .int (itS st (ix p0) 3), .int 0, .int (itS st (ix p0) 6), .int 1, .int (itS st (ix p0) 12), .int (itS st (ix p0) 13), .int (itS st (ix p0) 14), .int (itS st (ix p0) 15), .int (itS st (ix p0) 8), .int (itS st (ix p0) 9), .int (itS st (ix p0) 10), .int (ceR g (ix p0)), .ref (g.1 8 (ix p0)), .ref (g.1 9 (ix p0))]))) H := hP
        have hI : mI A (mu (mu (mu (mu Mw (g.1 0 0) (.inr (10, [.ref (g.1 1 0), .ref (g.1 2 0), .int (gS st 2), .int (gS st 3), .int (gS st 1), .int (gS st 0), .int 0]))) (g.1 0 0) (.inr (10, [.ref (g.1 1 0), .ref (g.1 2 0), .int (gS st 2), .int ((gS st 3) + (itS st (ix p0) 7)), .int (gS st 1), .int (gS st 0), .int 0]))) (g.1 7 (ix p0)) (.inr (8, [.ref (g.1 5 (tbN st (ix p0))), .int (itS st (ix p0) 1), .int (sof (itS st (ix p0) 2)), .int (itS st (ix p0) 3), .int 0, .int (itS st (ix p0) 6), .int (itS st (ix p0) 5), .int (itS st (ix p0) 12), .int (itS st (ix p0) 13), .int (itS st (ix p0) 14), .int (itS st (ix p0) 15), .int (itS st (ix p0) 8), .int (itS st (ix p0) 9), .int (itS st (ix p0) 10), .int (ceR g (ix p0)), .ref (g.1 8 (ix p0)), .ref (g.1 9 (ix p0))]))) (g.1 7 (ix p0)) (.inr (8, [.ref (g.1 5 (tbN st (ix p0))), .int (itS st (ix p0) 1), .int (sof (itS st (ix p0) 2)), .int (itS st (ix p0) 3), .int 0, .int (itS st (ix p0) 6), .int 1, .int (itS st (ix p0) 12), .int (itS st (ix p0) 13), .int (itS st (ix p0) 14), .int (itS st (ix p0) 15), .int (itS st (ix p0) 8), .int (itS st (ix p0) 9), .int (itS st (ix p0) 10), .int (ceR g (ix p0)), .ref (g.1 8 (ix p0)), .ref (g.1 9 (ix p0))]))) := hI
        have h_X := mu_k (e := .inr (8, [.ref (g.1 5 (tbN st (ix p0))), .int (itS st (ix p0) 1), .int (sof (itS st (ix p0) 2)), .int (itS st (ix p0) 3), .int 0, .int (itS st (ix p0) 6), .int 1, .int (itS st (ix p0) 12), .int (itS st (ix p0) 13), .int (itS st (ix p0) 14), .int (itS st (ix p0) 15), .int (itS st (ix p0) 8), .int (itS st (ix p0) 9), .int (itS st (ix p0) 10), .int (ceR g (ix p0)), .ref (g.1 8 (ix p0)), .ref (g.1 9 (ix p0))])) (kd_ne h_X h_I rfl) h_X
        have h_TL := mu_k (e := .inr (8, [.ref (g.1 5 (tbN st (ix p0))), .int (itS st (ix p0) 1), .int (sof (itS st (ix p0) 2)), .int (itS st (ix p0) 3), .int 0, .int (itS st (ix p0) 6), .int 1, .int (itS st (ix p0) 12), .int (itS st (ix p0) 13), .int (itS st (ix p0) 14), .int (itS st (ix p0) 15), .int (itS st (ix p0) 8), .int (itS st (ix p0) 9), .int (itS st (ix p0) 10), .int (ceR g (ix p0)), .ref (g.1 8 (ix p0)), .ref (g.1 9 (ix p0))])) (kd_ne h_TL h_I rfl) h_TL
        have h_IL := mu_k (e := .inr (8, [.ref (g.1 5 (tbN st (ix p0))), .int (itS st (ix p0) 1), .int (sof (itS st (ix p0) 2)), .int (itS st (ix p0) 3), .int 0, .int (itS st (ix p0) 6), .int 1, .int (itS st (ix p0) 12), .int (itS st (ix p0) 13), .int (itS st (ix p0) 14), .int (itS st (ix p0) 15), .int (itS st (ix p0) 8), .int (itS st (ix p0) 9), .int (itS st (ix p0) 10), .int (ceR g (ix p0)), .ref (g.1 8 (ix p0)), .ref (g.1 9 (ix p0))])) (kd_ne h_IL h_I rfl) h_IL
        have h_ID := mu_k (e := .inr (8, [.ref (g.1 5 (tbN st (ix p0))), .int (itS st (ix p0) 1), .int (sof (itS st (ix p0) 2)), .int (itS st (ix p0) 3), .int 0, .int (itS st (ix p0) 6), .int 1, .int (itS st (ix p0) 12), .int (itS st (ix p0) 13), .int (itS st (ix p0) 14), .int (itS st (ix p0) 15), .int (itS st (ix p0) 8), .int (itS st (ix p0) 9), .int (itS st (ix p0) 10), .int (ceR g (ix p0)), .ref (g.1 8 (ix p0)), .ref (g.1 9 (ix p0))])) (kd_ne h_ID h_I rfl) h_ID
        rw [mu_uu] at hP hI h_X h_TL h_IL h_ID
        have h_I : (mu (mu (mu Mw (g.1 0 0) (.inr (10, [.ref (g.1 1 0), .ref (g.1 2 0), .int (gS st 2), .int (gS st 3), .int (gS st 1), .int (gS st 0), .int 0]))) (g.1 0 0) (.inr (10, [.ref (g.1 1 0), .ref (g.1 2 0), .int (gS st 2), .int ((gS st 3) + (itS st (ix p0) 7)), .int (gS st 1), .int (gS st 0), .int 0]))) (g.1 7 (ix p0)) (.inr (8, [.ref (g.1 5 (tbN st (ix p0))), .int (itS st (ix p0) 1), .int (sof (itS st (ix p0) 2)), .int (itS st (ix p0) 3), .int 0, .int (itS st (ix p0) 6), .int 1, .int (itS st (ix p0) 12), .int (itS st (ix p0) 13), .int (itS st (ix p0) 14), .int (itS st (ix p0) 15), .int (itS st (ix p0) 8), .int (itS st (ix p0) 9), .int (itS st (ix p0) 10), .int (ceR g (ix p0)), .ref (g.1 8 (ix p0)), .ref (g.1 9 (ix p0))]))) (g.1 7 (ix p0)) = some (.inr (8, [.ref (g.1 5 (tbN st (ix p0))), .int (itS st (ix p0) 1), .int (sof (itS st (ix p0) 2)), .int (itS st (ix p0) 3), .int 0, .int (itS st (ix p0) 6), .int 1, .int (itS st (ix p0) 12), .int (itS st (ix p0) 13), .int (itS st (ix p0) 14), .int (itS st (ix p0) 15), .int (itS st (ix p0) 8), .int (itS st (ix p0) 9), .int (itS st (ix p0) 10), .int (ceR g (ix p0)), .ref (g.1 8 (ix p0)), .ref (g.1 9 (ix p0))])) := mu_s
        refine lv_aload_n hx hb dX7_smash_87 rfl (lv_at hl 1 rfl) ?_
        refine lv_iconst (v := (-1)) hx hb dX7_smash_88 (by decide) ?_
        refine m_putN (ci := 8) (v := .int ((-1))) (ty := .int) (C := RX5) (T := TX5) (N := 17) hx hb hts i_X5 tyX5 tyX5_ok nmX5 hown hK hP hI hS h_I rfl 14 (by decide) (va_Nw.use rfl (hG.2.1.2.1 ("MeniscusModel", 113, "MeniscusModel$Instrument", "certified", "I", "MeniscusModel") (by decide +kernel))) (fun _ h9 => h9) rfl (by decide +kernel) rfl rfl (Nat.le_of_ble_eq_true rfl) dX7_smash_89 (fun H locs hP hI hS => ?_)
        have hP : mP G.1 (mu (mu (mu (mu Mw (g.1 0 0) (.inr (10, [.ref (g.1 1 0), .ref (g.1 2 0), .int (gS st 2), .int (gS st 3), .int (gS st 1), .int (gS st 0), .int 0]))) (g.1 0 0) (.inr (10, [.ref (g.1 1 0), .ref (g.1 2 0), .int (gS st 2), .int ((gS st 3) + (itS st (ix p0) 7)), .int (gS st 1), .int (gS st 0), .int 0]))) (g.1 7 (ix p0)) (.inr (8, [.ref (g.1 5 (tbN st (ix p0))), .int (itS st (ix p0) 1), .int (sof (itS st (ix p0) 2)), .int (itS st (ix p0) 3), .int 0, .int (itS st (ix p0) 6), .int 1, .int (itS st (ix p0) 12), .int (itS st (ix p0) 13), .int (itS st (ix p0) 14), .int (itS st (ix p0) 15), .int (itS st (ix p0) 8), .int (itS st (ix p0) 9), .int (itS st (ix p0) 10), .int (ceR g (ix p0)), .ref (g.1 8 (ix p0)), .ref (g.1 9 (ix p0))]))) (g.1 7 (ix p0)) (.inr (8, [.ref (g.1 5 (tbN st (ix p0))), .int (itS st (ix p0) 1), .int (sof (itS st (ix p0) 2)), .int (itS st (ix p0) 3), .int 0, .int (itS st (ix p0) 6), .int 1, .int (itS st (ix p0) 12), .int (itS st (ix p0) 13), .int (itS st (ix p0) 14), .int (itS st (ix p0) 15), .int (itS st (ix p0) 8), .int (itS st (ix p0) 9), .int (itS st (ix p0) 10), .int ((-1)), .ref (g.1 8 (ix p0)), .ref (g.1 9 (ix p0))]))) H := hP
        have hI : mI A (mu (mu (mu (mu Mw (g.1 0 0) (.inr (10, [.ref (g.1 1 0), .ref (g.1 2 0), .int (gS st 2), .int (gS st 3), .int (gS st 1), .int (gS st 0), .int 0]))) (g.1 0 0) (.inr (10, [.ref (g.1 1 0), .ref (g.1 2 0), .int (gS st 2), .int ((gS st 3) + (itS st (ix p0) 7)), .int (gS st 1), .int (gS st 0), .int 0]))) (g.1 7 (ix p0)) (.inr (8, [.ref (g.1 5 (tbN st (ix p0))), .int (itS st (ix p0) 1), .int (sof (itS st (ix p0) 2)), .int (itS st (ix p0) 3), .int 0, .int (itS st (ix p0) 6), .int 1, .int (itS st (ix p0) 12), .int (itS st (ix p0) 13), .int (itS st (ix p0) 14), .int (itS st (ix p0) 15), .int (itS st (ix p0) 8), .int (itS st (ix p0) 9), .int (itS st (ix p0) 10), .int (ceR g (ix p0)), .ref (g.1 8 (ix p0)), .ref (g.1 9 (ix p0))]))) (g.1 7 (ix p0)) (.inr (8, [.ref (g.1 5 (tbN st (ix p0))), .int (itS st (ix p0) 1), .int (sof (itS st (ix p0) 2)), .int (itS st (ix p0) 3), .int 0, .int (itS st (ix p0) 6), .int 1, .int (itS st (ix p0) 12), .int (itS st (ix p0) 13), .int (itS st (ix p0) 14), .int (itS st (ix p0) 15), .int (itS st (ix p0) 8), .int (itS st (ix p0) 9), .int (itS st (ix p0) 10), .int ((-1)), .ref (g.1 8 (ix p0)), .ref (g.1 9 (ix p0))]))) := hI
        have h_X := mu_k (e := .inr (8, [.ref (g.1 5 (tbN st (ix p0))), .int (itS st (ix p0) 1), .int (sof (itS st (ix p0) 2)), .int (itS st (ix p0) 3), .int 0, .int (itS st (ix p0) 6), .int 1, .int (itS st (ix p0) 12), .int (itS st (ix p0) 13), .int (itS st (ix p0) 14), .int (itS st (ix p0) 15), .int (itS st (ix p0) 8), .int (itS st (ix p0) 9), .int (itS st (ix p0) 10), .int ((-1)), .ref (g.1 8 (ix p0)), .ref (g.1 9 (ix p0))])) (kd_ne h_X h_I rfl) h_X
        have h_TL := mu_k (e := .inr (8, [.ref (g.1 5 (tbN st (ix p0))), .int (itS st (ix p0) 1), .int (sof (itS st (ix p0) 2)), .int (itS st (ix p0) 3), .int 0, .int (itS st (ix p0) 6), .int 1, .int (itS st (ix p0) 12), .int (itS st (ix p0) 13), .int (itS st (ix p0) 14), .int (itS st (ix p0) 15), .int (itS st (ix p0) 8), .int (itS st (ix p0) 9), .int (itS st (ix p0) 10), .int ((-1)), .ref (g.1 8 (ix p0)), .ref (g.1 9 (ix p0))])) (kd_ne h_TL h_I rfl) h_TL
        have h_IL := mu_k (e := .inr (8, [.ref (g.1 5 (tbN st (ix p0))), .int (itS st (ix p0) 1), .int (sof (itS st (ix p0) 2)), .int (itS st (ix p0) 3), .int 0, .int (itS st (ix p0) 6), .int 1, .int (itS st (ix p0) 12), .int (itS st (ix p0) 13), .int (itS st (ix p0) 14), .int (itS st (ix p0) 15), .int (itS st (ix p0) 8), .int (itS st (ix p0) 9), .int (itS st (ix p0) 10), .int ((-1)), .ref (g.1 8 (ix p0)), .ref (g.1 9 (ix p0))])) (kd_ne h_IL h_I rfl) h_IL
        have h_ID := mu_k (e := .inr (8, [.ref (g.1 5 (tbN st (ix p0))), .int (itS st (ix p0) 1), .int (sof (itS st (ix p0) 2)), .int (itS st (ix p0) 3), .int 0, .int (itS st (ix p0) 6), .int 1, .int (itS st (ix p0) 12), .int (itS st (ix p0) 13), .int (itS st (ix p0) 14), .int (itS st (ix p0) 15), .int (itS st (ix p0) 8), .int (itS st (ix p0) 9), .int (itS st (ix p0) 10), .int ((-1)), .ref (g.1 8 (ix p0)), .ref (g.1 9 (ix p0))])) (kd_ne h_ID h_I rfl) h_ID
        rw [mu_uu] at hP hI h_X h_TL h_IL h_ID
        have h_I : (mu (mu (mu Mw (g.1 0 0) (.inr (10, [.ref (g.1 1 0), .ref (g.1 2 0), .int (gS st 2), .int (gS st 3), .int (gS st 1), .int (gS st 0), .int 0]))) (g.1 0 0) (.inr (10, [.ref (g.1 1 0), .ref (g.1 2 0), .int (gS st 2), .int ((gS st 3) + (itS st (ix p0) 7)), .int (gS st 1), .int (gS st 0), .int 0]))) (g.1 7 (ix p0)) (.inr (8, [.ref (g.1 5 (tbN st (ix p0))), .int (itS st (ix p0) 1), .int (sof (itS st (ix p0) 2)), .int (itS st (ix p0) 3), .int 0, .int (itS st (ix p0) 6), .int 1, .int (itS st (ix p0) 12), .int (itS st (ix p0) 13), .int (itS st (ix p0) 14), .int (itS st (ix p0) 15), .int (itS st (ix p0) 8), .int (itS st (ix p0) 9), .int (itS st (ix p0) 10), .int ((-1)), .ref (g.1 8 (ix p0)), .ref (g.1 9 (ix p0))]))) (g.1 7 (ix p0)) = some (.inr (8, [.ref (g.1 5 (tbN st (ix p0))), .int (itS st (ix p0) 1), .int (sof (itS st (ix p0) 2)), .int (itS st (ix p0) 3), .int 0, .int (itS st (ix p0) 6), .int 1, .int (itS st (ix p0) 12), .int (itS st (ix p0) 13), .int (itS st (ix p0) 14), .int (itS st (ix p0) 15), .int (itS st (ix p0) 8), .int (itS st (ix p0) 9), .int (itS st (ix p0) 10), .int ((-1)), .ref (g.1 8 (ix p0)), .ref (g.1 9 (ix p0))])) := mu_s
        refine lv_iload_n hx hb dX7_smash_92 rfl (lv_at hl 0 rfl) ?_
        refine W.widen (k := 0) (n := 0) (Nat.le_of_ble_eq_true rfl) (Nat.le_of_ble_eq_true rfl) ?_
        exact W.iret (v := itS st (ix p0) 7) hx hb hr (fun t99 ht99 hW99 => ⟨⟨itS st (ix p0) 7, (mu (mu (mu Mw (g.1 0 0) (.inr (10, [.ref (g.1 1 0), .ref (g.1 2 0), .int (gS st 2), .int (gS st 3), .int (gS st 1), .int (gS st 0), .int 0]))) (g.1 0 0) (.inr (10, [.ref (g.1 1 0), .ref (g.1 2 0), .int (gS st 2), .int ((gS st 3) + (itS st (ix p0) 7)), .int (gS st 1), .int (gS st 0), .int 0]))) (g.1 7 (ix p0)) (.inr (8, [.ref (g.1 5 (tbN st (ix p0))), .int (itS st (ix p0) 1), .int (sof (itS st (ix p0) 2)), .int (itS st (ix p0) 3), .int 0, .int (itS st (ix p0) 6), .int 1, .int (itS st (ix p0) 12), .int (itS st (ix p0) 13), .int (itS st (ix p0) 14), .int (itS st (ix p0) 15), .int (itS st (ix p0) 8), .int (itS st (ix p0) 9), .int (itS st (ix p0) 10), .int ((-1)), .ref (g.1 8 (ix p0)), .ref (g.1 9 (ix p0))]))), rfl, RP.ok (by unfold m_smash; first | (rw [chk_p hi9, chk_p hz9]; done) | (rw [chk_p hi9, chk_p hz9]; rfl)) (hR.io hi9.2 (fu (gS st) 3 (gS st 3 + mer st (ix p0))) (smaG st (ix p0)) rfl ((-1)) 0 (h_X.trans (congrArg some (by first | (rw [show (itS st (ix p0) 7 : Int32) = mer st (ix p0) from (if_pos c6).symm]; done) | (rw [show (itS st (ix p0) 7 : Int32) = mer st (ix p0) from (if_pos c6).symm]; rfl)))) h_I (fun x9 e9 hx9 h0 h1 => ((mu_n h1).trans ((mu_n h0).trans ((mu_n h0).trans (rfl)))).trans hx9) (fun q9 => absurd (show (1 : Int32) = 0 from q9) (by decide))) rfl rfl, by rw [ht99]; exact hP, hI⟩, hS.F ht99⟩) hS.2.2 dX7_smash_93
    · rw [hz9]
      refine lv_iconst (v := 2) hx hb dX7_smash_28 (by decide) ?_
      refine m_calli (va_runV (As := [.int 1, .int 2]) (rest := []) ⟨hx, hb, hml, hown, hts⟩ (c_X7_isThrown1 l G A (mu Mw (g.1 0 0) (.inr (10, [.ref (g.1 1 0), .ref (g.1 2 0), .int (gS st 2), .int (gS st 3), .int (gS st 1), .int (gS st 0), .int 0])))  2 h_X) (cwV 2 hts gX7_smash_X7_isThrown rfl rfl rfl (by decide +kernel) ⟨Nat.le_of_ble_eq_true rfl, Nat.le_of_ble_eq_true rfl⟩) (mPreV hG hS hP hI hA (hP _ _ h_X) (r := (RX7, TX7, 7)) rfl) rfl rfl hl.1 rfl (lv_room (Nat.le_of_ble_eq_true rfl)) dX7_smash_29 ⟨Nat.le_of_ble_eq_true rfl, Nat.le_of_ble_eq_true rfl⟩) hS (fun r7 Mw1 H locs hp_r7 hP hI hS => ?_)
      obtain ⟨hp_r7, hm9⟩ := hp_r7
      subst Mw1
      subst hp_r7
      have h_TL := mu_k (e := .inr (10, [.ref (g.1 1 0), .ref (g.1 2 0), .int (gS st 2), .int (gS st 3), .int (gS st 1), .int (gS st 0), .int 2])) (kd_ne h_TL h_X rfl) h_TL
      have h_IL := mu_k (e := .inr (10, [.ref (g.1 1 0), .ref (g.1 2 0), .int (gS st 2), .int (gS st 3), .int (gS st 1), .int (gS st 0), .int 2])) (kd_ne h_IL h_X rfl) h_IL
      have h_ID := mu_k (e := .inr (10, [.ref (g.1 1 0), .ref (g.1 2 0), .int (gS st 2), .int (gS st 3), .int (gS st 1), .int (gS st 0), .int 2])) (kd_ne h_ID h_X rfl) h_ID
      have h_I := mu_k (e := .inr (10, [.ref (g.1 1 0), .ref (g.1 2 0), .int (gS st 2), .int (gS st 3), .int (gS st 1), .int (gS st 0), .int 2])) (kd_ne h_I h_X rfl) h_I
      have h_X : (mu (mu Mw (g.1 0 0) (.inr (10, [.ref (g.1 1 0), .ref (g.1 2 0), .int (gS st 2), .int (gS st 3), .int (gS st 1), .int (gS st 0), .int 0]))) (g.1 0 0) (.inr (10, [.ref (g.1 1 0), .ref (g.1 2 0), .int (gS st 2), .int (gS st 3), .int (gS st 1), .int (gS st 0), .int 2]))) (g.1 0 0) = some (.inr (10, [.ref (g.1 1 0), .ref (g.1 2 0), .int (gS st 2), .int (gS st 3), .int (gS st 1), .int (gS st 0), .int 2])) := mu_s
      refine lv_if_eq (tgt := 37) hx hb dX7_smash_32 (by decide) (fun h9 => absurd h9 (by decide)) (fun _ => ?_)
      refine lv_iconst (v := 0) hx hb dX7_smash_35 (by decide) ?_
      refine W.widen (k := 0) (n := 0) (Nat.le_of_ble_eq_true rfl) (Nat.le_of_ble_eq_true rfl) ?_
      exact W.iret (v := 0) hx hb hr (fun t99 ht99 hW99 => ⟨⟨0, (mu (mu Mw (g.1 0 0) (.inr (10, [.ref (g.1 1 0), .ref (g.1 2 0), .int (gS st 2), .int (gS st 3), .int (gS st 1), .int (gS st 0), .int 0]))) (g.1 0 0) (.inr (10, [.ref (g.1 1 0), .ref (g.1 2 0), .int (gS st 2), .int (gS st 3), .int (gS st 1), .int (gS st 0), .int 2]))), rfl, RP.no (k := 2) (by unfold m_smash; first | (rw [chk_p hi9, chk_n (fun q9 => by rw [hz9] at q9; exact absurd q9 (by decide))]; done) | (rw [chk_p hi9, chk_n (fun q9 => by rw [hz9] at q9; exact absurd q9 (by decide))]; rfl)) (by decide) (hR.th 2 h_X (fun x9 e9 hx9 h0 => ((mu_n h0).trans ((mu_n h0).trans (rfl))).trans hx9)) rfl rfl, by rw [ht99]; exact hP, hI⟩, hS.F ht99⟩) hS.2.2 dX7_smash_36
  · subst hr9
    refine lv_iconst (v := 1) hx hb dX7_smash_6 (by decide) ?_
    refine m_calli (va_runV (As := [.int 1, .int 1]) (rest := []) ⟨hx, hb, hml, hown, hts⟩ (c_X7_isThrown1 l G A Mw  1 h_X) (cwV 2 hts gX7_smash_X7_isThrown rfl rfl rfl (by decide +kernel) ⟨Nat.le_of_ble_eq_true rfl, Nat.le_of_ble_eq_true rfl⟩) (mPreV hG hS hP hI hA (hP _ _ h_X) (r := (RX7, TX7, 7)) rfl) rfl rfl hl.1 rfl (lv_room (Nat.le_of_ble_eq_true rfl)) dX7_smash_7 ⟨Nat.le_of_ble_eq_true rfl, Nat.le_of_ble_eq_true rfl⟩) hS (fun r8 Mw1 H locs hp_r8 hP hI hS => ?_)
    obtain ⟨hp_r8, hm9⟩ := hp_r8
    subst Mw1
    subst hp_r8
    have h_TL := mu_k (e := .inr (10, [.ref (g.1 1 0), .ref (g.1 2 0), .int (gS st 2), .int (gS st 3), .int (gS st 1), .int (gS st 0), .int 1])) (kd_ne h_TL h_X rfl) h_TL
    have h_IL := mu_k (e := .inr (10, [.ref (g.1 1 0), .ref (g.1 2 0), .int (gS st 2), .int (gS st 3), .int (gS st 1), .int (gS st 0), .int 1])) (kd_ne h_IL h_X rfl) h_IL
    have h_X : (mu Mw (g.1 0 0) (.inr (10, [.ref (g.1 1 0), .ref (g.1 2 0), .int (gS st 2), .int (gS st 3), .int (gS st 1), .int (gS st 0), .int 1]))) (g.1 0 0) = some (.inr (10, [.ref (g.1 1 0), .ref (g.1 2 0), .int (gS st 2), .int (gS st 3), .int (gS st 1), .int (gS st 0), .int 1])) := mu_s
    refine lv_if_ne (tgt := 35) hx hb dX7_smash_10 (by decide) (fun _ => ?_) (fun h9 => absurd h9 (by decide))
    refine lv_iconst (v := 0) hx hb dX7_smash_35 (by decide) ?_
    refine W.widen (k := 0) (n := 0) (Nat.le_of_ble_eq_true rfl) (Nat.le_of_ble_eq_true rfl) ?_
    exact W.iret (v := 0) hx hb hr (fun t99 ht99 hW99 => ⟨⟨0, (mu Mw (g.1 0 0) (.inr (10, [.ref (g.1 1 0), .ref (g.1 2 0), .int (gS st 2), .int (gS st 3), .int (gS st 1), .int (gS st 0), .int 1]))), rfl, RP.no (k := 1) (by unfold m_smash; first | (rw [chk_n hq_r1]; done) | (rw [chk_n hq_r1]; rfl)) (by decide) (hR.th 1 h_X (fun x9 e9 hx9 h0 => ((mu_n h0).trans (rfl)).trans hx9)) rfl rfl, by rw [ht99]; exact hP, hI⟩, hS.F ht99⟩) hS.2.2 dX7_smash_36

set_option maxHeartbeats 4000000 in
set_option maxRecDepth 100000 in
theorem c_X7_fill (l : Launch) (G : mg) (A : Nat → Prop) (Mw : mw) (st : St) (g : gR) (p0 p1 p2 : Int32) (hR : RS G st g Mw) (hV : Inv st) : Met l yX7_fill wsX7_fill ({ frames := 3, cells := 0, slots := 0, locals := 64 }) (va_Pc [.ref (g.1 0 0), .int p0, .int p1, .int p2] (mB G A Mw)) (va_Qi (fun r Mw1 => RP G (m_fill st p0 p1 p2) g r Mw1) (mE G A) A) 0 0 A := by
  refine Met.ofW (cc := cX7_fill) (maxL := 6) (ret := (some .int)) (by decide) rfl ?_
  intro p e s m args below meth c s₁ B hml hv
  obtain ⟨rfl, hG, hP, hI, hA⟩ := hv
  have hx := B.exec
  have hb := B.bytes
  have hr := B.returns
  have hts := atoms_spec (ws := wsX7_fill) B.pre
  have hown : s.vm.findClass RX7 = some m.cls := findClass_of_methodNamed B.named
  have hlocks := B.notSynchronized
  have hK := hG.K
  have i_X5 : ∀ w ∈ wsX50, w ∈ wsX7_fill := by decide +kernel
  have i_X7 : ∀ w ∈ wsX70, w ∈ wsX7_fill := by decide +kernel
  have hS : va_S A s.heap s.heap [] := va_S.rf
  have hl := lv_entry ([.ref (g.1 0 0), .int p0, .int p1, .int p2]) (n := 6) (Nat.le_of_ble_eq_true rfl)
  rw [lg_entry_eq]
  generalize (lg_sl ([.ref (g.1 0 0), .int p0, .int p1, .int p2]) ++ List.replicate (6 - (lg_sl ([.ref (g.1 0 0), .int p0, .int p1, .int p2])).length) Slot.unset).toArray = ls at hl ⊢
  have hl : lv_has ls 6 [(0, .ref (g.1 0 0)), (1, .int p0), (2, .int p1), (3, .int p2)] := hl
  have hP : mP G.1 Mw s.heap := hP
  have h_X : Mw (g.1 0 0) = some (.inr (10, [.ref (g.1 1 0), .ref (g.1 2 0), .int (gS st 2), .int (gS st 3), .int (gS st 1), .int (gS st 0), .int (thR g)])) := hR.1 0 0 ro0
  have h_TL : Mw (g.1 1 0) = some (.inr (2, [.int (mcR g 1 0), .ref (g.1 3 0), .int ((nI (nT st)))])) := hR.1 1 0 ro1
  have h_IL : Mw (g.1 2 0) = some (.inr (2, [.int (mcR g 2 0), .ref (g.1 4 0), .int ((nI (nN st)))])) := hR.1 2 0 ro2
  have hti9 := hR.ne ro1 ro2 (by omega)
  have hnT8 := hV.1.1
  have hnN8 := Nat.le_trans hV.1.2 (show 6 ≤ 8 by decide)
  refine lv_aload_n hx hb dX7_fill_0 rfl (lv_at hl 0 rfl) ?_
  refine lv_aload_n hx hb dX7_fill_1 rfl (lv_at hl 0 rfl) ?_
  refine lv_iload_n hx hb dX7_fill_2 rfl (lv_at hl 1 rfl) ?_
  refine m_calli (va_runV (As := [.int p0]) (rest := [.ref (g.1 0 0)]) ⟨hx, hb, hml, hown, hts⟩ (c_X7_isNone l G A Mw  p0 h_X h_IL hnN8) (cwV 1 hts gX7_fill_X7_isNone rfl rfl rfl (by decide +kernel) ⟨Nat.le_of_ble_eq_true rfl, Nat.le_of_ble_eq_true rfl⟩) (mPreV hG hS hP hI hA (hP _ _ h_X) (r := (RX7, TX7, 7)) rfl) rfl rfl hl.1 rfl (lv_room (Nat.le_of_ble_eq_true rfl)) dX7_fill_3 ⟨Nat.le_of_ble_eq_true rfl, Nat.le_of_ble_eq_true rfl⟩) hS (fun r1 Mw1 H locs hp_r1 hP hI hS => ?_)
  obtain ⟨hb9, hm9⟩ := hp_r1
  subst Mw1
  rcases hb9 with ⟨hr9, hq_r1⟩ | ⟨hr9, hq_r1⟩
  · subst hr9
    have hi9 := hq_r1
    have e_p0 : p0 = nI (ix p0) := nI_cl hi9.1
    rw [e_p0] at hl
    have hf4 := hR.f4 hi9.2
    have h_ID : Mw (g.1 4 0) = some (.inl (G.2.1 5, 10, .inr (.inr (.inr (.inr (qf (nN st) (g.1 7))))))) := hR.1 4 0 (ro4 hf4)
    have h_I : Mw (g.1 7 (ix p0)) = some (.inr (8, [.ref (g.1 5 (tbN st (ix p0))), .int (itS st (ix p0) 1), .int (sof (itS st (ix p0) 2)), .int (itS st (ix p0) 3), .int (itS st (ix p0) 7), .int (itS st (ix p0) 6), .int (itS st (ix p0) 5), .int (itS st (ix p0) 12), .int (itS st (ix p0) 13), .int (itS st (ix p0) 14), .int (itS st (ix p0) 15), .int (itS st (ix p0) 8), .int (itS st (ix p0) 9), .int (itS st (ix p0) 10), .int (ceR g (ix p0)), .ref (g.1 8 (ix p0)), .ref (g.1 9 (ix p0))])) := hR.1 7 _ (ro7 hi9.2)
    have hT9 := hV.tb hi9.2
    have h_T : Mw (g.1 5 (tbN st (ix p0))) = some (.inr (9, [.ref (g.1 6 (tbN st (ix p0))), .int (usS st (tbN st (ix p0)))])) := hR.1 5 _ (ro5 hT9)
    have h_B : Mw (g.1 6 (tbN st (ix p0))) = some (.inl (G.2.1 0, 20, .inl (boS st (tbN st (ix p0))))) := hR.1 6 _ (ro6 hT9)
    refine lv_iconst (v := 1) hx hb dX7_fill_6 (by decide) ?_
    refine m_calli (va_runV (As := [.int 0, .int 1]) (rest := []) ⟨hx, hb, hml, hown, hts⟩ (c_X7_isThrown0 l G A Mw  1 h_X) (cwV 2 hts gX7_fill_X7_isThrown rfl rfl rfl (by decide +kernel) ⟨Nat.le_of_ble_eq_true rfl, Nat.le_of_ble_eq_true rfl⟩) (mPreV hG hS hP hI hA (hP _ _ h_X) (r := (RX7, TX7, 7)) rfl) rfl rfl hl.1 rfl (lv_room (Nat.le_of_ble_eq_true rfl)) dX7_fill_7 ⟨Nat.le_of_ble_eq_true rfl, Nat.le_of_ble_eq_true rfl⟩) hS (fun r2 Mw1 H locs hp_r2 hP hI hS => ?_)
    obtain ⟨hp_r2, hm9⟩ := hp_r2
    subst Mw1
    subst hp_r2
    have h_TL := mu_k (e := .inr (10, [.ref (g.1 1 0), .ref (g.1 2 0), .int (gS st 2), .int (gS st 3), .int (gS st 1), .int (gS st 0), .int 0])) (kd_ne h_TL h_X rfl) h_TL
    have h_IL := mu_k (e := .inr (10, [.ref (g.1 1 0), .ref (g.1 2 0), .int (gS st 2), .int (gS st 3), .int (gS st 1), .int (gS st 0), .int 0])) (kd_ne h_IL h_X rfl) h_IL
    have h_ID := mu_k (e := .inr (10, [.ref (g.1 1 0), .ref (g.1 2 0), .int (gS st 2), .int (gS st 3), .int (gS st 1), .int (gS st 0), .int 0])) (kd_ne h_ID h_X rfl) h_ID
    have h_I := mu_k (e := .inr (10, [.ref (g.1 1 0), .ref (g.1 2 0), .int (gS st 2), .int (gS st 3), .int (gS st 1), .int (gS st 0), .int 0])) (kd_ne h_I h_X rfl) h_I
    have h_T := mu_k (e := .inr (10, [.ref (g.1 1 0), .ref (g.1 2 0), .int (gS st 2), .int (gS st 3), .int (gS st 1), .int (gS st 0), .int 0])) (kd_ne h_T h_X rfl) h_T
    have h_B := mu_k (e := .inr (10, [.ref (g.1 1 0), .ref (g.1 2 0), .int (gS st 2), .int (gS st 3), .int (gS st 1), .int (gS st 0), .int 0])) (kd_ne h_B h_X rfl) h_B
    have h_X : (mu Mw (g.1 0 0) (.inr (10, [.ref (g.1 1 0), .ref (g.1 2 0), .int (gS st 2), .int (gS st 3), .int (gS st 1), .int (gS st 0), .int 0]))) (g.1 0 0) = some (.inr (10, [.ref (g.1 1 0), .ref (g.1 2 0), .int (gS st 2), .int (gS st 3), .int (gS st 1), .int (gS st 0), .int 0])) := mu_s
    refine lv_if_ne (tgt := 45) hx hb dX7_fill_10 (by decide) (fun h9 => absurd h9 (by decide)) (fun _ => ?_)
    refine lv_aload_n hx hb dX7_fill_13 rfl (lv_at hl 0 rfl) ?_
    refine lv_iload_n hx hb dX7_fill_14 rfl (lv_at hl 2 rfl) ?_
    refine lv_bipush (v := (109)) hx hb dX7_fill_15 (by decide) ?_
    refine lv_icmp_eq (tgt := 26) hx hb dX7_fill_17 (by decide) (fun c3 => ?_) (fun c3 => ?_)
    · skip
      refine lv_iload_n hx hb dX7_fill_26 rfl (lv_at hl 3 rfl) ?_
      refine m_calli (va_runS (As := [.int p2]) (rest := [.ref (g.1 0 0)]) ⟨hx, hb, hml, hown, hts⟩ (c_X7_isNoPlace l G A (mu Mw (g.1 0 0) (.inr (10, [.ref (g.1 1 0), .ref (g.1 2 0), .int (gS st 2), .int (gS st 3), .int (gS st 1), .int (gS st 0), .int 0])))  p2) (va_cwS 1 hts gX7_fill_X7_isNoPlace rfl rfl rfl (by decide +kernel) ⟨Nat.le_of_ble_eq_true rfl, Nat.le_of_ble_eq_true rfl⟩) (mPreS hG hS hP hI hA) rfl rfl hl.1 rfl (lv_room (Nat.le_of_ble_eq_true rfl)) dX7_fill_27 ⟨Nat.le_of_ble_eq_true rfl, Nat.le_of_ble_eq_true rfl⟩) hS (fun r4 Mw1 H locs hp_r4 hP hI hS => ?_)
      obtain ⟨hb9, hm9⟩ := hp_r4
      subst Mw1
      rcases hb9 with ⟨hr9, hq_r4⟩ | ⟨hr9, hq_r4⟩
      · subst hr9
        have e_p2 : p2 = nI (ix p2) := nI_cl hq_r4.1
        rw [e_p2] at hl
        have hk_p2 := rg200 hq_r4
        have hv_p2 := hq_r4
        refine lv_if_eq (tgt := 37) hx hb dX7_fill_30 (by decide) (fun _ => ?_) (fun h9 => absurd h9 (by decide))
        refine lv_iconst (v := 0) hx hb dX7_fill_37 (by decide) ?_
        refine lv_iconst (v := 2) hx hb dX7_fill_38 (by decide) ?_
        refine m_calli (va_runV (As := [.int 0, .int 2]) (rest := []) ⟨hx, hb, hml, hown, hts⟩ (c_X7_isThrown0 l G A (mu Mw (g.1 0 0) (.inr (10, [.ref (g.1 1 0), .ref (g.1 2 0), .int (gS st 2), .int (gS st 3), .int (gS st 1), .int (gS st 0), .int 0])))  2 h_X) (cwV 2 hts gX7_fill_X7_isThrown rfl rfl rfl (by decide +kernel) ⟨Nat.le_of_ble_eq_true rfl, Nat.le_of_ble_eq_true rfl⟩) (mPreV hG hS hP hI hA (hP _ _ h_X) (r := (RX7, TX7, 7)) rfl) rfl rfl hl.1 rfl (lv_room (Nat.le_of_ble_eq_true rfl)) dX7_fill_39 ⟨Nat.le_of_ble_eq_true rfl, Nat.le_of_ble_eq_true rfl⟩) hS (fun r5 Mw1 H locs hp_r5 hP hI hS => ?_)
        obtain ⟨hp_r5, hm9⟩ := hp_r5
        subst Mw1
        subst hp_r5
        have h_TL := mu_k (e := .inr (10, [.ref (g.1 1 0), .ref (g.1 2 0), .int (gS st 2), .int (gS st 3), .int (gS st 1), .int (gS st 0), .int 0])) (kd_ne h_TL h_X rfl) h_TL
        have h_IL := mu_k (e := .inr (10, [.ref (g.1 1 0), .ref (g.1 2 0), .int (gS st 2), .int (gS st 3), .int (gS st 1), .int (gS st 0), .int 0])) (kd_ne h_IL h_X rfl) h_IL
        have h_ID := mu_k (e := .inr (10, [.ref (g.1 1 0), .ref (g.1 2 0), .int (gS st 2), .int (gS st 3), .int (gS st 1), .int (gS st 0), .int 0])) (kd_ne h_ID h_X rfl) h_ID
        have h_I := mu_k (e := .inr (10, [.ref (g.1 1 0), .ref (g.1 2 0), .int (gS st 2), .int (gS st 3), .int (gS st 1), .int (gS st 0), .int 0])) (kd_ne h_I h_X rfl) h_I
        have h_T := mu_k (e := .inr (10, [.ref (g.1 1 0), .ref (g.1 2 0), .int (gS st 2), .int (gS st 3), .int (gS st 1), .int (gS st 0), .int 0])) (kd_ne h_T h_X rfl) h_T
        have h_B := mu_k (e := .inr (10, [.ref (g.1 1 0), .ref (g.1 2 0), .int (gS st 2), .int (gS st 3), .int (gS st 1), .int (gS st 0), .int 0])) (kd_ne h_B h_X rfl) h_B
        have h_X : (mu (mu Mw (g.1 0 0) (.inr (10, [.ref (g.1 1 0), .ref (g.1 2 0), .int (gS st 2), .int (gS st 3), .int (gS st 1), .int (gS st 0), .int 0]))) (g.1 0 0) (.inr (10, [.ref (g.1 1 0), .ref (g.1 2 0), .int (gS st 2), .int (gS st 3), .int (gS st 1), .int (gS st 0), .int 0]))) (g.1 0 0) = some (.inr (10, [.ref (g.1 1 0), .ref (g.1 2 0), .int (gS st 2), .int (gS st 3), .int (gS st 1), .int (gS st 0), .int 0])) := mu_s
        refine lv_if_eq (tgt := 47) hx hb dX7_fill_42 (by decide) (fun _ => ?_) (fun h9 => absurd h9 (by decide))
        refine lv_aload_n hx hb dX7_fill_47 rfl (lv_at hl 0 rfl) ?_
        refine m_get (ci := 10) (v := .ref (g.1 2 0)) (C := RX7) (T := TX7) (N := 7) hx hb hts i_X7 hown hK (hP _ _ h_X) rfl 1 (by decide) (hts (.fieldLink RX7 16 "MeniscusModel" "instruments" "Ljava/util/ArrayList;") (by decide +kernel)) (fun _ h9 => h9) rfl dX7_fill_48 ?_
        refine lv_iload_n hx hb dX7_fill_51 rfl (lv_at hl 1 rfl) ?_
        refine m_callq (va_runV (As := [.int (nI (ix p0))]) (rest := []) ⟨hx, hb, hml, hown, hts⟩ (c_Jx4a65c_get_915e3 l G A (mu (mu Mw (g.1 0 0) (.inr (10, [.ref (g.1 1 0), .ref (g.1 2 0), .int (gS st 2), .int (gS st 3), .int (gS st 1), .int (gS st 0), .int 0]))) (g.1 0 0) (.inr (10, [.ref (g.1 1 0), .ref (g.1 2 0), .int (gS st 2), .int (gS st 3), .int (gS st 1), .int (gS st 0), .int 0])))  h_IL h_ID (ix p0) (g.1 7 (ix p0)) hi9.2 hnN8 (qf_p hi9.2)) (cwV 1 hts gX7_fill_Jx4a65c_get_915e3 rfl rfl rfl (by decide +kernel) ⟨Nat.le_of_ble_eq_true rfl, Nat.le_of_ble_eq_true rfl⟩) (mPreV hG hS hP hI hA (hP _ _ h_IL) (r := (RJx4a65c, TJx4a65c, 3)) rfl) rfl rfl hl.1 rfl (lv_room (Nat.le_of_ble_eq_true rfl)) dX7_fill_52 ⟨Nat.le_of_ble_eq_true rfl, Nat.le_of_ble_eq_true rfl⟩) hS (fun r6 Mw1 H locs hp_r6 hP hI hS => ?_)
        obtain ⟨hp_r6, hm9⟩ := hp_r6
        subst Mw1
        subst hp_r6
        refine va_castE hx hb hown (hts (.classLink RX7 79 RX5) (by decide +kernel)) (va_recv hK (va_at.one (hP _ _ h_I)) (q0 := 0) (q := (RX5, TX5, 17)) rfl rfl) dX7_fill_55 ?_
        refine lv_astore (lv' := [(4, .ref (g.1 7 (ix p0))), (0, .ref (g.1 0 0)), (1, .int (nI (ix p0))), (2, .int p1), (3, .int (nI (ix p2)))]) hx hb dX7_fill_58 hl (by decide) rfl (fun ls hl => ?_)
        refine lv_aload hx hb dX7_fill_60 (lv_at hl 0 rfl) ?_
        refine m_getN (ci := 8) (v := .int (itS st (ix p0) 1)) (C := RX5) (T := TX5) (N := 17) hx hb hts i_X5 hown hK (hP _ _ h_I) rfl 1 (by decide) (va_Nw.use rfl (hG.2.1.2.1 ("MeniscusModel", 90, "MeniscusModel$Instrument", "bulb", "I", "MeniscusModel") (by decide +kernel))) (fun _ h9 => h9) rfl dX7_fill_62 ?_
        refine lv_aload hx hb dX7_fill_65 (lv_at hl 0 rfl) ?_
        refine m_getN (ci := 8) (v := .int (itS st (ix p0) 3)) (C := RX5) (T := TX5) (N := 17) hx hb hts i_X5 hown hK (hP _ _ h_I) rfl 3 (by decide) (va_Nw.use rfl (hG.2.1.2.1 ("MeniscusModel", 93, "MeniscusModel$Instrument", "crept", "I", "MeniscusModel") (by decide +kernel))) (fun _ h9 => h9) rfl dX7_fill_67 ?_
        refine lv_isub hx hb dX7_fill_70 ?_
        refine lv_aload hx hb dX7_fill_71 (lv_at hl 0 rfl) ?_
        refine m_getN (ci := 8) (v := .ref (g.1 5 (tbN st (ix p0)))) (C := RX5) (T := TX5) (N := 17) hx hb hts i_X5 hown hK (hP _ _ h_I) rfl 0 (by decide) (va_Nw.use rfl (hG.2.1.2.1 ("MeniscusModel", 96, "MeniscusModel$Instrument", "tube", "LMeniscusModel$Tube;", "MeniscusModel") (by decide +kernel))) (fun _ h9 => h9) rfl dX7_fill_73 ?_
        refine lv_iload_n hx hb dX7_fill_76 rfl (lv_at hl 4 rfl) ?_
        refine m_calli (va_runV (As := [.int (nI (ix p2))]) (rest := [.int ((itS st (ix p0) 1) - (itS st (ix p0) 3))]) ⟨hx, hb, hml, hown, hts⟩ (c_X6_volume l G A (mu (mu Mw (g.1 0 0) (.inr (10, [.ref (g.1 1 0), .ref (g.1 2 0), .int (gS st 2), .int (gS st 3), .int (gS st 1), .int (gS st 0), .int 0]))) (g.1 0 0) (.inr (10, [.ref (g.1 1 0), .ref (g.1 2 0), .int (gS st 2), .int (gS st 3), .int (gS st 1), .int (gS st 0), .int 0])))  (ix p2) hk_p2 h_T h_B) (cwV 1 hts gX7_fill_X6_volume rfl rfl rfl (by decide +kernel) ⟨Nat.le_of_ble_eq_true rfl, Nat.le_of_ble_eq_true rfl⟩) (mPreV hG hS hP hI hA (hP _ _ h_T) (r := (RX6, TX6, 2)) rfl) rfl rfl hl.1 rfl (lv_room (Nat.le_of_ble_eq_true rfl)) dX7_fill_77 ⟨Nat.le_of_ble_eq_true rfl, Nat.le_of_ble_eq_true rfl⟩) hS (fun r7 Mw1 H locs hp_r7 hP hI hS => ?_)
        obtain ⟨hp_r7, hm9⟩ := hp_r7
        subst Mw1
        rw [← vs_i _ hv_p2] at hp_r7
        subst hp_r7
        refine lv_iadd hx hb dX7_fill_80 ?_
        refine lv_istore (lv' := [(5, .int (((itS st (ix p0) 1) - (itS st (ix p0) 3)) + (vsum (boS st (tbN st (ix p0))) p2 20))), (4, .ref (g.1 7 (ix p0))), (0, .ref (g.1 0 0)), (1, .int (nI (ix p0))), (2, .int p1), (3, .int (nI (ix p2)))]) hx hb dX7_fill_81 hl (by decide) rfl (fun ls hl => ?_)
        refine lv_aload_n hx hb dX7_fill_83 rfl (lv_at hl 2 rfl) ?_
        refine lv_aload hx hb dX7_fill_84 (lv_at hl 1 rfl) ?_
        refine m_getN (ci := 8) (v := .int (itS st (ix p0) 6)) (C := RX5) (T := TX5) (N := 17) hx hb hts i_X5 hown hK (hP _ _ h_I) rfl 5 (by decide) (va_Nw.use rfl (hG.2.1.2.1 ("MeniscusModel", 100, "MeniscusModel$Instrument", "liquid", "C", "MeniscusModel") (by decide +kernel))) (fun _ h9 => h9) rfl dX7_fill_86 ?_
        refine lv_bipush (v := (32)) hx hb dX7_fill_89 (by decide) ?_
        refine lv_icmp_ne (tgt := 117) hx hb dX7_fill_91 (by decide) (fun c8 => ?_) (fun c8 => ?_)
        · skip
          refine lv_iconst (v := 1) hx hb dX7_fill_117 (by decide) ?_
          refine lv_goto (tgt := 122) hx hb dX7_fill_118 (by decide) ?_
          refine lv_iconst (v := 3) hx hb dX7_fill_122 (by decide) ?_
          refine m_calli (va_runV (As := [.int 1, .int 3]) (rest := []) ⟨hx, hb, hml, hown, hts⟩ (c_X7_isThrown1 l G A (mu (mu Mw (g.1 0 0) (.inr (10, [.ref (g.1 1 0), .ref (g.1 2 0), .int (gS st 2), .int (gS st 3), .int (gS st 1), .int (gS st 0), .int 0]))) (g.1 0 0) (.inr (10, [.ref (g.1 1 0), .ref (g.1 2 0), .int (gS st 2), .int (gS st 3), .int (gS st 1), .int (gS st 0), .int 0])))  3 h_X) (cwV 2 hts gX7_fill_X7_isThrown rfl rfl rfl (by decide +kernel) ⟨Nat.le_of_ble_eq_true rfl, Nat.le_of_ble_eq_true rfl⟩) (mPreV hG hS hP hI hA (hP _ _ h_X) (r := (RX7, TX7, 7)) rfl) rfl rfl hl.1 rfl (lv_room (Nat.le_of_ble_eq_true rfl)) dX7_fill_123 ⟨Nat.le_of_ble_eq_true rfl, Nat.le_of_ble_eq_true rfl⟩) hS (fun r9 Mw1 H locs hp_r9 hP hI hS => ?_)
          obtain ⟨hp_r9, hm9⟩ := hp_r9
          subst Mw1
          subst hp_r9
          have h_TL := mu_k (e := .inr (10, [.ref (g.1 1 0), .ref (g.1 2 0), .int (gS st 2), .int (gS st 3), .int (gS st 1), .int (gS st 0), .int 3])) (kd_ne h_TL h_X rfl) h_TL
          have h_IL := mu_k (e := .inr (10, [.ref (g.1 1 0), .ref (g.1 2 0), .int (gS st 2), .int (gS st 3), .int (gS st 1), .int (gS st 0), .int 3])) (kd_ne h_IL h_X rfl) h_IL
          have h_ID := mu_k (e := .inr (10, [.ref (g.1 1 0), .ref (g.1 2 0), .int (gS st 2), .int (gS st 3), .int (gS st 1), .int (gS st 0), .int 3])) (kd_ne h_ID h_X rfl) h_ID
          have h_I := mu_k (e := .inr (10, [.ref (g.1 1 0), .ref (g.1 2 0), .int (gS st 2), .int (gS st 3), .int (gS st 1), .int (gS st 0), .int 3])) (kd_ne h_I h_X rfl) h_I
          have h_T := mu_k (e := .inr (10, [.ref (g.1 1 0), .ref (g.1 2 0), .int (gS st 2), .int (gS st 3), .int (gS st 1), .int (gS st 0), .int 3])) (kd_ne h_T h_X rfl) h_T
          have h_B := mu_k (e := .inr (10, [.ref (g.1 1 0), .ref (g.1 2 0), .int (gS st 2), .int (gS st 3), .int (gS st 1), .int (gS st 0), .int 3])) (kd_ne h_B h_X rfl) h_B
          have h_X : (mu (mu (mu Mw (g.1 0 0) (.inr (10, [.ref (g.1 1 0), .ref (g.1 2 0), .int (gS st 2), .int (gS st 3), .int (gS st 1), .int (gS st 0), .int 0]))) (g.1 0 0) (.inr (10, [.ref (g.1 1 0), .ref (g.1 2 0), .int (gS st 2), .int (gS st 3), .int (gS st 1), .int (gS st 0), .int 0]))) (g.1 0 0) (.inr (10, [.ref (g.1 1 0), .ref (g.1 2 0), .int (gS st 2), .int (gS st 3), .int (gS st 1), .int (gS st 0), .int 3]))) (g.1 0 0) = some (.inr (10, [.ref (g.1 1 0), .ref (g.1 2 0), .int (gS st 2), .int (gS st 3), .int (gS st 1), .int (gS st 0), .int 3])) := mu_s
          refine lv_if_eq (tgt := 131) hx hb dX7_fill_126 (by decide) (fun h9 => absurd h9 (by decide)) (fun _ => ?_)
          refine lv_iconst (v := 0) hx hb dX7_fill_129 (by decide) ?_
          refine W.widen (k := 0) (n := 0) (Nat.le_of_ble_eq_true rfl) (Nat.le_of_ble_eq_true rfl) ?_
          exact W.iret (v := 0) hx hb hr (fun t99 ht99 hW99 => ⟨⟨0, (mu (mu (mu Mw (g.1 0 0) (.inr (10, [.ref (g.1 1 0), .ref (g.1 2 0), .int (gS st 2), .int (gS st 3), .int (gS st 1), .int (gS st 0), .int 0]))) (g.1 0 0) (.inr (10, [.ref (g.1 1 0), .ref (g.1 2 0), .int (gS st 2), .int (gS st 3), .int (gS st 1), .int (gS st 0), .int 0]))) (g.1 0 0) (.inr (10, [.ref (g.1 1 0), .ref (g.1 2 0), .int (gS st 2), .int (gS st 3), .int (gS st 1), .int (gS st 0), .int 3]))), rfl, RP.no (k := 3) (by unfold m_fill; first | (rw [chk_p hi9, chk_p (show eith p1 109 115 from Or.inl c3), chk_p hq_r4, fill_n hV hi9.2 (Or.inl c8)]; done) | (rw [chk_p hi9, chk_p (show eith p1 109 115 from Or.inl c3), chk_p hq_r4, fill_n hV hi9.2 (Or.inl c8)]; rfl)) (by decide) (hR.th 3 h_X (fun x9 e9 hx9 h0 => ((mu_n h0).trans ((mu_n h0).trans ((mu_n h0).trans (rfl)))).trans hx9)) rfl rfl, by rw [ht99]; exact hP, hI⟩, hS.F ht99⟩) hS.2.2 dX7_fill_130
        · skip
          refine lv_aload hx hb dX7_fill_94 (lv_at hl 1 rfl) ?_
          refine m_getN (ci := 8) (v := .int (itS st (ix p0) 5)) (C := RX5) (T := TX5) (N := 17) hx hb hts i_X5 hown hK (hP _ _ h_I) rfl 6 (by decide) (va_Nw.use rfl (hG.2.1.2.1 ("MeniscusModel", 104, "MeniscusModel$Instrument", "isSmashed", "Z", "MeniscusModel") (by decide +kernel))) (fun _ h9 => h9) rfl dX7_fill_96 ?_
          refine lv_if_ne (tgt := 117) hx hb dX7_fill_99 (by decide) (fun c10 => ?_) (fun c10 => ?_)
          · skip
            refine lv_iconst (v := 1) hx hb dX7_fill_117 (by decide) ?_
            refine lv_goto (tgt := 122) hx hb dX7_fill_118 (by decide) ?_
            refine lv_iconst (v := 3) hx hb dX7_fill_122 (by decide) ?_
            refine m_calli (va_runV (As := [.int 1, .int 3]) (rest := []) ⟨hx, hb, hml, hown, hts⟩ (c_X7_isThrown1 l G A (mu (mu Mw (g.1 0 0) (.inr (10, [.ref (g.1 1 0), .ref (g.1 2 0), .int (gS st 2), .int (gS st 3), .int (gS st 1), .int (gS st 0), .int 0]))) (g.1 0 0) (.inr (10, [.ref (g.1 1 0), .ref (g.1 2 0), .int (gS st 2), .int (gS st 3), .int (gS st 1), .int (gS st 0), .int 0])))  3 h_X) (cwV 2 hts gX7_fill_X7_isThrown rfl rfl rfl (by decide +kernel) ⟨Nat.le_of_ble_eq_true rfl, Nat.le_of_ble_eq_true rfl⟩) (mPreV hG hS hP hI hA (hP _ _ h_X) (r := (RX7, TX7, 7)) rfl) rfl rfl hl.1 rfl (lv_room (Nat.le_of_ble_eq_true rfl)) dX7_fill_123 ⟨Nat.le_of_ble_eq_true rfl, Nat.le_of_ble_eq_true rfl⟩) hS (fun r11 Mw1 H locs hp_r11 hP hI hS => ?_)
            obtain ⟨hp_r11, hm9⟩ := hp_r11
            subst Mw1
            subst hp_r11
            have h_TL := mu_k (e := .inr (10, [.ref (g.1 1 0), .ref (g.1 2 0), .int (gS st 2), .int (gS st 3), .int (gS st 1), .int (gS st 0), .int 3])) (kd_ne h_TL h_X rfl) h_TL
            have h_IL := mu_k (e := .inr (10, [.ref (g.1 1 0), .ref (g.1 2 0), .int (gS st 2), .int (gS st 3), .int (gS st 1), .int (gS st 0), .int 3])) (kd_ne h_IL h_X rfl) h_IL
            have h_ID := mu_k (e := .inr (10, [.ref (g.1 1 0), .ref (g.1 2 0), .int (gS st 2), .int (gS st 3), .int (gS st 1), .int (gS st 0), .int 3])) (kd_ne h_ID h_X rfl) h_ID
            have h_I := mu_k (e := .inr (10, [.ref (g.1 1 0), .ref (g.1 2 0), .int (gS st 2), .int (gS st 3), .int (gS st 1), .int (gS st 0), .int 3])) (kd_ne h_I h_X rfl) h_I
            have h_T := mu_k (e := .inr (10, [.ref (g.1 1 0), .ref (g.1 2 0), .int (gS st 2), .int (gS st 3), .int (gS st 1), .int (gS st 0), .int 3])) (kd_ne h_T h_X rfl) h_T
            have h_B := mu_k (e := .inr (10, [.ref (g.1 1 0), .ref (g.1 2 0), .int (gS st 2), .int (gS st 3), .int (gS st 1), .int (gS st 0), .int 3])) (kd_ne h_B h_X rfl) h_B
            have h_X : (mu (mu (mu Mw (g.1 0 0) (.inr (10, [.ref (g.1 1 0), .ref (g.1 2 0), .int (gS st 2), .int (gS st 3), .int (gS st 1), .int (gS st 0), .int 0]))) (g.1 0 0) (.inr (10, [.ref (g.1 1 0), .ref (g.1 2 0), .int (gS st 2), .int (gS st 3), .int (gS st 1), .int (gS st 0), .int 0]))) (g.1 0 0) (.inr (10, [.ref (g.1 1 0), .ref (g.1 2 0), .int (gS st 2), .int (gS st 3), .int (gS st 1), .int (gS st 0), .int 3]))) (g.1 0 0) = some (.inr (10, [.ref (g.1 1 0), .ref (g.1 2 0), .int (gS st 2), .int (gS st 3), .int (gS st 1), .int (gS st 0), .int 3])) := mu_s
            refine lv_if_eq (tgt := 131) hx hb dX7_fill_126 (by decide) (fun h9 => absurd h9 (by decide)) (fun _ => ?_)
            refine lv_iconst (v := 0) hx hb dX7_fill_129 (by decide) ?_
            refine W.widen (k := 0) (n := 0) (Nat.le_of_ble_eq_true rfl) (Nat.le_of_ble_eq_true rfl) ?_
            exact W.iret (v := 0) hx hb hr (fun t99 ht99 hW99 => ⟨⟨0, (mu (mu (mu Mw (g.1 0 0) (.inr (10, [.ref (g.1 1 0), .ref (g.1 2 0), .int (gS st 2), .int (gS st 3), .int (gS st 1), .int (gS st 0), .int 0]))) (g.1 0 0) (.inr (10, [.ref (g.1 1 0), .ref (g.1 2 0), .int (gS st 2), .int (gS st 3), .int (gS st 1), .int (gS st 0), .int 0]))) (g.1 0 0) (.inr (10, [.ref (g.1 1 0), .ref (g.1 2 0), .int (gS st 2), .int (gS st 3), .int (gS st 1), .int (gS st 0), .int 3]))), rfl, RP.no (k := 3) (by unfold m_fill; first | (rw [chk_p hi9, chk_p (show eith p1 109 115 from Or.inl c3), chk_p hq_r4, fill_n hV hi9.2 (Or.inr c10)]; done) | (rw [chk_p hi9, chk_p (show eith p1 109 115 from Or.inl c3), chk_p hq_r4, fill_n hV hi9.2 (Or.inr c10)]; rfl)) (by decide) (hR.th 3 h_X (fun x9 e9 hx9 h0 => ((mu_n h0).trans ((mu_n h0).trans ((mu_n h0).trans (rfl)))).trans hx9)) rfl rfl, by rw [ht99]; exact hP, hI⟩, hS.F ht99⟩) hS.2.2 dX7_fill_130
          · skip
            refine lv_iload_n hx hb dX7_fill_102 rfl (lv_at hl 4 rfl) ?_
            refine lv_bipush (v := (109)) hx hb dX7_fill_103 (by decide) ?_
            refine lv_icmp_ne (tgt := 121) hx hb dX7_fill_105 (by decide) (fun c12 => ?_) (fun c12 => ?_)
            · skip
              have ha9 : p1 = 109 → amt st (ix p0) p2 ≤ gS st 2 := fun q9 => absurd q9 c12
              refine lv_iconst (v := 0) hx hb dX7_fill_121 (by decide) ?_
              refine lv_iconst (v := 3) hx hb dX7_fill_122 (by decide) ?_
              refine m_calli (va_runV (As := [.int 0, .int 3]) (rest := []) ⟨hx, hb, hml, hown, hts⟩ (c_X7_isThrown0 l G A (mu (mu Mw (g.1 0 0) (.inr (10, [.ref (g.1 1 0), .ref (g.1 2 0), .int (gS st 2), .int (gS st 3), .int (gS st 1), .int (gS st 0), .int 0]))) (g.1 0 0) (.inr (10, [.ref (g.1 1 0), .ref (g.1 2 0), .int (gS st 2), .int (gS st 3), .int (gS st 1), .int (gS st 0), .int 0])))  3 h_X) (cwV 2 hts gX7_fill_X7_isThrown rfl rfl rfl (by decide +kernel) ⟨Nat.le_of_ble_eq_true rfl, Nat.le_of_ble_eq_true rfl⟩) (mPreV hG hS hP hI hA (hP _ _ h_X) (r := (RX7, TX7, 7)) rfl) rfl rfl hl.1 rfl (lv_room (Nat.le_of_ble_eq_true rfl)) dX7_fill_123 ⟨Nat.le_of_ble_eq_true rfl, Nat.le_of_ble_eq_true rfl⟩) hS (fun r13 Mw1 H locs hp_r13 hP hI hS => ?_)
              obtain ⟨hp_r13, hm9⟩ := hp_r13
              subst Mw1
              subst hp_r13
              have h_TL := mu_k (e := .inr (10, [.ref (g.1 1 0), .ref (g.1 2 0), .int (gS st 2), .int (gS st 3), .int (gS st 1), .int (gS st 0), .int 0])) (kd_ne h_TL h_X rfl) h_TL
              have h_IL := mu_k (e := .inr (10, [.ref (g.1 1 0), .ref (g.1 2 0), .int (gS st 2), .int (gS st 3), .int (gS st 1), .int (gS st 0), .int 0])) (kd_ne h_IL h_X rfl) h_IL
              have h_ID := mu_k (e := .inr (10, [.ref (g.1 1 0), .ref (g.1 2 0), .int (gS st 2), .int (gS st 3), .int (gS st 1), .int (gS st 0), .int 0])) (kd_ne h_ID h_X rfl) h_ID
              have h_I := mu_k (e := .inr (10, [.ref (g.1 1 0), .ref (g.1 2 0), .int (gS st 2), .int (gS st 3), .int (gS st 1), .int (gS st 0), .int 0])) (kd_ne h_I h_X rfl) h_I
              have h_T := mu_k (e := .inr (10, [.ref (g.1 1 0), .ref (g.1 2 0), .int (gS st 2), .int (gS st 3), .int (gS st 1), .int (gS st 0), .int 0])) (kd_ne h_T h_X rfl) h_T
              have h_B := mu_k (e := .inr (10, [.ref (g.1 1 0), .ref (g.1 2 0), .int (gS st 2), .int (gS st 3), .int (gS st 1), .int (gS st 0), .int 0])) (kd_ne h_B h_X rfl) h_B
              have h_X : (mu (mu (mu Mw (g.1 0 0) (.inr (10, [.ref (g.1 1 0), .ref (g.1 2 0), .int (gS st 2), .int (gS st 3), .int (gS st 1), .int (gS st 0), .int 0]))) (g.1 0 0) (.inr (10, [.ref (g.1 1 0), .ref (g.1 2 0), .int (gS st 2), .int (gS st 3), .int (gS st 1), .int (gS st 0), .int 0]))) (g.1 0 0) (.inr (10, [.ref (g.1 1 0), .ref (g.1 2 0), .int (gS st 2), .int (gS st 3), .int (gS st 1), .int (gS st 0), .int 0]))) (g.1 0 0) = some (.inr (10, [.ref (g.1 1 0), .ref (g.1 2 0), .int (gS st 2), .int (gS st 3), .int (gS st 1), .int (gS st 0), .int 0])) := mu_s
              refine lv_if_eq (tgt := 131) hx hb dX7_fill_126 (by decide) (fun _ => ?_) (fun h9 => absurd h9 (by decide))
              refine lv_aload_n hx hb dX7_fill_131 rfl (lv_at hl 2 rfl) ?_
              refine lv_dup hx hb dX7_fill_132 rfl ?_
              refine m_get (ci := 10) (v := .int (gS st 2)) (C := RX7) (T := TX7) (N := 7) hx hb hts i_X7 hown hK (hP _ _ h_X) rfl 2 (by decide) (hts (.fieldLink RX7 84 "MeniscusModel" "stock" "I") (by decide +kernel)) (fun _ h9 => h9) rfl dX7_fill_133 ?_
              refine lv_iload_n hx hb dX7_fill_136 rfl (lv_at hl 4 rfl) ?_
              refine lv_bipush (v := (109)) hx hb dX7_fill_137 (by decide) ?_
              refine lv_icmp_ne (tgt := 147) hx hb dX7_fill_139 (by decide) (fun c14 => ?_) (fun c14 => ?_)
              · skip
                refine lv_iconst (v := 0) hx hb dX7_fill_147 (by decide) ?_
                refine lv_isub hx hb dX7_fill_148 ?_
                refine m_put (ci := 10) (v := .int ((gS st 2) - 0)) (ty := .int) (C := RX7) (T := TX7) (N := 7) hx hb hts i_X7 tyX7 tyX7_ok nmX7 hown hK hP hI hS h_X rfl 2 (by decide) (hts (.fieldLink RX7 84 "MeniscusModel" "stock" "I") (by decide +kernel)) (fun _ h9 => h9) rfl (by decide +kernel) rfl rfl (Nat.le_of_ble_eq_true rfl) dX7_fill_149 (fun H locs hP hI hS => ?_)
                have hP : mP G.1 (mu (mu (mu (mu Mw (g.1 0 0) (.inr (10, [.ref (g.1 1 0), .ref (g.1 2 0), .int (gS st 2), .int (gS st 3), .int (gS st 1), .int (gS st 0), .int 0]))) (g.1 0 0) (.inr (10, [.ref (g.1 1 0), .ref (g.1 2 0), .int (gS st 2), .int (gS st 3), .int (gS st 1), .int (gS st 0), .int 0]))) (g.1 0 0) (.inr (10, [.ref (g.1 1 0), .ref (g.1 2 0), .int (gS st 2), .int (gS st 3), .int (gS st 1), .int (gS st 0), .int 0]))) (g.1 0 0) (.inr (10, [.ref (g.1 1 0), .ref (g.1 2 0), .int ((gS st 2) - 0), .int (gS st 3), .int (gS st 1), .int (gS st 0), .int 0]))) H := hP
                have hI : mI A (mu (mu (mu (mu Mw (g.1 0 0) (.inr (10, [.ref (g.1 1 0), .ref (g.1 2 0), .int (gS st 2), .int (gS st 3), .int (gS st 1), .int (gS st 0), .int 0]))) (g.1 0 0) (.inr (10, [.ref (g.1 1 0), .ref (g.1 2 0), .int (gS st 2), .int (gS st 3), .int (gS st 1), .int (gS st 0), .int 0]))) (g.1 0 0) (.inr (10, [.ref (g.1 1 0), .ref (g.1 2 0), .int (gS st 2), .int (gS st 3), .int (gS st 1), .int (gS st 0), .int 0]))) (g.1 0 0) (.inr (10, [.ref (g.1 1 0), .ref (g.1 2 0), .int ((gS st 2) - 0), .int (gS st 3), .int (gS st 1), .int (gS st 0), .int 0]))) := hI
                have h_TL := mu_k (e := .inr (10, [.ref (g.1 1 0), .ref (g.1 2 0), .int ((gS st 2) - 0), .int (gS st 3), .int (gS st 1), .int (gS st 0), .int 0])) (kd_ne h_TL h_X rfl) h_TL
                have h_IL := mu_k (e := .inr (10, [.ref (g.1 1 0), .ref (g.1 2 0), .int ((gS st 2) - 0), .int (gS st 3), .int (gS st 1), .int (gS st 0), .int 0])) (kd_ne h_IL h_X rfl) h_IL
                have h_ID := mu_k (e := .inr (10, [.ref (g.1 1 0), .ref (g.1 2 0), .int ((gS st 2) - 0), .int (gS st 3), .int (gS st 1), .int (gS st 0), .int 0])) (kd_ne h_ID h_X rfl) h_ID
                have h_I := mu_k (e := .inr (10, [.ref (g.1 1 0), .ref (g.1 2 0), .int ((gS st 2) - 0), .int (gS st 3), .int (gS st 1), .int (gS st 0), .int 0])) (kd_ne h_I h_X rfl) h_I
                have h_T := mu_k (e := .inr (10, [.ref (g.1 1 0), .ref (g.1 2 0), .int ((gS st 2) - 0), .int (gS st 3), .int (gS st 1), .int (gS st 0), .int 0])) (kd_ne h_T h_X rfl) h_T
                have h_B := mu_k (e := .inr (10, [.ref (g.1 1 0), .ref (g.1 2 0), .int ((gS st 2) - 0), .int (gS st 3), .int (gS st 1), .int (gS st 0), .int 0])) (kd_ne h_B h_X rfl) h_B
                rw [mu_uu] at hP hI h_TL h_IL h_ID h_I h_T h_B
                have h_X : (mu (mu (mu Mw (g.1 0 0) (.inr (10, [.ref (g.1 1 0), .ref (g.1 2 0), .int (gS st 2), .int (gS st 3), .int (gS st 1), .int (gS st 0), .int 0]))) (g.1 0 0) (.inr (10, [.ref (g.1 1 0), .ref (g.1 2 0), .int (gS st 2), .int (gS st 3), .int (gS st 1), .int (gS st 0), .int 0]))) (g.1 0 0) (.inr (10, [.ref (g.1 1 0), .ref (g.1 2 0), .int ((gS st 2) - 0), .int (gS st 3), .int (gS st 1), .int (gS st 0), .int 0]))) (g.1 0 0) = some (.inr (10, [.ref (g.1 1 0), .ref (g.1 2 0), .int ((gS st 2) - 0), .int (gS st 3), .int (gS st 1), .int (gS st 0), .int 0])) := mu_s
                refine lv_aload hx hb dX7_fill_152 (lv_at hl 1 rfl) ?_
                refine lv_iload_n hx hb dX7_fill_154 rfl (lv_at hl 4 rfl) ?_
                refine m_putN (ci := 8) (v := .int p1) (ty := .char) (C := RX5) (T := TX5) (N := 17) hx hb hts i_X5 tyX5 tyX5_ok nmX5 hown hK hP hI hS h_I rfl 5 (by decide) (va_Nw.use rfl (hG.2.1.2.1 ("MeniscusModel", 100, "MeniscusModel$Instrument", "liquid", "C", "MeniscusModel") (by decide +kernel))) (fun _ h9 => h9) rfl (by decide +kernel) (nch (show eith p1 109 115 from Or.inl c3) ⟨rfl, rfl⟩ ⟨rfl, rfl⟩).1 (nch (show eith p1 109 115 from Or.inl c3) ⟨rfl, rfl⟩ ⟨rfl, rfl⟩).2 (Nat.le_of_ble_eq_true rfl) dX7_fill_155 (fun H locs hP hI hS => ?_)
                have hP : mP G.1 (mu (mu (mu (mu Mw (g.1 0 0) (.inr (10, [.ref (g.1 1 0), .ref (g.1 2 0), .int (gS st 2), .int (gS st 3), .int (gS st 1), .int (gS st 0), .int 0]))) (g.1 0 0) (.inr (10, [.ref (g.1 1 0), .ref (g.1 2 0), .int (gS st 2), .int (gS st 3), .int (gS st 1), .int (gS st 0), .int 0]))) (g.1 0 0) (.inr (10, [.ref (g.1 1 0), .ref (g.1 2 0), .int ((gS st 2) - 0), .int (gS st 3), .int (gS st 1), .int (gS st 0), .int 0]))) (g.1 7 (ix p0)) (.inr (8, [.ref (g.1 5 (tbN st (ix p0))), .int (itS st (ix p0) 1), .int (sof (itS st (ix p0) 2)), .int (itS st (ix p0) 3), .int (itS st (ix p0) 7), .int p1, .int (itS st (ix p0) 5), .int (itS st (ix p0) 12), .int (itS st (ix p0) 13), .int (itS st (ix p0) 14), .int (itS st (ix p0) 15), .int (itS st (ix p0) 8), .int (itS st (ix p0) 9), .int (itS st (ix p0) 10), .int (ceR g (ix p0)), .ref (g.1 8 (ix p0)), .ref (g.1 9 (ix p0))]))) H := hP
                have hI : mI A (mu (mu (mu (mu Mw (g.1 0 0) (.inr (10, [.ref (g.1 1 0), .ref (g.1 2 0), .int (gS st 2), .int (gS st 3), .int (gS st 1), .int (gS st 0), .int 0]))) (g.1 0 0) (.inr (10, [.ref (g.1 1 0), .ref (g.1 2 0), .int (gS st 2), .int (gS st 3), .int (gS st 1), .int (gS st 0), .int 0]))) (g.1 0 0) (.inr (10, [.ref (g.1 1 0), .ref (g.1 2 0), .int ((gS st 2) - 0), .int (gS st 3), .int (gS st 1), .int (gS st 0), .int 0]))) (g.1 7 (ix p0)) (.inr (8, [.ref (g.1 5 (tbN st (ix p0))), .int (itS st (ix p0) 1), .int (sof (itS st (ix p0) 2)), .int (itS st (ix p0) 3), .int (itS st (ix p0) 7), .int p1, .int (itS st (ix p0) 5), .int (itS st (ix p0) 12), .int (itS st (ix p0) 13), .int (itS st (ix p0) 14), .int (itS st (ix p0) 15), .int (itS st (ix p0) 8), .int (itS st (ix p0) 9), .int (itS st (ix p0) 10), .int (ceR g (ix p0)), .ref (g.1 8 (ix p0)), .ref (g.1 9 (ix p0))]))) := hI
                have h_X := mu_k (e := .inr (8, [.ref (g.1 5 (tbN st (ix p0))), .int (itS st (ix p0) 1), .int (sof (itS st (ix p0) 2)), .int (itS st (ix p0) 3), .int (itS st (ix p0) 7), .int p1, .int (itS st (ix p0) 5), .int (itS st (ix p0) 12), .int (itS st (ix p0) 13), .int (itS st (ix p0) 14), .int (itS st (ix p0) 15), .int (itS st (ix p0) 8), .int (itS st (ix p0) 9), .int (itS st (ix p0) 10), .int (ceR g (ix p0)), .ref (g.1 8 (ix p0)), .ref (g.1 9 (ix p0))])) (kd_ne h_X h_I rfl) h_X
                have h_TL := mu_k (e := .inr (8, [.ref (g.1 5 (tbN st (ix p0))), .int (itS st (ix p0) 1), .int (sof (itS st (ix p0) 2)), .int (itS st (ix p0) 3), .int (itS st (ix p0) 7), .int p1, .int (itS st (ix p0) 5), .int (itS st (ix p0) 12), .int (itS st (ix p0) 13), .int (itS st (ix p0) 14), .int (itS st (ix p0) 15), .int (itS st (ix p0) 8), .int (itS st (ix p0) 9), .int (itS st (ix p0) 10), .int (ceR g (ix p0)), .ref (g.1 8 (ix p0)), .ref (g.1 9 (ix p0))])) (kd_ne h_TL h_I rfl) h_TL
                have h_IL := mu_k (e := .inr (8, [.ref (g.1 5 (tbN st (ix p0))), .int (itS st (ix p0) 1), .int (sof (itS st (ix p0) 2)), .int (itS st (ix p0) 3), .int (itS st (ix p0) 7), .int p1, .int (itS st (ix p0) 5), .int (itS st (ix p0) 12), .int (itS st (ix p0) 13), .int (itS st (ix p0) 14), .int (itS st (ix p0) 15), .int (itS st (ix p0) 8), .int (itS st (ix p0) 9), .int (itS st (ix p0) 10), .int (ceR g (ix p0)), .ref (g.1 8 (ix p0)), .ref (g.1 9 (ix p0))])) (kd_ne h_IL h_I rfl) h_IL
                have h_ID := mu_k (e := .inr (8, [.ref (g.1 5 (tbN st (ix p0))), .int (itS st (ix p0) 1), .int (sof (itS st (ix p0) 2)), .int (itS st (ix p0) 3), .int (itS st (ix p0) 7), .int p1, .int (itS st (ix p0) 5), .int (itS st (ix p0) 12), .int (itS st (ix p0) 13), .int (itS st (ix p0) 14), .int (itS st (ix p0) 15), .int (itS st (ix p0) 8), .int (itS st (ix p0) 9), .int (itS st (ix p0) 10), .int (ceR g (ix p0)), .ref (g.1 8 (ix p0)), .ref (g.1 9 (ix p0))])) (kd_ne h_ID h_I rfl) h_ID
                have h_T := mu_k (e := .inr (8, [.ref (g.1 5 (tbN st (ix p0))), .int (itS st (ix p0) 1), .int (sof (itS st (ix p0) 2)), .int (itS st (ix p0) 3), .int (itS st (ix p0) 7), .int p1, .int (itS st (ix p0) 5), .int (itS st (ix p0) 12), .int (itS st (ix p0) 13), .int (itS st (ix p0) 14), .int (itS st (ix p0) 15), .int (itS st (ix p0) 8), .int (itS st (ix p0) 9), .int (itS st (ix p0) 10), .int (ceR g (ix p0)), .ref (g.1 8 (ix p0)), .ref (g.1 9 (ix p0))])) (kd_ne h_T h_I rfl) h_T
                have h_B := mu_k (e := .inr (8, [.ref (g.1 5 (tbN st (ix p0))), .int (itS st (ix p0) 1), .int (sof (itS st (ix p0) 2)), .int (itS st (ix p0) 3), .int (itS st (ix p0) 7), .int p1, .int (itS st (ix p0) 5), .int (itS st (ix p0) 12), .int (itS st (ix p0) 13), .int (itS st (ix p0) 14), .int (itS st (ix p0) 15), .int (itS st (ix p0) 8), .int (itS st (ix p0) 9), .int (itS st (ix p0) 10), .int (ceR g (ix p0)), .ref (g.1 8 (ix p0)), .ref (g.1 9 (ix p0))])) (kd_ne h_B h_I rfl) h_B
                have h_I : (mu (mu (mu (mu Mw (g.1 0 0) (.inr (10, [.ref (g.1 1 0), .ref (g.1 2 0), .int (gS st 2), .int (gS st 3), .int (gS st 1), .int (gS st 0), .int 0]))) (g.1 0 0) (.inr (10, [.ref (g.1 1 0), .ref (g.1 2 0), .int (gS st 2), .int (gS st 3), .int (gS st 1), .int (gS st 0), .int 0]))) (g.1 0 0) (.inr (10, [.ref (g.1 1 0), .ref (g.1 2 0), .int ((gS st 2) - 0), .int (gS st 3), .int (gS st 1), .int (gS st 0), .int 0]))) (g.1 7 (ix p0)) (.inr (8, [.ref (g.1 5 (tbN st (ix p0))), .int (itS st (ix p0) 1), .int (sof (itS st (ix p0) 2)), .int (itS st (ix p0) 3), .int (itS st (ix p0) 7), .int p1, .int (itS st (ix p0) 5), .int (itS st (ix p0) 12), .int (itS st (ix p0) 13), .int (itS st (ix p0) 14), .int (itS st (ix p0) 15), .int (itS st (ix p0) 8), .int (itS st (ix p0) 9), .int (itS st (ix p0) 10), .int (ceR g (ix p0)), .ref (g.1 8 (ix p0)), .ref (g.1 9 (ix p0))]))) (g.1 7 (ix p0)) = some (.inr (8, [.ref (g.1 5 (tbN st (ix p0))), .int (itS st (ix p0) 1), .int (sof (itS st (ix p0) 2)), .int (itS st (ix p0) 3), .int (itS st (ix p0) 7), .int p1, .int (itS st (ix p0) 5), .int (itS st (ix p0) 12), .int (itS st (ix p0) 13), .int (itS st (ix p0) 14), .int (itS st (ix p0) 15), .int (itS st (ix p0) 8), .int (itS st (ix p0) 9), .int (itS st (ix p0) 10), .int (ceR g (ix p0)), .ref (g.1 8 (ix p0)), .ref (g.1 9 (ix p0))])) := mu_s
                refine lv_aload hx hb dX7_fill_158 (lv_at hl 1 rfl) ?_
                refine lv_iload hx hb dX7_fill_160 (lv_at hl 0 rfl) ?_
                refine m_putN (ci := 8) (v := .int (((itS st (ix p0) 1) - (itS st (ix p0) 3)) + (vsum (boS st (tbN st (ix p0))) p2 20))) (ty := .int) (C := RX5) (T := TX5) (N := 17) hx hb hts i_X5 tyX5 tyX5_ok nmX5 hown hK hP hI hS h_I rfl 4 (by decide) (va_Nw.use rfl (hG.2.1.2.1 ("MeniscusModel", 107, "MeniscusModel$Instrument", "inside", "I", "MeniscusModel") (by decide +kernel))) (fun _ h9 => h9) rfl (by decide +kernel) rfl rfl (Nat.le_of_ble_eq_true rfl) dX7_fill_162 (fun H locs hP hI hS => ?_)
                have hP : mP G.1 (mu (mu (mu (mu (mu Mw (g.1 0 0) (.inr (10, [.ref (g.1 1 0), .ref (g.1 2 0), .int (gS st 2), .int (gS st 3), .int (gS st 1), .int (gS st 0), .int 0]))) (g.1 0 0) (.inr (10, [.ref (g.1 1 0), .ref (g.1 2 0), .int (gS st 2), .int (gS st 3), .int (gS st 1), .int (gS st 0), .int 0]))) (g.1 0 0) (.inr (10, [.ref (g.1 1 0), .ref (g.1 2 0), .int ((gS st 2) - 0), .int (gS st 3), .int (gS st 1), .int (gS st 0), .int 0]))) (g.1 7 (ix p0)) (.inr (8, [.ref (g.1 5 (tbN st (ix p0))), .int (itS st (ix p0) 1), .int (sof (itS st (ix p0) 2)), .int (itS st (ix p0) 3), .int (itS st (ix p0) 7), .int p1, .int (itS st (ix p0) 5), .int (itS st (ix p0) 12), .int (itS st (ix p0) 13), .int (itS st (ix p0) 14), .int (itS st (ix p0) 15), .int (itS st (ix p0) 8), .int (itS st (ix p0) 9), .int (itS st (ix p0) 10), .int (ceR g (ix p0)), .ref (g.1 8 (ix p0)), .ref (g.1 9 (ix p0))]))) (g.1 7 (ix p0)) (.inr (8, [.ref (g.1 5 (tbN st (ix p0))), .int (itS st (ix p0) 1), .int (sof (itS st (ix p0) 2)), .int (itS st (ix p0) 3), .int (((itS st (ix p0) 1) - (itS st (ix p0) 3)) + (vsum (boS st (tbN st (ix p0))) p2 20)), .int p1, .int (itS st (ix p0) 5), .int (itS st (ix p0) 12), .int (itS st (ix p0) 13), .int (itS st (ix p0) 14), .int (itS st (ix p0) 15), .int (itS st (ix p0) 8), .int (itS st (ix p0) 9), .int (itS st (ix p0) 10), .int (ceR g (ix p0)), .ref (g.1 8 (ix p0)), .ref (g.1 9 (ix p0))]))) H := hP
                have hI : mI A (mu (mu (mu (mu (mu Mw (g.1 0 0) (.inr (10, [.ref (g.1 1 0), .ref (g.1 2 0), .int (gS st 2), .int (gS st 3), .int (gS st 1), .int (gS st 0), .int 0]))) (g.1 0 0) (.inr (10, [.ref (g.1 1 0), .ref (g.1 2 0), .int (gS st 2), .int (gS st 3), .int (gS st 1), .int (gS st 0), .int 0]))) (g.1 0 0) (.inr (10, [.ref (g.1 1 0), .ref (g.1 2 0), .int ((gS st 2) - 0), .int (gS st 3), .int (gS st 1), .int (gS st 0), .int 0]))) (g.1 7 (ix p0)) (.inr (8, [.ref (g.1 5 (tbN st (ix p0))), .int (itS st (ix p0) 1), .int (sof (itS st (ix p0) 2)), .int (itS st (ix p0) 3), .int (itS st (ix p0) 7), .int p1, .int (itS st (ix p0) 5), .int (itS st (ix p0) 12), .int (itS st (ix p0) 13), .int (itS st (ix p0) 14), .int (itS st (ix p0) 15), .int (itS st (ix p0) 8), .int (itS st (ix p0) 9), .int (itS st (ix p0) 10), .int (ceR g (ix p0)), .ref (g.1 8 (ix p0)), .ref (g.1 9 (ix p0))]))) (g.1 7 (ix p0)) (.inr (8, [.ref (g.1 5 (tbN st (ix p0))), .int (itS st (ix p0) 1), .int (sof (itS st (ix p0) 2)), .int (itS st (ix p0) 3), .int (((itS st (ix p0) 1) - (itS st (ix p0) 3)) + (vsum (boS st (tbN st (ix p0))) p2 20)), .int p1, .int (itS st (ix p0) 5), .int (itS st (ix p0) 12), .int (itS st (ix p0) 13), .int (itS st (ix p0) 14), .int (itS st (ix p0) 15), .int (itS st (ix p0) 8), .int (itS st (ix p0) 9), .int (itS st (ix p0) 10), .int (ceR g (ix p0)), .ref (g.1 8 (ix p0)), .ref (g.1 9 (ix p0))]))) := hI
                have h_X := mu_k (e := .inr (8, [.ref (g.1 5 (tbN st (ix p0))), .int (itS st (ix p0) 1), .int (sof (itS st (ix p0) 2)), .int (itS st (ix p0) 3), .int (((itS st (ix p0) 1) - (itS st (ix p0) 3)) + (vsum (boS st (tbN st (ix p0))) p2 20)), .int p1, .int (itS st (ix p0) 5), .int (itS st (ix p0) 12), .int (itS st (ix p0) 13), .int (itS st (ix p0) 14), .int (itS st (ix p0) 15), .int (itS st (ix p0) 8), .int (itS st (ix p0) 9), .int (itS st (ix p0) 10), .int (ceR g (ix p0)), .ref (g.1 8 (ix p0)), .ref (g.1 9 (ix p0))])) (kd_ne h_X h_I rfl) h_X
                have h_TL := mu_k (e := .inr (8, [.ref (g.1 5 (tbN st (ix p0))), .int (itS st (ix p0) 1), .int (sof (itS st (ix p0) 2)), .int (itS st (ix p0) 3), .int (((itS st (ix p0) 1) - (itS st (ix p0) 3)) + (vsum (boS st (tbN st (ix p0))) p2 20)), .int p1, .int (itS st (ix p0) 5), .int (itS st (ix p0) 12), .int (itS st (ix p0) 13), .int (itS st (ix p0) 14), .int (itS st (ix p0) 15), .int (itS st (ix p0) 8), .int (itS st (ix p0) 9), .int (itS st (ix p0) 10), .int (ceR g (ix p0)), .ref (g.1 8 (ix p0)), .ref (g.1 9 (ix p0))])) (kd_ne h_TL h_I rfl) h_TL
                have h_IL := mu_k (e := .inr (8, [.ref (g.1 5 (tbN st (ix p0))), .int (itS st (ix p0) 1), .int (sof (itS st (ix p0) 2)), .int (itS st (ix p0) 3), .int (((itS st (ix p0) 1) - (itS st (ix p0) 3)) + (vsum (boS st (tbN st (ix p0))) p2 20)), .int p1, .int (itS st (ix p0) 5), .int (itS st (ix p0) 12), .int (itS st (ix p0) 13), .int (itS st (ix p0) 14), .int (itS st (ix p0) 15), .int (itS st (ix p0) 8), .int (itS st (ix p0) 9), .int (itS st (ix p0) 10), .int (ceR g (ix p0)), .ref (g.1 8 (ix p0)), .ref (g.1 9 (ix p0))])) (kd_ne h_IL h_I rfl) h_IL
                have h_ID := mu_k (e := .inr (8, [.ref (g.1 5 (tbN st (ix p0))), .int (itS st (ix p0) 1), .int (sof (itS st (ix p0) 2)), .int (itS st (ix p0) 3), .int (((itS st (ix p0) 1) - (itS st (ix p0) 3)) + (vsum (boS st (tbN st (ix p0))) p2 20)), .int p1, .int (itS st (ix p0) 5), .int (itS st (ix p0) 12), .int (itS st (ix p0) 13), .int (itS st (ix p0) 14), .int (itS st (ix p0) 15), .int (itS st (ix p0) 8), .int (itS st (ix p0) 9), .int (itS st (ix p0) 10), .int (ceR g (ix p0)), .ref (g.1 8 (ix p0)), .ref (g.1 9 (ix p0))])) (kd_ne h_ID h_I rfl) h_ID
                have h_T := mu_k (e := .inr (8, [.ref (g.1 5 (tbN st (ix p0))), .int (itS st (ix p0) 1), .int (sof (itS st (ix p0) 2)), .int (itS st (ix p0) 3), .int (((itS st (ix p0) 1) - (itS st (ix p0) 3)) + (vsum (boS st (tbN st (ix p0))) p2 20)), .int p1, .int (itS st (ix p0) 5), .int (itS st (ix p0) 12), .int (itS st (ix p0) 13), .int (itS st (ix p0) 14), .int (itS st (ix p0) 15), .int (itS st (ix p0) 8), .int (itS st (ix p0) 9), .int (itS st (ix p0) 10), .int (ceR g (ix p0)), .ref (g.1 8 (ix p0)), .ref (g.1 9 (ix p0))])) (kd_ne h_T h_I rfl) h_T
                have h_B := mu_k (e := .inr (8, [.ref (g.1 5 (tbN st (ix p0))), .int (itS st (ix p0) 1), .int (sof (itS st (ix p0) 2)), .int (itS st (ix p0) 3), .int (((itS st (ix p0) 1) - (itS st (ix p0) 3)) + (vsum (boS st (tbN st (ix p0))) p2 20)), .int p1, .int (itS st (ix p0) 5), .int (itS st (ix p0) 12), .int (itS st (ix p0) 13), .int (itS st (ix p0) 14), .int (itS st (ix p0) 15), .int (itS st (ix p0) 8), .int (itS st (ix p0) 9), .int (itS st (ix p0) 10), .int (ceR g (ix p0)), .ref (g.1 8 (ix p0)), .ref (g.1 9 (ix p0))])) (kd_ne h_B h_I rfl) h_B
                rw [mu_uu] at hP hI h_X h_TL h_IL h_ID h_T h_B
                have h_I : (mu (mu (mu (mu Mw (g.1 0 0) (.inr (10, [.ref (g.1 1 0), .ref (g.1 2 0), .int (gS st 2), .int (gS st 3), .int (gS st 1), .int (gS st 0), .int 0]))) (g.1 0 0) (.inr (10, [.ref (g.1 1 0), .ref (g.1 2 0), .int (gS st 2), .int (gS st 3), .int (gS st 1), .int (gS st 0), .int 0]))) (g.1 0 0) (.inr (10, [.ref (g.1 1 0), .ref (g.1 2 0), .int ((gS st 2) - 0), .int (gS st 3), .int (gS st 1), .int (gS st 0), .int 0]))) (g.1 7 (ix p0)) (.inr (8, [.ref (g.1 5 (tbN st (ix p0))), .int (itS st (ix p0) 1), .int (sof (itS st (ix p0) 2)), .int (itS st (ix p0) 3), .int (((itS st (ix p0) 1) - (itS st (ix p0) 3)) + (vsum (boS st (tbN st (ix p0))) p2 20)), .int p1, .int (itS st (ix p0) 5), .int (itS st (ix p0) 12), .int (itS st (ix p0) 13), .int (itS st (ix p0) 14), .int (itS st (ix p0) 15), .int (itS st (ix p0) 8), .int (itS st (ix p0) 9), .int (itS st (ix p0) 10), .int (ceR g (ix p0)), .ref (g.1 8 (ix p0)), .ref (g.1 9 (ix p0))]))) (g.1 7 (ix p0)) = some (.inr (8, [.ref (g.1 5 (tbN st (ix p0))), .int (itS st (ix p0) 1), .int (sof (itS st (ix p0) 2)), .int (itS st (ix p0) 3), .int (((itS st (ix p0) 1) - (itS st (ix p0) 3)) + (vsum (boS st (tbN st (ix p0))) p2 20)), .int p1, .int (itS st (ix p0) 5), .int (itS st (ix p0) 12), .int (itS st (ix p0) 13), .int (itS st (ix p0) 14), .int (itS st (ix p0) 15), .int (itS st (ix p0) 8), .int (itS st (ix p0) 9), .int (itS st (ix p0) 10), .int (ceR g (ix p0)), .ref (g.1 8 (ix p0)), .ref (g.1 9 (ix p0))])) := mu_s
                refine lv_iload hx hb dX7_fill_165 (lv_at hl 0 rfl) ?_
                refine W.widen (k := 0) (n := 0) (Nat.le_of_ble_eq_true rfl) (Nat.le_of_ble_eq_true rfl) ?_
                exact W.iret (v := ((itS st (ix p0) 1) - (itS st (ix p0) 3)) + (vsum (boS st (tbN st (ix p0))) p2 20)) hx hb hr (fun t99 ht99 hW99 => ⟨⟨((itS st (ix p0) 1) - (itS st (ix p0) 3)) + (vsum (boS st (tbN st (ix p0))) p2 20), (mu (mu (mu (mu Mw (g.1 0 0) (.inr (10, [.ref (g.1 1 0), .ref (g.1 2 0), .int (gS st 2), .int (gS st 3), .int (gS st 1), .int (gS st 0), .int 0]))) (g.1 0 0) (.inr (10, [.ref (g.1 1 0), .ref (g.1 2 0), .int (gS st 2), .int (gS st 3), .int (gS st 1), .int (gS st 0), .int 0]))) (g.1 0 0) (.inr (10, [.ref (g.1 1 0), .ref (g.1 2 0), .int ((gS st 2) - 0), .int (gS st 3), .int (gS st 1), .int (gS st 0), .int 0]))) (g.1 7 (ix p0)) (.inr (8, [.ref (g.1 5 (tbN st (ix p0))), .int (itS st (ix p0) 1), .int (sof (itS st (ix p0) 2)), .int (itS st (ix p0) 3), .int (((itS st (ix p0) 1) - (itS st (ix p0) 3)) + (vsum (boS st (tbN st (ix p0))) p2 20)), .int p1, .int (itS st (ix p0) 5), .int (itS st (ix p0) 12), .int (itS st (ix p0) 13), .int (itS st (ix p0) 14), .int (itS st (ix p0) 15), .int (itS st (ix p0) 8), .int (itS st (ix p0) 9), .int (itS st (ix p0) 10), .int (ceR g (ix p0)), .ref (g.1 8 (ix p0)), .ref (g.1 9 (ix p0))]))), rfl, RP.ok (by unfold m_fill; first | (rw [chk_p hi9, chk_p (show eith p1 109 115 from Or.inl c3), chk_p hq_r4, chk_p (fill_p hV hi9.2 c8), chk_p c10, chk_p ha9]; done) | (rw [chk_p hi9, chk_p (show eith p1 109 115 from Or.inl c3), chk_p hq_r4, chk_p (fill_p hV hi9.2 c8), chk_p c10, chk_p ha9]; rfl)) (hR.io hi9.2 (fu (gS st) 2 (if p1 = 109 then gS st 2 - amt st (ix p0) p2 else gS st 2)) (filG st (ix p0) p1 (amt st (ix p0) p2)) rfl (ceR g (ix p0)) 0 (h_X.trans (congrArg some (by first | (rw [show (if p1 = 109 then gS st 2 - amt st (ix p0) p2 else gS st 2) = gS st 2 - 0 from (if_neg c14).trans (Int32.sub_zero _).symm]; done) | (rw [show (if p1 = 109 then gS st 2 - amt st (ix p0) p2 else gS st 2) = gS st 2 - 0 from (if_neg c14).trans (Int32.sub_zero _).symm]; rfl)))) h_I (fun x9 e9 hx9 h0 h1 => ((mu_n h1).trans ((mu_n h0).trans ((mu_n h0).trans ((mu_n h0).trans (rfl))))).trans hx9) ((hR.2.2.2.2 _ hi9.2).2.1)) rfl rfl, by rw [ht99]; exact hP, hI⟩, hS.F ht99⟩) hS.2.2 dX7_fill_167
              · skip
                refine lv_iload hx hb dX7_fill_142 (lv_at hl 0 rfl) ?_
                refine lv_goto (tgt := 148) hx hb dX7_fill_144 (by decide) ?_
                refine lv_isub hx hb dX7_fill_148 ?_
                refine m_put (ci := 10) (v := .int ((gS st 2) - (((itS st (ix p0) 1) - (itS st (ix p0) 3)) + (vsum (boS st (tbN st (ix p0))) p2 20)))) (ty := .int) (C := RX7) (T := TX7) (N := 7) hx hb hts i_X7 tyX7 tyX7_ok nmX7 hown hK hP hI hS h_X rfl 2 (by decide) (hts (.fieldLink RX7 84 "MeniscusModel" "stock" "I") (by decide +kernel)) (fun _ h9 => h9) rfl (by decide +kernel) rfl rfl (Nat.le_of_ble_eq_true rfl) dX7_fill_149 (fun H locs hP hI hS => ?_)
                have hP : mP G.1 (mu (mu (mu (mu Mw (g.1 0 0) (.inr (10, [.ref (g.1 1 0), .ref (g.1 2 0), .int (gS st 2), .int (gS st 3), .int (gS st 1), .int (gS st 0), .int 0]))) (g.1 0 0) (.inr (10, [.ref (g.1 1 0), .ref (g.1 2 0), .int (gS st 2), .int (gS st 3), .int (gS st 1), .int (gS st 0), .int 0]))) (g.1 0 0) (.inr (10, [.ref (g.1 1 0), .ref (g.1 2 0), .int (gS st 2), .int (gS st 3), .int (gS st 1), .int (gS st 0), .int 0]))) (g.1 0 0) (.inr (10, [.ref (g.1 1 0), .ref (g.1 2 0), .int ((gS st 2) - (((itS st (ix p0) 1) - (itS st (ix p0) 3)) + (vsum (boS st (tbN st (ix p0))) p2 20))), .int (gS st 3), .int (gS st 1), .int (gS st 0), .int 0]))) H := hP
                have hI : mI A (mu (mu (mu (mu Mw (g.1 0 0) (.inr (10, [.ref (g.1 1 0), .ref (g.1 2 0), .int (gS st 2), .int (gS st 3), .int (gS st 1), .int (gS st 0), .int 0]))) (g.1 0 0) (.inr (10, [.ref (g.1 1 0), .ref (g.1 2 0), .int (gS st 2), .int (gS st 3), .int (gS st 1), .int (gS st 0), .int 0]))) (g.1 0 0) (.inr (10, [.ref (g.1 1 0), .ref (g.1 2 0), .int (gS st 2), .int (gS st 3), .int (gS st 1), .int (gS st 0), .int 0]))) (g.1 0 0) (.inr (10, [.ref (g.1 1 0), .ref (g.1 2 0), .int ((gS st 2) - (((itS st (ix p0) 1) - (itS st (ix p0) 3)) + (vsum (boS st (tbN st (ix p0))) p2 20))), .int (gS st 3), .int (gS st 1), .int (gS st 0), .int 0]))) := hI
                have h_TL := mu_k (e := .inr (10, [.ref (g.1 1 0), .ref (g.1 2 0), .int ((gS st 2) - (((itS st (ix p0) 1) - (itS st (ix p0) 3)) + (vsum (boS st (tbN st (ix p0))) p2 20))), .int (gS st 3), .int (gS st 1), .int (gS st 0), .int 0])) (kd_ne h_TL h_X rfl) h_TL
                have h_IL := mu_k (e := .inr (10, [.ref (g.1 1 0), .ref (g.1 2 0), .int ((gS st 2) - (((itS st (ix p0) 1) - (itS st (ix p0) 3)) + (vsum (boS st (tbN st (ix p0))) p2 20))), .int (gS st 3), .int (gS st 1), .int (gS st 0), .int 0])) (kd_ne h_IL h_X rfl) h_IL
                have h_ID := mu_k (e := .inr (10, [.ref (g.1 1 0), .ref (g.1 2 0), .int ((gS st 2) - (((itS st (ix p0) 1) - (itS st (ix p0) 3)) + (vsum (boS st (tbN st (ix p0))) p2 20))), .int (gS st 3), .int (gS st 1), .int (gS st 0), .int 0])) (kd_ne h_ID h_X rfl) h_ID
                have h_I := mu_k (e := .inr (10, [.ref (g.1 1 0), .ref (g.1 2 0), .int ((gS st 2) - (((itS st (ix p0) 1) - (itS st (ix p0) 3)) + (vsum (boS st (tbN st (ix p0))) p2 20))), .int (gS st 3), .int (gS st 1), .int (gS st 0), .int 0])) (kd_ne h_I h_X rfl) h_I
                have h_T := mu_k (e := .inr (10, [.ref (g.1 1 0), .ref (g.1 2 0), .int ((gS st 2) - (((itS st (ix p0) 1) - (itS st (ix p0) 3)) + (vsum (boS st (tbN st (ix p0))) p2 20))), .int (gS st 3), .int (gS st 1), .int (gS st 0), .int 0])) (kd_ne h_T h_X rfl) h_T
                have h_B := mu_k (e := .inr (10, [.ref (g.1 1 0), .ref (g.1 2 0), .int ((gS st 2) - (((itS st (ix p0) 1) - (itS st (ix p0) 3)) + (vsum (boS st (tbN st (ix p0))) p2 20))), .int (gS st 3), .int (gS st 1), .int (gS st 0), .int 0])) (kd_ne h_B h_X rfl) h_B
                rw [mu_uu] at hP hI h_TL h_IL h_ID h_I h_T h_B
                have h_X : (mu (mu (mu Mw (g.1 0 0) (.inr (10, [.ref (g.1 1 0), .ref (g.1 2 0), .int (gS st 2), .int (gS st 3), .int (gS st 1), .int (gS st 0), .int 0]))) (g.1 0 0) (.inr (10, [.ref (g.1 1 0), .ref (g.1 2 0), .int (gS st 2), .int (gS st 3), .int (gS st 1), .int (gS st 0), .int 0]))) (g.1 0 0) (.inr (10, [.ref (g.1 1 0), .ref (g.1 2 0), .int ((gS st 2) - (((itS st (ix p0) 1) - (itS st (ix p0) 3)) + (vsum (boS st (tbN st (ix p0))) p2 20))), .int (gS st 3), .int (gS st 1), .int (gS st 0), .int 0]))) (g.1 0 0) = some (.inr (10, [.ref (g.1 1 0), .ref (g.1 2 0), .int ((gS st 2) - (((itS st (ix p0) 1) - (itS st (ix p0) 3)) + (vsum (boS st (tbN st (ix p0))) p2 20))), .int (gS st 3), .int (gS st 1), .int (gS st 0), .int 0])) := mu_s
                refine lv_aload hx hb dX7_fill_152 (lv_at hl 1 rfl) ?_
                refine lv_iload_n hx hb dX7_fill_154 rfl (lv_at hl 4 rfl) ?_
                refine m_putN (ci := 8) (v := .int p1) (ty := .char) (C := RX5) (T := TX5) (N := 17) hx hb hts i_X5 tyX5 tyX5_ok nmX5 hown hK hP hI hS h_I rfl 5 (by decide) (va_Nw.use rfl (hG.2.1.2.1 ("MeniscusModel", 100, "MeniscusModel$Instrument", "liquid", "C", "MeniscusModel") (by decide +kernel))) (fun _ h9 => h9) rfl (by decide +kernel) (nch (show eith p1 109 115 from Or.inl c3) ⟨rfl, rfl⟩ ⟨rfl, rfl⟩).1 (nch (show eith p1 109 115 from Or.inl c3) ⟨rfl, rfl⟩ ⟨rfl, rfl⟩).2 (Nat.le_of_ble_eq_true rfl) dX7_fill_155 (fun H locs hP hI hS => ?_)
                have hP : mP G.1 (mu (mu (mu (mu Mw (g.1 0 0) (.inr (10, [.ref (g.1 1 0), .ref (g.1 2 0), .int (gS st 2), .int (gS st 3), .int (gS st 1), .int (gS st 0), .int 0]))) (g.1 0 0) (.inr (10, [.ref (g.1 1 0), .ref (g.1 2 0), .int (gS st 2), .int (gS st 3), .int (gS st 1), .int (gS st 0), .int 0]))) (g.1 0 0) (.inr (10, [.ref (g.1 1 0), .ref (g.1 2 0), .int ((gS st 2) - (((itS st (ix p0) 1) - (itS st (ix p0) 3)) + (vsum (boS st (tbN st (ix p0))) p2 20))), .int (gS st 3), .int (gS st 1), .int (gS st 0), .int 0]))) (g.1 7 (ix p0)) (.inr (8, [.ref (g.1 5 (tbN st (ix p0))), .int (itS st (ix p0) 1), .int (sof (itS st (ix p0) 2)), .int (itS st (ix p0) 3), .int (itS st (ix p0) 7), .int p1, .int (itS st (ix p0) 5), .int (itS st (ix p0) 12), .int (itS st (ix p0) 13), .int (itS st (ix p0) 14), .int (itS st (ix p0) 15), .int (itS st (ix p0) 8), .int (itS st (ix p0) 9), .int (itS st (ix p0) 10), .int (ceR g (ix p0)), .ref (g.1 8 (ix p0)), .ref (g.1 9 (ix p0))]))) H := hP
                have hI : mI A (mu (mu (mu (mu Mw (g.1 0 0) (.inr (10, [.ref (g.1 1 0), .ref (g.1 2 0), .int (gS st 2), .int (gS st 3), .int (gS st 1), .int (gS st 0), .int 0]))) (g.1 0 0) (.inr (10, [.ref (g.1 1 0), .ref (g.1 2 0), .int (gS st 2), .int (gS st 3), .int (gS st 1), .int (gS st 0), .int 0]))) (g.1 0 0) (.inr (10, [.ref (g.1 1 0), .ref (g.1 2 0), .int ((gS st 2) - (((itS st (ix p0) 1) - (itS st (ix p0) 3)) + (vsum (boS st (tbN st (ix p0))) p2 20))), .int (gS st 3), .int (gS st 1), .int (gS st 0), .int 0]))) (g.1 7 (ix p0)) (.inr (8, [.ref (g.1 5 (tbN st (ix p0))), .int (itS st (ix p0) 1), .int (sof (itS st (ix p0) 2)), .int (itS st (ix p0) 3), .int (itS st (ix p0) 7), .int p1, .int (itS st (ix p0) 5), .int (itS st (ix p0) 12), .int (itS st (ix p0) 13), .int (itS st (ix p0) 14), .int (itS st (ix p0) 15), .int (itS st (ix p0) 8), .int (itS st (ix p0) 9), .int (itS st (ix p0) 10), .int (ceR g (ix p0)), .ref (g.1 8 (ix p0)), .ref (g.1 9 (ix p0))]))) := hI
                have h_X := mu_k (e := .inr (8, [.ref (g.1 5 (tbN st (ix p0))), .int (itS st (ix p0) 1), .int (sof (itS st (ix p0) 2)), .int (itS st (ix p0) 3), .int (itS st (ix p0) 7), .int p1, .int (itS st (ix p0) 5), .int (itS st (ix p0) 12), .int (itS st (ix p0) 13), .int (itS st (ix p0) 14), .int (itS st (ix p0) 15), .int (itS st (ix p0) 8), .int (itS st (ix p0) 9), .int (itS st (ix p0) 10), .int (ceR g (ix p0)), .ref (g.1 8 (ix p0)), .ref (g.1 9 (ix p0))])) (kd_ne h_X h_I rfl) h_X
                have h_TL := mu_k (e := .inr (8, [.ref (g.1 5 (tbN st (ix p0))), .int (itS st (ix p0) 1), .int (sof (itS st (ix p0) 2)), .int (itS st (ix p0) 3), .int (itS st (ix p0) 7), .int p1, .int (itS st (ix p0) 5), .int (itS st (ix p0) 12), .int (itS st (ix p0) 13), .int (itS st (ix p0) 14), .int (itS st (ix p0) 15), .int (itS st (ix p0) 8), .int (itS st (ix p0) 9), .int (itS st (ix p0) 10), .int (ceR g (ix p0)), .ref (g.1 8 (ix p0)), .ref (g.1 9 (ix p0))])) (kd_ne h_TL h_I rfl) h_TL
                have h_IL := mu_k (e := .inr (8, [.ref (g.1 5 (tbN st (ix p0))), .int (itS st (ix p0) 1), .int (sof (itS st (ix p0) 2)), .int (itS st (ix p0) 3), .int (itS st (ix p0) 7), .int p1, .int (itS st (ix p0) 5), .int (itS st (ix p0) 12), .int (itS st (ix p0) 13), .int (itS st (ix p0) 14), .int (itS st (ix p0) 15), .int (itS st (ix p0) 8), .int (itS st (ix p0) 9), .int (itS st (ix p0) 10), .int (ceR g (ix p0)), .ref (g.1 8 (ix p0)), .ref (g.1 9 (ix p0))])) (kd_ne h_IL h_I rfl) h_IL
                have h_ID := mu_k (e := .inr (8, [.ref (g.1 5 (tbN st (ix p0))), .int (itS st (ix p0) 1), .int (sof (itS st (ix p0) 2)), .int (itS st (ix p0) 3), .int (itS st (ix p0) 7), .int p1, .int (itS st (ix p0) 5), .int (itS st (ix p0) 12), .int (itS st (ix p0) 13), .int (itS st (ix p0) 14), .int (itS st (ix p0) 15), .int (itS st (ix p0) 8), .int (itS st (ix p0) 9), .int (itS st (ix p0) 10), .int (ceR g (ix p0)), .ref (g.1 8 (ix p0)), .ref (g.1 9 (ix p0))])) (kd_ne h_ID h_I rfl) h_ID
                have h_T := mu_k (e := .inr (8, [.ref (g.1 5 (tbN st (ix p0))), .int (itS st (ix p0) 1), .int (sof (itS st (ix p0) 2)), .int (itS st (ix p0) 3), .int (itS st (ix p0) 7), .int p1, .int (itS st (ix p0) 5), .int (itS st (ix p0) 12), .int (itS st (ix p0) 13), .int (itS st (ix p0) 14), .int (itS st (ix p0) 15), .int (itS st (ix p0) 8), .int (itS st (ix p0) 9), .int (itS st (ix p0) 10), .int (ceR g (ix p0)), .ref (g.1 8 (ix p0)), .ref (g.1 9 (ix p0))])) (kd_ne h_T h_I rfl) h_T
                have h_B := mu_k (e := .inr (8, [.ref (g.1 5 (tbN st (ix p0))), .int (itS st (ix p0) 1), .int (sof (itS st (ix p0) 2)), .int (itS st (ix p0) 3), .int (itS st (ix p0) 7), .int p1, .int (itS st (ix p0) 5), .int (itS st (ix p0) 12), .int (itS st (ix p0) 13), .int (itS st (ix p0) 14), .int (itS st (ix p0) 15), .int (itS st (ix p0) 8), .int (itS st (ix p0) 9), .int (itS st (ix p0) 10), .int (ceR g (ix p0)), .ref (g.1 8 (ix p0)), .ref (g.1 9 (ix p0))])) (kd_ne h_B h_I rfl) h_B
                have h_I : (mu (mu (mu (mu Mw (g.1 0 0) (.inr (10, [.ref (g.1 1 0), .ref (g.1 2 0), .int (gS st 2), .int (gS st 3), .int (gS st 1), .int (gS st 0), .int 0]))) (g.1 0 0) (.inr (10, [.ref (g.1 1 0), .ref (g.1 2 0), .int (gS st 2), .int (gS st 3), .int (gS st 1), .int (gS st 0), .int 0]))) (g.1 0 0) (.inr (10, [.ref (g.1 1 0), .ref (g.1 2 0), .int ((gS st 2) - (((itS st (ix p0) 1) - (itS st (ix p0) 3)) + (vsum (boS st (tbN st (ix p0))) p2 20))), .int (gS st 3), .int (gS st 1), .int (gS st 0), .int 0]))) (g.1 7 (ix p0)) (.inr (8, [.ref (g.1 5 (tbN st (ix p0))), .int (itS st (ix p0) 1), .int (sof (itS st (ix p0) 2)), .int (itS st (ix p0) 3), .int (itS st (ix p0) 7), .int p1, .int (itS st (ix p0) 5), .int (itS st (ix p0) 12), .int (itS st (ix p0) 13), .int (itS st (ix p0) 14), .int (itS st (ix p0) 15), .int (itS st (ix p0) 8), .int (itS st (ix p0) 9), .int (itS st (ix p0) 10), .int (ceR g (ix p0)), .ref (g.1 8 (ix p0)), .ref (g.1 9 (ix p0))]))) (g.1 7 (ix p0)) = some (.inr (8, [.ref (g.1 5 (tbN st (ix p0))), .int (itS st (ix p0) 1), .int (sof (itS st (ix p0) 2)), .int (itS st (ix p0) 3), .int (itS st (ix p0) 7), .int p1, .int (itS st (ix p0) 5), .int (itS st (ix p0) 12), .int (itS st (ix p0) 13), .int (itS st (ix p0) 14), .int (itS st (ix p0) 15), .int (itS st (ix p0) 8), .int (itS st (ix p0) 9), .int (itS st (ix p0) 10), .int (ceR g (ix p0)), .ref (g.1 8 (ix p0)), .ref (g.1 9 (ix p0))])) := mu_s
                refine lv_aload hx hb dX7_fill_158 (lv_at hl 1 rfl) ?_
                refine lv_iload hx hb dX7_fill_160 (lv_at hl 0 rfl) ?_
                refine m_putN (ci := 8) (v := .int (((itS st (ix p0) 1) - (itS st (ix p0) 3)) + (vsum (boS st (tbN st (ix p0))) p2 20))) (ty := .int) (C := RX5) (T := TX5) (N := 17) hx hb hts i_X5 tyX5 tyX5_ok nmX5 hown hK hP hI hS h_I rfl 4 (by decide) (va_Nw.use rfl (hG.2.1.2.1 ("MeniscusModel", 107, "MeniscusModel$Instrument", "inside", "I", "MeniscusModel") (by decide +kernel))) (fun _ h9 => h9) rfl (by decide +kernel) rfl rfl (Nat.le_of_ble_eq_true rfl) dX7_fill_162 (fun H locs hP hI hS => ?_)
                have hP : mP G.1 (mu (mu (mu (mu (mu Mw (g.1 0 0) (.inr (10, [.ref (g.1 1 0), .ref (g.1 2 0), .int (gS st 2), .int (gS st 3), .int (gS st 1), .int (gS st 0), .int 0]))) (g.1 0 0) (.inr (10, [.ref (g.1 1 0), .ref (g.1 2 0), .int (gS st 2), .int (gS st 3), .int (gS st 1), .int (gS st 0), .int 0]))) (g.1 0 0) (.inr (10, [.ref (g.1 1 0), .ref (g.1 2 0), .int ((gS st 2) - (((itS st (ix p0) 1) - (itS st (ix p0) 3)) + (vsum (boS st (tbN st (ix p0))) p2 20))), .int (gS st 3), .int (gS st 1), .int (gS st 0), .int 0]))) (g.1 7 (ix p0)) (.inr (8, [.ref (g.1 5 (tbN st (ix p0))), .int (itS st (ix p0) 1), .int (sof (itS st (ix p0) 2)), .int (itS st (ix p0) 3), .int (itS st (ix p0) 7), .int p1, .int (itS st (ix p0) 5), .int (itS st (ix p0) 12), .int (itS st (ix p0) 13), .int (itS st (ix p0) 14), .int (itS st (ix p0) 15), .int (itS st (ix p0) 8), .int (itS st (ix p0) 9), .int (itS st (ix p0) 10), .int (ceR g (ix p0)), .ref (g.1 8 (ix p0)), .ref (g.1 9 (ix p0))]))) (g.1 7 (ix p0)) (.inr (8, [.ref (g.1 5 (tbN st (ix p0))), .int (itS st (ix p0) 1), .int (sof (itS st (ix p0) 2)), .int (itS st (ix p0) 3), .int (((itS st (ix p0) 1) - (itS st (ix p0) 3)) + (vsum (boS st (tbN st (ix p0))) p2 20)), .int p1, .int (itS st (ix p0) 5), .int (itS st (ix p0) 12), .int (itS st (ix p0) 13), .int (itS st (ix p0) 14), .int (itS st (ix p0) 15), .int (itS st (ix p0) 8), .int (itS st (ix p0) 9), .int (itS st (ix p0) 10), .int (ceR g (ix p0)), .ref (g.1 8 (ix p0)), .ref (g.1 9 (ix p0))]))) H := hP
                have hI : mI A (mu (mu (mu (mu (mu Mw (g.1 0 0) (.inr (10, [.ref (g.1 1 0), .ref (g.1 2 0), .int (gS st 2), .int (gS st 3), .int (gS st 1), .int (gS st 0), .int 0]))) (g.1 0 0) (.inr (10, [.ref (g.1 1 0), .ref (g.1 2 0), .int (gS st 2), .int (gS st 3), .int (gS st 1), .int (gS st 0), .int 0]))) (g.1 0 0) (.inr (10, [.ref (g.1 1 0), .ref (g.1 2 0), .int ((gS st 2) - (((itS st (ix p0) 1) - (itS st (ix p0) 3)) + (vsum (boS st (tbN st (ix p0))) p2 20))), .int (gS st 3), .int (gS st 1), .int (gS st 0), .int 0]))) (g.1 7 (ix p0)) (.inr (8, [.ref (g.1 5 (tbN st (ix p0))), .int (itS st (ix p0) 1), .int (sof (itS st (ix p0) 2)), .int (itS st (ix p0) 3), .int (itS st (ix p0) 7), .int p1, .int (itS st (ix p0) 5), .int (itS st (ix p0) 12), .int (itS st (ix p0) 13), .int (itS st (ix p0) 14), .int (itS st (ix p0) 15), .int (itS st (ix p0) 8), .int (itS st (ix p0) 9), .int (itS st (ix p0) 10), .int (ceR g (ix p0)), .ref (g.1 8 (ix p0)), .ref (g.1 9 (ix p0))]))) (g.1 7 (ix p0)) (.inr (8, [.ref (g.1 5 (tbN st (ix p0))), .int (itS st (ix p0) 1), .int (sof (itS st (ix p0) 2)), .int (itS st (ix p0) 3), .int (((itS st (ix p0) 1) - (itS st (ix p0) 3)) + (vsum (boS st (tbN st (ix p0))) p2 20)), .int p1, .int (itS st (ix p0) 5), .int (itS st (ix p0) 12), .int (itS st (ix p0) 13), .int (itS st (ix p0) 14), .int (itS st (ix p0) 15), .int (itS st (ix p0) 8), .int (itS st (ix p0) 9), .int (itS st (ix p0) 10), .int (ceR g (ix p0)), .ref (g.1 8 (ix p0)), .ref (g.1 9 (ix p0))]))) := hI
                have h_X := mu_k (e := .inr (8, [.ref (g.1 5 (tbN st (ix p0))), .int (itS st (ix p0) 1), .int (sof (itS st (ix p0) 2)), .int (itS st (ix p0) 3), .int (((itS st (ix p0) 1) - (itS st (ix p0) 3)) + (vsum (boS st (tbN st (ix p0))) p2 20)), .int p1, .int (itS st (ix p0) 5), .int (itS st (ix p0) 12), .int (itS st (ix p0) 13), .int (itS st (ix p0) 14), .int (itS st (ix p0) 15), .int (itS st (ix p0) 8), .int (itS st (ix p0) 9), .int (itS st (ix p0) 10), .int (ceR g (ix p0)), .ref (g.1 8 (ix p0)), .ref (g.1 9 (ix p0))])) (kd_ne h_X h_I rfl) h_X
                have h_TL := mu_k (e := .inr (8, [.ref (g.1 5 (tbN st (ix p0))), .int (itS st (ix p0) 1), .int (sof (itS st (ix p0) 2)), .int (itS st (ix p0) 3), .int (((itS st (ix p0) 1) - (itS st (ix p0) 3)) + (vsum (boS st (tbN st (ix p0))) p2 20)), .int p1, .int (itS st (ix p0) 5), .int (itS st (ix p0) 12), .int (itS st (ix p0) 13), .int (itS st (ix p0) 14), .int (itS st (ix p0) 15), .int (itS st (ix p0) 8), .int (itS st (ix p0) 9), .int (itS st (ix p0) 10), .int (ceR g (ix p0)), .ref (g.1 8 (ix p0)), .ref (g.1 9 (ix p0))])) (kd_ne h_TL h_I rfl) h_TL
                have h_IL := mu_k (e := .inr (8, [.ref (g.1 5 (tbN st (ix p0))), .int (itS st (ix p0) 1), .int (sof (itS st (ix p0) 2)), .int (itS st (ix p0) 3), .int (((itS st (ix p0) 1) - (itS st (ix p0) 3)) + (vsum (boS st (tbN st (ix p0))) p2 20)), .int p1, .int (itS st (ix p0) 5), .int (itS st (ix p0) 12), .int (itS st (ix p0) 13), .int (itS st (ix p0) 14), .int (itS st (ix p0) 15), .int (itS st (ix p0) 8), .int (itS st (ix p0) 9), .int (itS st (ix p0) 10), .int (ceR g (ix p0)), .ref (g.1 8 (ix p0)), .ref (g.1 9 (ix p0))])) (kd_ne h_IL h_I rfl) h_IL
                have h_ID := mu_k (e := .inr (8, [.ref (g.1 5 (tbN st (ix p0))), .int (itS st (ix p0) 1), .int (sof (itS st (ix p0) 2)), .int (itS st (ix p0) 3), .int (((itS st (ix p0) 1) - (itS st (ix p0) 3)) + (vsum (boS st (tbN st (ix p0))) p2 20)), .int p1, .int (itS st (ix p0) 5), .int (itS st (ix p0) 12), .int (itS st (ix p0) 13), .int (itS st (ix p0) 14), .int (itS st (ix p0) 15), .int (itS st (ix p0) 8), .int (itS st (ix p0) 9), .int (itS st (ix p0) 10), .int (ceR g (ix p0)), .ref (g.1 8 (ix p0)), .ref (g.1 9 (ix p0))])) (kd_ne h_ID h_I rfl) h_ID
                have h_T := mu_k (e := .inr (8, [.ref (g.1 5 (tbN st (ix p0))), .int (itS st (ix p0) 1), .int (sof (itS st (ix p0) 2)), .int (itS st (ix p0) 3), .int (((itS st (ix p0) 1) - (itS st (ix p0) 3)) + (vsum (boS st (tbN st (ix p0))) p2 20)), .int p1, .int (itS st (ix p0) 5), .int (itS st (ix p0) 12), .int (itS st (ix p0) 13), .int (itS st (ix p0) 14), .int (itS st (ix p0) 15), .int (itS st (ix p0) 8), .int (itS st (ix p0) 9), .int (itS st (ix p0) 10), .int (ceR g (ix p0)), .ref (g.1 8 (ix p0)), .ref (g.1 9 (ix p0))])) (kd_ne h_T h_I rfl) h_T
                have h_B := mu_k (e := .inr (8, [.ref (g.1 5 (tbN st (ix p0))), .int (itS st (ix p0) 1), .int (sof (itS st (ix p0) 2)), .int (itS st (ix p0) 3), .int (((itS st (ix p0) 1) - (itS st (ix p0) 3)) + (vsum (boS st (tbN st (ix p0))) p2 20)), .int p1, .int (itS st (ix p0) 5), .int (itS st (ix p0) 12), .int (itS st (ix p0) 13), .int (itS st (ix p0) 14), .int (itS st (ix p0) 15), .int (itS st (ix p0) 8), .int (itS st (ix p0) 9), .int (itS st (ix p0) 10), .int (ceR g (ix p0)), .ref (g.1 8 (ix p0)), .ref (g.1 9 (ix p0))])) (kd_ne h_B h_I rfl) h_B
                rw [mu_uu] at hP hI h_X h_TL h_IL h_ID h_T h_B
                have h_I : (mu (mu (mu (mu Mw (g.1 0 0) (.inr (10, [.ref (g.1 1 0), .ref (g.1 2 0), .int (gS st 2), .int (gS st 3), .int (gS st 1), .int (gS st 0), .int 0]))) (g.1 0 0) (.inr (10, [.ref (g.1 1 0), .ref (g.1 2 0), .int (gS st 2), .int (gS st 3), .int (gS st 1), .int (gS st 0), .int 0]))) (g.1 0 0) (.inr (10, [.ref (g.1 1 0), .ref (g.1 2 0), .int ((gS st 2) - (((itS st (ix p0) 1) - (itS st (ix p0) 3)) + (vsum (boS st (tbN st (ix p0))) p2 20))), .int (gS st 3), .int (gS st 1), .int (gS st 0), .int 0]))) (g.1 7 (ix p0)) (.inr (8, [.ref (g.1 5 (tbN st (ix p0))), .int (itS st (ix p0) 1), .int (sof (itS st (ix p0) 2)), .int (itS st (ix p0) 3), .int (((itS st (ix p0) 1) - (itS st (ix p0) 3)) + (vsum (boS st (tbN st (ix p0))) p2 20)), .int p1, .int (itS st (ix p0) 5), .int (itS st (ix p0) 12), .int (itS st (ix p0) 13), .int (itS st (ix p0) 14), .int (itS st (ix p0) 15), .int (itS st (ix p0) 8), .int (itS st (ix p0) 9), .int (itS st (ix p0) 10), .int (ceR g (ix p0)), .ref (g.1 8 (ix p0)), .ref (g.1 9 (ix p0))]))) (g.1 7 (ix p0)) = some (.inr (8, [.ref (g.1 5 (tbN st (ix p0))), .int (itS st (ix p0) 1), .int (sof (itS st (ix p0) 2)), .int (itS st (ix p0) 3), .int (((itS st (ix p0) 1) - (itS st (ix p0) 3)) + (vsum (boS st (tbN st (ix p0))) p2 20)), .int p1, .int (itS st (ix p0) 5), .int (itS st (ix p0) 12), .int (itS st (ix p0) 13), .int (itS st (ix p0) 14), .int (itS st (ix p0) 15), .int (itS st (ix p0) 8), .int (itS st (ix p0) 9), .int (itS st (ix p0) 10), .int (ceR g (ix p0)), .ref (g.1 8 (ix p0)), .ref (g.1 9 (ix p0))])) := mu_s
                refine lv_iload hx hb dX7_fill_165 (lv_at hl 0 rfl) ?_
                refine W.widen (k := 0) (n := 0) (Nat.le_of_ble_eq_true rfl) (Nat.le_of_ble_eq_true rfl) ?_
                exact W.iret (v := ((itS st (ix p0) 1) - (itS st (ix p0) 3)) + (vsum (boS st (tbN st (ix p0))) p2 20)) hx hb hr (fun t99 ht99 hW99 => ⟨⟨((itS st (ix p0) 1) - (itS st (ix p0) 3)) + (vsum (boS st (tbN st (ix p0))) p2 20), (mu (mu (mu (mu Mw (g.1 0 0) (.inr (10, [.ref (g.1 1 0), .ref (g.1 2 0), .int (gS st 2), .int (gS st 3), .int (gS st 1), .int (gS st 0), .int 0]))) (g.1 0 0) (.inr (10, [.ref (g.1 1 0), .ref (g.1 2 0), .int (gS st 2), .int (gS st 3), .int (gS st 1), .int (gS st 0), .int 0]))) (g.1 0 0) (.inr (10, [.ref (g.1 1 0), .ref (g.1 2 0), .int ((gS st 2) - (((itS st (ix p0) 1) - (itS st (ix p0) 3)) + (vsum (boS st (tbN st (ix p0))) p2 20))), .int (gS st 3), .int (gS st 1), .int (gS st 0), .int 0]))) (g.1 7 (ix p0)) (.inr (8, [.ref (g.1 5 (tbN st (ix p0))), .int (itS st (ix p0) 1), .int (sof (itS st (ix p0) 2)), .int (itS st (ix p0) 3), .int (((itS st (ix p0) 1) - (itS st (ix p0) 3)) + (vsum (boS st (tbN st (ix p0))) p2 20)), .int p1, .int (itS st (ix p0) 5), .int (itS st (ix p0) 12), .int (itS st (ix p0) 13), .int (itS st (ix p0) 14), .int (itS st (ix p0) 15), .int (itS st (ix p0) 8), .int (itS st (ix p0) 9), .int (itS st (ix p0) 10), .int (ceR g (ix p0)), .ref (g.1 8 (ix p0)), .ref (g.1 9 (ix p0))]))), rfl, RP.ok (by unfold m_fill; first | (rw [chk_p hi9, chk_p (show eith p1 109 115 from Or.inl c3), chk_p hq_r4, chk_p (fill_p hV hi9.2 c8), chk_p c10, chk_p ha9]; done) | (rw [chk_p hi9, chk_p (show eith p1 109 115 from Or.inl c3), chk_p hq_r4, chk_p (fill_p hV hi9.2 c8), chk_p c10, chk_p ha9]; rfl)) (hR.io hi9.2 (fu (gS st) 2 (if p1 = 109 then gS st 2 - amt st (ix p0) p2 else gS st 2)) (filG st (ix p0) p1 (amt st (ix p0) p2)) rfl (ceR g (ix p0)) 0 (h_X.trans (congrArg some (by first | (rw [show (if p1 = 109 then gS st 2 - amt st (ix p0) p2 else gS st 2) = gS st 2 - amt st (ix p0) p2 from if_pos c14]; done) | (rw [show (if p1 = 109 then gS st 2 - amt st (ix p0) p2 else gS st 2) = gS st 2 - amt st (ix p0) p2 from if_pos c14]; rfl)))) h_I (fun x9 e9 hx9 h0 h1 => ((mu_n h1).trans ((mu_n h0).trans ((mu_n h0).trans ((mu_n h0).trans (rfl))))).trans hx9) ((hR.2.2.2.2 _ hi9.2).2.1)) rfl rfl, by rw [ht99]; exact hP, hI⟩, hS.F ht99⟩) hS.2.2 dX7_fill_167
            · skip
              refine lv_aload_n hx hb dX7_fill_108 rfl (lv_at hl 2 rfl) ?_
              refine m_get (ci := 10) (v := .int (gS st 2)) (C := RX7) (T := TX7) (N := 7) hx hb hts i_X7 hown hK (hP _ _ h_X) rfl 2 (by decide) (hts (.fieldLink RX7 84 "MeniscusModel" "stock" "I") (by decide +kernel)) (fun _ h9 => h9) rfl dX7_fill_109 ?_
              refine lv_iload hx hb dX7_fill_112 (lv_at hl 0 rfl) ?_
              refine lv_icmp_ge (tgt := 121) hx hb dX7_fill_114 (by decide) (fun c15 => ?_) (fun c15 => ?_)
              · skip
                have ha9 : p1 = 109 → amt st (ix p0) p2 ≤ gS st 2 := fun _ => c15
                refine lv_iconst (v := 0) hx hb dX7_fill_121 (by decide) ?_
                refine lv_iconst (v := 3) hx hb dX7_fill_122 (by decide) ?_
                refine m_calli (va_runV (As := [.int 0, .int 3]) (rest := []) ⟨hx, hb, hml, hown, hts⟩ (c_X7_isThrown0 l G A (mu (mu Mw (g.1 0 0) (.inr (10, [.ref (g.1 1 0), .ref (g.1 2 0), .int (gS st 2), .int (gS st 3), .int (gS st 1), .int (gS st 0), .int 0]))) (g.1 0 0) (.inr (10, [.ref (g.1 1 0), .ref (g.1 2 0), .int (gS st 2), .int (gS st 3), .int (gS st 1), .int (gS st 0), .int 0])))  3 h_X) (cwV 2 hts gX7_fill_X7_isThrown rfl rfl rfl (by decide +kernel) ⟨Nat.le_of_ble_eq_true rfl, Nat.le_of_ble_eq_true rfl⟩) (mPreV hG hS hP hI hA (hP _ _ h_X) (r := (RX7, TX7, 7)) rfl) rfl rfl hl.1 rfl (lv_room (Nat.le_of_ble_eq_true rfl)) dX7_fill_123 ⟨Nat.le_of_ble_eq_true rfl, Nat.le_of_ble_eq_true rfl⟩) hS (fun r16 Mw1 H locs hp_r16 hP hI hS => ?_)
                obtain ⟨hp_r16, hm9⟩ := hp_r16
                subst Mw1
                subst hp_r16
                have h_TL := mu_k (e := .inr (10, [.ref (g.1 1 0), .ref (g.1 2 0), .int (gS st 2), .int (gS st 3), .int (gS st 1), .int (gS st 0), .int 0])) (kd_ne h_TL h_X rfl) h_TL
                have h_IL := mu_k (e := .inr (10, [.ref (g.1 1 0), .ref (g.1 2 0), .int (gS st 2), .int (gS st 3), .int (gS st 1), .int (gS st 0), .int 0])) (kd_ne h_IL h_X rfl) h_IL
                have h_ID := mu_k (e := .inr (10, [.ref (g.1 1 0), .ref (g.1 2 0), .int (gS st 2), .int (gS st 3), .int (gS st 1), .int (gS st 0), .int 0])) (kd_ne h_ID h_X rfl) h_ID
                have h_I := mu_k (e := .inr (10, [.ref (g.1 1 0), .ref (g.1 2 0), .int (gS st 2), .int (gS st 3), .int (gS st 1), .int (gS st 0), .int 0])) (kd_ne h_I h_X rfl) h_I
                have h_T := mu_k (e := .inr (10, [.ref (g.1 1 0), .ref (g.1 2 0), .int (gS st 2), .int (gS st 3), .int (gS st 1), .int (gS st 0), .int 0])) (kd_ne h_T h_X rfl) h_T
                have h_B := mu_k (e := .inr (10, [.ref (g.1 1 0), .ref (g.1 2 0), .int (gS st 2), .int (gS st 3), .int (gS st 1), .int (gS st 0), .int 0])) (kd_ne h_B h_X rfl) h_B
                have h_X : (mu (mu (mu Mw (g.1 0 0) (.inr (10, [.ref (g.1 1 0), .ref (g.1 2 0), .int (gS st 2), .int (gS st 3), .int (gS st 1), .int (gS st 0), .int 0]))) (g.1 0 0) (.inr (10, [.ref (g.1 1 0), .ref (g.1 2 0), .int (gS st 2), .int (gS st 3), .int (gS st 1), .int (gS st 0), .int 0]))) (g.1 0 0) (.inr (10, [.ref (g.1 1 0), .ref (g.1 2 0), .int (gS st 2), .int (gS st 3), .int (gS st 1), .int (gS st 0), .int 0]))) (g.1 0 0) = some (.inr (10, [.ref (g.1 1 0), .ref (g.1 2 0), .int (gS st 2), .int (gS st 3), .int (gS st 1), .int (gS st 0), .int 0])) := mu_s
                refine lv_if_eq (tgt := 131) hx hb dX7_fill_126 (by decide) (fun _ => ?_) (fun h9 => absurd h9 (by decide))
                refine lv_aload_n hx hb dX7_fill_131 rfl (lv_at hl 2 rfl) ?_
                refine lv_dup hx hb dX7_fill_132 rfl ?_
                refine m_get (ci := 10) (v := .int (gS st 2)) (C := RX7) (T := TX7) (N := 7) hx hb hts i_X7 hown hK (hP _ _ h_X) rfl 2 (by decide) (hts (.fieldLink RX7 84 "MeniscusModel" "stock" "I") (by decide +kernel)) (fun _ h9 => h9) rfl dX7_fill_133 ?_
                refine lv_iload_n hx hb dX7_fill_136 rfl (lv_at hl 4 rfl) ?_
                refine lv_bipush (v := (109)) hx hb dX7_fill_137 (by decide) ?_
                refine lv_icmp_ne (tgt := 147) hx hb dX7_fill_139 (by decide) (fun c17 => ?_) (fun c17 => ?_)
                · skip
                  refine lv_iconst (v := 0) hx hb dX7_fill_147 (by decide) ?_
                  refine lv_isub hx hb dX7_fill_148 ?_
                  refine m_put (ci := 10) (v := .int ((gS st 2) - 0)) (ty := .int) (C := RX7) (T := TX7) (N := 7) hx hb hts i_X7 tyX7 tyX7_ok nmX7 hown hK hP hI hS h_X rfl 2 (by decide) (hts (.fieldLink RX7 84 "MeniscusModel" "stock" "I") (by decide +kernel)) (fun _ h9 => h9) rfl (by decide +kernel) rfl rfl (Nat.le_of_ble_eq_true rfl) dX7_fill_149 (fun H locs hP hI hS => ?_)
                  have hP : mP G.1 (mu (mu (mu (mu Mw (g.1 0 0) (.inr (10, [.ref (g.1 1 0), .ref (g.1 2 0), .int (gS st 2), .int (gS st 3), .int (gS st 1), .int (gS st 0), .int 0]))) (g.1 0 0) (.inr (10, [.ref (g.1 1 0), .ref (g.1 2 0), .int (gS st 2), .int (gS st 3), .int (gS st 1), .int (gS st 0), .int 0]))) (g.1 0 0) (.inr (10, [.ref (g.1 1 0), .ref (g.1 2 0), .int (gS st 2), .int (gS st 3), .int (gS st 1), .int (gS st 0), .int 0]))) (g.1 0 0) (.inr (10, [.ref (g.1 1 0), .ref (g.1 2 0), .int ((gS st 2) - 0), .int (gS st 3), .int (gS st 1), .int (gS st 0), .int 0]))) H := hP
                  have hI : mI A (mu (mu (mu (mu Mw (g.1 0 0) (.inr (10, [.ref (g.1 1 0), .ref (g.1 2 0), .int (gS st 2), .int (gS st 3), .int (gS st 1), .int (gS st 0), .int 0]))) (g.1 0 0) (.inr (10, [.ref (g.1 1 0), .ref (g.1 2 0), .int (gS st 2), .int (gS st 3), .int (gS st 1), .int (gS st 0), .int 0]))) (g.1 0 0) (.inr (10, [.ref (g.1 1 0), .ref (g.1 2 0), .int (gS st 2), .int (gS st 3), .int (gS st 1), .int (gS st 0), .int 0]))) (g.1 0 0) (.inr (10, [.ref (g.1 1 0), .ref (g.1 2 0), .int ((gS st 2) - 0), .int (gS st 3), .int (gS st 1), .int (gS st 0), .int 0]))) := hI
                  have h_TL := mu_k (e := .inr (10, [.ref (g.1 1 0), .ref (g.1 2 0), .int ((gS st 2) - 0), .int (gS st 3), .int (gS st 1), .int (gS st 0), .int 0])) (kd_ne h_TL h_X rfl) h_TL
                  have h_IL := mu_k (e := .inr (10, [.ref (g.1 1 0), .ref (g.1 2 0), .int ((gS st 2) - 0), .int (gS st 3), .int (gS st 1), .int (gS st 0), .int 0])) (kd_ne h_IL h_X rfl) h_IL
                  have h_ID := mu_k (e := .inr (10, [.ref (g.1 1 0), .ref (g.1 2 0), .int ((gS st 2) - 0), .int (gS st 3), .int (gS st 1), .int (gS st 0), .int 0])) (kd_ne h_ID h_X rfl) h_ID
                  have h_I := mu_k (e := .inr (10, [.ref (g.1 1 0), .ref (g.1 2 0), .int ((gS st 2) - 0), .int (gS st 3), .int (gS st 1), .int (gS st 0), .int 0])) (kd_ne h_I h_X rfl) h_I
                  have h_T := mu_k (e := .inr (10, [.ref (g.1 1 0), .ref (g.1 2 0), .int ((gS st 2) - 0), .int (gS st 3), .int (gS st 1), .int (gS st 0), .int 0])) (kd_ne h_T h_X rfl) h_T
                  have h_B := mu_k (e := .inr (10, [.ref (g.1 1 0), .ref (g.1 2 0), .int ((gS st 2) - 0), .int (gS st 3), .int (gS st 1), .int (gS st 0), .int 0])) (kd_ne h_B h_X rfl) h_B
                  rw [mu_uu] at hP hI h_TL h_IL h_ID h_I h_T h_B
                  have h_X : (mu (mu (mu Mw (g.1 0 0) (.inr (10, [.ref (g.1 1 0), .ref (g.1 2 0), .int (gS st 2), .int (gS st 3), .int (gS st 1), .int (gS st 0), .int 0]))) (g.1 0 0) (.inr (10, [.ref (g.1 1 0), .ref (g.1 2 0), .int (gS st 2), .int (gS st 3), .int (gS st 1), .int (gS st 0), .int 0]))) (g.1 0 0) (.inr (10, [.ref (g.1 1 0), .ref (g.1 2 0), .int ((gS st 2) - 0), .int (gS st 3), .int (gS st 1), .int (gS st 0), .int 0]))) (g.1 0 0) = some (.inr (10, [.ref (g.1 1 0), .ref (g.1 2 0), .int ((gS st 2) - 0), .int (gS st 3), .int (gS st 1), .int (gS st 0), .int 0])) := mu_s
                  refine lv_aload hx hb dX7_fill_152 (lv_at hl 1 rfl) ?_
                  refine lv_iload_n hx hb dX7_fill_154 rfl (lv_at hl 4 rfl) ?_
                  refine m_putN (ci := 8) (v := .int p1) (ty := .char) (C := RX5) (T := TX5) (N := 17) hx hb hts i_X5 tyX5 tyX5_ok nmX5 hown hK hP hI hS h_I rfl 5 (by decide) (va_Nw.use rfl (hG.2.1.2.1 ("MeniscusModel", 100, "MeniscusModel$Instrument", "liquid", "C", "MeniscusModel") (by decide +kernel))) (fun _ h9 => h9) rfl (by decide +kernel) (nch (show eith p1 109 115 from Or.inl c3) ⟨rfl, rfl⟩ ⟨rfl, rfl⟩).1 (nch (show eith p1 109 115 from Or.inl c3) ⟨rfl, rfl⟩ ⟨rfl, rfl⟩).2 (Nat.le_of_ble_eq_true rfl) dX7_fill_155 (fun H locs hP hI hS => ?_)
                  have hP : mP G.1 (mu (mu (mu (mu Mw (g.1 0 0) (.inr (10, [.ref (g.1 1 0), .ref (g.1 2 0), .int (gS st 2), .int (gS st 3), .int (gS st 1), .int (gS st 0), .int 0]))) (g.1 0 0) (.inr (10, [.ref (g.1 1 0), .ref (g.1 2 0), .int (gS st 2), .int (gS st 3), .int (gS st 1), .int (gS st 0), .int 0]))) (g.1 0 0) (.inr (10, [.ref (g.1 1 0), .ref (g.1 2 0), .int ((gS st 2) - 0), .int (gS st 3), .int (gS st 1), .int (gS st 0), .int 0]))) (g.1 7 (ix p0)) (.inr (8, [.ref (g.1 5 (tbN st (ix p0))), .int (itS st (ix p0) 1), .int (sof (itS st (ix p0) 2)), .int (itS st (ix p0) 3), .int (itS st (ix p0) 7), .int p1, .int (itS st (ix p0) 5), .int (itS st (ix p0) 12), .int (itS st (ix p0) 13), .int (itS st (ix p0) 14), .int (itS st (ix p0) 15), .int (itS st (ix p0) 8), .int (itS st (ix p0) 9), .int (itS st (ix p0) 10), .int (ceR g (ix p0)), .ref (g.1 8 (ix p0)), .ref (g.1 9 (ix p0))]))) H := hP
                  have hI : mI A (mu (mu (mu (mu Mw (g.1 0 0) (.inr (10, [.ref (g.1 1 0), .ref (g.1 2 0), .int (gS st 2), .int (gS st 3), .int (gS st 1), .int (gS st 0), .int 0]))) (g.1 0 0) (.inr (10, [.ref (g.1 1 0), .ref (g.1 2 0), .int (gS st 2), .int (gS st 3), .int (gS st 1), .int (gS st 0), .int 0]))) (g.1 0 0) (.inr (10, [.ref (g.1 1 0), .ref (g.1 2 0), .int ((gS st 2) - 0), .int (gS st 3), .int (gS st 1), .int (gS st 0), .int 0]))) (g.1 7 (ix p0)) (.inr (8, [.ref (g.1 5 (tbN st (ix p0))), .int (itS st (ix p0) 1), .int (sof (itS st (ix p0) 2)), .int (itS st (ix p0) 3), .int (itS st (ix p0) 7), .int p1, .int (itS st (ix p0) 5), .int (itS st (ix p0) 12), .int (itS st (ix p0) 13), .int (itS st (ix p0) 14), .int (itS st (ix p0) 15), .int (itS st (ix p0) 8), .int (itS st (ix p0) 9), .int (itS st (ix p0) 10), .int (ceR g (ix p0)), .ref (g.1 8 (ix p0)), .ref (g.1 9 (ix p0))]))) := hI
                  have h_X := mu_k (e := .inr (8, [.ref (g.1 5 (tbN st (ix p0))), .int (itS st (ix p0) 1), .int (sof (itS st (ix p0) 2)), .int (itS st (ix p0) 3), .int (itS st (ix p0) 7), .int p1, .int (itS st (ix p0) 5), .int (itS st (ix p0) 12), .int (itS st (ix p0) 13), .int (itS st (ix p0) 14), .int (itS st (ix p0) 15), .int (itS st (ix p0) 8), .int (itS st (ix p0) 9), .int (itS st (ix p0) 10), .int (ceR g (ix p0)), .ref (g.1 8 (ix p0)), .ref (g.1 9 (ix p0))])) (kd_ne h_X h_I rfl) h_X
                  have h_TL := mu_k (e := .inr (8, [.ref (g.1 5 (tbN st (ix p0))), .int (itS st (ix p0) 1), .int (sof (itS st (ix p0) 2)), .int (itS st (ix p0) 3), .int (itS st (ix p0) 7), .int p1, .int (itS st (ix p0) 5), .int (itS st (ix p0) 12), .int (itS st (ix p0) 13), .int (itS st (ix p0) 14), .int (itS st (ix p0) 15), .int (itS st (ix p0) 8), .int (itS st (ix p0) 9), .int (itS st (ix p0) 10), .int (ceR g (ix p0)), .ref (g.1 8 (ix p0)), .ref (g.1 9 (ix p0))])) (kd_ne h_TL h_I rfl) h_TL
                  have h_IL := mu_k (e := .inr (8, [.ref (g.1 5 (tbN st (ix p0))), .int (itS st (ix p0) 1), .int (sof (itS st (ix p0) 2)), .int (itS st (ix p0) 3), .int (itS st (ix p0) 7), .int p1, .int (itS st (ix p0) 5), .int (itS st (ix p0) 12), .int (itS st (ix p0) 13), .int (itS st (ix p0) 14), .int (itS st (ix p0) 15), .int (itS st (ix p0) 8), .int (itS st (ix p0) 9), .int (itS st (ix p0) 10), .int (ceR g (ix p0)), .ref (g.1 8 (ix p0)), .ref (g.1 9 (ix p0))])) (kd_ne h_IL h_I rfl) h_IL
                  have h_ID := mu_k (e := .inr (8, [.ref (g.1 5 (tbN st (ix p0))), .int (itS st (ix p0) 1), .int (sof (itS st (ix p0) 2)), .int (itS st (ix p0) 3), .int (itS st (ix p0) 7), .int p1, .int (itS st (ix p0) 5), .int (itS st (ix p0) 12), .int (itS st (ix p0) 13), .int (itS st (ix p0) 14), .int (itS st (ix p0) 15), .int (itS st (ix p0) 8), .int (itS st (ix p0) 9), .int (itS st (ix p0) 10), .int (ceR g (ix p0)), .ref (g.1 8 (ix p0)), .ref (g.1 9 (ix p0))])) (kd_ne h_ID h_I rfl) h_ID
                  have h_T := mu_k (e := .inr (8, [.ref (g.1 5 (tbN st (ix p0))), .int (itS st (ix p0) 1), .int (sof (itS st (ix p0) 2)), .int (itS st (ix p0) 3), .int (itS st (ix p0) 7), .int p1, .int (itS st (ix p0) 5), .int (itS st (ix p0) 12), .int (itS st (ix p0) 13), .int (itS st (ix p0) 14), .int (itS st (ix p0) 15), .int (itS st (ix p0) 8), .int (itS st (ix p0) 9), .int (itS st (ix p0) 10), .int (ceR g (ix p0)), .ref (g.1 8 (ix p0)), .ref (g.1 9 (ix p0))])) (kd_ne h_T h_I rfl) h_T
                  have h_B := mu_k (e := .inr (8, [.ref (g.1 5 (tbN st (ix p0))), .int (itS st (ix p0) 1), .int (sof (itS st (ix p0) 2)), .int (itS st (ix p0) 3), .int (itS st (ix p0) 7), .int p1, .int (itS st (ix p0) 5), .int (itS st (ix p0) 12), .int (itS st (ix p0) 13), .int (itS st (ix p0) 14), .int (itS st (ix p0) 15), .int (itS st (ix p0) 8), .int (itS st (ix p0) 9), .int (itS st (ix p0) 10), .int (ceR g (ix p0)), .ref (g.1 8 (ix p0)), .ref (g.1 9 (ix p0))])) (kd_ne h_B h_I rfl) h_B
                  have h_I : (mu (mu (mu (mu Mw (g.1 0 0) (.inr (10, [.ref (g.1 1 0), .ref (g.1 2 0), .int (gS st 2), .int (gS st 3), .int (gS st 1), .int (gS st 0), .int 0]))) (g.1 0 0) (.inr (10, [.ref (g.1 1 0), .ref (g.1 2 0), .int (gS st 2), .int (gS st 3), .int (gS st 1), .int (gS st 0), .int 0]))) (g.1 0 0) (.inr (10, [.ref (g.1 1 0), .ref (g.1 2 0), .int ((gS st 2) - 0), .int (gS st 3), .int (gS st 1), .int (gS st 0), .int 0]))) (g.1 7 (ix p0)) (.inr (8, [.ref (g.1 5 (tbN st (ix p0))), .int (itS st (ix p0) 1), .int (sof (itS st (ix p0) 2)), .int (itS st (ix p0) 3), .int (itS st (ix p0) 7), .int p1, .int (itS st (ix p0) 5), .int (itS st (ix p0) 12), .int (itS st (ix p0) 13), .int (itS st (ix p0) 14), .int (itS st (ix p0) 15), .int (itS st (ix p0) 8), .int (itS st (ix p0) 9), .int (itS st (ix p0) 10), .int (ceR g (ix p0)), .ref (g.1 8 (ix p0)), .ref (g.1 9 (ix p0))]))) (g.1 7 (ix p0)) = some (.inr (8, [.ref (g.1 5 (tbN st (ix p0))), .int (itS st (ix p0) 1), .int (sof (itS st (ix p0) 2)), .int (itS st (ix p0) 3), .int (itS st (ix p0) 7), .int p1, .int (itS st (ix p0) 5), .int (itS st (ix p0) 12), .int (itS st (ix p0) 13), .int (itS st (ix p0) 14), .int (itS st (ix p0) 15), .int (itS st (ix p0) 8), .int (itS st (ix p0) 9), .int (itS st (ix p0) 10), .int (ceR g (ix p0)), .ref (g.1 8 (ix p0)), .ref (g.1 9 (ix p0))])) := mu_s
                  refine lv_aload hx hb dX7_fill_158 (lv_at hl 1 rfl) ?_
                  refine lv_iload hx hb dX7_fill_160 (lv_at hl 0 rfl) ?_
                  refine m_putN (ci := 8) (v := .int (((itS st (ix p0) 1) - (itS st (ix p0) 3)) + (vsum (boS st (tbN st (ix p0))) p2 20))) (ty := .int) (C := RX5) (T := TX5) (N := 17) hx hb hts i_X5 tyX5 tyX5_ok nmX5 hown hK hP hI hS h_I rfl 4 (by decide) (va_Nw.use rfl (hG.2.1.2.1 ("MeniscusModel", 107, "MeniscusModel$Instrument", "inside", "I", "MeniscusModel") (by decide +kernel))) (fun _ h9 => h9) rfl (by decide +kernel) rfl rfl (Nat.le_of_ble_eq_true rfl) dX7_fill_162 (fun H locs hP hI hS => ?_)
                  have hP : mP G.1 (mu (mu (mu (mu (mu Mw (g.1 0 0) (.inr (10, [.ref (g.1 1 0), .ref (g.1 2 0), .int (gS st 2), .int (gS st 3), .int (gS st 1), .int (gS st 0), .int 0]))) (g.1 0 0) (.inr (10, [.ref (g.1 1 0), .ref (g.1 2 0), .int (gS st 2), .int (gS st 3), .int (gS st 1), .int (gS st 0), .int 0]))) (g.1 0 0) (.inr (10, [.ref (g.1 1 0), .ref (g.1 2 0), .int ((gS st 2) - 0), .int (gS st 3), .int (gS st 1), .int (gS st 0), .int 0]))) (g.1 7 (ix p0)) (.inr (8, [.ref (g.1 5 (tbN st (ix p0))), .int (itS st (ix p0) 1), .int (sof (itS st (ix p0) 2)), .int (itS st (ix p0) 3), .int (itS st (ix p0) 7), .int p1, .int (itS st (ix p0) 5), .int (itS st (ix p0) 12), .int (itS st (ix p0) 13), .int (itS st (ix p0) 14), .int (itS st (ix p0) 15), .int (itS st (ix p0) 8), .int (itS st (ix p0) 9), .int (itS st (ix p0) 10), .int (ceR g (ix p0)), .ref (g.1 8 (ix p0)), .ref (g.1 9 (ix p0))]))) (g.1 7 (ix p0)) (.inr (8, [.ref (g.1 5 (tbN st (ix p0))), .int (itS st (ix p0) 1), .int (sof (itS st (ix p0) 2)), .int (itS st (ix p0) 3), .int (((itS st (ix p0) 1) - (itS st (ix p0) 3)) + (vsum (boS st (tbN st (ix p0))) p2 20)), .int p1, .int (itS st (ix p0) 5), .int (itS st (ix p0) 12), .int (itS st (ix p0) 13), .int (itS st (ix p0) 14), .int (itS st (ix p0) 15), .int (itS st (ix p0) 8), .int (itS st (ix p0) 9), .int (itS st (ix p0) 10), .int (ceR g (ix p0)), .ref (g.1 8 (ix p0)), .ref (g.1 9 (ix p0))]))) H := hP
                  have hI : mI A (mu (mu (mu (mu (mu Mw (g.1 0 0) (.inr (10, [.ref (g.1 1 0), .ref (g.1 2 0), .int (gS st 2), .int (gS st 3), .int (gS st 1), .int (gS st 0), .int 0]))) (g.1 0 0) (.inr (10, [.ref (g.1 1 0), .ref (g.1 2 0), .int (gS st 2), .int (gS st 3), .int (gS st 1), .int (gS st 0), .int 0]))) (g.1 0 0) (.inr (10, [.ref (g.1 1 0), .ref (g.1 2 0), .int ((gS st 2) - 0), .int (gS st 3), .int (gS st 1), .int (gS st 0), .int 0]))) (g.1 7 (ix p0)) (.inr (8, [.ref (g.1 5 (tbN st (ix p0))), .int (itS st (ix p0) 1), .int (sof (itS st (ix p0) 2)), .int (itS st (ix p0) 3), .int (itS st (ix p0) 7), .int p1, .int (itS st (ix p0) 5), .int (itS st (ix p0) 12), .int (itS st (ix p0) 13), .int (itS st (ix p0) 14), .int (itS st (ix p0) 15), .int (itS st (ix p0) 8), .int (itS st (ix p0) 9), .int (itS st (ix p0) 10), .int (ceR g (ix p0)), .ref (g.1 8 (ix p0)), .ref (g.1 9 (ix p0))]))) (g.1 7 (ix p0)) (.inr (8, [.ref (g.1 5 (tbN st (ix p0))), .int (itS st (ix p0) 1), .int (sof (itS st (ix p0) 2)), .int (itS st (ix p0) 3), .int (((itS st (ix p0) 1) - (itS st (ix p0) 3)) + (vsum (boS st (tbN st (ix p0))) p2 20)), .int p1, .int (itS st (ix p0) 5), .int (itS st (ix p0) 12), .int (itS st (ix p0) 13), .int (itS st (ix p0) 14), .int (itS st (ix p0) 15), .int (itS st (ix p0) 8), .int (itS st (ix p0) 9), .int (itS st (ix p0) 10), .int (ceR g (ix p0)), .ref (g.1 8 (ix p0)), .ref (g.1 9 (ix p0))]))) := hI
                  have h_X := mu_k (e := .inr (8, [.ref (g.1 5 (tbN st (ix p0))), .int (itS st (ix p0) 1), .int (sof (itS st (ix p0) 2)), .int (itS st (ix p0) 3), .int (((itS st (ix p0) 1) - (itS st (ix p0) 3)) + (vsum (boS st (tbN st (ix p0))) p2 20)), .int p1, .int (itS st (ix p0) 5), .int (itS st (ix p0) 12), .int (itS st (ix p0) 13), .int (itS st (ix p0) 14), .int (itS st (ix p0) 15), .int (itS st (ix p0) 8), .int (itS st (ix p0) 9), .int (itS st (ix p0) 10), .int (ceR g (ix p0)), .ref (g.1 8 (ix p0)), .ref (g.1 9 (ix p0))])) (kd_ne h_X h_I rfl) h_X
                  have h_TL := mu_k (e := .inr (8, [.ref (g.1 5 (tbN st (ix p0))), .int (itS st (ix p0) 1), .int (sof (itS st (ix p0) 2)), .int (itS st (ix p0) 3), .int (((itS st (ix p0) 1) - (itS st (ix p0) 3)) + (vsum (boS st (tbN st (ix p0))) p2 20)), .int p1, .int (itS st (ix p0) 5), .int (itS st (ix p0) 12), .int (itS st (ix p0) 13), .int (itS st (ix p0) 14), .int (itS st (ix p0) 15), .int (itS st (ix p0) 8), .int (itS st (ix p0) 9), .int (itS st (ix p0) 10), .int (ceR g (ix p0)), .ref (g.1 8 (ix p0)), .ref (g.1 9 (ix p0))])) (kd_ne h_TL h_I rfl) h_TL
                  have h_IL := mu_k (e := .inr (8, [.ref (g.1 5 (tbN st (ix p0))), .int (itS st (ix p0) 1), .int (sof (itS st (ix p0) 2)), .int (itS st (ix p0) 3), .int (((itS st (ix p0) 1) - (itS st (ix p0) 3)) + (vsum (boS st (tbN st (ix p0))) p2 20)), .int p1, .int (itS st (ix p0) 5), .int (itS st (ix p0) 12), .int (itS st (ix p0) 13), .int (itS st (ix p0) 14), .int (itS st (ix p0) 15), .int (itS st (ix p0) 8), .int (itS st (ix p0) 9), .int (itS st (ix p0) 10), .int (ceR g (ix p0)), .ref (g.1 8 (ix p0)), .ref (g.1 9 (ix p0))])) (kd_ne h_IL h_I rfl) h_IL
                  have h_ID := mu_k (e := .inr (8, [.ref (g.1 5 (tbN st (ix p0))), .int (itS st (ix p0) 1), .int (sof (itS st (ix p0) 2)), .int (itS st (ix p0) 3), .int (((itS st (ix p0) 1) - (itS st (ix p0) 3)) + (vsum (boS st (tbN st (ix p0))) p2 20)), .int p1, .int (itS st (ix p0) 5), .int (itS st (ix p0) 12), .int (itS st (ix p0) 13), .int (itS st (ix p0) 14), .int (itS st (ix p0) 15), .int (itS st (ix p0) 8), .int (itS st (ix p0) 9), .int (itS st (ix p0) 10), .int (ceR g (ix p0)), .ref (g.1 8 (ix p0)), .ref (g.1 9 (ix p0))])) (kd_ne h_ID h_I rfl) h_ID
                  have h_T := mu_k (e := .inr (8, [.ref (g.1 5 (tbN st (ix p0))), .int (itS st (ix p0) 1), .int (sof (itS st (ix p0) 2)), .int (itS st (ix p0) 3), .int (((itS st (ix p0) 1) - (itS st (ix p0) 3)) + (vsum (boS st (tbN st (ix p0))) p2 20)), .int p1, .int (itS st (ix p0) 5), .int (itS st (ix p0) 12), .int (itS st (ix p0) 13), .int (itS st (ix p0) 14), .int (itS st (ix p0) 15), .int (itS st (ix p0) 8), .int (itS st (ix p0) 9), .int (itS st (ix p0) 10), .int (ceR g (ix p0)), .ref (g.1 8 (ix p0)), .ref (g.1 9 (ix p0))])) (kd_ne h_T h_I rfl) h_T
                  have h_B := mu_k (e := .inr (8, [.ref (g.1 5 (tbN st (ix p0))), .int (itS st (ix p0) 1), .int (sof (itS st (ix p0) 2)), .int (itS st (ix p0) 3), .int (((itS st (ix p0) 1) - (itS st (ix p0) 3)) + (vsum (boS st (tbN st (ix p0))) p2 20)), .int p1, .int (itS st (ix p0) 5), .int (itS st (ix p0) 12), .int (itS st (ix p0) 13), .int (itS st (ix p0) 14), .int (itS st (ix p0) 15), .int (itS st (ix p0) 8), .int (itS st (ix p0) 9), .int (itS st (ix p0) 10), .int (ceR g (ix p0)), .ref (g.1 8 (ix p0)), .ref (g.1 9 (ix p0))])) (kd_ne h_B h_I rfl) h_B
                  rw [mu_uu] at hP hI h_X h_TL h_IL h_ID h_T h_B
                  have h_I : (mu (mu (mu (mu Mw (g.1 0 0) (.inr (10, [.ref (g.1 1 0), .ref (g.1 2 0), .int (gS st 2), .int (gS st 3), .int (gS st 1), .int (gS st 0), .int 0]))) (g.1 0 0) (.inr (10, [.ref (g.1 1 0), .ref (g.1 2 0), .int (gS st 2), .int (gS st 3), .int (gS st 1), .int (gS st 0), .int 0]))) (g.1 0 0) (.inr (10, [.ref (g.1 1 0), .ref (g.1 2 0), .int ((gS st 2) - 0), .int (gS st 3), .int (gS st 1), .int (gS st 0), .int 0]))) (g.1 7 (ix p0)) (.inr (8, [.ref (g.1 5 (tbN st (ix p0))), .int (itS st (ix p0) 1), .int (sof (itS st (ix p0) 2)), .int (itS st (ix p0) 3), .int (((itS st (ix p0) 1) - (itS st (ix p0) 3)) + (vsum (boS st (tbN st (ix p0))) p2 20)), .int p1, .int (itS st (ix p0) 5), .int (itS st (ix p0) 12), .int (itS st (ix p0) 13), .int (itS st (ix p0) 14), .int (itS st (ix p0) 15), .int (itS st (ix p0) 8), .int (itS st (ix p0) 9), .int (itS st (ix p0) 10), .int (ceR g (ix p0)), .ref (g.1 8 (ix p0)), .ref (g.1 9 (ix p0))]))) (g.1 7 (ix p0)) = some (.inr (8, [.ref (g.1 5 (tbN st (ix p0))), .int (itS st (ix p0) 1), .int (sof (itS st (ix p0) 2)), .int (itS st (ix p0) 3), .int (((itS st (ix p0) 1) - (itS st (ix p0) 3)) + (vsum (boS st (tbN st (ix p0))) p2 20)), .int p1, .int (itS st (ix p0) 5), .int (itS st (ix p0) 12), .int (itS st (ix p0) 13), .int (itS st (ix p0) 14), .int (itS st (ix p0) 15), .int (itS st (ix p0) 8), .int (itS st (ix p0) 9), .int (itS st (ix p0) 10), .int (ceR g (ix p0)), .ref (g.1 8 (ix p0)), .ref (g.1 9 (ix p0))])) := mu_s
                  refine lv_iload hx hb dX7_fill_165 (lv_at hl 0 rfl) ?_
                  refine W.widen (k := 0) (n := 0) (Nat.le_of_ble_eq_true rfl) (Nat.le_of_ble_eq_true rfl) ?_
                  exact W.iret (v := ((itS st (ix p0) 1) - (itS st (ix p0) 3)) + (vsum (boS st (tbN st (ix p0))) p2 20)) hx hb hr (fun t99 ht99 hW99 => ⟨⟨((itS st (ix p0) 1) - (itS st (ix p0) 3)) + (vsum (boS st (tbN st (ix p0))) p2 20), (mu (mu (mu (mu Mw (g.1 0 0) (.inr (10, [.ref (g.1 1 0), .ref (g.1 2 0), .int (gS st 2), .int (gS st 3), .int (gS st 1), .int (gS st 0), .int 0]))) (g.1 0 0) (.inr (10, [.ref (g.1 1 0), .ref (g.1 2 0), .int (gS st 2), .int (gS st 3), .int (gS st 1), .int (gS st 0), .int 0]))) (g.1 0 0) (.inr (10, [.ref (g.1 1 0), .ref (g.1 2 0), .int ((gS st 2) - 0), .int (gS st 3), .int (gS st 1), .int (gS st 0), .int 0]))) (g.1 7 (ix p0)) (.inr (8, [.ref (g.1 5 (tbN st (ix p0))), .int (itS st (ix p0) 1), .int (sof (itS st (ix p0) 2)), .int (itS st (ix p0) 3), .int (((itS st (ix p0) 1) - (itS st (ix p0) 3)) + (vsum (boS st (tbN st (ix p0))) p2 20)), .int p1, .int (itS st (ix p0) 5), .int (itS st (ix p0) 12), .int (itS st (ix p0) 13), .int (itS st (ix p0) 14), .int (itS st (ix p0) 15), .int (itS st (ix p0) 8), .int (itS st (ix p0) 9), .int (itS st (ix p0) 10), .int (ceR g (ix p0)), .ref (g.1 8 (ix p0)), .ref (g.1 9 (ix p0))]))), rfl, RP.ok (by unfold m_fill; first | (rw [chk_p hi9, chk_p (show eith p1 109 115 from Or.inl c3), chk_p hq_r4, chk_p (fill_p hV hi9.2 c8), chk_p c10, chk_p ha9]; done) | (rw [chk_p hi9, chk_p (show eith p1 109 115 from Or.inl c3), chk_p hq_r4, chk_p (fill_p hV hi9.2 c8), chk_p c10, chk_p ha9]; rfl)) (hR.io hi9.2 (fu (gS st) 2 (if p1 = 109 then gS st 2 - amt st (ix p0) p2 else gS st 2)) (filG st (ix p0) p1 (amt st (ix p0) p2)) rfl (ceR g (ix p0)) 0 (h_X.trans (congrArg some (by first | (rw [show (if p1 = 109 then gS st 2 - amt st (ix p0) p2 else gS st 2) = gS st 2 - 0 from (if_neg c17).trans (Int32.sub_zero _).symm]; done) | (rw [show (if p1 = 109 then gS st 2 - amt st (ix p0) p2 else gS st 2) = gS st 2 - 0 from (if_neg c17).trans (Int32.sub_zero _).symm]; rfl)))) h_I (fun x9 e9 hx9 h0 h1 => ((mu_n h1).trans ((mu_n h0).trans ((mu_n h0).trans ((mu_n h0).trans (rfl))))).trans hx9) ((hR.2.2.2.2 _ hi9.2).2.1)) rfl rfl, by rw [ht99]; exact hP, hI⟩, hS.F ht99⟩) hS.2.2 dX7_fill_167
                · skip
                  refine lv_iload hx hb dX7_fill_142 (lv_at hl 0 rfl) ?_
                  refine lv_goto (tgt := 148) hx hb dX7_fill_144 (by decide) ?_
                  refine lv_isub hx hb dX7_fill_148 ?_
                  refine m_put (ci := 10) (v := .int ((gS st 2) - (((itS st (ix p0) 1) - (itS st (ix p0) 3)) + (vsum (boS st (tbN st (ix p0))) p2 20)))) (ty := .int) (C := RX7) (T := TX7) (N := 7) hx hb hts i_X7 tyX7 tyX7_ok nmX7 hown hK hP hI hS h_X rfl 2 (by decide) (hts (.fieldLink RX7 84 "MeniscusModel" "stock" "I") (by decide +kernel)) (fun _ h9 => h9) rfl (by decide +kernel) rfl rfl (Nat.le_of_ble_eq_true rfl) dX7_fill_149 (fun H locs hP hI hS => ?_)
                  have hP : mP G.1 (mu (mu (mu (mu Mw (g.1 0 0) (.inr (10, [.ref (g.1 1 0), .ref (g.1 2 0), .int (gS st 2), .int (gS st 3), .int (gS st 1), .int (gS st 0), .int 0]))) (g.1 0 0) (.inr (10, [.ref (g.1 1 0), .ref (g.1 2 0), .int (gS st 2), .int (gS st 3), .int (gS st 1), .int (gS st 0), .int 0]))) (g.1 0 0) (.inr (10, [.ref (g.1 1 0), .ref (g.1 2 0), .int (gS st 2), .int (gS st 3), .int (gS st 1), .int (gS st 0), .int 0]))) (g.1 0 0) (.inr (10, [.ref (g.1 1 0), .ref (g.1 2 0), .int ((gS st 2) - (((itS st (ix p0) 1) - (itS st (ix p0) 3)) + (vsum (boS st (tbN st (ix p0))) p2 20))), .int (gS st 3), .int (gS st 1), .int (gS st 0), .int 0]))) H := hP
                  have hI : mI A (mu (mu (mu (mu Mw (g.1 0 0) (.inr (10, [.ref (g.1 1 0), .ref (g.1 2 0), .int (gS st 2), .int (gS st 3), .int (gS st 1), .int (gS st 0), .int 0]))) (g.1 0 0) (.inr (10, [.ref (g.1 1 0), .ref (g.1 2 0), .int (gS st 2), .int (gS st 3), .int (gS st 1), .int (gS st 0), .int 0]))) (g.1 0 0) (.inr (10, [.ref (g.1 1 0), .ref (g.1 2 0), .int (gS st 2), .int (gS st 3), .int (gS st 1), .int (gS st 0), .int 0]))) (g.1 0 0) (.inr (10, [.ref (g.1 1 0), .ref (g.1 2 0), .int ((gS st 2) - (((itS st (ix p0) 1) - (itS st (ix p0) 3)) + (vsum (boS st (tbN st (ix p0))) p2 20))), .int (gS st 3), .int (gS st 1), .int (gS st 0), .int 0]))) := hI
                  have h_TL := mu_k (e := .inr (10, [.ref (g.1 1 0), .ref (g.1 2 0), .int ((gS st 2) - (((itS st (ix p0) 1) - (itS st (ix p0) 3)) + (vsum (boS st (tbN st (ix p0))) p2 20))), .int (gS st 3), .int (gS st 1), .int (gS st 0), .int 0])) (kd_ne h_TL h_X rfl) h_TL
                  have h_IL := mu_k (e := .inr (10, [.ref (g.1 1 0), .ref (g.1 2 0), .int ((gS st 2) - (((itS st (ix p0) 1) - (itS st (ix p0) 3)) + (vsum (boS st (tbN st (ix p0))) p2 20))), .int (gS st 3), .int (gS st 1), .int (gS st 0), .int 0])) (kd_ne h_IL h_X rfl) h_IL
                  have h_ID := mu_k (e := .inr (10, [.ref (g.1 1 0), .ref (g.1 2 0), .int ((gS st 2) - (((itS st (ix p0) 1) - (itS st (ix p0) 3)) + (vsum (boS st (tbN st (ix p0))) p2 20))), .int (gS st 3), .int (gS st 1), .int (gS st 0), .int 0])) (kd_ne h_ID h_X rfl) h_ID
                  have h_I := mu_k (e := .inr (10, [.ref (g.1 1 0), .ref (g.1 2 0), .int ((gS st 2) - (((itS st (ix p0) 1) - (itS st (ix p0) 3)) + (vsum (boS st (tbN st (ix p0))) p2 20))), .int (gS st 3), .int (gS st 1), .int (gS st 0), .int 0])) (kd_ne h_I h_X rfl) h_I
                  have h_T := mu_k (e := .inr (10, [.ref (g.1 1 0), .ref (g.1 2 0), .int ((gS st 2) - (((itS st (ix p0) 1) - (itS st (ix p0) 3)) + (vsum (boS st (tbN st (ix p0))) p2 20))), .int (gS st 3), .int (gS st 1), .int (gS st 0), .int 0])) (kd_ne h_T h_X rfl) h_T
                  have h_B := mu_k (e := .inr (10, [.ref (g.1 1 0), .ref (g.1 2 0), .int ((gS st 2) - (((itS st (ix p0) 1) - (itS st (ix p0) 3)) + (vsum (boS st (tbN st (ix p0))) p2 20))), .int (gS st 3), .int (gS st 1), .int (gS st 0), .int 0])) (kd_ne h_B h_X rfl) h_B
                  rw [mu_uu] at hP hI h_TL h_IL h_ID h_I h_T h_B
                  have h_X : (mu (mu (mu Mw (g.1 0 0) (.inr (10, [.ref (g.1 1 0), .ref (g.1 2 0), .int (gS st 2), .int (gS st 3), .int (gS st 1), .int (gS st 0), .int 0]))) (g.1 0 0) (.inr (10, [.ref (g.1 1 0), .ref (g.1 2 0), .int (gS st 2), .int (gS st 3), .int (gS st 1), .int (gS st 0), .int 0]))) (g.1 0 0) (.inr (10, [.ref (g.1 1 0), .ref (g.1 2 0), .int ((gS st 2) - (((itS st (ix p0) 1) - (itS st (ix p0) 3)) + (vsum (boS st (tbN st (ix p0))) p2 20))), .int (gS st 3), .int (gS st 1), .int (gS st 0), .int 0]))) (g.1 0 0) = some (.inr (10, [.ref (g.1 1 0), .ref (g.1 2 0), .int ((gS st 2) - (((itS st (ix p0) 1) - (itS st (ix p0) 3)) + (vsum (boS st (tbN st (ix p0))) p2 20))), .int (gS st 3), .int (gS st 1), .int (gS st 0), .int 0])) := mu_s
                  refine lv_aload hx hb dX7_fill_152 (lv_at hl 1 rfl) ?_
                  refine lv_iload_n hx hb dX7_fill_154 rfl (lv_at hl 4 rfl) ?_
                  refine m_putN (ci := 8) (v := .int p1) (ty := .char) (C := RX5) (T := TX5) (N := 17) hx hb hts i_X5 tyX5 tyX5_ok nmX5 hown hK hP hI hS h_I rfl 5 (by decide) (va_Nw.use rfl (hG.2.1.2.1 ("MeniscusModel", 100, "MeniscusModel$Instrument", "liquid", "C", "MeniscusModel") (by decide +kernel))) (fun _ h9 => h9) rfl (by decide +kernel) (nch (show eith p1 109 115 from Or.inl c3) ⟨rfl, rfl⟩ ⟨rfl, rfl⟩).1 (nch (show eith p1 109 115 from Or.inl c3) ⟨rfl, rfl⟩ ⟨rfl, rfl⟩).2 (Nat.le_of_ble_eq_true rfl) dX7_fill_155 (fun H locs hP hI hS => ?_)
                  have hP : mP G.1 (mu (mu (mu (mu Mw (g.1 0 0) (.inr (10, [.ref (g.1 1 0), .ref (g.1 2 0), .int (gS st 2), .int (gS st 3), .int (gS st 1), .int (gS st 0), .int 0]))) (g.1 0 0) (.inr (10, [.ref (g.1 1 0), .ref (g.1 2 0), .int (gS st 2), .int (gS st 3), .int (gS st 1), .int (gS st 0), .int 0]))) (g.1 0 0) (.inr (10, [.ref (g.1 1 0), .ref (g.1 2 0), .int ((gS st 2) - (((itS st (ix p0) 1) - (itS st (ix p0) 3)) + (vsum (boS st (tbN st (ix p0))) p2 20))), .int (gS st 3), .int (gS st 1), .int (gS st 0), .int 0]))) (g.1 7 (ix p0)) (.inr (8, [.ref (g.1 5 (tbN st (ix p0))), .int (itS st (ix p0) 1), .int (sof (itS st (ix p0) 2)), .int (itS st (ix p0) 3), .int (itS st (ix p0) 7), .int p1, .int (itS st (ix p0) 5), .int (itS st (ix p0) 12), .int (itS st (ix p0) 13), .int (itS st (ix p0) 14), .int (itS st (ix p0) 15), .int (itS st (ix p0) 8), .int (itS st (ix p0) 9), .int (itS st (ix p0) 10), .int (ceR g (ix p0)), .ref (g.1 8 (ix p0)), .ref (g.1 9 (ix p0))]))) H := hP
                  have hI : mI A (mu (mu (mu (mu Mw (g.1 0 0) (.inr (10, [.ref (g.1 1 0), .ref (g.1 2 0), .int (gS st 2), .int (gS st 3), .int (gS st 1), .int (gS st 0), .int 0]))) (g.1 0 0) (.inr (10, [.ref (g.1 1 0), .ref (g.1 2 0), .int (gS st 2), .int (gS st 3), .int (gS st 1), .int (gS st 0), .int 0]))) (g.1 0 0) (.inr (10, [.ref (g.1 1 0), .ref (g.1 2 0), .int ((gS st 2) - (((itS st (ix p0) 1) - (itS st (ix p0) 3)) + (vsum (boS st (tbN st (ix p0))) p2 20))), .int (gS st 3), .int (gS st 1), .int (gS st 0), .int 0]))) (g.1 7 (ix p0)) (.inr (8, [.ref (g.1 5 (tbN st (ix p0))), .int (itS st (ix p0) 1), .int (sof (itS st (ix p0) 2)), .int (itS st (ix p0) 3), .int (itS st (ix p0) 7), .int p1, .int (itS st (ix p0) 5), .int (itS st (ix p0) 12), .int (itS st (ix p0) 13), .int (itS st (ix p0) 14), .int (itS st (ix p0) 15), .int (itS st (ix p0) 8), .int (itS st (ix p0) 9), .int (itS st (ix p0) 10), .int (ceR g (ix p0)), .ref (g.1 8 (ix p0)), .ref (g.1 9 (ix p0))]))) := hI
                  have h_X := mu_k (e := .inr (8, [.ref (g.1 5 (tbN st (ix p0))), .int (itS st (ix p0) 1), .int (sof (itS st (ix p0) 2)), .int (itS st (ix p0) 3), .int (itS st (ix p0) 7), .int p1, .int (itS st (ix p0) 5), .int (itS st (ix p0) 12), .int (itS st (ix p0) 13), .int (itS st (ix p0) 14), .int (itS st (ix p0) 15), .int (itS st (ix p0) 8), .int (itS st (ix p0) 9), .int (itS st (ix p0) 10), .int (ceR g (ix p0)), .ref (g.1 8 (ix p0)), .ref (g.1 9 (ix p0))])) (kd_ne h_X h_I rfl) h_X
                  have h_TL := mu_k (e := .inr (8, [.ref (g.1 5 (tbN st (ix p0))), .int (itS st (ix p0) 1), .int (sof (itS st (ix p0) 2)), .int (itS st (ix p0) 3), .int (itS st (ix p0) 7), .int p1, .int (itS st (ix p0) 5), .int (itS st (ix p0) 12), .int (itS st (ix p0) 13), .int (itS st (ix p0) 14), .int (itS st (ix p0) 15), .int (itS st (ix p0) 8), .int (itS st (ix p0) 9), .int (itS st (ix p0) 10), .int (ceR g (ix p0)), .ref (g.1 8 (ix p0)), .ref (g.1 9 (ix p0))])) (kd_ne h_TL h_I rfl) h_TL
                  have h_IL := mu_k (e := .inr (8, [.ref (g.1 5 (tbN st (ix p0))), .int (itS st (ix p0) 1), .int (sof (itS st (ix p0) 2)), .int (itS st (ix p0) 3), .int (itS st (ix p0) 7), .int p1, .int (itS st (ix p0) 5), .int (itS st (ix p0) 12), .int (itS st (ix p0) 13), .int (itS st (ix p0) 14), .int (itS st (ix p0) 15), .int (itS st (ix p0) 8), .int (itS st (ix p0) 9), .int (itS st (ix p0) 10), .int (ceR g (ix p0)), .ref (g.1 8 (ix p0)), .ref (g.1 9 (ix p0))])) (kd_ne h_IL h_I rfl) h_IL
                  have h_ID := mu_k (e := .inr (8, [.ref (g.1 5 (tbN st (ix p0))), .int (itS st (ix p0) 1), .int (sof (itS st (ix p0) 2)), .int (itS st (ix p0) 3), .int (itS st (ix p0) 7), .int p1, .int (itS st (ix p0) 5), .int (itS st (ix p0) 12), .int (itS st (ix p0) 13), .int (itS st (ix p0) 14), .int (itS st (ix p0) 15), .int (itS st (ix p0) 8), .int (itS st (ix p0) 9), .int (itS st (ix p0) 10), .int (ceR g (ix p0)), .ref (g.1 8 (ix p0)), .ref (g.1 9 (ix p0))])) (kd_ne h_ID h_I rfl) h_ID
                  have h_T := mu_k (e := .inr (8, [.ref (g.1 5 (tbN st (ix p0))), .int (itS st (ix p0) 1), .int (sof (itS st (ix p0) 2)), .int (itS st (ix p0) 3), .int (itS st (ix p0) 7), .int p1, .int (itS st (ix p0) 5), .int (itS st (ix p0) 12), .int (itS st (ix p0) 13), .int (itS st (ix p0) 14), .int (itS st (ix p0) 15), .int (itS st (ix p0) 8), .int (itS st (ix p0) 9), .int (itS st (ix p0) 10), .int (ceR g (ix p0)), .ref (g.1 8 (ix p0)), .ref (g.1 9 (ix p0))])) (kd_ne h_T h_I rfl) h_T
                  have h_B := mu_k (e := .inr (8, [.ref (g.1 5 (tbN st (ix p0))), .int (itS st (ix p0) 1), .int (sof (itS st (ix p0) 2)), .int (itS st (ix p0) 3), .int (itS st (ix p0) 7), .int p1, .int (itS st (ix p0) 5), .int (itS st (ix p0) 12), .int (itS st (ix p0) 13), .int (itS st (ix p0) 14), .int (itS st (ix p0) 15), .int (itS st (ix p0) 8), .int (itS st (ix p0) 9), .int (itS st (ix p0) 10), .int (ceR g (ix p0)), .ref (g.1 8 (ix p0)), .ref (g.1 9 (ix p0))])) (kd_ne h_B h_I rfl) h_B
                  have h_I : (mu (mu (mu (mu Mw (g.1 0 0) (.inr (10, [.ref (g.1 1 0), .ref (g.1 2 0), .int (gS st 2), .int (gS st 3), .int (gS st 1), .int (gS st 0), .int 0]))) (g.1 0 0) (.inr (10, [.ref (g.1 1 0), .ref (g.1 2 0), .int (gS st 2), .int (gS st 3), .int (gS st 1), .int (gS st 0), .int 0]))) (g.1 0 0) (.inr (10, [.ref (g.1 1 0), .ref (g.1 2 0), .int ((gS st 2) - (((itS st (ix p0) 1) - (itS st (ix p0) 3)) + (vsum (boS st (tbN st (ix p0))) p2 20))), .int (gS st 3), .int (gS st 1), .int (gS st 0), .int 0]))) (g.1 7 (ix p0)) (.inr (8, [.ref (g.1 5 (tbN st (ix p0))), .int (itS st (ix p0) 1), .int (sof (itS st (ix p0) 2)), .int (itS st (ix p0) 3), .int (itS st (ix p0) 7), .int p1, .int (itS st (ix p0) 5), .int (itS st (ix p0) 12), .int (itS st (ix p0) 13), .int (itS st (ix p0) 14), .int (itS st (ix p0) 15), .int (itS st (ix p0) 8), .int (itS st (ix p0) 9), .int (itS st (ix p0) 10), .int (ceR g (ix p0)), .ref (g.1 8 (ix p0)), .ref (g.1 9 (ix p0))]))) (g.1 7 (ix p0)) = some (.inr (8, [.ref (g.1 5 (tbN st (ix p0))), .int (itS st (ix p0) 1), .int (sof (itS st (ix p0) 2)), .int (itS st (ix p0) 3), .int (itS st (ix p0) 7), .int p1, .int (itS st (ix p0) 5), .int (itS st (ix p0) 12), .int (itS st (ix p0) 13), .int (itS st (ix p0) 14), .int (itS st (ix p0) 15), .int (itS st (ix p0) 8), .int (itS st (ix p0) 9), .int (itS st (ix p0) 10), .int (ceR g (ix p0)), .ref (g.1 8 (ix p0)), .ref (g.1 9 (ix p0))])) := mu_s
                  refine lv_aload hx hb dX7_fill_158 (lv_at hl 1 rfl) ?_
                  refine lv_iload hx hb dX7_fill_160 (lv_at hl 0 rfl) ?_
                  refine m_putN (ci := 8) (v := .int (((itS st (ix p0) 1) - (itS st (ix p0) 3)) + (vsum (boS st (tbN st (ix p0))) p2 20))) (ty := .int) (C := RX5) (T := TX5) (N := 17) hx hb hts i_X5 tyX5 tyX5_ok nmX5 hown hK hP hI hS h_I rfl 4 (by decide) (va_Nw.use rfl (hG.2.1.2.1 ("MeniscusModel", 107, "MeniscusModel$Instrument", "inside", "I", "MeniscusModel") (by decide +kernel))) (fun _ h9 => h9) rfl (by decide +kernel) rfl rfl (Nat.le_of_ble_eq_true rfl) dX7_fill_162 (fun H locs hP hI hS => ?_)
                  have hP : mP G.1 (mu (mu (mu (mu (mu Mw (g.1 0 0) (.inr (10, [.ref (g.1 1 0), .ref (g.1 2 0), .int (gS st 2), .int (gS st 3), .int (gS st 1), .int (gS st 0), .int 0]))) (g.1 0 0) (.inr (10, [.ref (g.1 1 0), .ref (g.1 2 0), .int (gS st 2), .int (gS st 3), .int (gS st 1), .int (gS st 0), .int 0]))) (g.1 0 0) (.inr (10, [.ref (g.1 1 0), .ref (g.1 2 0), .int ((gS st 2) - (((itS st (ix p0) 1) - (itS st (ix p0) 3)) + (vsum (boS st (tbN st (ix p0))) p2 20))), .int (gS st 3), .int (gS st 1), .int (gS st 0), .int 0]))) (g.1 7 (ix p0)) (.inr (8, [.ref (g.1 5 (tbN st (ix p0))), .int (itS st (ix p0) 1), .int (sof (itS st (ix p0) 2)), .int (itS st (ix p0) 3), .int (itS st (ix p0) 7), .int p1, .int (itS st (ix p0) 5), .int (itS st (ix p0) 12), .int (itS st (ix p0) 13), .int (itS st (ix p0) 14), .int (itS st (ix p0) 15), .int (itS st (ix p0) 8), .int (itS st (ix p0) 9), .int (itS st (ix p0) 10), .int (ceR g (ix p0)), .ref (g.1 8 (ix p0)), .ref (g.1 9 (ix p0))]))) (g.1 7 (ix p0)) (.inr (8, [.ref (g.1 5 (tbN st (ix p0))), .int (itS st (ix p0) 1), .int (sof (itS st (ix p0) 2)), .int (itS st (ix p0) 3), .int (((itS st (ix p0) 1) - (itS st (ix p0) 3)) + (vsum (boS st (tbN st (ix p0))) p2 20)), .int p1, .int (itS st (ix p0) 5), .int (itS st (ix p0) 12), .int (itS st (ix p0) 13), .int (itS st (ix p0) 14), .int (itS st (ix p0) 15), .int (itS st (ix p0) 8), .int (itS st (ix p0) 9), .int (itS st (ix p0) 10), .int (ceR g (ix p0)), .ref (g.1 8 (ix p0)), .ref (g.1 9 (ix p0))]))) H := hP
                  have hI : mI A (mu (mu (mu (mu (mu Mw (g.1 0 0) (.inr (10, [.ref (g.1 1 0), .ref (g.1 2 0), .int (gS st 2), .int (gS st 3), .int (gS st 1), .int (gS st 0), .int 0]))) (g.1 0 0) (.inr (10, [.ref (g.1 1 0), .ref (g.1 2 0), .int (gS st 2), .int (gS st 3), .int (gS st 1), .int (gS st 0), .int 0]))) (g.1 0 0) (.inr (10, [.ref (g.1 1 0), .ref (g.1 2 0), .int ((gS st 2) - (((itS st (ix p0) 1) - (itS st (ix p0) 3)) + (vsum (boS st (tbN st (ix p0))) p2 20))), .int (gS st 3), .int (gS st 1), .int (gS st 0), .int 0]))) (g.1 7 (ix p0)) (.inr (8, [.ref (g.1 5 (tbN st (ix p0))), .int (itS st (ix p0) 1), .int (sof (itS st (ix p0) 2)), .int (itS st (ix p0) 3), .int (itS st (ix p0) 7), .int p1, .int (itS st (ix p0) 5), .int (itS st (ix p0) 12), .int (itS st (ix p0) 13), .int (itS st (ix p0) 14), .int (itS st (ix p0) 15), .int (itS st (ix p0) 8), .int (itS st (ix p0) 9), .int (itS st (ix p0) 10), .int (ceR g (ix p0)), .ref (g.1 8 (ix p0)), .ref (g.1 9 (ix p0))]))) (g.1 7 (ix p0)) (.inr (8, [.ref (g.1 5 (tbN st (ix p0))), .int (itS st (ix p0) 1), .int (sof (itS st (ix p0) 2)), .int (itS st (ix p0) 3), .int (((itS st (ix p0) 1) - (itS st (ix p0) 3)) + (vsum (boS st (tbN st (ix p0))) p2 20)), .int p1, .int (itS st (ix p0) 5), .int (itS st (ix p0) 12), .int (itS st (ix p0) 13), .int (itS st (ix p0) 14), .int (itS st (ix p0) 15), .int (itS st (ix p0) 8), .int (itS st (ix p0) 9), .int (itS st (ix p0) 10), .int (ceR g (ix p0)), .ref (g.1 8 (ix p0)), .ref (g.1 9 (ix p0))]))) := hI
                  have h_X := mu_k (e := .inr (8, [.ref (g.1 5 (tbN st (ix p0))), .int (itS st (ix p0) 1), .int (sof (itS st (ix p0) 2)), .int (itS st (ix p0) 3), .int (((itS st (ix p0) 1) - (itS st (ix p0) 3)) + (vsum (boS st (tbN st (ix p0))) p2 20)), .int p1, .int (itS st (ix p0) 5), .int (itS st (ix p0) 12), .int (itS st (ix p0) 13), .int (itS st (ix p0) 14), .int (itS st (ix p0) 15), .int (itS st (ix p0) 8), .int (itS st (ix p0) 9), .int (itS st (ix p0) 10), .int (ceR g (ix p0)), .ref (g.1 8 (ix p0)), .ref (g.1 9 (ix p0))])) (kd_ne h_X h_I rfl) h_X
                  have h_TL := mu_k (e := .inr (8, [.ref (g.1 5 (tbN st (ix p0))), .int (itS st (ix p0) 1), .int (sof (itS st (ix p0) 2)), .int (itS st (ix p0) 3), .int (((itS st (ix p0) 1) - (itS st (ix p0) 3)) + (vsum (boS st (tbN st (ix p0))) p2 20)), .int p1, .int (itS st (ix p0) 5), .int (itS st (ix p0) 12), .int (itS st (ix p0) 13), .int (itS st (ix p0) 14), .int (itS st (ix p0) 15), .int (itS st (ix p0) 8), .int (itS st (ix p0) 9), .int (itS st (ix p0) 10), .int (ceR g (ix p0)), .ref (g.1 8 (ix p0)), .ref (g.1 9 (ix p0))])) (kd_ne h_TL h_I rfl) h_TL
                  have h_IL := mu_k (e := .inr (8, [.ref (g.1 5 (tbN st (ix p0))), .int (itS st (ix p0) 1), .int (sof (itS st (ix p0) 2)), .int (itS st (ix p0) 3), .int (((itS st (ix p0) 1) - (itS st (ix p0) 3)) + (vsum (boS st (tbN st (ix p0))) p2 20)), .int p1, .int (itS st (ix p0) 5), .int (itS st (ix p0) 12), .int (itS st (ix p0) 13), .int (itS st (ix p0) 14), .int (itS st (ix p0) 15), .int (itS st (ix p0) 8), .int (itS st (ix p0) 9), .int (itS st (ix p0) 10), .int (ceR g (ix p0)), .ref (g.1 8 (ix p0)), .ref (g.1 9 (ix p0))])) (kd_ne h_IL h_I rfl) h_IL
                  have h_ID := mu_k (e := .inr (8, [.ref (g.1 5 (tbN st (ix p0))), .int (itS st (ix p0) 1), .int (sof (itS st (ix p0) 2)), .int (itS st (ix p0) 3), .int (((itS st (ix p0) 1) - (itS st (ix p0) 3)) + (vsum (boS st (tbN st (ix p0))) p2 20)), .int p1, .int (itS st (ix p0) 5), .int (itS st (ix p0) 12), .int (itS st (ix p0) 13), .int (itS st (ix p0) 14), .int (itS st (ix p0) 15), .int (itS st (ix p0) 8), .int (itS st (ix p0) 9), .int (itS st (ix p0) 10), .int (ceR g (ix p0)), .ref (g.1 8 (ix p0)), .ref (g.1 9 (ix p0))])) (kd_ne h_ID h_I rfl) h_ID
                  have h_T := mu_k (e := .inr (8, [.ref (g.1 5 (tbN st (ix p0))), .int (itS st (ix p0) 1), .int (sof (itS st (ix p0) 2)), .int (itS st (ix p0) 3), .int (((itS st (ix p0) 1) - (itS st (ix p0) 3)) + (vsum (boS st (tbN st (ix p0))) p2 20)), .int p1, .int (itS st (ix p0) 5), .int (itS st (ix p0) 12), .int (itS st (ix p0) 13), .int (itS st (ix p0) 14), .int (itS st (ix p0) 15), .int (itS st (ix p0) 8), .int (itS st (ix p0) 9), .int (itS st (ix p0) 10), .int (ceR g (ix p0)), .ref (g.1 8 (ix p0)), .ref (g.1 9 (ix p0))])) (kd_ne h_T h_I rfl) h_T
                  have h_B := mu_k (e := .inr (8, [.ref (g.1 5 (tbN st (ix p0))), .int (itS st (ix p0) 1), .int (sof (itS st (ix p0) 2)), .int (itS st (ix p0) 3), .int (((itS st (ix p0) 1) - (itS st (ix p0) 3)) + (vsum (boS st (tbN st (ix p0))) p2 20)), .int p1, .int (itS st (ix p0) 5), .int (itS st (ix p0) 12), .int (itS st (ix p0) 13), .int (itS st (ix p0) 14), .int (itS st (ix p0) 15), .int (itS st (ix p0) 8), .int (itS st (ix p0) 9), .int (itS st (ix p0) 10), .int (ceR g (ix p0)), .ref (g.1 8 (ix p0)), .ref (g.1 9 (ix p0))])) (kd_ne h_B h_I rfl) h_B
                  rw [mu_uu] at hP hI h_X h_TL h_IL h_ID h_T h_B
                  have h_I : (mu (mu (mu (mu Mw (g.1 0 0) (.inr (10, [.ref (g.1 1 0), .ref (g.1 2 0), .int (gS st 2), .int (gS st 3), .int (gS st 1), .int (gS st 0), .int 0]))) (g.1 0 0) (.inr (10, [.ref (g.1 1 0), .ref (g.1 2 0), .int (gS st 2), .int (gS st 3), .int (gS st 1), .int (gS st 0), .int 0]))) (g.1 0 0) (.inr (10, [.ref (g.1 1 0), .ref (g.1 2 0), .int ((gS st 2) - (((itS st (ix p0) 1) - (itS st (ix p0) 3)) + (vsum (boS st (tbN st (ix p0))) p2 20))), .int (gS st 3), .int (gS st 1), .int (gS st 0), .int 0]))) (g.1 7 (ix p0)) (.inr (8, [.ref (g.1 5 (tbN st (ix p0))), .int (itS st (ix p0) 1), .int (sof (itS st (ix p0) 2)), .int (itS st (ix p0) 3), .int (((itS st (ix p0) 1) - (itS st (ix p0) 3)) + (vsum (boS st (tbN st (ix p0))) p2 20)), .int p1, .int (itS st (ix p0) 5), .int (itS st (ix p0) 12), .int (itS st (ix p0) 13), .int (itS st (ix p0) 14), .int (itS st (ix p0) 15), .int (itS st (ix p0) 8), .int (itS st (ix p0) 9), .int (itS st (ix p0) 10), .int (ceR g (ix p0)), .ref (g.1 8 (ix p0)), .ref (g.1 9 (ix p0))]))) (g.1 7 (ix p0)) = some (.inr (8, [.ref (g.1 5 (tbN st (ix p0))), .int (itS st (ix p0) 1), .int (sof (itS st (ix p0) 2)), .int (itS st (ix p0) 3), .int (((itS st (ix p0) 1) - (itS st (ix p0) 3)) + (vsum (boS st (tbN st (ix p0))) p2 20)), .int p1, .int (itS st (ix p0) 5), .int (itS st (ix p0) 12), .int (itS st (ix p0) 13), .int (itS st (ix p0) 14), .int (itS st (ix p0) 15), .int (itS st (ix p0) 8), .int (itS st (ix p0) 9), .int (itS st (ix p0) 10), .int (ceR g (ix p0)), .ref (g.1 8 (ix p0)), .ref (g.1 9 (ix p0))])) := mu_s
                  refine lv_iload hx hb dX7_fill_165 (lv_at hl 0 rfl) ?_
                  refine W.widen (k := 0) (n := 0) (Nat.le_of_ble_eq_true rfl) (Nat.le_of_ble_eq_true rfl) ?_
                  exact W.iret (v := ((itS st (ix p0) 1) - (itS st (ix p0) 3)) + (vsum (boS st (tbN st (ix p0))) p2 20)) hx hb hr (fun t99 ht99 hW99 => ⟨⟨((itS st (ix p0) 1) - (itS st (ix p0) 3)) + (vsum (boS st (tbN st (ix p0))) p2 20), (mu (mu (mu (mu Mw (g.1 0 0) (.inr (10, [.ref (g.1 1 0), .ref (g.1 2 0), .int (gS st 2), .int (gS st 3), .int (gS st 1), .int (gS st 0), .int 0]))) (g.1 0 0) (.inr (10, [.ref (g.1 1 0), .ref (g.1 2 0), .int (gS st 2), .int (gS st 3), .int (gS st 1), .int (gS st 0), .int 0]))) (g.1 0 0) (.inr (10, [.ref (g.1 1 0), .ref (g.1 2 0), .int ((gS st 2) - (((itS st (ix p0) 1) - (itS st (ix p0) 3)) + (vsum (boS st (tbN st (ix p0))) p2 20))), .int (gS st 3), .int (gS st 1), .int (gS st 0), .int 0]))) (g.1 7 (ix p0)) (.inr (8, [.ref (g.1 5 (tbN st (ix p0))), .int (itS st (ix p0) 1), .int (sof (itS st (ix p0) 2)), .int (itS st (ix p0) 3), .int (((itS st (ix p0) 1) - (itS st (ix p0) 3)) + (vsum (boS st (tbN st (ix p0))) p2 20)), .int p1, .int (itS st (ix p0) 5), .int (itS st (ix p0) 12), .int (itS st (ix p0) 13), .int (itS st (ix p0) 14), .int (itS st (ix p0) 15), .int (itS st (ix p0) 8), .int (itS st (ix p0) 9), .int (itS st (ix p0) 10), .int (ceR g (ix p0)), .ref (g.1 8 (ix p0)), .ref (g.1 9 (ix p0))]))), rfl, RP.ok (by unfold m_fill; first | (rw [chk_p hi9, chk_p (show eith p1 109 115 from Or.inl c3), chk_p hq_r4, chk_p (fill_p hV hi9.2 c8), chk_p c10, chk_p ha9]; done) | (rw [chk_p hi9, chk_p (show eith p1 109 115 from Or.inl c3), chk_p hq_r4, chk_p (fill_p hV hi9.2 c8), chk_p c10, chk_p ha9]; rfl)) (hR.io hi9.2 (fu (gS st) 2 (if p1 = 109 then gS st 2 - amt st (ix p0) p2 else gS st 2)) (filG st (ix p0) p1 (amt st (ix p0) p2)) rfl (ceR g (ix p0)) 0 (h_X.trans (congrArg some (by first | (rw [show (if p1 = 109 then gS st 2 - amt st (ix p0) p2 else gS st 2) = gS st 2 - amt st (ix p0) p2 from if_pos c17]; done) | (rw [show (if p1 = 109 then gS st 2 - amt st (ix p0) p2 else gS st 2) = gS st 2 - amt st (ix p0) p2 from if_pos c17]; rfl)))) h_I (fun x9 e9 hx9 h0 h1 => ((mu_n h1).trans ((mu_n h0).trans ((mu_n h0).trans ((mu_n h0).trans (rfl))))).trans hx9) ((hR.2.2.2.2 _ hi9.2).2.1)) rfl rfl, by rw [ht99]; exact hP, hI⟩, hS.F ht99⟩) hS.2.2 dX7_fill_167
              · skip
                have ha9 : ¬ (p1 = 109 → amt st (ix p0) p2 ≤ gS st 2) := fun q9 => c15 (q9 c12)
                refine lv_iconst (v := 1) hx hb dX7_fill_117 (by decide) ?_
                refine lv_goto (tgt := 122) hx hb dX7_fill_118 (by decide) ?_
                refine lv_iconst (v := 3) hx hb dX7_fill_122 (by decide) ?_
                refine m_calli (va_runV (As := [.int 1, .int 3]) (rest := []) ⟨hx, hb, hml, hown, hts⟩ (c_X7_isThrown1 l G A (mu (mu Mw (g.1 0 0) (.inr (10, [.ref (g.1 1 0), .ref (g.1 2 0), .int (gS st 2), .int (gS st 3), .int (gS st 1), .int (gS st 0), .int 0]))) (g.1 0 0) (.inr (10, [.ref (g.1 1 0), .ref (g.1 2 0), .int (gS st 2), .int (gS st 3), .int (gS st 1), .int (gS st 0), .int 0])))  3 h_X) (cwV 2 hts gX7_fill_X7_isThrown rfl rfl rfl (by decide +kernel) ⟨Nat.le_of_ble_eq_true rfl, Nat.le_of_ble_eq_true rfl⟩) (mPreV hG hS hP hI hA (hP _ _ h_X) (r := (RX7, TX7, 7)) rfl) rfl rfl hl.1 rfl (lv_room (Nat.le_of_ble_eq_true rfl)) dX7_fill_123 ⟨Nat.le_of_ble_eq_true rfl, Nat.le_of_ble_eq_true rfl⟩) hS (fun r18 Mw1 H locs hp_r18 hP hI hS => ?_)
                obtain ⟨hp_r18, hm9⟩ := hp_r18
                subst Mw1
                subst hp_r18
                have h_TL := mu_k (e := .inr (10, [.ref (g.1 1 0), .ref (g.1 2 0), .int (gS st 2), .int (gS st 3), .int (gS st 1), .int (gS st 0), .int 3])) (kd_ne h_TL h_X rfl) h_TL
                have h_IL := mu_k (e := .inr (10, [.ref (g.1 1 0), .ref (g.1 2 0), .int (gS st 2), .int (gS st 3), .int (gS st 1), .int (gS st 0), .int 3])) (kd_ne h_IL h_X rfl) h_IL
                have h_ID := mu_k (e := .inr (10, [.ref (g.1 1 0), .ref (g.1 2 0), .int (gS st 2), .int (gS st 3), .int (gS st 1), .int (gS st 0), .int 3])) (kd_ne h_ID h_X rfl) h_ID
                have h_I := mu_k (e := .inr (10, [.ref (g.1 1 0), .ref (g.1 2 0), .int (gS st 2), .int (gS st 3), .int (gS st 1), .int (gS st 0), .int 3])) (kd_ne h_I h_X rfl) h_I
                have h_T := mu_k (e := .inr (10, [.ref (g.1 1 0), .ref (g.1 2 0), .int (gS st 2), .int (gS st 3), .int (gS st 1), .int (gS st 0), .int 3])) (kd_ne h_T h_X rfl) h_T
                have h_B := mu_k (e := .inr (10, [.ref (g.1 1 0), .ref (g.1 2 0), .int (gS st 2), .int (gS st 3), .int (gS st 1), .int (gS st 0), .int 3])) (kd_ne h_B h_X rfl) h_B
                have h_X : (mu (mu (mu Mw (g.1 0 0) (.inr (10, [.ref (g.1 1 0), .ref (g.1 2 0), .int (gS st 2), .int (gS st 3), .int (gS st 1), .int (gS st 0), .int 0]))) (g.1 0 0) (.inr (10, [.ref (g.1 1 0), .ref (g.1 2 0), .int (gS st 2), .int (gS st 3), .int (gS st 1), .int (gS st 0), .int 0]))) (g.1 0 0) (.inr (10, [.ref (g.1 1 0), .ref (g.1 2 0), .int (gS st 2), .int (gS st 3), .int (gS st 1), .int (gS st 0), .int 3]))) (g.1 0 0) = some (.inr (10, [.ref (g.1 1 0), .ref (g.1 2 0), .int (gS st 2), .int (gS st 3), .int (gS st 1), .int (gS st 0), .int 3])) := mu_s
                refine lv_if_eq (tgt := 131) hx hb dX7_fill_126 (by decide) (fun h9 => absurd h9 (by decide)) (fun _ => ?_)
                refine lv_iconst (v := 0) hx hb dX7_fill_129 (by decide) ?_
                refine W.widen (k := 0) (n := 0) (Nat.le_of_ble_eq_true rfl) (Nat.le_of_ble_eq_true rfl) ?_
                exact W.iret (v := 0) hx hb hr (fun t99 ht99 hW99 => ⟨⟨0, (mu (mu (mu Mw (g.1 0 0) (.inr (10, [.ref (g.1 1 0), .ref (g.1 2 0), .int (gS st 2), .int (gS st 3), .int (gS st 1), .int (gS st 0), .int 0]))) (g.1 0 0) (.inr (10, [.ref (g.1 1 0), .ref (g.1 2 0), .int (gS st 2), .int (gS st 3), .int (gS st 1), .int (gS st 0), .int 0]))) (g.1 0 0) (.inr (10, [.ref (g.1 1 0), .ref (g.1 2 0), .int (gS st 2), .int (gS st 3), .int (gS st 1), .int (gS st 0), .int 3]))), rfl, RP.no (k := 3) (by unfold m_fill; first | (rw [chk_p hi9, chk_p (show eith p1 109 115 from Or.inl c3), chk_p hq_r4, chk_p (fill_p hV hi9.2 c8), chk_p c10, chk_n ha9]; done) | (rw [chk_p hi9, chk_p (show eith p1 109 115 from Or.inl c3), chk_p hq_r4, chk_p (fill_p hV hi9.2 c8), chk_p c10, chk_n ha9]; rfl)) (by decide) (hR.th 3 h_X (fun x9 e9 hx9 h0 => ((mu_n h0).trans ((mu_n h0).trans ((mu_n h0).trans (rfl)))).trans hx9)) rfl rfl, by rw [ht99]; exact hP, hI⟩, hS.F ht99⟩) hS.2.2 dX7_fill_130
      · subst hr9
        refine lv_if_eq (tgt := 37) hx hb dX7_fill_30 (by decide) (fun h9 => absurd h9 (by decide)) (fun _ => ?_)
        refine lv_iconst (v := 1) hx hb dX7_fill_33 (by decide) ?_
        refine lv_goto (tgt := 38) hx hb dX7_fill_34 (by decide) ?_
        refine lv_iconst (v := 2) hx hb dX7_fill_38 (by decide) ?_
        refine m_calli (va_runV (As := [.int 1, .int 2]) (rest := []) ⟨hx, hb, hml, hown, hts⟩ (c_X7_isThrown1 l G A (mu Mw (g.1 0 0) (.inr (10, [.ref (g.1 1 0), .ref (g.1 2 0), .int (gS st 2), .int (gS st 3), .int (gS st 1), .int (gS st 0), .int 0])))  2 h_X) (cwV 2 hts gX7_fill_X7_isThrown rfl rfl rfl (by decide +kernel) ⟨Nat.le_of_ble_eq_true rfl, Nat.le_of_ble_eq_true rfl⟩) (mPreV hG hS hP hI hA (hP _ _ h_X) (r := (RX7, TX7, 7)) rfl) rfl rfl hl.1 rfl (lv_room (Nat.le_of_ble_eq_true rfl)) dX7_fill_39 ⟨Nat.le_of_ble_eq_true rfl, Nat.le_of_ble_eq_true rfl⟩) hS (fun r19 Mw1 H locs hp_r19 hP hI hS => ?_)
        obtain ⟨hp_r19, hm9⟩ := hp_r19
        subst Mw1
        subst hp_r19
        have h_TL := mu_k (e := .inr (10, [.ref (g.1 1 0), .ref (g.1 2 0), .int (gS st 2), .int (gS st 3), .int (gS st 1), .int (gS st 0), .int 2])) (kd_ne h_TL h_X rfl) h_TL
        have h_IL := mu_k (e := .inr (10, [.ref (g.1 1 0), .ref (g.1 2 0), .int (gS st 2), .int (gS st 3), .int (gS st 1), .int (gS st 0), .int 2])) (kd_ne h_IL h_X rfl) h_IL
        have h_ID := mu_k (e := .inr (10, [.ref (g.1 1 0), .ref (g.1 2 0), .int (gS st 2), .int (gS st 3), .int (gS st 1), .int (gS st 0), .int 2])) (kd_ne h_ID h_X rfl) h_ID
        have h_I := mu_k (e := .inr (10, [.ref (g.1 1 0), .ref (g.1 2 0), .int (gS st 2), .int (gS st 3), .int (gS st 1), .int (gS st 0), .int 2])) (kd_ne h_I h_X rfl) h_I
        have h_T := mu_k (e := .inr (10, [.ref (g.1 1 0), .ref (g.1 2 0), .int (gS st 2), .int (gS st 3), .int (gS st 1), .int (gS st 0), .int 2])) (kd_ne h_T h_X rfl) h_T
        have h_B := mu_k (e := .inr (10, [.ref (g.1 1 0), .ref (g.1 2 0), .int (gS st 2), .int (gS st 3), .int (gS st 1), .int (gS st 0), .int 2])) (kd_ne h_B h_X rfl) h_B
        have h_X : (mu (mu Mw (g.1 0 0) (.inr (10, [.ref (g.1 1 0), .ref (g.1 2 0), .int (gS st 2), .int (gS st 3), .int (gS st 1), .int (gS st 0), .int 0]))) (g.1 0 0) (.inr (10, [.ref (g.1 1 0), .ref (g.1 2 0), .int (gS st 2), .int (gS st 3), .int (gS st 1), .int (gS st 0), .int 2]))) (g.1 0 0) = some (.inr (10, [.ref (g.1 1 0), .ref (g.1 2 0), .int (gS st 2), .int (gS st 3), .int (gS st 1), .int (gS st 0), .int 2])) := mu_s
        refine lv_if_eq (tgt := 47) hx hb dX7_fill_42 (by decide) (fun h9 => absurd h9 (by decide)) (fun _ => ?_)
        refine lv_iconst (v := 0) hx hb dX7_fill_45 (by decide) ?_
        refine W.widen (k := 0) (n := 0) (Nat.le_of_ble_eq_true rfl) (Nat.le_of_ble_eq_true rfl) ?_
        exact W.iret (v := 0) hx hb hr (fun t99 ht99 hW99 => ⟨⟨0, (mu (mu Mw (g.1 0 0) (.inr (10, [.ref (g.1 1 0), .ref (g.1 2 0), .int (gS st 2), .int (gS st 3), .int (gS st 1), .int (gS st 0), .int 0]))) (g.1 0 0) (.inr (10, [.ref (g.1 1 0), .ref (g.1 2 0), .int (gS st 2), .int (gS st 3), .int (gS st 1), .int (gS st 0), .int 2]))), rfl, RP.no (k := 2) (by unfold m_fill; first | (rw [chk_p hi9, chk_p (show eith p1 109 115 from Or.inl c3), chk_n hq_r4]; done) | (rw [chk_p hi9, chk_p (show eith p1 109 115 from Or.inl c3), chk_n hq_r4]; rfl)) (by decide) (hR.th 2 h_X (fun x9 e9 hx9 h0 => ((mu_n h0).trans ((mu_n h0).trans (rfl))).trans hx9)) rfl rfl, by rw [ht99]; exact hP, hI⟩, hS.F ht99⟩) hS.2.2 dX7_fill_46
    · skip
      refine lv_iload_n hx hb dX7_fill_20 rfl (lv_at hl 2 rfl) ?_
      refine lv_bipush (v := (115)) hx hb dX7_fill_21 (by decide) ?_
      refine lv_icmp_ne (tgt := 33) hx hb dX7_fill_23 (by decide) (fun c20 => ?_) (fun c20 => ?_)
      · skip
        refine lv_iconst (v := 1) hx hb dX7_fill_33 (by decide) ?_
        refine lv_goto (tgt := 38) hx hb dX7_fill_34 (by decide) ?_
        refine lv_iconst (v := 2) hx hb dX7_fill_38 (by decide) ?_
        refine m_calli (va_runV (As := [.int 1, .int 2]) (rest := []) ⟨hx, hb, hml, hown, hts⟩ (c_X7_isThrown1 l G A (mu Mw (g.1 0 0) (.inr (10, [.ref (g.1 1 0), .ref (g.1 2 0), .int (gS st 2), .int (gS st 3), .int (gS st 1), .int (gS st 0), .int 0])))  2 h_X) (cwV 2 hts gX7_fill_X7_isThrown rfl rfl rfl (by decide +kernel) ⟨Nat.le_of_ble_eq_true rfl, Nat.le_of_ble_eq_true rfl⟩) (mPreV hG hS hP hI hA (hP _ _ h_X) (r := (RX7, TX7, 7)) rfl) rfl rfl hl.1 rfl (lv_room (Nat.le_of_ble_eq_true rfl)) dX7_fill_39 ⟨Nat.le_of_ble_eq_true rfl, Nat.le_of_ble_eq_true rfl⟩) hS (fun r21 Mw1 H locs hp_r21 hP hI hS => ?_)
        obtain ⟨hp_r21, hm9⟩ := hp_r21
        subst Mw1
        subst hp_r21
        have h_TL := mu_k (e := .inr (10, [.ref (g.1 1 0), .ref (g.1 2 0), .int (gS st 2), .int (gS st 3), .int (gS st 1), .int (gS st 0), .int 2])) (kd_ne h_TL h_X rfl) h_TL
        have h_IL := mu_k (e := .inr (10, [.ref (g.1 1 0), .ref (g.1 2 0), .int (gS st 2), .int (gS st 3), .int (gS st 1), .int (gS st 0), .int 2])) (kd_ne h_IL h_X rfl) h_IL
        have h_ID := mu_k (e := .inr (10, [.ref (g.1 1 0), .ref (g.1 2 0), .int (gS st 2), .int (gS st 3), .int (gS st 1), .int (gS st 0), .int 2])) (kd_ne h_ID h_X rfl) h_ID
        have h_I := mu_k (e := .inr (10, [.ref (g.1 1 0), .ref (g.1 2 0), .int (gS st 2), .int (gS st 3), .int (gS st 1), .int (gS st 0), .int 2])) (kd_ne h_I h_X rfl) h_I
        have h_T := mu_k (e := .inr (10, [.ref (g.1 1 0), .ref (g.1 2 0), .int (gS st 2), .int (gS st 3), .int (gS st 1), .int (gS st 0), .int 2])) (kd_ne h_T h_X rfl) h_T
        have h_B := mu_k (e := .inr (10, [.ref (g.1 1 0), .ref (g.1 2 0), .int (gS st 2), .int (gS st 3), .int (gS st 1), .int (gS st 0), .int 2])) (kd_ne h_B h_X rfl) h_B
        have h_X : (mu (mu Mw (g.1 0 0) (.inr (10, [.ref (g.1 1 0), .ref (g.1 2 0), .int (gS st 2), .int (gS st 3), .int (gS st 1), .int (gS st 0), .int 0]))) (g.1 0 0) (.inr (10, [.ref (g.1 1 0), .ref (g.1 2 0), .int (gS st 2), .int (gS st 3), .int (gS st 1), .int (gS st 0), .int 2]))) (g.1 0 0) = some (.inr (10, [.ref (g.1 1 0), .ref (g.1 2 0), .int (gS st 2), .int (gS st 3), .int (gS st 1), .int (gS st 0), .int 2])) := mu_s
        refine lv_if_eq (tgt := 47) hx hb dX7_fill_42 (by decide) (fun h9 => absurd h9 (by decide)) (fun _ => ?_)
        refine lv_iconst (v := 0) hx hb dX7_fill_45 (by decide) ?_
        refine W.widen (k := 0) (n := 0) (Nat.le_of_ble_eq_true rfl) (Nat.le_of_ble_eq_true rfl) ?_
        exact W.iret (v := 0) hx hb hr (fun t99 ht99 hW99 => ⟨⟨0, (mu (mu Mw (g.1 0 0) (.inr (10, [.ref (g.1 1 0), .ref (g.1 2 0), .int (gS st 2), .int (gS st 3), .int (gS st 1), .int (gS st 0), .int 0]))) (g.1 0 0) (.inr (10, [.ref (g.1 1 0), .ref (g.1 2 0), .int (gS st 2), .int (gS st 3), .int (gS st 1), .int (gS st 0), .int 2]))), rfl, RP.no (k := 2) (by unfold m_fill; first | (rw [chk_p hi9, chk_n (show ¬ eith p1 109 115 from fun q9 => q9.elim c3 c20)]; done) | (rw [chk_p hi9, chk_n (show ¬ eith p1 109 115 from fun q9 => q9.elim c3 c20)]; rfl)) (by decide) (hR.th 2 h_X (fun x9 e9 hx9 h0 => ((mu_n h0).trans ((mu_n h0).trans (rfl))).trans hx9)) rfl rfl, by rw [ht99]; exact hP, hI⟩, hS.F ht99⟩) hS.2.2 dX7_fill_46
      · skip
        refine lv_iload_n hx hb dX7_fill_26 rfl (lv_at hl 3 rfl) ?_
        refine m_calli (va_runS (As := [.int p2]) (rest := [.ref (g.1 0 0)]) ⟨hx, hb, hml, hown, hts⟩ (c_X7_isNoPlace l G A (mu Mw (g.1 0 0) (.inr (10, [.ref (g.1 1 0), .ref (g.1 2 0), .int (gS st 2), .int (gS st 3), .int (gS st 1), .int (gS st 0), .int 0])))  p2) (va_cwS 1 hts gX7_fill_X7_isNoPlace rfl rfl rfl (by decide +kernel) ⟨Nat.le_of_ble_eq_true rfl, Nat.le_of_ble_eq_true rfl⟩) (mPreS hG hS hP hI hA) rfl rfl hl.1 rfl (lv_room (Nat.le_of_ble_eq_true rfl)) dX7_fill_27 ⟨Nat.le_of_ble_eq_true rfl, Nat.le_of_ble_eq_true rfl⟩) hS (fun r22 Mw1 H locs hp_r22 hP hI hS => ?_)
        obtain ⟨hb9, hm9⟩ := hp_r22
        subst Mw1
        rcases hb9 with ⟨hr9, hq_r22⟩ | ⟨hr9, hq_r22⟩
        · subst hr9
          have e_p2 : p2 = nI (ix p2) := nI_cl hq_r22.1
          rw [e_p2] at hl
          have hk_p2 := rg200 hq_r22
          have hv_p2 := hq_r22
          refine lv_if_eq (tgt := 37) hx hb dX7_fill_30 (by decide) (fun _ => ?_) (fun h9 => absurd h9 (by decide))
          refine lv_iconst (v := 0) hx hb dX7_fill_37 (by decide) ?_
          refine lv_iconst (v := 2) hx hb dX7_fill_38 (by decide) ?_
          refine m_calli (va_runV (As := [.int 0, .int 2]) (rest := []) ⟨hx, hb, hml, hown, hts⟩ (c_X7_isThrown0 l G A (mu Mw (g.1 0 0) (.inr (10, [.ref (g.1 1 0), .ref (g.1 2 0), .int (gS st 2), .int (gS st 3), .int (gS st 1), .int (gS st 0), .int 0])))  2 h_X) (cwV 2 hts gX7_fill_X7_isThrown rfl rfl rfl (by decide +kernel) ⟨Nat.le_of_ble_eq_true rfl, Nat.le_of_ble_eq_true rfl⟩) (mPreV hG hS hP hI hA (hP _ _ h_X) (r := (RX7, TX7, 7)) rfl) rfl rfl hl.1 rfl (lv_room (Nat.le_of_ble_eq_true rfl)) dX7_fill_39 ⟨Nat.le_of_ble_eq_true rfl, Nat.le_of_ble_eq_true rfl⟩) hS (fun r23 Mw1 H locs hp_r23 hP hI hS => ?_)
          obtain ⟨hp_r23, hm9⟩ := hp_r23
          subst Mw1
          subst hp_r23
          have h_TL := mu_k (e := .inr (10, [.ref (g.1 1 0), .ref (g.1 2 0), .int (gS st 2), .int (gS st 3), .int (gS st 1), .int (gS st 0), .int 0])) (kd_ne h_TL h_X rfl) h_TL
          have h_IL := mu_k (e := .inr (10, [.ref (g.1 1 0), .ref (g.1 2 0), .int (gS st 2), .int (gS st 3), .int (gS st 1), .int (gS st 0), .int 0])) (kd_ne h_IL h_X rfl) h_IL
          have h_ID := mu_k (e := .inr (10, [.ref (g.1 1 0), .ref (g.1 2 0), .int (gS st 2), .int (gS st 3), .int (gS st 1), .int (gS st 0), .int 0])) (kd_ne h_ID h_X rfl) h_ID
          have h_I := mu_k (e := .inr (10, [.ref (g.1 1 0), .ref (g.1 2 0), .int (gS st 2), .int (gS st 3), .int (gS st 1), .int (gS st 0), .int 0])) (kd_ne h_I h_X rfl) h_I
          have h_T := mu_k (e := .inr (10, [.ref (g.1 1 0), .ref (g.1 2 0), .int (gS st 2), .int (gS st 3), .int (gS st 1), .int (gS st 0), .int 0])) (kd_ne h_T h_X rfl) h_T
          have h_B := mu_k (e := .inr (10, [.ref (g.1 1 0), .ref (g.1 2 0), .int (gS st 2), .int (gS st 3), .int (gS st 1), .int (gS st 0), .int 0])) (kd_ne h_B h_X rfl) h_B
          have h_X : (mu (mu Mw (g.1 0 0) (.inr (10, [.ref (g.1 1 0), .ref (g.1 2 0), .int (gS st 2), .int (gS st 3), .int (gS st 1), .int (gS st 0), .int 0]))) (g.1 0 0) (.inr (10, [.ref (g.1 1 0), .ref (g.1 2 0), .int (gS st 2), .int (gS st 3), .int (gS st 1), .int (gS st 0), .int 0]))) (g.1 0 0) = some (.inr (10, [.ref (g.1 1 0), .ref (g.1 2 0), .int (gS st 2), .int (gS st 3), .int (gS st 1), .int (gS st 0), .int 0])) := mu_s
          refine lv_if_eq (tgt := 47) hx hb dX7_fill_42 (by decide) (fun _ => ?_) (fun h9 => absurd h9 (by decide))
          refine lv_aload_n hx hb dX7_fill_47 rfl (lv_at hl 0 rfl) ?_
          refine m_get (ci := 10) (v := .ref (g.1 2 0)) (C := RX7) (T := TX7) (N := 7) hx hb hts i_X7 hown hK (hP _ _ h_X) rfl 1 (by decide) (hts (.fieldLink RX7 16 "MeniscusModel" "instruments" "Ljava/util/ArrayList;") (by decide +kernel)) (fun _ h9 => h9) rfl dX7_fill_48 ?_
          refine lv_iload_n hx hb dX7_fill_51 rfl (lv_at hl 1 rfl) ?_
          refine m_callq (va_runV (As := [.int (nI (ix p0))]) (rest := []) ⟨hx, hb, hml, hown, hts⟩ (c_Jx4a65c_get_915e3 l G A (mu (mu Mw (g.1 0 0) (.inr (10, [.ref (g.1 1 0), .ref (g.1 2 0), .int (gS st 2), .int (gS st 3), .int (gS st 1), .int (gS st 0), .int 0]))) (g.1 0 0) (.inr (10, [.ref (g.1 1 0), .ref (g.1 2 0), .int (gS st 2), .int (gS st 3), .int (gS st 1), .int (gS st 0), .int 0])))  h_IL h_ID (ix p0) (g.1 7 (ix p0)) hi9.2 hnN8 (qf_p hi9.2)) (cwV 1 hts gX7_fill_Jx4a65c_get_915e3 rfl rfl rfl (by decide +kernel) ⟨Nat.le_of_ble_eq_true rfl, Nat.le_of_ble_eq_true rfl⟩) (mPreV hG hS hP hI hA (hP _ _ h_IL) (r := (RJx4a65c, TJx4a65c, 3)) rfl) rfl rfl hl.1 rfl (lv_room (Nat.le_of_ble_eq_true rfl)) dX7_fill_52 ⟨Nat.le_of_ble_eq_true rfl, Nat.le_of_ble_eq_true rfl⟩) hS (fun r24 Mw1 H locs hp_r24 hP hI hS => ?_)
          obtain ⟨hp_r24, hm9⟩ := hp_r24
          subst Mw1
          subst hp_r24
          refine va_castE hx hb hown (hts (.classLink RX7 79 RX5) (by decide +kernel)) (va_recv hK (va_at.one (hP _ _ h_I)) (q0 := 0) (q := (RX5, TX5, 17)) rfl rfl) dX7_fill_55 ?_
          refine lv_astore (lv' := [(4, .ref (g.1 7 (ix p0))), (0, .ref (g.1 0 0)), (1, .int (nI (ix p0))), (2, .int p1), (3, .int (nI (ix p2)))]) hx hb dX7_fill_58 hl (by decide) rfl (fun ls hl => ?_)
          refine lv_aload hx hb dX7_fill_60 (lv_at hl 0 rfl) ?_
          refine m_getN (ci := 8) (v := .int (itS st (ix p0) 1)) (C := RX5) (T := TX5) (N := 17) hx hb hts i_X5 hown hK (hP _ _ h_I) rfl 1 (by decide) (va_Nw.use rfl (hG.2.1.2.1 ("MeniscusModel", 90, "MeniscusModel$Instrument", "bulb", "I", "MeniscusModel") (by decide +kernel))) (fun _ h9 => h9) rfl dX7_fill_62 ?_
          refine lv_aload hx hb dX7_fill_65 (lv_at hl 0 rfl) ?_
          refine m_getN (ci := 8) (v := .int (itS st (ix p0) 3)) (C := RX5) (T := TX5) (N := 17) hx hb hts i_X5 hown hK (hP _ _ h_I) rfl 3 (by decide) (va_Nw.use rfl (hG.2.1.2.1 ("MeniscusModel", 93, "MeniscusModel$Instrument", "crept", "I", "MeniscusModel") (by decide +kernel))) (fun _ h9 => h9) rfl dX7_fill_67 ?_
          refine lv_isub hx hb dX7_fill_70 ?_
          refine lv_aload hx hb dX7_fill_71 (lv_at hl 0 rfl) ?_
          refine m_getN (ci := 8) (v := .ref (g.1 5 (tbN st (ix p0)))) (C := RX5) (T := TX5) (N := 17) hx hb hts i_X5 hown hK (hP _ _ h_I) rfl 0 (by decide) (va_Nw.use rfl (hG.2.1.2.1 ("MeniscusModel", 96, "MeniscusModel$Instrument", "tube", "LMeniscusModel$Tube;", "MeniscusModel") (by decide +kernel))) (fun _ h9 => h9) rfl dX7_fill_73 ?_
          refine lv_iload_n hx hb dX7_fill_76 rfl (lv_at hl 4 rfl) ?_
          refine m_calli (va_runV (As := [.int (nI (ix p2))]) (rest := [.int ((itS st (ix p0) 1) - (itS st (ix p0) 3))]) ⟨hx, hb, hml, hown, hts⟩ (c_X6_volume l G A (mu (mu Mw (g.1 0 0) (.inr (10, [.ref (g.1 1 0), .ref (g.1 2 0), .int (gS st 2), .int (gS st 3), .int (gS st 1), .int (gS st 0), .int 0]))) (g.1 0 0) (.inr (10, [.ref (g.1 1 0), .ref (g.1 2 0), .int (gS st 2), .int (gS st 3), .int (gS st 1), .int (gS st 0), .int 0])))  (ix p2) hk_p2 h_T h_B) (cwV 1 hts gX7_fill_X6_volume rfl rfl rfl (by decide +kernel) ⟨Nat.le_of_ble_eq_true rfl, Nat.le_of_ble_eq_true rfl⟩) (mPreV hG hS hP hI hA (hP _ _ h_T) (r := (RX6, TX6, 2)) rfl) rfl rfl hl.1 rfl (lv_room (Nat.le_of_ble_eq_true rfl)) dX7_fill_77 ⟨Nat.le_of_ble_eq_true rfl, Nat.le_of_ble_eq_true rfl⟩) hS (fun r25 Mw1 H locs hp_r25 hP hI hS => ?_)
          obtain ⟨hp_r25, hm9⟩ := hp_r25
          subst Mw1
          rw [← vs_i _ hv_p2] at hp_r25
          subst hp_r25
          refine lv_iadd hx hb dX7_fill_80 ?_
          refine lv_istore (lv' := [(5, .int (((itS st (ix p0) 1) - (itS st (ix p0) 3)) + (vsum (boS st (tbN st (ix p0))) p2 20))), (4, .ref (g.1 7 (ix p0))), (0, .ref (g.1 0 0)), (1, .int (nI (ix p0))), (2, .int p1), (3, .int (nI (ix p2)))]) hx hb dX7_fill_81 hl (by decide) rfl (fun ls hl => ?_)
          refine lv_aload_n hx hb dX7_fill_83 rfl (lv_at hl 2 rfl) ?_
          refine lv_aload hx hb dX7_fill_84 (lv_at hl 1 rfl) ?_
          refine m_getN (ci := 8) (v := .int (itS st (ix p0) 6)) (C := RX5) (T := TX5) (N := 17) hx hb hts i_X5 hown hK (hP _ _ h_I) rfl 5 (by decide) (va_Nw.use rfl (hG.2.1.2.1 ("MeniscusModel", 100, "MeniscusModel$Instrument", "liquid", "C", "MeniscusModel") (by decide +kernel))) (fun _ h9 => h9) rfl dX7_fill_86 ?_
          refine lv_bipush (v := (32)) hx hb dX7_fill_89 (by decide) ?_
          refine lv_icmp_ne (tgt := 117) hx hb dX7_fill_91 (by decide) (fun c26 => ?_) (fun c26 => ?_)
          · skip
            refine lv_iconst (v := 1) hx hb dX7_fill_117 (by decide) ?_
            refine lv_goto (tgt := 122) hx hb dX7_fill_118 (by decide) ?_
            refine lv_iconst (v := 3) hx hb dX7_fill_122 (by decide) ?_
            refine m_calli (va_runV (As := [.int 1, .int 3]) (rest := []) ⟨hx, hb, hml, hown, hts⟩ (c_X7_isThrown1 l G A (mu (mu Mw (g.1 0 0) (.inr (10, [.ref (g.1 1 0), .ref (g.1 2 0), .int (gS st 2), .int (gS st 3), .int (gS st 1), .int (gS st 0), .int 0]))) (g.1 0 0) (.inr (10, [.ref (g.1 1 0), .ref (g.1 2 0), .int (gS st 2), .int (gS st 3), .int (gS st 1), .int (gS st 0), .int 0])))  3 h_X) (cwV 2 hts gX7_fill_X7_isThrown rfl rfl rfl (by decide +kernel) ⟨Nat.le_of_ble_eq_true rfl, Nat.le_of_ble_eq_true rfl⟩) (mPreV hG hS hP hI hA (hP _ _ h_X) (r := (RX7, TX7, 7)) rfl) rfl rfl hl.1 rfl (lv_room (Nat.le_of_ble_eq_true rfl)) dX7_fill_123 ⟨Nat.le_of_ble_eq_true rfl, Nat.le_of_ble_eq_true rfl⟩) hS (fun r27 Mw1 H locs hp_r27 hP hI hS => ?_)
            obtain ⟨hp_r27, hm9⟩ := hp_r27
            subst Mw1
            subst hp_r27
            have h_TL := mu_k (e := .inr (10, [.ref (g.1 1 0), .ref (g.1 2 0), .int (gS st 2), .int (gS st 3), .int (gS st 1), .int (gS st 0), .int 3])) (kd_ne h_TL h_X rfl) h_TL
            have h_IL := mu_k (e := .inr (10, [.ref (g.1 1 0), .ref (g.1 2 0), .int (gS st 2), .int (gS st 3), .int (gS st 1), .int (gS st 0), .int 3])) (kd_ne h_IL h_X rfl) h_IL
            have h_ID := mu_k (e := .inr (10, [.ref (g.1 1 0), .ref (g.1 2 0), .int (gS st 2), .int (gS st 3), .int (gS st 1), .int (gS st 0), .int 3])) (kd_ne h_ID h_X rfl) h_ID
            have h_I := mu_k (e := .inr (10, [.ref (g.1 1 0), .ref (g.1 2 0), .int (gS st 2), .int (gS st 3), .int (gS st 1), .int (gS st 0), .int 3])) (kd_ne h_I h_X rfl) h_I
            have h_T := mu_k (e := .inr (10, [.ref (g.1 1 0), .ref (g.1 2 0), .int (gS st 2), .int (gS st 3), .int (gS st 1), .int (gS st 0), .int 3])) (kd_ne h_T h_X rfl) h_T
            have h_B := mu_k (e := .inr (10, [.ref (g.1 1 0), .ref (g.1 2 0), .int (gS st 2), .int (gS st 3), .int (gS st 1), .int (gS st 0), .int 3])) (kd_ne h_B h_X rfl) h_B
            have h_X : (mu (mu (mu Mw (g.1 0 0) (.inr (10, [.ref (g.1 1 0), .ref (g.1 2 0), .int (gS st 2), .int (gS st 3), .int (gS st 1), .int (gS st 0), .int 0]))) (g.1 0 0) (.inr (10, [.ref (g.1 1 0), .ref (g.1 2 0), .int (gS st 2), .int (gS st 3), .int (gS st 1), .int (gS st 0), .int 0]))) (g.1 0 0) (.inr (10, [.ref (g.1 1 0), .ref (g.1 2 0), .int (gS st 2), .int (gS st 3), .int (gS st 1), .int (gS st 0), .int 3]))) (g.1 0 0) = some (.inr (10, [.ref (g.1 1 0), .ref (g.1 2 0), .int (gS st 2), .int (gS st 3), .int (gS st 1), .int (gS st 0), .int 3])) := mu_s
            refine lv_if_eq (tgt := 131) hx hb dX7_fill_126 (by decide) (fun h9 => absurd h9 (by decide)) (fun _ => ?_)
            refine lv_iconst (v := 0) hx hb dX7_fill_129 (by decide) ?_
            refine W.widen (k := 0) (n := 0) (Nat.le_of_ble_eq_true rfl) (Nat.le_of_ble_eq_true rfl) ?_
            exact W.iret (v := 0) hx hb hr (fun t99 ht99 hW99 => ⟨⟨0, (mu (mu (mu Mw (g.1 0 0) (.inr (10, [.ref (g.1 1 0), .ref (g.1 2 0), .int (gS st 2), .int (gS st 3), .int (gS st 1), .int (gS st 0), .int 0]))) (g.1 0 0) (.inr (10, [.ref (g.1 1 0), .ref (g.1 2 0), .int (gS st 2), .int (gS st 3), .int (gS st 1), .int (gS st 0), .int 0]))) (g.1 0 0) (.inr (10, [.ref (g.1 1 0), .ref (g.1 2 0), .int (gS st 2), .int (gS st 3), .int (gS st 1), .int (gS st 0), .int 3]))), rfl, RP.no (k := 3) (by unfold m_fill; first | (rw [chk_p hi9, chk_p (show eith p1 109 115 from Or.inr c20), chk_p hq_r22, fill_n hV hi9.2 (Or.inl c26)]; done) | (rw [chk_p hi9, chk_p (show eith p1 109 115 from Or.inr c20), chk_p hq_r22, fill_n hV hi9.2 (Or.inl c26)]; rfl)) (by decide) (hR.th 3 h_X (fun x9 e9 hx9 h0 => ((mu_n h0).trans ((mu_n h0).trans ((mu_n h0).trans (rfl)))).trans hx9)) rfl rfl, by rw [ht99]; exact hP, hI⟩, hS.F ht99⟩) hS.2.2 dX7_fill_130
          · skip
            refine lv_aload hx hb dX7_fill_94 (lv_at hl 1 rfl) ?_
            refine m_getN (ci := 8) (v := .int (itS st (ix p0) 5)) (C := RX5) (T := TX5) (N := 17) hx hb hts i_X5 hown hK (hP _ _ h_I) rfl 6 (by decide) (va_Nw.use rfl (hG.2.1.2.1 ("MeniscusModel", 104, "MeniscusModel$Instrument", "isSmashed", "Z", "MeniscusModel") (by decide +kernel))) (fun _ h9 => h9) rfl dX7_fill_96 ?_
            refine lv_if_ne (tgt := 117) hx hb dX7_fill_99 (by decide) (fun c28 => ?_) (fun c28 => ?_)
            · skip
              refine lv_iconst (v := 1) hx hb dX7_fill_117 (by decide) ?_
              refine lv_goto (tgt := 122) hx hb dX7_fill_118 (by decide) ?_
              refine lv_iconst (v := 3) hx hb dX7_fill_122 (by decide) ?_
              refine m_calli (va_runV (As := [.int 1, .int 3]) (rest := []) ⟨hx, hb, hml, hown, hts⟩ (c_X7_isThrown1 l G A (mu (mu Mw (g.1 0 0) (.inr (10, [.ref (g.1 1 0), .ref (g.1 2 0), .int (gS st 2), .int (gS st 3), .int (gS st 1), .int (gS st 0), .int 0]))) (g.1 0 0) (.inr (10, [.ref (g.1 1 0), .ref (g.1 2 0), .int (gS st 2), .int (gS st 3), .int (gS st 1), .int (gS st 0), .int 0])))  3 h_X) (cwV 2 hts gX7_fill_X7_isThrown rfl rfl rfl (by decide +kernel) ⟨Nat.le_of_ble_eq_true rfl, Nat.le_of_ble_eq_true rfl⟩) (mPreV hG hS hP hI hA (hP _ _ h_X) (r := (RX7, TX7, 7)) rfl) rfl rfl hl.1 rfl (lv_room (Nat.le_of_ble_eq_true rfl)) dX7_fill_123 ⟨Nat.le_of_ble_eq_true rfl, Nat.le_of_ble_eq_true rfl⟩) hS (fun r29 Mw1 H locs hp_r29 hP hI hS => ?_)
              obtain ⟨hp_r29, hm9⟩ := hp_r29
              subst Mw1
              subst hp_r29
              have h_TL := mu_k (e := .inr (10, [.ref (g.1 1 0), .ref (g.1 2 0), .int (gS st 2), .int (gS st 3), .int (gS st 1), .int (gS st 0), .int 3])) (kd_ne h_TL h_X rfl) h_TL
              have h_IL := mu_k (e := .inr (10, [.ref (g.1 1 0), .ref (g.1 2 0), .int (gS st 2), .int (gS st 3), .int (gS st 1), .int (gS st 0), .int 3])) (kd_ne h_IL h_X rfl) h_IL
              have h_ID := mu_k (e := .inr (10, [.ref (g.1 1 0), .ref (g.1 2 0), .int (gS st 2), .int (gS st 3), .int (gS st 1), .int (gS st 0), .int 3])) (kd_ne h_ID h_X rfl) h_ID
              have h_I := mu_k (e := .inr (10, [.ref (g.1 1 0), .ref (g.1 2 0), .int (gS st 2), .int (gS st 3), .int (gS st 1), .int (gS st 0), .int 3])) (kd_ne h_I h_X rfl) h_I
              have h_T := mu_k (e := .inr (10, [.ref (g.1 1 0), .ref (g.1 2 0), .int (gS st 2), .int (gS st 3), .int (gS st 1), .int (gS st 0), .int 3])) (kd_ne h_T h_X rfl) h_T
              have h_B := mu_k (e := .inr (10, [.ref (g.1 1 0), .ref (g.1 2 0), .int (gS st 2), .int (gS st 3), .int (gS st 1), .int (gS st 0), .int 3])) (kd_ne h_B h_X rfl) h_B
              have h_X : (mu (mu (mu Mw (g.1 0 0) (.inr (10, [.ref (g.1 1 0), .ref (g.1 2 0), .int (gS st 2), .int (gS st 3), .int (gS st 1), .int (gS st 0), .int 0]))) (g.1 0 0) (.inr (10, [.ref (g.1 1 0), .ref (g.1 2 0), .int (gS st 2), .int (gS st 3), .int (gS st 1), .int (gS st 0), .int 0]))) (g.1 0 0) (.inr (10, [.ref (g.1 1 0), .ref (g.1 2 0), .int (gS st 2), .int (gS st 3), .int (gS st 1), .int (gS st 0), .int 3]))) (g.1 0 0) = some (.inr (10, [.ref (g.1 1 0), .ref (g.1 2 0), .int (gS st 2), .int (gS st 3), .int (gS st 1), .int (gS st 0), .int 3])) := mu_s
              refine lv_if_eq (tgt := 131) hx hb dX7_fill_126 (by decide) (fun h9 => absurd h9 (by decide)) (fun _ => ?_)
              refine lv_iconst (v := 0) hx hb dX7_fill_129 (by decide) ?_
              refine W.widen (k := 0) (n := 0) (Nat.le_of_ble_eq_true rfl) (Nat.le_of_ble_eq_true rfl) ?_
              exact W.iret (v := 0) hx hb hr (fun t99 ht99 hW99 => ⟨⟨0, (mu (mu (mu Mw (g.1 0 0) (.inr (10, [.ref (g.1 1 0), .ref (g.1 2 0), .int (gS st 2), .int (gS st 3), .int (gS st 1), .int (gS st 0), .int 0]))) (g.1 0 0) (.inr (10, [.ref (g.1 1 0), .ref (g.1 2 0), .int (gS st 2), .int (gS st 3), .int (gS st 1), .int (gS st 0), .int 0]))) (g.1 0 0) (.inr (10, [.ref (g.1 1 0), .ref (g.1 2 0), .int (gS st 2), .int (gS st 3), .int (gS st 1), .int (gS st 0), .int 3]))), rfl, RP.no (k := 3) (by unfold m_fill; first | (rw [chk_p hi9, chk_p (show eith p1 109 115 from Or.inr c20), chk_p hq_r22, fill_n hV hi9.2 (Or.inr c28)]; done) | (rw [chk_p hi9, chk_p (show eith p1 109 115 from Or.inr c20), chk_p hq_r22, fill_n hV hi9.2 (Or.inr c28)]; rfl)) (by decide) (hR.th 3 h_X (fun x9 e9 hx9 h0 => ((mu_n h0).trans ((mu_n h0).trans ((mu_n h0).trans (rfl)))).trans hx9)) rfl rfl, by rw [ht99]; exact hP, hI⟩, hS.F ht99⟩) hS.2.2 dX7_fill_130
            · skip
              refine lv_iload_n hx hb dX7_fill_102 rfl (lv_at hl 4 rfl) ?_
              refine lv_bipush (v := (109)) hx hb dX7_fill_103 (by decide) ?_
              refine lv_icmp_ne (tgt := 121) hx hb dX7_fill_105 (by decide) (fun c30 => ?_) (fun c30 => ?_)
              · skip
                have ha9 : p1 = 109 → amt st (ix p0) p2 ≤ gS st 2 := fun q9 => absurd q9 c30
                refine lv_iconst (v := 0) hx hb dX7_fill_121 (by decide) ?_
                refine lv_iconst (v := 3) hx hb dX7_fill_122 (by decide) ?_
                refine m_calli (va_runV (As := [.int 0, .int 3]) (rest := []) ⟨hx, hb, hml, hown, hts⟩ (c_X7_isThrown0 l G A (mu (mu Mw (g.1 0 0) (.inr (10, [.ref (g.1 1 0), .ref (g.1 2 0), .int (gS st 2), .int (gS st 3), .int (gS st 1), .int (gS st 0), .int 0]))) (g.1 0 0) (.inr (10, [.ref (g.1 1 0), .ref (g.1 2 0), .int (gS st 2), .int (gS st 3), .int (gS st 1), .int (gS st 0), .int 0])))  3 h_X) (cwV 2 hts gX7_fill_X7_isThrown rfl rfl rfl (by decide +kernel) ⟨Nat.le_of_ble_eq_true rfl, Nat.le_of_ble_eq_true rfl⟩) (mPreV hG hS hP hI hA (hP _ _ h_X) (r := (RX7, TX7, 7)) rfl) rfl rfl hl.1 rfl (lv_room (Nat.le_of_ble_eq_true rfl)) dX7_fill_123 ⟨Nat.le_of_ble_eq_true rfl, Nat.le_of_ble_eq_true rfl⟩) hS (fun r31 Mw1 H locs hp_r31 hP hI hS => ?_)
                obtain ⟨hp_r31, hm9⟩ := hp_r31
                subst Mw1
                subst hp_r31
                have h_TL := mu_k (e := .inr (10, [.ref (g.1 1 0), .ref (g.1 2 0), .int (gS st 2), .int (gS st 3), .int (gS st 1), .int (gS st 0), .int 0])) (kd_ne h_TL h_X rfl) h_TL
                have h_IL := mu_k (e := .inr (10, [.ref (g.1 1 0), .ref (g.1 2 0), .int (gS st 2), .int (gS st 3), .int (gS st 1), .int (gS st 0), .int 0])) (kd_ne h_IL h_X rfl) h_IL
                have h_ID := mu_k (e := .inr (10, [.ref (g.1 1 0), .ref (g.1 2 0), .int (gS st 2), .int (gS st 3), .int (gS st 1), .int (gS st 0), .int 0])) (kd_ne h_ID h_X rfl) h_ID
                have h_I := mu_k (e := .inr (10, [.ref (g.1 1 0), .ref (g.1 2 0), .int (gS st 2), .int (gS st 3), .int (gS st 1), .int (gS st 0), .int 0])) (kd_ne h_I h_X rfl) h_I
                have h_T := mu_k (e := .inr (10, [.ref (g.1 1 0), .ref (g.1 2 0), .int (gS st 2), .int (gS st 3), .int (gS st 1), .int (gS st 0), .int 0])) (kd_ne h_T h_X rfl) h_T
                have h_B := mu_k (e := .inr (10, [.ref (g.1 1 0), .ref (g.1 2 0), .int (gS st 2), .int (gS st 3), .int (gS st 1), .int (gS st 0), .int 0])) (kd_ne h_B h_X rfl) h_B
                have h_X : (mu (mu (mu Mw (g.1 0 0) (.inr (10, [.ref (g.1 1 0), .ref (g.1 2 0), .int (gS st 2), .int (gS st 3), .int (gS st 1), .int (gS st 0), .int 0]))) (g.1 0 0) (.inr (10, [.ref (g.1 1 0), .ref (g.1 2 0), .int (gS st 2), .int (gS st 3), .int (gS st 1), .int (gS st 0), .int 0]))) (g.1 0 0) (.inr (10, [.ref (g.1 1 0), .ref (g.1 2 0), .int (gS st 2), .int (gS st 3), .int (gS st 1), .int (gS st 0), .int 0]))) (g.1 0 0) = some (.inr (10, [.ref (g.1 1 0), .ref (g.1 2 0), .int (gS st 2), .int (gS st 3), .int (gS st 1), .int (gS st 0), .int 0])) := mu_s
                refine lv_if_eq (tgt := 131) hx hb dX7_fill_126 (by decide) (fun _ => ?_) (fun h9 => absurd h9 (by decide))
                refine lv_aload_n hx hb dX7_fill_131 rfl (lv_at hl 2 rfl) ?_
                refine lv_dup hx hb dX7_fill_132 rfl ?_
                refine m_get (ci := 10) (v := .int (gS st 2)) (C := RX7) (T := TX7) (N := 7) hx hb hts i_X7 hown hK (hP _ _ h_X) rfl 2 (by decide) (hts (.fieldLink RX7 84 "MeniscusModel" "stock" "I") (by decide +kernel)) (fun _ h9 => h9) rfl dX7_fill_133 ?_
                refine lv_iload_n hx hb dX7_fill_136 rfl (lv_at hl 4 rfl) ?_
                refine lv_bipush (v := (109)) hx hb dX7_fill_137 (by decide) ?_
                refine lv_icmp_ne (tgt := 147) hx hb dX7_fill_139 (by decide) (fun c32 => ?_) (fun c32 => ?_)
                · skip
                  refine lv_iconst (v := 0) hx hb dX7_fill_147 (by decide) ?_
                  refine lv_isub hx hb dX7_fill_148 ?_
                  refine m_put (ci := 10) (v := .int ((gS st 2) - 0)) (ty := .int) (C := RX7) (T := TX7) (N := 7) hx hb hts i_X7 tyX7 tyX7_ok nmX7 hown hK hP hI hS h_X rfl 2 (by decide) (hts (.fieldLink RX7 84 "MeniscusModel" "stock" "I") (by decide +kernel)) (fun _ h9 => h9) rfl (by decide +kernel) rfl rfl (Nat.le_of_ble_eq_true rfl) dX7_fill_149 (fun H locs hP hI hS => ?_)
                  have hP : mP G.1 (mu (mu (mu (mu Mw (g.1 0 0) (.inr (10, [.ref (g.1 1 0), .ref (g.1 2 0), .int (gS st 2), .int (gS st 3), .int (gS st 1), .int (gS st 0), .int 0]))) (g.1 0 0) (.inr (10, [.ref (g.1 1 0), .ref (g.1 2 0), .int (gS st 2), .int (gS st 3), .int (gS st 1), .int (gS st 0), .int 0]))) (g.1 0 0) (.inr (10, [.ref (g.1 1 0), .ref (g.1 2 0), .int (gS st 2), .int (gS st 3), .int (gS st 1), .int (gS st 0), .int 0]))) (g.1 0 0) (.inr (10, [.ref (g.1 1 0), .ref (g.1 2 0), .int ((gS st 2) - 0), .int (gS st 3), .int (gS st 1), .int (gS st 0), .int 0]))) H := hP
                  have hI : mI A (mu (mu (mu (mu Mw (g.1 0 0) (.inr (10, [.ref (g.1 1 0), .ref (g.1 2 0), .int (gS st 2), .int (gS st 3), .int (gS st 1), .int (gS st 0), .int 0]))) (g.1 0 0) (.inr (10, [.ref (g.1 1 0), .ref (g.1 2 0), .int (gS st 2), .int (gS st 3), .int (gS st 1), .int (gS st 0), .int 0]))) (g.1 0 0) (.inr (10, [.ref (g.1 1 0), .ref (g.1 2 0), .int (gS st 2), .int (gS st 3), .int (gS st 1), .int (gS st 0), .int 0]))) (g.1 0 0) (.inr (10, [.ref (g.1 1 0), .ref (g.1 2 0), .int ((gS st 2) - 0), .int (gS st 3), .int (gS st 1), .int (gS st 0), .int 0]))) := hI
                  have h_TL := mu_k (e := .inr (10, [.ref (g.1 1 0), .ref (g.1 2 0), .int ((gS st 2) - 0), .int (gS st 3), .int (gS st 1), .int (gS st 0), .int 0])) (kd_ne h_TL h_X rfl) h_TL
                  have h_IL := mu_k (e := .inr (10, [.ref (g.1 1 0), .ref (g.1 2 0), .int ((gS st 2) - 0), .int (gS st 3), .int (gS st 1), .int (gS st 0), .int 0])) (kd_ne h_IL h_X rfl) h_IL
                  have h_ID := mu_k (e := .inr (10, [.ref (g.1 1 0), .ref (g.1 2 0), .int ((gS st 2) - 0), .int (gS st 3), .int (gS st 1), .int (gS st 0), .int 0])) (kd_ne h_ID h_X rfl) h_ID
                  have h_I := mu_k (e := .inr (10, [.ref (g.1 1 0), .ref (g.1 2 0), .int ((gS st 2) - 0), .int (gS st 3), .int (gS st 1), .int (gS st 0), .int 0])) (kd_ne h_I h_X rfl) h_I
                  have h_T := mu_k (e := .inr (10, [.ref (g.1 1 0), .ref (g.1 2 0), .int ((gS st 2) - 0), .int (gS st 3), .int (gS st 1), .int (gS st 0), .int 0])) (kd_ne h_T h_X rfl) h_T
                  have h_B := mu_k (e := .inr (10, [.ref (g.1 1 0), .ref (g.1 2 0), .int ((gS st 2) - 0), .int (gS st 3), .int (gS st 1), .int (gS st 0), .int 0])) (kd_ne h_B h_X rfl) h_B
                  rw [mu_uu] at hP hI h_TL h_IL h_ID h_I h_T h_B
                  have h_X : (mu (mu (mu Mw (g.1 0 0) (.inr (10, [.ref (g.1 1 0), .ref (g.1 2 0), .int (gS st 2), .int (gS st 3), .int (gS st 1), .int (gS st 0), .int 0]))) (g.1 0 0) (.inr (10, [.ref (g.1 1 0), .ref (g.1 2 0), .int (gS st 2), .int (gS st 3), .int (gS st 1), .int (gS st 0), .int 0]))) (g.1 0 0) (.inr (10, [.ref (g.1 1 0), .ref (g.1 2 0), .int ((gS st 2) - 0), .int (gS st 3), .int (gS st 1), .int (gS st 0), .int 0]))) (g.1 0 0) = some (.inr (10, [.ref (g.1 1 0), .ref (g.1 2 0), .int ((gS st 2) - 0), .int (gS st 3), .int (gS st 1), .int (gS st 0), .int 0])) := mu_s
                  refine lv_aload hx hb dX7_fill_152 (lv_at hl 1 rfl) ?_
                  refine lv_iload_n hx hb dX7_fill_154 rfl (lv_at hl 4 rfl) ?_
                  refine m_putN (ci := 8) (v := .int p1) (ty := .char) (C := RX5) (T := TX5) (N := 17) hx hb hts i_X5 tyX5 tyX5_ok nmX5 hown hK hP hI hS h_I rfl 5 (by decide) (va_Nw.use rfl (hG.2.1.2.1 ("MeniscusModel", 100, "MeniscusModel$Instrument", "liquid", "C", "MeniscusModel") (by decide +kernel))) (fun _ h9 => h9) rfl (by decide +kernel) (nch (show eith p1 109 115 from Or.inr c20) ⟨rfl, rfl⟩ ⟨rfl, rfl⟩).1 (nch (show eith p1 109 115 from Or.inr c20) ⟨rfl, rfl⟩ ⟨rfl, rfl⟩).2 (Nat.le_of_ble_eq_true rfl) dX7_fill_155 (fun H locs hP hI hS => ?_)
                  have hP : mP G.1 (mu (mu (mu (mu Mw (g.1 0 0) (.inr (10, [.ref (g.1 1 0), .ref (g.1 2 0), .int (gS st 2), .int (gS st 3), .int (gS st 1), .int (gS st 0), .int 0]))) (g.1 0 0) (.inr (10, [.ref (g.1 1 0), .ref (g.1 2 0), .int (gS st 2), .int (gS st 3), .int (gS st 1), .int (gS st 0), .int 0]))) (g.1 0 0) (.inr (10, [.ref (g.1 1 0), .ref (g.1 2 0), .int ((gS st 2) - 0), .int (gS st 3), .int (gS st 1), .int (gS st 0), .int 0]))) (g.1 7 (ix p0)) (.inr (8, [.ref (g.1 5 (tbN st (ix p0))), .int (itS st (ix p0) 1), .int (sof (itS st (ix p0) 2)), .int (itS st (ix p0) 3), .int (itS st (ix p0) 7), .int p1, .int (itS st (ix p0) 5), .int (itS st (ix p0) 12), .int (itS st (ix p0) 13), .int (itS st (ix p0) 14), .int (itS st (ix p0) 15), .int (itS st (ix p0) 8), .int (itS st (ix p0) 9), .int (itS st (ix p0) 10), .int (ceR g (ix p0)), .ref (g.1 8 (ix p0)), .ref (g.1 9 (ix p0))]))) H := hP
                  have hI : mI A (mu (mu (mu (mu Mw (g.1 0 0) (.inr (10, [.ref (g.1 1 0), .ref (g.1 2 0), .int (gS st 2), .int (gS st 3), .int (gS st 1), .int (gS st 0), .int 0]))) (g.1 0 0) (.inr (10, [.ref (g.1 1 0), .ref (g.1 2 0), .int (gS st 2), .int (gS st 3), .int (gS st 1), .int (gS st 0), .int 0]))) (g.1 0 0) (.inr (10, [.ref (g.1 1 0), .ref (g.1 2 0), .int ((gS st 2) - 0), .int (gS st 3), .int (gS st 1), .int (gS st 0), .int 0]))) (g.1 7 (ix p0)) (.inr (8, [.ref (g.1 5 (tbN st (ix p0))), .int (itS st (ix p0) 1), .int (sof (itS st (ix p0) 2)), .int (itS st (ix p0) 3), .int (itS st (ix p0) 7), .int p1, .int (itS st (ix p0) 5), .int (itS st (ix p0) 12), .int (itS st (ix p0) 13), .int (itS st (ix p0) 14), .int (itS st (ix p0) 15), .int (itS st (ix p0) 8), .int (itS st (ix p0) 9), .int (itS st (ix p0) 10), .int (ceR g (ix p0)), .ref (g.1 8 (ix p0)), .ref (g.1 9 (ix p0))]))) := hI
                  have h_X := mu_k (e := .inr (8, [.ref (g.1 5 (tbN st (ix p0))), .int (itS st (ix p0) 1), .int (sof (itS st (ix p0) 2)), .int (itS st (ix p0) 3), .int (itS st (ix p0) 7), .int p1, .int (itS st (ix p0) 5), .int (itS st (ix p0) 12), .int (itS st (ix p0) 13), .int (itS st (ix p0) 14), .int (itS st (ix p0) 15), .int (itS st (ix p0) 8), .int (itS st (ix p0) 9), .int (itS st (ix p0) 10), .int (ceR g (ix p0)), .ref (g.1 8 (ix p0)), .ref (g.1 9 (ix p0))])) (kd_ne h_X h_I rfl) h_X
                  have h_TL := mu_k (e := .inr (8, [.ref (g.1 5 (tbN st (ix p0))), .int (itS st (ix p0) 1), .int (sof (itS st (ix p0) 2)), .int (itS st (ix p0) 3), .int (itS st (ix p0) 7), .int p1, .int (itS st (ix p0) 5), .int (itS st (ix p0) 12), .int (itS st (ix p0) 13), .int (itS st (ix p0) 14), .int (itS st (ix p0) 15), .int (itS st (ix p0) 8), .int (itS st (ix p0) 9), .int (itS st (ix p0) 10), .int (ceR g (ix p0)), .ref (g.1 8 (ix p0)), .ref (g.1 9 (ix p0))])) (kd_ne h_TL h_I rfl) h_TL
                  have h_IL := mu_k (e := .inr (8, [.ref (g.1 5 (tbN st (ix p0))), .int (itS st (ix p0) 1), .int (sof (itS st (ix p0) 2)), .int (itS st (ix p0) 3), .int (itS st (ix p0) 7), .int p1, .int (itS st (ix p0) 5), .int (itS st (ix p0) 12), .int (itS st (ix p0) 13), .int (itS st (ix p0) 14), .int (itS st (ix p0) 15), .int (itS st (ix p0) 8), .int (itS st (ix p0) 9), .int (itS st (ix p0) 10), .int (ceR g (ix p0)), .ref (g.1 8 (ix p0)), .ref (g.1 9 (ix p0))])) (kd_ne h_IL h_I rfl) h_IL
                  have h_ID := mu_k (e := .inr (8, [.ref (g.1 5 (tbN st (ix p0))), .int (itS st (ix p0) 1), .int (sof (itS st (ix p0) 2)), .int (itS st (ix p0) 3), .int (itS st (ix p0) 7), .int p1, .int (itS st (ix p0) 5), .int (itS st (ix p0) 12), .int (itS st (ix p0) 13), .int (itS st (ix p0) 14), .int (itS st (ix p0) 15), .int (itS st (ix p0) 8), .int (itS st (ix p0) 9), .int (itS st (ix p0) 10), .int (ceR g (ix p0)), .ref (g.1 8 (ix p0)), .ref (g.1 9 (ix p0))])) (kd_ne h_ID h_I rfl) h_ID
                  have h_T := mu_k (e := .inr (8, [.ref (g.1 5 (tbN st (ix p0))), .int (itS st (ix p0) 1), .int (sof (itS st (ix p0) 2)), .int (itS st (ix p0) 3), .int (itS st (ix p0) 7), .int p1, .int (itS st (ix p0) 5), .int (itS st (ix p0) 12), .int (itS st (ix p0) 13), .int (itS st (ix p0) 14), .int (itS st (ix p0) 15), .int (itS st (ix p0) 8), .int (itS st (ix p0) 9), .int (itS st (ix p0) 10), .int (ceR g (ix p0)), .ref (g.1 8 (ix p0)), .ref (g.1 9 (ix p0))])) (kd_ne h_T h_I rfl) h_T
                  have h_B := mu_k (e := .inr (8, [.ref (g.1 5 (tbN st (ix p0))), .int (itS st (ix p0) 1), .int (sof (itS st (ix p0) 2)), .int (itS st (ix p0) 3), .int (itS st (ix p0) 7), .int p1, .int (itS st (ix p0) 5), .int (itS st (ix p0) 12), .int (itS st (ix p0) 13), .int (itS st (ix p0) 14), .int (itS st (ix p0) 15), .int (itS st (ix p0) 8), .int (itS st (ix p0) 9), .int (itS st (ix p0) 10), .int (ceR g (ix p0)), .ref (g.1 8 (ix p0)), .ref (g.1 9 (ix p0))])) (kd_ne h_B h_I rfl) h_B
                  have h_I : (mu (mu (mu (mu Mw (g.1 0 0) (.inr (10, [.ref (g.1 1 0), .ref (g.1 2 0), .int (gS st 2), .int (gS st 3), .int (gS st 1), .int (gS st 0), .int 0]))) (g.1 0 0) (.inr (10, [.ref (g.1 1 0), .ref (g.1 2 0), .int (gS st 2), .int (gS st 3), .int (gS st 1), .int (gS st 0), .int 0]))) (g.1 0 0) (.inr (10, [.ref (g.1 1 0), .ref (g.1 2 0), .int ((gS st 2) - 0), .int (gS st 3), .int (gS st 1), .int (gS st 0), .int 0]))) (g.1 7 (ix p0)) (.inr (8, [.ref (g.1 5 (tbN st (ix p0))), .int (itS st (ix p0) 1), .int (sof (itS st (ix p0) 2)), .int (itS st (ix p0) 3), .int (itS st (ix p0) 7), .int p1, .int (itS st (ix p0) 5), .int (itS st (ix p0) 12), .int (itS st (ix p0) 13), .int (itS st (ix p0) 14), .int (itS st (ix p0) 15), .int (itS st (ix p0) 8), .int (itS st (ix p0) 9), .int (itS st (ix p0) 10), .int (ceR g (ix p0)), .ref (g.1 8 (ix p0)), .ref (g.1 9 (ix p0))]))) (g.1 7 (ix p0)) = some (.inr (8, [.ref (g.1 5 (tbN st (ix p0))), .int (itS st (ix p0) 1), .int (sof (itS st (ix p0) 2)), .int (itS st (ix p0) 3), .int (itS st (ix p0) 7), .int p1, .int (itS st (ix p0) 5), .int (itS st (ix p0) 12), .int (itS st (ix p0) 13), .int (itS st (ix p0) 14), .int (itS st (ix p0) 15), .int (itS st (ix p0) 8), .int (itS st (ix p0) 9), .int (itS st (ix p0) 10), .int (ceR g (ix p0)), .ref (g.1 8 (ix p0)), .ref (g.1 9 (ix p0))])) := mu_s
                  refine lv_aload hx hb dX7_fill_158 (lv_at hl 1 rfl) ?_
                  refine lv_iload hx hb dX7_fill_160 (lv_at hl 0 rfl) ?_
                  refine m_putN (ci := 8) (v := .int (((itS st (ix p0) 1) - (itS st (ix p0) 3)) + (vsum (boS st (tbN st (ix p0))) p2 20))) (ty := .int) (C := RX5) (T := TX5) (N := 17) hx hb hts i_X5 tyX5 tyX5_ok nmX5 hown hK hP hI hS h_I rfl 4 (by decide) (va_Nw.use rfl (hG.2.1.2.1 ("MeniscusModel", 107, "MeniscusModel$Instrument", "inside", "I", "MeniscusModel") (by decide +kernel))) (fun _ h9 => h9) rfl (by decide +kernel) rfl rfl (Nat.le_of_ble_eq_true rfl) dX7_fill_162 (fun H locs hP hI hS => ?_)
                  have hP : mP G.1 (mu (mu (mu (mu (mu Mw (g.1 0 0) (.inr (10, [.ref (g.1 1 0), .ref (g.1 2 0), .int (gS st 2), .int (gS st 3), .int (gS st 1), .int (gS st 0), .int 0]))) (g.1 0 0) (.inr (10, [.ref (g.1 1 0), .ref (g.1 2 0), .int (gS st 2), .int (gS st 3), .int (gS st 1), .int (gS st 0), .int 0]))) (g.1 0 0) (.inr (10, [.ref (g.1 1 0), .ref (g.1 2 0), .int ((gS st 2) - 0), .int (gS st 3), .int (gS st 1), .int (gS st 0), .int 0]))) (g.1 7 (ix p0)) (.inr (8, [.ref (g.1 5 (tbN st (ix p0))), .int (itS st (ix p0) 1), .int (sof (itS st (ix p0) 2)), .int (itS st (ix p0) 3), .int (itS st (ix p0) 7), .int p1, .int (itS st (ix p0) 5), .int (itS st (ix p0) 12), .int (itS st (ix p0) 13), .int (itS st (ix p0) 14), .int (itS st (ix p0) 15), .int (itS st (ix p0) 8), .int (itS st (ix p0) 9), .int (itS st (ix p0) 10), .int (ceR g (ix p0)), .ref (g.1 8 (ix p0)), .ref (g.1 9 (ix p0))]))) (g.1 7 (ix p0)) (.inr (8, [.ref (g.1 5 (tbN st (ix p0))), .int (itS st (ix p0) 1), .int (sof (itS st (ix p0) 2)), .int (itS st (ix p0) 3), .int (((itS st (ix p0) 1) - (itS st (ix p0) 3)) + (vsum (boS st (tbN st (ix p0))) p2 20)), .int p1, .int (itS st (ix p0) 5), .int (itS st (ix p0) 12), .int (itS st (ix p0) 13), .int (itS st (ix p0) 14), .int (itS st (ix p0) 15), .int (itS st (ix p0) 8), .int (itS st (ix p0) 9), .int (itS st (ix p0) 10), .int (ceR g (ix p0)), .ref (g.1 8 (ix p0)), .ref (g.1 9 (ix p0))]))) H := hP
                  have hI : mI A (mu (mu (mu (mu (mu Mw (g.1 0 0) (.inr (10, [.ref (g.1 1 0), .ref (g.1 2 0), .int (gS st 2), .int (gS st 3), .int (gS st 1), .int (gS st 0), .int 0]))) (g.1 0 0) (.inr (10, [.ref (g.1 1 0), .ref (g.1 2 0), .int (gS st 2), .int (gS st 3), .int (gS st 1), .int (gS st 0), .int 0]))) (g.1 0 0) (.inr (10, [.ref (g.1 1 0), .ref (g.1 2 0), .int ((gS st 2) - 0), .int (gS st 3), .int (gS st 1), .int (gS st 0), .int 0]))) (g.1 7 (ix p0)) (.inr (8, [.ref (g.1 5 (tbN st (ix p0))), .int (itS st (ix p0) 1), .int (sof (itS st (ix p0) 2)), .int (itS st (ix p0) 3), .int (itS st (ix p0) 7), .int p1, .int (itS st (ix p0) 5), .int (itS st (ix p0) 12), .int (itS st (ix p0) 13), .int (itS st (ix p0) 14), .int (itS st (ix p0) 15), .int (itS st (ix p0) 8), .int (itS st (ix p0) 9), .int (itS st (ix p0) 10), .int (ceR g (ix p0)), .ref (g.1 8 (ix p0)), .ref (g.1 9 (ix p0))]))) (g.1 7 (ix p0)) (.inr (8, [.ref (g.1 5 (tbN st (ix p0))), .int (itS st (ix p0) 1), .int (sof (itS st (ix p0) 2)), .int (itS st (ix p0) 3), .int (((itS st (ix p0) 1) - (itS st (ix p0) 3)) + (vsum (boS st (tbN st (ix p0))) p2 20)), .int p1, .int (itS st (ix p0) 5), .int (itS st (ix p0) 12), .int (itS st (ix p0) 13), .int (itS st (ix p0) 14), .int (itS st (ix p0) 15), .int (itS st (ix p0) 8), .int (itS st (ix p0) 9), .int (itS st (ix p0) 10), .int (ceR g (ix p0)), .ref (g.1 8 (ix p0)), .ref (g.1 9 (ix p0))]))) := hI
                  have h_X := mu_k (e := .inr (8, [.ref (g.1 5 (tbN st (ix p0))), .int (itS st (ix p0) 1), .int (sof (itS st (ix p0) 2)), .int (itS st (ix p0) 3), .int (((itS st (ix p0) 1) - (itS st (ix p0) 3)) + (vsum (boS st (tbN st (ix p0))) p2 20)), .int p1, .int (itS st (ix p0) 5), .int (itS st (ix p0) 12), .int (itS st (ix p0) 13), .int (itS st (ix p0) 14), .int (itS st (ix p0) 15), .int (itS st (ix p0) 8), .int (itS st (ix p0) 9), .int (itS st (ix p0) 10), .int (ceR g (ix p0)), .ref (g.1 8 (ix p0)), .ref (g.1 9 (ix p0))])) (kd_ne h_X h_I rfl) h_X
                  have h_TL := mu_k (e := .inr (8, [.ref (g.1 5 (tbN st (ix p0))), .int (itS st (ix p0) 1), .int (sof (itS st (ix p0) 2)), .int (itS st (ix p0) 3), .int (((itS st (ix p0) 1) - (itS st (ix p0) 3)) + (vsum (boS st (tbN st (ix p0))) p2 20)), .int p1, .int (itS st (ix p0) 5), .int (itS st (ix p0) 12), .int (itS st (ix p0) 13), .int (itS st (ix p0) 14), .int (itS st (ix p0) 15), .int (itS st (ix p0) 8), .int (itS st (ix p0) 9), .int (itS st (ix p0) 10), .int (ceR g (ix p0)), .ref (g.1 8 (ix p0)), .ref (g.1 9 (ix p0))])) (kd_ne h_TL h_I rfl) h_TL
                  have h_IL := mu_k (e := .inr (8, [.ref (g.1 5 (tbN st (ix p0))), .int (itS st (ix p0) 1), .int (sof (itS st (ix p0) 2)), .int (itS st (ix p0) 3), .int (((itS st (ix p0) 1) - (itS st (ix p0) 3)) + (vsum (boS st (tbN st (ix p0))) p2 20)), .int p1, .int (itS st (ix p0) 5), .int (itS st (ix p0) 12), .int (itS st (ix p0) 13), .int (itS st (ix p0) 14), .int (itS st (ix p0) 15), .int (itS st (ix p0) 8), .int (itS st (ix p0) 9), .int (itS st (ix p0) 10), .int (ceR g (ix p0)), .ref (g.1 8 (ix p0)), .ref (g.1 9 (ix p0))])) (kd_ne h_IL h_I rfl) h_IL
                  have h_ID := mu_k (e := .inr (8, [.ref (g.1 5 (tbN st (ix p0))), .int (itS st (ix p0) 1), .int (sof (itS st (ix p0) 2)), .int (itS st (ix p0) 3), .int (((itS st (ix p0) 1) - (itS st (ix p0) 3)) + (vsum (boS st (tbN st (ix p0))) p2 20)), .int p1, .int (itS st (ix p0) 5), .int (itS st (ix p0) 12), .int (itS st (ix p0) 13), .int (itS st (ix p0) 14), .int (itS st (ix p0) 15), .int (itS st (ix p0) 8), .int (itS st (ix p0) 9), .int (itS st (ix p0) 10), .int (ceR g (ix p0)), .ref (g.1 8 (ix p0)), .ref (g.1 9 (ix p0))])) (kd_ne h_ID h_I rfl) h_ID
                  have h_T := mu_k (e := .inr (8, [.ref (g.1 5 (tbN st (ix p0))), .int (itS st (ix p0) 1), .int (sof (itS st (ix p0) 2)), .int (itS st (ix p0) 3), .int (((itS st (ix p0) 1) - (itS st (ix p0) 3)) + (vsum (boS st (tbN st (ix p0))) p2 20)), .int p1, .int (itS st (ix p0) 5), .int (itS st (ix p0) 12), .int (itS st (ix p0) 13), .int (itS st (ix p0) 14), .int (itS st (ix p0) 15), .int (itS st (ix p0) 8), .int (itS st (ix p0) 9), .int (itS st (ix p0) 10), .int (ceR g (ix p0)), .ref (g.1 8 (ix p0)), .ref (g.1 9 (ix p0))])) (kd_ne h_T h_I rfl) h_T
                  have h_B := mu_k (e := .inr (8, [.ref (g.1 5 (tbN st (ix p0))), .int (itS st (ix p0) 1), .int (sof (itS st (ix p0) 2)), .int (itS st (ix p0) 3), .int (((itS st (ix p0) 1) - (itS st (ix p0) 3)) + (vsum (boS st (tbN st (ix p0))) p2 20)), .int p1, .int (itS st (ix p0) 5), .int (itS st (ix p0) 12), .int (itS st (ix p0) 13), .int (itS st (ix p0) 14), .int (itS st (ix p0) 15), .int (itS st (ix p0) 8), .int (itS st (ix p0) 9), .int (itS st (ix p0) 10), .int (ceR g (ix p0)), .ref (g.1 8 (ix p0)), .ref (g.1 9 (ix p0))])) (kd_ne h_B h_I rfl) h_B
                  rw [mu_uu] at hP hI h_X h_TL h_IL h_ID h_T h_B
                  have h_I : (mu (mu (mu (mu Mw (g.1 0 0) (.inr (10, [.ref (g.1 1 0), .ref (g.1 2 0), .int (gS st 2), .int (gS st 3), .int (gS st 1), .int (gS st 0), .int 0]))) (g.1 0 0) (.inr (10, [.ref (g.1 1 0), .ref (g.1 2 0), .int (gS st 2), .int (gS st 3), .int (gS st 1), .int (gS st 0), .int 0]))) (g.1 0 0) (.inr (10, [.ref (g.1 1 0), .ref (g.1 2 0), .int ((gS st 2) - 0), .int (gS st 3), .int (gS st 1), .int (gS st 0), .int 0]))) (g.1 7 (ix p0)) (.inr (8, [.ref (g.1 5 (tbN st (ix p0))), .int (itS st (ix p0) 1), .int (sof (itS st (ix p0) 2)), .int (itS st (ix p0) 3), .int (((itS st (ix p0) 1) - (itS st (ix p0) 3)) + (vsum (boS st (tbN st (ix p0))) p2 20)), .int p1, .int (itS st (ix p0) 5), .int (itS st (ix p0) 12), .int (itS st (ix p0) 13), .int (itS st (ix p0) 14), .int (itS st (ix p0) 15), .int (itS st (ix p0) 8), .int (itS st (ix p0) 9), .int (itS st (ix p0) 10), .int (ceR g (ix p0)), .ref (g.1 8 (ix p0)), .ref (g.1 9 (ix p0))]))) (g.1 7 (ix p0)) = some (.inr (8, [.ref (g.1 5 (tbN st (ix p0))), .int (itS st (ix p0) 1), .int (sof (itS st (ix p0) 2)), .int (itS st (ix p0) 3), .int (((itS st (ix p0) 1) - (itS st (ix p0) 3)) + (vsum (boS st (tbN st (ix p0))) p2 20)), .int p1, .int (itS st (ix p0) 5), .int (itS st (ix p0) 12), .int (itS st (ix p0) 13), .int (itS st (ix p0) 14), .int (itS st (ix p0) 15), .int (itS st (ix p0) 8), .int (itS st (ix p0) 9), .int (itS st (ix p0) 10), .int (ceR g (ix p0)), .ref (g.1 8 (ix p0)), .ref (g.1 9 (ix p0))])) := mu_s
                  refine lv_iload hx hb dX7_fill_165 (lv_at hl 0 rfl) ?_
                  refine W.widen (k := 0) (n := 0) (Nat.le_of_ble_eq_true rfl) (Nat.le_of_ble_eq_true rfl) ?_
                  exact W.iret (v := ((itS st (ix p0) 1) - (itS st (ix p0) 3)) + (vsum (boS st (tbN st (ix p0))) p2 20)) hx hb hr (fun t99 ht99 hW99 => ⟨⟨((itS st (ix p0) 1) - (itS st (ix p0) 3)) + (vsum (boS st (tbN st (ix p0))) p2 20), (mu (mu (mu (mu Mw (g.1 0 0) (.inr (10, [.ref (g.1 1 0), .ref (g.1 2 0), .int (gS st 2), .int (gS st 3), .int (gS st 1), .int (gS st 0), .int 0]))) (g.1 0 0) (.inr (10, [.ref (g.1 1 0), .ref (g.1 2 0), .int (gS st 2), .int (gS st 3), .int (gS st 1), .int (gS st 0), .int 0]))) (g.1 0 0) (.inr (10, [.ref (g.1 1 0), .ref (g.1 2 0), .int ((gS st 2) - 0), .int (gS st 3), .int (gS st 1), .int (gS st 0), .int 0]))) (g.1 7 (ix p0)) (.inr (8, [.ref (g.1 5 (tbN st (ix p0))), .int (itS st (ix p0) 1), .int (sof (itS st (ix p0) 2)), .int (itS st (ix p0) 3), .int (((itS st (ix p0) 1) - (itS st (ix p0) 3)) + (vsum (boS st (tbN st (ix p0))) p2 20)), .int p1, .int (itS st (ix p0) 5), .int (itS st (ix p0) 12), .int (itS st (ix p0) 13), .int (itS st (ix p0) 14), .int (itS st (ix p0) 15), .int (itS st (ix p0) 8), .int (itS st (ix p0) 9), .int (itS st (ix p0) 10), .int (ceR g (ix p0)), .ref (g.1 8 (ix p0)), .ref (g.1 9 (ix p0))]))), rfl, RP.ok (by unfold m_fill; first | (rw [chk_p hi9, chk_p (show eith p1 109 115 from Or.inr c20), chk_p hq_r22, chk_p (fill_p hV hi9.2 c26), chk_p c28, chk_p ha9]; done) | (rw [chk_p hi9, chk_p (show eith p1 109 115 from Or.inr c20), chk_p hq_r22, chk_p (fill_p hV hi9.2 c26), chk_p c28, chk_p ha9]; rfl)) (hR.io hi9.2 (fu (gS st) 2 (if p1 = 109 then gS st 2 - amt st (ix p0) p2 else gS st 2)) (filG st (ix p0) p1 (amt st (ix p0) p2)) rfl (ceR g (ix p0)) 0 (h_X.trans (congrArg some (by first | (rw [show (if p1 = 109 then gS st 2 - amt st (ix p0) p2 else gS st 2) = gS st 2 - 0 from (if_neg c32).trans (Int32.sub_zero _).symm]; done) | (rw [show (if p1 = 109 then gS st 2 - amt st (ix p0) p2 else gS st 2) = gS st 2 - 0 from (if_neg c32).trans (Int32.sub_zero _).symm]; rfl)))) h_I (fun x9 e9 hx9 h0 h1 => ((mu_n h1).trans ((mu_n h0).trans ((mu_n h0).trans ((mu_n h0).trans (rfl))))).trans hx9) ((hR.2.2.2.2 _ hi9.2).2.1)) rfl rfl, by rw [ht99]; exact hP, hI⟩, hS.F ht99⟩) hS.2.2 dX7_fill_167
                · skip
                  refine lv_iload hx hb dX7_fill_142 (lv_at hl 0 rfl) ?_
                  refine lv_goto (tgt := 148) hx hb dX7_fill_144 (by decide) ?_
                  refine lv_isub hx hb dX7_fill_148 ?_
                  refine m_put (ci := 10) (v := .int ((gS st 2) - (((itS st (ix p0) 1) - (itS st (ix p0) 3)) + (vsum (boS st (tbN st (ix p0))) p2 20)))) (ty := .int) (C := RX7) (T := TX7) (N := 7) hx hb hts i_X7 tyX7 tyX7_ok nmX7 hown hK hP hI hS h_X rfl 2 (by decide) (hts (.fieldLink RX7 84 "MeniscusModel" "stock" "I") (by decide +kernel)) (fun _ h9 => h9) rfl (by decide +kernel) rfl rfl (Nat.le_of_ble_eq_true rfl) dX7_fill_149 (fun H locs hP hI hS => ?_)
                  have hP : mP G.1 (mu (mu (mu (mu Mw (g.1 0 0) (.inr (10, [.ref (g.1 1 0), .ref (g.1 2 0), .int (gS st 2), .int (gS st 3), .int (gS st 1), .int (gS st 0), .int 0]))) (g.1 0 0) (.inr (10, [.ref (g.1 1 0), .ref (g.1 2 0), .int (gS st 2), .int (gS st 3), .int (gS st 1), .int (gS st 0), .int 0]))) (g.1 0 0) (.inr (10, [.ref (g.1 1 0), .ref (g.1 2 0), .int (gS st 2), .int (gS st 3), .int (gS st 1), .int (gS st 0), .int 0]))) (g.1 0 0) (.inr (10, [.ref (g.1 1 0), .ref (g.1 2 0), .int ((gS st 2) - (((itS st (ix p0) 1) - (itS st (ix p0) 3)) + (vsum (boS st (tbN st (ix p0))) p2 20))), .int (gS st 3), .int (gS st 1), .int (gS st 0), .int 0]))) H := hP
                  have hI : mI A (mu (mu (mu (mu Mw (g.1 0 0) (.inr (10, [.ref (g.1 1 0), .ref (g.1 2 0), .int (gS st 2), .int (gS st 3), .int (gS st 1), .int (gS st 0), .int 0]))) (g.1 0 0) (.inr (10, [.ref (g.1 1 0), .ref (g.1 2 0), .int (gS st 2), .int (gS st 3), .int (gS st 1), .int (gS st 0), .int 0]))) (g.1 0 0) (.inr (10, [.ref (g.1 1 0), .ref (g.1 2 0), .int (gS st 2), .int (gS st 3), .int (gS st 1), .int (gS st 0), .int 0]))) (g.1 0 0) (.inr (10, [.ref (g.1 1 0), .ref (g.1 2 0), .int ((gS st 2) - (((itS st (ix p0) 1) - (itS st (ix p0) 3)) + (vsum (boS st (tbN st (ix p0))) p2 20))), .int (gS st 3), .int (gS st 1), .int (gS st 0), .int 0]))) := hI
                  have h_TL := mu_k (e := .inr (10, [.ref (g.1 1 0), .ref (g.1 2 0), .int ((gS st 2) - (((itS st (ix p0) 1) - (itS st (ix p0) 3)) + (vsum (boS st (tbN st (ix p0))) p2 20))), .int (gS st 3), .int (gS st 1), .int (gS st 0), .int 0])) (kd_ne h_TL h_X rfl) h_TL
                  have h_IL := mu_k (e := .inr (10, [.ref (g.1 1 0), .ref (g.1 2 0), .int ((gS st 2) - (((itS st (ix p0) 1) - (itS st (ix p0) 3)) + (vsum (boS st (tbN st (ix p0))) p2 20))), .int (gS st 3), .int (gS st 1), .int (gS st 0), .int 0])) (kd_ne h_IL h_X rfl) h_IL
                  have h_ID := mu_k (e := .inr (10, [.ref (g.1 1 0), .ref (g.1 2 0), .int ((gS st 2) - (((itS st (ix p0) 1) - (itS st (ix p0) 3)) + (vsum (boS st (tbN st (ix p0))) p2 20))), .int (gS st 3), .int (gS st 1), .int (gS st 0), .int 0])) (kd_ne h_ID h_X rfl) h_ID
                  have h_I := mu_k (e := .inr (10, [.ref (g.1 1 0), .ref (g.1 2 0), .int ((gS st 2) - (((itS st (ix p0) 1) - (itS st (ix p0) 3)) + (vsum (boS st (tbN st (ix p0))) p2 20))), .int (gS st 3), .int (gS st 1), .int (gS st 0), .int 0])) (kd_ne h_I h_X rfl) h_I
                  have h_T := mu_k (e := .inr (10, [.ref (g.1 1 0), .ref (g.1 2 0), .int ((gS st 2) - (((itS st (ix p0) 1) - (itS st (ix p0) 3)) + (vsum (boS st (tbN st (ix p0))) p2 20))), .int (gS st 3), .int (gS st 1), .int (gS st 0), .int 0])) (kd_ne h_T h_X rfl) h_T
                  have h_B := mu_k (e := .inr (10, [.ref (g.1 1 0), .ref (g.1 2 0), .int ((gS st 2) - (((itS st (ix p0) 1) - (itS st (ix p0) 3)) + (vsum (boS st (tbN st (ix p0))) p2 20))), .int (gS st 3), .int (gS st 1), .int (gS st 0), .int 0])) (kd_ne h_B h_X rfl) h_B
                  rw [mu_uu] at hP hI h_TL h_IL h_ID h_I h_T h_B
                  have h_X : (mu (mu (mu Mw (g.1 0 0) (.inr (10, [.ref (g.1 1 0), .ref (g.1 2 0), .int (gS st 2), .int (gS st 3), .int (gS st 1), .int (gS st 0), .int 0]))) (g.1 0 0) (.inr (10, [.ref (g.1 1 0), .ref (g.1 2 0), .int (gS st 2), .int (gS st 3), .int (gS st 1), .int (gS st 0), .int 0]))) (g.1 0 0) (.inr (10, [.ref (g.1 1 0), .ref (g.1 2 0), .int ((gS st 2) - (((itS st (ix p0) 1) - (itS st (ix p0) 3)) + (vsum (boS st (tbN st (ix p0))) p2 20))), .int (gS st 3), .int (gS st 1), .int (gS st 0), .int 0]))) (g.1 0 0) = some (.inr (10, [.ref (g.1 1 0), .ref (g.1 2 0), .int ((gS st 2) - (((itS st (ix p0) 1) - (itS st (ix p0) 3)) + (vsum (boS st (tbN st (ix p0))) p2 20))), .int (gS st 3), .int (gS st 1), .int (gS st 0), .int 0])) := mu_s
                  refine lv_aload hx hb dX7_fill_152 (lv_at hl 1 rfl) ?_
                  refine lv_iload_n hx hb dX7_fill_154 rfl (lv_at hl 4 rfl) ?_
                  refine m_putN (ci := 8) (v := .int p1) (ty := .char) (C := RX5) (T := TX5) (N := 17) hx hb hts i_X5 tyX5 tyX5_ok nmX5 hown hK hP hI hS h_I rfl 5 (by decide) (va_Nw.use rfl (hG.2.1.2.1 ("MeniscusModel", 100, "MeniscusModel$Instrument", "liquid", "C", "MeniscusModel") (by decide +kernel))) (fun _ h9 => h9) rfl (by decide +kernel) (nch (show eith p1 109 115 from Or.inr c20) ⟨rfl, rfl⟩ ⟨rfl, rfl⟩).1 (nch (show eith p1 109 115 from Or.inr c20) ⟨rfl, rfl⟩ ⟨rfl, rfl⟩).2 (Nat.le_of_ble_eq_true rfl) dX7_fill_155 (fun H locs hP hI hS => ?_)
                  have hP : mP G.1 (mu (mu (mu (mu Mw (g.1 0 0) (.inr (10, [.ref (g.1 1 0), .ref (g.1 2 0), .int (gS st 2), .int (gS st 3), .int (gS st 1), .int (gS st 0), .int 0]))) (g.1 0 0) (.inr (10, [.ref (g.1 1 0), .ref (g.1 2 0), .int (gS st 2), .int (gS st 3), .int (gS st 1), .int (gS st 0), .int 0]))) (g.1 0 0) (.inr (10, [.ref (g.1 1 0), .ref (g.1 2 0), .int ((gS st 2) - (((itS st (ix p0) 1) - (itS st (ix p0) 3)) + (vsum (boS st (tbN st (ix p0))) p2 20))), .int (gS st 3), .int (gS st 1), .int (gS st 0), .int 0]))) (g.1 7 (ix p0)) (.inr (8, [.ref (g.1 5 (tbN st (ix p0))), .int (itS st (ix p0) 1), .int (sof (itS st (ix p0) 2)), .int (itS st (ix p0) 3), .int (itS st (ix p0) 7), .int p1, .int (itS st (ix p0) 5), .int (itS st (ix p0) 12), .int (itS st (ix p0) 13), .int (itS st (ix p0) 14), .int (itS st (ix p0) 15), .int (itS st (ix p0) 8), .int (itS st (ix p0) 9), .int (itS st (ix p0) 10), .int (ceR g (ix p0)), .ref (g.1 8 (ix p0)), .ref (g.1 9 (ix p0))]))) H := hP
                  have hI : mI A (mu (mu (mu (mu Mw (g.1 0 0) (.inr (10, [.ref (g.1 1 0), .ref (g.1 2 0), .int (gS st 2), .int (gS st 3), .int (gS st 1), .int (gS st 0), .int 0]))) (g.1 0 0) (.inr (10, [.ref (g.1 1 0), .ref (g.1 2 0), .int (gS st 2), .int (gS st 3), .int (gS st 1), .int (gS st 0), .int 0]))) (g.1 0 0) (.inr (10, [.ref (g.1 1 0), .ref (g.1 2 0), .int ((gS st 2) - (((itS st (ix p0) 1) - (itS st (ix p0) 3)) + (vsum (boS st (tbN st (ix p0))) p2 20))), .int (gS st 3), .int (gS st 1), .int (gS st 0), .int 0]))) (g.1 7 (ix p0)) (.inr (8, [.ref (g.1 5 (tbN st (ix p0))), .int (itS st (ix p0) 1), .int (sof (itS st (ix p0) 2)), .int (itS st (ix p0) 3), .int (itS st (ix p0) 7), .int p1, .int (itS st (ix p0) 5), .int (itS st (ix p0) 12), .int (itS st (ix p0) 13), .int (itS st (ix p0) 14), .int (itS st (ix p0) 15), .int (itS st (ix p0) 8), .int (itS st (ix p0) 9), .int (itS st (ix p0) 10), .int (ceR g (ix p0)), .ref (g.1 8 (ix p0)), .ref (g.1 9 (ix p0))]))) := hI
                  have h_X := mu_k (e := .inr (8, [.ref (g.1 5 (tbN st (ix p0))), .int (itS st (ix p0) 1), .int (sof (itS st (ix p0) 2)), .int (itS st (ix p0) 3), .int (itS st (ix p0) 7), .int p1, .int (itS st (ix p0) 5), .int (itS st (ix p0) 12), .int (itS st (ix p0) 13), .int (itS st (ix p0) 14), .int (itS st (ix p0) 15), .int (itS st (ix p0) 8), .int (itS st (ix p0) 9), .int (itS st (ix p0) 10), .int (ceR g (ix p0)), .ref (g.1 8 (ix p0)), .ref (g.1 9 (ix p0))])) (kd_ne h_X h_I rfl) h_X
                  have h_TL := mu_k (e := .inr (8, [.ref (g.1 5 (tbN st (ix p0))), .int (itS st (ix p0) 1), .int (sof (itS st (ix p0) 2)), .int (itS st (ix p0) 3), .int (itS st (ix p0) 7), .int p1, .int (itS st (ix p0) 5), .int (itS st (ix p0) 12), .int (itS st (ix p0) 13), .int (itS st (ix p0) 14), .int (itS st (ix p0) 15), .int (itS st (ix p0) 8), .int (itS st (ix p0) 9), .int (itS st (ix p0) 10), .int (ceR g (ix p0)), .ref (g.1 8 (ix p0)), .ref (g.1 9 (ix p0))])) (kd_ne h_TL h_I rfl) h_TL
                  have h_IL := mu_k (e := .inr (8, [.ref (g.1 5 (tbN st (ix p0))), .int (itS st (ix p0) 1), .int (sof (itS st (ix p0) 2)), .int (itS st (ix p0) 3), .int (itS st (ix p0) 7), .int p1, .int (itS st (ix p0) 5), .int (itS st (ix p0) 12), .int (itS st (ix p0) 13), .int (itS st (ix p0) 14), .int (itS st (ix p0) 15), .int (itS st (ix p0) 8), .int (itS st (ix p0) 9), .int (itS st (ix p0) 10), .int (ceR g (ix p0)), .ref (g.1 8 (ix p0)), .ref (g.1 9 (ix p0))])) (kd_ne h_IL h_I rfl) h_IL
                  have h_ID := mu_k (e := .inr (8, [.ref (g.1 5 (tbN st (ix p0))), .int (itS st (ix p0) 1), .int (sof (itS st (ix p0) 2)), .int (itS st (ix p0) 3), .int (itS st (ix p0) 7), .int p1, .int (itS st (ix p0) 5), .int (itS st (ix p0) 12), .int (itS st (ix p0) 13), .int (itS st (ix p0) 14), .int (itS st (ix p0) 15), .int (itS st (ix p0) 8), .int (itS st (ix p0) 9), .int (itS st (ix p0) 10), .int (ceR g (ix p0)), .ref (g.1 8 (ix p0)), .ref (g.1 9 (ix p0))])) (kd_ne h_ID h_I rfl) h_ID
                  have h_T := mu_k (e := .inr (8, [.ref (g.1 5 (tbN st (ix p0))), .int (itS st (ix p0) 1), .int (sof (itS st (ix p0) 2)), .int (itS st (ix p0) 3), .int (itS st (ix p0) 7), .int p1, .int (itS st (ix p0) 5), .int (itS st (ix p0) 12), .int (itS st (ix p0) 13), .int (itS st (ix p0) 14), .int (itS st (ix p0) 15), .int (itS st (ix p0) 8), .int (itS st (ix p0) 9), .int (itS st (ix p0) 10), .int (ceR g (ix p0)), .ref (g.1 8 (ix p0)), .ref (g.1 9 (ix p0))])) (kd_ne h_T h_I rfl) h_T
                  have h_B := mu_k (e := .inr (8, [.ref (g.1 5 (tbN st (ix p0))), .int (itS st (ix p0) 1), .int (sof (itS st (ix p0) 2)), .int (itS st (ix p0) 3), .int (itS st (ix p0) 7), .int p1, .int (itS st (ix p0) 5), .int (itS st (ix p0) 12), .int (itS st (ix p0) 13), .int (itS st (ix p0) 14), .int (itS st (ix p0) 15), .int (itS st (ix p0) 8), .int (itS st (ix p0) 9), .int (itS st (ix p0) 10), .int (ceR g (ix p0)), .ref (g.1 8 (ix p0)), .ref (g.1 9 (ix p0))])) (kd_ne h_B h_I rfl) h_B
                  have h_I : (mu (mu (mu (mu Mw (g.1 0 0) (.inr (10, [.ref (g.1 1 0), .ref (g.1 2 0), .int (gS st 2), .int (gS st 3), .int (gS st 1), .int (gS st 0), .int 0]))) (g.1 0 0) (.inr (10, [.ref (g.1 1 0), .ref (g.1 2 0), .int (gS st 2), .int (gS st 3), .int (gS st 1), .int (gS st 0), .int 0]))) (g.1 0 0) (.inr (10, [.ref (g.1 1 0), .ref (g.1 2 0), .int ((gS st 2) - (((itS st (ix p0) 1) - (itS st (ix p0) 3)) + (vsum (boS st (tbN st (ix p0))) p2 20))), .int (gS st 3), .int (gS st 1), .int (gS st 0), .int 0]))) (g.1 7 (ix p0)) (.inr (8, [.ref (g.1 5 (tbN st (ix p0))), .int (itS st (ix p0) 1), .int (sof (itS st (ix p0) 2)), .int (itS st (ix p0) 3), .int (itS st (ix p0) 7), .int p1, .int (itS st (ix p0) 5), .int (itS st (ix p0) 12), .int (itS st (ix p0) 13), .int (itS st (ix p0) 14), .int (itS st (ix p0) 15), .int (itS st (ix p0) 8), .int (itS st (ix p0) 9), .int (itS st (ix p0) 10), .int (ceR g (ix p0)), .ref (g.1 8 (ix p0)), .ref (g.1 9 (ix p0))]))) (g.1 7 (ix p0)) = some (.inr (8, [.ref (g.1 5 (tbN st (ix p0))), .int (itS st (ix p0) 1), .int (sof (itS st (ix p0) 2)), .int (itS st (ix p0) 3), .int (itS st (ix p0) 7), .int p1, .int (itS st (ix p0) 5), .int (itS st (ix p0) 12), .int (itS st (ix p0) 13), .int (itS st (ix p0) 14), .int (itS st (ix p0) 15), .int (itS st (ix p0) 8), .int (itS st (ix p0) 9), .int (itS st (ix p0) 10), .int (ceR g (ix p0)), .ref (g.1 8 (ix p0)), .ref (g.1 9 (ix p0))])) := mu_s
                  refine lv_aload hx hb dX7_fill_158 (lv_at hl 1 rfl) ?_
                  refine lv_iload hx hb dX7_fill_160 (lv_at hl 0 rfl) ?_
                  refine m_putN (ci := 8) (v := .int (((itS st (ix p0) 1) - (itS st (ix p0) 3)) + (vsum (boS st (tbN st (ix p0))) p2 20))) (ty := .int) (C := RX5) (T := TX5) (N := 17) hx hb hts i_X5 tyX5 tyX5_ok nmX5 hown hK hP hI hS h_I rfl 4 (by decide) (va_Nw.use rfl (hG.2.1.2.1 ("MeniscusModel", 107, "MeniscusModel$Instrument", "inside", "I", "MeniscusModel") (by decide +kernel))) (fun _ h9 => h9) rfl (by decide +kernel) rfl rfl (Nat.le_of_ble_eq_true rfl) dX7_fill_162 (fun H locs hP hI hS => ?_)
                  have hP : mP G.1 (mu (mu (mu (mu (mu Mw (g.1 0 0) (.inr (10, [.ref (g.1 1 0), .ref (g.1 2 0), .int (gS st 2), .int (gS st 3), .int (gS st 1), .int (gS st 0), .int 0]))) (g.1 0 0) (.inr (10, [.ref (g.1 1 0), .ref (g.1 2 0), .int (gS st 2), .int (gS st 3), .int (gS st 1), .int (gS st 0), .int 0]))) (g.1 0 0) (.inr (10, [.ref (g.1 1 0), .ref (g.1 2 0), .int ((gS st 2) - (((itS st (ix p0) 1) - (itS st (ix p0) 3)) + (vsum (boS st (tbN st (ix p0))) p2 20))), .int (gS st 3), .int (gS st 1), .int (gS st 0), .int 0]))) (g.1 7 (ix p0)) (.inr (8, [.ref (g.1 5 (tbN st (ix p0))), .int (itS st (ix p0) 1), .int (sof (itS st (ix p0) 2)), .int (itS st (ix p0) 3), .int (itS st (ix p0) 7), .int p1, .int (itS st (ix p0) 5), .int (itS st (ix p0) 12), .int (itS st (ix p0) 13), .int (itS st (ix p0) 14), .int (itS st (ix p0) 15), .int (itS st (ix p0) 8), .int (itS st (ix p0) 9), .int (itS st (ix p0) 10), .int (ceR g (ix p0)), .ref (g.1 8 (ix p0)), .ref (g.1 9 (ix p0))]))) (g.1 7 (ix p0)) (.inr (8, [.ref (g.1 5 (tbN st (ix p0))), .int (itS st (ix p0) 1), .int (sof (itS st (ix p0) 2)), .int (itS st (ix p0) 3), .int (((itS st (ix p0) 1) - (itS st (ix p0) 3)) + (vsum (boS st (tbN st (ix p0))) p2 20)), .int p1, .int (itS st (ix p0) 5), .int (itS st (ix p0) 12), .int (itS st (ix p0) 13), .int (itS st (ix p0) 14), .int (itS st (ix p0) 15), .int (itS st (ix p0) 8), .int (itS st (ix p0) 9), .int (itS st (ix p0) 10), .int (ceR g (ix p0)), .ref (g.1 8 (ix p0)), .ref (g.1 9 (ix p0))]))) H := hP
                  have hI : mI A (mu (mu (mu (mu (mu Mw (g.1 0 0) (.inr (10, [.ref (g.1 1 0), .ref (g.1 2 0), .int (gS st 2), .int (gS st 3), .int (gS st 1), .int (gS st 0), .int 0]))) (g.1 0 0) (.inr (10, [.ref (g.1 1 0), .ref (g.1 2 0), .int (gS st 2), .int (gS st 3), .int (gS st 1), .int (gS st 0), .int 0]))) (g.1 0 0) (.inr (10, [.ref (g.1 1 0), .ref (g.1 2 0), .int ((gS st 2) - (((itS st (ix p0) 1) - (itS st (ix p0) 3)) + (vsum (boS st (tbN st (ix p0))) p2 20))), .int (gS st 3), .int (gS st 1), .int (gS st 0), .int 0]))) (g.1 7 (ix p0)) (.inr (8, [.ref (g.1 5 (tbN st (ix p0))), .int (itS st (ix p0) 1), .int (sof (itS st (ix p0) 2)), .int (itS st (ix p0) 3), .int (itS st (ix p0) 7), .int p1, .int (itS st (ix p0) 5), .int (itS st (ix p0) 12), .int (itS st (ix p0) 13), .int (itS st (ix p0) 14), .int (itS st (ix p0) 15), .int (itS st (ix p0) 8), .int (itS st (ix p0) 9), .int (itS st (ix p0) 10), .int (ceR g (ix p0)), .ref (g.1 8 (ix p0)), .ref (g.1 9 (ix p0))]))) (g.1 7 (ix p0)) (.inr (8, [.ref (g.1 5 (tbN st (ix p0))), .int (itS st (ix p0) 1), .int (sof (itS st (ix p0) 2)), .int (itS st (ix p0) 3), .int (((itS st (ix p0) 1) - (itS st (ix p0) 3)) + (vsum (boS st (tbN st (ix p0))) p2 20)), .int p1, .int (itS st (ix p0) 5), .int (itS st (ix p0) 12), .int (itS st (ix p0) 13), .int (itS st (ix p0) 14), .int (itS st (ix p0) 15), .int (itS st (ix p0) 8), .int (itS st (ix p0) 9), .int (itS st (ix p0) 10), .int (ceR g (ix p0)), .ref (g.1 8 (ix p0)), .ref (g.1 9 (ix p0))]))) := hI
                  have h_X := mu_k (e := .inr (8, [.ref (g.1 5 (tbN st (ix p0))), .int (itS st (ix p0) 1), .int (sof (itS st (ix p0) 2)), .int (itS st (ix p0) 3), .int (((itS st (ix p0) 1) - (itS st (ix p0) 3)) + (vsum (boS st (tbN st (ix p0))) p2 20)), .int p1, .int (itS st (ix p0) 5), .int (itS st (ix p0) 12), .int (itS st (ix p0) 13), .int (itS st (ix p0) 14), .int (itS st (ix p0) 15), .int (itS st (ix p0) 8), .int (itS st (ix p0) 9), .int (itS st (ix p0) 10), .int (ceR g (ix p0)), .ref (g.1 8 (ix p0)), .ref (g.1 9 (ix p0))])) (kd_ne h_X h_I rfl) h_X
                  have h_TL := mu_k (e := .inr (8, [.ref (g.1 5 (tbN st (ix p0))), .int (itS st (ix p0) 1), .int (sof (itS st (ix p0) 2)), .int (itS st (ix p0) 3), .int (((itS st (ix p0) 1) - (itS st (ix p0) 3)) + (vsum (boS st (tbN st (ix p0))) p2 20)), .int p1, .int (itS st (ix p0) 5), .int (itS st (ix p0) 12), .int (itS st (ix p0) 13), .int (itS st (ix p0) 14), .int (itS st (ix p0) 15), .int (itS st (ix p0) 8), .int (itS st (ix p0) 9), .int (itS st (ix p0) 10), .int (ceR g (ix p0)), .ref (g.1 8 (ix p0)), .ref (g.1 9 (ix p0))])) (kd_ne h_TL h_I rfl) h_TL
                  have h_IL := mu_k (e := .inr (8, [.ref (g.1 5 (tbN st (ix p0))), .int (itS st (ix p0) 1), .int (sof (itS st (ix p0) 2)), .int (itS st (ix p0) 3), .int (((itS st (ix p0) 1) - (itS st (ix p0) 3)) + (vsum (boS st (tbN st (ix p0))) p2 20)), .int p1, .int (itS st (ix p0) 5), .int (itS st (ix p0) 12), .int (itS st (ix p0) 13), .int (itS st (ix p0) 14), .int (itS st (ix p0) 15), .int (itS st (ix p0) 8), .int (itS st (ix p0) 9), .int (itS st (ix p0) 10), .int (ceR g (ix p0)), .ref (g.1 8 (ix p0)), .ref (g.1 9 (ix p0))])) (kd_ne h_IL h_I rfl) h_IL
                  have h_ID := mu_k (e := .inr (8, [.ref (g.1 5 (tbN st (ix p0))), .int (itS st (ix p0) 1), .int (sof (itS st (ix p0) 2)), .int (itS st (ix p0) 3), .int (((itS st (ix p0) 1) - (itS st (ix p0) 3)) + (vsum (boS st (tbN st (ix p0))) p2 20)), .int p1, .int (itS st (ix p0) 5), .int (itS st (ix p0) 12), .int (itS st (ix p0) 13), .int (itS st (ix p0) 14), .int (itS st (ix p0) 15), .int (itS st (ix p0) 8), .int (itS st (ix p0) 9), .int (itS st (ix p0) 10), .int (ceR g (ix p0)), .ref (g.1 8 (ix p0)), .ref (g.1 9 (ix p0))])) (kd_ne h_ID h_I rfl) h_ID
                  have h_T := mu_k (e := .inr (8, [.ref (g.1 5 (tbN st (ix p0))), .int (itS st (ix p0) 1), .int (sof (itS st (ix p0) 2)), .int (itS st (ix p0) 3), .int (((itS st (ix p0) 1) - (itS st (ix p0) 3)) + (vsum (boS st (tbN st (ix p0))) p2 20)), .int p1, .int (itS st (ix p0) 5), .int (itS st (ix p0) 12), .int (itS st (ix p0) 13), .int (itS st (ix p0) 14), .int (itS st (ix p0) 15), .int (itS st (ix p0) 8), .int (itS st (ix p0) 9), .int (itS st (ix p0) 10), .int (ceR g (ix p0)), .ref (g.1 8 (ix p0)), .ref (g.1 9 (ix p0))])) (kd_ne h_T h_I rfl) h_T
                  have h_B := mu_k (e := .inr (8, [.ref (g.1 5 (tbN st (ix p0))), .int (itS st (ix p0) 1), .int (sof (itS st (ix p0) 2)), .int (itS st (ix p0) 3), .int (((itS st (ix p0) 1) - (itS st (ix p0) 3)) + (vsum (boS st (tbN st (ix p0))) p2 20)), .int p1, .int (itS st (ix p0) 5), .int (itS st (ix p0) 12), .int (itS st (ix p0) 13), .int (itS st (ix p0) 14), .int (itS st (ix p0) 15), .int (itS st (ix p0) 8), .int (itS st (ix p0) 9), .int (itS st (ix p0) 10), .int (ceR g (ix p0)), .ref (g.1 8 (ix p0)), .ref (g.1 9 (ix p0))])) (kd_ne h_B h_I rfl) h_B
                  rw [mu_uu] at hP hI h_X h_TL h_IL h_ID h_T h_B
                  have h_I : (mu (mu (mu (mu Mw (g.1 0 0) (.inr (10, [.ref (g.1 1 0), .ref (g.1 2 0), .int (gS st 2), .int (gS st 3), .int (gS st 1), .int (gS st 0), .int 0]))) (g.1 0 0) (.inr (10, [.ref (g.1 1 0), .ref (g.1 2 0), .int (gS st 2), .int (gS st 3), .int (gS st 1), .int (gS st 0), .int 0]))) (g.1 0 0) (.inr (10, [.ref (g.1 1 0), .ref (g.1 2 0), .int ((gS st 2) - (((itS st (ix p0) 1) - (itS st (ix p0) 3)) + (vsum (boS st (tbN st (ix p0))) p2 20))), .int (gS st 3), .int (gS st 1), .int (gS st 0), .int 0]))) (g.1 7 (ix p0)) (.inr (8, [.ref (g.1 5 (tbN st (ix p0))), .int (itS st (ix p0) 1), .int (sof (itS st (ix p0) 2)), .int (itS st (ix p0) 3), .int (((itS st (ix p0) 1) - (itS st (ix p0) 3)) + (vsum (boS st (tbN st (ix p0))) p2 20)), .int p1, .int (itS st (ix p0) 5), .int (itS st (ix p0) 12), .int (itS st (ix p0) 13), .int (itS st (ix p0) 14), .int (itS st (ix p0) 15), .int (itS st (ix p0) 8), .int (itS st (ix p0) 9), .int (itS st (ix p0) 10), .int (ceR g (ix p0)), .ref (g.1 8 (ix p0)), .ref (g.1 9 (ix p0))]))) (g.1 7 (ix p0)) = some (.inr (8, [.ref (g.1 5 (tbN st (ix p0))), .int (itS st (ix p0) 1), .int (sof (itS st (ix p0) 2)), .int (itS st (ix p0) 3), .int (((itS st (ix p0) 1) - (itS st (ix p0) 3)) + (vsum (boS st (tbN st (ix p0))) p2 20)), .int p1, .int (itS st (ix p0) 5), .int (itS st (ix p0) 12), .int (itS st (ix p0) 13), .int (itS st (ix p0) 14), .int (itS st (ix p0) 15), .int (itS st (ix p0) 8), .int (itS st (ix p0) 9), .int (itS st (ix p0) 10), .int (ceR g (ix p0)), .ref (g.1 8 (ix p0)), .ref (g.1 9 (ix p0))])) := mu_s
                  refine lv_iload hx hb dX7_fill_165 (lv_at hl 0 rfl) ?_
                  refine W.widen (k := 0) (n := 0) (Nat.le_of_ble_eq_true rfl) (Nat.le_of_ble_eq_true rfl) ?_
                  exact W.iret (v := ((itS st (ix p0) 1) - (itS st (ix p0) 3)) + (vsum (boS st (tbN st (ix p0))) p2 20)) hx hb hr (fun t99 ht99 hW99 => ⟨⟨((itS st (ix p0) 1) - (itS st (ix p0) 3)) + (vsum (boS st (tbN st (ix p0))) p2 20), (mu (mu (mu (mu Mw (g.1 0 0) (.inr (10, [.ref (g.1 1 0), .ref (g.1 2 0), .int (gS st 2), .int (gS st 3), .int (gS st 1), .int (gS st 0), .int 0]))) (g.1 0 0) (.inr (10, [.ref (g.1 1 0), .ref (g.1 2 0), .int (gS st 2), .int (gS st 3), .int (gS st 1), .int (gS st 0), .int 0]))) (g.1 0 0) (.inr (10, [.ref (g.1 1 0), .ref (g.1 2 0), .int ((gS st 2) - (((itS st (ix p0) 1) - (itS st (ix p0) 3)) + (vsum (boS st (tbN st (ix p0))) p2 20))), .int (gS st 3), .int (gS st 1), .int (gS st 0), .int 0]))) (g.1 7 (ix p0)) (.inr (8, [.ref (g.1 5 (tbN st (ix p0))), .int (itS st (ix p0) 1), .int (sof (itS st (ix p0) 2)), .int (itS st (ix p0) 3), .int (((itS st (ix p0) 1) - (itS st (ix p0) 3)) + (vsum (boS st (tbN st (ix p0))) p2 20)), .int p1, .int (itS st (ix p0) 5), .int (itS st (ix p0) 12), .int (itS st (ix p0) 13), .int (itS st (ix p0) 14), .int (itS st (ix p0) 15), .int (itS st (ix p0) 8), .int (itS st (ix p0) 9), .int (itS st (ix p0) 10), .int (ceR g (ix p0)), .ref (g.1 8 (ix p0)), .ref (g.1 9 (ix p0))]))), rfl, RP.ok (by unfold m_fill; first | (rw [chk_p hi9, chk_p (show eith p1 109 115 from Or.inr c20), chk_p hq_r22, chk_p (fill_p hV hi9.2 c26), chk_p c28, chk_p ha9]; done) | (rw [chk_p hi9, chk_p (show eith p1 109 115 from Or.inr c20), chk_p hq_r22, chk_p (fill_p hV hi9.2 c26), chk_p c28, chk_p ha9]; rfl)) (hR.io hi9.2 (fu (gS st) 2 (if p1 = 109 then gS st 2 - amt st (ix p0) p2 else gS st 2)) (filG st (ix p0) p1 (amt st (ix p0) p2)) rfl (ceR g (ix p0)) 0 (h_X.trans (congrArg some (by first | (rw [show (if p1 = 109 then gS st 2 - amt st (ix p0) p2 else gS st 2) = gS st 2 - amt st (ix p0) p2 from if_pos c32]; done) | (rw [show (if p1 = 109 then gS st 2 - amt st (ix p0) p2 else gS st 2) = gS st 2 - amt st (ix p0) p2 from if_pos c32]; rfl)))) h_I (fun x9 e9 hx9 h0 h1 => ((mu_n h1).trans ((mu_n h0).trans ((mu_n h0).trans ((mu_n h0).trans (rfl))))).trans hx9) ((hR.2.2.2.2 _ hi9.2).2.1)) rfl rfl, by rw [ht99]; exact hP, hI⟩, hS.F ht99⟩) hS.2.2 dX7_fill_167
              · skip
                refine lv_aload_n hx hb dX7_fill_108 rfl (lv_at hl 2 rfl) ?_
                refine m_get (ci := 10) (v := .int (gS st 2)) (C := RX7) (T := TX7) (N := 7) hx hb hts i_X7 hown hK (hP _ _ h_X) rfl 2 (by decide) (hts (.fieldLink RX7 84 "MeniscusModel" "stock" "I") (by decide +kernel)) (fun _ h9 => h9) rfl dX7_fill_109 ?_
                refine lv_iload hx hb dX7_fill_112 (lv_at hl 0 rfl) ?_
                refine lv_icmp_ge (tgt := 121) hx hb dX7_fill_114 (by decide) (fun c33 => ?_) (fun c33 => ?_)
                · skip
                  have ha9 : p1 = 109 → amt st (ix p0) p2 ≤ gS st 2 := fun _ => c33
                  refine lv_iconst (v := 0) hx hb dX7_fill_121 (by decide) ?_
                  refine lv_iconst (v := 3) hx hb dX7_fill_122 (by decide) ?_
                  refine m_calli (va_runV (As := [.int 0, .int 3]) (rest := []) ⟨hx, hb, hml, hown, hts⟩ (c_X7_isThrown0 l G A (mu (mu Mw (g.1 0 0) (.inr (10, [.ref (g.1 1 0), .ref (g.1 2 0), .int (gS st 2), .int (gS st 3), .int (gS st 1), .int (gS st 0), .int 0]))) (g.1 0 0) (.inr (10, [.ref (g.1 1 0), .ref (g.1 2 0), .int (gS st 2), .int (gS st 3), .int (gS st 1), .int (gS st 0), .int 0])))  3 h_X) (cwV 2 hts gX7_fill_X7_isThrown rfl rfl rfl (by decide +kernel) ⟨Nat.le_of_ble_eq_true rfl, Nat.le_of_ble_eq_true rfl⟩) (mPreV hG hS hP hI hA (hP _ _ h_X) (r := (RX7, TX7, 7)) rfl) rfl rfl hl.1 rfl (lv_room (Nat.le_of_ble_eq_true rfl)) dX7_fill_123 ⟨Nat.le_of_ble_eq_true rfl, Nat.le_of_ble_eq_true rfl⟩) hS (fun r34 Mw1 H locs hp_r34 hP hI hS => ?_)
                  obtain ⟨hp_r34, hm9⟩ := hp_r34
                  subst Mw1
                  subst hp_r34
                  have h_TL := mu_k (e := .inr (10, [.ref (g.1 1 0), .ref (g.1 2 0), .int (gS st 2), .int (gS st 3), .int (gS st 1), .int (gS st 0), .int 0])) (kd_ne h_TL h_X rfl) h_TL
                  have h_IL := mu_k (e := .inr (10, [.ref (g.1 1 0), .ref (g.1 2 0), .int (gS st 2), .int (gS st 3), .int (gS st 1), .int (gS st 0), .int 0])) (kd_ne h_IL h_X rfl) h_IL
                  have h_ID := mu_k (e := .inr (10, [.ref (g.1 1 0), .ref (g.1 2 0), .int (gS st 2), .int (gS st 3), .int (gS st 1), .int (gS st 0), .int 0])) (kd_ne h_ID h_X rfl) h_ID
                  have h_I := mu_k (e := .inr (10, [.ref (g.1 1 0), .ref (g.1 2 0), .int (gS st 2), .int (gS st 3), .int (gS st 1), .int (gS st 0), .int 0])) (kd_ne h_I h_X rfl) h_I
                  have h_T := mu_k (e := .inr (10, [.ref (g.1 1 0), .ref (g.1 2 0), .int (gS st 2), .int (gS st 3), .int (gS st 1), .int (gS st 0), .int 0])) (kd_ne h_T h_X rfl) h_T
                  have h_B := mu_k (e := .inr (10, [.ref (g.1 1 0), .ref (g.1 2 0), .int (gS st 2), .int (gS st 3), .int (gS st 1), .int (gS st 0), .int 0])) (kd_ne h_B h_X rfl) h_B
                  have h_X : (mu (mu (mu Mw (g.1 0 0) (.inr (10, [.ref (g.1 1 0), .ref (g.1 2 0), .int (gS st 2), .int (gS st 3), .int (gS st 1), .int (gS st 0), .int 0]))) (g.1 0 0) (.inr (10, [.ref (g.1 1 0), .ref (g.1 2 0), .int (gS st 2), .int (gS st 3), .int (gS st 1), .int (gS st 0), .int 0]))) (g.1 0 0) (.inr (10, [.ref (g.1 1 0), .ref (g.1 2 0), .int (gS st 2), .int (gS st 3), .int (gS st 1), .int (gS st 0), .int 0]))) (g.1 0 0) = some (.inr (10, [.ref (g.1 1 0), .ref (g.1 2 0), .int (gS st 2), .int (gS st 3), .int (gS st 1), .int (gS st 0), .int 0])) := mu_s
                  refine lv_if_eq (tgt := 131) hx hb dX7_fill_126 (by decide) (fun _ => ?_) (fun h9 => absurd h9 (by decide))
                  refine lv_aload_n hx hb dX7_fill_131 rfl (lv_at hl 2 rfl) ?_
                  refine lv_dup hx hb dX7_fill_132 rfl ?_
                  refine m_get (ci := 10) (v := .int (gS st 2)) (C := RX7) (T := TX7) (N := 7) hx hb hts i_X7 hown hK (hP _ _ h_X) rfl 2 (by decide) (hts (.fieldLink RX7 84 "MeniscusModel" "stock" "I") (by decide +kernel)) (fun _ h9 => h9) rfl dX7_fill_133 ?_
                  refine lv_iload_n hx hb dX7_fill_136 rfl (lv_at hl 4 rfl) ?_
                  refine lv_bipush (v := (109)) hx hb dX7_fill_137 (by decide) ?_
                  refine lv_icmp_ne (tgt := 147) hx hb dX7_fill_139 (by decide) (fun c35 => ?_) (fun c35 => ?_)
                  · skip
                    refine lv_iconst (v := 0) hx hb dX7_fill_147 (by decide) ?_
                    refine lv_isub hx hb dX7_fill_148 ?_
                    refine m_put (ci := 10) (v := .int ((gS st 2) - 0)) (ty := .int) (C := RX7) (T := TX7) (N := 7) hx hb hts i_X7 tyX7 tyX7_ok nmX7 hown hK hP hI hS h_X rfl 2 (by decide) (hts (.fieldLink RX7 84 "MeniscusModel" "stock" "I") (by decide +kernel)) (fun _ h9 => h9) rfl (by decide +kernel) rfl rfl (Nat.le_of_ble_eq_true rfl) dX7_fill_149 (fun H locs hP hI hS => ?_)
                    have hP : mP G.1 (mu (mu (mu (mu Mw (g.1 0 0) (.inr (10, [.ref (g.1 1 0), .ref (g.1 2 0), .int (gS st 2), .int (gS st 3), .int (gS st 1), .int (gS st 0), .int 0]))) (g.1 0 0) (.inr (10, [.ref (g.1 1 0), .ref (g.1 2 0), .int (gS st 2), .int (gS st 3), .int (gS st 1), .int (gS st 0), .int 0]))) (g.1 0 0) (.inr (10, [.ref (g.1 1 0), .ref (g.1 2 0), .int (gS st 2), .int (gS st 3), .int (gS st 1), .int (gS st 0), .int 0]))) (g.1 0 0) (.inr (10, [.ref (g.1 1 0), .ref (g.1 2 0), .int ((gS st 2) - 0), .int (gS st 3), .int (gS st 1), .int (gS st 0), .int 0]))) H := hP
                    have hI : mI A (mu (mu (mu (mu Mw (g.1 0 0) (.inr (10, [.ref (g.1 1 0), .ref (g.1 2 0), .int (gS st 2), .int (gS st 3), .int (gS st 1), .int (gS st 0), .int 0]))) (g.1 0 0) (.inr (10, [.ref (g.1 1 0), .ref (g.1 2 0), .int (gS st 2), .int (gS st 3), .int (gS st 1), .int (gS st 0), .int 0]))) (g.1 0 0) (.inr (10, [.ref (g.1 1 0), .ref (g.1 2 0), .int (gS st 2), .int (gS st 3), .int (gS st 1), .int (gS st 0), .int 0]))) (g.1 0 0) (.inr (10, [.ref (g.1 1 0), .ref (g.1 2 0), .int ((gS st 2) - 0), .int (gS st 3), .int (gS st 1), .int (gS st 0), .int 0]))) := hI
                    have h_TL := mu_k (e := .inr (10, [.ref (g.1 1 0), .ref (g.1 2 0), .int ((gS st 2) - 0), .int (gS st 3), .int (gS st 1), .int (gS st 0), .int 0])) (kd_ne h_TL h_X rfl) h_TL
                    have h_IL := mu_k (e := .inr (10, [.ref (g.1 1 0), .ref (g.1 2 0), .int ((gS st 2) - 0), .int (gS st 3), .int (gS st 1), .int (gS st 0), .int 0])) (kd_ne h_IL h_X rfl) h_IL
                    have h_ID := mu_k (e := .inr (10, [.ref (g.1 1 0), .ref (g.1 2 0), .int ((gS st 2) - 0), .int (gS st 3), .int (gS st 1), .int (gS st 0), .int 0])) (kd_ne h_ID h_X rfl) h_ID
                    have h_I := mu_k (e := .inr (10, [.ref (g.1 1 0), .ref (g.1 2 0), .int ((gS st 2) - 0), .int (gS st 3), .int (gS st 1), .int (gS st 0), .int 0])) (kd_ne h_I h_X rfl) h_I
                    have h_T := mu_k (e := .inr (10, [.ref (g.1 1 0), .ref (g.1 2 0), .int ((gS st 2) - 0), .int (gS st 3), .int (gS st 1), .int (gS st 0), .int 0])) (kd_ne h_T h_X rfl) h_T
                    have h_B := mu_k (e := .inr (10, [.ref (g.1 1 0), .ref (g.1 2 0), .int ((gS st 2) - 0), .int (gS st 3), .int (gS st 1), .int (gS st 0), .int 0])) (kd_ne h_B h_X rfl) h_B
                    rw [mu_uu] at hP hI h_TL h_IL h_ID h_I h_T h_B
                    have h_X : (mu (mu (mu Mw (g.1 0 0) (.inr (10, [.ref (g.1 1 0), .ref (g.1 2 0), .int (gS st 2), .int (gS st 3), .int (gS st 1), .int (gS st 0), .int 0]))) (g.1 0 0) (.inr (10, [.ref (g.1 1 0), .ref (g.1 2 0), .int (gS st 2), .int (gS st 3), .int (gS st 1), .int (gS st 0), .int 0]))) (g.1 0 0) (.inr (10, [.ref (g.1 1 0), .ref (g.1 2 0), .int ((gS st 2) - 0), .int (gS st 3), .int (gS st 1), .int (gS st 0), .int 0]))) (g.1 0 0) = some (.inr (10, [.ref (g.1 1 0), .ref (g.1 2 0), .int ((gS st 2) - 0), .int (gS st 3), .int (gS st 1), .int (gS st 0), .int 0])) := mu_s
                    refine lv_aload hx hb dX7_fill_152 (lv_at hl 1 rfl) ?_
                    refine lv_iload_n hx hb dX7_fill_154 rfl (lv_at hl 4 rfl) ?_
                    refine m_putN (ci := 8) (v := .int p1) (ty := .char) (C := RX5) (T := TX5) (N := 17) hx hb hts i_X5 tyX5 tyX5_ok nmX5 hown hK hP hI hS h_I rfl 5 (by decide) (va_Nw.use rfl (hG.2.1.2.1 ("MeniscusModel", 100, "MeniscusModel$Instrument", "liquid", "C", "MeniscusModel") (by decide +kernel))) (fun _ h9 => h9) rfl (by decide +kernel) (nch (show eith p1 109 115 from Or.inr c20) ⟨rfl, rfl⟩ ⟨rfl, rfl⟩).1 (nch (show eith p1 109 115 from Or.inr c20) ⟨rfl, rfl⟩ ⟨rfl, rfl⟩).2 (Nat.le_of_ble_eq_true rfl) dX7_fill_155 (fun H locs hP hI hS => ?_)
                    have hP : mP G.1 (mu (mu (mu (mu Mw (g.1 0 0) (.inr (10, [.ref (g.1 1 0), .ref (g.1 2 0), .int (gS st 2), .int (gS st 3), .int (gS st 1), .int (gS st 0), .int 0]))) (g.1 0 0) (.inr (10, [.ref (g.1 1 0), .ref (g.1 2 0), .int (gS st 2), .int (gS st 3), .int (gS st 1), .int (gS st 0), .int 0]))) (g.1 0 0) (.inr (10, [.ref (g.1 1 0), .ref (g.1 2 0), .int ((gS st 2) - 0), .int (gS st 3), .int (gS st 1), .int (gS st 0), .int 0]))) (g.1 7 (ix p0)) (.inr (8, [.ref (g.1 5 (tbN st (ix p0))), .int (itS st (ix p0) 1), .int (sof (itS st (ix p0) 2)), .int (itS st (ix p0) 3), .int (itS st (ix p0) 7), .int p1, .int (itS st (ix p0) 5), .int (itS st (ix p0) 12), .int (itS st (ix p0) 13), .int (itS st (ix p0) 14), .int (itS st (ix p0) 15), .int (itS st (ix p0) 8), .int (itS st (ix p0) 9), .int (itS st (ix p0) 10), .int (ceR g (ix p0)), .ref (g.1 8 (ix p0)), .ref (g.1 9 (ix p0))]))) H := hP
                    have hI : mI A (mu (mu (mu (mu Mw (g.1 0 0) (.inr (10, [.ref (g.1 1 0), .ref (g.1 2 0), .int (gS st 2), .int (gS st 3), .int (gS st 1), .int (gS st 0), .int 0]))) (g.1 0 0) (.inr (10, [.ref (g.1 1 0), .ref (g.1 2 0), .int (gS st 2), .int (gS st 3), .int (gS st 1), .int (gS st 0), .int 0]))) (g.1 0 0) (.inr (10, [.ref (g.1 1 0), .ref (g.1 2 0), .int ((gS st 2) - 0), .int (gS st 3), .int (gS st 1), .int (gS st 0), .int 0]))) (g.1 7 (ix p0)) (.inr (8, [.ref (g.1 5 (tbN st (ix p0))), .int (itS st (ix p0) 1), .int (sof (itS st (ix p0) 2)), .int (itS st (ix p0) 3), .int (itS st (ix p0) 7), .int p1, .int (itS st (ix p0) 5), .int (itS st (ix p0) 12), .int (itS st (ix p0) 13), .int (itS st (ix p0) 14), .int (itS st (ix p0) 15), .int (itS st (ix p0) 8), .int (itS st (ix p0) 9), .int (itS st (ix p0) 10), .int (ceR g (ix p0)), .ref (g.1 8 (ix p0)), .ref (g.1 9 (ix p0))]))) := hI
                    have h_X := mu_k (e := .inr (8, [.ref (g.1 5 (tbN st (ix p0))), .int (itS st (ix p0) 1), .int (sof (itS st (ix p0) 2)), .int (itS st (ix p0) 3), .int (itS st (ix p0) 7), .int p1, .int (itS st (ix p0) 5), .int (itS st (ix p0) 12), .int (itS st (ix p0) 13), .int (itS st (ix p0) 14), .int (itS st (ix p0) 15), .int (itS st (ix p0) 8), .int (itS st (ix p0) 9), .int (itS st (ix p0) 10), .int (ceR g (ix p0)), .ref (g.1 8 (ix p0)), .ref (g.1 9 (ix p0))])) (kd_ne h_X h_I rfl) h_X
                    have h_TL := mu_k (e := .inr (8, [.ref (g.1 5 (tbN st (ix p0))), .int (itS st (ix p0) 1), .int (sof (itS st (ix p0) 2)), .int (itS st (ix p0) 3), .int (itS st (ix p0) 7), .int p1, .int (itS st (ix p0) 5), .int (itS st (ix p0) 12), .int (itS st (ix p0) 13), .int (itS st (ix p0) 14), .int (itS st (ix p0) 15), .int (itS st (ix p0) 8), .int (itS st (ix p0) 9), .int (itS st (ix p0) 10), .int (ceR g (ix p0)), .ref (g.1 8 (ix p0)), .ref (g.1 9 (ix p0))])) (kd_ne h_TL h_I rfl) h_TL
                    have h_IL := mu_k (e := .inr (8, [.ref (g.1 5 (tbN st (ix p0))), .int (itS st (ix p0) 1), .int (sof (itS st (ix p0) 2)), .int (itS st (ix p0) 3), .int (itS st (ix p0) 7), .int p1, .int (itS st (ix p0) 5), .int (itS st (ix p0) 12), .int (itS st (ix p0) 13), .int (itS st (ix p0) 14), .int (itS st (ix p0) 15), .int (itS st (ix p0) 8), .int (itS st (ix p0) 9), .int (itS st (ix p0) 10), .int (ceR g (ix p0)), .ref (g.1 8 (ix p0)), .ref (g.1 9 (ix p0))])) (kd_ne h_IL h_I rfl) h_IL
                    have h_ID := mu_k (e := .inr (8, [.ref (g.1 5 (tbN st (ix p0))), .int (itS st (ix p0) 1), .int (sof (itS st (ix p0) 2)), .int (itS st (ix p0) 3), .int (itS st (ix p0) 7), .int p1, .int (itS st (ix p0) 5), .int (itS st (ix p0) 12), .int (itS st (ix p0) 13), .int (itS st (ix p0) 14), .int (itS st (ix p0) 15), .int (itS st (ix p0) 8), .int (itS st (ix p0) 9), .int (itS st (ix p0) 10), .int (ceR g (ix p0)), .ref (g.1 8 (ix p0)), .ref (g.1 9 (ix p0))])) (kd_ne h_ID h_I rfl) h_ID
                    have h_T := mu_k (e := .inr (8, [.ref (g.1 5 (tbN st (ix p0))), .int (itS st (ix p0) 1), .int (sof (itS st (ix p0) 2)), .int (itS st (ix p0) 3), .int (itS st (ix p0) 7), .int p1, .int (itS st (ix p0) 5), .int (itS st (ix p0) 12), .int (itS st (ix p0) 13), .int (itS st (ix p0) 14), .int (itS st (ix p0) 15), .int (itS st (ix p0) 8), .int (itS st (ix p0) 9), .int (itS st (ix p0) 10), .int (ceR g (ix p0)), .ref (g.1 8 (ix p0)), .ref (g.1 9 (ix p0))])) (kd_ne h_T h_I rfl) h_T
                    have h_B := mu_k (e := .inr (8, [.ref (g.1 5 (tbN st (ix p0))), .int (itS st (ix p0) 1), .int (sof (itS st (ix p0) 2)), .int (itS st (ix p0) 3), .int (itS st (ix p0) 7), .int p1, .int (itS st (ix p0) 5), .int (itS st (ix p0) 12), .int (itS st (ix p0) 13), .int (itS st (ix p0) 14), .int (itS st (ix p0) 15), .int (itS st (ix p0) 8), .int (itS st (ix p0) 9), .int (itS st (ix p0) 10), .int (ceR g (ix p0)), .ref (g.1 8 (ix p0)), .ref (g.1 9 (ix p0))])) (kd_ne h_B h_I rfl) h_B
                    have h_I : (mu (mu (mu (mu Mw (g.1 0 0) (.inr (10, [.ref (g.1 1 0), .ref (g.1 2 0), .int (gS st 2), .int (gS st 3), .int (gS st 1), .int (gS st 0), .int 0]))) (g.1 0 0) (.inr (10, [.ref (g.1 1 0), .ref (g.1 2 0), .int (gS st 2), .int (gS st 3), .int (gS st 1), .int (gS st 0), .int 0]))) (g.1 0 0) (.inr (10, [.ref (g.1 1 0), .ref (g.1 2 0), .int ((gS st 2) - 0), .int (gS st 3), .int (gS st 1), .int (gS st 0), .int 0]))) (g.1 7 (ix p0)) (.inr (8, [.ref (g.1 5 (tbN st (ix p0))), .int (itS st (ix p0) 1), .int (sof (itS st (ix p0) 2)), .int (itS st (ix p0) 3), .int (itS st (ix p0) 7), .int p1, .int (itS st (ix p0) 5), .int (itS st (ix p0) 12), .int (itS st (ix p0) 13), .int (itS st (ix p0) 14), .int (itS st (ix p0) 15), .int (itS st (ix p0) 8), .int (itS st (ix p0) 9), .int (itS st (ix p0) 10), .int (ceR g (ix p0)), .ref (g.1 8 (ix p0)), .ref (g.1 9 (ix p0))]))) (g.1 7 (ix p0)) = some (.inr (8, [.ref (g.1 5 (tbN st (ix p0))), .int (itS st (ix p0) 1), .int (sof (itS st (ix p0) 2)), .int (itS st (ix p0) 3), .int (itS st (ix p0) 7), .int p1, .int (itS st (ix p0) 5), .int (itS st (ix p0) 12), .int (itS st (ix p0) 13), .int (itS st (ix p0) 14), .int (itS st (ix p0) 15), .int (itS st (ix p0) 8), .int (itS st (ix p0) 9), .int (itS st (ix p0) 10), .int (ceR g (ix p0)), .ref (g.1 8 (ix p0)), .ref (g.1 9 (ix p0))])) := mu_s
                    refine lv_aload hx hb dX7_fill_158 (lv_at hl 1 rfl) ?_
                    refine lv_iload hx hb dX7_fill_160 (lv_at hl 0 rfl) ?_
                    refine m_putN (ci := 8) (v := .int (((itS st (ix p0) 1) - (itS st (ix p0) 3)) + (vsum (boS st (tbN st (ix p0))) p2 20))) (ty := .int) (C := RX5) (T := TX5) (N := 17) hx hb hts i_X5 tyX5 tyX5_ok nmX5 hown hK hP hI hS h_I rfl 4 (by decide) (va_Nw.use rfl (hG.2.1.2.1 ("MeniscusModel", 107, "MeniscusModel$Instrument", "inside", "I", "MeniscusModel") (by decide +kernel))) (fun _ h9 => h9) rfl (by decide +kernel) rfl rfl (Nat.le_of_ble_eq_true rfl) dX7_fill_162 (fun H locs hP hI hS => ?_)
                    have hP : mP G.1 (mu (mu (mu (mu (mu Mw (g.1 0 0) (.inr (10, [.ref (g.1 1 0), .ref (g.1 2 0), .int (gS st 2), .int (gS st 3), .int (gS st 1), .int (gS st 0), .int 0]))) (g.1 0 0) (.inr (10, [.ref (g.1 1 0), .ref (g.1 2 0), .int (gS st 2), .int (gS st 3), .int (gS st 1), .int (gS st 0), .int 0]))) (g.1 0 0) (.inr (10, [.ref (g.1 1 0), .ref (g.1 2 0), .int ((gS st 2) - 0), .int (gS st 3), .int (gS st 1), .int (gS st 0), .int 0]))) (g.1 7 (ix p0)) (.inr (8, [.ref (g.1 5 (tbN st (ix p0))), .int (itS st (ix p0) 1), .int (sof (itS st (ix p0) 2)), .int (itS st (ix p0) 3), .int (itS st (ix p0) 7), .int p1, .int (itS st (ix p0) 5), .int (itS st (ix p0) 12), .int (itS st (ix p0) 13), .int (itS st (ix p0) 14), .int (itS st (ix p0) 15), .int (itS st (ix p0) 8), .int (itS st (ix p0) 9), .int (itS st (ix p0) 10), .int (ceR g (ix p0)), .ref (g.1 8 (ix p0)), .ref (g.1 9 (ix p0))]))) (g.1 7 (ix p0)) (.inr (8, [.ref (g.1 5 (tbN st (ix p0))), .int (itS st (ix p0) 1), .int (sof (itS st (ix p0) 2)), .int (itS st (ix p0) 3), .int (((itS st (ix p0) 1) - (itS st (ix p0) 3)) + (vsum (boS st (tbN st (ix p0))) p2 20)), .int p1, .int (itS st (ix p0) 5), .int (itS st (ix p0) 12), .int (itS st (ix p0) 13), .int (itS st (ix p0) 14), .int (itS st (ix p0) 15), .int (itS st (ix p0) 8), .int (itS st (ix p0) 9), .int (itS st (ix p0) 10), .int (ceR g (ix p0)), .ref (g.1 8 (ix p0)), .ref (g.1 9 (ix p0))]))) H := hP
                    have hI : mI A (mu (mu (mu (mu (mu Mw (g.1 0 0) (.inr (10, [.ref (g.1 1 0), .ref (g.1 2 0), .int (gS st 2), .int (gS st 3), .int (gS st 1), .int (gS st 0), .int 0]))) (g.1 0 0) (.inr (10, [.ref (g.1 1 0), .ref (g.1 2 0), .int (gS st 2), .int (gS st 3), .int (gS st 1), .int (gS st 0), .int 0]))) (g.1 0 0) (.inr (10, [.ref (g.1 1 0), .ref (g.1 2 0), .int ((gS st 2) - 0), .int (gS st 3), .int (gS st 1), .int (gS st 0), .int 0]))) (g.1 7 (ix p0)) (.inr (8, [.ref (g.1 5 (tbN st (ix p0))), .int (itS st (ix p0) 1), .int (sof (itS st (ix p0) 2)), .int (itS st (ix p0) 3), .int (itS st (ix p0) 7), .int p1, .int (itS st (ix p0) 5), .int (itS st (ix p0) 12), .int (itS st (ix p0) 13), .int (itS st (ix p0) 14), .int (itS st (ix p0) 15), .int (itS st (ix p0) 8), .int (itS st (ix p0) 9), .int (itS st (ix p0) 10), .int (ceR g (ix p0)), .ref (g.1 8 (ix p0)), .ref (g.1 9 (ix p0))]))) (g.1 7 (ix p0)) (.inr (8, [.ref (g.1 5 (tbN st (ix p0))), .int (itS st (ix p0) 1), .int (sof (itS st (ix p0) 2)), .int (itS st (ix p0) 3), .int (((itS st (ix p0) 1) - (itS st (ix p0) 3)) + (vsum (boS st (tbN st (ix p0))) p2 20)), .int p1, .int (itS st (ix p0) 5), .int (itS st (ix p0) 12), .int (itS st (ix p0) 13), .int (itS st (ix p0) 14), .int (itS st (ix p0) 15), .int (itS st (ix p0) 8), .int (itS st (ix p0) 9), .int (itS st (ix p0) 10), .int (ceR g (ix p0)), .ref (g.1 8 (ix p0)), .ref (g.1 9 (ix p0))]))) := hI
                    have h_X := mu_k (e := .inr (8, [.ref (g.1 5 (tbN st (ix p0))), .int (itS st (ix p0) 1), .int (sof (itS st (ix p0) 2)), .int (itS st (ix p0) 3), .int (((itS st (ix p0) 1) - (itS st (ix p0) 3)) + (vsum (boS st (tbN st (ix p0))) p2 20)), .int p1, .int (itS st (ix p0) 5), .int (itS st (ix p0) 12), .int (itS st (ix p0) 13), .int (itS st (ix p0) 14), .int (itS st (ix p0) 15), .int (itS st (ix p0) 8), .int (itS st (ix p0) 9), .int (itS st (ix p0) 10), .int (ceR g (ix p0)), .ref (g.1 8 (ix p0)), .ref (g.1 9 (ix p0))])) (kd_ne h_X h_I rfl) h_X
                    have h_TL := mu_k (e := .inr (8, [.ref (g.1 5 (tbN st (ix p0))), .int (itS st (ix p0) 1), .int (sof (itS st (ix p0) 2)), .int (itS st (ix p0) 3), .int (((itS st (ix p0) 1) - (itS st (ix p0) 3)) + (vsum (boS st (tbN st (ix p0))) p2 20)), .int p1, .int (itS st (ix p0) 5), .int (itS st (ix p0) 12), .int (itS st (ix p0) 13), .int (itS st (ix p0) 14), .int (itS st (ix p0) 15), .int (itS st (ix p0) 8), .int (itS st (ix p0) 9), .int (itS st (ix p0) 10), .int (ceR g (ix p0)), .ref (g.1 8 (ix p0)), .ref (g.1 9 (ix p0))])) (kd_ne h_TL h_I rfl) h_TL
                    have h_IL := mu_k (e := .inr (8, [.ref (g.1 5 (tbN st (ix p0))), .int (itS st (ix p0) 1), .int (sof (itS st (ix p0) 2)), .int (itS st (ix p0) 3), .int (((itS st (ix p0) 1) - (itS st (ix p0) 3)) + (vsum (boS st (tbN st (ix p0))) p2 20)), .int p1, .int (itS st (ix p0) 5), .int (itS st (ix p0) 12), .int (itS st (ix p0) 13), .int (itS st (ix p0) 14), .int (itS st (ix p0) 15), .int (itS st (ix p0) 8), .int (itS st (ix p0) 9), .int (itS st (ix p0) 10), .int (ceR g (ix p0)), .ref (g.1 8 (ix p0)), .ref (g.1 9 (ix p0))])) (kd_ne h_IL h_I rfl) h_IL
                    have h_ID := mu_k (e := .inr (8, [.ref (g.1 5 (tbN st (ix p0))), .int (itS st (ix p0) 1), .int (sof (itS st (ix p0) 2)), .int (itS st (ix p0) 3), .int (((itS st (ix p0) 1) - (itS st (ix p0) 3)) + (vsum (boS st (tbN st (ix p0))) p2 20)), .int p1, .int (itS st (ix p0) 5), .int (itS st (ix p0) 12), .int (itS st (ix p0) 13), .int (itS st (ix p0) 14), .int (itS st (ix p0) 15), .int (itS st (ix p0) 8), .int (itS st (ix p0) 9), .int (itS st (ix p0) 10), .int (ceR g (ix p0)), .ref (g.1 8 (ix p0)), .ref (g.1 9 (ix p0))])) (kd_ne h_ID h_I rfl) h_ID
                    have h_T := mu_k (e := .inr (8, [.ref (g.1 5 (tbN st (ix p0))), .int (itS st (ix p0) 1), .int (sof (itS st (ix p0) 2)), .int (itS st (ix p0) 3), .int (((itS st (ix p0) 1) - (itS st (ix p0) 3)) + (vsum (boS st (tbN st (ix p0))) p2 20)), .int p1, .int (itS st (ix p0) 5), .int (itS st (ix p0) 12), .int (itS st (ix p0) 13), .int (itS st (ix p0) 14), .int (itS st (ix p0) 15), .int (itS st (ix p0) 8), .int (itS st (ix p0) 9), .int (itS st (ix p0) 10), .int (ceR g (ix p0)), .ref (g.1 8 (ix p0)), .ref (g.1 9 (ix p0))])) (kd_ne h_T h_I rfl) h_T
                    have h_B := mu_k (e := .inr (8, [.ref (g.1 5 (tbN st (ix p0))), .int (itS st (ix p0) 1), .int (sof (itS st (ix p0) 2)), .int (itS st (ix p0) 3), .int (((itS st (ix p0) 1) - (itS st (ix p0) 3)) + (vsum (boS st (tbN st (ix p0))) p2 20)), .int p1, .int (itS st (ix p0) 5), .int (itS st (ix p0) 12), .int (itS st (ix p0) 13), .int (itS st (ix p0) 14), .int (itS st (ix p0) 15), .int (itS st (ix p0) 8), .int (itS st (ix p0) 9), .int (itS st (ix p0) 10), .int (ceR g (ix p0)), .ref (g.1 8 (ix p0)), .ref (g.1 9 (ix p0))])) (kd_ne h_B h_I rfl) h_B
                    rw [mu_uu] at hP hI h_X h_TL h_IL h_ID h_T h_B
                    have h_I : (mu (mu (mu (mu Mw (g.1 0 0) (.inr (10, [.ref (g.1 1 0), .ref (g.1 2 0), .int (gS st 2), .int (gS st 3), .int (gS st 1), .int (gS st 0), .int 0]))) (g.1 0 0) (.inr (10, [.ref (g.1 1 0), .ref (g.1 2 0), .int (gS st 2), .int (gS st 3), .int (gS st 1), .int (gS st 0), .int 0]))) (g.1 0 0) (.inr (10, [.ref (g.1 1 0), .ref (g.1 2 0), .int ((gS st 2) - 0), .int (gS st 3), .int (gS st 1), .int (gS st 0), .int 0]))) (g.1 7 (ix p0)) (.inr (8, [.ref (g.1 5 (tbN st (ix p0))), .int (itS st (ix p0) 1), .int (sof (itS st (ix p0) 2)), .int (itS st (ix p0) 3), .int (((itS st (ix p0) 1) - (itS st (ix p0) 3)) + (vsum (boS st (tbN st (ix p0))) p2 20)), .int p1, .int (itS st (ix p0) 5), .int (itS st (ix p0) 12), .int (itS st (ix p0) 13), .int (itS st (ix p0) 14), .int (itS st (ix p0) 15), .int (itS st (ix p0) 8), .int (itS st (ix p0) 9), .int (itS st (ix p0) 10), .int (ceR g (ix p0)), .ref (g.1 8 (ix p0)), .ref (g.1 9 (ix p0))]))) (g.1 7 (ix p0)) = some (.inr (8, [.ref (g.1 5 (tbN st (ix p0))), .int (itS st (ix p0) 1), .int (sof (itS st (ix p0) 2)), .int (itS st (ix p0) 3), .int (((itS st (ix p0) 1) - (itS st (ix p0) 3)) + (vsum (boS st (tbN st (ix p0))) p2 20)), .int p1, .int (itS st (ix p0) 5), .int (itS st (ix p0) 12), .int (itS st (ix p0) 13), .int (itS st (ix p0) 14), .int (itS st (ix p0) 15), .int (itS st (ix p0) 8), .int (itS st (ix p0) 9), .int (itS st (ix p0) 10), .int (ceR g (ix p0)), .ref (g.1 8 (ix p0)), .ref (g.1 9 (ix p0))])) := mu_s
                    refine lv_iload hx hb dX7_fill_165 (lv_at hl 0 rfl) ?_
                    refine W.widen (k := 0) (n := 0) (Nat.le_of_ble_eq_true rfl) (Nat.le_of_ble_eq_true rfl) ?_
                    exact W.iret (v := ((itS st (ix p0) 1) - (itS st (ix p0) 3)) + (vsum (boS st (tbN st (ix p0))) p2 20)) hx hb hr (fun t99 ht99 hW99 => ⟨⟨((itS st (ix p0) 1) - (itS st (ix p0) 3)) + (vsum (boS st (tbN st (ix p0))) p2 20), (mu (mu (mu (mu Mw (g.1 0 0) (.inr (10, [.ref (g.1 1 0), .ref (g.1 2 0), .int (gS st 2), .int (gS st 3), .int (gS st 1), .int (gS st 0), .int 0]))) (g.1 0 0) (.inr (10, [.ref (g.1 1 0), .ref (g.1 2 0), .int (gS st 2), .int (gS st 3), .int (gS st 1), .int (gS st 0), .int 0]))) (g.1 0 0) (.inr (10, [.ref (g.1 1 0), .ref (g.1 2 0), .int ((gS st 2) - 0), .int (gS st 3), .int (gS st 1), .int (gS st 0), .int 0]))) (g.1 7 (ix p0)) (.inr (8, [.ref (g.1 5 (tbN st (ix p0))), .int (itS st (ix p0) 1), .int (sof (itS st (ix p0) 2)), .int (itS st (ix p0) 3), .int (((itS st (ix p0) 1) - (itS st (ix p0) 3)) + (vsum (boS st (tbN st (ix p0))) p2 20)), .int p1, .int (itS st (ix p0) 5), .int (itS st (ix p0) 12), .int (itS st (ix p0) 13), .int (itS st (ix p0) 14), .int (itS st (ix p0) 15), .int (itS st (ix p0) 8), .int (itS st (ix p0) 9), .int (itS st (ix p0) 10), .int (ceR g (ix p0)), .ref (g.1 8 (ix p0)), .ref (g.1 9 (ix p0))]))), rfl, RP.ok (by unfold m_fill; first | (rw [chk_p hi9, chk_p (show eith p1 109 115 from Or.inr c20), chk_p hq_r22, chk_p (fill_p hV hi9.2 c26), chk_p c28, chk_p ha9]; done) | (rw [chk_p hi9, chk_p (show eith p1 109 115 from Or.inr c20), chk_p hq_r22, chk_p (fill_p hV hi9.2 c26), chk_p c28, chk_p ha9]; rfl)) (hR.io hi9.2 (fu (gS st) 2 (if p1 = 109 then gS st 2 - amt st (ix p0) p2 else gS st 2)) (filG st (ix p0) p1 (amt st (ix p0) p2)) rfl (ceR g (ix p0)) 0 (h_X.trans (congrArg some (by first | (rw [show (if p1 = 109 then gS st 2 - amt st (ix p0) p2 else gS st 2) = gS st 2 - 0 from (if_neg c35).trans (Int32.sub_zero _).symm]; done) | (rw [show (if p1 = 109 then gS st 2 - amt st (ix p0) p2 else gS st 2) = gS st 2 - 0 from (if_neg c35).trans (Int32.sub_zero _).symm]; rfl)))) h_I (fun x9 e9 hx9 h0 h1 => ((mu_n h1).trans ((mu_n h0).trans ((mu_n h0).trans ((mu_n h0).trans (rfl))))).trans hx9) ((hR.2.2.2.2 _ hi9.2).2.1)) rfl rfl, by rw [ht99]; exact hP, hI⟩, hS.F ht99⟩) hS.2.2 dX7_fill_167
                  · skip
                    refine lv_iload hx hb dX7_fill_142 (lv_at hl 0 rfl) ?_
                    refine lv_goto (tgt := 148) hx hb dX7_fill_144 (by decide) ?_
                    refine lv_isub hx hb dX7_fill_148 ?_
                    refine m_put (ci := 10) (v := .int ((gS st 2) - (((itS st (ix p0) 1) - (itS st (ix p0) 3)) + (vsum (boS st (tbN st (ix p0))) p2 20)))) (ty := .int) (C := RX7) (T := TX7) (N := 7) hx hb hts i_X7 tyX7 tyX7_ok nmX7 hown hK hP hI hS h_X rfl 2 (by decide) (hts (.fieldLink RX7 84 "MeniscusModel" "stock" "I") (by decide +kernel)) (fun _ h9 => h9) rfl (by decide +kernel) rfl rfl (Nat.le_of_ble_eq_true rfl) dX7_fill_149 (fun H locs hP hI hS => ?_)
                    have hP : mP G.1 (mu (mu (mu (mu Mw (g.1 0 0) (.inr (10, [.ref (g.1 1 0), .ref (g.1 2 0), .int (gS st 2), .int (gS st 3), .int (gS st 1), .int (gS st 0), .int 0]))) (g.1 0 0) (.inr (10, [.ref (g.1 1 0), .ref (g.1 2 0), .int (gS st 2), .int (gS st 3), .int (gS st 1), .int (gS st 0), .int 0]))) (g.1 0 0) (.inr (10, [.ref (g.1 1 0), .ref (g.1 2 0), .int (gS st 2), .int (gS st 3), .int (gS st 1), .int (gS st 0), .int 0]))) (g.1 0 0) (.inr (10, [.ref (g.1 1 0), .ref (g.1 2 0), .int ((gS st 2) - (((itS st (ix p0) 1) - (itS st (ix p0) 3)) + (vsum (boS st (tbN st (ix p0))) p2 20))), .int (gS st 3), .int (gS st 1), .int (gS st 0), .int 0]))) H := hP
                    have hI : mI A (mu (mu (mu (mu Mw (g.1 0 0) (.inr (10, [.ref (g.1 1 0), .ref (g.1 2 0), .int (gS st 2), .int (gS st 3), .int (gS st 1), .int (gS st 0), .int 0]))) (g.1 0 0) (.inr (10, [.ref (g.1 1 0), .ref (g.1 2 0), .int (gS st 2), .int (gS st 3), .int (gS st 1), .int (gS st 0), .int 0]))) (g.1 0 0) (.inr (10, [.ref (g.1 1 0), .ref (g.1 2 0), .int (gS st 2), .int (gS st 3), .int (gS st 1), .int (gS st 0), .int 0]))) (g.1 0 0) (.inr (10, [.ref (g.1 1 0), .ref (g.1 2 0), .int ((gS st 2) - (((itS st (ix p0) 1) - (itS st (ix p0) 3)) + (vsum (boS st (tbN st (ix p0))) p2 20))), .int (gS st 3), .int (gS st 1), .int (gS st 0), .int 0]))) := hI
                    have h_TL := mu_k (e := .inr (10, [.ref (g.1 1 0), .ref (g.1 2 0), .int ((gS st 2) - (((itS st (ix p0) 1) - (itS st (ix p0) 3)) + (vsum (boS st (tbN st (ix p0))) p2 20))), .int (gS st 3), .int (gS st 1), .int (gS st 0), .int 0])) (kd_ne h_TL h_X rfl) h_TL
                    have h_IL := mu_k (e := .inr (10, [.ref (g.1 1 0), .ref (g.1 2 0), .int ((gS st 2) - (((itS st (ix p0) 1) - (itS st (ix p0) 3)) + (vsum (boS st (tbN st (ix p0))) p2 20))), .int (gS st 3), .int (gS st 1), .int (gS st 0), .int 0])) (kd_ne h_IL h_X rfl) h_IL
                    have h_ID := mu_k (e := .inr (10, [.ref (g.1 1 0), .ref (g.1 2 0), .int ((gS st 2) - (((itS st (ix p0) 1) - (itS st (ix p0) 3)) + (vsum (boS st (tbN st (ix p0))) p2 20))), .int (gS st 3), .int (gS st 1), .int (gS st 0), .int 0])) (kd_ne h_ID h_X rfl) h_ID
                    have h_I := mu_k (e := .inr (10, [.ref (g.1 1 0), .ref (g.1 2 0), .int ((gS st 2) - (((itS st (ix p0) 1) - (itS st (ix p0) 3)) + (vsum (boS st (tbN st (ix p0))) p2 20))), .int (gS st 3), .int (gS st 1), .int (gS st 0), .int 0])) (kd_ne h_I h_X rfl) h_I
                    have h_T := mu_k (e := .inr (10, [.ref (g.1 1 0), .ref (g.1 2 0), .int ((gS st 2) - (((itS st (ix p0) 1) - (itS st (ix p0) 3)) + (vsum (boS st (tbN st (ix p0))) p2 20))), .int (gS st 3), .int (gS st 1), .int (gS st 0), .int 0])) (kd_ne h_T h_X rfl) h_T
                    have h_B := mu_k (e := .inr (10, [.ref (g.1 1 0), .ref (g.1 2 0), .int ((gS st 2) - (((itS st (ix p0) 1) - (itS st (ix p0) 3)) + (vsum (boS st (tbN st (ix p0))) p2 20))), .int (gS st 3), .int (gS st 1), .int (gS st 0), .int 0])) (kd_ne h_B h_X rfl) h_B
                    rw [mu_uu] at hP hI h_TL h_IL h_ID h_I h_T h_B
                    have h_X : (mu (mu (mu Mw (g.1 0 0) (.inr (10, [.ref (g.1 1 0), .ref (g.1 2 0), .int (gS st 2), .int (gS st 3), .int (gS st 1), .int (gS st 0), .int 0]))) (g.1 0 0) (.inr (10, [.ref (g.1 1 0), .ref (g.1 2 0), .int (gS st 2), .int (gS st 3), .int (gS st 1), .int (gS st 0), .int 0]))) (g.1 0 0) (.inr (10, [.ref (g.1 1 0), .ref (g.1 2 0), .int ((gS st 2) - (((itS st (ix p0) 1) - (itS st (ix p0) 3)) + (vsum (boS st (tbN st (ix p0))) p2 20))), .int (gS st 3), .int (gS st 1), .int (gS st 0), .int 0]))) (g.1 0 0) = some (.inr (10, [.ref (g.1 1 0), .ref (g.1 2 0), .int ((gS st 2) - (((itS st (ix p0) 1) - (itS st (ix p0) 3)) + (vsum (boS st (tbN st (ix p0))) p2 20))), .int (gS st 3), .int (gS st 1), .int (gS st 0), .int 0])) := mu_s
                    refine lv_aload hx hb dX7_fill_152 (lv_at hl 1 rfl) ?_
                    refine lv_iload_n hx hb dX7_fill_154 rfl (lv_at hl 4 rfl) ?_
                    refine m_putN (ci := 8) (v := .int p1) (ty := .char) (C := RX5) (T := TX5) (N := 17) hx hb hts i_X5 tyX5 tyX5_ok nmX5 hown hK hP hI hS h_I rfl 5 (by decide) (va_Nw.use rfl (hG.2.1.2.1 ("MeniscusModel", 100, "MeniscusModel$Instrument", "liquid", "C", "MeniscusModel") (by decide +kernel))) (fun _ h9 => h9) rfl (by decide +kernel) (nch (show eith p1 109 115 from Or.inr c20) ⟨rfl, rfl⟩ ⟨rfl, rfl⟩).1 (nch (show eith p1 109 115 from Or.inr c20) ⟨rfl, rfl⟩ ⟨rfl, rfl⟩).2 (Nat.le_of_ble_eq_true rfl) dX7_fill_155 (fun H locs hP hI hS => ?_)
                    have hP : mP G.1 (mu (mu (mu (mu Mw (g.1 0 0) (.inr (10, [.ref (g.1 1 0), .ref (g.1 2 0), .int (gS st 2), .int (gS st 3), .int (gS st 1), .int (gS st 0), .int 0]))) (g.1 0 0) (.inr (10, [.ref (g.1 1 0), .ref (g.1 2 0), .int (gS st 2), .int (gS st 3), .int (gS st 1), .int (gS st 0), .int 0]))) (g.1 0 0) (.inr (10, [.ref (g.1 1 0), .ref (g.1 2 0), .int ((gS st 2) - (((itS st (ix p0) 1) - (itS st (ix p0) 3)) + (vsum (boS st (tbN st (ix p0))) p2 20))), .int (gS st 3), .int (gS st 1), .int (gS st 0), .int 0]))) (g.1 7 (ix p0)) (.inr (8, [.ref (g.1 5 (tbN st (ix p0))), .int (itS st (ix p0) 1), .int (sof (itS st (ix p0) 2)), .int (itS st (ix p0) 3), .int (itS st (ix p0) 7), .int p1, .int (itS st (ix p0) 5), .int (itS st (ix p0) 12), .int (itS st (ix p0) 13), .int (itS st (ix p0) 14), .int (itS st (ix p0) 15), .int (itS st (ix p0) 8), .int (itS st (ix p0) 9), .int (itS st (ix p0) 10), .int (ceR g (ix p0)), .ref (g.1 8 (ix p0)), .ref (g.1 9 (ix p0))]))) H := hP
                    have hI : mI A (mu (mu (mu (mu Mw (g.1 0 0) (.inr (10, [.ref (g.1 1 0), .ref (g.1 2 0), .int (gS st 2), .int (gS st 3), .int (gS st 1), .int (gS st 0), .int 0]))) (g.1 0 0) (.inr (10, [.ref (g.1 1 0), .ref (g.1 2 0), .int (gS st 2), .int (gS st 3), .int (gS st 1), .int (gS st 0), .int 0]))) (g.1 0 0) (.inr (10, [.ref (g.1 1 0), .ref (g.1 2 0), .int ((gS st 2) - (((itS st (ix p0) 1) - (itS st (ix p0) 3)) + (vsum (boS st (tbN st (ix p0))) p2 20))), .int (gS st 3), .int (gS st 1), .int (gS st 0), .int 0]))) (g.1 7 (ix p0)) (.inr (8, [.ref (g.1 5 (tbN st (ix p0))), .int (itS st (ix p0) 1), .int (sof (itS st (ix p0) 2)), .int (itS st (ix p0) 3), .int (itS st (ix p0) 7), .int p1, .int (itS st (ix p0) 5), .int (itS st (ix p0) 12), .int (itS st (ix p0) 13), .int (itS st (ix p0) 14), .int (itS st (ix p0) 15), .int (itS st (ix p0) 8), .int (itS st (ix p0) 9), .int (itS st (ix p0) 10), .int (ceR g (ix p0)), .ref (g.1 8 (ix p0)), .ref (g.1 9 (ix p0))]))) := hI
                    have h_X := mu_k (e := .inr (8, [.ref (g.1 5 (tbN st (ix p0))), .int (itS st (ix p0) 1), .int (sof (itS st (ix p0) 2)), .int (itS st (ix p0) 3), .int (itS st (ix p0) 7), .int p1, .int (itS st (ix p0) 5), .int (itS st (ix p0) 12), .int (itS st (ix p0) 13), .int (itS st (ix p0) 14), .int (itS st (ix p0) 15), .int (itS st (ix p0) 8), .int (itS st (ix p0) 9), .int (itS st (ix p0) 10), .int (ceR g (ix p0)), .ref (g.1 8 (ix p0)), .ref (g.1 9 (ix p0))])) (kd_ne h_X h_I rfl) h_X
                    have h_TL := mu_k (e := .inr (8, [.ref (g.1 5 (tbN st (ix p0))), .int (itS st (ix p0) 1), .int (sof (itS st (ix p0) 2)), .int (itS st (ix p0) 3), .int (itS st (ix p0) 7), .int p1, .int (itS st (ix p0) 5), .int (itS st (ix p0) 12), .int (itS st (ix p0) 13), .int (itS st (ix p0) 14), .int (itS st (ix p0) 15), .int (itS st (ix p0) 8), .int (itS st (ix p0) 9), .int (itS st (ix p0) 10), .int (ceR g (ix p0)), .ref (g.1 8 (ix p0)), .ref (g.1 9 (ix p0))])) (kd_ne h_TL h_I rfl) h_TL
                    have h_IL := mu_k (e := .inr (8, [.ref (g.1 5 (tbN st (ix p0))), .int (itS st (ix p0) 1), .int (sof (itS st (ix p0) 2)), .int (itS st (ix p0) 3), .int (itS st (ix p0) 7), .int p1, .int (itS st (ix p0) 5), .int (itS st (ix p0) 12), .int (itS st (ix p0) 13), .int (itS st (ix p0) 14), .int (itS st (ix p0) 15), .int (itS st (ix p0) 8), .int (itS st (ix p0) 9), .int (itS st (ix p0) 10), .int (ceR g (ix p0)), .ref (g.1 8 (ix p0)), .ref (g.1 9 (ix p0))])) (kd_ne h_IL h_I rfl) h_IL
                    have h_ID := mu_k (e := .inr (8, [.ref (g.1 5 (tbN st (ix p0))), .int (itS st (ix p0) 1), .int (sof (itS st (ix p0) 2)), .int (itS st (ix p0) 3), .int (itS st (ix p0) 7), .int p1, .int (itS st (ix p0) 5), .int (itS st (ix p0) 12), .int (itS st (ix p0) 13), .int (itS st (ix p0) 14), .int (itS st (ix p0) 15), .int (itS st (ix p0) 8), .int (itS st (ix p0) 9), .int (itS st (ix p0) 10), .int (ceR g (ix p0)), .ref (g.1 8 (ix p0)), .ref (g.1 9 (ix p0))])) (kd_ne h_ID h_I rfl) h_ID
                    have h_T := mu_k (e := .inr (8, [.ref (g.1 5 (tbN st (ix p0))), .int (itS st (ix p0) 1), .int (sof (itS st (ix p0) 2)), .int (itS st (ix p0) 3), .int (itS st (ix p0) 7), .int p1, .int (itS st (ix p0) 5), .int (itS st (ix p0) 12), .int (itS st (ix p0) 13), .int (itS st (ix p0) 14), .int (itS st (ix p0) 15), .int (itS st (ix p0) 8), .int (itS st (ix p0) 9), .int (itS st (ix p0) 10), .int (ceR g (ix p0)), .ref (g.1 8 (ix p0)), .ref (g.1 9 (ix p0))])) (kd_ne h_T h_I rfl) h_T
                    have h_B := mu_k (e := .inr (8, [.ref (g.1 5 (tbN st (ix p0))), .int (itS st (ix p0) 1), .int (sof (itS st (ix p0) 2)), .int (itS st (ix p0) 3), .int (itS st (ix p0) 7), .int p1, .int (itS st (ix p0) 5), .int (itS st (ix p0) 12), .int (itS st (ix p0) 13), .int (itS st (ix p0) 14), .int (itS st (ix p0) 15), .int (itS st (ix p0) 8), .int (itS st (ix p0) 9), .int (itS st (ix p0) 10), .int (ceR g (ix p0)), .ref (g.1 8 (ix p0)), .ref (g.1 9 (ix p0))])) (kd_ne h_B h_I rfl) h_B
                    have h_I : (mu (mu (mu (mu Mw (g.1 0 0) (.inr (10, [.ref (g.1 1 0), .ref (g.1 2 0), .int (gS st 2), .int (gS st 3), .int (gS st 1), .int (gS st 0), .int 0]))) (g.1 0 0) (.inr (10, [.ref (g.1 1 0), .ref (g.1 2 0), .int (gS st 2), .int (gS st 3), .int (gS st 1), .int (gS st 0), .int 0]))) (g.1 0 0) (.inr (10, [.ref (g.1 1 0), .ref (g.1 2 0), .int ((gS st 2) - (((itS st (ix p0) 1) - (itS st (ix p0) 3)) + (vsum (boS st (tbN st (ix p0))) p2 20))), .int (gS st 3), .int (gS st 1), .int (gS st 0), .int 0]))) (g.1 7 (ix p0)) (.inr (8, [.ref (g.1 5 (tbN st (ix p0))), .int (itS st (ix p0) 1), .int (sof (itS st (ix p0) 2)), .int (itS st (ix p0) 3), .int (itS st (ix p0) 7), .int p1, .int (itS st (ix p0) 5), .int (itS st (ix p0) 12), .int (itS st (ix p0) 13), .int (itS st (ix p0) 14), .int (itS st (ix p0) 15), .int (itS st (ix p0) 8), .int (itS st (ix p0) 9), .int (itS st (ix p0) 10), .int (ceR g (ix p0)), .ref (g.1 8 (ix p0)), .ref (g.1 9 (ix p0))]))) (g.1 7 (ix p0)) = some (.inr (8, [.ref (g.1 5 (tbN st (ix p0))), .int (itS st (ix p0) 1), .int (sof (itS st (ix p0) 2)), .int (itS st (ix p0) 3), .int (itS st (ix p0) 7), .int p1, .int (itS st (ix p0) 5), .int (itS st (ix p0) 12), .int (itS st (ix p0) 13), .int (itS st (ix p0) 14), .int (itS st (ix p0) 15), .int (itS st (ix p0) 8), .int (itS st (ix p0) 9), .int (itS st (ix p0) 10), .int (ceR g (ix p0)), .ref (g.1 8 (ix p0)), .ref (g.1 9 (ix p0))])) := mu_s
                    refine lv_aload hx hb dX7_fill_158 (lv_at hl 1 rfl) ?_
                    refine lv_iload hx hb dX7_fill_160 (lv_at hl 0 rfl) ?_
                    refine m_putN (ci := 8) (v := .int (((itS st (ix p0) 1) - (itS st (ix p0) 3)) + (vsum (boS st (tbN st (ix p0))) p2 20))) (ty := .int) (C := RX5) (T := TX5) (N := 17) hx hb hts i_X5 tyX5 tyX5_ok nmX5 hown hK hP hI hS h_I rfl 4 (by decide) (va_Nw.use rfl (hG.2.1.2.1 ("MeniscusModel", 107, "MeniscusModel$Instrument", "inside", "I", "MeniscusModel") (by decide +kernel))) (fun _ h9 => h9) rfl (by decide +kernel) rfl rfl (Nat.le_of_ble_eq_true rfl) dX7_fill_162 (fun H locs hP hI hS => ?_)
                    have hP : mP G.1 (mu (mu (mu (mu (mu Mw (g.1 0 0) (.inr (10, [.ref (g.1 1 0), .ref (g.1 2 0), .int (gS st 2), .int (gS st 3), .int (gS st 1), .int (gS st 0), .int 0]))) (g.1 0 0) (.inr (10, [.ref (g.1 1 0), .ref (g.1 2 0), .int (gS st 2), .int (gS st 3), .int (gS st 1), .int (gS st 0), .int 0]))) (g.1 0 0) (.inr (10, [.ref (g.1 1 0), .ref (g.1 2 0), .int ((gS st 2) - (((itS st (ix p0) 1) - (itS st (ix p0) 3)) + (vsum (boS st (tbN st (ix p0))) p2 20))), .int (gS st 3), .int (gS st 1), .int (gS st 0), .int 0]))) (g.1 7 (ix p0)) (.inr (8, [.ref (g.1 5 (tbN st (ix p0))), .int (itS st (ix p0) 1), .int (sof (itS st (ix p0) 2)), .int (itS st (ix p0) 3), .int (itS st (ix p0) 7), .int p1, .int (itS st (ix p0) 5), .int (itS st (ix p0) 12), .int (itS st (ix p0) 13), .int (itS st (ix p0) 14), .int (itS st (ix p0) 15), .int (itS st (ix p0) 8), .int (itS st (ix p0) 9), .int (itS st (ix p0) 10), .int (ceR g (ix p0)), .ref (g.1 8 (ix p0)), .ref (g.1 9 (ix p0))]))) (g.1 7 (ix p0)) (.inr (8, [.ref (g.1 5 (tbN st (ix p0))), .int (itS st (ix p0) 1), .int (sof (itS st (ix p0) 2)), .int (itS st (ix p0) 3), .int (((itS st (ix p0) 1) - (itS st (ix p0) 3)) + (vsum (boS st (tbN st (ix p0))) p2 20)), .int p1, .int (itS st (ix p0) 5), .int (itS st (ix p0) 12), .int (itS st (ix p0) 13), .int (itS st (ix p0) 14), .int (itS st (ix p0) 15), .int (itS st (ix p0) 8), .int (itS st (ix p0) 9), .int (itS st (ix p0) 10), .int (ceR g (ix p0)), .ref (g.1 8 (ix p0)), .ref (g.1 9 (ix p0))]))) H := hP
                    have hI : mI A (mu (mu (mu (mu (mu Mw (g.1 0 0) (.inr (10, [.ref (g.1 1 0), .ref (g.1 2 0), .int (gS st 2), .int (gS st 3), .int (gS st 1), .int (gS st 0), .int 0]))) (g.1 0 0) (.inr (10, [.ref (g.1 1 0), .ref (g.1 2 0), .int (gS st 2), .int (gS st 3), .int (gS st 1), .int (gS st 0), .int 0]))) (g.1 0 0) (.inr (10, [.ref (g.1 1 0), .ref (g.1 2 0), .int ((gS st 2) - (((itS st (ix p0) 1) - (itS st (ix p0) 3)) + (vsum (boS st (tbN st (ix p0))) p2 20))), .int (gS st 3), .int (gS st 1), .int (gS st 0), .int 0]))) (g.1 7 (ix p0)) (.inr (8, [.ref (g.1 5 (tbN st (ix p0))), .int (itS st (ix p0) 1), .int (sof (itS st (ix p0) 2)), .int (itS st (ix p0) 3), .int (itS st (ix p0) 7), .int p1, .int (itS st (ix p0) 5), .int (itS st (ix p0) 12), .int (itS st (ix p0) 13), .int (itS st (ix p0) 14), .int (itS st (ix p0) 15), .int (itS st (ix p0) 8), .int (itS st (ix p0) 9), .int (itS st (ix p0) 10), .int (ceR g (ix p0)), .ref (g.1 8 (ix p0)), .ref (g.1 9 (ix p0))]))) (g.1 7 (ix p0)) (.inr (8, [.ref (g.1 5 (tbN st (ix p0))), .int (itS st (ix p0) 1), .int (sof (itS st (ix p0) 2)), .int (itS st (ix p0) 3), .int (((itS st (ix p0) 1) - (itS st (ix p0) 3)) + (vsum (boS st (tbN st (ix p0))) p2 20)), .int p1, .int (itS st (ix p0) 5), .int (itS st (ix p0) 12), .int (itS st (ix p0) 13), .int (itS st (ix p0) 14), .int (itS st (ix p0) 15), .int (itS st (ix p0) 8), .int (itS st (ix p0) 9), .int (itS st (ix p0) 10), .int (ceR g (ix p0)), .ref (g.1 8 (ix p0)), .ref (g.1 9 (ix p0))]))) := hI
                    have h_X := mu_k (e := .inr (8, [.ref (g.1 5 (tbN st (ix p0))), .int (itS st (ix p0) 1), .int (sof (itS st (ix p0) 2)), .int (itS st (ix p0) 3), .int (((itS st (ix p0) 1) - (itS st (ix p0) 3)) + (vsum (boS st (tbN st (ix p0))) p2 20)), .int p1, .int (itS st (ix p0) 5), .int (itS st (ix p0) 12), .int (itS st (ix p0) 13), .int (itS st (ix p0) 14), .int (itS st (ix p0) 15), .int (itS st (ix p0) 8), .int (itS st (ix p0) 9), .int (itS st (ix p0) 10), .int (ceR g (ix p0)), .ref (g.1 8 (ix p0)), .ref (g.1 9 (ix p0))])) (kd_ne h_X h_I rfl) h_X
                    have h_TL := mu_k (e := .inr (8, [.ref (g.1 5 (tbN st (ix p0))), .int (itS st (ix p0) 1), .int (sof (itS st (ix p0) 2)), .int (itS st (ix p0) 3), .int (((itS st (ix p0) 1) - (itS st (ix p0) 3)) + (vsum (boS st (tbN st (ix p0))) p2 20)), .int p1, .int (itS st (ix p0) 5), .int (itS st (ix p0) 12), .int (itS st (ix p0) 13), .int (itS st (ix p0) 14), .int (itS st (ix p0) 15), .int (itS st (ix p0) 8), .int (itS st (ix p0) 9), .int (itS st (ix p0) 10), .int (ceR g (ix p0)), .ref (g.1 8 (ix p0)), .ref (g.1 9 (ix p0))])) (kd_ne h_TL h_I rfl) h_TL
                    have h_IL := mu_k (e := .inr (8, [.ref (g.1 5 (tbN st (ix p0))), .int (itS st (ix p0) 1), .int (sof (itS st (ix p0) 2)), .int (itS st (ix p0) 3), .int (((itS st (ix p0) 1) - (itS st (ix p0) 3)) + (vsum (boS st (tbN st (ix p0))) p2 20)), .int p1, .int (itS st (ix p0) 5), .int (itS st (ix p0) 12), .int (itS st (ix p0) 13), .int (itS st (ix p0) 14), .int (itS st (ix p0) 15), .int (itS st (ix p0) 8), .int (itS st (ix p0) 9), .int (itS st (ix p0) 10), .int (ceR g (ix p0)), .ref (g.1 8 (ix p0)), .ref (g.1 9 (ix p0))])) (kd_ne h_IL h_I rfl) h_IL
                    have h_ID := mu_k (e := .inr (8, [.ref (g.1 5 (tbN st (ix p0))), .int (itS st (ix p0) 1), .int (sof (itS st (ix p0) 2)), .int (itS st (ix p0) 3), .int (((itS st (ix p0) 1) - (itS st (ix p0) 3)) + (vsum (boS st (tbN st (ix p0))) p2 20)), .int p1, .int (itS st (ix p0) 5), .int (itS st (ix p0) 12), .int (itS st (ix p0) 13), .int (itS st (ix p0) 14), .int (itS st (ix p0) 15), .int (itS st (ix p0) 8), .int (itS st (ix p0) 9), .int (itS st (ix p0) 10), .int (ceR g (ix p0)), .ref (g.1 8 (ix p0)), .ref (g.1 9 (ix p0))])) (kd_ne h_ID h_I rfl) h_ID
                    have h_T := mu_k (e := .inr (8, [.ref (g.1 5 (tbN st (ix p0))), .int (itS st (ix p0) 1), .int (sof (itS st (ix p0) 2)), .int (itS st (ix p0) 3), .int (((itS st (ix p0) 1) - (itS st (ix p0) 3)) + (vsum (boS st (tbN st (ix p0))) p2 20)), .int p1, .int (itS st (ix p0) 5), .int (itS st (ix p0) 12), .int (itS st (ix p0) 13), .int (itS st (ix p0) 14), .int (itS st (ix p0) 15), .int (itS st (ix p0) 8), .int (itS st (ix p0) 9), .int (itS st (ix p0) 10), .int (ceR g (ix p0)), .ref (g.1 8 (ix p0)), .ref (g.1 9 (ix p0))])) (kd_ne h_T h_I rfl) h_T
                    have h_B := mu_k (e := .inr (8, [.ref (g.1 5 (tbN st (ix p0))), .int (itS st (ix p0) 1), .int (sof (itS st (ix p0) 2)), .int (itS st (ix p0) 3), .int (((itS st (ix p0) 1) - (itS st (ix p0) 3)) + (vsum (boS st (tbN st (ix p0))) p2 20)), .int p1, .int (itS st (ix p0) 5), .int (itS st (ix p0) 12), .int (itS st (ix p0) 13), .int (itS st (ix p0) 14), .int (itS st (ix p0) 15), .int (itS st (ix p0) 8), .int (itS st (ix p0) 9), .int (itS st (ix p0) 10), .int (ceR g (ix p0)), .ref (g.1 8 (ix p0)), .ref (g.1 9 (ix p0))])) (kd_ne h_B h_I rfl) h_B
                    rw [mu_uu] at hP hI h_X h_TL h_IL h_ID h_T h_B
                    have h_I : (mu (mu (mu (mu Mw (g.1 0 0) (.inr (10, [.ref (g.1 1 0), .ref (g.1 2 0), .int (gS st 2), .int (gS st 3), .int (gS st 1), .int (gS st 0), .int 0]))) (g.1 0 0) (.inr (10, [.ref (g.1 1 0), .ref (g.1 2 0), .int (gS st 2), .int (gS st 3), .int (gS st 1), .int (gS st 0), .int 0]))) (g.1 0 0) (.inr (10, [.ref (g.1 1 0), .ref (g.1 2 0), .int ((gS st 2) - (((itS st (ix p0) 1) - (itS st (ix p0) 3)) + (vsum (boS st (tbN st (ix p0))) p2 20))), .int (gS st 3), .int (gS st 1), .int (gS st 0), .int 0]))) (g.1 7 (ix p0)) (.inr (8, [.ref (g.1 5 (tbN st (ix p0))), .int (itS st (ix p0) 1), .int (sof (itS st (ix p0) 2)), .int (itS st (ix p0) 3), .int (((itS st (ix p0) 1) - (itS st (ix p0) 3)) + (vsum (boS st (tbN st (ix p0))) p2 20)), .int p1, .int (itS st (ix p0) 5), .int (itS st (ix p0) 12), .int (itS st (ix p0) 13), .int (itS st (ix p0) 14), .int (itS st (ix p0) 15), .int (itS st (ix p0) 8), .int (itS st (ix p0) 9), .int (itS st (ix p0) 10), .int (ceR g (ix p0)), .ref (g.1 8 (ix p0)), .ref (g.1 9 (ix p0))]))) (g.1 7 (ix p0)) = some (.inr (8, [.ref (g.1 5 (tbN st (ix p0))), .int (itS st (ix p0) 1), .int (sof (itS st (ix p0) 2)), .int (itS st (ix p0) 3), .int (((itS st (ix p0) 1) - (itS st (ix p0) 3)) + (vsum (boS st (tbN st (ix p0))) p2 20)), .int p1, .int (itS st (ix p0) 5), .int (itS st (ix p0) 12), .int (itS st (ix p0) 13), .int (itS st (ix p0) 14), .int (itS st (ix p0) 15), .int (itS st (ix p0) 8), .int (itS st (ix p0) 9), .int (itS st (ix p0) 10), .int (ceR g (ix p0)), .ref (g.1 8 (ix p0)), .ref (g.1 9 (ix p0))])) := mu_s
                    refine lv_iload hx hb dX7_fill_165 (lv_at hl 0 rfl) ?_
                    refine W.widen (k := 0) (n := 0) (Nat.le_of_ble_eq_true rfl) (Nat.le_of_ble_eq_true rfl) ?_
                    exact W.iret (v := ((itS st (ix p0) 1) - (itS st (ix p0) 3)) + (vsum (boS st (tbN st (ix p0))) p2 20)) hx hb hr (fun t99 ht99 hW99 => ⟨⟨((itS st (ix p0) 1) - (itS st (ix p0) 3)) + (vsum (boS st (tbN st (ix p0))) p2 20), (mu (mu (mu (mu Mw (g.1 0 0) (.inr (10, [.ref (g.1 1 0), .ref (g.1 2 0), .int (gS st 2), .int (gS st 3), .int (gS st 1), .int (gS st 0), .int 0]))) (g.1 0 0) (.inr (10, [.ref (g.1 1 0), .ref (g.1 2 0), .int (gS st 2), .int (gS st 3), .int (gS st 1), .int (gS st 0), .int 0]))) (g.1 0 0) (.inr (10, [.ref (g.1 1 0), .ref (g.1 2 0), .int ((gS st 2) - (((itS st (ix p0) 1) - (itS st (ix p0) 3)) + (vsum (boS st (tbN st (ix p0))) p2 20))), .int (gS st 3), .int (gS st 1), .int (gS st 0), .int 0]))) (g.1 7 (ix p0)) (.inr (8, [.ref (g.1 5 (tbN st (ix p0))), .int (itS st (ix p0) 1), .int (sof (itS st (ix p0) 2)), .int (itS st (ix p0) 3), .int (((itS st (ix p0) 1) - (itS st (ix p0) 3)) + (vsum (boS st (tbN st (ix p0))) p2 20)), .int p1, .int (itS st (ix p0) 5), .int (itS st (ix p0) 12), .int (itS st (ix p0) 13), .int (itS st (ix p0) 14), .int (itS st (ix p0) 15), .int (itS st (ix p0) 8), .int (itS st (ix p0) 9), .int (itS st (ix p0) 10), .int (ceR g (ix p0)), .ref (g.1 8 (ix p0)), .ref (g.1 9 (ix p0))]))), rfl, RP.ok (by unfold m_fill; first | (rw [chk_p hi9, chk_p (show eith p1 109 115 from Or.inr c20), chk_p hq_r22, chk_p (fill_p hV hi9.2 c26), chk_p c28, chk_p ha9]; done) | (rw [chk_p hi9, chk_p (show eith p1 109 115 from Or.inr c20), chk_p hq_r22, chk_p (fill_p hV hi9.2 c26), chk_p c28, chk_p ha9]; rfl)) (hR.io hi9.2 (fu (gS st) 2 (if p1 = 109 then gS st 2 - amt st (ix p0) p2 else gS st 2)) (filG st (ix p0) p1 (amt st (ix p0) p2)) rfl (ceR g (ix p0)) 0 (h_X.trans (congrArg some (by first | (rw [show (if p1 = 109 then gS st 2 - amt st (ix p0) p2 else gS st 2) = gS st 2 - amt st (ix p0) p2 from if_pos c35]; done) | (rw [show (if p1 = 109 then gS st 2 - amt st (ix p0) p2 else gS st 2) = gS st 2 - amt st (ix p0) p2 from if_pos c35]; rfl)))) h_I (fun x9 e9 hx9 h0 h1 => ((mu_n h1).trans ((mu_n h0).trans ((mu_n h0).trans ((mu_n h0).trans (rfl))))).trans hx9) ((hR.2.2.2.2 _ hi9.2).2.1)) rfl rfl, by rw [ht99]; exact hP, hI⟩, hS.F ht99⟩) hS.2.2 dX7_fill_167
                · skip
                  have ha9 : ¬ (p1 = 109 → amt st (ix p0) p2 ≤ gS st 2) := fun q9 => c33 (q9 c30)
                  refine lv_iconst (v := 1) hx hb dX7_fill_117 (by decide) ?_
                  refine lv_goto (tgt := 122) hx hb dX7_fill_118 (by decide) ?_
                  refine lv_iconst (v := 3) hx hb dX7_fill_122 (by decide) ?_
                  refine m_calli (va_runV (As := [.int 1, .int 3]) (rest := []) ⟨hx, hb, hml, hown, hts⟩ (c_X7_isThrown1 l G A (mu (mu Mw (g.1 0 0) (.inr (10, [.ref (g.1 1 0), .ref (g.1 2 0), .int (gS st 2), .int (gS st 3), .int (gS st 1), .int (gS st 0), .int 0]))) (g.1 0 0) (.inr (10, [.ref (g.1 1 0), .ref (g.1 2 0), .int (gS st 2), .int (gS st 3), .int (gS st 1), .int (gS st 0), .int 0])))  3 h_X) (cwV 2 hts gX7_fill_X7_isThrown rfl rfl rfl (by decide +kernel) ⟨Nat.le_of_ble_eq_true rfl, Nat.le_of_ble_eq_true rfl⟩) (mPreV hG hS hP hI hA (hP _ _ h_X) (r := (RX7, TX7, 7)) rfl) rfl rfl hl.1 rfl (lv_room (Nat.le_of_ble_eq_true rfl)) dX7_fill_123 ⟨Nat.le_of_ble_eq_true rfl, Nat.le_of_ble_eq_true rfl⟩) hS (fun r36 Mw1 H locs hp_r36 hP hI hS => ?_)
                  obtain ⟨hp_r36, hm9⟩ := hp_r36
                  subst Mw1
                  subst hp_r36
                  have h_TL := mu_k (e := .inr (10, [.ref (g.1 1 0), .ref (g.1 2 0), .int (gS st 2), .int (gS st 3), .int (gS st 1), .int (gS st 0), .int 3])) (kd_ne h_TL h_X rfl) h_TL
                  have h_IL := mu_k (e := .inr (10, [.ref (g.1 1 0), .ref (g.1 2 0), .int (gS st 2), .int (gS st 3), .int (gS st 1), .int (gS st 0), .int 3])) (kd_ne h_IL h_X rfl) h_IL
                  have h_ID := mu_k (e := .inr (10, [.ref (g.1 1 0), .ref (g.1 2 0), .int (gS st 2), .int (gS st 3), .int (gS st 1), .int (gS st 0), .int 3])) (kd_ne h_ID h_X rfl) h_ID
                  have h_I := mu_k (e := .inr (10, [.ref (g.1 1 0), .ref (g.1 2 0), .int (gS st 2), .int (gS st 3), .int (gS st 1), .int (gS st 0), .int 3])) (kd_ne h_I h_X rfl) h_I
                  have h_T := mu_k (e := .inr (10, [.ref (g.1 1 0), .ref (g.1 2 0), .int (gS st 2), .int (gS st 3), .int (gS st 1), .int (gS st 0), .int 3])) (kd_ne h_T h_X rfl) h_T
                  have h_B := mu_k (e := .inr (10, [.ref (g.1 1 0), .ref (g.1 2 0), .int (gS st 2), .int (gS st 3), .int (gS st 1), .int (gS st 0), .int 3])) (kd_ne h_B h_X rfl) h_B
                  have h_X : (mu (mu (mu Mw (g.1 0 0) (.inr (10, [.ref (g.1 1 0), .ref (g.1 2 0), .int (gS st 2), .int (gS st 3), .int (gS st 1), .int (gS st 0), .int 0]))) (g.1 0 0) (.inr (10, [.ref (g.1 1 0), .ref (g.1 2 0), .int (gS st 2), .int (gS st 3), .int (gS st 1), .int (gS st 0), .int 0]))) (g.1 0 0) (.inr (10, [.ref (g.1 1 0), .ref (g.1 2 0), .int (gS st 2), .int (gS st 3), .int (gS st 1), .int (gS st 0), .int 3]))) (g.1 0 0) = some (.inr (10, [.ref (g.1 1 0), .ref (g.1 2 0), .int (gS st 2), .int (gS st 3), .int (gS st 1), .int (gS st 0), .int 3])) := mu_s
                  refine lv_if_eq (tgt := 131) hx hb dX7_fill_126 (by decide) (fun h9 => absurd h9 (by decide)) (fun _ => ?_)
                  refine lv_iconst (v := 0) hx hb dX7_fill_129 (by decide) ?_
                  refine W.widen (k := 0) (n := 0) (Nat.le_of_ble_eq_true rfl) (Nat.le_of_ble_eq_true rfl) ?_
                  exact W.iret (v := 0) hx hb hr (fun t99 ht99 hW99 => ⟨⟨0, (mu (mu (mu Mw (g.1 0 0) (.inr (10, [.ref (g.1 1 0), .ref (g.1 2 0), .int (gS st 2), .int (gS st 3), .int (gS st 1), .int (gS st 0), .int 0]))) (g.1 0 0) (.inr (10, [.ref (g.1 1 0), .ref (g.1 2 0), .int (gS st 2), .int (gS st 3), .int (gS st 1), .int (gS st 0), .int 0]))) (g.1 0 0) (.inr (10, [.ref (g.1 1 0), .ref (g.1 2 0), .int (gS st 2), .int (gS st 3), .int (gS st 1), .int (gS st 0), .int 3]))), rfl, RP.no (k := 3) (by unfold m_fill; first | (rw [chk_p hi9, chk_p (show eith p1 109 115 from Or.inr c20), chk_p hq_r22, chk_p (fill_p hV hi9.2 c26), chk_p c28, chk_n ha9]; done) | (rw [chk_p hi9, chk_p (show eith p1 109 115 from Or.inr c20), chk_p hq_r22, chk_p (fill_p hV hi9.2 c26), chk_p c28, chk_n ha9]; rfl)) (by decide) (hR.th 3 h_X (fun x9 e9 hx9 h0 => ((mu_n h0).trans ((mu_n h0).trans ((mu_n h0).trans (rfl)))).trans hx9)) rfl rfl, by rw [ht99]; exact hP, hI⟩, hS.F ht99⟩) hS.2.2 dX7_fill_130
        · subst hr9
          refine lv_if_eq (tgt := 37) hx hb dX7_fill_30 (by decide) (fun h9 => absurd h9 (by decide)) (fun _ => ?_)
          refine lv_iconst (v := 1) hx hb dX7_fill_33 (by decide) ?_
          refine lv_goto (tgt := 38) hx hb dX7_fill_34 (by decide) ?_
          refine lv_iconst (v := 2) hx hb dX7_fill_38 (by decide) ?_
          refine m_calli (va_runV (As := [.int 1, .int 2]) (rest := []) ⟨hx, hb, hml, hown, hts⟩ (c_X7_isThrown1 l G A (mu Mw (g.1 0 0) (.inr (10, [.ref (g.1 1 0), .ref (g.1 2 0), .int (gS st 2), .int (gS st 3), .int (gS st 1), .int (gS st 0), .int 0])))  2 h_X) (cwV 2 hts gX7_fill_X7_isThrown rfl rfl rfl (by decide +kernel) ⟨Nat.le_of_ble_eq_true rfl, Nat.le_of_ble_eq_true rfl⟩) (mPreV hG hS hP hI hA (hP _ _ h_X) (r := (RX7, TX7, 7)) rfl) rfl rfl hl.1 rfl (lv_room (Nat.le_of_ble_eq_true rfl)) dX7_fill_39 ⟨Nat.le_of_ble_eq_true rfl, Nat.le_of_ble_eq_true rfl⟩) hS (fun r37 Mw1 H locs hp_r37 hP hI hS => ?_)
          obtain ⟨hp_r37, hm9⟩ := hp_r37
          subst Mw1
          subst hp_r37
          have h_TL := mu_k (e := .inr (10, [.ref (g.1 1 0), .ref (g.1 2 0), .int (gS st 2), .int (gS st 3), .int (gS st 1), .int (gS st 0), .int 2])) (kd_ne h_TL h_X rfl) h_TL
          have h_IL := mu_k (e := .inr (10, [.ref (g.1 1 0), .ref (g.1 2 0), .int (gS st 2), .int (gS st 3), .int (gS st 1), .int (gS st 0), .int 2])) (kd_ne h_IL h_X rfl) h_IL
          have h_ID := mu_k (e := .inr (10, [.ref (g.1 1 0), .ref (g.1 2 0), .int (gS st 2), .int (gS st 3), .int (gS st 1), .int (gS st 0), .int 2])) (kd_ne h_ID h_X rfl) h_ID
          have h_I := mu_k (e := .inr (10, [.ref (g.1 1 0), .ref (g.1 2 0), .int (gS st 2), .int (gS st 3), .int (gS st 1), .int (gS st 0), .int 2])) (kd_ne h_I h_X rfl) h_I
          have h_T := mu_k (e := .inr (10, [.ref (g.1 1 0), .ref (g.1 2 0), .int (gS st 2), .int (gS st 3), .int (gS st 1), .int (gS st 0), .int 2])) (kd_ne h_T h_X rfl) h_T
          have h_B := mu_k (e := .inr (10, [.ref (g.1 1 0), .ref (g.1 2 0), .int (gS st 2), .int (gS st 3), .int (gS st 1), .int (gS st 0), .int 2])) (kd_ne h_B h_X rfl) h_B
          have h_X : (mu (mu Mw (g.1 0 0) (.inr (10, [.ref (g.1 1 0), .ref (g.1 2 0), .int (gS st 2), .int (gS st 3), .int (gS st 1), .int (gS st 0), .int 0]))) (g.1 0 0) (.inr (10, [.ref (g.1 1 0), .ref (g.1 2 0), .int (gS st 2), .int (gS st 3), .int (gS st 1), .int (gS st 0), .int 2]))) (g.1 0 0) = some (.inr (10, [.ref (g.1 1 0), .ref (g.1 2 0), .int (gS st 2), .int (gS st 3), .int (gS st 1), .int (gS st 0), .int 2])) := mu_s
          refine lv_if_eq (tgt := 47) hx hb dX7_fill_42 (by decide) (fun h9 => absurd h9 (by decide)) (fun _ => ?_)
          refine lv_iconst (v := 0) hx hb dX7_fill_45 (by decide) ?_
          refine W.widen (k := 0) (n := 0) (Nat.le_of_ble_eq_true rfl) (Nat.le_of_ble_eq_true rfl) ?_
          exact W.iret (v := 0) hx hb hr (fun t99 ht99 hW99 => ⟨⟨0, (mu (mu Mw (g.1 0 0) (.inr (10, [.ref (g.1 1 0), .ref (g.1 2 0), .int (gS st 2), .int (gS st 3), .int (gS st 1), .int (gS st 0), .int 0]))) (g.1 0 0) (.inr (10, [.ref (g.1 1 0), .ref (g.1 2 0), .int (gS st 2), .int (gS st 3), .int (gS st 1), .int (gS st 0), .int 2]))), rfl, RP.no (k := 2) (by unfold m_fill; first | (rw [chk_p hi9, chk_p (show eith p1 109 115 from Or.inr c20), chk_n hq_r22]; done) | (rw [chk_p hi9, chk_p (show eith p1 109 115 from Or.inr c20), chk_n hq_r22]; rfl)) (by decide) (hR.th 2 h_X (fun x9 e9 hx9 h0 => ((mu_n h0).trans ((mu_n h0).trans (rfl))).trans hx9)) rfl rfl, by rw [ht99]; exact hP, hI⟩, hS.F ht99⟩) hS.2.2 dX7_fill_46
  · subst hr9
    refine lv_iconst (v := 1) hx hb dX7_fill_6 (by decide) ?_
    refine m_calli (va_runV (As := [.int 1, .int 1]) (rest := []) ⟨hx, hb, hml, hown, hts⟩ (c_X7_isThrown1 l G A Mw  1 h_X) (cwV 2 hts gX7_fill_X7_isThrown rfl rfl rfl (by decide +kernel) ⟨Nat.le_of_ble_eq_true rfl, Nat.le_of_ble_eq_true rfl⟩) (mPreV hG hS hP hI hA (hP _ _ h_X) (r := (RX7, TX7, 7)) rfl) rfl rfl hl.1 rfl (lv_room (Nat.le_of_ble_eq_true rfl)) dX7_fill_7 ⟨Nat.le_of_ble_eq_true rfl, Nat.le_of_ble_eq_true rfl⟩) hS (fun r38 Mw1 H locs hp_r38 hP hI hS => ?_)
    obtain ⟨hp_r38, hm9⟩ := hp_r38
    subst Mw1
    subst hp_r38
    have h_TL := mu_k (e := .inr (10, [.ref (g.1 1 0), .ref (g.1 2 0), .int (gS st 2), .int (gS st 3), .int (gS st 1), .int (gS st 0), .int 1])) (kd_ne h_TL h_X rfl) h_TL
    have h_IL := mu_k (e := .inr (10, [.ref (g.1 1 0), .ref (g.1 2 0), .int (gS st 2), .int (gS st 3), .int (gS st 1), .int (gS st 0), .int 1])) (kd_ne h_IL h_X rfl) h_IL
    have h_X : (mu Mw (g.1 0 0) (.inr (10, [.ref (g.1 1 0), .ref (g.1 2 0), .int (gS st 2), .int (gS st 3), .int (gS st 1), .int (gS st 0), .int 1]))) (g.1 0 0) = some (.inr (10, [.ref (g.1 1 0), .ref (g.1 2 0), .int (gS st 2), .int (gS st 3), .int (gS st 1), .int (gS st 0), .int 1])) := mu_s
    refine lv_if_ne (tgt := 45) hx hb dX7_fill_10 (by decide) (fun _ => ?_) (fun h9 => absurd h9 (by decide))
    refine lv_iconst (v := 0) hx hb dX7_fill_45 (by decide) ?_
    refine W.widen (k := 0) (n := 0) (Nat.le_of_ble_eq_true rfl) (Nat.le_of_ble_eq_true rfl) ?_
    exact W.iret (v := 0) hx hb hr (fun t99 ht99 hW99 => ⟨⟨0, (mu Mw (g.1 0 0) (.inr (10, [.ref (g.1 1 0), .ref (g.1 2 0), .int (gS st 2), .int (gS st 3), .int (gS st 1), .int (gS st 0), .int 1]))), rfl, RP.no (k := 1) (by unfold m_fill; first | (rw [chk_n hq_r1]; done) | (rw [chk_n hq_r1]; rfl)) (by decide) (hR.th 1 h_X (fun x9 e9 hx9 h0 => ((mu_n h0).trans (rfl)).trans hx9)) rfl rfl, by rw [ht99]; exact hP, hI⟩, hS.F ht99⟩) hS.2.2 dX7_fill_46

set_option maxHeartbeats 4000000 in
set_option maxRecDepth 100000 in
theorem c_X7_stock (l : Launch) (G : mg) (A : Nat → Prop) (Mw : mw) (st : St) (g : gR) (hR : RS G st g Mw) : Met l yX7_stock wsX7_stock ({ frames := 0, cells := 0, slots := 0, locals := 0 }) (va_Pc [.ref (g.1 0 0)] (mB G A Mw)) (va_Qi (fun r Mw1 => r = gS st 2 ∧ RS G st (tG g 0) Mw1) (mE G A) A) 0 0 A := by
  refine Met.ofW (cc := cX7_stock) (maxL := 1) (ret := (some .int)) (by decide) rfl ?_
  intro p e s m args below meth c s₁ B hml hv
  obtain ⟨rfl, hG, hP, hI, hA⟩ := hv
  have hx := B.exec
  have hb := B.bytes
  have hr := B.returns
  have hts := atoms_spec (ws := wsX7_stock) B.pre
  have hown : s.vm.findClass RX7 = some m.cls := findClass_of_methodNamed B.named
  have hlocks := B.notSynchronized
  have hK := hG.K
  have i_X7 : ∀ w ∈ wsX70, w ∈ wsX7_stock := by decide +kernel
  have hS : va_S A s.heap s.heap [] := va_S.rf
  have hl := lv_entry ([.ref (g.1 0 0)]) (n := 1) (Nat.le_of_ble_eq_true rfl)
  rw [lg_entry_eq]
  generalize (lg_sl ([.ref (g.1 0 0)]) ++ List.replicate (1 - (lg_sl ([.ref (g.1 0 0)])).length) Slot.unset).toArray = ls at hl ⊢
  have hl : lv_has ls 1 [(0, .ref (g.1 0 0))] := hl
  have hP : mP G.1 Mw s.heap := hP
  have h_X : Mw (g.1 0 0) = some (.inr (10, [.ref (g.1 1 0), .ref (g.1 2 0), .int (gS st 2), .int (gS st 3), .int (gS st 1), .int (gS st 0), .int (thR g)])) := hR.1 0 0 ro0
  refine lv_aload_n hx hb dX7_stock_0 rfl (lv_at hl 0 rfl) ?_
  refine lv_iconst (v := 0) hx hb dX7_stock_1 (by decide) ?_
  refine m_put (ci := 10) (v := .int 0) (ty := .int) (C := RX7) (T := TX7) (N := 7) hx hb hts i_X7 tyX7 tyX7_ok nmX7 hown hK hP hI hS h_X rfl 6 (by decide) (hts (.fieldLink RX7 23 "MeniscusModel" "thrown" "I") (by decide +kernel)) (fun _ h9 => h9) rfl (by decide +kernel) rfl rfl (Nat.le_of_ble_eq_true rfl) dX7_stock_2 (fun H locs hP hI hS => ?_)
  have hP : mP G.1 (mu Mw (g.1 0 0) (.inr (10, [.ref (g.1 1 0), .ref (g.1 2 0), .int (gS st 2), .int (gS st 3), .int (gS st 1), .int (gS st 0), .int 0]))) H := hP
  have hI : mI A (mu Mw (g.1 0 0) (.inr (10, [.ref (g.1 1 0), .ref (g.1 2 0), .int (gS st 2), .int (gS st 3), .int (gS st 1), .int (gS st 0), .int 0]))) := hI
  have h_X : (mu Mw (g.1 0 0) (.inr (10, [.ref (g.1 1 0), .ref (g.1 2 0), .int (gS st 2), .int (gS st 3), .int (gS st 1), .int (gS st 0), .int 0]))) (g.1 0 0) = some (.inr (10, [.ref (g.1 1 0), .ref (g.1 2 0), .int (gS st 2), .int (gS st 3), .int (gS st 1), .int (gS st 0), .int 0])) := mu_s
  refine lv_aload_n hx hb dX7_stock_5 rfl (lv_at hl 0 rfl) ?_
  refine m_get (ci := 10) (v := .int (gS st 2)) (C := RX7) (T := TX7) (N := 7) hx hb hts i_X7 hown hK (hP _ _ h_X) rfl 2 (by decide) (hts (.fieldLink RX7 84 "MeniscusModel" "stock" "I") (by decide +kernel)) (fun _ h9 => h9) rfl dX7_stock_6 ?_
  refine W.widen (k := 0) (n := 0) (Nat.le_of_ble_eq_true rfl) (Nat.le_of_ble_eq_true rfl) ?_
  exact W.iret (v := gS st 2) hx hb hr (fun t99 ht99 hW99 => ⟨⟨gS st 2, (mu Mw (g.1 0 0) (.inr (10, [.ref (g.1 1 0), .ref (g.1 2 0), .int (gS st 2), .int (gS st 3), .int (gS st 1), .int (gS st 0), .int 0]))), rfl, ⟨rfl, (hR.th 0 h_X (fun x9 e9 hx9 h0 => ((mu_n h0).trans (rfl)).trans hx9))⟩, by rw [ht99]; exact hP, hI⟩, hS.F ht99⟩) hS.2.2 dX7_stock_9

set_option maxHeartbeats 4000000 in
set_option maxRecDepth 100000 in
theorem c_X7_spilt (l : Launch) (G : mg) (A : Nat → Prop) (Mw : mw) (st : St) (g : gR) (hR : RS G st g Mw) : Met l yX7_spilt wsX7_spilt ({ frames := 0, cells := 0, slots := 0, locals := 0 }) (va_Pc [.ref (g.1 0 0)] (mB G A Mw)) (va_Qi (fun r Mw1 => r = gS st 3 ∧ RS G st (tG g 0) Mw1) (mE G A) A) 0 0 A := by
  refine Met.ofW (cc := cX7_spilt) (maxL := 1) (ret := (some .int)) (by decide) rfl ?_
  intro p e s m args below meth c s₁ B hml hv
  obtain ⟨rfl, hG, hP, hI, hA⟩ := hv
  have hx := B.exec
  have hb := B.bytes
  have hr := B.returns
  have hts := atoms_spec (ws := wsX7_spilt) B.pre
  have hown : s.vm.findClass RX7 = some m.cls := findClass_of_methodNamed B.named
  have hlocks := B.notSynchronized
  have hK := hG.K
  have i_X7 : ∀ w ∈ wsX70, w ∈ wsX7_spilt := by decide +kernel
  have hS : va_S A s.heap s.heap [] := va_S.rf
  have hl := lv_entry ([.ref (g.1 0 0)]) (n := 1) (Nat.le_of_ble_eq_true rfl)
  rw [lg_entry_eq]
  generalize (lg_sl ([.ref (g.1 0 0)]) ++ List.replicate (1 - (lg_sl ([.ref (g.1 0 0)])).length) Slot.unset).toArray = ls at hl ⊢
  have hl : lv_has ls 1 [(0, .ref (g.1 0 0))] := hl
  have hP : mP G.1 Mw s.heap := hP
  have h_X : Mw (g.1 0 0) = some (.inr (10, [.ref (g.1 1 0), .ref (g.1 2 0), .int (gS st 2), .int (gS st 3), .int (gS st 1), .int (gS st 0), .int (thR g)])) := hR.1 0 0 ro0
  refine lv_aload_n hx hb dX7_spilt_0 rfl (lv_at hl 0 rfl) ?_
  refine lv_iconst (v := 0) hx hb dX7_spilt_1 (by decide) ?_
  refine m_put (ci := 10) (v := .int 0) (ty := .int) (C := RX7) (T := TX7) (N := 7) hx hb hts i_X7 tyX7 tyX7_ok nmX7 hown hK hP hI hS h_X rfl 6 (by decide) (hts (.fieldLink RX7 23 "MeniscusModel" "thrown" "I") (by decide +kernel)) (fun _ h9 => h9) rfl (by decide +kernel) rfl rfl (Nat.le_of_ble_eq_true rfl) dX7_spilt_2 (fun H locs hP hI hS => ?_)
  have hP : mP G.1 (mu Mw (g.1 0 0) (.inr (10, [.ref (g.1 1 0), .ref (g.1 2 0), .int (gS st 2), .int (gS st 3), .int (gS st 1), .int (gS st 0), .int 0]))) H := hP
  have hI : mI A (mu Mw (g.1 0 0) (.inr (10, [.ref (g.1 1 0), .ref (g.1 2 0), .int (gS st 2), .int (gS st 3), .int (gS st 1), .int (gS st 0), .int 0]))) := hI
  have h_X : (mu Mw (g.1 0 0) (.inr (10, [.ref (g.1 1 0), .ref (g.1 2 0), .int (gS st 2), .int (gS st 3), .int (gS st 1), .int (gS st 0), .int 0]))) (g.1 0 0) = some (.inr (10, [.ref (g.1 1 0), .ref (g.1 2 0), .int (gS st 2), .int (gS st 3), .int (gS st 1), .int (gS st 0), .int 0])) := mu_s
  refine lv_aload_n hx hb dX7_spilt_5 rfl (lv_at hl 0 rfl) ?_
  refine m_get (ci := 10) (v := .int (gS st 3)) (C := RX7) (T := TX7) (N := 7) hx hb hts i_X7 hown hK (hP _ _ h_X) rfl 3 (by decide) (hts (.fieldLink RX7 110 "MeniscusModel" "spilt" "I") (by decide +kernel)) (fun _ h9 => h9) rfl dX7_spilt_6 ?_
  refine W.widen (k := 0) (n := 0) (Nat.le_of_ble_eq_true rfl) (Nat.le_of_ble_eq_true rfl) ?_
  exact W.iret (v := gS st 3) hx hb hr (fun t99 ht99 hW99 => ⟨⟨gS st 3, (mu Mw (g.1 0 0) (.inr (10, [.ref (g.1 1 0), .ref (g.1 2 0), .int (gS st 2), .int (gS st 3), .int (gS st 1), .int (gS st 0), .int 0]))), rfl, ⟨rfl, (hR.th 0 h_X (fun x9 e9 hx9 h0 => ((mu_n h0).trans (rfl)).trans hx9))⟩, by rw [ht99]; exact hP, hI⟩, hS.F ht99⟩) hS.2.2 dX7_spilt_9

set_option maxHeartbeats 4000000 in
set_option maxRecDepth 100000 in
theorem c_X7_isSound (l : Launch) (G : mg) (A : Nat → Prop) (Mw : mw) (st : St) (g : gR) (hR : RS G st g Mw) : Met l yX7_isSound wsX7_isSound ({ frames := 0, cells := 0, slots := 0, locals := 0 }) (va_Pc [.ref (g.1 0 0)] (mB G A Mw)) (va_Qi (fun r Mw1 => r = 1 ∧ RS G st (tG g 0) Mw1) (mE G A) A) 0 0 A := by
  refine Met.ofW (cc := cX7_isSound) (maxL := 1) (ret := (some .boolean)) (by decide) rfl ?_
  intro p e s m args below meth c s₁ B hml hv
  obtain ⟨rfl, hG, hP, hI, hA⟩ := hv
  have hx := B.exec
  have hb := B.bytes
  have hr := B.returns
  have hts := atoms_spec (ws := wsX7_isSound) B.pre
  have hown : s.vm.findClass RX7 = some m.cls := findClass_of_methodNamed B.named
  have hlocks := B.notSynchronized
  have hK := hG.K
  have i_X7 : ∀ w ∈ wsX70, w ∈ wsX7_isSound := by decide +kernel
  have hS : va_S A s.heap s.heap [] := va_S.rf
  have hl := lv_entry ([.ref (g.1 0 0)]) (n := 1) (Nat.le_of_ble_eq_true rfl)
  rw [lg_entry_eq]
  generalize (lg_sl ([.ref (g.1 0 0)]) ++ List.replicate (1 - (lg_sl ([.ref (g.1 0 0)])).length) Slot.unset).toArray = ls at hl ⊢
  have hl : lv_has ls 1 [(0, .ref (g.1 0 0))] := hl
  have hP : mP G.1 Mw s.heap := hP
  have h_X : Mw (g.1 0 0) = some (.inr (10, [.ref (g.1 1 0), .ref (g.1 2 0), .int (gS st 2), .int (gS st 3), .int (gS st 1), .int (gS st 0), .int (thR g)])) := hR.1 0 0 ro0
  refine lv_aload_n hx hb dX7_isSound_0 rfl (lv_at hl 0 rfl) ?_
  refine lv_iconst (v := 0) hx hb dX7_isSound_1 (by decide) ?_
  refine m_put (ci := 10) (v := .int 0) (ty := .int) (C := RX7) (T := TX7) (N := 7) hx hb hts i_X7 tyX7 tyX7_ok nmX7 hown hK hP hI hS h_X rfl 6 (by decide) (hts (.fieldLink RX7 23 "MeniscusModel" "thrown" "I") (by decide +kernel)) (fun _ h9 => h9) rfl (by decide +kernel) rfl rfl (Nat.le_of_ble_eq_true rfl) dX7_isSound_2 (fun H locs hP hI hS => ?_)
  have hP : mP G.1 (mu Mw (g.1 0 0) (.inr (10, [.ref (g.1 1 0), .ref (g.1 2 0), .int (gS st 2), .int (gS st 3), .int (gS st 1), .int (gS st 0), .int 0]))) H := hP
  have hI : mI A (mu Mw (g.1 0 0) (.inr (10, [.ref (g.1 1 0), .ref (g.1 2 0), .int (gS st 2), .int (gS st 3), .int (gS st 1), .int (gS st 0), .int 0]))) := hI
  have h_X : (mu Mw (g.1 0 0) (.inr (10, [.ref (g.1 1 0), .ref (g.1 2 0), .int (gS st 2), .int (gS st 3), .int (gS st 1), .int (gS st 0), .int 0]))) (g.1 0 0) = some (.inr (10, [.ref (g.1 1 0), .ref (g.1 2 0), .int (gS st 2), .int (gS st 3), .int (gS st 1), .int (gS st 0), .int 0])) := mu_s
  refine lv_iconst (v := 1) hx hb dX7_isSound_5 (by decide) ?_
  refine W.widen (k := 0) (n := 0) (Nat.le_of_ble_eq_true rfl) (Nat.le_of_ble_eq_true rfl) ?_
  exact W.zret (v := 1) hx hb hr rfl (fun t99 ht99 hW99 => ⟨⟨1, (mu Mw (g.1 0 0) (.inr (10, [.ref (g.1 1 0), .ref (g.1 2 0), .int (gS st 2), .int (gS st 3), .int (gS st 1), .int (gS st 0), .int 0]))), rfl, ⟨rfl, (hR.th 0 h_X (fun x9 e9 hx9 h0 => ((mu_n h0).trans (rfl)).trans hx9))⟩, by rw [ht99]; exact hP, hI⟩, hS.F ht99⟩) hS.2.2 dX7_isSound_6
