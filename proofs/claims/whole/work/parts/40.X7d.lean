set_option maxHeartbeats 4000000 in
set_option maxRecDepth 100000 in
theorem c_X7_checksum (l : Launch) (G : mg) (A : Nat → Prop) (Mw : mw) (st : St) (g : gR) (hR : RS G st g Mw) (hV : Inv st) : Met l yX7_checksum wsX7_checksum ({ frames := 3, cells := 10, slots := 40, locals := 61 }) (va_Pc [.ref (g.1 0 0)] (mB G A Mw)) (va_Ql (fun r Mw1 => r = chS st ∧ RS G st (tG g 0) Mw1) (mE G A) A) 10 40 A := by
  refine Met.ofW (cc := cX7_checksum) (maxL := 7) (ret := (some .long)) (by decide) rfl ?_
  intro p e s m args below meth c s₁ B hml hv
  obtain ⟨rfl, hG, hP, hI, hA⟩ := hv
  have hx := B.exec
  have hb := B.bytes
  have hr := B.returns
  have hts := atoms_spec (ws := wsX7_checksum) B.pre
  have hown : s.vm.findClass RX7 = some m.cls := findClass_of_methodNamed B.named
  have hlocks := B.notSynchronized
  have hK := hG.K
  have i_X5 : ∀ w ∈ wsX50, w ∈ wsX7_checksum := by decide +kernel
  have i_X7 : ∀ w ∈ wsX70, w ∈ wsX7_checksum := by decide +kernel
  have hS : va_S A s.heap s.heap [] := va_S.rf
  have hl := lv_entry ([.ref (g.1 0 0)]) (n := 7) (Nat.le_of_ble_eq_true rfl)
  rw [lg_entry_eq]
  generalize (lg_sl ([.ref (g.1 0 0)]) ++ List.replicate (7 - (lg_sl ([.ref (g.1 0 0)])).length) Slot.unset).toArray = ls at hl ⊢
  have hl : lv_has ls 7 [(0, .ref (g.1 0 0))] := hl
  have hP : mP G.1 Mw s.heap := hP
  have h_X : Mw (g.1 0 0) = some (.inr (10, [.ref (g.1 1 0), .ref (g.1 2 0), .int (gS st 2), .int (gS st 3), .int (gS st 1), .int (gS st 0), .int (thR g)])) := hR.1 0 0 ro0
  have h_TL : Mw (g.1 1 0) = some (.inr (2, [.int (mcR g 1 0), .ref (g.1 3 0), .int ((nI (nT st)))])) := hR.1 1 0 ro1
  have h_IL : Mw (g.1 2 0) = some (.inr (2, [.int (mcR g 2 0), .ref (g.1 4 0), .int ((nI (nN st)))])) := hR.1 2 0 ro2
  have hti9 := hR.ne ro1 ro2 (by omega)
  have hnT8 := hV.1.1
  have hnN8 := Nat.le_trans hV.1.2 (show 6 ≤ 8 by decide)
  refine lv_aload_n hx hb dX7_checksum_0 rfl (lv_at hl 0 rfl) ?_
  refine lv_iconst (v := 0) hx hb dX7_checksum_1 (by decide) ?_
  refine m_put (ci := 10) (v := .int 0) (ty := .int) (C := RX7) (T := TX7) (N := 7) hx hb hts i_X7 tyX7 tyX7_ok nmX7 hown hK hP hI hS h_X rfl 6 (by decide) (hts (.fieldLink RX7 23 "MeniscusModel" "thrown" "I") (by decide +kernel)) (fun _ h9 => h9) rfl (by decide +kernel) rfl rfl (Nat.le_of_ble_eq_true rfl) dX7_checksum_2 (fun H locs hP hI hS => ?_)
  have hP : mP G.1 (mu Mw (g.1 0 0) (.inr (10, [.ref (g.1 1 0), .ref (g.1 2 0), .int (gS st 2), .int (gS st 3), .int (gS st 1), .int (gS st 0), .int 0]))) H := hP
  have hI : mI A (mu Mw (g.1 0 0) (.inr (10, [.ref (g.1 1 0), .ref (g.1 2 0), .int (gS st 2), .int (gS st 3), .int (gS st 1), .int (gS st 0), .int 0]))) := hI
  have h_TL := mu_k (e := .inr (10, [.ref (g.1 1 0), .ref (g.1 2 0), .int (gS st 2), .int (gS st 3), .int (gS st 1), .int (gS st 0), .int 0])) (kd_ne h_TL h_X rfl) h_TL
  have h_IL := mu_k (e := .inr (10, [.ref (g.1 1 0), .ref (g.1 2 0), .int (gS st 2), .int (gS st 3), .int (gS st 1), .int (gS st 0), .int 0])) (kd_ne h_IL h_X rfl) h_IL
  have h_X : (mu Mw (g.1 0 0) (.inr (10, [.ref (g.1 1 0), .ref (g.1 2 0), .int (gS st 2), .int (gS st 3), .int (gS st 1), .int (gS st 0), .int 0]))) (g.1 0 0) = some (.inr (10, [.ref (g.1 1 0), .ref (g.1 2 0), .int (gS st 2), .int (gS st 3), .int (gS st 1), .int (gS st 0), .int 0])) := mu_s
  refine lv_ldc2 (v := 7) hx hb hown (hts (.constantLong RX7 223 (7)) (by decide +kernel)) dX7_checksum_5 ?_
  refine lv_lstore_n (lv' := [(1, .long 7), (0, .ref (g.1 0 0))]) hx hb dX7_checksum_8 rfl hl (by decide) rfl (fun ls hl => ?_)
  refine lv_aload_n hx hb dX7_checksum_9 rfl (lv_at hl 1 rfl) ?_
  refine m_get (ci := 10) (v := .ref (g.1 1 0)) (C := RX7) (T := TX7) (N := 7) hx hb hts i_X7 hown hK (hP _ _ h_X) rfl 0 (by decide) (hts (.fieldLink RX7 10 "MeniscusModel" "tubes" "Ljava/util/ArrayList;") (by decide +kernel)) (fun _ h9 => h9) rfl dX7_checksum_10 ?_
  refine m_callq (va_runV (As := []) (rest := []) ⟨hx, hb, hml, hown, hts⟩ (c_Jx4a65c_iterator_32c93 l G A (mu Mw (g.1 0 0) (.inr (10, [.ref (g.1 1 0), .ref (g.1 2 0), .int (gS st 2), .int (gS st 3), .int (gS st 1), .int (gS st 0), .int 0])))  h_TL) (cwV 0 hts gX7_checksum_Jx4a65c_iterator_32c93 rfl rfl rfl (by decide +kernel) ⟨Nat.le_of_ble_eq_true rfl, Nat.le_of_ble_eq_true rfl⟩) (mPreV hG hS hP hI hA (hP _ _ h_TL) (r := (RJx4a65c, TJx4a65c, 3)) rfl) rfl rfl hl.1 rfl (lv_room (Nat.le_of_ble_eq_true rfl)) dX7_checksum_13 ⟨Nat.le_of_ble_eq_true rfl, Nat.le_of_ble_eq_true rfl⟩) hS (fun r1 Mw1 H locs hp_r1 hP hI hS => ?_)
  obtain ⟨qt, hp_r1, hn_qt, hm9⟩ := hp_r1
  subst Mw1
  subst hp_r1
  have h_X := mu_x (e := .inr (1, [.int 0, .int ((-1)), .int (mcR g 1 0), .ref (g.1 1 0)])) h_X hn_qt
  have h_TL := mu_x (e := .inr (1, [.int 0, .int ((-1)), .int (mcR g 1 0), .ref (g.1 1 0)])) h_TL hn_qt
  have h_IL := mu_x (e := .inr (1, [.int 0, .int ((-1)), .int (mcR g 1 0), .ref (g.1 1 0)])) h_IL hn_qt
  have h_qt : (mu (mu Mw (g.1 0 0) (.inr (10, [.ref (g.1 1 0), .ref (g.1 2 0), .int (gS st 2), .int (gS st 3), .int (gS st 1), .int (gS st 0), .int 0]))) qt (.inr (1, [.int 0, .int ((-1)), .int (mcR g 1 0), .ref (g.1 1 0)]))) qt = some (.inr (1, [.int 0, .int ((-1)), .int (mcR g 1 0), .ref (g.1 1 0)])) := mu_s
  refine lv_astore_n (lv' := [(3, .ref qt), (1, .long 7), (0, .ref (g.1 0 0))]) hx hb dX7_checksum_16 rfl hl (by decide) rfl (fun ls hl => ?_)
  have loopT : ∀ (n k : Nat), k ≤ (nT st) → k + n = (nT st) + 1 → ∀ (Mv_loopT : mw) (H : Heap) (locs : List Loc) (ls : Array Slot), (RS G st (tG g 0) Mv_loopT ∧ Mv_loopT qt = some (.inr (1, [.int ((nI k)), .int ((lrI k)), .int ((mcR g 1 0)), .ref (g.1 1 0)]))) → mP G.1 Mv_loopT H → mI A Mv_loopT → va_S A s.heap H locs → lv_has ls 7 [(0, .ref (g.1 0 0)), (1, .long (tsum st k)), (3, .ref qt)] → W p l e ({ frames := 3, cells := 10, slots := 40, locals := 61 }) s m ([.ref (g.1 0 0)] : List Value).toArray below meth c H locs 1 4 (MQ below (va_Ql (fun r Mw1 => r = chS st ∧ RS G st (tG g 0) Mw1) (mE G A) A) ([.ref (g.1 0 0)] : List Value).toArray s 10 40 A) (F0 m 17 ls []) := by
    intro n
    induction n with
    | zero => intro k hk1 hk2; omega
    | succ n ih_loopT =>
      intro k hk1 hk2 Mv_loopT H locs ls hW hP hI hS hl
      obtain ⟨hRv, h_it_qt⟩ := hW
      have h_X : Mv_loopT (g.1 0 0) = some (.inr (10, [.ref (g.1 1 0), .ref (g.1 2 0), .int (gS st 2), .int (gS st 3), .int (gS st 1), .int (gS st 0), .int 0])) := hRv.1 0 0 ro0
      have h_TL : Mv_loopT (g.1 1 0) = some (.inr (2, [.int (mcR g 1 0), .ref (g.1 3 0), .int ((nI (nT st)))])) := hRv.1 1 0 ro1
      have h_IL : Mv_loopT (g.1 2 0) = some (.inr (2, [.int (mcR g 2 0), .ref (g.1 4 0), .int ((nI (nN st)))])) := hRv.1 2 0 ro2
      have h_iv_qt := h_it_qt
      refine lv_aload_n hx hb dX7_checksum_17 rfl (lv_at hl 2 rfl) ?_
      refine mf_calli (va_runF (As := []) (rest := []) (hK.1 1 (RJx35411, TJx35411, 4) rfl).2 ⟨hx, hb, hml, hown, hts⟩ (c_Jx35411_hasNext_aae02 l G A Mv_loopT  h_TL h_it_qt) (va_cwF 0 hts gX7_checksum_Jx35411_hasNext_aae02_f123Jx35411 rfl rfl rfl hG.2.1.2.2.2.2.2.2.2.2.2.1 ⟨by decide, by decide, by decide +kernel⟩ ⟨Nat.le_of_ble_eq_true rfl, Nat.le_of_ble_eq_true rfl⟩) (mPreV hG hS hP hI hA (hP _ _ h_it_qt) (r := (RJx35411, TJx35411, 4)) rfl) rfl rfl hl.1 rfl (lv_room (Nat.le_of_ble_eq_true rfl)) dX7_checksum_18 ⟨Nat.le_of_ble_eq_true rfl, Nat.le_of_ble_eq_true rfl⟩) hS (fun r2 Mw1 H locs hp_r2 hP hI hS => ?_)
      obtain ⟨hp_r2, hm9⟩ := hp_r2
      subst Mw1
      rcases hx_01 (c := k) (n := nT st) hk1 hnT8 hp_r2 with ⟨hr9, hkn_k⟩ | ⟨hr9, hkn_k⟩
      · subst hr9
        have hk7 : tsum st k = tsum st (nT st) := by rw [hkn_k]
        rw [hk7] at hl
        refine lv_if_eq (tgt := 56) hx hb dX7_checksum_23 (by decide) (fun _ => ?_) (fun h9 => absurd h9 (by decide))
        refine lv_aload_n hx hb dX7_checksum_56 rfl (lv_at hl 0 rfl) ?_
        refine m_get (ci := 10) (v := .ref (g.1 2 0)) (C := RX7) (T := TX7) (N := 7) hx hb hts i_X7 hown hK (hP _ _ h_X) rfl 1 (by decide) (hts (.fieldLink RX7 16 "MeniscusModel" "instruments" "Ljava/util/ArrayList;") (by decide +kernel)) (fun _ h9 => h9) rfl dX7_checksum_57 ?_
        refine m_callq (va_runV (As := []) (rest := []) ⟨hx, hb, hml, hown, hts⟩ (c_Jx4a65c_iterator_32c93 l G A Mv_loopT  h_IL) (cwV 0 hts gX7_checksum_Jx4a65c_iterator_32c93 rfl rfl rfl (by decide +kernel) ⟨Nat.le_of_ble_eq_true rfl, Nat.le_of_ble_eq_true rfl⟩) (mPreV hG hS hP hI hA (hP _ _ h_IL) (r := (RJx4a65c, TJx4a65c, 3)) rfl) rfl rfl hl.1 rfl (lv_room (Nat.le_of_ble_eq_true rfl)) dX7_checksum_60 ⟨Nat.le_of_ble_eq_true rfl, Nat.le_of_ble_eq_true rfl⟩) hS (fun r3 Mw1 H locs hp_r3 hP hI hS => ?_)
        obtain ⟨qi, hp_r3, hn_qi, hm9⟩ := hp_r3
        subst Mw1
        subst hp_r3
        have h_X := mu_x (e := .inr (1, [.int 0, .int ((-1)), .int (mcR g 2 0), .ref (g.1 2 0)])) h_X hn_qi
        have h_TL := mu_x (e := .inr (1, [.int 0, .int ((-1)), .int (mcR g 2 0), .ref (g.1 2 0)])) h_TL hn_qi
        have h_IL := mu_x (e := .inr (1, [.int 0, .int ((-1)), .int (mcR g 2 0), .ref (g.1 2 0)])) h_IL hn_qi
        have h_it_qt := mu_x (e := .inr (1, [.int 0, .int ((-1)), .int (mcR g 2 0), .ref (g.1 2 0)])) h_it_qt hn_qi
        have h_qi : (mu Mv_loopT qi (.inr (1, [.int 0, .int ((-1)), .int (mcR g 2 0), .ref (g.1 2 0)]))) qi = some (.inr (1, [.int 0, .int ((-1)), .int (mcR g 2 0), .ref (g.1 2 0)])) := mu_s
        refine lv_astore_n (lv' := [(3, .ref qi), (0, .ref (g.1 0 0)), (1, .long (tsum st (nT st)))]) hx hb dX7_checksum_63 rfl hl (by decide) rfl (fun ls hl => ?_)
        have loopI : ∀ (n k : Nat), k ≤ (nN st) → k + n = (nN st) + 1 → ∀ (Mv_loopI : mw) (H : Heap) (locs : List Loc) (ls : Array Slot), (RS G st (tG g 0) Mv_loopI ∧ Mv_loopI qi = some (.inr (1, [.int ((nI k)), .int ((lrI k)), .int ((mcR g 2 0)), .ref (g.1 2 0)]))) → mP G.1 Mv_loopI H → mI A Mv_loopI → va_S A s.heap H locs → lv_has ls 7 [(0, .ref (g.1 0 0)), (1, .long (csI st (tsum st (nT st)) k)), (3, .ref qi)] → W p l e ({ frames := 3, cells := 10, slots := 40, locals := 61 }) s m ([.ref (g.1 0 0)] : List Value).toArray below meth c H locs (2 + 1 * k) (8 + 4 * k) (MQ below (va_Ql (fun r Mw1 => r = chS st ∧ RS G st (tG g 0) Mw1) (mE G A) A) ([.ref (g.1 0 0)] : List Value).toArray s 10 40 A) (F0 m 64 ls []) := by
          intro n
          induction n with
          | zero => intro k hk1 hk2; omega
          | succ n ih_loopI =>
            intro k hk1 hk2 Mv_loopI H locs ls hW hP hI hS hl
            obtain ⟨hRv, h_it_qi⟩ := hW
            have h_X : Mv_loopI (g.1 0 0) = some (.inr (10, [.ref (g.1 1 0), .ref (g.1 2 0), .int (gS st 2), .int (gS st 3), .int (gS st 1), .int (gS st 0), .int 0])) := hRv.1 0 0 ro0
            have h_TL : Mv_loopI (g.1 1 0) = some (.inr (2, [.int (mcR g 1 0), .ref (g.1 3 0), .int ((nI (nT st)))])) := hRv.1 1 0 ro1
            have h_IL : Mv_loopI (g.1 2 0) = some (.inr (2, [.int (mcR g 2 0), .ref (g.1 4 0), .int ((nI (nN st)))])) := hRv.1 2 0 ro2
            have h_iv_qi := h_it_qi
            refine lv_aload_n hx hb dX7_checksum_64 rfl (lv_at hl 2 rfl) ?_
            refine mf_calli (va_runF (As := []) (rest := []) (hK.1 1 (RJx35411, TJx35411, 4) rfl).2 ⟨hx, hb, hml, hown, hts⟩ (c_Jx35411_hasNext_aae02 l G A Mv_loopI  h_IL h_it_qi) (va_cwF 0 hts gX7_checksum_Jx35411_hasNext_aae02_f123Jx35411 rfl rfl rfl hG.2.1.2.2.2.2.2.2.2.2.2.1 ⟨by decide, by decide, by decide +kernel⟩ ⟨Nat.le_of_ble_eq_true rfl, Nat.le_of_ble_eq_true rfl⟩) (mPreV hG hS hP hI hA (hP _ _ h_it_qi) (r := (RJx35411, TJx35411, 4)) rfl) rfl rfl hl.1 rfl (lv_room (Nat.le_of_ble_eq_true rfl)) dX7_checksum_65 ⟨by show (2 + 1 * k) + 0 ≤ 10; omega, by show (8 + 4 * k) + 0 ≤ 40; omega⟩) hS (fun r4 Mw1 H locs hp_r4 hP hI hS => ?_)
            obtain ⟨hp_r4, hm9⟩ := hp_r4
            subst Mw1
            rcases hx_01 (c := k) (n := nN st) hk1 hnN8 hp_r4 with ⟨hr9, hkn_k⟩ | ⟨hr9, hkn_k⟩
            · subst hr9
              refine lv_if_eq (tgt := 161) hx hb dX7_checksum_70 (by decide) (fun _ => ?_) (fun h9 => absurd h9 (by decide))
              refine lv_ldc2 (v := 31) hx hb hown (hts (.constantLong RX7 225 (31)) (by decide +kernel)) dX7_checksum_161 ?_
              refine lv_lload_n hx hb dX7_checksum_164 rfl (lv_at hl 1 rfl) ?_
              refine lv_lmul hx hb dX7_checksum_165 ?_
              refine lv_aload_n hx hb dX7_checksum_166 rfl (lv_at hl 0 rfl) ?_
              refine m_get (ci := 10) (v := .int (gS st 2)) (C := RX7) (T := TX7) (N := 7) hx hb hts i_X7 hown hK (hP _ _ h_X) rfl 2 (by decide) (hts (.fieldLink RX7 84 "MeniscusModel" "stock" "I") (by decide +kernel)) (fun _ h9 => h9) rfl dX7_checksum_167 ?_
              refine lv_i2l (v := (gS st 2).toInt64) hx hb dX7_checksum_170 rfl ?_
              refine lv_ladd hx hb dX7_checksum_171 ?_
              refine lv_lstore_n (lv' := [(1, .long ((31 * (csI st (tsum st (nT st)) k)) + ((gS st 2).toInt64))), (0, .ref (g.1 0 0)), (3, .ref qi)]) hx hb dX7_checksum_172 rfl hl (by decide) rfl (fun ls hl => ?_)
              refine lv_ldc2 (v := 31) hx hb hown (hts (.constantLong RX7 225 (31)) (by decide +kernel)) dX7_checksum_173 ?_
              refine lv_lload_n hx hb dX7_checksum_176 rfl (lv_at hl 0 rfl) ?_
              refine lv_lmul hx hb dX7_checksum_177 ?_
              refine lv_aload_n hx hb dX7_checksum_178 rfl (lv_at hl 1 rfl) ?_
              refine m_get (ci := 10) (v := .int (gS st 1)) (C := RX7) (T := TX7) (N := 7) hx hb hts i_X7 hown hK (hP _ _ h_X) rfl 4 (by decide) (hts (.fieldLink RX7 116 "MeniscusModel" "day" "I") (by decide +kernel)) (fun _ h9 => h9) rfl dX7_checksum_179 ?_
              refine lv_i2l (v := (gS st 1).toInt64) hx hb dX7_checksum_182 rfl ?_
              refine lv_ladd hx hb dX7_checksum_183 ?_
              refine W.widen (k := 10) (n := 40) (by omega) (by omega) ?_
              exact W.lret (v := (31 * ((31 * (csI st (tsum st (nT st)) k)) + ((gS st 2).toInt64))) + ((gS st 1).toInt64)) hx hb hr (fun t99 ht99 hW99 => ⟨⟨(31 * ((31 * (csI st (tsum st (nT st)) k)) + ((gS st 2).toInt64))) + ((gS st 1).toInt64), Mv_loopI, rfl, ⟨by rw [hkn_k]; rfl, hRv⟩, by rw [ht99]; exact hP, hI⟩, hS.F ht99⟩) hS.2.2 dX7_checksum_184
            · subst hr9
              have hf4 := hRv.f4 hkn_k
              have h_ID0 : Mv_loopI (g.1 4 0) = some (.inl (G.2.1 5, 10, .inr (.inr (.inr (.inr (qf (nN st) (g.1 7))))))) := hRv.1 4 0 (ro4 hf4)
              have h_ID : Mv_loopI (g.1 4 0) = some (.inl (G.2.1 5, 10, .inr (.inr (.inr (.inr (qf (nN st) (g.1 7))))))) := h_ID0
              refine lv_if_eq (tgt := 161) hx hb dX7_checksum_70 (by decide) (fun h9 => absurd h9 (by decide)) (fun _ => ?_)
              refine lv_aload_n hx hb dX7_checksum_73 rfl (lv_at hl 2 rfl) ?_
              refine mf_callq (va_runF (As := []) (rest := []) (hK.1 1 (RJx35411, TJx35411, 4) rfl).2 ⟨hx, hb, hml, hown, hts⟩ (c_Jx35411_next_0502b l G A Mv_loopI  h_IL h_it_qi h_ID (g.1 7 k) hkn_k hnN8 (qf_p hkn_k)) (va_cwF 0 hts gX7_checksum_Jx35411_next_0502b_f129Jx35411 rfl rfl rfl hG.2.1.2.2.2.2.2.2.2.2.2.2.1 ⟨by decide, by decide, by decide +kernel⟩ ⟨Nat.le_of_ble_eq_true rfl, Nat.le_of_ble_eq_true rfl⟩) (mPreV hG hS hP hI hA (hP _ _ h_it_qi) (r := (RJx35411, TJx35411, 4)) rfl) rfl rfl hl.1 rfl (lv_room (Nat.le_of_ble_eq_true rfl)) dX7_checksum_74 ⟨by show (2 + 1 * k) + 0 + 0 ≤ 10; omega, by show (8 + 4 * k) + 0 + 0 ≤ 40; omega⟩) hS (fun r5 Mw1 H locs hp_r5 hP hI hS => ?_)
              obtain ⟨hp_r5, hm9⟩ := hp_r5
              subst Mw1
              subst hp_r5
              have h_X := mu_k (e := .inr (1, [.int ((nI (k + 1))), .int ((nI k)), .int ((mcR g 2 0)), .ref (g.1 2 0)])) (kd_ne h_X h_it_qi rfl) h_X
              have h_TL := mu_k (e := .inr (1, [.int ((nI (k + 1))), .int ((nI k)), .int ((mcR g 2 0)), .ref (g.1 2 0)])) (kd_ne h_TL h_it_qi rfl) h_TL
              have h_IL := mu_k (e := .inr (1, [.int ((nI (k + 1))), .int ((nI k)), .int ((mcR g 2 0)), .ref (g.1 2 0)])) (kd_ne h_IL h_it_qi rfl) h_IL
              have h_ID := mu_k (e := .inr (1, [.int ((nI (k + 1))), .int ((nI k)), .int ((mcR g 2 0)), .ref (g.1 2 0)])) (kd_ne h_ID h_it_qi rfl) h_ID
              have h_it_qi : (mu Mv_loopI qi (.inr (1, [.int ((nI (k + 1))), .int ((nI k)), .int ((mcR g 2 0)), .ref (g.1 2 0)]))) qi = some (.inr (1, [.int ((nI (k + 1))), .int ((nI k)), .int ((mcR g 2 0)), .ref (g.1 2 0)])) := mu_s
              have h_I0 : Mv_loopI (g.1 7 k) = some (.inr (8, [.ref (g.1 5 (tbN st k)), .int (itS st k 1), .int (sof (itS st k 2)), .int (itS st k 3), .int (itS st k 7), .int (itS st k 6), .int (itS st k 5), .int (itS st k 12), .int (itS st k 13), .int (itS st k 14), .int (itS st k 15), .int (itS st k 8), .int (itS st k 9), .int (itS st k 10), .int (ceR g k), .ref (g.1 8 k), .ref (g.1 9 k)])) := hRv.1 7 _ (ro7 hkn_k)
              have h_I : (mu Mv_loopI qi (.inr (1, [.int ((nI (k + 1))), .int ((nI k)), .int ((mcR g 2 0)), .ref (g.1 2 0)]))) (g.1 7 k) = some (.inr (8, [.ref (g.1 5 (tbN st k)), .int (itS st k 1), .int (sof (itS st k 2)), .int (itS st k 3), .int (itS st k 7), .int (itS st k 6), .int (itS st k 5), .int (itS st k 12), .int (itS st k 13), .int (itS st k 14), .int (itS st k 15), .int (itS st k 8), .int (itS st k 9), .int (itS st k 10), .int (ceR g k), .ref (g.1 8 k), .ref (g.1 9 k)])) := ((mu_n (kd_ne h_I0 h_iv_qi rfl)).trans (rfl)).trans h_I0
              have hlt9 := hRv.ne (ro8 hkn_k) ro1 (by omega)
              have hli9 := hRv.ne (ro8 hkn_k) ro2 (by omega)
              have h_L0 : Mv_loopI (g.1 8 k) = some (.inr (2, [.int (mcR g 8 k), .ref (g.1 10 k), .int ((nI (rnS st k)))])) := hRv.1 8 _ (ro8 hkn_k)
              have h_L : (mu Mv_loopI qi (.inr (1, [.int ((nI (k + 1))), .int ((nI k)), .int ((mcR g 2 0)), .ref (g.1 2 0)]))) (g.1 8 k) = some (.inr (2, [.int (mcR g 8 k), .ref (g.1 10 k), .int ((nI (rnS st k)))])) := ((mu_n (kd_ne h_L0 h_iv_qi rfl)).trans (rfl)).trans h_L0
              refine va_castE hx hb hown (hts (.classLink RX7 79 RX5) (by decide +kernel)) (va_recv hK (va_at.one (hP _ _ h_I)) (q0 := 0) (q := (RX5, TX5, 17)) rfl rfl) dX7_checksum_79 ?_
              refine lv_astore (lv' := [(4, .ref (g.1 7 k)), (0, .ref (g.1 0 0)), (1, .long (csI st (tsum st (nT st)) k)), (3, .ref qi)]) hx hb dX7_checksum_82 hl (by decide) rfl (fun ls hl => ?_)
              refine lv_ldc2 (v := 31) hx hb hown (hts (.constantLong RX7 225 (31)) (by decide +kernel)) dX7_checksum_84 ?_
              refine lv_lload_n hx hb dX7_checksum_87 rfl (lv_at hl 2 rfl) ?_
              refine lv_lmul hx hb dX7_checksum_88 ?_
              refine lv_aload hx hb dX7_checksum_89 (lv_at hl 0 rfl) ?_
              refine m_getN (ci := 8) (v := .int (itS st k 7)) (C := RX5) (T := TX5) (N := 17) hx hb hts i_X5 hown hK (hP _ _ h_I) rfl 4 (by decide) (va_Nw.use rfl (hG.2.1.2.1 ("MeniscusModel", 107, "MeniscusModel$Instrument", "inside", "I", "MeniscusModel") (by decide +kernel))) (fun _ h9 => h9) rfl dX7_checksum_91 ?_
              refine lv_i2l (v := (itS st k 7).toInt64) hx hb dX7_checksum_94 rfl ?_
              refine lv_ladd hx hb dX7_checksum_95 ?_
              refine lv_lstore_n (lv' := [(1, .long ((31 * (csI st (tsum st (nT st)) k)) + ((itS st k 7).toInt64))), (4, .ref (g.1 7 k)), (0, .ref (g.1 0 0)), (3, .ref qi)]) hx hb dX7_checksum_96 rfl hl (by decide) rfl (fun ls hl => ?_)
              refine lv_ldc2 (v := 31) hx hb hown (hts (.constantLong RX7 225 (31)) (by decide +kernel)) dX7_checksum_97 ?_
              refine lv_lload_n hx hb dX7_checksum_100 rfl (lv_at hl 0 rfl) ?_
              refine lv_lmul hx hb dX7_checksum_101 ?_
              refine lv_aload hx hb dX7_checksum_102 (lv_at hl 1 rfl) ?_
              refine m_getN (ci := 8) (v := .int (itS st k 3)) (C := RX5) (T := TX5) (N := 17) hx hb hts i_X5 hown hK (hP _ _ h_I) rfl 3 (by decide) (va_Nw.use rfl (hG.2.1.2.1 ("MeniscusModel", 93, "MeniscusModel$Instrument", "crept", "I", "MeniscusModel") (by decide +kernel))) (fun _ h9 => h9) rfl dX7_checksum_104 ?_
              refine lv_i2l (v := (itS st k 3).toInt64) hx hb dX7_checksum_107 rfl ?_
              refine lv_ladd hx hb dX7_checksum_108 ?_
              refine lv_lstore_n (lv' := [(1, .long ((31 * ((31 * (csI st (tsum st (nT st)) k)) + ((itS st k 7).toInt64))) + ((itS st k 3).toInt64))), (4, .ref (g.1 7 k)), (0, .ref (g.1 0 0)), (3, .ref qi)]) hx hb dX7_checksum_109 rfl hl (by decide) rfl (fun ls hl => ?_)
              refine lv_aload hx hb dX7_checksum_110 (lv_at hl 1 rfl) ?_
              refine m_getN (ci := 8) (v := .ref (g.1 8 k)) (C := RX5) (T := TX5) (N := 17) hx hb hts i_X5 hown hK (hP _ _ h_I) rfl 15 (by decide) (va_Nw.use rfl (hG.2.1.2.1 ("MeniscusModel", 176, "MeniscusModel$Instrument", "readings", "Ljava/util/ArrayList;", "MeniscusModel") (by decide +kernel))) (fun _ h9 => h9) rfl dX7_checksum_112 ?_
              have h_it_qi9 := h_it_qi
              refine m_callq (va_runV (As := []) (rest := []) ⟨hx, hb, hml, hown, hts⟩ (c_Jx4a65c_iterator_32c93 l G A (mu Mv_loopI qi (.inr (1, [.int ((nI (k + 1))), .int ((nI k)), .int ((mcR g 2 0)), .ref (g.1 2 0)])))  h_L) (cwV 0 hts gX7_checksum_Jx4a65c_iterator_32c93 rfl rfl rfl (by decide +kernel) ⟨Nat.le_of_ble_eq_true rfl, Nat.le_of_ble_eq_true rfl⟩) (mPreV hG hS hP hI hA (hP _ _ h_L) (r := (RJx4a65c, TJx4a65c, 3)) rfl) rfl rfl hl.1 rfl (lv_room (Nat.le_of_ble_eq_true rfl)) dX7_checksum_115 ⟨by show (2 + 1 * k) + 0 + 0 + 1 ≤ 10; omega, by show (8 + 4 * k) + 0 + 0 + 4 ≤ 40; omega⟩) hS (fun r6 Mw1 H locs hp_r6 hP hI hS => ?_)
              obtain ⟨qr, hp_r6, hn_qr, hm9⟩ := hp_r6
              subst Mw1
              subst hp_r6
              have h_X := mu_x (e := .inr (1, [.int 0, .int ((-1)), .int (mcR g 8 k), .ref (g.1 8 k)])) h_X hn_qr
              have h_TL := mu_x (e := .inr (1, [.int 0, .int ((-1)), .int (mcR g 8 k), .ref (g.1 8 k)])) h_TL hn_qr
              have h_IL := mu_x (e := .inr (1, [.int 0, .int ((-1)), .int (mcR g 8 k), .ref (g.1 8 k)])) h_IL hn_qr
              have h_it_qi := mu_x (e := .inr (1, [.int 0, .int ((-1)), .int (mcR g 8 k), .ref (g.1 8 k)])) h_it_qi hn_qr
              have h_ID := mu_x (e := .inr (1, [.int 0, .int ((-1)), .int (mcR g 8 k), .ref (g.1 8 k)])) h_ID hn_qr
              have h_I := mu_x (e := .inr (1, [.int 0, .int ((-1)), .int (mcR g 8 k), .ref (g.1 8 k)])) h_I hn_qr
              have h_L := mu_x (e := .inr (1, [.int 0, .int ((-1)), .int (mcR g 8 k), .ref (g.1 8 k)])) h_L hn_qr
              have h_qr : (mu (mu Mv_loopI qi (.inr (1, [.int ((nI (k + 1))), .int ((nI k)), .int ((mcR g 2 0)), .ref (g.1 2 0)]))) qr (.inr (1, [.int 0, .int ((-1)), .int (mcR g 8 k), .ref (g.1 8 k)]))) qr = some (.inr (1, [.int 0, .int ((-1)), .int (mcR g 8 k), .ref (g.1 8 k)])) := mu_s
              have hqq9 : qi ≠ qr := ne_none h_it_qi9 hn_qr
              refine lv_astore (lv' := [(5, .ref qr), (1, .long ((31 * ((31 * (csI st (tsum st (nT st)) k)) + ((itS st k 7).toInt64))) + ((itS st k 3).toInt64))), (4, .ref (g.1 7 k)), (0, .ref (g.1 0 0)), (3, .ref qi)]) hx hb dX7_checksum_118 hl (by decide) rfl (fun ls hl => ?_)
              have loopR : ∀ (n j : Nat), j ≤ (rnS st k) → j + n = (rnS st k) + 1 → ∀ (Mv_loopR : mw) (H : Heap) (locs : List Loc) (ls : Array Slot), (RS G st (tG g 0) Mv_loopR ∧ Mv_loopR qi = some (.inr (1, [.int ((nI (k + 1))), .int ((nI k)), .int ((mcR g 2 0)), .ref (g.1 2 0)])) ∧ Mv_loopR qr = some (.inr (1, [.int ((nI j)), .int ((lrI j)), .int ((mcR g 8 k)), .ref (g.1 8 k)]))) → mP G.1 Mv_loopR H → mI A Mv_loopR → va_S A s.heap H locs → lv_has ls 7 [(0, .ref (g.1 0 0)), (1, .long (lsum (rvS st k) (31 * (31 * csI st (tsum st (nT st)) k + (itS st k 7).toInt64) + (itS st k 3).toInt64) j)), (3, .ref qi), (5, .ref qr)] → W p l e ({ frames := 3, cells := 10, slots := 40, locals := 61 }) s m ([.ref (g.1 0 0)] : List Value).toArray below meth c H locs ((2 + 1 * k) + 0 + 0 + 1) ((8 + 4 * k) + 0 + 0 + 4) (MQ below (va_Ql (fun r Mw1 => r = chS st ∧ RS G st (tG g 0) Mw1) (mE G A) A) ([.ref (g.1 0 0)] : List Value).toArray s 10 40 A) (F0 m 120 ls []) := by
                intro n
                induction n with
                | zero => intro j hk1 hk2; omega
                | succ n ih_loopR =>
                  intro j hk1 hk2 Mv_loopR H locs ls hW3 hP hI hS hl
                  obtain ⟨hRr, h_it_qi, h_it_qr⟩ := hW3
                  have h_iv_qi := h_it_qi
                  have h_iv_qr := h_it_qr
                  have h_X : Mv_loopR (g.1 0 0) = some (.inr (10, [.ref (g.1 1 0), .ref (g.1 2 0), .int (gS st 2), .int (gS st 3), .int (gS st 1), .int (gS st 0), .int 0])) := hRr.1 0 0 ro0
                  have h_TL : Mv_loopR (g.1 1 0) = some (.inr (2, [.int (mcR g 1 0), .ref (g.1 3 0), .int ((nI (nT st)))])) := hRr.1 1 0 ro1
                  have h_IL : Mv_loopR (g.1 2 0) = some (.inr (2, [.int (mcR g 2 0), .ref (g.1 4 0), .int ((nI (nN st)))])) := hRr.1 2 0 ro2
                  have h_I : Mv_loopR (g.1 7 k) = some (.inr (8, [.ref (g.1 5 (tbN st k)), .int (itS st k 1), .int (sof (itS st k 2)), .int (itS st k 3), .int (itS st k 7), .int (itS st k 6), .int (itS st k 5), .int (itS st k 12), .int (itS st k 13), .int (itS st k 14), .int (itS st k 15), .int (itS st k 8), .int (itS st k 9), .int (itS st k 10), .int (ceR g k), .ref (g.1 8 k), .ref (g.1 9 k)])) := hRr.1 7 _ (ro7 hkn_k)
                  have h_L : Mv_loopR (g.1 8 k) = some (.inr (2, [.int (mcR g 8 k), .ref (g.1 10 k), .int ((nI (rnS st k)))])) := hRr.1 8 _ (ro8 hkn_k)
                  have hrn9 := hV.rn hkn_k
                  refine lv_aload hx hb dX7_checksum_120 (lv_at hl 3 rfl) ?_
                  refine mf_calli (va_runF (As := []) (rest := []) (hK.1 1 (RJx35411, TJx35411, 4) rfl).2 ⟨hx, hb, hml, hown, hts⟩ (c_Jx35411_hasNext_aae02 l G A Mv_loopR  h_L h_it_qr) (va_cwF 0 hts gX7_checksum_Jx35411_hasNext_aae02_f123Jx35411 rfl rfl rfl hG.2.1.2.2.2.2.2.2.2.2.2.1 ⟨by decide, by decide, by decide +kernel⟩ ⟨Nat.le_of_ble_eq_true rfl, Nat.le_of_ble_eq_true rfl⟩) (mPreV hG hS hP hI hA (hP _ _ h_it_qr) (r := (RJx35411, TJx35411, 4)) rfl) rfl rfl hl.1 rfl (lv_room (Nat.le_of_ble_eq_true rfl)) dX7_checksum_122 ⟨by show ((2 + 1 * k) + 0 + 0 + 1) + 0 ≤ 10; omega, by show ((8 + 4 * k) + 0 + 0 + 4) + 0 ≤ 40; omega⟩) hS (fun r7 Mw1 H locs hp_r7 hP hI hS => ?_)
                  obtain ⟨hp_r7, hm9⟩ := hp_r7
                  subst Mw1
                  rcases hx_01 (c := j) (n := rnS st k) hk1 hrn9 hp_r7 with ⟨hr9, hkn_j⟩ | ⟨hr9, hkn_j⟩
                  · subst hr9
                    have hj7 : lsum (rvS st k) (31 * (31 * csI st (tsum st (nT st)) k + (itS st k 7).toInt64) + (itS st k 3).toInt64) j = csI st (tsum st (nT st)) (k + 1) := by rw [hkn_j]; rfl
                    rw [hj7] at hl
                    refine lv_if_eq (tgt := 158) hx hb dX7_checksum_127 (by decide) (fun _ => ?_) (fun h9 => absurd h9 (by decide))
                    refine lv_goto (tgt := 64) hx hb dX7_checksum_158 (by decide) ?_
                    refine W.widen (k := 2 + 1 * (k + 1)) (n := 8 + 4 * (k + 1)) (by omega) (by omega) ?_
                    exact ih_loopI (k + 1) (by omega) (by omega) _ H locs ls (⟨hRr, h_it_qi⟩) hP hI hS (lv_sub hl [0, 1, 2] rfl)
                  · subst hr9
                    have hf10 := hRr.f10 hkn_k (show rnS st k ≠ 0 by omega)
                    have h_DR0 : Mv_loopR (g.1 10 k) = some (.inl (G.2.1 5, 10, .inr (.inr (.inr (.inr (qf (rnS st k) (ivR g k))))))) := hRr.1 10 _ (ro10 hkn_k hf10)
                    have h_DR : Mv_loopR (g.1 10 k) = some (.inl (G.2.1 5, 10, .inr (.inr (.inr (.inr (qf (rnS st k) (ivR g k))))))) := h_DR0
                    refine lv_if_eq (tgt := 158) hx hb dX7_checksum_127 (by decide) (fun h9 => absurd h9 (by decide)) (fun _ => ?_)
                    refine lv_aload hx hb dX7_checksum_130 (lv_at hl 3 rfl) ?_
                    refine mf_callq (va_runF (As := []) (rest := []) (hK.1 1 (RJx35411, TJx35411, 4) rfl).2 ⟨hx, hb, hml, hown, hts⟩ (c_Jx35411_next_0502b l G A Mv_loopR  h_L h_it_qr h_DR (ivR g k j) hkn_j hrn9 (qf_p hkn_j)) (va_cwF 0 hts gX7_checksum_Jx35411_next_0502b_f129Jx35411 rfl rfl rfl hG.2.1.2.2.2.2.2.2.2.2.2.2.1 ⟨by decide, by decide, by decide +kernel⟩ ⟨Nat.le_of_ble_eq_true rfl, Nat.le_of_ble_eq_true rfl⟩) (mPreV hG hS hP hI hA (hP _ _ h_it_qr) (r := (RJx35411, TJx35411, 4)) rfl) rfl rfl hl.1 rfl (lv_room (Nat.le_of_ble_eq_true rfl)) dX7_checksum_132 ⟨by show ((2 + 1 * k) + 0 + 0 + 1) + 0 + 0 ≤ 10; omega, by show ((8 + 4 * k) + 0 + 0 + 4) + 0 + 0 ≤ 40; omega⟩) hS (fun r8 Mw1 H locs hp_r8 hP hI hS => ?_)
                    obtain ⟨hp_r8, hm9⟩ := hp_r8
                    subst Mw1
                    subst hp_r8
                    have h_it_qi := mu_k (e := .inr (1, [.int ((nI (j + 1))), .int ((nI j)), .int ((mcR g 8 k)), .ref (g.1 8 k)])) hqq9 h_it_qi
                    have h_X := mu_k (e := .inr (1, [.int ((nI (j + 1))), .int ((nI j)), .int ((mcR g 8 k)), .ref (g.1 8 k)])) (kd_ne h_X h_it_qr rfl) h_X
                    have h_TL := mu_k (e := .inr (1, [.int ((nI (j + 1))), .int ((nI j)), .int ((mcR g 8 k)), .ref (g.1 8 k)])) (kd_ne h_TL h_it_qr rfl) h_TL
                    have h_IL := mu_k (e := .inr (1, [.int ((nI (j + 1))), .int ((nI j)), .int ((mcR g 8 k)), .ref (g.1 8 k)])) (kd_ne h_IL h_it_qr rfl) h_IL
                    have h_I := mu_k (e := .inr (1, [.int ((nI (j + 1))), .int ((nI j)), .int ((mcR g 8 k)), .ref (g.1 8 k)])) (kd_ne h_I h_it_qr rfl) h_I
                    have h_L := mu_k (e := .inr (1, [.int ((nI (j + 1))), .int ((nI j)), .int ((mcR g 8 k)), .ref (g.1 8 k)])) (kd_ne h_L h_it_qr rfl) h_L
                    have h_DR := mu_k (e := .inr (1, [.int ((nI (j + 1))), .int ((nI j)), .int ((mcR g 8 k)), .ref (g.1 8 k)])) (kd_ne h_DR h_it_qr rfl) h_DR
                    have h_it_qr : (mu Mv_loopR qr (.inr (1, [.int ((nI (j + 1))), .int ((nI j)), .int ((mcR g 8 k)), .ref (g.1 8 k)]))) qr = some (.inr (1, [.int ((nI (j + 1))), .int ((nI j)), .int ((mcR g 8 k)), .ref (g.1 8 k)])) := mu_s
                    have h_V : (mu Mv_loopR qr (.inr (1, [.int ((nI (j + 1))), .int ((nI j)), .int ((mcR g 8 k)), .ref (g.1 8 k)]))) (ivR g k j) = some (.inr (0, [.int (rvS st k j)])) ∨ G.2.2.1 (ivR g k j) = some (.inr (0, [.int (rvS st k j)])) := or_fr (fun q9 => (mu_n (kd_ne q9 h_iv_qr rfl)).trans (rfl)) ((hRr.2.2.2.2 _ hkn_k).2.2 j hkn_j).1
                    refine va_castE hx hb hown (hts (.classLink RX7 182 RJ6) (by decide +kernel)) (or_recv (rv := (RJ6, TJ6, 1)) hG hS hP h_V rfl) dX7_checksum_137 ?_
                    refine m_calli (va_runV (As := []) (rest := []) ⟨hx, hb, hml, hown, hts⟩ (c_J6_intValue_8abf5 l G A (mu Mv_loopR qr (.inr (1, [.int ((nI (j + 1))), .int ((nI j)), .int ((mcR g 8 k)), .ref (g.1 8 k)])))  h_V) (cwV 0 hts gX7_checksum_J6_intValue_8abf5 rfl rfl rfl (by decide +kernel) ⟨Nat.le_of_ble_eq_true rfl, Nat.le_of_ble_eq_true rfl⟩) (mPreVo hG hS hP hI hA (or_recv (rv := (RJ6, TJ6, 1)) hG hS hP h_V rfl)) rfl rfl hl.1 rfl (lv_room (Nat.le_of_ble_eq_true rfl)) dX7_checksum_140 ⟨by show ((2 + 1 * k) + 0 + 0 + 1) + 0 + 0 + 0 ≤ 10; omega, by show ((8 + 4 * k) + 0 + 0 + 4) + 0 + 0 + 0 ≤ 40; omega⟩) hS (fun r9 Mw1 H locs hp_r9 hP hI hS => ?_)
                    obtain ⟨hp_r9, hm9⟩ := hp_r9
                    subst Mw1
                    subst hp_r9
                    refine lv_istore (lv' := [(6, .int (rvS st k j)), (0, .ref (g.1 0 0)), (1, .long (lsum (rvS st k) (31 * (31 * csI st (tsum st (nT st)) k + (itS st k 7).toInt64) + (itS st k 3).toInt64) j)), (3, .ref qi), (5, .ref qr)]) hx hb dX7_checksum_143 hl (by decide) rfl (fun ls hl => ?_)
                    refine lv_ldc2 (v := 31) hx hb hown (hts (.constantLong RX7 225 (31)) (by decide +kernel)) dX7_checksum_145 ?_
                    refine lv_lload_n hx hb dX7_checksum_148 rfl (lv_at hl 2 rfl) ?_
                    refine lv_lmul hx hb dX7_checksum_149 ?_
                    refine lv_iload hx hb dX7_checksum_150 (lv_at hl 0 rfl) ?_
                    refine lv_i2l (v := (rvS st k j).toInt64) hx hb dX7_checksum_152 rfl ?_
                    refine lv_ladd hx hb dX7_checksum_153 ?_
                    refine lv_lstore_n (lv' := [(1, .long ((31 * (lsum (rvS st k) (31 * (31 * csI st (tsum st (nT st)) k + (itS st k 7).toInt64) + (itS st k 3).toInt64) j)) + ((rvS st k j).toInt64))), (6, .int (rvS st k j)), (0, .ref (g.1 0 0)), (3, .ref qi), (5, .ref qr)]) hx hb dX7_checksum_154 rfl hl (by decide) rfl (fun ls hl => ?_)
                    refine lv_goto (tgt := 120) hx hb dX7_checksum_155 (by decide) ?_
                    have e_1 : (31 * (lsum (rvS st k) (31 * (31 * csI st (tsum st (nT st)) k + (itS st k 7).toInt64) + (itS st k 3).toInt64) j)) + ((rvS st k j).toInt64) = lsum (rvS st k) (31 * (31 * csI st (tsum st (nT st)) k + (itS st k 7).toInt64) + (itS st k 3).toInt64) (j + 1) := rfl
                    rw [e_1] at hl
                    exact ih_loopR (j + 1) (by omega) (by omega) _ H locs ls (⟨hRr.fr (fun x9 e9 hx9 hk8 => ((mu_n (ne_it hx9 h_iv_qr hk8 rfl)).trans (rfl)).trans hx9), h_it_qi, h_it_qr⟩) hP hI hS (lv_sub hl [2, 0, 3, 4] rfl)
              exact loopR ((rnS st k) + 1 - 0) 0 (by omega) (by omega) _ _ _ _ (⟨hRv.fr (fun x9 e9 hx9 hk8 => ((mu_n (ne_none hx9 (mu_none hn_qr).1)).trans ((mu_n (ne_it hx9 h_iv_qi hk8 rfl)).trans (rfl))).trans hx9), h_it_qi, by exact h_qr⟩) hP hI hS (lv_sub hl [3, 1, 4, 0] rfl)
        refine W.widen (k := 2 + 1 * 0) (n := 8 + 4 * 0) (by omega) (by omega) ?_
        exact loopI ((nN st) + 1 - 0) 0 (by omega) (by omega) _ _ _ _ (⟨hRv.fr (fun x9 e9 hx9 hk8 => ((mu_n (ne_none hx9 hn_qi)).trans (rfl)).trans hx9), by exact h_qi⟩) hP hI hS (lv_sub hl [1, 2, 0] rfl)
      · subst hr9
        have hf3 := hRv.f3 hkn_k
        have h_TD0 : Mv_loopT (g.1 3 0) = some (.inl (G.2.1 5, 10, .inr (.inr (.inr (.inr (qf (nT st) (g.1 5))))))) := hRv.1 3 0 (ro3 hf3)
        have h_TD : Mv_loopT (g.1 3 0) = some (.inl (G.2.1 5, 10, .inr (.inr (.inr (.inr (qf (nT st) (g.1 5))))))) := h_TD0
        refine lv_if_eq (tgt := 56) hx hb dX7_checksum_23 (by decide) (fun h9 => absurd h9 (by decide)) (fun _ => ?_)
        refine lv_aload_n hx hb dX7_checksum_26 rfl (lv_at hl 2 rfl) ?_
        refine mf_callq (va_runF (As := []) (rest := []) (hK.1 1 (RJx35411, TJx35411, 4) rfl).2 ⟨hx, hb, hml, hown, hts⟩ (c_Jx35411_next_0502b l G A Mv_loopT  h_TL h_it_qt h_TD (g.1 5 k) hkn_k hnT8 (qf_p hkn_k)) (va_cwF 0 hts gX7_checksum_Jx35411_next_0502b_f129Jx35411 rfl rfl rfl hG.2.1.2.2.2.2.2.2.2.2.2.2.1 ⟨by decide, by decide, by decide +kernel⟩ ⟨Nat.le_of_ble_eq_true rfl, Nat.le_of_ble_eq_true rfl⟩) (mPreV hG hS hP hI hA (hP _ _ h_it_qt) (r := (RJx35411, TJx35411, 4)) rfl) rfl rfl hl.1 rfl (lv_room (Nat.le_of_ble_eq_true rfl)) dX7_checksum_27 ⟨Nat.le_of_ble_eq_true rfl, Nat.le_of_ble_eq_true rfl⟩) hS (fun r10 Mw1 H locs hp_r10 hP hI hS => ?_)
        obtain ⟨hp_r10, hm9⟩ := hp_r10
        subst Mw1
        subst hp_r10
        have h_X := mu_k (e := .inr (1, [.int ((nI (k + 1))), .int ((nI k)), .int ((mcR g 1 0)), .ref (g.1 1 0)])) (kd_ne h_X h_it_qt rfl) h_X
        have h_TL := mu_k (e := .inr (1, [.int ((nI (k + 1))), .int ((nI k)), .int ((mcR g 1 0)), .ref (g.1 1 0)])) (kd_ne h_TL h_it_qt rfl) h_TL
        have h_IL := mu_k (e := .inr (1, [.int ((nI (k + 1))), .int ((nI k)), .int ((mcR g 1 0)), .ref (g.1 1 0)])) (kd_ne h_IL h_it_qt rfl) h_IL
        have h_TD := mu_k (e := .inr (1, [.int ((nI (k + 1))), .int ((nI k)), .int ((mcR g 1 0)), .ref (g.1 1 0)])) (kd_ne h_TD h_it_qt rfl) h_TD
        have h_it_qt : (mu Mv_loopT qt (.inr (1, [.int ((nI (k + 1))), .int ((nI k)), .int ((mcR g 1 0)), .ref (g.1 1 0)]))) qt = some (.inr (1, [.int ((nI (k + 1))), .int ((nI k)), .int ((mcR g 1 0)), .ref (g.1 1 0)])) := mu_s
        have h_T0 : Mv_loopT (g.1 5 k) = some (.inr (9, [.ref (g.1 6 k), .int (usS st k)])) := hRv.1 5 _ (ro5 hkn_k)
        have h_T : (mu Mv_loopT qt (.inr (1, [.int ((nI (k + 1))), .int ((nI k)), .int ((mcR g 1 0)), .ref (g.1 1 0)]))) (g.1 5 k) = some (.inr (9, [.ref (g.1 6 k), .int (usS st k)])) := ((mu_n (kd_ne h_T0 h_iv_qt rfl)).trans (rfl)).trans h_T0
        have h_B0 : Mv_loopT (g.1 6 k) = some (.inl (G.2.1 0, 20, .inl (boS st k))) := hRv.1 6 _ (ro6 hkn_k)
        have h_B : (mu Mv_loopT qt (.inr (1, [.int ((nI (k + 1))), .int ((nI k)), .int ((mcR g 1 0)), .ref (g.1 1 0)]))) (g.1 6 k) = some (.inl (G.2.1 0, 20, .inl (boS st k))) := ((mu_n (kd_ne h_B0 h_iv_qt rfl)).trans (rfl)).trans h_B0
        refine va_castE hx hb hown (hts (.classLink RX7 38 RX6) (by decide +kernel)) (va_recv hK (va_at.one (hP _ _ h_T)) (q0 := 0) (q := (RX6, TX6, 2)) rfl rfl) dX7_checksum_32 ?_
        refine lv_astore (lv' := [(4, .ref (g.1 5 k)), (0, .ref (g.1 0 0)), (1, .long (tsum st k)), (3, .ref qt)]) hx hb dX7_checksum_35 hl (by decide) rfl (fun ls hl => ?_)
        refine lv_ldc2 (v := 31) hx hb hown (hts (.constantLong RX7 225 (31)) (by decide +kernel)) dX7_checksum_37 ?_
        refine lv_lload_n hx hb dX7_checksum_40 rfl (lv_at hl 2 rfl) ?_
        refine lv_lmul hx hb dX7_checksum_41 ?_
        refine lv_aload hx hb dX7_checksum_42 (lv_at hl 0 rfl) ?_
        refine lv_sipush (v := (200)) hx hb dX7_checksum_44 (by decide) ?_
        rw [i200]
        refine m_calli (va_runV (As := [.int (nI 200)]) (rest := [.long (31 * (tsum st k))]) ⟨hx, hb, hml, hown, hts⟩ (c_X6_volume l G A (mu Mv_loopT qt (.inr (1, [.int ((nI (k + 1))), .int ((nI k)), .int ((mcR g 1 0)), .ref (g.1 1 0)])))  200 (Nat.le_refl 200) h_T h_B) (cwV 1 hts gX7_checksum_X6_volume rfl rfl rfl (by decide +kernel) ⟨Nat.le_of_ble_eq_true rfl, Nat.le_of_ble_eq_true rfl⟩) (mPreV hG hS hP hI hA (hP _ _ h_T) (r := (RX6, TX6, 2)) rfl) rfl rfl hl.1 rfl (lv_room (Nat.le_of_ble_eq_true rfl)) dX7_checksum_47 ⟨Nat.le_of_ble_eq_true rfl, Nat.le_of_ble_eq_true rfl⟩) hS (fun r11 Mw1 H locs hp_r11 hP hI hS => ?_)
        obtain ⟨hp_r11, hm9⟩ := hp_r11
        subst Mw1
        rw [← vs_ms _ 200 (Nat.le_refl 200), ← i200] at hp_r11
        subst hp_r11
        refine lv_i2l (v := (vsum (boS st k) 200 20).toInt64) hx hb dX7_checksum_50 rfl ?_
        refine lv_ladd hx hb dX7_checksum_51 ?_
        refine lv_lstore_n (lv' := [(1, .long ((31 * (tsum st k)) + ((vsum (boS st k) 200 20).toInt64))), (4, .ref (g.1 5 k)), (0, .ref (g.1 0 0)), (3, .ref qt)]) hx hb dX7_checksum_52 rfl hl (by decide) rfl (fun ls hl => ?_)
        refine lv_goto (tgt := 17) hx hb dX7_checksum_53 (by decide) ?_
        have e_1 : (31 * (tsum st k)) + ((vsum (boS st k) 200 20).toInt64) = tsum st (k + 1) := rfl
        rw [e_1] at hl
        exact ih_loopT (k + 1) (by omega) (by omega) _ H locs ls (⟨hRv.fr (fun x9 e9 hx9 hk8 => ((mu_n (ne_it hx9 h_iv_qt hk8 rfl)).trans (rfl)).trans hx9), h_it_qt⟩) hP hI hS (lv_sub hl [2, 0, 3] rfl)
  exact loopT ((nT st) + 1 - 0) 0 (by omega) (by omega) _ _ _ _ (⟨hR.th 0 h_X (fun x9 e9 hx9 h0 => ((mu_n (ne_none hx9 (mu_none hn_qt).1)).trans ((mu_n h0).trans (rfl))).trans hx9), by exact h_qt⟩) hP hI hS (lv_sub hl [2, 1, 0] rfl)

theorem cre_c {s : St} {g : gR} {f : Nat → Nat} {i n : Nat} (hi : i < nN s) (hf : f i = n) : celI (crS s f) g i = .inr (8, [.ref (g.1 5 (tbN s i)), .int (itS s i 1), .int (sof (itS s i 2)), .int (crp (itS s i 1) (itS s i 2) (itS s i 3) n), .int (itS s i 7), .int (itS s i 6), .int (itS s i 5), .int (itS s i 12), .int (itS s i 13), .int (itS s i 14), .int (itS s i 15), .int (itS s i 8), .int (itS s i 9), .int (itS s i 10), .int (ceR g i), .ref (g.1 8 i), .ref (g.1 9 i)]) := by
  unfold celI tbN
  rw [crS_i hi, hf]
  rfl
set_option maxHeartbeats 4000000 in
set_option maxRecDepth 100000 in
theorem c_X7_days (l : Launch) (G : mg) (A : Nat → Prop) (Mw : mw) (st : St) (g : gR) (p0 : Int32) (hR : RS G st g Mw) (hV : Inv st) : Met l yX7_days wsX7_days ({ frames := 3, cells := 1000, slots := 4000, locals := 61 }) (va_Pc [.ref (g.1 0 0), .int p0] (mB G A Mw)) (va_Qi (fun r Mw1 => RP G (m_days st p0) g r Mw1) (mE G A) A) 1000 4000 A := by
  refine Met.ofW (cc := cX7_days) (maxL := 5) (ret := (some .int)) (by decide) rfl ?_
  intro p e s m args below meth c s₁ B hml hv
  obtain ⟨rfl, hG, hP, hI, hA⟩ := hv
  have hx := B.exec
  have hb := B.bytes
  have hr := B.returns
  have hts := atoms_spec (ws := wsX7_days) B.pre
  have hown : s.vm.findClass RX7 = some m.cls := findClass_of_methodNamed B.named
  have hlocks := B.notSynchronized
  have hK := hG.K
  have i_X7 : ∀ w ∈ wsX70, w ∈ wsX7_days := by decide +kernel
  have hS : va_S A s.heap s.heap [] := va_S.rf
  have hl := lv_entry ([.ref (g.1 0 0), .int p0]) (n := 5) (Nat.le_of_ble_eq_true rfl)
  rw [lg_entry_eq]
  generalize (lg_sl ([.ref (g.1 0 0), .int p0]) ++ List.replicate (5 - (lg_sl ([.ref (g.1 0 0), .int p0])).length) Slot.unset).toArray = ls at hl ⊢
  have hl : lv_has ls 5 [(0, .ref (g.1 0 0)), (1, .int p0)] := hl
  have hP : mP G.1 Mw s.heap := hP
  have h_X : Mw (g.1 0 0) = some (.inr (10, [.ref (g.1 1 0), .ref (g.1 2 0), .int (gS st 2), .int (gS st 3), .int (gS st 1), .int (gS st 0), .int (thR g)])) := hR.1 0 0 ro0
  have h_TL : Mw (g.1 1 0) = some (.inr (2, [.int (mcR g 1 0), .ref (g.1 3 0), .int ((nI (nT st)))])) := hR.1 1 0 ro1
  have h_IL : Mw (g.1 2 0) = some (.inr (2, [.int (mcR g 2 0), .ref (g.1 4 0), .int ((nI (nN st)))])) := hR.1 2 0 ro2
  have hti9 := hR.ne ro1 ro2 (by omega)
  have hnT8 := hV.1.1
  have hnN8 := Nat.le_trans hV.1.2 (show 6 ≤ 8 by decide)
  refine lv_aload_n hx hb dX7_days_0 rfl (lv_at hl 0 rfl) ?_
  refine lv_iload_n hx hb dX7_days_1 rfl (lv_at hl 1 rfl) ?_
  refine lv_iconst (v := 1) hx hb dX7_days_2 (by decide) ?_
  refine lv_sipush (v := (999)) hx hb dX7_days_3 (by decide) ?_
  refine m_calli (va_runS (As := [.int p0, .int 1, .int 999]) (rest := [.ref (g.1 0 0)]) ⟨hx, hb, hml, hown, hts⟩ (c_X7_isIn l G A Mw  p0 1 999) (va_cwS 3 hts gX7_days_X7_isIn rfl rfl rfl (by decide +kernel) ⟨Nat.le_of_ble_eq_true rfl, Nat.le_of_ble_eq_true rfl⟩) (mPreS hG hS hP hI hA) rfl rfl hl.1 rfl (lv_room (Nat.le_of_ble_eq_true rfl)) dX7_days_6 ⟨Nat.le_of_ble_eq_true rfl, Nat.le_of_ble_eq_true rfl⟩) hS (fun r1 Mw1 H locs hp_r1 hP hI hS => ?_)
  obtain ⟨hb9, hm9⟩ := hp_r1
  subst Mw1
  rcases hb9 with ⟨hr9, hq_r1⟩ | ⟨hr9, hq_r1⟩
  · subst hr9
    refine lv_if_ne (tgt := 16) hx hb dX7_days_9 (by decide) (fun h9 => absurd h9 (by decide)) (fun _ => ?_)
    refine lv_iconst (v := 1) hx hb dX7_days_12 (by decide) ?_
    refine lv_goto (tgt := 17) hx hb dX7_days_13 (by decide) ?_
    refine lv_iconst (v := 1) hx hb dX7_days_17 (by decide) ?_
    refine m_calli (va_runV (As := [.int 1, .int 1]) (rest := []) ⟨hx, hb, hml, hown, hts⟩ (c_X7_isThrown1 l G A Mw  1 h_X) (cwV 2 hts gX7_days_X7_isThrown rfl rfl rfl (by decide +kernel) ⟨Nat.le_of_ble_eq_true rfl, Nat.le_of_ble_eq_true rfl⟩) (mPreV hG hS hP hI hA (hP _ _ h_X) (r := (RX7, TX7, 7)) rfl) rfl rfl hl.1 rfl (lv_room (Nat.le_of_ble_eq_true rfl)) dX7_days_18 ⟨Nat.le_of_ble_eq_true rfl, Nat.le_of_ble_eq_true rfl⟩) hS (fun r2 Mw1 H locs hp_r2 hP hI hS => ?_)
    obtain ⟨hp_r2, hm9⟩ := hp_r2
    subst Mw1
    subst hp_r2
    have h_TL := mu_k (e := .inr (10, [.ref (g.1 1 0), .ref (g.1 2 0), .int (gS st 2), .int (gS st 3), .int (gS st 1), .int (gS st 0), .int 1])) (kd_ne h_TL h_X rfl) h_TL
    have h_IL := mu_k (e := .inr (10, [.ref (g.1 1 0), .ref (g.1 2 0), .int (gS st 2), .int (gS st 3), .int (gS st 1), .int (gS st 0), .int 1])) (kd_ne h_IL h_X rfl) h_IL
    have h_X : (mu Mw (g.1 0 0) (.inr (10, [.ref (g.1 1 0), .ref (g.1 2 0), .int (gS st 2), .int (gS st 3), .int (gS st 1), .int (gS st 0), .int 1]))) (g.1 0 0) = some (.inr (10, [.ref (g.1 1 0), .ref (g.1 2 0), .int (gS st 2), .int (gS st 3), .int (gS st 1), .int (gS st 0), .int 1])) := mu_s
    refine lv_if_ne (tgt := 49) hx hb dX7_days_21 (by decide) (fun _ => ?_) (fun h9 => absurd h9 (by decide))
    refine lv_iconst (v := 0) hx hb dX7_days_49 (by decide) ?_
    refine W.widen (k := 1000) (n := 4000) (Nat.le_of_ble_eq_true rfl) (Nat.le_of_ble_eq_true rfl) ?_
    exact W.iret (v := 0) hx hb hr (fun t99 ht99 hW99 => ⟨⟨0, (mu Mw (g.1 0 0) (.inr (10, [.ref (g.1 1 0), .ref (g.1 2 0), .int (gS st 2), .int (gS st 3), .int (gS st 1), .int (gS st 0), .int 1]))), rfl, RP.no (k := 1) (by unfold m_days; first | (rw [chk_n hq_r1]; done) | (rw [chk_n hq_r1]; rfl)) (by decide) (hR.th 1 h_X (fun x9 e9 hx9 h0 => ((mu_n h0).trans (rfl)).trans hx9)) rfl rfl, by rw [ht99]; exact hP, hI⟩, hS.F ht99⟩) hS.2.2 dX7_days_50
  · subst hr9
    have hd8 : ix p0 ≤ 999 := rg_ix (N := 999) (by omega) rfl ⟨fun q9 => hq_r1.1 (Int32.lt_trans q9 (by decide)), hq_r1.2⟩
    have e_p0 : p0 = nI (ix p0) := nI_cl (fun q9 => hq_r1.1 (Int32.lt_trans q9 (by decide)))
    refine lv_if_ne (tgt := 16) hx hb dX7_days_9 (by decide) (fun _ => ?_) (fun h9 => absurd h9 (by decide))
    refine lv_iconst (v := 0) hx hb dX7_days_16 (by decide) ?_
    refine lv_iconst (v := 1) hx hb dX7_days_17 (by decide) ?_
    refine m_calli (va_runV (As := [.int 0, .int 1]) (rest := []) ⟨hx, hb, hml, hown, hts⟩ (c_X7_isThrown0 l G A Mw  1 h_X) (cwV 2 hts gX7_days_X7_isThrown rfl rfl rfl (by decide +kernel) ⟨Nat.le_of_ble_eq_true rfl, Nat.le_of_ble_eq_true rfl⟩) (mPreV hG hS hP hI hA (hP _ _ h_X) (r := (RX7, TX7, 7)) rfl) rfl rfl hl.1 rfl (lv_room (Nat.le_of_ble_eq_true rfl)) dX7_days_18 ⟨Nat.le_of_ble_eq_true rfl, Nat.le_of_ble_eq_true rfl⟩) hS (fun r3 Mw1 H locs hp_r3 hP hI hS => ?_)
    obtain ⟨hp_r3, hm9⟩ := hp_r3
    subst Mw1
    subst hp_r3
    have h_TL := mu_k (e := .inr (10, [.ref (g.1 1 0), .ref (g.1 2 0), .int (gS st 2), .int (gS st 3), .int (gS st 1), .int (gS st 0), .int 0])) (kd_ne h_TL h_X rfl) h_TL
    have h_IL := mu_k (e := .inr (10, [.ref (g.1 1 0), .ref (g.1 2 0), .int (gS st 2), .int (gS st 3), .int (gS st 1), .int (gS st 0), .int 0])) (kd_ne h_IL h_X rfl) h_IL
    have h_X : (mu Mw (g.1 0 0) (.inr (10, [.ref (g.1 1 0), .ref (g.1 2 0), .int (gS st 2), .int (gS st 3), .int (gS st 1), .int (gS st 0), .int 0]))) (g.1 0 0) = some (.inr (10, [.ref (g.1 1 0), .ref (g.1 2 0), .int (gS st 2), .int (gS st 3), .int (gS st 1), .int (gS st 0), .int 0])) := mu_s
    refine lv_if_ne (tgt := 49) hx hb dX7_days_21 (by decide) (fun h9 => absurd h9 (by decide)) (fun _ => ?_)
    refine lv_aload_n hx hb dX7_days_24 rfl (lv_at hl 0 rfl) ?_
    refine lv_aload_n hx hb dX7_days_25 rfl (lv_at hl 0 rfl) ?_
    refine m_get (ci := 10) (v := .int (gS st 1)) (C := RX7) (T := TX7) (N := 7) hx hb hts i_X7 hown hK (hP _ _ h_X) rfl 4 (by decide) (hts (.fieldLink RX7 116 "MeniscusModel" "day" "I") (by decide +kernel)) (fun _ h9 => h9) rfl dX7_days_26 ?_
    refine lv_iload_n hx hb dX7_days_29 rfl (lv_at hl 1 rfl) ?_
    refine lv_iadd hx hb dX7_days_30 ?_
    refine lv_sipush (v := (9999)) hx hb dX7_days_31 (by decide) ?_
    refine lv_icmp_le (tgt := 41) hx hb dX7_days_34 (by decide) (fun c4 => ?_) (fun c4 => ?_)
    · skip
      have hd7 : gS st 1 + p0 ≤ 9999 := c4
      refine lv_iconst (v := 0) hx hb dX7_days_41 (by decide) ?_
      refine lv_iconst (v := 2) hx hb dX7_days_42 (by decide) ?_
      refine m_calli (va_runV (As := [.int 0, .int 2]) (rest := []) ⟨hx, hb, hml, hown, hts⟩ (c_X7_isThrown0 l G A (mu Mw (g.1 0 0) (.inr (10, [.ref (g.1 1 0), .ref (g.1 2 0), .int (gS st 2), .int (gS st 3), .int (gS st 1), .int (gS st 0), .int 0])))  2 h_X) (cwV 2 hts gX7_days_X7_isThrown rfl rfl rfl (by decide +kernel) ⟨Nat.le_of_ble_eq_true rfl, Nat.le_of_ble_eq_true rfl⟩) (mPreV hG hS hP hI hA (hP _ _ h_X) (r := (RX7, TX7, 7)) rfl) rfl rfl hl.1 rfl (lv_room (Nat.le_of_ble_eq_true rfl)) dX7_days_43 ⟨Nat.le_of_ble_eq_true rfl, Nat.le_of_ble_eq_true rfl⟩) hS (fun r5 Mw1 H locs hp_r5 hP hI hS => ?_)
      obtain ⟨hp_r5, hm9⟩ := hp_r5
      subst Mw1
      subst hp_r5
      have h_TL := mu_k (e := .inr (10, [.ref (g.1 1 0), .ref (g.1 2 0), .int (gS st 2), .int (gS st 3), .int (gS st 1), .int (gS st 0), .int 0])) (kd_ne h_TL h_X rfl) h_TL
      have h_IL := mu_k (e := .inr (10, [.ref (g.1 1 0), .ref (g.1 2 0), .int (gS st 2), .int (gS st 3), .int (gS st 1), .int (gS st 0), .int 0])) (kd_ne h_IL h_X rfl) h_IL
      have h_X : (mu (mu Mw (g.1 0 0) (.inr (10, [.ref (g.1 1 0), .ref (g.1 2 0), .int (gS st 2), .int (gS st 3), .int (gS st 1), .int (gS st 0), .int 0]))) (g.1 0 0) (.inr (10, [.ref (g.1 1 0), .ref (g.1 2 0), .int (gS st 2), .int (gS st 3), .int (gS st 1), .int (gS st 0), .int 0]))) (g.1 0 0) = some (.inr (10, [.ref (g.1 1 0), .ref (g.1 2 0), .int (gS st 2), .int (gS st 3), .int (gS st 1), .int (gS st 0), .int 0])) := mu_s
      refine lv_if_eq (tgt := 51) hx hb dX7_days_46 (by decide) (fun _ => ?_) (fun h9 => absurd h9 (by decide))
      refine lv_aload_n hx hb dX7_days_51 rfl (lv_at hl 0 rfl) ?_
      refine lv_dup hx hb dX7_days_52 rfl ?_
      refine m_get (ci := 10) (v := .int (gS st 1)) (C := RX7) (T := TX7) (N := 7) hx hb hts i_X7 hown hK (hP _ _ h_X) rfl 4 (by decide) (hts (.fieldLink RX7 116 "MeniscusModel" "day" "I") (by decide +kernel)) (fun _ h9 => h9) rfl dX7_days_53 ?_
      refine lv_iload_n hx hb dX7_days_56 rfl (lv_at hl 1 rfl) ?_
      refine lv_iadd hx hb dX7_days_57 ?_
      refine m_put (ci := 10) (v := .int ((gS st 1) + p0)) (ty := .int) (C := RX7) (T := TX7) (N := 7) hx hb hts i_X7 tyX7 tyX7_ok nmX7 hown hK hP hI hS h_X rfl 4 (by decide) (hts (.fieldLink RX7 116 "MeniscusModel" "day" "I") (by decide +kernel)) (fun _ h9 => h9) rfl (by decide +kernel) rfl rfl (Nat.le_of_ble_eq_true rfl) dX7_days_58 (fun H locs hP hI hS => ?_)
      have hP : mP G.1 (mu (mu (mu Mw (g.1 0 0) (.inr (10, [.ref (g.1 1 0), .ref (g.1 2 0), .int (gS st 2), .int (gS st 3), .int (gS st 1), .int (gS st 0), .int 0]))) (g.1 0 0) (.inr (10, [.ref (g.1 1 0), .ref (g.1 2 0), .int (gS st 2), .int (gS st 3), .int (gS st 1), .int (gS st 0), .int 0]))) (g.1 0 0) (.inr (10, [.ref (g.1 1 0), .ref (g.1 2 0), .int (gS st 2), .int (gS st 3), .int ((gS st 1) + p0), .int (gS st 0), .int 0]))) H := hP
      have hI : mI A (mu (mu (mu Mw (g.1 0 0) (.inr (10, [.ref (g.1 1 0), .ref (g.1 2 0), .int (gS st 2), .int (gS st 3), .int (gS st 1), .int (gS st 0), .int 0]))) (g.1 0 0) (.inr (10, [.ref (g.1 1 0), .ref (g.1 2 0), .int (gS st 2), .int (gS st 3), .int (gS st 1), .int (gS st 0), .int 0]))) (g.1 0 0) (.inr (10, [.ref (g.1 1 0), .ref (g.1 2 0), .int (gS st 2), .int (gS st 3), .int ((gS st 1) + p0), .int (gS st 0), .int 0]))) := hI
      have h_TL := mu_k (e := .inr (10, [.ref (g.1 1 0), .ref (g.1 2 0), .int (gS st 2), .int (gS st 3), .int ((gS st 1) + p0), .int (gS st 0), .int 0])) (kd_ne h_TL h_X rfl) h_TL
      have h_IL := mu_k (e := .inr (10, [.ref (g.1 1 0), .ref (g.1 2 0), .int (gS st 2), .int (gS st 3), .int ((gS st 1) + p0), .int (gS st 0), .int 0])) (kd_ne h_IL h_X rfl) h_IL
      rw [mu_uu] at hP hI h_TL h_IL
      have h_X : (mu (mu Mw (g.1 0 0) (.inr (10, [.ref (g.1 1 0), .ref (g.1 2 0), .int (gS st 2), .int (gS st 3), .int (gS st 1), .int (gS st 0), .int 0]))) (g.1 0 0) (.inr (10, [.ref (g.1 1 0), .ref (g.1 2 0), .int (gS st 2), .int (gS st 3), .int ((gS st 1) + p0), .int (gS st 0), .int 0]))) (g.1 0 0) = some (.inr (10, [.ref (g.1 1 0), .ref (g.1 2 0), .int (gS st 2), .int (gS st 3), .int ((gS st 1) + p0), .int (gS st 0), .int 0])) := mu_s
      rw [e_p0] at hl
      refine lv_iconst (v := 0) hx hb dX7_days_61 (by decide) ?_
      refine lv_istore_n (lv' := [(2, .int 0), (0, .ref (g.1 0 0)), (1, .int (nI (ix p0)))]) hx hb dX7_days_62 rfl hl (by decide) rfl (fun ls hl => ?_)
      have loopD : ∀ (n k : Nat), k ≤ (ix p0) → k + n = (ix p0) + 1 → ∀ (Mv_loopD : mw) (H : Heap) (locs : List Loc) (ls : Array Slot), (RS G (crS (sG st 1 (gS st 1 + p0)) (fun _ => k)) (tG g 0) Mv_loopD) → mP G.1 Mv_loopD H → mI A Mv_loopD → va_S A s.heap H locs → lv_has ls 5 [(0, .ref (g.1 0 0)), (1, .int (nI (ix p0))), (2, .int (nI k))] → W p l e ({ frames := 3, cells := 1000, slots := 4000, locals := 61 }) s m ([.ref (g.1 0 0), .int p0] : List Value).toArray below meth c H locs (0 + 1 * k) (0 + 4 * k) (MQ below (va_Qi (fun r Mw1 => RP G (m_days st p0) g r Mw1) (mE G A) A) ([.ref (g.1 0 0), .int p0] : List Value).toArray s 1000 4000 A) (F0 m 63 ls []) := by
        intro n
        induction n with
        | zero => intro k hk1 hk2; omega
        | succ n ih_loopD =>
          intro k hk1 hk2 Mv_loopD H locs ls hD hP hI hS hl
          have h_X : Mv_loopD (g.1 0 0) = some (.inr (10, [.ref (g.1 1 0), .ref (g.1 2 0), .int (gS st 2), .int (gS st 3), .int (gS st 1 + p0), .int (gS st 0), .int 0])) := hD.1 0 0 ro0
          have h_TL : Mv_loopD (g.1 1 0) = some (.inr (2, [.int (mcR g 1 0), .ref (g.1 3 0), .int ((nI (nT st)))])) := hD.1 1 0 ro1
          have h_IL : Mv_loopD (g.1 2 0) = some (.inr (2, [.int (mcR g 2 0), .ref (g.1 4 0), .int ((nI (nN st)))])) := hD.1 2 0 ro2
          refine lv_iload_n hx hb dX7_days_63 rfl (lv_at hl 2 rfl) ?_
          refine lv_iload_n hx hb dX7_days_64 rfl (lv_at hl 1 rfl) ?_
          refine lv_icmp_ge (tgt := 110) hx hb dX7_days_65 (by decide) (fun c6 => ?_) (fun c6 => ?_)
          · skip
            have hk9 : k = ix p0 := by have h8 := (nI_leI (a := ix p0) (b := k) (by omega) (by omega)).mp c6; omega
            refine lv_aload_n hx hb dX7_days_110 rfl (lv_at hl 0 rfl) ?_
            refine m_get (ci := 10) (v := .int (gS st 1 + p0)) (C := RX7) (T := TX7) (N := 7) hx hb hts i_X7 hown hK (hP _ _ h_X) rfl 4 (by decide) (hts (.fieldLink RX7 116 "MeniscusModel" "day" "I") (by decide +kernel)) (fun _ h9 => h9) rfl dX7_days_111 ?_
            refine W.widen (k := 1000) (n := 4000) (by omega) (by omega) ?_
            exact W.iret (v := gS st 1 + p0) hx hb hr (fun t99 ht99 hW99 => ⟨⟨gS st 1 + p0, Mv_loopD, rfl, RP.ok (by unfold m_days; first | (rw [chk_p hq_r1, chk_p hd7]; done) | (rw [chk_p hq_r1, chk_p hd7]; rfl)) (g1 := tG g 0) (by rw [hk9] at hD; exact hD) rfl rfl, by rw [ht99]; exact hP, hI⟩, hS.F ht99⟩) hS.2.2 dX7_days_114
          · skip
            have hk9 : k < ix p0 := Nat.lt_of_not_le (fun q => c6 (nI_le (a := ix p0) q (by omega)))
            refine lv_aload_n hx hb dX7_days_68 rfl (lv_at hl 0 rfl) ?_
            refine m_get (ci := 10) (v := .ref (g.1 2 0)) (C := RX7) (T := TX7) (N := 7) hx hb hts i_X7 hown hK (hP _ _ h_X) rfl 1 (by decide) (hts (.fieldLink RX7 16 "MeniscusModel" "instruments" "Ljava/util/ArrayList;") (by decide +kernel)) (fun _ h9 => h9) rfl dX7_days_69 ?_
            refine m_callq (va_runV (As := []) (rest := []) ⟨hx, hb, hml, hown, hts⟩ (c_Jx4a65c_iterator_32c93 l G A Mv_loopD  h_IL) (cwV 0 hts gX7_days_Jx4a65c_iterator_32c93 rfl rfl rfl (by decide +kernel) ⟨Nat.le_of_ble_eq_true rfl, Nat.le_of_ble_eq_true rfl⟩) (mPreV hG hS hP hI hA (hP _ _ h_IL) (r := (RJx4a65c, TJx4a65c, 3)) rfl) rfl rfl hl.1 rfl (lv_room (Nat.le_of_ble_eq_true rfl)) dX7_days_72 ⟨by show (0 + 1 * k) + 1 ≤ 1000; omega, by show (0 + 4 * k) + 4 ≤ 4000; omega⟩) hS (fun r7 Mw1 H locs hp_r7 hP hI hS => ?_)
            obtain ⟨qi, hp_r7, hn_qi, hm9⟩ := hp_r7
            subst Mw1
            subst hp_r7
            have h_X := mu_x (e := .inr (1, [.int 0, .int ((-1)), .int (mcR g 2 0), .ref (g.1 2 0)])) h_X hn_qi
            have h_TL := mu_x (e := .inr (1, [.int 0, .int ((-1)), .int (mcR g 2 0), .ref (g.1 2 0)])) h_TL hn_qi
            have h_IL := mu_x (e := .inr (1, [.int 0, .int ((-1)), .int (mcR g 2 0), .ref (g.1 2 0)])) h_IL hn_qi
            have h_qi : (mu Mv_loopD qi (.inr (1, [.int 0, .int ((-1)), .int (mcR g 2 0), .ref (g.1 2 0)]))) qi = some (.inr (1, [.int 0, .int ((-1)), .int (mcR g 2 0), .ref (g.1 2 0)])) := mu_s
            refine lv_astore_n (lv' := [(3, .ref qi), (0, .ref (g.1 0 0)), (1, .int (nI (ix p0))), (2, .int (nI k))]) hx hb dX7_days_75 rfl hl (by decide) rfl (fun ls hl => ?_)
            have loopJ : ∀ (n j : Nat), j ≤ (nN st) → j + n = (nN st) + 1 → ∀ (Mv_loopJ : mw) (H : Heap) (locs : List Loc) (ls : Array Slot), (RS G (crS (sG st 1 (gS st 1 + p0)) (fun i => k + if i < j then 1 else 0)) (tG g 0) Mv_loopJ ∧ Mv_loopJ qi = some (.inr (1, [.int ((nI j)), .int ((lrI j)), .int ((mcR g 2 0)), .ref (g.1 2 0)]))) → mP G.1 Mv_loopJ H → mI A Mv_loopJ → va_S A s.heap H locs → lv_has ls 5 [(0, .ref (g.1 0 0)), (1, .int (nI (ix p0))), (2, .int (nI k)), (3, .ref qi)] → W p l e ({ frames := 3, cells := 1000, slots := 4000, locals := 61 }) s m ([.ref (g.1 0 0), .int p0] : List Value).toArray below meth c H locs ((0 + 1 * k) + 1) ((0 + 4 * k) + 4) (MQ below (va_Qi (fun r Mw1 => RP G (m_days st p0) g r Mw1) (mE G A) A) ([.ref (g.1 0 0), .int p0] : List Value).toArray s 1000 4000 A) (F0 m 76 ls []) := by
              intro n
              induction n with
              | zero => intro j hk1 hk2; omega
              | succ n ih_loopJ =>
                intro j hk1 hk2 Mv_loopJ H locs ls hW hP hI hS hl
                obtain ⟨hRj, h_it_qi⟩ := hW
                have h_iv_qi := h_it_qi
                have h_X : Mv_loopJ (g.1 0 0) = some (.inr (10, [.ref (g.1 1 0), .ref (g.1 2 0), .int (gS st 2), .int (gS st 3), .int (gS st 1 + p0), .int (gS st 0), .int 0])) := hRj.1 0 0 ro0
                have h_TL : Mv_loopJ (g.1 1 0) = some (.inr (2, [.int (mcR g 1 0), .ref (g.1 3 0), .int ((nI (nT st)))])) := hRj.1 1 0 ro1
                have h_IL : Mv_loopJ (g.1 2 0) = some (.inr (2, [.int (mcR g 2 0), .ref (g.1 4 0), .int ((nI (nN st)))])) := hRj.1 2 0 ro2
                refine lv_aload_n hx hb dX7_days_76 rfl (lv_at hl 3 rfl) ?_
                refine mf_calli (va_runF (As := []) (rest := []) (hK.1 1 (RJx35411, TJx35411, 4) rfl).2 ⟨hx, hb, hml, hown, hts⟩ (c_Jx35411_hasNext_aae02 l G A Mv_loopJ  h_IL h_it_qi) (va_cwF 0 hts gX7_days_Jx35411_hasNext_aae02_f123Jx35411 rfl rfl rfl hG.2.1.2.2.2.2.2.2.2.2.2.1 ⟨by decide, by decide, by decide +kernel⟩ ⟨Nat.le_of_ble_eq_true rfl, Nat.le_of_ble_eq_true rfl⟩) (mPreV hG hS hP hI hA (hP _ _ h_it_qi) (r := (RJx35411, TJx35411, 4)) rfl) rfl rfl hl.1 rfl (lv_room (Nat.le_of_ble_eq_true rfl)) dX7_days_77 ⟨by show ((0 + 1 * k) + 1) + 0 ≤ 1000; omega, by show ((0 + 4 * k) + 4) + 0 ≤ 4000; omega⟩) hS (fun r8 Mw1 H locs hp_r8 hP hI hS => ?_)
                obtain ⟨hp_r8, hm9⟩ := hp_r8
                subst Mw1
                rcases hx_01 (c := j) (n := nN st) hk1 hnN8 hp_r8 with ⟨hr9, hkn_j⟩ | ⟨hr9, hkn_j⟩
                · subst hr9
                  refine lv_if_eq (tgt := 104) hx hb dX7_days_82 (by decide) (fun _ => ?_) (fun h9 => absurd h9 (by decide))
                  refine lv_iinc (v := (nI k) + 1) (lv' := [(2, .int ((nI k) + 1)), (0, .ref (g.1 0 0)), (1, .int (nI (ix p0))), (3, .ref qi)]) hx hb dX7_days_104 hl (k := 2) rfl rfl (by decide) rfl (fun ls hl => ?_)
                  refine lv_goto (tgt := 63) hx hb dX7_days_107 (by decide) ?_
                  have e_2 : (nI k) + 1 = nI (k + 1) := nI_1 k
                  rw [e_2] at hl
                  refine W.widen (k := 0 + 1 * (k + 1)) (n := 0 + 4 * (k + 1)) (by omega) (by omega) ?_
                  exact ih_loopD (k + 1) (by omega) (by omega) _ H locs ls ((show RS G (crS (sG st 1 (gS st 1 + p0)) (fun _ => k + 1)) (tG g 0) Mv_loopJ from by rw [crS_c (f1 := (fun i => k + if i < j then 1 else 0)) (fun i9 hi9 => by have hi8 : i9 < nN st := hi9; show k + 1 = k + (if i9 < j then 1 else 0); rw [if_pos (by omega)])]; exact hRj)) hP hI hS (lv_sub hl [1, 2, 0] rfl)
                · subst hr9
                  have hf4 := hRj.f4 hkn_j
                  have h_ID0 : Mv_loopJ (g.1 4 0) = some (.inl (G.2.1 5, 10, .inr (.inr (.inr (.inr (qf (nN st) (g.1 7))))))) := hRj.1 4 0 (ro4 hf4)
                  have h_ID : Mv_loopJ (g.1 4 0) = some (.inl (G.2.1 5, 10, .inr (.inr (.inr (.inr (qf (nN st) (g.1 7))))))) := h_ID0
                  refine lv_if_eq (tgt := 104) hx hb dX7_days_82 (by decide) (fun h9 => absurd h9 (by decide)) (fun _ => ?_)
                  refine lv_aload_n hx hb dX7_days_85 rfl (lv_at hl 3 rfl) ?_
                  refine mf_callq (va_runF (As := []) (rest := []) (hK.1 1 (RJx35411, TJx35411, 4) rfl).2 ⟨hx, hb, hml, hown, hts⟩ (c_Jx35411_next_0502b l G A Mv_loopJ  h_IL h_it_qi h_ID (g.1 7 j) hkn_j hnN8 (qf_p hkn_j)) (va_cwF 0 hts gX7_days_Jx35411_next_0502b_f129Jx35411 rfl rfl rfl hG.2.1.2.2.2.2.2.2.2.2.2.2.1 ⟨by decide, by decide, by decide +kernel⟩ ⟨Nat.le_of_ble_eq_true rfl, Nat.le_of_ble_eq_true rfl⟩) (mPreV hG hS hP hI hA (hP _ _ h_it_qi) (r := (RJx35411, TJx35411, 4)) rfl) rfl rfl hl.1 rfl (lv_room (Nat.le_of_ble_eq_true rfl)) dX7_days_86 ⟨by show ((0 + 1 * k) + 1) + 0 + 0 ≤ 1000; omega, by show ((0 + 4 * k) + 4) + 0 + 0 ≤ 4000; omega⟩) hS (fun r9 Mw1 H locs hp_r9 hP hI hS => ?_)
                  obtain ⟨hp_r9, hm9⟩ := hp_r9
                  subst Mw1
                  subst hp_r9
                  have h_X := mu_k (e := .inr (1, [.int ((nI (j + 1))), .int ((nI j)), .int ((mcR g 2 0)), .ref (g.1 2 0)])) (kd_ne h_X h_it_qi rfl) h_X
                  have h_TL := mu_k (e := .inr (1, [.int ((nI (j + 1))), .int ((nI j)), .int ((mcR g 2 0)), .ref (g.1 2 0)])) (kd_ne h_TL h_it_qi rfl) h_TL
                  have h_IL := mu_k (e := .inr (1, [.int ((nI (j + 1))), .int ((nI j)), .int ((mcR g 2 0)), .ref (g.1 2 0)])) (kd_ne h_IL h_it_qi rfl) h_IL
                  have h_ID := mu_k (e := .inr (1, [.int ((nI (j + 1))), .int ((nI j)), .int ((mcR g 2 0)), .ref (g.1 2 0)])) (kd_ne h_ID h_it_qi rfl) h_ID
                  have h_it_qi : (mu Mv_loopJ qi (.inr (1, [.int ((nI (j + 1))), .int ((nI j)), .int ((mcR g 2 0)), .ref (g.1 2 0)]))) qi = some (.inr (1, [.int ((nI (j + 1))), .int ((nI j)), .int ((mcR g 2 0)), .ref (g.1 2 0)])) := mu_s
                  have h_I0 : Mv_loopJ (g.1 7 j) = some (.inr (8, [.ref (g.1 5 (tbN st j)), .int (itS st j 1), .int (sof (itS st j 2)), .int (crp (itS st j 1) (itS st j 2) (itS st j 3) k), .int (itS st j 7), .int (itS st j 6), .int (itS st j 5), .int (itS st j 12), .int (itS st j 13), .int (itS st j 14), .int (itS st j 15), .int (itS st j 8), .int (itS st j 9), .int (itS st j 10), .int (ceR g j), .ref (g.1 8 j), .ref (g.1 9 j)])) := (hRj.1 7 _ (ro7 hkn_j)).trans (congrArg some (cre_c (s := (sG st 1 (gS st 1 + p0))) (g := tG g 0) (f := (fun i => k + if i < j then 1 else 0)) hkn_j (by show k + (if j < j then 1 else 0) = k; rw [if_neg (Nat.lt_irrefl _)]; rfl)))
                  have h_I : (mu Mv_loopJ qi (.inr (1, [.int ((nI (j + 1))), .int ((nI j)), .int ((mcR g 2 0)), .ref (g.1 2 0)]))) (g.1 7 j) = some (.inr (8, [.ref (g.1 5 (tbN st j)), .int (itS st j 1), .int (sof (itS st j 2)), .int (crp (itS st j 1) (itS st j 2) (itS st j 3) k), .int (itS st j 7), .int (itS st j 6), .int (itS st j 5), .int (itS st j 12), .int (itS st j 13), .int (itS st j 14), .int (itS st j 15), .int (itS st j 8), .int (itS st j 9), .int (itS st j 10), .int (ceR g j), .ref (g.1 8 j), .ref (g.1 9 j)])) := ((mu_n (kd_ne h_I0 h_iv_qi rfl)).trans (rfl)).trans h_I0
                  refine va_castE hx hb hown (hts (.classLink RX7 79 RX5) (by decide +kernel)) (va_recv hK (va_at.one (hP _ _ h_I)) (q0 := 0) (q := (RX5, TX5, 17)) rfl rfl) dX7_days_91 ?_
                  refine lv_astore (lv' := [(4, .ref (g.1 7 j)), (0, .ref (g.1 0 0)), (1, .int (nI (ix p0))), (2, .int (nI k)), (3, .ref qi)]) hx hb dX7_days_94 hl (by decide) rfl (fun ls hl => ?_)
                  refine lv_aload hx hb dX7_days_96 (lv_at hl 0 rfl) ?_
                  refine m_callv (va_runV (As := []) (rest := []) ⟨hx, hb, hml, hown, hts⟩ (c_X5_creeps l G A (mu Mv_loopJ qi (.inr (1, [.int ((nI (j + 1))), .int ((nI j)), .int ((mcR g 2 0)), .ref (g.1 2 0)])))  h_I) (cwV 0 hts gX7_days_X5_creeps rfl rfl rfl (by decide +kernel) ⟨Nat.le_of_ble_eq_true rfl, Nat.le_of_ble_eq_true rfl⟩) (mPreV hG hS hP hI hA (hP _ _ h_I) (r := (RX5, TX5, 17)) rfl) rfl rfl hl.1 rfl (lv_room (Nat.le_of_ble_eq_true rfl)) dX7_days_98 ⟨by show ((0 + 1 * k) + 1) + 0 + 0 + 0 ≤ 1000; omega, by show ((0 + 4 * k) + 4) + 0 + 0 + 0 ≤ 4000; omega⟩) hS (fun Mw1 H locs hp_r10 hP hI hS => ?_)
                  subst Mw1
                  have h_it_qi := mu_k (e := .inr (8, [.ref (g.1 5 (tbN st j)), .int (itS st j 1), .int (sof (itS st j 2)), .int (crp (itS st j 1) (itS st j 2) (itS st j 3) (k + 1)), .int (itS st j 7), .int (itS st j 6), .int (itS st j 5), .int (itS st j 12), .int (itS st j 13), .int (itS st j 14), .int (itS st j 15), .int (itS st j 8), .int (itS st j 9), .int (itS st j 10), .int (ceR g j), .ref (g.1 8 j), .ref (g.1 9 j)])) (kd_ne h_it_qi h_I rfl) h_it_qi
                  have h_X := mu_k (e := .inr (8, [.ref (g.1 5 (tbN st j)), .int (itS st j 1), .int (sof (itS st j 2)), .int (crp (itS st j 1) (itS st j 2) (itS st j 3) (k + 1)), .int (itS st j 7), .int (itS st j 6), .int (itS st j 5), .int (itS st j 12), .int (itS st j 13), .int (itS st j 14), .int (itS st j 15), .int (itS st j 8), .int (itS st j 9), .int (itS st j 10), .int (ceR g j), .ref (g.1 8 j), .ref (g.1 9 j)])) (kd_ne h_X h_I rfl) h_X
                  have h_TL := mu_k (e := .inr (8, [.ref (g.1 5 (tbN st j)), .int (itS st j 1), .int (sof (itS st j 2)), .int (crp (itS st j 1) (itS st j 2) (itS st j 3) (k + 1)), .int (itS st j 7), .int (itS st j 6), .int (itS st j 5), .int (itS st j 12), .int (itS st j 13), .int (itS st j 14), .int (itS st j 15), .int (itS st j 8), .int (itS st j 9), .int (itS st j 10), .int (ceR g j), .ref (g.1 8 j), .ref (g.1 9 j)])) (kd_ne h_TL h_I rfl) h_TL
                  have h_IL := mu_k (e := .inr (8, [.ref (g.1 5 (tbN st j)), .int (itS st j 1), .int (sof (itS st j 2)), .int (crp (itS st j 1) (itS st j 2) (itS st j 3) (k + 1)), .int (itS st j 7), .int (itS st j 6), .int (itS st j 5), .int (itS st j 12), .int (itS st j 13), .int (itS st j 14), .int (itS st j 15), .int (itS st j 8), .int (itS st j 9), .int (itS st j 10), .int (ceR g j), .ref (g.1 8 j), .ref (g.1 9 j)])) (kd_ne h_IL h_I rfl) h_IL
                  have h_ID := mu_k (e := .inr (8, [.ref (g.1 5 (tbN st j)), .int (itS st j 1), .int (sof (itS st j 2)), .int (crp (itS st j 1) (itS st j 2) (itS st j 3) (k + 1)), .int (itS st j 7), .int (itS st j 6), .int (itS st j 5), .int (itS st j 12), .int (itS st j 13), .int (itS st j 14), .int (itS st j 15), .int (itS st j 8), .int (itS st j 9), .int (itS st j 10), .int (ceR g j), .ref (g.1 8 j), .ref (g.1 9 j)])) (kd_ne h_ID h_I rfl) h_ID
                  have h_I : (mu (mu Mv_loopJ qi (.inr (1, [.int ((nI (j + 1))), .int ((nI j)), .int ((mcR g 2 0)), .ref (g.1 2 0)]))) (g.1 7 j) (.inr (8, [.ref (g.1 5 (tbN st j)), .int (itS st j 1), .int (sof (itS st j 2)), .int (crp (itS st j 1) (itS st j 2) (itS st j 3) (k + 1)), .int (itS st j 7), .int (itS st j 6), .int (itS st j 5), .int (itS st j 12), .int (itS st j 13), .int (itS st j 14), .int (itS st j 15), .int (itS st j 8), .int (itS st j 9), .int (itS st j 10), .int (ceR g j), .ref (g.1 8 j), .ref (g.1 9 j)]))) (g.1 7 j) = some (.inr (8, [.ref (g.1 5 (tbN st j)), .int (itS st j 1), .int (sof (itS st j 2)), .int (crp (itS st j 1) (itS st j 2) (itS st j 3) (k + 1)), .int (itS st j 7), .int (itS st j 6), .int (itS st j 5), .int (itS st j 12), .int (itS st j 13), .int (itS st j 14), .int (itS st j 15), .int (itS st j 8), .int (itS st j 9), .int (itS st j 10), .int (ceR g j), .ref (g.1 8 j), .ref (g.1 9 j)])) := mu_s
                  refine lv_goto (tgt := 76) hx hb dX7_days_101 (by decide) ?_
                  exact ih_loopJ (j + 1) (by omega) (by omega) _ H locs ls (⟨hRj.cr (s := (sG st 1 (gS st 1 + p0))) (f := (fun i => k + if i < j then 1 else 0)) hkn_j (h_I.trans (congrArg some (by rw [show (fun i => k + if i < j then 1 else 0) j + 1 = k + 1 from by show k + (if j < j then 1 else 0) + 1 = k + 1; rw [if_neg (Nat.lt_irrefl _)]]))) (fun x9 e9 hx9 hk8 h0 => ((mu_n h0).trans ((mu_n (ne_it hx9 h_iv_qi hk8 rfl)).trans (rfl))).trans hx9) (fun i => k + if i < (j + 1) then 1 else 0) (by show k + (if j < j + 1 then 1 else 0) = k + (if j < j then 1 else 0) + 1; rw [if_pos (Nat.lt_succ_self _), if_neg (Nat.lt_irrefl _)]) (fun i9 _ hi8 => by show k + (if i9 < j + 1 then 1 else 0) = k + (if i9 < j then 1 else 0); by_cases q9 : i9 < j; rw [if_pos q9, if_pos (by omega)]; rw [if_neg q9, if_neg (by omega)]), h_it_qi⟩) hP hI hS (lv_sub hl [1, 2, 3, 4] rfl)
            exact loopJ ((nN st) + 1 - 0) 0 (by omega) (by omega) _ _ _ _ (⟨(show RS G (crS (sG st 1 (gS st 1 + p0)) (fun i => k + if i < 0 then 1 else 0)) (tG g 0) (mu Mv_loopD qi (.inr (1, [.int 0, .int ((-1)), .int (mcR g 2 0), .ref (g.1 2 0)]))) from by rw [crS_c (f1 := (fun _ => k)) (fun i9 _ => by show k + (if i9 < 0 then 1 else 0) = k; rw [if_neg (Nat.not_lt_zero _)]; rfl)]; exact hD.fr (fun x9 e9 hx9 hk8 => ((mu_n (ne_none hx9 hn_qi)).trans (rfl)).trans hx9)), by exact h_qi⟩) hP hI hS (lv_sub hl [1, 2, 3, 0] rfl)
      refine W.widen (k := 0 + 1 * 0) (n := 0 + 4 * 0) (by omega) (by omega) ?_
      exact loopD ((ix p0) + 1 - 0) 0 (by omega) (by omega) _ _ _ _ (by rw [crS_0]; exact hR.gl (fu (gS st) 1 (gS st 1 + p0)) 0 h_X (fun x9 e9 hx9 h0 => ((mu_n h0).trans ((mu_n h0).trans (rfl))).trans hx9)) hP hI hS (lv_sub hl [1, 2, 0] rfl)
    · skip
      refine lv_iconst (v := 1) hx hb dX7_days_37 (by decide) ?_
      refine lv_goto (tgt := 42) hx hb dX7_days_38 (by decide) ?_
      refine lv_iconst (v := 2) hx hb dX7_days_42 (by decide) ?_
      refine m_calli (va_runV (As := [.int 1, .int 2]) (rest := []) ⟨hx, hb, hml, hown, hts⟩ (c_X7_isThrown1 l G A (mu Mw (g.1 0 0) (.inr (10, [.ref (g.1 1 0), .ref (g.1 2 0), .int (gS st 2), .int (gS st 3), .int (gS st 1), .int (gS st 0), .int 0])))  2 h_X) (cwV 2 hts gX7_days_X7_isThrown rfl rfl rfl (by decide +kernel) ⟨Nat.le_of_ble_eq_true rfl, Nat.le_of_ble_eq_true rfl⟩) (mPreV hG hS hP hI hA (hP _ _ h_X) (r := (RX7, TX7, 7)) rfl) rfl rfl hl.1 rfl (lv_room (Nat.le_of_ble_eq_true rfl)) dX7_days_43 ⟨Nat.le_of_ble_eq_true rfl, Nat.le_of_ble_eq_true rfl⟩) hS (fun r11 Mw1 H locs hp_r11 hP hI hS => ?_)
      obtain ⟨hp_r11, hm9⟩ := hp_r11
      subst Mw1
      subst hp_r11
      have h_TL := mu_k (e := .inr (10, [.ref (g.1 1 0), .ref (g.1 2 0), .int (gS st 2), .int (gS st 3), .int (gS st 1), .int (gS st 0), .int 2])) (kd_ne h_TL h_X rfl) h_TL
      have h_IL := mu_k (e := .inr (10, [.ref (g.1 1 0), .ref (g.1 2 0), .int (gS st 2), .int (gS st 3), .int (gS st 1), .int (gS st 0), .int 2])) (kd_ne h_IL h_X rfl) h_IL
      have h_X : (mu (mu Mw (g.1 0 0) (.inr (10, [.ref (g.1 1 0), .ref (g.1 2 0), .int (gS st 2), .int (gS st 3), .int (gS st 1), .int (gS st 0), .int 0]))) (g.1 0 0) (.inr (10, [.ref (g.1 1 0), .ref (g.1 2 0), .int (gS st 2), .int (gS st 3), .int (gS st 1), .int (gS st 0), .int 2]))) (g.1 0 0) = some (.inr (10, [.ref (g.1 1 0), .ref (g.1 2 0), .int (gS st 2), .int (gS st 3), .int (gS st 1), .int (gS st 0), .int 2])) := mu_s
      refine lv_if_eq (tgt := 51) hx hb dX7_days_46 (by decide) (fun h9 => absurd h9 (by decide)) (fun _ => ?_)
      refine lv_iconst (v := 0) hx hb dX7_days_49 (by decide) ?_
      refine W.widen (k := 1000) (n := 4000) (Nat.le_of_ble_eq_true rfl) (Nat.le_of_ble_eq_true rfl) ?_
      exact W.iret (v := 0) hx hb hr (fun t99 ht99 hW99 => ⟨⟨0, (mu (mu Mw (g.1 0 0) (.inr (10, [.ref (g.1 1 0), .ref (g.1 2 0), .int (gS st 2), .int (gS st 3), .int (gS st 1), .int (gS st 0), .int 0]))) (g.1 0 0) (.inr (10, [.ref (g.1 1 0), .ref (g.1 2 0), .int (gS st 2), .int (gS st 3), .int (gS st 1), .int (gS st 0), .int 2]))), rfl, RP.no (k := 2) (by unfold m_days; first | (rw [chk_p hq_r1, chk_n c4]; done) | (rw [chk_p hq_r1, chk_n c4]; rfl)) (by decide) (hR.th 2 h_X (fun x9 e9 hx9 h0 => ((mu_n h0).trans ((mu_n h0).trans (rfl))).trans hx9)) rfl rfl, by rw [ht99]; exact hP, hI⟩, hS.F ht99⟩) hS.2.2 dX7_days_50
