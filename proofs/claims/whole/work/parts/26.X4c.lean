set_option maxHeartbeats 4000000 in
set_option maxRecDepth 100000 in
theorem c_X4_instrumentsOfTube (l : Launch) (G : mg) (A : Nat → Prop) (Mw : mw) (p0 : Int32) (st : St) (ad : adr) (hC : CS G st ad Mw) (hV : Inv st) : Met l yX4_instrumentsOfTube wsX4_instrumentsOfTube ({ frames := 0, cells := 0, slots := 0, locals := 0 }) (va_Pc [.ref (ad 0 0), .int p0] (mB G A Mw)) (va_Qi (fun r Mw1 => r = (isum (fun i => if itS st i 0 = p0 then 1 else 0) (nN st)) ∧ Mw1 = Mw) (mE G A) A) 0 0 A := by
  refine Met.ofW (cc := cX4_instrumentsOfTube) (maxL := 7) (ret := (some .int)) (by decide) rfl ?_
  intro p e s m args below meth c s₁ B hml hv
  obtain ⟨rfl, hG, hP, hI, hA⟩ := hv
  have hx := B.exec
  have hb := B.bytes
  have hr := B.returns
  have hts := atoms_spec (ws := wsX4_instrumentsOfTube) B.pre
  have hown : s.vm.findClass RX4 = some m.cls := findClass_of_methodNamed B.named
  have hlocks := B.notSynchronized
  have hK := hG.K
  have i_X0 : ∀ w ∈ wsX00, w ∈ wsX4_instrumentsOfTube := by decide +kernel
  have i_X4 : ∀ w ∈ wsX40, w ∈ wsX4_instrumentsOfTube := by decide +kernel
  have hS : va_S A s.heap s.heap [] := va_S.rf
  have hl := lv_entry ([.ref (ad 0 0), .int p0]) (n := 7) (Nat.le_of_ble_eq_true rfl)
  rw [lg_entry_eq]
  generalize (lg_sl ([.ref (ad 0 0), .int p0]) ++ List.replicate (7 - (lg_sl ([.ref (ad 0 0), .int p0])).length) Slot.unset).toArray = ls at hl ⊢
  have hl : lv_has ls 7 [(0, .ref (ad 0 0)), (1, .int p0)] := hl
  have hP : mP G.1 Mw s.heap := hP
  have h_X : Mw (ad 0 0) = some (.inr (7, [.ref (ad 1 0), .ref (ad 2 0), .int (nI (nT st)), .int (nI (nN st)), .int (gS st 0), .int (gS st 1), .int (gS st 2), .int (gS st 3), .int (gS st 4)])) := hC.1 0 0 (ok0 st)
  have h_TA : Mw (ad 1 0) = some (.inl (G.2.1 3, 8, .inr (.inr (.inr (.inr (qf (nT st) (ad 3))))))) := hC.1 1 0 (ok1 st)
  have h_IA : Mw (ad 2 0) = some (.inl (G.2.1 4, 6, .inr (.inr (.inr (.inr (qf (nN st) (ad 5))))))) := hC.1 2 0 (ok2 st)
  have hta9 := hC.ne (ok1 st) (ok2 st) (by omega)
  refine lv_iconst (v := 0) hx hb dX4_instrumentsOfTube_0 (by decide) ?_
  refine lv_istore_n (lv' := [(2, .int 0), (0, .ref (ad 0 0)), (1, .int p0)]) hx hb dX4_instrumentsOfTube_1 rfl hl (by decide) rfl (fun ls hl => ?_)
  refine lv_aload_n hx hb dX4_instrumentsOfTube_2 rfl (lv_at hl 1 rfl) ?_
  refine m_get (ci := 7) (v := .ref (ad 2 0)) (C := RX4) (T := TX4) (N := 9) hx hb hts i_X4 hown hK (hP _ _ h_X) rfl 1 (by decide) (hts (.fieldLink RX4 17 "Meniscus" "instruments" "[LMeniscus$Instrument;") (by decide +kernel)) (fun _ h9 => h9) rfl dX4_instrumentsOfTube_3 ?_
  refine lv_astore_n (lv' := [(3, .ref (ad 2 0)), (2, .int 0), (0, .ref (ad 0 0)), (1, .int p0)]) hx hb dX4_instrumentsOfTube_6 rfl hl (by decide) rfl (fun ls hl => ?_)
  refine lv_aload_n hx hb dX4_instrumentsOfTube_7 rfl (lv_at hl 0 rfl) ?_
  refine m_alen (v := 6) hx hb hK 4 (hP _ _ h_IA) rfl rfl dX4_instrumentsOfTube_8 ?_
  refine lv_istore (lv' := [(4, .int 6), (3, .ref (ad 2 0)), (2, .int 0), (0, .ref (ad 0 0)), (1, .int p0)]) hx hb dX4_instrumentsOfTube_9 hl (by decide) rfl (fun ls hl => ?_)
  refine lv_iconst (v := 0) hx hb dX4_instrumentsOfTube_11 (by decide) ?_
  refine lv_istore (lv' := [(5, .int 0), (4, .int 6), (3, .ref (ad 2 0)), (2, .int 0), (0, .ref (ad 0 0)), (1, .int p0)]) hx hb dX4_instrumentsOfTube_12 hl (by decide) rfl (fun ls hl => ?_)
  have loop : ∀ (n k : Nat), k ≤ 6 → k + n = 6 + 1 → ∀ (H : Heap) (locs : List Loc) (ls : Array Slot), mP G.1 (Mw) H → mI A (Mw) → va_S A s.heap H locs → lv_has ls 7 [(0, .ref (ad 0 0)), (1, .int p0), (2, .int (isum (fun i => if itS st i 0 = p0 then 1 else 0) (min k (nN st)))), (3, .ref (ad 2 0)), (4, .int 6), (5, .int (nI k))] → W p l e ({ frames := 0, cells := 0, slots := 0, locals := 0 }) s m ([.ref (ad 0 0), .int p0] : List Value).toArray below meth c H locs 0 0 (MQ below (va_Qi (fun r Mw1 => r = (isum (fun i => if itS st i 0 = p0 then 1 else 0) (nN st)) ∧ Mw1 = Mw) (mE G A) A) ([.ref (ad 0 0), .int p0] : List Value).toArray s 0 0 A) (F0 m 14 ls []) := by
    intro n
    induction n with
    | zero => intro k hk1 hk2; omega
    | succ n ih_loop =>
      intro k hk1 hk2 H locs ls hP hI hS hl
      refine lv_iload hx hb dX4_instrumentsOfTube_14 (lv_at hl 5 rfl) ?_
      refine lv_iload hx hb dX4_instrumentsOfTube_16 (lv_at hl 4 rfl) ?_
      refine lv_icmp_ge (tgt := 50) hx hb dX4_instrumentsOfTube_18 (by decide) (fun c1 => ?_) (fun c1 => ?_)
      · skip
        have hk3 : 6 ≤ k := (nI_leI (a := 6) (b := k) (by omega) (by omega)).mp c1
        refine lv_iload_n hx hb dX4_instrumentsOfTube_50 rfl (lv_at hl 2 rfl) ?_
        refine W.widen (k := 0) (n := 0) (Nat.le_of_ble_eq_true rfl) (Nat.le_of_ble_eq_true rfl) ?_
        exact W.iret (v := isum (fun i => if itS st i 0 = p0 then 1 else 0) (min k (nN st))) hx hb hr (fun t99 ht99 hW99 => ⟨⟨isum (fun i => if itS st i 0 = p0 then 1 else 0) (min k (nN st)), Mw, rfl, ⟨by rw [show min k (nN st) = nN st by have := hV.1.2; omega], rfl⟩, by rw [ht99]; exact hP, hI⟩, hS.F ht99⟩) hS.2.2 dX4_instrumentsOfTube_51
      · skip
        have hk3 : k < 6 := Nat.lt_of_not_le (fun q => c1 (nI_le (a := 6) q (by omega)))
        refine lv_aload_n hx hb dX4_instrumentsOfTube_21 rfl (lv_at hl 3 rfl) ?_
        refine lv_iload hx hb dX4_instrumentsOfTube_22 (lv_at hl 5 rfl) ?_
        refine m_aldq hx hb hK 4 (hP _ _ h_IA) rfl (vp_in_nI (by omega) (by omega)) dX4_instrumentsOfTube_24 ?_
        rw [nI_clamp (show k < 2 ^ 31 by omega)]
        rcases Nat.lt_or_ge k (nN st) with hj9 | hj9
        · rw [qf_p hj9]
          have hT9 := hV.tb hj9
          have hn9 := hV.rn hj9
          have hve := hC.ne (ok8 hj9) (ok9 hj9) (by omega)
          have hvb := hC.ne (ok8 hj9) (ok4 hT9) (by omega)
          have heb := hC.ne (ok9 hj9) (ok4 hT9) (by omega)
          have h_I : Mw (ad 5 k) = some (.inr (3, [.int (itS st k 0), .ref (ad 3 (tbN st k)), .int (itS st k 1), .int (itS st k 2), .ref (ad 6 k), .ref (ad 7 k), .int (itS st k 3), .int (itS st k 4), .int (itS st k 5), .int (itS st k 6), .int (itS st k 7), .int (itS st k 8), .int (itS st k 9), .int (itS st k 10), .int (itS st k 11)])) := hC.1 5 _ (ok5 hj9)
          have h_S : Mw (ad 6 k) = some (.inr (5, [.ref (ad 3 (tbN st k)), .int (itS st k 12), .int (itS st k 13), .int (itS st k 14), .int (itS st k 15)])) := hC.1 6 _ (ok6 hj9)
          have h_R : Mw (ad 7 k) = some (.inr (4, [.ref (ad 8 k), .ref (ad 9 k), .int (nI (rnS st k))])) := hC.1 7 _ (ok7 hj9)
          have h_V : Mw (ad 8 k) = some (.inl (G.2.1 0, 8, .inl (rvS st k))) := hC.1 8 _ (ok8 hj9)
          have h_E : Mw (ad 9 k) = some (.inl (G.2.1 0, 8, .inl (reS st k))) := hC.1 9 _ (ok9 hj9)
          have h_T : Mw (ad 3 (tbN st k)) = some (.inr (6, [.ref (ad 4 (tbN st k)), .int (usS st (tbN st k))])) := hC.1 3 _ (ok3 hT9)
          have h_B : Mw (ad 4 (tbN st k)) = some (.inl (G.2.1 0, 20, .inl (boS st (tbN st k)))) := hC.1 4 _ (ok4 hT9)
          refine lv_astore (lv' := [(6, .ref (ad 5 k)), (0, .ref (ad 0 0)), (1, .int p0), (2, .int (isum (fun i => if itS st i 0 = p0 then 1 else 0) (min k (nN st)))), (3, .ref (ad 2 0)), (4, .int 6), (5, .int (nI k))]) hx hb dX4_instrumentsOfTube_25 hl (by decide) rfl (fun ls hl => ?_)
          refine lv_aload hx hb dX4_instrumentsOfTube_27 (lv_at hl 0 rfl) ?_
          refine lv_ifnull hx hb dX4_instrumentsOfTube_29 ?_
          refine lv_aload hx hb dX4_instrumentsOfTube_32 (lv_at hl 0 rfl) ?_
          refine m_getN (ci := 3) (v := .int (itS st k 0)) (C := RX0) (T := TX0) (N := 15) hx hb hts i_X0 hown hK (hP _ _ h_I) rfl 0 (by decide) (va_Nw.use rfl (hG.2.1.2.1 ("Meniscus", 282, "Meniscus$Instrument", "tubeNumber", "I", "Meniscus") (by decide +kernel))) (fun _ h9 => h9) rfl dX4_instrumentsOfTube_34 ?_
          refine lv_iload_n hx hb dX4_instrumentsOfTube_37 rfl (lv_at hl 2 rfl) ?_
          refine lv_icmp_ne (tgt := 44) hx hb dX4_instrumentsOfTube_38 (by decide) (fun c2 => ?_) (fun c2 => ?_)
          · skip
            refine lv_iinc (v := (nI k) + 1) (lv' := [(5, .int ((nI k) + 1)), (6, .ref (ad 5 k)), (0, .ref (ad 0 0)), (1, .int p0), (2, .int (isum (fun i => if itS st i 0 = p0 then 1 else 0) (min k (nN st)))), (3, .ref (ad 2 0)), (4, .int 6)]) hx hb dX4_instrumentsOfTube_44 hl (k := 6) rfl rfl (by decide) rfl (fun ls hl => ?_)
            refine lv_goto (tgt := 14) hx hb dX4_instrumentsOfTube_47 (by decide) ?_
            have e_5 : (nI k) + 1 = nI (k + 1) := nI_1 k
            rw [e_5] at hl
            have e_2 : isum (fun i => if itS st i 0 = p0 then 1 else 0) (min k (nN st)) = isum (fun i => if itS st i 0 = p0 then 1 else 0) (min (k + 1) (nN st)) := by rw [is_p _ hj9]; simp only [if_neg c2, Int32.add_zero]
            rw [e_2] at hl
            exact ih_loop (k + 1) (by omega) (by omega) H locs ls hP hI hS (lv_sub hl [2, 3, 4, 5, 6, 0] rfl)
          · skip
            refine lv_iinc (v := (isum (fun i => if itS st i 0 = p0 then 1 else 0) (min k (nN st))) + 1) (lv' := [(2, .int ((isum (fun i => if itS st i 0 = p0 then 1 else 0) (min k (nN st))) + 1)), (6, .ref (ad 5 k)), (0, .ref (ad 0 0)), (1, .int p0), (3, .ref (ad 2 0)), (4, .int 6), (5, .int (nI k))]) hx hb dX4_instrumentsOfTube_41 hl (k := 3) rfl rfl (by decide) rfl (fun ls hl => ?_)
            refine lv_iinc (v := (nI k) + 1) (lv' := [(5, .int ((nI k) + 1)), (2, .int ((isum (fun i => if itS st i 0 = p0 then 1 else 0) (min k (nN st))) + 1)), (6, .ref (ad 5 k)), (0, .ref (ad 0 0)), (1, .int p0), (3, .ref (ad 2 0)), (4, .int 6)]) hx hb dX4_instrumentsOfTube_44 hl (k := 6) rfl rfl (by decide) rfl (fun ls hl => ?_)
            refine lv_goto (tgt := 14) hx hb dX4_instrumentsOfTube_47 (by decide) ?_
            have e_5 : (nI k) + 1 = nI (k + 1) := nI_1 k
            rw [e_5] at hl
            have e_2 : (isum (fun i => if itS st i 0 = p0 then 1 else 0) (min k (nN st))) + 1 = isum (fun i => if itS st i 0 = p0 then 1 else 0) (min (k + 1) (nN st)) := by rw [is_p _ hj9]; simp only [if_pos c2]
            rw [e_2] at hl
            exact ih_loop (k + 1) (by omega) (by omega) H locs ls hP hI hS (lv_sub hl [3, 4, 1, 5, 6, 0] rfl)
        · rw [qf_n hj9]
          refine lv_astoreN (lv' := [(6, .null), (0, .ref (ad 0 0)), (1, .int p0), (2, .int (isum (fun i => if itS st i 0 = p0 then 1 else 0) (min k (nN st)))), (3, .ref (ad 2 0)), (4, .int 6), (5, .int (nI k))]) hx hb dX4_instrumentsOfTube_25 hl (by decide) rfl (fun ls hl => ?_)
          refine lv_aloadN hx hb dX4_instrumentsOfTube_27 (lv_at hl 0 rfl) ?_
          refine lv_ifnullN (tgt := 44) hx hb dX4_instrumentsOfTube_29 (by decide) ?_
          refine lv_iinc (v := (nI k) + 1) (lv' := [(5, .int ((nI k) + 1)), (6, .null), (0, .ref (ad 0 0)), (1, .int p0), (2, .int (isum (fun i => if itS st i 0 = p0 then 1 else 0) (min k (nN st)))), (3, .ref (ad 2 0)), (4, .int 6)]) hx hb dX4_instrumentsOfTube_44 hl (k := 6) rfl rfl (by decide) rfl (fun ls hl => ?_)
          refine lv_goto (tgt := 14) hx hb dX4_instrumentsOfTube_47 (by decide) ?_
          have e_5 : (nI k) + 1 = nI (k + 1) := nI_1 k
          rw [e_5] at hl
          have e_2 : isum (fun i => if itS st i 0 = p0 then 1 else 0) (min k (nN st)) = isum (fun i => if itS st i 0 = p0 then 1 else 0) (min (k + 1) (nN st)) := (is_n _ hj9).symm
          rw [e_2] at hl
          exact ih_loop (k + 1) (by omega) (by omega) H locs ls hP hI hS (lv_sub hl [2, 3, 4, 5, 6, 0] rfl)
  exact loop (6 + 1 - 0) 0 (by omega) (by omega) _ _ _ hP hI hS (lv_sub hl [4, 5, 3, 2, 1, 0] rfl)

set_option maxHeartbeats 4000000 in
set_option maxRecDepth 100000 in
theorem c_X4_isSound (l : Launch) (G : mg) (A : Nat → Prop) (Mw : mw) (st : St) (ad : adr) (hC : CS G st ad Mw) (hV : Inv st) : Met l yX4_isSound wsX4_isSound ({ frames := 2, cells := 0, slots := 0, locals := 40 }) (va_Pc [.ref (ad 0 0)] (mB G A Mw)) (va_Qi (fun r Mw1 => r = (1) ∧ Mw1 = Mw) (mE G A) A) 0 0 A := by
  refine Met.ofW (cc := cX4_isSound) (maxL := 6) (ret := (some .boolean)) (by decide) rfl ?_
  intro p e s m args below meth c s₁ B hml hv
  obtain ⟨rfl, hG, hP, hI, hA⟩ := hv
  have hx := B.exec
  have hb := B.bytes
  have hr := B.returns
  have hts := atoms_spec (ws := wsX4_isSound) B.pre
  have hown : s.vm.findClass RX4 = some m.cls := findClass_of_methodNamed B.named
  have hlocks := B.notSynchronized
  have hK := hG.K
  have i_X0 : ∀ w ∈ wsX00, w ∈ wsX4_isSound := by decide +kernel
  have i_X4 : ∀ w ∈ wsX40, w ∈ wsX4_isSound := by decide +kernel
  have hS : va_S A s.heap s.heap [] := va_S.rf
  have hl := lv_entry ([.ref (ad 0 0)]) (n := 6) (Nat.le_of_ble_eq_true rfl)
  rw [lg_entry_eq]
  generalize (lg_sl ([.ref (ad 0 0)]) ++ List.replicate (6 - (lg_sl ([.ref (ad 0 0)])).length) Slot.unset).toArray = ls at hl ⊢
  have hl : lv_has ls 6 [(0, .ref (ad 0 0))] := hl
  have hP : mP G.1 Mw s.heap := hP
  have h_X : Mw (ad 0 0) = some (.inr (7, [.ref (ad 1 0), .ref (ad 2 0), .int (nI (nT st)), .int (nI (nN st)), .int (gS st 0), .int (gS st 1), .int (gS st 2), .int (gS st 3), .int (gS st 4)])) := hC.1 0 0 (ok0 st)
  have h_TA : Mw (ad 1 0) = some (.inl (G.2.1 3, 8, .inr (.inr (.inr (.inr (qf (nT st) (ad 3))))))) := hC.1 1 0 (ok1 st)
  have h_IA : Mw (ad 2 0) = some (.inl (G.2.1 4, 6, .inr (.inr (.inr (.inr (qf (nN st) (ad 5))))))) := hC.1 2 0 (ok2 st)
  have hta9 := hC.ne (ok1 st) (ok2 st) (by omega)
  refine lv_aload_n hx hb dX4_isSound_0 rfl (lv_at hl 0 rfl) ?_
  refine m_get (ci := 7) (v := .int (gS st 2)) (C := RX4) (T := TX4) (N := 9) hx hb hts i_X4 hown hK (hP _ _ h_X) rfl 6 (by decide) (hts (.fieldLink RX4 109 "Meniscus" "stock" "I") (by decide +kernel)) (fun _ h9 => h9) rfl dX4_isSound_1 ?_
  refine lv_aload_n hx hb dX4_isSound_4 rfl (lv_at hl 0 rfl) ?_
  refine m_get (ci := 7) (v := .int (gS st 3)) (C := RX4) (T := TX4) (N := 9) hx hb hts i_X4 hown hK (hP _ _ h_X) rfl 7 (by decide) (hts (.fieldLink RX4 142 "Meniscus" "spilt" "I") (by decide +kernel)) (fun _ h9 => h9) rfl dX4_isSound_5 ?_
  refine lv_iadd hx hb dX4_isSound_8 ?_
  refine lv_istore_n (lv' := [(1, .int ((gS st 2) + (gS st 3))), (0, .ref (ad 0 0))]) hx hb dX4_isSound_9 rfl hl (by decide) rfl (fun ls hl => ?_)
  refine lv_aload_n hx hb dX4_isSound_10 rfl (lv_at hl 1 rfl) ?_
  refine m_get (ci := 7) (v := .ref (ad 2 0)) (C := RX4) (T := TX4) (N := 9) hx hb hts i_X4 hown hK (hP _ _ h_X) rfl 1 (by decide) (hts (.fieldLink RX4 17 "Meniscus" "instruments" "[LMeniscus$Instrument;") (by decide +kernel)) (fun _ h9 => h9) rfl dX4_isSound_11 ?_
  refine lv_astore_n (lv' := [(2, .ref (ad 2 0)), (1, .int ((gS st 2) + (gS st 3))), (0, .ref (ad 0 0))]) hx hb dX4_isSound_14 rfl hl (by decide) rfl (fun ls hl => ?_)
  refine lv_aload_n hx hb dX4_isSound_15 rfl (lv_at hl 0 rfl) ?_
  refine m_alen (v := 6) hx hb hK 4 (hP _ _ h_IA) rfl rfl dX4_isSound_16 ?_
  refine lv_istore_n (lv' := [(3, .int 6), (2, .ref (ad 2 0)), (1, .int ((gS st 2) + (gS st 3))), (0, .ref (ad 0 0))]) hx hb dX4_isSound_17 rfl hl (by decide) rfl (fun ls hl => ?_)
  refine lv_iconst (v := 0) hx hb dX4_isSound_18 (by decide) ?_
  refine lv_istore (lv' := [(4, .int 0), (3, .int 6), (2, .ref (ad 2 0)), (1, .int ((gS st 2) + (gS st 3))), (0, .ref (ad 0 0))]) hx hb dX4_isSound_19 hl (by decide) rfl (fun ls hl => ?_)
  have loop : ∀ (n k : Nat), k ≤ 6 → k + n = 6 + 1 → ∀ (H : Heap) (locs : List Loc) (ls : Array Slot), mP G.1 (Mw) H → mI A (Mw) → va_S A s.heap H locs → lv_has ls 6 [(0, .ref (ad 0 0)), (1, .int (gS st 2 + gS st 3 + hgS st (min k (nN st)))), (2, .ref (ad 2 0)), (3, .int 6), (4, .int (nI k))] → W p l e ({ frames := 2, cells := 0, slots := 0, locals := 40 }) s m ([.ref (ad 0 0)] : List Value).toArray below meth c H locs 0 0 (MQ below (va_Qi (fun r Mw1 => r = (1) ∧ Mw1 = Mw) (mE G A) A) ([.ref (ad 0 0)] : List Value).toArray s 0 0 A) (F0 m 21 ls []) := by
    intro n
    induction n with
    | zero => intro k hk1 hk2; omega
    | succ n ih_loop =>
      intro k hk1 hk2 H locs ls hP hI hS hl
      refine lv_iload hx hb dX4_isSound_21 (lv_at hl 4 rfl) ?_
      refine lv_iload_n hx hb dX4_isSound_23 rfl (lv_at hl 3 rfl) ?_
      refine lv_icmp_ge (tgt := 78) hx hb dX4_isSound_24 (by decide) (fun c1 => ?_) (fun c1 => ?_)
      · skip
        have hk3 : 6 ≤ k := (nI_leI (a := 6) (b := k) (by omega) (by omega)).mp c1
        refine lv_iload_n hx hb dX4_isSound_78 rfl (lv_at hl 1 rfl) ?_
        refine lv_aload_n hx hb dX4_isSound_79 rfl (lv_at hl 0 rfl) ?_
        refine m_get (ci := 7) (v := .int (gS st 4)) (C := RX4) (T := TX4) (N := 9) hx hb hts i_X4 hown hK (hP _ _ h_X) rfl 8 (by decide) (hts (.fieldLink RX4 106 "Meniscus" "bought" "I") (by decide +kernel)) (fun _ h9 => h9) rfl dX4_isSound_80 ?_
        refine lv_icmp_ne (tgt := 90) hx hb dX4_isSound_83 (by decide) (fun c2 => absurd c2 (fun q9 => q9 (by have h8 := hV.2.2.2.2; rw [show min k (nN st) = nN st by have := hV.1.2; omega]; exact h8))) (fun c2 => ?_)
        refine lv_iconst (v := 1) hx hb dX4_isSound_86 (by decide) ?_
        refine lv_goto (tgt := 91) hx hb dX4_isSound_87 (by decide) ?_
        refine W.widen (k := 0) (n := 0) (Nat.le_of_ble_eq_true rfl) (Nat.le_of_ble_eq_true rfl) ?_
        exact W.zret (v := 1) hx hb hr rfl (fun t99 ht99 hW99 => ⟨⟨1, Mw, rfl, ⟨rfl, rfl⟩, by rw [ht99]; exact hP, hI⟩, hS.F ht99⟩) hS.2.2 dX4_isSound_91
      · skip
        have hk3 : k < 6 := Nat.lt_of_not_le (fun q => c1 (nI_le (a := 6) q (by omega)))
        refine lv_aload_n hx hb dX4_isSound_27 rfl (lv_at hl 2 rfl) ?_
        refine lv_iload hx hb dX4_isSound_28 (lv_at hl 4 rfl) ?_
        refine m_aldq hx hb hK 4 (hP _ _ h_IA) rfl (vp_in_nI (by omega) (by omega)) dX4_isSound_30 ?_
        rw [nI_clamp (show k < 2 ^ 31 by omega)]
        rcases Nat.lt_or_ge k (nN st) with hj9 | hj9
        · rw [qf_p hj9]
          have hT9 := hV.tb hj9
          have hn9 := hV.rn hj9
          have hve := hC.ne (ok8 hj9) (ok9 hj9) (by omega)
          have hvb := hC.ne (ok8 hj9) (ok4 hT9) (by omega)
          have heb := hC.ne (ok9 hj9) (ok4 hT9) (by omega)
          have h_I : Mw (ad 5 k) = some (.inr (3, [.int (itS st k 0), .ref (ad 3 (tbN st k)), .int (itS st k 1), .int (itS st k 2), .ref (ad 6 k), .ref (ad 7 k), .int (itS st k 3), .int (itS st k 4), .int (itS st k 5), .int (itS st k 6), .int (itS st k 7), .int (itS st k 8), .int (itS st k 9), .int (itS st k 10), .int (itS st k 11)])) := hC.1 5 _ (ok5 hj9)
          have h_S : Mw (ad 6 k) = some (.inr (5, [.ref (ad 3 (tbN st k)), .int (itS st k 12), .int (itS st k 13), .int (itS st k 14), .int (itS st k 15)])) := hC.1 6 _ (ok6 hj9)
          have h_R : Mw (ad 7 k) = some (.inr (4, [.ref (ad 8 k), .ref (ad 9 k), .int (nI (rnS st k))])) := hC.1 7 _ (ok7 hj9)
          have h_V : Mw (ad 8 k) = some (.inl (G.2.1 0, 8, .inl (rvS st k))) := hC.1 8 _ (ok8 hj9)
          have h_E : Mw (ad 9 k) = some (.inl (G.2.1 0, 8, .inl (reS st k))) := hC.1 9 _ (ok9 hj9)
          have h_T : Mw (ad 3 (tbN st k)) = some (.inr (6, [.ref (ad 4 (tbN st k)), .int (usS st (tbN st k))])) := hC.1 3 _ (ok3 hT9)
          have h_B : Mw (ad 4 (tbN st k)) = some (.inl (G.2.1 0, 20, .inl (boS st (tbN st k)))) := hC.1 4 _ (ok4 hT9)
          refine lv_astore (lv' := [(5, .ref (ad 5 k)), (0, .ref (ad 0 0)), (1, .int (gS st 2 + gS st 3 + hgS st (min k (nN st)))), (2, .ref (ad 2 0)), (3, .int 6), (4, .int (nI k))]) hx hb dX4_isSound_31 hl (by decide) rfl (fun ls hl => ?_)
          refine lv_aload hx hb dX4_isSound_33 (lv_at hl 0 rfl) ?_
          refine lv_ifnonnull (tgt := 41) hx hb dX4_isSound_35 (by decide) ?_
          refine lv_iload_n hx hb dX4_isSound_41 rfl (lv_at hl 2 rfl) ?_
          refine lv_aload hx hb dX4_isSound_42 (lv_at hl 0 rfl) ?_
          refine m_calli (va_runV (As := []) (rest := [.int (gS st 2 + gS st 3 + hgS st (min k (nN st)))]) ⟨hx, hb, hml, hown, hts⟩ (c_X0_mercuryInside l G A Mw  h_I) (cwV 0 hts gX4_isSound_X0_mercuryInside rfl rfl rfl (by decide +kernel) ⟨Nat.le_of_ble_eq_true rfl, Nat.le_of_ble_eq_true rfl⟩) (mPreV hG hS hP hI hA (hP _ _ h_I) (r := (RX0, TX0, 15)) rfl) rfl rfl hl.1 rfl (lv_room (Nat.le_of_ble_eq_true rfl)) dX4_isSound_44 ⟨Nat.le_of_ble_eq_true rfl, Nat.le_of_ble_eq_true rfl⟩) hS (fun r3 Mw1 H locs hp_r3 hP hI hS => ?_)
          obtain ⟨hp_r3, hm9⟩ := hp_r3
          subst Mw1
          refine lv_iadd hx hb dX4_isSound_47 ?_
          refine lv_istore_n (lv' := [(1, .int ((gS st 2 + gS st 3 + hgS st (min k (nN st))) + r3)), (5, .ref (ad 5 k)), (0, .ref (ad 0 0)), (2, .ref (ad 2 0)), (3, .int 6), (4, .int (nI k))]) hx hb dX4_isSound_48 rfl hl (by decide) rfl (fun ls hl => ?_)
          refine lv_aload hx hb dX4_isSound_49 (lv_at hl 1 rfl) ?_
          refine m_calli (va_runV (As := []) (rest := []) ⟨hx, hb, hml, hown, hts⟩ (c_X0_isInBounds l G A Mw  h_I h_R) (cwV 0 hts gX4_isSound_X0_isInBounds rfl rfl rfl (by decide +kernel) ⟨Nat.le_of_ble_eq_true rfl, Nat.le_of_ble_eq_true rfl⟩) (mPreV hG hS hP hI hA (hP _ _ h_I) (r := (RX0, TX0, 15)) rfl) rfl rfl hl.1 rfl (lv_room (Nat.le_of_ble_eq_true rfl)) dX4_isSound_51 ⟨Nat.le_of_ble_eq_true rfl, Nat.le_of_ble_eq_true rfl⟩) hS (fun r4 Mw1 H locs hp_r4 hP hI hS => ?_)
          obtain ⟨hp_r4, hm9⟩ := hp_r4
          subst Mw1
          refine lv_if_eq (tgt := 70) hx hb dX4_isSound_54 (by decide) (fun c5 => absurd c5 (by rw [hp_r4, hV.bnd hj9]; decide)) (fun c5 => ?_)
          refine lv_aload_n hx hb dX4_isSound_57 rfl (lv_at hl 2 rfl) ?_
          refine lv_aload hx hb dX4_isSound_58 (lv_at hl 1 rfl) ?_
          refine m_getN (ci := 3) (v := .int (itS st k 0)) (C := RX0) (T := TX0) (N := 15) hx hb hts i_X0 hown hK (hP _ _ h_I) rfl 0 (by decide) (va_Nw.use rfl (hG.2.1.2.1 ("Meniscus", 282, "Meniscus$Instrument", "tubeNumber", "I", "Meniscus") (by decide +kernel))) (fun _ h9 => h9) rfl dX4_isSound_60 ?_
          refine m_calli (va_runV (As := [.int (itS st k 0)]) (rest := []) ⟨hx, hb, hml, hown, hts⟩ (c_X4_instrumentsOfTube l G A Mw  (itS st k 0) st ad hC hV) (cwV 1 hts gX4_isSound_X4_instrumentsOfTube rfl rfl rfl (by decide +kernel) ⟨Nat.le_of_ble_eq_true rfl, Nat.le_of_ble_eq_true rfl⟩) (mPreV hG hS hP hI hA (hP _ _ h_X) (r := (RX4, TX4, 9)) rfl) rfl rfl hl.1 rfl (lv_room (Nat.le_of_ble_eq_true rfl)) dX4_isSound_63 ⟨Nat.le_of_ble_eq_true rfl, Nat.le_of_ble_eq_true rfl⟩) hS (fun r6 Mw1 H locs hp_r6 hP hI hS => ?_)
          obtain ⟨hp_r6, hm9⟩ := hp_r6
          subst Mw1
          refine lv_iconst (v := 1) hx hb dX4_isSound_66 (by decide) ?_
          refine lv_icmp_le (tgt := 72) hx hb dX4_isSound_67 (by decide) (fun c7 => ?_) (fun c7 => absurd c7 (by rw [hp_r6]; exact fun q9 => q9 (hV.one k hj9)))
          refine lv_iinc (v := (nI k) + 1) (lv' := [(4, .int ((nI k) + 1)), (1, .int ((gS st 2 + gS st 3 + hgS st (min k (nN st))) + r3)), (5, .ref (ad 5 k)), (0, .ref (ad 0 0)), (2, .ref (ad 2 0)), (3, .int 6)]) hx hb dX4_isSound_72 hl (k := 5) rfl rfl (by decide) rfl (fun ls hl => ?_)
          refine lv_goto (tgt := 21) hx hb dX4_isSound_75 (by decide) ?_
          have e_4 : (nI k) + 1 = nI (k + 1) := nI_1 k
          rw [e_4] at hl
          have e_1 : (gS st 2 + gS st 3 + hgS st (min k (nN st))) + r3 = gS st 2 + gS st 3 + hgS st (min (k + 1) (nN st)) := by rw [hp_r3]; unfold hgS; rw [is_p _ hj9]; exact Int32.add_assoc _ _ _
          rw [e_1] at hl
          exact ih_loop (k + 1) (by omega) (by omega) H locs ls hP hI hS (lv_sub hl [3, 1, 4, 5, 0] rfl)
        · rw [qf_n hj9]
          refine lv_astoreN (lv' := [(5, .null), (0, .ref (ad 0 0)), (1, .int (gS st 2 + gS st 3 + hgS st (min k (nN st)))), (2, .ref (ad 2 0)), (3, .int 6), (4, .int (nI k))]) hx hb dX4_isSound_31 hl (by decide) rfl (fun ls hl => ?_)
          refine lv_aloadN hx hb dX4_isSound_33 (lv_at hl 0 rfl) ?_
          refine lv_ifnonnullN hx hb dX4_isSound_35 ?_
          refine lv_goto (tgt := 72) hx hb dX4_isSound_38 (by decide) ?_
          refine lv_iinc (v := (nI k) + 1) (lv' := [(4, .int ((nI k) + 1)), (5, .null), (0, .ref (ad 0 0)), (1, .int (gS st 2 + gS st 3 + hgS st (min k (nN st)))), (2, .ref (ad 2 0)), (3, .int 6)]) hx hb dX4_isSound_72 hl (k := 5) rfl rfl (by decide) rfl (fun ls hl => ?_)
          refine lv_goto (tgt := 21) hx hb dX4_isSound_75 (by decide) ?_
          have e_4 : (nI k) + 1 = nI (k + 1) := nI_1 k
          rw [e_4] at hl
          have e_1 : gS st 2 + gS st 3 + hgS st (min k (nN st)) = gS st 2 + gS st 3 + hgS st (min (k + 1) (nN st)) := by unfold hgS; rw [is_n _ hj9]
          rw [e_1] at hl
          exact ih_loop (k + 1) (by omega) (by omega) H locs ls hP hI hS (lv_sub hl [2, 3, 4, 5, 0] rfl)
  have e0_1 : ((gS st 2) + (gS st 3) : Int32) = gS st 2 + gS st 3 + hgS st (min 0 (nN st)) := (Int32.add_zero _).symm
  rw [show lv_has ls 6 [(4, .int 0), (3, .int 6), (2, .ref (ad 2 0)), (1, .int ((gS st 2) + (gS st 3))), (0, .ref (ad 0 0))] = lv_has ls 6 [(4, .int 0), (3, .int 6), (2, .ref (ad 2 0)), (1, .int (gS st 2 + gS st 3 + hgS st (min 0 (nN st)))), (0, .ref (ad 0 0))] from by rw [← e0_1]] at hl
  exact loop (6 + 1 - 0) 0 (by omega) (by omega) _ _ _ hP hI hS (lv_sub hl [4, 3, 2, 1, 0] rfl)

set_option maxHeartbeats 4000000 in
set_option maxRecDepth 100000 in
theorem c_X4_checksum (l : Launch) (G : mg) (A : Nat → Prop) (Mw : mw) (st : St) (ad : adr) (hC : CS G st ad Mw) (hV : Inv st) : Met l yX4_checksum wsX4_checksum ({ frames := 3, cells := 0, slots := 0, locals := 65 }) (va_Pc [.ref (ad 0 0)] (mB G A Mw)) (va_Ql (fun r Mw1 => r = (chS st) ∧ Mw1 = Mw) (mE G A) A) 0 0 A := by
  refine Met.ofW (cc := cX4_checksum) (maxL := 7) (ret := (some .long)) (by decide) rfl ?_
  intro p e s m args below meth c s₁ B hml hv
  obtain ⟨rfl, hG, hP, hI, hA⟩ := hv
  have hx := B.exec
  have hb := B.bytes
  have hr := B.returns
  have hts := atoms_spec (ws := wsX4_checksum) B.pre
  have hown : s.vm.findClass RX4 = some m.cls := findClass_of_methodNamed B.named
  have hlocks := B.notSynchronized
  have hK := hG.K
  have i_X4 : ∀ w ∈ wsX40, w ∈ wsX4_checksum := by decide +kernel
  have hS : va_S A s.heap s.heap [] := va_S.rf
  have hl := lv_entry ([.ref (ad 0 0)]) (n := 7) (Nat.le_of_ble_eq_true rfl)
  rw [lg_entry_eq]
  generalize (lg_sl ([.ref (ad 0 0)]) ++ List.replicate (7 - (lg_sl ([.ref (ad 0 0)])).length) Slot.unset).toArray = ls at hl ⊢
  have hl : lv_has ls 7 [(0, .ref (ad 0 0))] := hl
  have hP : mP G.1 Mw s.heap := hP
  have h_X : Mw (ad 0 0) = some (.inr (7, [.ref (ad 1 0), .ref (ad 2 0), .int (nI (nT st)), .int (nI (nN st)), .int (gS st 0), .int (gS st 1), .int (gS st 2), .int (gS st 3), .int (gS st 4)])) := hC.1 0 0 (ok0 st)
  have h_TA : Mw (ad 1 0) = some (.inl (G.2.1 3, 8, .inr (.inr (.inr (.inr (qf (nT st) (ad 3))))))) := hC.1 1 0 (ok1 st)
  have h_IA : Mw (ad 2 0) = some (.inl (G.2.1 4, 6, .inr (.inr (.inr (.inr (qf (nN st) (ad 5))))))) := hC.1 2 0 (ok2 st)
  have hta9 := hC.ne (ok1 st) (ok2 st) (by omega)
  refine lv_ldc2 (v := 7) hx hb hown (hts (.constantLong RX4 266 (7)) (by decide +kernel)) dX4_checksum_0 ?_
  refine lv_lstore_n (lv' := [(1, .long 7), (0, .ref (ad 0 0))]) hx hb dX4_checksum_3 rfl hl (by decide) rfl (fun ls hl => ?_)
  refine lv_aload_n hx hb dX4_checksum_4 rfl (lv_at hl 1 rfl) ?_
  refine m_get (ci := 7) (v := .ref (ad 1 0)) (C := RX4) (T := TX4) (N := 9) hx hb hts i_X4 hown hK (hP _ _ h_X) rfl 0 (by decide) (hts (.fieldLink RX4 11 "Meniscus" "tubes" "[LMeniscus$Tube;") (by decide +kernel)) (fun _ h9 => h9) rfl dX4_checksum_5 ?_
  refine lv_astore_n (lv' := [(3, .ref (ad 1 0)), (1, .long 7), (0, .ref (ad 0 0))]) hx hb dX4_checksum_8 rfl hl (by decide) rfl (fun ls hl => ?_)
  refine lv_aload_n hx hb dX4_checksum_9 rfl (lv_at hl 0 rfl) ?_
  refine m_alen (v := 8) hx hb hK 3 (hP _ _ h_TA) rfl rfl dX4_checksum_10 ?_
  refine lv_istore (lv' := [(4, .int 8), (3, .ref (ad 1 0)), (1, .long 7), (0, .ref (ad 0 0))]) hx hb dX4_checksum_11 hl (by decide) rfl (fun ls hl => ?_)
  refine lv_iconst (v := 0) hx hb dX4_checksum_13 (by decide) ?_
  refine lv_istore (lv' := [(5, .int 0), (4, .int 8), (3, .ref (ad 1 0)), (1, .long 7), (0, .ref (ad 0 0))]) hx hb dX4_checksum_14 hl (by decide) rfl (fun ls hl => ?_)
  have loopT : ∀ (n k : Nat), k ≤ 8 → k + n = 8 + 1 → ∀ (H : Heap) (locs : List Loc) (ls : Array Slot), mP G.1 (Mw) H → mI A (Mw) → va_S A s.heap H locs → lv_has ls 7 [(0, .ref (ad 0 0)), (1, .long (tsum st (min k (nT st)))), (3, .ref (ad 1 0)), (4, .int 8), (5, .int (nI k))] → W p l e ({ frames := 3, cells := 0, slots := 0, locals := 65 }) s m ([.ref (ad 0 0)] : List Value).toArray below meth c H locs 0 0 (MQ below (va_Ql (fun r Mw1 => r = (chS st) ∧ Mw1 = Mw) (mE G A) A) ([.ref (ad 0 0)] : List Value).toArray s 0 0 A) (F0 m 16 ls []) := by
    intro n
    induction n with
    | zero => intro k hk1 hk2; omega
    | succ n ih_loopT =>
      intro k hk1 hk2 H locs ls hP hI hS hl
      refine lv_iload hx hb dX4_checksum_16 (lv_at hl 4 rfl) ?_
      refine lv_iload hx hb dX4_checksum_18 (lv_at hl 3 rfl) ?_
      refine lv_icmp_ge (tgt := 56) hx hb dX4_checksum_20 (by decide) (fun c1 => ?_) (fun c1 => ?_)
      · skip
        have hk3 : 8 ≤ k := (nI_leI (a := 8) (b := k) (by omega) (by omega)).mp c1
        have hz8 : min k (nT st) = nT st := by have := hV.1.1; omega
        rw [hz8] at hl
        refine lv_aload_n hx hb dX4_checksum_56 rfl (lv_at hl 0 rfl) ?_
        refine m_get (ci := 7) (v := .ref (ad 2 0)) (C := RX4) (T := TX4) (N := 9) hx hb hts i_X4 hown hK (hP _ _ h_X) rfl 1 (by decide) (hts (.fieldLink RX4 17 "Meniscus" "instruments" "[LMeniscus$Instrument;") (by decide +kernel)) (fun _ h9 => h9) rfl dX4_checksum_57 ?_
        refine lv_astore_n (lv' := [(3, .ref (ad 2 0)), (0, .ref (ad 0 0)), (1, .long (tsum st (nT st))), (4, .int 8), (5, .int (nI k))]) hx hb dX4_checksum_60 rfl hl (by decide) rfl (fun ls hl => ?_)
        refine lv_aload_n hx hb dX4_checksum_61 rfl (lv_at hl 0 rfl) ?_
        refine m_alen (v := 6) hx hb hK 4 (hP _ _ h_IA) rfl rfl dX4_checksum_62 ?_
        refine lv_istore (lv' := [(4, .int 6), (3, .ref (ad 2 0)), (0, .ref (ad 0 0)), (1, .long (tsum st (nT st))), (5, .int (nI k))]) hx hb dX4_checksum_63 hl (by decide) rfl (fun ls hl => ?_)
        refine lv_iconst (v := 0) hx hb dX4_checksum_65 (by decide) ?_
        refine lv_istore (lv' := [(5, .int 0), (4, .int 6), (3, .ref (ad 2 0)), (0, .ref (ad 0 0)), (1, .long (tsum st (nT st)))]) hx hb dX4_checksum_66 hl (by decide) rfl (fun ls hl => ?_)
        have loopI : ∀ (n k : Nat), k ≤ 6 → k + n = 6 + 1 → ∀ (H : Heap) (locs : List Loc) (ls : Array Slot), mP G.1 (Mw) H → mI A (Mw) → va_S A s.heap H locs → lv_has ls 7 [(0, .ref (ad 0 0)), (1, .long (csI st (tsum st (nT st)) (min k (nN st)))), (3, .ref (ad 2 0)), (4, .int 6), (5, .int (nI k))] → W p l e ({ frames := 3, cells := 0, slots := 0, locals := 65 }) s m ([.ref (ad 0 0)] : List Value).toArray below meth c H locs 0 0 (MQ below (va_Ql (fun r Mw1 => r = (chS st) ∧ Mw1 = Mw) (mE G A) A) ([.ref (ad 0 0)] : List Value).toArray s 0 0 A) (F0 m 68 ls []) := by
          intro n
          induction n with
          | zero => intro k hk1 hk2; omega
          | succ n ih_loopI =>
            intro k hk1 hk2 H locs ls hP hI hS hl
            refine lv_iload hx hb dX4_checksum_68 (lv_at hl 4 rfl) ?_
            refine lv_iload hx hb dX4_checksum_70 (lv_at hl 3 rfl) ?_
            refine lv_icmp_ge (tgt := 99) hx hb dX4_checksum_72 (by decide) (fun c2 => ?_) (fun c2 => ?_)
            · skip
              have hk3 : 6 ≤ k := (nI_leI (a := 6) (b := k) (by omega) (by omega)).mp c2
              refine lv_ldc2 (v := 31) hx hb hown (hts (.constantLong RX4 268 (31)) (by decide +kernel)) dX4_checksum_99 ?_
              refine lv_lload_n hx hb dX4_checksum_102 rfl (lv_at hl 1 rfl) ?_
              refine lv_lmul hx hb dX4_checksum_103 ?_
              refine lv_aload_n hx hb dX4_checksum_104 rfl (lv_at hl 0 rfl) ?_
              refine m_get (ci := 7) (v := .int (gS st 2)) (C := RX4) (T := TX4) (N := 9) hx hb hts i_X4 hown hK (hP _ _ h_X) rfl 6 (by decide) (hts (.fieldLink RX4 109 "Meniscus" "stock" "I") (by decide +kernel)) (fun _ h9 => h9) rfl dX4_checksum_105 ?_
              refine lv_i2l (v := (gS st 2).toInt64) hx hb dX4_checksum_108 rfl ?_
              refine lv_ladd hx hb dX4_checksum_109 ?_
              refine lv_lstore_n (lv' := [(1, .long ((31 * (csI st (tsum st (nT st)) (min k (nN st)))) + ((gS st 2).toInt64))), (0, .ref (ad 0 0)), (3, .ref (ad 2 0)), (4, .int 6), (5, .int (nI k))]) hx hb dX4_checksum_110 rfl hl (by decide) rfl (fun ls hl => ?_)
              refine lv_ldc2 (v := 31) hx hb hown (hts (.constantLong RX4 268 (31)) (by decide +kernel)) dX4_checksum_111 ?_
              refine lv_lload_n hx hb dX4_checksum_114 rfl (lv_at hl 0 rfl) ?_
              refine lv_lmul hx hb dX4_checksum_115 ?_
              refine lv_aload_n hx hb dX4_checksum_116 rfl (lv_at hl 1 rfl) ?_
              refine m_get (ci := 7) (v := .int (gS st 1)) (C := RX4) (T := TX4) (N := 9) hx hb hts i_X4 hown hK (hP _ _ h_X) rfl 5 (by decide) (hts (.fieldLink RX4 154 "Meniscus" "day" "I") (by decide +kernel)) (fun _ h9 => h9) rfl dX4_checksum_117 ?_
              refine lv_i2l (v := (gS st 1).toInt64) hx hb dX4_checksum_120 rfl ?_
              refine lv_ladd hx hb dX4_checksum_121 ?_
              refine W.widen (k := 0) (n := 0) (Nat.le_of_ble_eq_true rfl) (Nat.le_of_ble_eq_true rfl) ?_
              exact W.lret (v := (31 * ((31 * (csI st (tsum st (nT st)) (min k (nN st)))) + ((gS st 2).toInt64))) + ((gS st 1).toInt64)) hx hb hr (fun t99 ht99 hW99 => ⟨⟨(31 * ((31 * (csI st (tsum st (nT st)) (min k (nN st)))) + ((gS st 2).toInt64))) + ((gS st 1).toInt64), Mw, rfl, ⟨by unfold chS; rw [show min k (nN st) = nN st by have := hV.1.2; omega], rfl⟩, by rw [ht99]; exact hP, hI⟩, hS.F ht99⟩) hS.2.2 dX4_checksum_122
            · skip
              have hk3 : k < 6 := Nat.lt_of_not_le (fun q => c2 (nI_le (a := 6) q (by omega)))
              refine lv_aload_n hx hb dX4_checksum_75 rfl (lv_at hl 2 rfl) ?_
              refine lv_iload hx hb dX4_checksum_76 (lv_at hl 4 rfl) ?_
              refine m_aldq hx hb hK 4 (hP _ _ h_IA) rfl (vp_in_nI (by omega) (by omega)) dX4_checksum_78 ?_
              rw [nI_clamp (show k < 2 ^ 31 by omega)]
              rcases Nat.lt_or_ge k (nN st) with hj9 | hj9
              · rw [qf_p hj9]
                have hT9 := hV.tb hj9
                have hn9 := hV.rn hj9
                have hve := hC.ne (ok8 hj9) (ok9 hj9) (by omega)
                have hvb := hC.ne (ok8 hj9) (ok4 hT9) (by omega)
                have heb := hC.ne (ok9 hj9) (ok4 hT9) (by omega)
                have h_I : Mw (ad 5 k) = some (.inr (3, [.int (itS st k 0), .ref (ad 3 (tbN st k)), .int (itS st k 1), .int (itS st k 2), .ref (ad 6 k), .ref (ad 7 k), .int (itS st k 3), .int (itS st k 4), .int (itS st k 5), .int (itS st k 6), .int (itS st k 7), .int (itS st k 8), .int (itS st k 9), .int (itS st k 10), .int (itS st k 11)])) := hC.1 5 _ (ok5 hj9)
                have h_S : Mw (ad 6 k) = some (.inr (5, [.ref (ad 3 (tbN st k)), .int (itS st k 12), .int (itS st k 13), .int (itS st k 14), .int (itS st k 15)])) := hC.1 6 _ (ok6 hj9)
                have h_R : Mw (ad 7 k) = some (.inr (4, [.ref (ad 8 k), .ref (ad 9 k), .int (nI (rnS st k))])) := hC.1 7 _ (ok7 hj9)
                have h_V : Mw (ad 8 k) = some (.inl (G.2.1 0, 8, .inl (rvS st k))) := hC.1 8 _ (ok8 hj9)
                have h_E : Mw (ad 9 k) = some (.inl (G.2.1 0, 8, .inl (reS st k))) := hC.1 9 _ (ok9 hj9)
                have h_T : Mw (ad 3 (tbN st k)) = some (.inr (6, [.ref (ad 4 (tbN st k)), .int (usS st (tbN st k))])) := hC.1 3 _ (ok3 hT9)
                have h_B : Mw (ad 4 (tbN st k)) = some (.inl (G.2.1 0, 20, .inl (boS st (tbN st k)))) := hC.1 4 _ (ok4 hT9)
                refine lv_astore (lv' := [(6, .ref (ad 5 k)), (0, .ref (ad 0 0)), (1, .long (csI st (tsum st (nT st)) (min k (nN st)))), (3, .ref (ad 2 0)), (4, .int 6), (5, .int (nI k))]) hx hb dX4_checksum_79 hl (by decide) rfl (fun ls hl => ?_)
                refine lv_aload hx hb dX4_checksum_81 (lv_at hl 0 rfl) ?_
                refine lv_ifnull hx hb dX4_checksum_83 ?_
                refine lv_aload hx hb dX4_checksum_86 (lv_at hl 0 rfl) ?_
                refine lv_lload_n hx hb dX4_checksum_88 rfl (lv_at hl 2 rfl) ?_
                refine m_calll (va_runV (As := [.long (csI st (tsum st (nT st)) (min k (nN st)))]) (rest := []) ⟨hx, hb, hml, hown, hts⟩ (c_X0_addTo l G A Mw  (csI st (tsum st (nT st)) (min k (nN st))) h_I hve hn9 h_R h_V h_E) (cwV 1 hts gX4_checksum_X0_addTo rfl rfl rfl (by decide +kernel) ⟨Nat.le_of_ble_eq_true rfl, Nat.le_of_ble_eq_true rfl⟩) (mPreV hG hS hP hI hA (hP _ _ h_I) (r := (RX0, TX0, 15)) rfl) rfl rfl hl.1 rfl (lv_room (Nat.le_of_ble_eq_true rfl)) dX4_checksum_89 ⟨Nat.le_of_ble_eq_true rfl, Nat.le_of_ble_eq_true rfl⟩) hS (fun r3 Mw1 H locs hp_r3 hP hI hS => ?_)
                obtain ⟨hp_r3, hm9⟩ := hp_r3
                subst Mw1
                refine lv_lstore_n (lv' := [(1, .long r3), (6, .ref (ad 5 k)), (0, .ref (ad 0 0)), (3, .ref (ad 2 0)), (4, .int 6), (5, .int (nI k))]) hx hb dX4_checksum_92 rfl hl (by decide) rfl (fun ls hl => ?_)
                refine lv_iinc (v := (nI k) + 1) (lv' := [(5, .int ((nI k) + 1)), (1, .long r3), (6, .ref (ad 5 k)), (0, .ref (ad 0 0)), (3, .ref (ad 2 0)), (4, .int 6)]) hx hb dX4_checksum_93 hl (k := 5) rfl rfl (by decide) rfl (fun ls hl => ?_)
                refine lv_goto (tgt := 68) hx hb dX4_checksum_96 (by decide) ?_
                have e_5 : (nI k) + 1 = nI (k + 1) := nI_1 k
                rw [e_5] at hl
                have e_1 : r3 = csI st (tsum st (nT st)) (min (k + 1) (nN st)) := by rw [ci_p _ _ hj9, hp_r3]
                rw [e_1] at hl
                exact ih_loopI (k + 1) (by omega) (by omega) H locs ls hP hI hS (lv_sub hl [3, 1, 4, 5, 0] rfl)
              · rw [qf_n hj9]
                refine lv_astoreN (lv' := [(6, .null), (0, .ref (ad 0 0)), (1, .long (csI st (tsum st (nT st)) (min k (nN st)))), (3, .ref (ad 2 0)), (4, .int 6), (5, .int (nI k))]) hx hb dX4_checksum_79 hl (by decide) rfl (fun ls hl => ?_)
                refine lv_aloadN hx hb dX4_checksum_81 (lv_at hl 0 rfl) ?_
                refine lv_ifnullN (tgt := 93) hx hb dX4_checksum_83 (by decide) ?_
                refine lv_iinc (v := (nI k) + 1) (lv' := [(5, .int ((nI k) + 1)), (6, .null), (0, .ref (ad 0 0)), (1, .long (csI st (tsum st (nT st)) (min k (nN st)))), (3, .ref (ad 2 0)), (4, .int 6)]) hx hb dX4_checksum_93 hl (k := 5) rfl rfl (by decide) rfl (fun ls hl => ?_)
                refine lv_goto (tgt := 68) hx hb dX4_checksum_96 (by decide) ?_
                have e_5 : (nI k) + 1 = nI (k + 1) := nI_1 k
                rw [e_5] at hl
                have e_1 : csI st (tsum st (nT st)) (min k (nN st)) = csI st (tsum st (nT st)) (min (k + 1) (nN st)) := (ci_n _ _ hj9).symm
                rw [e_1] at hl
                exact ih_loopI (k + 1) (by omega) (by omega) H locs ls hP hI hS (lv_sub hl [2, 3, 4, 5, 0] rfl)
        exact loopI (6 + 1 - 0) 0 (by omega) (by omega) _ _ _ hP hI hS (lv_sub hl [3, 4, 2, 1, 0] rfl)
      · skip
        have hk3 : k < 8 := Nat.lt_of_not_le (fun q => c1 (nI_le (a := 8) q (by omega)))
        refine lv_aload_n hx hb dX4_checksum_23 rfl (lv_at hl 2 rfl) ?_
        refine lv_iload hx hb dX4_checksum_24 (lv_at hl 4 rfl) ?_
        refine m_aldq hx hb hK 3 (hP _ _ h_TA) rfl (vp_in_nI (by omega) (by omega)) dX4_checksum_26 ?_
        rw [nI_clamp (show k < 2 ^ 31 by omega)]
        rcases Nat.lt_or_ge k (nT st) with hj9 | hj9
        · rw [qf_p hj9]
          have h_T : Mw (ad 3 k) = some (.inr (6, [.ref (ad 4 k), .int (usS st k)])) := hC.1 3 _ (ok3 hj9)
          have h_B : Mw (ad 4 k) = some (.inl (G.2.1 0, 20, .inl (boS st k))) := hC.1 4 _ (ok4 hj9)
          refine lv_astore (lv' := [(6, .ref (ad 3 k)), (0, .ref (ad 0 0)), (1, .long (tsum st (min k (nT st)))), (3, .ref (ad 1 0)), (4, .int 8), (5, .int (nI k))]) hx hb dX4_checksum_27 hl (by decide) rfl (fun ls hl => ?_)
          refine lv_aload hx hb dX4_checksum_29 (lv_at hl 0 rfl) ?_
          refine lv_ifnull hx hb dX4_checksum_31 ?_
          refine lv_ldc2 (v := 31) hx hb hown (hts (.constantLong RX4 268 (31)) (by decide +kernel)) dX4_checksum_34 ?_
          refine lv_lload_n hx hb dX4_checksum_37 rfl (lv_at hl 2 rfl) ?_
          refine lv_lmul hx hb dX4_checksum_38 ?_
          refine lv_aload hx hb dX4_checksum_39 (lv_at hl 0 rfl) ?_
          refine lv_sipush (v := (200)) hx hb dX4_checksum_41 (by decide) ?_
          refine m_calli (va_runV (As := [.int 200]) (rest := [.long (31 * (tsum st (min k (nT st))))]) ⟨hx, hb, hml, hown, hts⟩ (c_X3_volumeUpTo l G A Mw  200 h_T h_B) (cwV 1 hts gX4_checksum_X3_volumeUpTo rfl rfl rfl (by decide +kernel) ⟨Nat.le_of_ble_eq_true rfl, Nat.le_of_ble_eq_true rfl⟩) (mPreV hG hS hP hI hA (hP _ _ h_T) (r := (RX3, TX3, 2)) rfl) rfl rfl hl.1 rfl (lv_room (Nat.le_of_ble_eq_true rfl)) dX4_checksum_44 ⟨Nat.le_of_ble_eq_true rfl, Nat.le_of_ble_eq_true rfl⟩) hS (fun r4 Mw1 H locs hp_r4 hP hI hS => ?_)
          obtain ⟨hp_r4, hm9⟩ := hp_r4
          subst Mw1
          refine lv_i2l (v := r4.toInt64) hx hb dX4_checksum_47 rfl ?_
          refine lv_ladd hx hb dX4_checksum_48 ?_
          refine lv_lstore_n (lv' := [(1, .long ((31 * (tsum st (min k (nT st)))) + r4.toInt64)), (6, .ref (ad 3 k)), (0, .ref (ad 0 0)), (3, .ref (ad 1 0)), (4, .int 8), (5, .int (nI k))]) hx hb dX4_checksum_49 rfl hl (by decide) rfl (fun ls hl => ?_)
          refine lv_iinc (v := (nI k) + 1) (lv' := [(5, .int ((nI k) + 1)), (1, .long ((31 * (tsum st (min k (nT st)))) + r4.toInt64)), (6, .ref (ad 3 k)), (0, .ref (ad 0 0)), (3, .ref (ad 1 0)), (4, .int 8)]) hx hb dX4_checksum_50 hl (k := 5) rfl rfl (by decide) rfl (fun ls hl => ?_)
          refine lv_goto (tgt := 16) hx hb dX4_checksum_53 (by decide) ?_
          have e_5 : (nI k) + 1 = nI (k + 1) := nI_1 k
          rw [e_5] at hl
          have e_1 : (31 * (tsum st (min k (nT st)))) + r4.toInt64 = tsum st (min (k + 1) (nT st)) := by rw [ts_p _ hj9, hp_r4]
          rw [e_1] at hl
          exact ih_loopT (k + 1) (by omega) (by omega) H locs ls hP hI hS (lv_sub hl [3, 1, 4, 5, 0] rfl)
        · rw [qf_n hj9]
          refine lv_astoreN (lv' := [(6, .null), (0, .ref (ad 0 0)), (1, .long (tsum st (min k (nT st)))), (3, .ref (ad 1 0)), (4, .int 8), (5, .int (nI k))]) hx hb dX4_checksum_27 hl (by decide) rfl (fun ls hl => ?_)
          refine lv_aloadN hx hb dX4_checksum_29 (lv_at hl 0 rfl) ?_
          refine lv_ifnullN (tgt := 50) hx hb dX4_checksum_31 (by decide) ?_
          refine lv_iinc (v := (nI k) + 1) (lv' := [(5, .int ((nI k) + 1)), (6, .null), (0, .ref (ad 0 0)), (1, .long (tsum st (min k (nT st)))), (3, .ref (ad 1 0)), (4, .int 8)]) hx hb dX4_checksum_50 hl (k := 5) rfl rfl (by decide) rfl (fun ls hl => ?_)
          refine lv_goto (tgt := 16) hx hb dX4_checksum_53 (by decide) ?_
          have e_5 : (nI k) + 1 = nI (k + 1) := nI_1 k
          rw [e_5] at hl
          have e_1 : tsum st (min k (nT st)) = tsum st (min (k + 1) (nT st)) := (ts_n _ hj9).symm
          rw [e_1] at hl
          exact ih_loopT (k + 1) (by omega) (by omega) H locs ls hP hI hS (lv_sub hl [2, 3, 4, 5, 0] rfl)
  exact loopT (8 + 1 - 0) 0 (by omega) (by omega) _ _ _ hP hI hS (lv_sub hl [4, 3, 2, 1, 0] rfl)

theorem c_X0_creepq (l : Launch) (G : mg) (A : Nat → Prop) (Mw : mw) (d9 : Nat) (hd9 : d9 < 2 ^ 30) (p9 : Int32) (hp9 : p9 = nI d9) {a0 t0 sc0 rd0 : Nat} {tn0 bu0 gl0 cr0 fi0 sm0 li0 in0 ga0 ke0 gr0 ce0 : Int32} (h_I : Mw a0 = some (.inr (3, [.int tn0, .ref t0, .int bu0, .int gl0, .ref sc0, .ref rd0, .int cr0, .int fi0, .int sm0, .int li0, .int in0, .int ga0, .int ke0, .int gr0, .int ce0]))) : Met l yX0_creep wsX0_creep ({ frames := 1, cells := 0, slots := 0, locals := 20 }) (va_Pc [.ref a0, .int p9] (mB G A Mw)) (va_Qv (fun Mw1 => Mw1 = mu Mw a0 (.inr (3, [.int tn0, .ref t0, .int bu0, .int gl0, .ref sc0, .ref rd0, .int (crp bu0 gl0 cr0 d9), .int fi0, .int sm0, .int li0, .int in0, .int ga0, .int ke0, .int gr0, .int ce0]))) (mE G A) A) 0 0 A := by
  subst hp9
  exact c_X0_creep l G A Mw d9 hd9 h_I
set_option maxHeartbeats 4000000 in
set_option maxRecDepth 100000 in
theorem c_X4_days (l : Launch) (G : mg) (A : Nat → Prop) (Mw : mw) (hl9 : l.stackTraces = false) (p0 : Int32) (st : St) (ad : adr) (hC : CS G st ad Mw) (hV : Inv st) : vx_Met l yX4_days wsX4_days ({ frames := 7, cells := 2, slots := 12, locals := 104 }) (va_Pc [.ref (ad 0 0), .int p0] (mB G A Mw)) (va_Qi (fun r Mw1 => ∃ (s1 : St) (ad1 : adr), m_days st p0 = (0, r, s1) ∧ CS G s1 ad1 Mw1 ∧ ad1 0 0 = ad 0 0) (mE G A) A) (xX (fun E => exc ["java/lang/IllegalArgumentException", "java/lang/IllegalStateException"] (m_days st p0) E) G A Mw) 2 12 A := by
  refine vx_ofW (cc := cX4_days) (maxL := 6) (ret := (some .int)) (by decide) rfl ?_
  intro p e s m args below meth c s₁ B hml hxt hv
  obtain ⟨rfl, hG, hP, hI, hA⟩ := hv
  have hx := B.exec
  have hb := B.bytes
  have hr := B.returns
  have hts := atoms_spec (ws := wsX4_days) B.pre
  have hown : s.vm.findClass RX4 = some m.cls := findClass_of_methodNamed B.named
  have hlocks := B.notSynchronized
  have hK := hG.K
  have i_X4 : ∀ w ∈ wsX40, w ∈ wsX4_days := by decide +kernel
  have hS : va_S A s.heap s.heap [] := va_S.rf
  have hl := lv_entry ([.ref (ad 0 0), .int p0]) (n := 6) (Nat.le_of_ble_eq_true rfl)
  rw [lg_entry_eq]
  generalize (lg_sl ([.ref (ad 0 0), .int p0]) ++ List.replicate (6 - (lg_sl ([.ref (ad 0 0), .int p0])).length) Slot.unset).toArray = ls at hl ⊢
  have hl : lv_has ls 6 [(0, .ref (ad 0 0)), (1, .int p0)] := hl
  have hP : mP G.1 Mw s.heap := hP
  have h_X : Mw (ad 0 0) = some (.inr (7, [.ref (ad 1 0), .ref (ad 2 0), .int (nI (nT st)), .int (nI (nN st)), .int (gS st 0), .int (gS st 1), .int (gS st 2), .int (gS st 3), .int (gS st 4)])) := hC.1 0 0 (ok0 st)
  have h_TA : Mw (ad 1 0) = some (.inl (G.2.1 3, 8, .inr (.inr (.inr (.inr (qf (nT st) (ad 3))))))) := hC.1 1 0 (ok1 st)
  have h_IA : Mw (ad 2 0) = some (.inl (G.2.1 4, 6, .inr (.inr (.inr (.inr (qf (nN st) (ad 5))))))) := hC.1 2 0 (ok2 st)
  have hta9 := hC.ne (ok1 st) (ok2 st) (by omega)
  refine lv_iload_n hx hb dX4_days_0 rfl (lv_at hl 1 rfl) ?_
  refine lv_iconst (v := 1) hx hb dX4_days_1 (by decide) ?_
  refine lv_sipush (v := (999)) hx hb dX4_days_2 (by decide) ?_
  refine mx_callv (vx_runS (As := [.int p0, .int 1, .int 999]) (rest := []) ⟨hx, hb, hml, hown, hts⟩ (c_X4_demandRange l G A Mw hl9  p0 1 999) (va_cwS 3 hts gX4_days_X4_demandRange rfl rfl rfl (by decide +kernel) ⟨Nat.le_of_ble_eq_true rfl, Nat.le_of_ble_eq_true rfl⟩) (mPreS hG hS hP hI hA) rfl rfl hl.1 rfl (lv_room (Nat.le_of_ble_eq_true rfl)) dX4_days_5 ⟨Nat.le_of_ble_eq_true rfl, Nat.le_of_ble_eq_true rfl⟩) hS (fun E9 ce9 q9 H locs hpx9 hP hI hS hc9 hv9 hcl9 => m_out (px := fun E => exc ["java/lang/IllegalArgumentException", "java/lang/IllegalStateException"] (m_days st p0) E) (fun x hx9 => absurd hx9 (fun q => hxt x q)) hlocks hP hI hS hc9 hv9 hcl9 ((by obtain ⟨hE9, hn9⟩ := hpx9; subst hE9; exact exc_of (by unfold m_days; first | (rw [chk_n hn9]; done) | (rw [chk_n hn9]; rfl)) rfl)) (Nat.le_of_ble_eq_true rfl) (Nat.le_of_ble_eq_true rfl)) (fun Mw1 H locs hp_r1 hP hI hS => ?_)
  obtain ⟨hp_r1, hm9⟩ := hp_r1
  subst Mw1
  refine lv_aload_n hx hb dX4_days_8 rfl (lv_at hl 0 rfl) ?_
  refine m_get (ci := 7) (v := .int (gS st 1)) (C := RX4) (T := TX4) (N := 9) hx hb hts i_X4 hown hK (hP _ _ h_X) rfl 5 (by decide) (hts (.fieldLink RX4 154 "Meniscus" "day" "I") (by decide +kernel)) (fun _ h9 => h9) rfl dX4_days_9 ?_
  refine lv_iload_n hx hb dX4_days_12 rfl (lv_at hl 1 rfl) ?_
  refine lv_iadd hx hb dX4_days_13 ?_
  refine lv_sipush (v := (9999)) hx hb dX4_days_14 (by decide) ?_
  refine lv_icmp_le (tgt := 30) hx hb dX4_days_17 (by decide) (fun c2 => ?_) (fun c2 => ?_)
  · skip
    have hp8 : p0 = nI (ix p0) := nI_cl (fun q9 => hp_r1.1 (Int32.lt_trans q9 (by decide)))
    have hd8 : ix p0 < 2 ^ 30 := by have h8 := hp_r1.2; rw [hp8] at h8; have h7 := (nI_leI (a := ix p0) (b := 999) (Int32.toNatClampNeg_lt p0) (by omega)).mp h8; omega
    refine lv_aload_n hx hb dX4_days_30 rfl (lv_at hl 0 rfl) ?_
    refine lv_dup hx hb dX4_days_31 rfl ?_
    refine m_get (ci := 7) (v := .int (gS st 1)) (C := RX4) (T := TX4) (N := 9) hx hb hts i_X4 hown hK (hP _ _ h_X) rfl 5 (by decide) (hts (.fieldLink RX4 154 "Meniscus" "day" "I") (by decide +kernel)) (fun _ h9 => h9) rfl dX4_days_32 ?_
    refine lv_iload_n hx hb dX4_days_35 rfl (lv_at hl 1 rfl) ?_
    refine lv_iadd hx hb dX4_days_36 ?_
    refine m_put (ci := 7) (v := .int ((gS st 1) + p0)) (ty := .int) (C := RX4) (T := TX4) (N := 9) hx hb hts i_X4 tyX4 tyX4_ok nmX4 hown hK hP hI hS h_X rfl 5 (by decide) (hts (.fieldLink RX4 154 "Meniscus" "day" "I") (by decide +kernel)) (fun _ h9 => h9) rfl (by decide +kernel) rfl rfl (Nat.le_of_ble_eq_true rfl) dX4_days_37 (fun H locs hP hI hS => ?_)
    have hP : mP G.1 (mu Mw (ad 0 0) (.inr (7, [.ref (ad 1 0), .ref (ad 2 0), .int (nI (nT st)), .int (nI (nN st)), .int (gS st 0), .int ((gS st 1) + p0), .int (gS st 2), .int (gS st 3), .int (gS st 4)]))) H := hP
    have hI : mI A (mu Mw (ad 0 0) (.inr (7, [.ref (ad 1 0), .ref (ad 2 0), .int (nI (nT st)), .int (nI (nN st)), .int (gS st 0), .int ((gS st 1) + p0), .int (gS st 2), .int (gS st 3), .int (gS st 4)]))) := hI
    have h_TA := mu_k (e := .inr (7, [.ref (ad 1 0), .ref (ad 2 0), .int (nI (nT st)), .int (nI (nN st)), .int (gS st 0), .int ((gS st 1) + p0), .int (gS st 2), .int (gS st 3), .int (gS st 4)])) (kd_ne h_TA h_X rfl) h_TA
    have h_IA := mu_k (e := .inr (7, [.ref (ad 1 0), .ref (ad 2 0), .int (nI (nT st)), .int (nI (nN st)), .int (gS st 0), .int ((gS st 1) + p0), .int (gS st 2), .int (gS st 3), .int (gS st 4)])) (kd_ne h_IA h_X rfl) h_IA
    have h_X : (mu Mw (ad 0 0) (.inr (7, [.ref (ad 1 0), .ref (ad 2 0), .int (nI (nT st)), .int (nI (nN st)), .int (gS st 0), .int ((gS st 1) + p0), .int (gS st 2), .int (gS st 3), .int (gS st 4)]))) (ad 0 0) = some (.inr (7, [.ref (ad 1 0), .ref (ad 2 0), .int (nI (nT st)), .int (nI (nN st)), .int (gS st 0), .int ((gS st 1) + p0), .int (gS st 2), .int (gS st 3), .int (gS st 4)])) := mu_s
    refine lv_aload_n hx hb dX4_days_40 rfl (lv_at hl 0 rfl) ?_
    refine m_get (ci := 7) (v := .ref (ad 2 0)) (C := RX4) (T := TX4) (N := 9) hx hb hts i_X4 hown hK (hP _ _ h_X) rfl 1 (by decide) (hts (.fieldLink RX4 17 "Meniscus" "instruments" "[LMeniscus$Instrument;") (by decide +kernel)) (fun _ h9 => h9) rfl dX4_days_41 ?_
    refine lv_astore_n (lv' := [(2, .ref (ad 2 0)), (0, .ref (ad 0 0)), (1, .int p0)]) hx hb dX4_days_44 rfl hl (by decide) rfl (fun ls hl => ?_)
    refine lv_aload_n hx hb dX4_days_45 rfl (lv_at hl 0 rfl) ?_
    refine m_alen (v := 6) hx hb hK 4 (hP _ _ h_IA) rfl rfl dX4_days_46 ?_
    refine lv_istore_n (lv' := [(3, .int 6), (2, .ref (ad 2 0)), (0, .ref (ad 0 0)), (1, .int p0)]) hx hb dX4_days_47 rfl hl (by decide) rfl (fun ls hl => ?_)
    refine lv_iconst (v := 0) hx hb dX4_days_48 (by decide) ?_
    refine lv_istore (lv' := [(4, .int 0), (3, .int 6), (2, .ref (ad 2 0)), (0, .ref (ad 0 0)), (1, .int p0)]) hx hb dX4_days_49 hl (by decide) rfl (fun ls hl => ?_)
    have loop : ∀ (n k : Nat), k ≤ 6 → k + n = 6 + 1 → ∀ (Mv_loop : mw) (H : Heap) (locs : List Loc) (ls : Array Slot), (CS G (creS (sG st 1 (gS st 1 + p0)) (ix p0) (min k (nN st))) ad Mv_loop) → mP G.1 Mv_loop H → mI A Mv_loop → va_S A s.heap H locs → lv_has ls 6 [(0, .ref (ad 0 0)), (1, .int p0), (2, .ref (ad 2 0)), (3, .int 6), (4, .int (nI k))] → W p l e ({ frames := 7, cells := 2, slots := 12, locals := 104 }) s m ([.ref (ad 0 0), .int p0] : List Value).toArray below meth c H locs 1 6 (vx_MQ below (va_Qi (fun r Mw1 => ∃ (s1 : St) (ad1 : adr), m_days st p0 = (0, r, s1) ∧ CS G s1 ad1 Mw1 ∧ ad1 0 0 = ad 0 0) (mE G A) A) (xX (fun E => exc ["java/lang/IllegalArgumentException", "java/lang/IllegalStateException"] (m_days st p0) E) G A Mw) ([.ref (ad 0 0), .int p0] : List Value).toArray s 2 12 A) (F0 m 51 ls []) := by
      intro n
      induction n with
      | zero => intro k hk1 hk2; omega
      | succ n ih_loop =>
        intro k hk1 hk2 Mv_loop H locs ls hCk hP hI hS hl
        have h_X : Mv_loop (ad 0 0) = some (.inr (7, [.ref (ad 1 0), .ref (ad 2 0), .int (nI (nT st)), .int (nI (nN st)), .int (gS st 0), .int (gS st 1 + p0), .int (gS st 2), .int (gS st 3), .int (gS st 4)])) := hCk.1 0 0 (ok0 _)
        have h_IA : Mv_loop (ad 2 0) = some (.inl (G.2.1 4, 6, .inr (.inr (.inr (.inr (qf (nN st) (ad 5))))))) := hCk.1 2 0 (ok2 _)
        refine lv_iload hx hb dX4_days_51 (lv_at hl 4 rfl) ?_
        refine lv_iload_n hx hb dX4_days_53 rfl (lv_at hl 3 rfl) ?_
        refine lv_icmp_ge (tgt := 80) hx hb dX4_days_54 (by decide) (fun c3 => ?_) (fun c3 => ?_)
        · skip
          have hk3 : 6 ≤ k := (nI_leI (a := 6) (b := k) (by omega) (by omega)).mp c3
          refine lv_aload_n hx hb dX4_days_80 rfl (lv_at hl 0 rfl) ?_
          refine m_get (ci := 7) (v := .int (gS st 1 + p0)) (C := RX4) (T := TX4) (N := 9) hx hb hts i_X4 hown hK (hP _ _ h_X) rfl 5 (by decide) (hts (.fieldLink RX4 154 "Meniscus" "day" "I") (by decide +kernel)) (fun _ h9 => h9) rfl dX4_days_81 ?_
          refine W.widen (k := 2) (n := 12) (Nat.le_of_ble_eq_true rfl) (Nat.le_of_ble_eq_true rfl) ?_
          refine vx_ret ?_
          exact W.iret (v := gS st 1 + p0) hx hb hr (fun t99 ht99 hW99 => ⟨⟨gS st 1 + p0, Mv_loop, rfl, ⟨creS (sG st 1 (gS st 1 + p0)) (ix p0) (nN st), ad, by unfold m_days; first | (rw [chk_p hp_r1, chk_p c2]; done) | (rw [chk_p hp_r1, chk_p c2]; rfl), by rw [show min k (nN st) = nN st by have := hV.1.2; omega] at hCk; exact hCk, rfl⟩, by rw [ht99]; exact hP, hI⟩, hS.F ht99⟩) hS.2.2 dX4_days_84
        · skip
          have hk3 : k < 6 := Nat.lt_of_not_le (fun q => c3 (nI_le (a := 6) q (by omega)))
          refine lv_aload_n hx hb dX4_days_57 rfl (lv_at hl 2 rfl) ?_
          refine lv_iload hx hb dX4_days_58 (lv_at hl 4 rfl) ?_
          refine m_aldq hx hb hK 4 (hP _ _ h_IA) rfl (vp_in_nI (by omega) (by omega)) dX4_days_60 ?_
          rw [nI_clamp (show k < 2 ^ 31 by omega)]
          rcases Nat.lt_or_ge k (nN st) with hj9 | hj9
          · rw [qf_p hj9]
            rw [mn_k hj9] at hCk
            have h_I : Mv_loop (ad 5 k) = some (.inr (3, [.int (itS st k 0), .ref (ad 3 (tbN st k)), .int (itS st k 1), .int (itS st k 2), .ref (ad 6 k), .ref (ad 7 k), .int (itS st k 3), .int (itS st k 4), .int (itS st k 5), .int (itS st k 6), .int (itS st k 7), .int (itS st k 8), .int (itS st k 9), .int (itS st k 10), .int (itS st k 11)])) := cre_at (s := (sG st 1 (gS st 1 + p0))) (d := ix p0) hCk hj9
            refine lv_astore (lv' := [(5, .ref (ad 5 k)), (0, .ref (ad 0 0)), (1, .int p0), (2, .ref (ad 2 0)), (3, .int 6), (4, .int (nI k))]) hx hb dX4_days_61 hl (by decide) rfl (fun ls hl => ?_)
            refine lv_aload hx hb dX4_days_63 (lv_at hl 0 rfl) ?_
            refine lv_ifnull hx hb dX4_days_65 ?_
            refine lv_aload hx hb dX4_days_68 (lv_at hl 0 rfl) ?_
            refine lv_iload_n hx hb dX4_days_70 rfl (lv_at hl 2 rfl) ?_
            refine m_callv (va_runV (As := [.int p0]) (rest := []) ⟨hx, hb, hml, hown, hts⟩ (c_X0_creepq l G A Mv_loop (ix p0) hd8 p0 hp8 h_I) (cwV 1 hts gX4_days_X0_creep rfl rfl rfl (by decide +kernel) ⟨Nat.le_of_ble_eq_true rfl, Nat.le_of_ble_eq_true rfl⟩) (mPreV hG hS hP hI hA (hP _ _ h_I) (r := (RX0, TX0, 15)) rfl) rfl rfl hl.1 rfl (lv_room (Nat.le_of_ble_eq_true rfl)) dX4_days_71 ⟨Nat.le_of_ble_eq_true rfl, Nat.le_of_ble_eq_true rfl⟩) hS (fun Mw1 H locs hp_r4 hP hI hS => ?_)
            subst Mw1
            have h_X := mu_k (e := .inr (3, [.int (itS st k 0), .ref (ad 3 (tbN st k)), .int (itS st k 1), .int (itS st k 2), .ref (ad 6 k), .ref (ad 7 k), .int (crp (itS st k 1) (itS st k 2) (itS st k 3) (ix p0)), .int (itS st k 4), .int (itS st k 5), .int (itS st k 6), .int (itS st k 7), .int (itS st k 8), .int (itS st k 9), .int (itS st k 10), .int (itS st k 11)])) (kd_ne h_X h_I rfl) h_X
            have h_IA := mu_k (e := .inr (3, [.int (itS st k 0), .ref (ad 3 (tbN st k)), .int (itS st k 1), .int (itS st k 2), .ref (ad 6 k), .ref (ad 7 k), .int (crp (itS st k 1) (itS st k 2) (itS st k 3) (ix p0)), .int (itS st k 4), .int (itS st k 5), .int (itS st k 6), .int (itS st k 7), .int (itS st k 8), .int (itS st k 9), .int (itS st k 10), .int (itS st k 11)])) (kd_ne h_IA h_I rfl) h_IA
            have h_I : (mu Mv_loop (ad 5 k) (.inr (3, [.int (itS st k 0), .ref (ad 3 (tbN st k)), .int (itS st k 1), .int (itS st k 2), .ref (ad 6 k), .ref (ad 7 k), .int (crp (itS st k 1) (itS st k 2) (itS st k 3) (ix p0)), .int (itS st k 4), .int (itS st k 5), .int (itS st k 6), .int (itS st k 7), .int (itS st k 8), .int (itS st k 9), .int (itS st k 10), .int (itS st k 11)]))) (ad 5 k) = some (.inr (3, [.int (itS st k 0), .ref (ad 3 (tbN st k)), .int (itS st k 1), .int (itS st k 2), .ref (ad 6 k), .ref (ad 7 k), .int (crp (itS st k 1) (itS st k 2) (itS st k 3) (ix p0)), .int (itS st k 4), .int (itS st k 5), .int (itS st k 6), .int (itS st k 7), .int (itS st k 8), .int (itS st k 9), .int (itS st k 10), .int (itS st k 11)])) := mu_s
            refine lv_iinc (v := (nI k) + 1) (lv' := [(4, .int ((nI k) + 1)), (5, .ref (ad 5 k)), (0, .ref (ad 0 0)), (1, .int p0), (2, .ref (ad 2 0)), (3, .int 6)]) hx hb dX4_days_74 hl (k := 5) rfl rfl (by decide) rfl (fun ls hl => ?_)
            refine lv_goto (tgt := 51) hx hb dX4_days_77 (by decide) ?_
            have e_4 : (nI k) + 1 = nI (k + 1) := nI_1 k
            rw [e_4] at hl
            exact ih_loop (k + 1) (by omega) (by omega) _ H locs ls (by rw [mn_p (k := k) (n := nN st) hj9, mn_k (k := k) (n := nN st) hj9]; exact CS.cre (s := (sG st 1 (gS st 1 + p0))) hCk hj9 (creG st (ix p0) k) rfl) hP hI hS (lv_sub hl [2, 3, 4, 5, 0] rfl)
          · rw [qf_n hj9]
            refine lv_astoreN (lv' := [(5, .null), (0, .ref (ad 0 0)), (1, .int p0), (2, .ref (ad 2 0)), (3, .int 6), (4, .int (nI k))]) hx hb dX4_days_61 hl (by decide) rfl (fun ls hl => ?_)
            refine lv_aloadN hx hb dX4_days_63 (lv_at hl 0 rfl) ?_
            refine lv_ifnullN (tgt := 74) hx hb dX4_days_65 (by decide) ?_
            refine lv_iinc (v := (nI k) + 1) (lv' := [(4, .int ((nI k) + 1)), (5, .null), (0, .ref (ad 0 0)), (1, .int p0), (2, .ref (ad 2 0)), (3, .int 6)]) hx hb dX4_days_74 hl (k := 5) rfl rfl (by decide) rfl (fun ls hl => ?_)
            refine lv_goto (tgt := 51) hx hb dX4_days_77 (by decide) ?_
            have e_4 : (nI k) + 1 = nI (k + 1) := nI_1 k
            rw [e_4] at hl
            exact ih_loop (k + 1) (by omega) (by omega) _ H locs ls (by rw [mn_n (k := k) (n := nN st) hj9]; exact hCk) hP hI hS (lv_sub hl [2, 3, 4, 5, 0] rfl)
    exact loop (6 + 1 - 0) 0 (by omega) (by omega) _ _ _ _ (cre_0 (hC.sg (fu (gS st) 1 (gS st 1 + p0)))) hP hI hS (lv_sub hl [3, 4, 2, 1, 0] rfl)
  · skip
    obtain ⟨sa9, hsa9⟩ := hG.2.1.2.2.2.2.2.1 (157, "beyond the last day") (by decide +kernel)
    exact vx_throwS (text := "beyond the last day") (names := ["java/lang/RuntimeException", "java/lang/Exception"]) hx hb hl9 hown (by decide +kernel) (by decide +kernel) (hts (.classLink RX4 32 "java/lang/IllegalStateException") (by decide +kernel)) (hts (.initialized "java/lang/IllegalStateException") (by decide +kernel)) hsa9 (m_hat hG (fun w h => hts w (List.mem_cons_of_mem _ (List.mem_append_left _ (List.mem_append_right _ h)))) (by decide +kernel) (by decide +kernel)) (by decide +kernel) hG.2.2.1 hG.2.2.2.1 hS (hl.1.trans hml.symm) dX4_days_20 dX4_days_23 dX4_days_24 dX4_days_26 dX4_days_29 (fun x hx9 => absurd hx9 (fun q => hxt x q)) (Nat.le_of_ble_eq_true rfl) (Nat.le_of_ble_eq_true rfl) (Nat.le_of_ble_eq_true rfl) (Nat.le_of_ble_eq_true rfl) hlocks (fun t9 _ h92 h93 => m_thrown (px := fun E => exc ["java/lang/IllegalArgumentException", "java/lang/IllegalStateException"] (m_days st p0) E) (E := "java/lang/IllegalStateException") hP hI hS (exc_of (by unfold m_days; first | (rw [chk_p hp_r1, chk_n c2]; done) | (rw [chk_p hp_r1, chk_n c2]; rfl)) rfl) t9 h92 h93) hS.2.2 (Nat.le_of_ble_eq_true rfl) (Nat.le_of_ble_eq_true rfl)
