set_option maxHeartbeats 4000000 in
set_option maxRecDepth 100000 in
theorem c_X4_instrumentsOfTube (l : Launch) (G : mg) (A : Nat → Prop) (Mw : mw) (p0 : Int32) (st : St) (ad : adr) (hC : CS G st ad Mw) (hV : Inv st) : Met l yX4_instrumentsOfTube wsX4_instrumentsOfTube ({ frames := 0, cells := 0, slots := 0, locals := 0 }) (va_Pc [.ref (ad 0 0), .int p0] (mB G A Mw)) (va_Qi (fun r Mw1 => r = (isum (fun i => if itS st i 0 = p0 then 1 else 0) (nN st)) ∧ Mw1 = Mw) (mE G A) A) 0 0 A := by
  refine Met.ofW (cc := cX4_instrumentsOfTube) (maxL := 7) (ret := (some .int)) (by decide) rfl ?_
  intro p e s m args below meth c s₁ B hml hv
  obtain ⟨rfl, hG, hP, hI, hA⟩ := hv
  have hx := B.exec
  have hb := B.bytes
  have hr := B.returns
  have hts := atoms_spec (ws := wsX4_instrumentsOfTube) B.pre
  have hown : s.vm.findClass RX4 = some m.cls := findClass_of_methodNamed B.named
  have hlocks := B.notSynchronized
  have hK := hG.K
  have i_X0 : ∀ w ∈ wsX00, w ∈ wsX4_instrumentsOfTube := by decide +kernel
  have i_X4 : ∀ w ∈ wsX40, w ∈ wsX4_instrumentsOfTube := by decide +kernel
  have hS : va_S A s.heap s.heap [] := va_S.rf
  have hl := lv_entry ([.ref (ad 0 0), .int p0]) (n := 7) (Nat.le_of_ble_eq_true rfl)
  rw [lg_entry_eq]
  generalize (lg_sl ([.ref (ad 0 0), .int p0]) ++ List.replicate (7 - (lg_sl ([.ref (ad 0 0), .int p0])).length) Slot.unset).toArray = ls at hl ⊢
  have hl : lv_has ls 7 [(0, .ref (ad 0 0)), (1, .int p0)] := hl
  have hP : mP G.1 Mw s.heap := hP
  have h_X : Mw (ad 0 0) = some (.inr (4, [.ref (ad 1 0), .ref (ad 2 0), .int (nI (nT st)), .int (nI (nN st)), .int (gS st 0), .int (gS st 1), .int (gS st 2), .int (gS st 3), .int (gS st 4)])) := hC.1 0 0 (ok0 st)
  have h_TA : Mw (ad 1 0) = some (.inl (G.2.1 3, 8, .inr (.inr (.inr (.inr (qf (nT st) (ad 3))))))) := hC.1 1 0 (ok1 st)
  have h_IA : Mw (ad 2 0) = some (.inl (G.2.1 4, 6, .inr (.inr (.inr (.inr (qf (nN st) (ad 5))))))) := hC.1 2 0 (ok2 st)
  have hta9 := hC.ne (ok1 st) (ok2 st) (by omega)
  refine lv_iconst (v := 0) hx hb dX4_instrumentsOfTube_0 (by decide) ?_
  refine lv_istore_n (lv' := [(2, .int 0), (0, .ref (ad 0 0)), (1, .int p0)]) hx hb dX4_instrumentsOfTube_1 rfl hl (by decide) rfl (fun ls hl => ?_)
  refine lv_aload_n hx hb dX4_instrumentsOfTube_2 rfl (lv_at hl 1 rfl) ?_
  refine m_get (ci := 4) (v := .ref (ad 2 0)) (C := RX4) (T := TX4) (N := 9) hx hb hts i_X4 hown hK (hP _ _ h_X) rfl 1 (by decide) (hts (.fieldLink RX4 17 "Meniscus" "instruments" "[LMeniscus$Instrument;") (by decide +kernel)) (fun _ h9 => h9) rfl dX4_instrumentsOfTube_3 ?_
  refine lv_astore_n (lv' := [(3, .ref (ad 2 0)), (2, .int 0), (0, .ref (ad 0 0)), (1, .int p0)]) hx hb dX4_instrumentsOfTube_6 rfl hl (by decide) rfl (fun ls hl => ?_)
  refine lv_aload_n hx hb dX4_instrumentsOfTube_7 rfl (lv_at hl 0 rfl) ?_
  refine m_alen (v := 6) hx hb hK 4 (hP _ _ h_IA) rfl rfl dX4_instrumentsOfTube_8 ?_
  refine lv_istore (lv' := [(4, .int 6), (3, .ref (ad 2 0)), (2, .int 0), (0, .ref (ad 0 0)), (1, .int p0)]) hx hb dX4_instrumentsOfTube_9 hl (by decide) rfl (fun ls hl => ?_)
  refine lv_iconst (v := 0) hx hb dX4_instrumentsOfTube_11 (by decide) ?_
  refine lv_istore (lv' := [(5, .int 0), (4, .int 6), (3, .ref (ad 2 0)), (2, .int 0), (0, .ref (ad 0 0)), (1, .int p0)]) hx hb dX4_instrumentsOfTube_12 hl (by decide) rfl (fun ls hl => ?_)
  have loop : ∀ (n k : Nat), k ≤ 6 → k + n = 6 + 1 → ∀ (H : Heap) (locs : List Loc) (ls : Array Slot), mP G.1 (Mw) H → mI A (Mw) → va_S A s.heap H locs → lv_has ls 7 [(0, .ref (ad 0 0)), (1, .int p0), (2, .int (isum (fun i => if itS st i 0 = p0 then 1 else 0) (min k (nN st)))), (3, .ref (ad 2 0)), (4, .int 6), (5, .int (nI k))] → W p l e ({ frames := 0, cells := 0, slots := 0, locals := 0 }) s m ([.ref (ad 0 0), .int p0] : List Value).toArray below meth c H locs 0 0 (MQ below (va_Qi (fun r Mw1 => r = (isum (fun i => if itS st i 0 = p0 then 1 else 0) (nN st)) ∧ Mw1 = Mw) (mE G A) A) ([.ref (ad 0 0), .int p0] : List Value).toArray s 0 0 A) (F0 m 14 ls []) := by
    intro n
    induction n with
    | zero => intro k hk1 hk2; omega
    | succ n ih_loop =>
      intro k hk1 hk2 H locs ls hP hI hS hl
      refine lv_iload hx hb dX4_instrumentsOfTube_14 (lv_at hl 5 rfl) ?_
      refine lv_iload hx hb dX4_instrumentsOfTube_16 (lv_at hl 4 rfl) ?_
      refine lv_icmp_ge (tgt := 50) hx hb dX4_instrumentsOfTube_18 (by decide) (fun c1 => ?_) (fun c1 => ?_)
      · skip
        have hk3 : 6 ≤ k := (nI_leI (a := 6) (b := k) (by omega) (by omega)).mp c1
        refine lv_iload_n hx hb dX4_instrumentsOfTube_50 rfl (lv_at hl 2 rfl) ?_
        refine W.widen (k := 0) (n := 0) (Nat.le_of_ble_eq_true rfl) (Nat.le_of_ble_eq_true rfl) ?_
        exact W.iret (v := isum (fun i => if itS st i 0 = p0 then 1 else 0) (min k (nN st))) hx hb hr (fun t99 ht99 hW99 => ⟨⟨isum (fun i => if itS st i 0 = p0 then 1 else 0) (min k (nN st)), Mw, rfl, ⟨by rw [show min k (nN st) = nN st by have := hV.1.2; omega], rfl⟩, by rw [ht99]; exact hP, hI⟩, hS.F ht99⟩) hS.2.2 dX4_instrumentsOfTube_51
      · skip
        have hk3 : k < 6 := Nat.lt_of_not_le (fun q => c1 (nI_le (a := 6) q (by omega)))
        refine lv_aload_n hx hb dX4_instrumentsOfTube_21 rfl (lv_at hl 3 rfl) ?_
        refine lv_iload hx hb dX4_instrumentsOfTube_22 (lv_at hl 5 rfl) ?_
        refine m_aldq hx hb hK 4 (hP _ _ h_IA) rfl (vp_in_nI (by omega) (by omega)) dX4_instrumentsOfTube_24 ?_
        rw [nI_clamp (show k < 2 ^ 31 by omega)]
        rcases Nat.lt_or_ge k (nN st) with hj9 | hj9
        · rw [qf_p hj9]
          have hT9 := hV.tb hj9
          have hn9 := hV.rn hj9
          have hve := hC.ne (ok8 hj9) (ok9 hj9) (by omega)
          have hvb := hC.ne (ok8 hj9) (ok4 hT9) (by omega)
          have heb := hC.ne (ok9 hj9) (ok4 hT9) (by omega)
          have h_I : Mw (ad 5 k) = some (.inr (0, [.int (itS st k 0), .ref (ad 3 (tbN st k)), .int (itS st k 1), .int (itS st k 2), .ref (ad 6 k), .ref (ad 7 k), .int (itS st k 3), .int (itS st k 4), .int (itS st k 5), .int (itS st k 6), .int (itS st k 7), .int (itS st k 8), .int (itS st k 9), .int (itS st k 10), .int (itS st k 11)])) := hC.1 5 _ (ok5 hj9)
          have h_S : Mw (ad 6 k) = some (.inr (2, [.ref (ad 3 (tbN st k)), .int (itS st k 12), .int (itS st k 13), .int (itS st k 14), .int (itS st k 15)])) := hC.1 6 _ (ok6 hj9)
          have h_R : Mw (ad 7 k) = some (.inr (1, [.ref (ad 8 k), .ref (ad 9 k), .int (nI (rnS st k))])) := hC.1 7 _ (ok7 hj9)
          have h_V : Mw (ad 8 k) = some (.inl (G.2.1 0, 8, .inl (rvS st k))) := hC.1 8 _ (ok8 hj9)
          have h_E : Mw (ad 9 k) = some (.inl (G.2.1 0, 8, .inl (reS st k))) := hC.1 9 _ (ok9 hj9)
          have h_T : Mw (ad 3 (tbN st k)) = some (.inr (3, [.ref (ad 4 (tbN st k)), .int (usS st (tbN st k))])) := hC.1 3 _ (ok3 hT9)
          have h_B : Mw (ad 4 (tbN st k)) = some (.inl (G.2.1 0, 20, .inl (boS st (tbN st k)))) := hC.1 4 _ (ok4 hT9)
          refine lv_astore (lv' := [(6, .ref (ad 5 k)), (0, .ref (ad 0 0)), (1, .int p0), (2, .int (isum (fun i => if itS st i 0 = p0 then 1 else 0) (min k (nN st)))), (3, .ref (ad 2 0)), (4, .int 6), (5, .int (nI k))]) hx hb dX4_instrumentsOfTube_25 hl (by decide) rfl (fun ls hl => ?_)
          refine lv_aload hx hb dX4_instrumentsOfTube_27 (lv_at hl 0 rfl) ?_
          refine lv_ifnull hx hb dX4_instrumentsOfTube_29 ?_
          refine lv_aload hx hb dX4_instrumentsOfTube_32 (lv_at hl 0 rfl) ?_
          refine m_getN (ci := 0) (v := .int (itS st k 0)) (C := RX0) (T := TX0) (N := 15) hx hb hts i_X0 hown hK (hP _ _ h_I) rfl 0 (by decide) (va_Nw.use rfl (hG.2.1.2.1 ("Meniscus", 282, "Meniscus$Instrument", "tubeNumber", "I", "Meniscus") (by decide +kernel))) (fun _ h9 => h9) rfl dX4_instrumentsOfTube_34 ?_
          refine lv_iload_n hx hb dX4_instrumentsOfTube_37 rfl (lv_at hl 2 rfl) ?_
          refine lv_icmp_ne (tgt := 44) hx hb dX4_instrumentsOfTube_38 (by decide) (fun c2 => ?_) (fun c2 => ?_)
          · skip
            refine lv_iinc (v := (nI k) + 1) (lv' := [(5, .int ((nI k) + 1)), (6, .ref (ad 5 k)), (0, .ref (ad 0 0)), (1, .int p0), (2, .int (isum (fun i => if itS st i 0 = p0 then 1 else 0) (min k (nN st)))), (3, .ref (ad 2 0)), (4, .int 6)]) hx hb dX4_instrumentsOfTube_44 hl (k := 6) rfl rfl (by decide) rfl (fun ls hl => ?_)
            refine lv_goto (tgt := 14) hx hb dX4_instrumentsOfTube_47 (by decide) ?_
            have e_5 : (nI k) + 1 = nI (k + 1) := nI_1 k
            rw [e_5] at hl
            have e_2 : isum (fun i => if itS st i 0 = p0 then 1 else 0) (min k (nN st)) = isum (fun i => if itS st i 0 = p0 then 1 else 0) (min (k + 1) (nN st)) := by rw [is_p _ hj9]; simp only [if_neg c2, Int32.add_zero]
            rw [e_2] at hl
            exact ih_loop (k + 1) (by omega) (by omega) H locs ls hP hI hS (lv_sub hl [2, 3, 4, 5, 6, 0] rfl)
          · skip
            refine lv_iinc (v := (isum (fun i => if itS st i 0 = p0 then 1 else 0) (min k (nN st))) + 1) (lv' := [(2, .int ((isum (fun i => if itS st i 0 = p0 then 1 else 0) (min k (nN st))) + 1)), (6, .ref (ad 5 k)), (0, .ref (ad 0 0)), (1, .int p0), (3, .ref (ad 2 0)), (4, .int 6), (5, .int (nI k))]) hx hb dX4_instrumentsOfTube_41 hl (k := 3) rfl rfl (by decide) rfl (fun ls hl => ?_)
            refine lv_iinc (v := (nI k) + 1) (lv' := [(5, .int ((nI k) + 1)), (2, .int ((isum (fun i => if itS st i 0 = p0 then 1 else 0) (min k (nN st))) + 1)), (6, .ref (ad 5 k)), (0, .ref (ad 0 0)), (1, .int p0), (3, .ref (ad 2 0)), (4, .int 6)]) hx hb dX4_instrumentsOfTube_44 hl (k := 6) rfl rfl (by decide) rfl (fun ls hl => ?_)
            refine lv_goto (tgt := 14) hx hb dX4_instrumentsOfTube_47 (by decide) ?_
            have e_5 : (nI k) + 1 = nI (k + 1) := nI_1 k
            rw [e_5] at hl
            have e_2 : (isum (fun i => if itS st i 0 = p0 then 1 else 0) (min k (nN st))) + 1 = isum (fun i => if itS st i 0 = p0 then 1 else 0) (min (k + 1) (nN st)) := by rw [is_p _ hj9]; simp only [if_pos c2]
            rw [e_2] at hl
            exact ih_loop (k + 1) (by omega) (by omega) H locs ls hP hI hS (lv_sub hl [3, 4, 1, 5, 6, 0] rfl)
        · rw [qf_n hj9]
          refine lv_astoreN (lv' := [(6, .null), (0, .ref (ad 0 0)), (1, .int p0), (2, .int (isum (fun i => if itS st i 0 = p0 then 1 else 0) (min k (nN st)))), (3, .ref (ad 2 0)), (4, .int 6), (5, .int (nI k))]) hx hb dX4_instrumentsOfTube_25 hl (by decide) rfl (fun ls hl => ?_)
          refine lv_aloadN hx hb dX4_instrumentsOfTube_27 (lv_at hl 0 rfl) ?_
          refine lv_ifnullN (tgt := 44) hx hb dX4_instrumentsOfTube_29 (by decide) ?_
          refine lv_iinc (v := (nI k) + 1) (lv' := [(5, .int ((nI k) + 1)), (6, .null), (0, .ref (ad 0 0)), (1, .int p0), (2, .int (isum (fun i => if itS st i 0 = p0 then 1 else 0) (min k (nN st)))), (3, .ref (ad 2 0)), (4, .int 6)]) hx hb dX4_instrumentsOfTube_44 hl (k := 6) rfl rfl (by decide) rfl (fun ls hl => ?_)
          refine lv_goto (tgt := 14) hx hb dX4_instrumentsOfTube_47 (by decide) ?_
          have e_5 : (nI k) + 1 = nI (k + 1) := nI_1 k
          rw [e_5] at hl
          have e_2 : isum (fun i => if itS st i 0 = p0 then 1 else 0) (min k (nN st)) = isum (fun i => if itS st i 0 = p0 then 1 else 0) (min (k + 1) (nN st)) := (is_n _ hj9).symm
          rw [e_2] at hl
          exact ih_loop (k + 1) (by omega) (by omega) H locs ls hP hI hS (lv_sub hl [2, 3, 4, 5, 6, 0] rfl)
  exact loop (6 + 1 - 0) 0 (by omega) (by omega) _ _ _ hP hI hS (lv_sub hl [4, 5, 3, 2, 1, 0] rfl)

set_option maxHeartbeats 4000000 in
set_option maxRecDepth 100000 in
theorem c_X4_isSound (l : Launch) (G : mg) (A : Nat → Prop) (Mw : mw) (st : St) (ad : adr) (hC : CS G st ad Mw) (hV : Inv st) : Met l yX4_isSound wsX4_isSound ({ frames := 2, cells := 0, slots := 0, locals := 40 }) (va_Pc [.ref (ad 0 0)] (mB G A Mw)) (va_Qi (fun r Mw1 => r = (1) ∧ Mw1 = Mw) (mE G A) A) 0 0 A := by
  refine Met.ofW (cc := cX4_isSound) (maxL := 6) (ret := (some .boolean)) (by decide) rfl ?_
  intro p e s m args below meth c s₁ B hml hv
  obtain ⟨rfl, hG, hP, hI, hA⟩ := hv
  have hx := B.exec
  have hb := B.bytes
  have hr := B.returns
  have hts := atoms_spec (ws := wsX4_isSound) B.pre
  have hown : s.vm.findClass RX4 = some m.cls := findClass_of_methodNamed B.named
  have hlocks := B.notSynchronized
  have hK := hG.K
  have i_X0 : ∀ w ∈ wsX00, w ∈ wsX4_isSound := by decide +kernel
  have i_X4 : ∀ w ∈ wsX40, w ∈ wsX4_isSound := by decide +kernel
  have hS : va_S A s.heap s.heap [] := va_S.rf
  have hl := lv_entry ([.ref (ad 0 0)]) (n := 6) (Nat.le_of_ble_eq_true rfl)
  rw [lg_entry_eq]
  generalize (lg_sl ([.ref (ad 0 0)]) ++ List.replicate (6 - (lg_sl ([.ref (ad 0 0)])).length) Slot.unset).toArray = ls at hl ⊢
  have hl : lv_has ls 6 [(0, .ref (ad 0 0))] := hl
  have hP : mP G.1 Mw s.heap := hP
  have h_X : Mw (ad 0 0) = some (.inr (4, [.ref (ad 1 0), .ref (ad 2 0), .int (nI (nT st)), .int (nI (nN st)), .int (gS st 0), .int (gS st 1), .int (gS st 2), .int (gS st 3), .int (gS st 4)])) := hC.1 0 0 (ok0 st)
  have h_TA : Mw (ad 1 0) = some (.inl (G.2.1 3, 8, .inr (.inr (.inr (.inr (qf (nT st) (ad 3))))))) := hC.1 1 0 (ok1 st)
  have h_IA : Mw (ad 2 0) = some (.inl (G.2.1 4, 6, .inr (.inr (.inr (.inr (qf (nN st) (ad 5))))))) := hC.1 2 0 (ok2 st)
  have hta9 := hC.ne (ok1 st) (ok2 st) (by omega)
  refine lv_aload_n hx hb dX4_isSound_0 rfl (lv_at hl 0 rfl) ?_
  refine m_get (ci := 4) (v := .int (gS st 2)) (C := RX4) (T := TX4) (N := 9) hx hb hts i_X4 hown hK (hP _ _ h_X) rfl 6 (by decide) (hts (.fieldLink RX4 109 "Meniscus" "stock" "I") (by decide +kernel)) (fun _ h9 => h9) rfl dX4_isSound_1 ?_
  refine lv_aload_n hx hb dX4_isSound_4 rfl (lv_at hl 0 rfl) ?_
  refine m_get (ci := 4) (v := .int (gS st 3)) (C := RX4) (T := TX4) (N := 9) hx hb hts i_X4 hown hK (hP _ _ h_X) rfl 7 (by decide) (hts (.fieldLink RX4 142 "Meniscus" "spilt" "I") (by decide +kernel)) (fun _ h9 => h9) rfl dX4_isSound_5 ?_
  refine lv_iadd hx hb dX4_isSound_8 ?_
  refine lv_istore_n (lv' := [(1, .int ((gS st 2) + (gS st 3))), (0, .ref (ad 0 0))]) hx hb dX4_isSound_9 rfl hl (by decide) rfl (fun ls hl => ?_)
  refine lv_aload_n hx hb dX4_isSound_10 rfl (lv_at hl 1 rfl) ?_
  refine m_get (ci := 4) (v := .ref (ad 2 0)) (C := RX4) (T := TX4) (N := 9) hx hb hts i_X4 hown hK (hP _ _ h_X) rfl 1 (by decide) (hts (.fieldLink RX4 17 "Meniscus" "instruments" "[LMeniscus$Instrument;") (by decide +kernel)) (fun _ h9 => h9) rfl dX4_isSound_11 ?_
  refine lv_astore_n (lv' := [(2, .ref (ad 2 0)), (1, .int ((gS st 2) + (gS st 3))), (0, .ref (ad 0 0))]) hx hb dX4_isSound_14 rfl hl (by decide) rfl (fun ls hl => ?_)
  refine lv_aload_n hx hb dX4_isSound_15 rfl (lv_at hl 0 rfl) ?_
  refine m_alen (v := 6) hx hb hK 4 (hP _ _ h_IA) rfl rfl dX4_isSound_16 ?_
  refine lv_istore_n (lv' := [(3, .int 6), (2, .ref (ad 2 0)), (1, .int ((gS st 2) + (gS st 3))), (0, .ref (ad 0 0))]) hx hb dX4_isSound_17 rfl hl (by decide) rfl (fun ls hl => ?_)
  refine lv_iconst (v := 0) hx hb dX4_isSound_18 (by decide) ?_
  refine lv_istore (lv' := [(4, .int 0), (3, .int 6), (2, .ref (ad 2 0)), (1, .int ((gS st 2) + (gS st 3))), (0, .ref (ad 0 0))]) hx hb dX4_isSound_19 hl (by decide) rfl (fun ls hl => ?_)
  have loop : ∀ (n k : Nat), k ≤ 6 → k + n = 6 + 1 → ∀ (H : Heap) (locs : List Loc) (ls : Array Slot), mP G.1 (Mw) H → mI A (Mw) → va_S A s.heap H locs → lv_has ls 6 [(0, .ref (ad 0 0)), (1, .int (gS st 2 + gS st 3 + hgS st (min k (nN st)))), (2, .ref (ad 2 0)), (3, .int 6), (4, .int (nI k))] → W p l e ({ frames := 2, cells := 0, slots := 0, locals := 40 }) s m ([.ref (ad 0 0)] : List Value).toArray below meth c H locs 0 0 (MQ below (va_Qi (fun r Mw1 => r = (1) ∧ Mw1 = Mw) (mE G A) A) ([.ref (ad 0 0)] : List Value).toArray s 0 0 A) (F0 m 21 ls []) := by
    intro n
    induction n with
    | zero => intro k hk1 hk2; omega
    | succ n ih_loop =>
      intro k hk1 hk2 H locs ls hP hI hS hl
      refine lv_iload hx hb dX4_isSound_21 (lv_at hl 4 rfl) ?_
      refine lv_iload_n hx hb dX4_isSound_23 rfl (lv_at hl 3 rfl) ?_
      refine lv_icmp_ge (tgt := 78) hx hb dX4_isSound_24 (by decide) (fun c1 => ?_) (fun c1 => ?_)
      · skip
        have hk3 : 6 ≤ k := (nI_leI (a := 6) (b := k) (by omega) (by omega)).mp c1
        refine lv_iload_n hx hb dX4_isSound_78 rfl (lv_at hl 1 rfl) ?_
        refine lv_aload_n hx hb dX4_isSound_79 rfl (lv_at hl 0 rfl) ?_
        refine m_get (ci := 4) (v := .int (gS st 4)) (C := RX4) (T := TX4) (N := 9) hx hb hts i_X4 hown hK (hP _ _ h_X) rfl 8 (by decide) (hts (.fieldLink RX4 106 "Meniscus" "bought" "I") (by decide +kernel)) (fun _ h9 => h9) rfl dX4_isSound_80 ?_
        refine lv_icmp_ne (tgt := 90) hx hb dX4_isSound_83 (by decide) (fun c2 => absurd c2 (fun q9 => q9 (by have h8 := hV.2.2.2.2; rw [show min k (nN st) = nN st by have := hV.1.2; omega]; exact h8))) (fun c2 => ?_)
        refine lv_iconst (v := 1) hx hb dX4_isSound_86 (by decide) ?_
        refine lv_goto (tgt := 91) hx hb dX4_isSound_87 (by decide) ?_
        refine W.widen (k := 0) (n := 0) (Nat.le_of_ble_eq_true rfl) (Nat.le_of_ble_eq_true rfl) ?_
        exact W.zret (v := 1) hx hb hr rfl (fun t99 ht99 hW99 => ⟨⟨1, Mw, rfl, ⟨rfl, rfl⟩, by rw [ht99]; exact hP, hI⟩, hS.F ht99⟩) hS.2.2 dX4_isSound_91
      · skip
        have hk3 : k < 6 := Nat.lt_of_not_le (fun q => c1 (nI_le (a := 6) q (by omega)))
        refine lv_aload_n hx hb dX4_isSound_27 rfl (lv_at hl 2 rfl) ?_
        refine lv_iload hx hb dX4_isSound_28 (lv_at hl 4 rfl) ?_
        refine m_aldq hx hb hK 4 (hP _ _ h_IA) rfl (vp_in_nI (by omega) (by omega)) dX4_isSound_30 ?_
        rw [nI_clamp (show k < 2 ^ 31 by omega)]
        rcases Nat.lt_or_ge k (nN st) with hj9 | hj9
        · rw [qf_p hj9]
          have hT9 := hV.tb hj9
          have hn9 := hV.rn hj9
          have hve := hC.ne (ok8 hj9) (ok9 hj9) (by omega)
          have hvb := hC.ne (ok8 hj9) (ok4 hT9) (by omega)
          have heb := hC.ne (ok9 hj9) (ok4 hT9) (by omega)
          have h_I : Mw (ad 5 k) = some (.inr (0, [.int (itS st k 0), .ref (ad 3 (tbN st k)), .int (itS st k 1), .int (itS st k 2), .ref (ad 6 k), .ref (ad 7 k), .int (itS st k 3), .int (itS st k 4), .int (itS st k 5), .int (itS st k 6), .int (itS st k 7), .int (itS st k 8), .int (itS st k 9), .int (itS st k 10), .int (itS st k 11)])) := hC.1 5 _ (ok5 hj9)
          have h_S : Mw (ad 6 k) = some (.inr (2, [.ref (ad 3 (tbN st k)), .int (itS st k 12), .int (itS st k 13), .int (itS st k 14), .int (itS st k 15)])) := hC.1 6 _ (ok6 hj9)
          have h_R : Mw (ad 7 k) = some (.inr (1, [.ref (ad 8 k), .ref (ad 9 k), .int (nI (rnS st k))])) := hC.1 7 _ (ok7 hj9)
          have h_V : Mw (ad 8 k) = some (.inl (G.2.1 0, 8, .inl (rvS st k))) := hC.1 8 _ (ok8 hj9)
          have h_E : Mw (ad 9 k) = some (.inl (G.2.1 0, 8, .inl (reS st k))) := hC.1 9 _ (ok9 hj9)
          have h_T : Mw (ad 3 (tbN st k)) = some (.inr (3, [.ref (ad 4 (tbN st k)), .int (usS st (tbN st k))])) := hC.1 3 _ (ok3 hT9)
          have h_B : Mw (ad 4 (tbN st k)) = some (.inl (G.2.1 0, 20, .inl (boS st (tbN st k)))) := hC.1 4 _ (ok4 hT9)
          refine lv_astore (lv' := [(5, .ref (ad 5 k)), (0, .ref (ad 0 0)), (1, .int (gS st 2 + gS st 3 + hgS st (min k (nN st)))), (2, .ref (ad 2 0)), (3, .int 6), (4, .int (nI k))]) hx hb dX4_isSound_31 hl (by decide) rfl (fun ls hl => ?_)
          refine lv_aload hx hb dX4_isSound_33 (lv_at hl 0 rfl) ?_
          refine lv_ifnonnull (tgt := 41) hx hb dX4_isSound_35 (by decide) ?_
          refine lv_iload_n hx hb dX4_isSound_41 rfl (lv_at hl 2 rfl) ?_
          refine lv_aload hx hb dX4_isSound_42 (lv_at hl 0 rfl) ?_
          refine m_calli (va_runV (As := []) (rest := [.int (gS st 2 + gS st 3 + hgS st (min k (nN st)))]) ⟨hx, hb, hml, hown, hts⟩ (c_X0_mercuryInside l G A Mw  h_I) (cwV 0 hts gX4_isSound_X0_mercuryInside rfl rfl rfl (by decide +kernel) ⟨Nat.le_of_ble_eq_true rfl, Nat.le_of_ble_eq_true rfl⟩) (mPreV hG hS hP hI hA (hP _ _ h_I) (r := (RX0, TX0, 15)) rfl) rfl rfl hl.1 rfl (lv_room (Nat.le_of_ble_eq_true rfl)) dX4_isSound_44 ⟨Nat.le_of_ble_eq_true rfl, Nat.le_of_ble_eq_true rfl⟩) hS (fun r3 Mw1 H locs hp_r3 hP hI hS => ?_)
          obtain ⟨hp_r3, hm9⟩ := hp_r3
          subst Mw1
          refine lv_iadd hx hb dX4_isSound_47 ?_
          refine lv_istore_n (lv' := [(1, .int ((gS st 2 + gS st 3 + hgS st (min k (nN st))) + r3)), (5, .ref (ad 5 k)), (0, .ref (ad 0 0)), (2, .ref (ad 2 0)), (3, .int 6), (4, .int (nI k))]) hx hb dX4_isSound_48 rfl hl (by decide) rfl (fun ls hl => ?_)
          refine lv_aload hx hb dX4_isSound_49 (lv_at hl 1 rfl) ?_
          refine m_calli (va_runV (As := []) (rest := []) ⟨hx, hb, hml, hown, hts⟩ (c_X0_isInBounds l G A Mw  h_I h_R) (cwV 0 hts gX4_isSound_X0_isInBounds rfl rfl rfl (by decide +kernel) ⟨Nat.le_of_ble_eq_true rfl, Nat.le_of_ble_eq_true rfl⟩) (mPreV hG hS hP hI hA (hP _ _ h_I) (r := (RX0, TX0, 15)) rfl) rfl rfl hl.1 rfl (lv_room (Nat.le_of_ble_eq_true rfl)) dX4_isSound_51 ⟨Nat.le_of_ble_eq_true rfl, Nat.le_of_ble_eq_true rfl⟩) hS (fun r4 Mw1 H locs hp_r4 hP hI hS => ?_)
          obtain ⟨hp_r4, hm9⟩ := hp_r4
          subst Mw1
          refine lv_if_eq (tgt := 70) hx hb dX4_isSound_54 (by decide) (fun c5 => absurd c5 (by rw [hp_r4, hV.bnd hj9]; decide)) (fun c5 => ?_)
          refine lv_aload_n hx hb dX4_isSound_57 rfl (lv_at hl 2 rfl) ?_
          refine lv_aload hx hb dX4_isSound_58 (lv_at hl 1 rfl) ?_
          refine m_getN (ci := 0) (v := .int (itS st k 0)) (C := RX0) (T := TX0) (N := 15) hx hb hts i_X0 hown hK (hP _ _ h_I) rfl 0 (by decide) (va_Nw.use rfl (hG.2.1.2.1 ("Meniscus", 282, "Meniscus$Instrument", "tubeNumber", "I", "Meniscus") (by decide +kernel))) (fun _ h9 => h9) rfl dX4_isSound_60 ?_
          refine m_calli (va_runV (As := [.int (itS st k 0)]) (rest := []) ⟨hx, hb, hml, hown, hts⟩ (c_X4_instrumentsOfTube l G A Mw  (itS st k 0) st ad hC hV) (cwV 1 hts gX4_isSound_X4_instrumentsOfTube rfl rfl rfl (by decide +kernel) ⟨Nat.le_of_ble_eq_true rfl, Nat.le_of_ble_eq_true rfl⟩) (mPreV hG hS hP hI hA (hP _ _ h_X) (r := (RX4, TX4, 9)) rfl) rfl rfl hl.1 rfl (lv_room (Nat.le_of_ble_eq_true rfl)) dX4_isSound_63 ⟨Nat.le_of_ble_eq_true rfl, Nat.le_of_ble_eq_true rfl⟩) hS (fun r6 Mw1 H locs hp_r6 hP hI hS => ?_)
          obtain ⟨hp_r6, hm9⟩ := hp_r6
          subst Mw1
          refine lv_iconst (v := 1) hx hb dX4_isSound_66 (by decide) ?_
          refine lv_icmp_le (tgt := 72) hx hb dX4_isSound_67 (by decide) (fun c7 => ?_) (fun c7 => absurd c7 (by rw [hp_r6]; exact fun q9 => q9 (hV.one k hj9)))
          refine lv_iinc (v := (nI k) + 1) (lv' := [(4, .int ((nI k) + 1)), (1, .int ((gS st 2 + gS st 3 + hgS st (min k (nN st))) + r3)), (5, .ref (ad 5 k)), (0, .ref (ad 0 0)), (2, .ref (ad 2 0)), (3, .int 6)]) hx hb dX4_isSound_72 hl (k := 5) rfl rfl (by decide) rfl (fun ls hl => ?_)
          refine lv_goto (tgt := 21) hx hb dX4_isSound_75 (by decide) ?_
          have e_4 : (nI k) + 1 = nI (k + 1) := nI_1 k
          rw [e_4] at hl
          have e_1 : (gS st 2 + gS st 3 + hgS st (min k (nN st))) + r3 = gS st 2 + gS st 3 + hgS st (min (k + 1) (nN st)) := by rw [hp_r3]; unfold hgS; rw [is_p _ hj9]; exact Int32.add_assoc _ _ _
          rw [e_1] at hl
          exact ih_loop (k + 1) (by omega) (by omega) H locs ls hP hI hS (lv_sub hl [3, 1, 4, 5, 0] rfl)
        · rw [qf_n hj9]
          refine lv_astoreN (lv' := [(5, .null), (0, .ref (ad 0 0)), (1, .int (gS st 2 + gS st 3 + hgS st (min k (nN st)))), (2, .ref (ad 2 0)), (3, .int 6), (4, .int (nI k))]) hx hb dX4_isSound_31 hl (by decide) rfl (fun ls hl => ?_)
          refine lv_aloadN hx hb dX4_isSound_33 (lv_at hl 0 rfl) ?_
          refine lv_ifnonnullN hx hb dX4_isSound_35 ?_
          refine lv_goto (tgt := 72) hx hb dX4_isSound_38 (by decide) ?_
          refine lv_iinc (v := (nI k) + 1) (lv' := [(4, .int ((nI k) + 1)), (5, .null), (0, .ref (ad 0 0)), (1, .int (gS st 2 + gS st 3 + hgS st (min k (nN st)))), (2, .ref (ad 2 0)), (3, .int 6)]) hx hb dX4_isSound_72 hl (k := 5) rfl rfl (by decide) rfl (fun ls hl => ?_)
          refine lv_goto (tgt := 21) hx hb dX4_isSound_75 (by decide) ?_
          have e_4 : (nI k) + 1 = nI (k + 1) := nI_1 k
          rw [e_4] at hl
          have e_1 : gS st 2 + gS st 3 + hgS st (min k (nN st)) = gS st 2 + gS st 3 + hgS st (min (k + 1) (nN st)) := by unfold hgS; rw [is_n _ hj9]
          rw [e_1] at hl
          exact ih_loop (k + 1) (by omega) (by omega) H locs ls hP hI hS (lv_sub hl [2, 3, 4, 5, 0] rfl)
  have e0_1 : ((gS st 2) + (gS st 3) : Int32) = gS st 2 + gS st 3 + hgS st (min 0 (nN st)) := (Int32.add_zero _).symm
  rw [show lv_has ls 6 [(4, .int 0), (3, .int 6), (2, .ref (ad 2 0)), (1, .int ((gS st 2) + (gS st 3))), (0, .ref (ad 0 0))] = lv_has ls 6 [(4, .int 0), (3, .int 6), (2, .ref (ad 2 0)), (1, .int (gS st 2 + gS st 3 + hgS st (min 0 (nN st)))), (0, .ref (ad 0 0))] from by rw [← e0_1]] at hl
  exact loop (6 + 1 - 0) 0 (by omega) (by omega) _ _ _ hP hI hS (lv_sub hl [4, 3, 2, 1, 0] rfl)

