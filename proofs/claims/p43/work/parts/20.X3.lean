set_option maxHeartbeats 4000000 in
set_option maxRecDepth 100000 in
theorem c_X3_stepsBelow (l : Launch) (G : mg) (A : Nat → Prop) (Mw : mw) (p0 p1 : Int32) : Met l yX3_stepsBelow wsX3_stepsBelow ({ frames := 1, cells := 0, slots := 0, locals := 21 }) (va_Pc [.int p0, .int p1] (mB G A Mw)) (va_Qi (fun r Mw1 => r = (stp p0 p1) ∧ Mw1 = Mw) (mE G A) A) 0 0 A := by
  refine Met.ofW (cc := cX3_stepsBelow) (maxL := 2) (ret := (some .int)) (by decide) rfl ?_
  intro p e s m args below meth c s₁ B hml hv
  obtain ⟨rfl, hG, hP, hI, hA⟩ := hv
  have hx := B.exec
  have hb := B.bytes
  have hr := B.returns
  have hts := atoms_spec (ws := wsX3_stepsBelow) B.pre
  have hown : s.vm.findClass RX3 = some m.cls := findClass_of_methodNamed B.named
  have hlocks := B.notSynchronized
  have hK := hG.K
  have hS : va_S A s.heap s.heap [] := va_S.rf
  have hl := lv_entry ([.int p0, .int p1]) (n := 2) (Nat.le_of_ble_eq_true rfl)
  rw [lg_entry_eq]
  generalize (lg_sl ([.int p0, .int p1]) ++ List.replicate (2 - (lg_sl ([.int p0, .int p1])).length) Slot.unset).toArray = ls at hl ⊢
  have hl : lv_has ls 2 [(0, .int p0), (1, .int p1)] := hl
  have hP : mP G.1 Mw s.heap := hP
  refine lv_iconst (v := 0) hx hb dX3_stepsBelow_0 (by decide) ?_
  refine lv_bipush (v := (10)) hx hb dX3_stepsBelow_1 (by decide) ?_
  refine lv_iload_n hx hb dX3_stepsBelow_3 rfl (lv_at hl 0 rfl) ?_
  refine lv_iload_n hx hb dX3_stepsBelow_4 rfl (lv_at hl 1 rfl) ?_
  refine lv_bipush (v := (10)) hx hb dX3_stepsBelow_5 (by decide) ?_
  refine lv_imul hx hb dX3_stepsBelow_7 ?_
  refine lv_isub hx hb dX3_stepsBelow_8 ?_
  refine va_mmin hx hb (hml.trans hl.1.symm) hown (hts (.methodLink RX3 15 Lib.Math.min.name) (by decide +kernel)) (hts (.static Lib.Math.min.name) (by decide +kernel)) (hts (.initialized "java/lang/Math") (by decide +kernel)) (hts (.code Lib.Math.min.name Lib.Math.min.code 2 (some .int)) (by decide +kernel)) (Nat.le_of_ble_eq_true rfl) (Nat.le_of_ble_eq_true rfl) (Nat.le_of_ble_eq_true rfl) (Nat.le_of_ble_eq_true rfl) dX3_stepsBelow_9 ?_
  refine va_mmax hx hb (hml.trans hl.1.symm) hown (hts (.methodLink RX3 21 Lib.Math.max.name) (by decide +kernel)) (hts (.static Lib.Math.max.name) (by decide +kernel)) (hts (.initialized "java/lang/Math") (by decide +kernel)) (hts (.code Lib.Math.max.name Lib.Math.max.code 2 (some .int)) (by decide +kernel)) (Nat.le_of_ble_eq_true rfl) (Nat.le_of_ble_eq_true rfl) (Nat.le_of_ble_eq_true rfl) (Nat.le_of_ble_eq_true rfl) dX3_stepsBelow_12 ?_
  refine W.widen (k := 0) (n := 0) (Nat.le_of_ble_eq_true rfl) (Nat.le_of_ble_eq_true rfl) ?_
  exact W.iret (v := m_max 0 (m_min 10 (p0 - (p1 * 10)))) hx hb hr (fun t99 ht99 hW99 => ⟨⟨m_max 0 (m_min 10 (p0 - (p1 * 10))), Mw, rfl, ⟨rfl, rfl⟩, by rw [ht99]; exact hP, hI⟩, hS.F ht99⟩) hS.2.2 dX3_stepsBelow_15

set_option maxHeartbeats 4000000 in
set_option maxRecDepth 100000 in
theorem c_X3_volumeUpTo (l : Launch) (G : mg) (A : Nat → Prop) (Mw : mw) (p0 : Int32) {t0 b0 : Nat} {us0 : Int32} {bf : Nat → Int32} (h_T : Mw t0 = some (.inr (3, [.ref b0, .int us0]))) (h_B : Mw b0 = some (.inl (G.2.1 0, 20, .inl bf))) : Met l yX3_volumeUpTo wsX3_volumeUpTo ({ frames := 2, cells := 0, slots := 0, locals := 42 }) (va_Pc [.ref t0, .int p0] (mB G A Mw)) (va_Qi (fun r Mw1 => r = (vsum bf p0 20) ∧ Mw1 = Mw) (mE G A) A) 0 0 A := by
  refine Met.ofW (cc := cX3_volumeUpTo) (maxL := 4) (ret := (some .int)) (by decide) rfl ?_
  intro p e s m args below meth c s₁ B hml hv
  obtain ⟨rfl, hG, hP, hI, hA⟩ := hv
  have hx := B.exec
  have hb := B.bytes
  have hr := B.returns
  have hts := atoms_spec (ws := wsX3_volumeUpTo) B.pre
  have hown : s.vm.findClass RX3 = some m.cls := findClass_of_methodNamed B.named
  have hlocks := B.notSynchronized
  have hK := hG.K
  have i_X3 : ∀ w ∈ wsX30, w ∈ wsX3_volumeUpTo := by decide +kernel
  have hS : va_S A s.heap s.heap [] := va_S.rf
  have hl := lv_entry ([.ref t0, .int p0]) (n := 4) (Nat.le_of_ble_eq_true rfl)
  rw [lg_entry_eq]
  generalize (lg_sl ([.ref t0, .int p0]) ++ List.replicate (4 - (lg_sl ([.ref t0, .int p0])).length) Slot.unset).toArray = ls at hl ⊢
  have hl : lv_has ls 4 [(0, .ref t0), (1, .int p0)] := hl
  have hP : mP G.1 Mw s.heap := hP
  refine lv_iconst (v := 0) hx hb dX3_volumeUpTo_0 (by decide) ?_
  refine lv_istore_n (lv' := [(2, .int 0), (0, .ref t0), (1, .int p0)]) hx hb dX3_volumeUpTo_1 rfl hl (by decide) rfl (fun ls hl => ?_)
  refine lv_iconst (v := 0) hx hb dX3_volumeUpTo_2 (by decide) ?_
  refine lv_istore_n (lv' := [(3, .int 0), (2, .int 0), (0, .ref t0), (1, .int p0)]) hx hb dX3_volumeUpTo_3 rfl hl (by decide) rfl (fun ls hl => ?_)
  have loop : ∀ (n k : Nat), k ≤ 20 → k + n = 20 + 1 → ∀ (H : Heap) (locs : List Loc) (ls : Array Slot), mP G.1 (Mw) H → mI A (Mw) → va_S A s.heap H locs → lv_has ls 4 [(0, .ref t0), (1, .int p0), (2, .int (vsum bf p0 k)), (3, .int (nI k))] → W p l e ({ frames := 2, cells := 0, slots := 0, locals := 42 }) s m ([.ref t0, .int p0] : List Value).toArray below meth c H locs 0 0 (MQ below (va_Qi (fun r Mw1 => r = (vsum bf p0 20) ∧ Mw1 = Mw) (mE G A) A) ([.ref t0, .int p0] : List Value).toArray s 0 0 A) (F0 m 4 ls []) := by
    intro n
    induction n with
    | zero => intro k hk1 hk2; omega
    | succ n ih_loop =>
      intro k hk1 hk2 H locs ls hP hI hS hl
      refine lv_iload_n hx hb dX3_volumeUpTo_4 rfl (lv_at hl 3 rfl) ?_
      refine lv_aload_n hx hb dX3_volumeUpTo_5 rfl (lv_at hl 0 rfl) ?_
      refine m_get (ci := 3) (v := .ref b0) (C := RX3) (T := TX3) (N := 2) hx hb hts i_X3 hown hK (hP _ _ h_T) rfl 0 (by decide) (hts (.fieldLink RX3 9 "Meniscus$Tube" "bores" "[I") (by decide +kernel)) (fun _ h9 => h9) rfl dX3_volumeUpTo_6 ?_
      refine m_alen (v := 20) hx hb hK 0 (hP _ _ h_B) rfl rfl dX3_volumeUpTo_9 ?_
      refine lv_icmp_ge (tgt := 34) hx hb dX3_volumeUpTo_10 (by decide) (fun c1 => ?_) (fun c1 => ?_)
      · skip
        have hk3 : 20 ≤ k := (nI_leI (a := 20) (b := k) (by omega) (by omega)).mp c1
        refine lv_iload_n hx hb dX3_volumeUpTo_34 rfl (lv_at hl 2 rfl) ?_
        refine W.widen (k := 0) (n := 0) (Nat.le_of_ble_eq_true rfl) (Nat.le_of_ble_eq_true rfl) ?_
        exact W.iret (v := vsum bf p0 k) hx hb hr (fun t99 ht99 hW99 => ⟨⟨vsum bf p0 k, Mw, rfl, ⟨by rw [show k = 20 by omega], rfl⟩, by rw [ht99]; exact hP, hI⟩, hS.F ht99⟩) hS.2.2 dX3_volumeUpTo_35
      · skip
        have hk3 : k < 20 := Nat.lt_of_not_le (fun q => c1 (nI_le (a := 20) q (by omega)))
        refine lv_iload_n hx hb dX3_volumeUpTo_13 rfl (lv_at hl 2 rfl) ?_
        refine lv_aload_n hx hb dX3_volumeUpTo_14 rfl (lv_at hl 0 rfl) ?_
        refine m_get (ci := 3) (v := .ref b0) (C := RX3) (T := TX3) (N := 2) hx hb hts i_X3 hown hK (hP _ _ h_T) rfl 0 (by decide) (hts (.fieldLink RX3 9 "Meniscus$Tube" "bores" "[I") (by decide +kernel)) (fun _ h9 => h9) rfl dX3_volumeUpTo_15 ?_
        refine lv_iload_n hx hb dX3_volumeUpTo_18 rfl (lv_at hl 3 rfl) ?_
        refine m_iald hx hb hK 0 (hP _ _ h_B) rfl (vp_in_nI (by omega) (by omega)) dX3_volumeUpTo_19 ?_
        rw [nI_clamp (show k < 2 ^ 31 by omega)]
        refine lv_iload_n hx hb dX3_volumeUpTo_20 rfl (lv_at hl 1 rfl) ?_
        refine lv_iload_n hx hb dX3_volumeUpTo_21 rfl (lv_at hl 3 rfl) ?_
        refine m_calli (va_runS (As := [.int p0, .int (nI k)]) (rest := [.int (bf k), .int (vsum bf p0 k)]) ⟨hx, hb, hml, hown, hts⟩ (c_X3_stepsBelow l G A Mw  p0 (nI k)) (va_cwS 2 hts gX3_volumeUpTo_X3_stepsBelow rfl rfl rfl (by decide +kernel) ⟨Nat.le_of_ble_eq_true rfl, Nat.le_of_ble_eq_true rfl⟩) (mPreS hG hS hP hI hA) rfl rfl hl.1 rfl (lv_room (Nat.le_of_ble_eq_true rfl)) dX3_volumeUpTo_22 ⟨Nat.le_of_ble_eq_true rfl, Nat.le_of_ble_eq_true rfl⟩) hS (fun r2 Mw1 H locs hp_r2 hP hI hS => ?_)
        obtain ⟨hp_r2, hm9⟩ := hp_r2
        subst Mw1
        refine lv_imul hx hb dX3_volumeUpTo_25 ?_
        refine lv_iadd hx hb dX3_volumeUpTo_26 ?_
        refine lv_istore_n (lv' := [(2, .int ((vsum bf p0 k) + ((bf k) * r2))), (0, .ref t0), (1, .int p0), (3, .int (nI k))]) hx hb dX3_volumeUpTo_27 rfl hl (by decide) rfl (fun ls hl => ?_)
        refine lv_iinc (v := (nI k) + 1) (lv' := [(3, .int ((nI k) + 1)), (2, .int ((vsum bf p0 k) + ((bf k) * r2))), (0, .ref t0), (1, .int p0)]) hx hb dX3_volumeUpTo_28 hl (k := 3) rfl rfl (by decide) rfl (fun ls hl => ?_)
        refine lv_goto (tgt := 4) hx hb dX3_volumeUpTo_31 (by decide) ?_
        have e_3 : (nI k) + 1 = nI (k + 1) := nI_1 k
        rw [e_3] at hl
        have e_2 : (vsum bf p0 k) + ((bf k) * r2) = vsum bf p0 (k + 1) := by rw [hp_r2]; rfl
        rw [e_2] at hl
        exact ih_loop (k + 1) (by omega) (by omega) H locs ls hP hI hS (lv_sub hl [2, 3, 1, 0] rfl)
  exact loop (20 + 1 - 0) 0 (by omega) (by omega) _ _ _ hP hI hS (lv_sub hl [2, 3, 1, 0] rfl)

set_option maxHeartbeats 4000000 in
set_option maxRecDepth 100000 in
theorem c_X3_boreOf (l : Launch) (G : mg) (A : Nat → Prop) (Mw : mw) (p0 : Int32) {t0 b0 : Nat} {us0 : Int32} {bf : Nat → Int32} (h_T : Mw t0 = some (.inr (3, [.ref b0, .int us0]))) (h_B : Mw b0 = some (.inl (G.2.1 0, 20, .inl bf))) : Met l yX3_boreOf wsX3_boreOf ({ frames := 0, cells := 0, slots := 0, locals := 0 }) (va_Pc [.ref t0, .int p0] (mB G A Mw)) (va_Qi (fun r Mw1 => r = (brO bf p0) ∧ Mw1 = Mw) (mE G A) A) 0 0 A := by
  refine Met.ofW (cc := cX3_boreOf) (maxL := 2) (ret := (some .int)) (by decide) rfl ?_
  intro p e s m args below meth c s₁ B hml hv
  obtain ⟨rfl, hG, hP, hI, hA⟩ := hv
  have hx := B.exec
  have hb := B.bytes
  have hr := B.returns
  have hts := atoms_spec (ws := wsX3_boreOf) B.pre
  have hown : s.vm.findClass RX3 = some m.cls := findClass_of_methodNamed B.named
  have hlocks := B.notSynchronized
  have hK := hG.K
  have i_X3 : ∀ w ∈ wsX30, w ∈ wsX3_boreOf := by decide +kernel
  have hS : va_S A s.heap s.heap [] := va_S.rf
  have hl := lv_entry ([.ref t0, .int p0]) (n := 2) (Nat.le_of_ble_eq_true rfl)
  rw [lg_entry_eq]
  generalize (lg_sl ([.ref t0, .int p0]) ++ List.replicate (2 - (lg_sl ([.ref t0, .int p0])).length) Slot.unset).toArray = ls at hl ⊢
  have hl : lv_has ls 2 [(0, .ref t0), (1, .int p0)] := hl
  have hP : mP G.1 Mw s.heap := hP
  refine lv_iload_n hx hb dX3_boreOf_0 rfl (lv_at hl 1 rfl) ?_
  refine lv_if_lt (tgt := 22) hx hb dX3_boreOf_1 (by decide) (fun c1 => ?_) (fun c1 => ?_)
  · skip
    refine lv_iconst (v := 0) hx hb dX3_boreOf_22 (by decide) ?_
    refine W.widen (k := 0) (n := 0) (Nat.le_of_ble_eq_true rfl) (Nat.le_of_ble_eq_true rfl) ?_
    exact W.iret (v := 0) hx hb hr (fun t99 ht99 hW99 => ⟨⟨0, Mw, rfl, ⟨by simp [brO, c1], rfl⟩, by rw [ht99]; exact hP, hI⟩, hS.F ht99⟩) hS.2.2 dX3_boreOf_23
  · skip
    refine lv_iload_n hx hb dX3_boreOf_4 rfl (lv_at hl 1 rfl) ?_
    refine lv_aload_n hx hb dX3_boreOf_5 rfl (lv_at hl 0 rfl) ?_
    refine m_get (ci := 3) (v := .ref b0) (C := RX3) (T := TX3) (N := 2) hx hb hts i_X3 hown hK (hP _ _ h_T) rfl 0 (by decide) (hts (.fieldLink RX3 9 "Meniscus$Tube" "bores" "[I") (by decide +kernel)) (fun _ h9 => h9) rfl dX3_boreOf_6 ?_
    refine m_alen (v := 20) hx hb hK 0 (hP _ _ h_B) rfl rfl dX3_boreOf_9 ?_
    refine lv_icmp_ge (tgt := 22) hx hb dX3_boreOf_10 (by decide) (fun c2 => ?_) (fun c2 => ?_)
    · skip
      refine lv_iconst (v := 0) hx hb dX3_boreOf_22 (by decide) ?_
      refine W.widen (k := 0) (n := 0) (Nat.le_of_ble_eq_true rfl) (Nat.le_of_ble_eq_true rfl) ?_
      exact W.iret (v := 0) hx hb hr (fun t99 ht99 hW99 => ⟨⟨0, Mw, rfl, ⟨by simp [brO, c1, c2], rfl⟩, by rw [ht99]; exact hP, hI⟩, hS.F ht99⟩) hS.2.2 dX3_boreOf_23
    · skip
      refine lv_aload_n hx hb dX3_boreOf_13 rfl (lv_at hl 0 rfl) ?_
      refine m_get (ci := 3) (v := .ref b0) (C := RX3) (T := TX3) (N := 2) hx hb hts i_X3 hown hK (hP _ _ h_T) rfl 0 (by decide) (hts (.fieldLink RX3 9 "Meniscus$Tube" "bores" "[I") (by decide +kernel)) (fun _ h9 => h9) rfl dX3_boreOf_14 ?_
      refine lv_iload_n hx hb dX3_boreOf_17 rfl (lv_at hl 1 rfl) ?_
      refine m_iald hx hb hK 0 (hP _ _ h_B) rfl (vin_of c1 (by omega) c2) dX3_boreOf_18 ?_
      refine lv_goto (tgt := 23) hx hb dX3_boreOf_19 (by decide) ?_
      refine W.widen (k := 0) (n := 0) (Nat.le_of_ble_eq_true rfl) (Nat.le_of_ble_eq_true rfl) ?_
      exact W.iret (v := bf p0.toNatClampNeg) hx hb hr (fun t99 ht99 hW99 => ⟨⟨bf p0.toNatClampNeg, Mw, rfl, ⟨by simp [brO, c1, c2], rfl⟩, by rw [ht99]; exact hP, hI⟩, hS.F ht99⟩) hS.2.2 dX3_boreOf_23

set_option maxHeartbeats 4000000 in
set_option maxRecDepth 100000 in
theorem c_X3_setBore (l : Launch) (G : mg) (A : Nat → Prop) (Mw : mw) (p0 p1 : Int32) (hlo : ¬ p0 < 0) (hhi : ¬ 20 ≤ p0) {t0 b0 : Nat} {us0 : Int32} {bf : Nat → Int32} (h_T : Mw t0 = some (.inr (3, [.ref b0, .int us0]))) (h_B : Mw b0 = some (.inl (G.2.1 0, 20, .inl bf))) : Met l yX3_setBore wsX3_setBore ({ frames := 0, cells := 0, slots := 0, locals := 0 }) (va_Pc [.ref t0, .int p0, .int p1] (mB G A Mw)) (va_Qv (fun Mw1 => Mw1 = mu Mw b0 (.inl (G.2.1 0, 20, .inl (upd bf p0.toNatClampNeg p1)))) (mE G A) A) 0 0 A := by
  refine Met.ofW (cc := cX3_setBore) (maxL := 3) (ret := none) (by decide) rfl ?_
  intro p e s m args below meth c s₁ B hml hv
  obtain ⟨rfl, hG, hP, hI, hA⟩ := hv
  have hx := B.exec
  have hb := B.bytes
  have hr := B.returns
  have hts := atoms_spec (ws := wsX3_setBore) B.pre
  have hown : s.vm.findClass RX3 = some m.cls := findClass_of_methodNamed B.named
  have hlocks := B.notSynchronized
  have hK := hG.K
  have i_X3 : ∀ w ∈ wsX30, w ∈ wsX3_setBore := by decide +kernel
  have hS : va_S A s.heap s.heap [] := va_S.rf
  have hl := lv_entry ([.ref t0, .int p0, .int p1]) (n := 3) (Nat.le_of_ble_eq_true rfl)
  rw [lg_entry_eq]
  generalize (lg_sl ([.ref t0, .int p0, .int p1]) ++ List.replicate (3 - (lg_sl ([.ref t0, .int p0, .int p1])).length) Slot.unset).toArray = ls at hl ⊢
  have hl : lv_has ls 3 [(0, .ref t0), (1, .int p0), (2, .int p1)] := hl
  have hP : mP G.1 Mw s.heap := hP
  refine lv_iload_n hx hb dX3_setBore_0 rfl (lv_at hl 1 rfl) ?_
  refine lv_if_lt (tgt := 20) hx hb dX3_setBore_1 (by decide) (fun c1 => absurd c1 hlo) (fun c1 => ?_)
  refine lv_iload_n hx hb dX3_setBore_4 rfl (lv_at hl 1 rfl) ?_
  refine lv_aload_n hx hb dX3_setBore_5 rfl (lv_at hl 0 rfl) ?_
  refine m_get (ci := 3) (v := .ref b0) (C := RX3) (T := TX3) (N := 2) hx hb hts i_X3 hown hK (hP _ _ h_T) rfl 0 (by decide) (hts (.fieldLink RX3 9 "Meniscus$Tube" "bores" "[I") (by decide +kernel)) (fun _ h9 => h9) rfl dX3_setBore_6 ?_
  refine m_alen (v := 20) hx hb hK 0 (hP _ _ h_B) rfl rfl dX3_setBore_9 ?_
  refine lv_icmp_ge (tgt := 20) hx hb dX3_setBore_10 (by decide) (fun c2 => absurd c2 hhi) (fun c2 => ?_)
  refine lv_aload_n hx hb dX3_setBore_13 rfl (lv_at hl 0 rfl) ?_
  refine m_get (ci := 3) (v := .ref b0) (C := RX3) (T := TX3) (N := 2) hx hb hts i_X3 hown hK (hP _ _ h_T) rfl 0 (by decide) (hts (.fieldLink RX3 9 "Meniscus$Tube" "bores" "[I") (by decide +kernel)) (fun _ h9 => h9) rfl dX3_setBore_14 ?_
  refine lv_iload_n hx hb dX3_setBore_17 rfl (lv_at hl 1 rfl) ?_
  refine lv_iload_n hx hb dX3_setBore_18 rfl (lv_at hl 2 rfl) ?_
  refine m_iast hx hb hK hP hI hS 0 h_B rfl (vin_of hlo (by omega) hhi) dX3_setBore_19 (fun H locs hP hI hS => ?_)
  have h_T := mu_k (e := .inl (G.2.1 0, 20, .inl (upd bf p0.toNatClampNeg p1))) (kd_ne h_T h_B rfl) h_T
  have h_B : (mu Mw b0 (.inl (G.2.1 0, 20, .inl (upd bf p0.toNatClampNeg p1)))) b0 = some (.inl (G.2.1 0, 20, .inl (upd bf p0.toNatClampNeg p1))) := mu_s
  refine W.widen (k := 0) (n := 0) (Nat.le_of_ble_eq_true rfl) (Nat.le_of_ble_eq_true rfl) ?_
  exact W.vret hx hb hr (fun t99 ht99 hW99 => ⟨⟨(mu Mw b0 (.inl (G.2.1 0, 20, .inl (upd bf p0.toNatClampNeg p1)))), rfl, rfl, by rw [ht99]; exact hP, hI⟩, hS.F ht99⟩) hS.2.2 dX3_setBore_20

set_option maxHeartbeats 4000000 in
set_option maxRecDepth 100000 in
theorem c_X3_firstPlaceHolding (l : Launch) (G : mg) (A : Nat → Prop) (Mw : mw) (p0 : Int32) {t0 b0 : Nat} {us0 : Int32} {bf : Nat → Int32} (h_T : Mw t0 = some (.inr (3, [.ref b0, .int us0]))) (h_B : Mw b0 = some (.inl (G.2.1 0, 20, .inl bf))) : Met l yX3_firstPlaceHolding wsX3_firstPlaceHolding ({ frames := 3, cells := 0, slots := 0, locals := 65 }) (va_Pc [.ref t0, .int p0] (mB G A Mw)) (va_Qi (fun r Mw1 => fphR bf p0 r ∧ Mw1 = Mw) (mE G A) A) 0 0 A := by
  refine Met.ofW (cc := cX3_firstPlaceHolding) (maxL := 3) (ret := (some .int)) (by decide) rfl ?_
  intro p e s m args below meth c s₁ B hml hv
  obtain ⟨rfl, hG, hP, hI, hA⟩ := hv
  have hx := B.exec
  have hb := B.bytes
  have hr := B.returns
  have hts := atoms_spec (ws := wsX3_firstPlaceHolding) B.pre
  have hown : s.vm.findClass RX3 = some m.cls := findClass_of_methodNamed B.named
  have hlocks := B.notSynchronized
  have hK := hG.K
  have hS : va_S A s.heap s.heap [] := va_S.rf
  have hl := lv_entry ([.ref t0, .int p0]) (n := 3) (Nat.le_of_ble_eq_true rfl)
  rw [lg_entry_eq]
  generalize (lg_sl ([.ref t0, .int p0]) ++ List.replicate (3 - (lg_sl ([.ref t0, .int p0])).length) Slot.unset).toArray = ls at hl ⊢
  have hl : lv_has ls 3 [(0, .ref t0), (1, .int p0)] := hl
  have hP : mP G.1 Mw s.heap := hP
  refine lv_iconst (v := 0) hx hb dX3_firstPlaceHolding_0 (by decide) ?_
  refine lv_istore_n (lv' := [(2, .int 0), (0, .ref t0), (1, .int p0)]) hx hb dX3_firstPlaceHolding_1 rfl hl (by decide) rfl (fun ls hl => ?_)
  have loop : ∀ (n k : Nat) (hj : ∀ j, j < k → vsum bf (nI j) 20 < p0), k ≤ 201 → k + n = 201 + 1 → ∀ (H : Heap) (locs : List Loc) (ls : Array Slot), mP G.1 (Mw) H → mI A (Mw) → va_S A s.heap H locs → lv_has ls 3 [(0, .ref t0), (1, .int p0), (2, .int (nI k))] → W p l e ({ frames := 3, cells := 0, slots := 0, locals := 65 }) s m ([.ref t0, .int p0] : List Value).toArray below meth c H locs 0 0 (MQ below (va_Qi (fun r Mw1 => fphR bf p0 r ∧ Mw1 = Mw) (mE G A) A) ([.ref t0, .int p0] : List Value).toArray s 0 0 A) (F0 m 2 ls []) := by
    intro n
    induction n with
    | zero => intro k hj hk1 hk2; omega
    | succ n ih_loop =>
      intro k hj hk1 hk2 H locs ls hP hI hS hl
      refine lv_iload_n hx hb dX3_firstPlaceHolding_2 rfl (lv_at hl 2 rfl) ?_
      refine lv_sipush (v := (200)) hx hb dX3_firstPlaceHolding_3 (by decide) ?_
      refine lv_icmp_gt (tgt := 26) hx hb dX3_firstPlaceHolding_6 (by decide) (fun c1 => ?_) (fun c1 => ?_)
      · skip
        have hk3 : 200 < k := (nI_ltI (a := 200) (b := k) (by omega) (by omega)).mp c1
        refine lv_iconst (v := (-1)) hx hb dX3_firstPlaceHolding_26 (by decide) ?_
        refine W.widen (k := 0) (n := 0) (Nat.le_of_ble_eq_true rfl) (Nat.le_of_ble_eq_true rfl) ?_
        exact W.iret (v := (-1)) hx hb hr (fun t99 ht99 hW99 => ⟨⟨(-1), Mw, rfl, ⟨Or.inr ⟨rfl, fun j hj9 => hj j (by omega)⟩, rfl⟩, by rw [ht99]; exact hP, hI⟩, hS.F ht99⟩) hS.2.2 dX3_firstPlaceHolding_27
      · skip
        have hk3 : k ≤ 200 := Nat.le_of_not_lt (fun q => c1 (nI_lt (a := 200) q (by omega)))
        refine lv_aload_n hx hb dX3_firstPlaceHolding_9 rfl (lv_at hl 0 rfl) ?_
        refine lv_iload_n hx hb dX3_firstPlaceHolding_10 rfl (lv_at hl 2 rfl) ?_
        refine m_calli (va_runV (As := [.int (nI k)]) (rest := []) ⟨hx, hb, hml, hown, hts⟩ (c_X3_volumeUpTo l G A Mw  (nI k) h_T h_B) (cwV 1 hts gX3_firstPlaceHolding_X3_volumeUpTo rfl rfl rfl (by decide +kernel) ⟨Nat.le_of_ble_eq_true rfl, Nat.le_of_ble_eq_true rfl⟩) (mPreV hG hS hP hI hA (hP _ _ h_T) (r := (RX3, TX3, 2)) rfl) rfl rfl hl.1 rfl (lv_room (Nat.le_of_ble_eq_true rfl)) dX3_firstPlaceHolding_11 ⟨Nat.le_of_ble_eq_true rfl, Nat.le_of_ble_eq_true rfl⟩) hS (fun r2 Mw1 H locs hp_r2 hP hI hS => ?_)
        obtain ⟨hp_r2, hm9⟩ := hp_r2
        subst Mw1
        refine lv_iload_n hx hb dX3_firstPlaceHolding_14 rfl (lv_at hl 1 rfl) ?_
        refine lv_icmp_lt (tgt := 20) hx hb dX3_firstPlaceHolding_15 (by decide) (fun c3 => ?_) (fun c3 => ?_)
        · skip
          refine lv_iinc (v := (nI k) + 1) (lv' := [(2, .int ((nI k) + 1)), (0, .ref t0), (1, .int p0)]) hx hb dX3_firstPlaceHolding_20 hl (k := 2) rfl rfl (by decide) rfl (fun ls hl => ?_)
          refine lv_goto (tgt := 2) hx hb dX3_firstPlaceHolding_23 (by decide) ?_
          have e_2 : (nI k) + 1 = nI (k + 1) := nI_1 k
          rw [e_2] at hl
          exact ih_loop (k + 1) (fun j q => (Nat.lt_or_ge j k).elim (fun q2 => hj j q2) (fun q2 => by rw [show j = k by omega, ← hp_r2]; exact c3)) (by omega) (by omega) H locs ls hP hI hS (lv_sub hl [1, 2, 0] rfl)
        · skip
          refine lv_iload_n hx hb dX3_firstPlaceHolding_18 rfl (lv_at hl 2 rfl) ?_
          refine W.widen (k := 0) (n := 0) (Nat.le_of_ble_eq_true rfl) (Nat.le_of_ble_eq_true rfl) ?_
          exact W.iret (v := nI k) hx hb hr (fun t99 ht99 hW99 => ⟨⟨nI k, Mw, rfl, ⟨Or.inl ⟨k, by omega, rfl, by rw [← hp_r2]; exact c3, hj⟩, rfl⟩, by rw [ht99]; exact hP, hI⟩, hS.F ht99⟩) hS.2.2 dX3_firstPlaceHolding_19
  exact loop (201 + 1 - 0) 0 (fun _ q => absurd q (Nat.not_lt_zero _)) (by omega) (by omega) _ _ _ hP hI hS (lv_sub hl [1, 2, 0] rfl)

set_option maxHeartbeats 4000000 in
set_option maxRecDepth 100000 in
theorem c_X3_widestSection (l : Launch) (G : mg) (A : Nat → Prop) (Mw : mw) {t0 b0 : Nat} {us0 : Int32} {bf : Nat → Int32} (h_T : Mw t0 = some (.inr (3, [.ref b0, .int us0]))) (h_B : Mw b0 = some (.inl (G.2.1 0, 20, .inl bf))) : Met l yX3_widestSection wsX3_widestSection ({ frames := 1, cells := 0, slots := 0, locals := 21 }) (va_Pc [.ref t0] (mB G A Mw)) (va_Qi (fun r Mw1 => r = (wid bf 20) ∧ Mw1 = Mw) (mE G A) A) 0 0 A := by
  refine Met.ofW (cc := cX3_widestSection) (maxL := 3) (ret := (some .int)) (by decide) rfl ?_
  intro p e s m args below meth c s₁ B hml hv
  obtain ⟨rfl, hG, hP, hI, hA⟩ := hv
  have hx := B.exec
  have hb := B.bytes
  have hr := B.returns
  have hts := atoms_spec (ws := wsX3_widestSection) B.pre
  have hown : s.vm.findClass RX3 = some m.cls := findClass_of_methodNamed B.named
  have hlocks := B.notSynchronized
  have hK := hG.K
  have i_X3 : ∀ w ∈ wsX30, w ∈ wsX3_widestSection := by decide +kernel
  have hS : va_S A s.heap s.heap [] := va_S.rf
  have hl := lv_entry ([.ref t0]) (n := 3) (Nat.le_of_ble_eq_true rfl)
  rw [lg_entry_eq]
  generalize (lg_sl ([.ref t0]) ++ List.replicate (3 - (lg_sl ([.ref t0])).length) Slot.unset).toArray = ls at hl ⊢
  have hl : lv_has ls 3 [(0, .ref t0)] := hl
  have hP : mP G.1 Mw s.heap := hP
  refine lv_iconst (v := 0) hx hb dX3_widestSection_0 (by decide) ?_
  refine lv_istore_n (lv' := [(1, .int 0), (0, .ref t0)]) hx hb dX3_widestSection_1 rfl hl (by decide) rfl (fun ls hl => ?_)
  refine lv_iconst (v := 1) hx hb dX3_widestSection_2 (by decide) ?_
  refine lv_istore_n (lv' := [(2, .int 1), (1, .int 0), (0, .ref t0)]) hx hb dX3_widestSection_3 rfl hl (by decide) rfl (fun ls hl => ?_)
  have loop : ∀ (n k : Nat), k ≤ 20 → k + n = 20 + 1 → ∀ (H : Heap) (locs : List Loc) (ls : Array Slot), mP G.1 (Mw) H → mI A (Mw) → va_S A s.heap H locs → lv_has ls 3 [(0, .ref t0), (1, .int (wid bf k)), (2, .int (nI k))] → W p l e ({ frames := 1, cells := 0, slots := 0, locals := 21 }) s m ([.ref t0] : List Value).toArray below meth c H locs 0 0 (MQ below (va_Qi (fun r Mw1 => r = (wid bf 20) ∧ Mw1 = Mw) (mE G A) A) ([.ref t0] : List Value).toArray s 0 0 A) (F0 m 4 ls []) := by
    intro n
    induction n with
    | zero => intro k hk1 hk2; omega
    | succ n ih_loop =>
      intro k hk1 hk2 H locs ls hP hI hS hl
      refine lv_iload_n hx hb dX3_widestSection_4 rfl (lv_at hl 2 rfl) ?_
      refine lv_aload_n hx hb dX3_widestSection_5 rfl (lv_at hl 0 rfl) ?_
      refine m_get (ci := 3) (v := .ref b0) (C := RX3) (T := TX3) (N := 2) hx hb hts i_X3 hown hK (hP _ _ h_T) rfl 0 (by decide) (hts (.fieldLink RX3 9 "Meniscus$Tube" "bores" "[I") (by decide +kernel)) (fun _ h9 => h9) rfl dX3_widestSection_6 ?_
      refine m_alen (v := 20) hx hb hK 0 (hP _ _ h_B) rfl rfl dX3_widestSection_9 ?_
      refine lv_icmp_ge (tgt := 35) hx hb dX3_widestSection_10 (by decide) (fun c1 => ?_) (fun c1 => ?_)
      · skip
        have hk3 : 20 ≤ k := (nI_leI (a := 20) (b := k) (by omega) (by omega)).mp c1
        refine lv_iload_n hx hb dX3_widestSection_35 rfl (lv_at hl 1 rfl) ?_
        refine W.widen (k := 0) (n := 0) (Nat.le_of_ble_eq_true rfl) (Nat.le_of_ble_eq_true rfl) ?_
        exact W.iret (v := wid bf k) hx hb hr (fun t99 ht99 hW99 => ⟨⟨wid bf k, Mw, rfl, ⟨by rw [show k = 20 by omega], rfl⟩, by rw [ht99]; exact hP, hI⟩, hS.F ht99⟩) hS.2.2 dX3_widestSection_36
      · skip
        have hk3 : k < 20 := Nat.lt_of_not_le (fun q => c1 (nI_le (a := 20) q (by omega)))
        refine lv_aload_n hx hb dX3_widestSection_13 rfl (lv_at hl 0 rfl) ?_
        refine m_get (ci := 3) (v := .ref b0) (C := RX3) (T := TX3) (N := 2) hx hb hts i_X3 hown hK (hP _ _ h_T) rfl 0 (by decide) (hts (.fieldLink RX3 9 "Meniscus$Tube" "bores" "[I") (by decide +kernel)) (fun _ h9 => h9) rfl dX3_widestSection_14 ?_
        refine lv_iload_n hx hb dX3_widestSection_17 rfl (lv_at hl 2 rfl) ?_
        refine m_iald hx hb hK 0 (hP _ _ h_B) rfl (vp_in_nI (by omega) (by omega)) dX3_widestSection_18 ?_
        rw [nI_clamp (show k < 2 ^ 31 by omega)]
        refine lv_aload_n hx hb dX3_widestSection_19 rfl (lv_at hl 0 rfl) ?_
        refine lv_iload_n hx hb dX3_widestSection_20 rfl (lv_at hl 1 rfl) ?_
        refine m_calli (va_runV (As := [.int (wid bf k)]) (rest := [.int (bf k)]) ⟨hx, hb, hml, hown, hts⟩ (c_X3_boreOf l G A Mw  (wid bf k) h_T h_B) (cwV 1 hts gX3_widestSection_X3_boreOf rfl rfl rfl (by decide +kernel) ⟨Nat.le_of_ble_eq_true rfl, Nat.le_of_ble_eq_true rfl⟩) (mPreV hG hS hP hI hA (hP _ _ h_T) (r := (RX3, TX3, 2)) rfl) rfl rfl hl.1 rfl (lv_room (Nat.le_of_ble_eq_true rfl)) dX3_widestSection_21 ⟨Nat.le_of_ble_eq_true rfl, Nat.le_of_ble_eq_true rfl⟩) hS (fun r2 Mw1 H locs hp_r2 hP hI hS => ?_)
        obtain ⟨hp_r2, hm9⟩ := hp_r2
        subst Mw1
        refine lv_icmp_le (tgt := 29) hx hb dX3_widestSection_24 (by decide) (fun c3 => ?_) (fun c3 => ?_)
        · skip
          refine lv_iinc (v := (nI k) + 1) (lv' := [(2, .int ((nI k) + 1)), (0, .ref t0), (1, .int (wid bf k))]) hx hb dX3_widestSection_29 hl (k := 2) rfl rfl (by decide) rfl (fun ls hl => ?_)
          refine lv_goto (tgt := 4) hx hb dX3_widestSection_32 (by decide) ?_
          have e_2 : (nI k) + 1 = nI (k + 1) := nI_1 k
          rw [e_2] at hl
          have e_1 : wid bf k = wid bf (k + 1) := (if_neg (by rw [← hp_r2]; exact i_nlt c3)).symm
          rw [e_1] at hl
          exact ih_loop (k + 1) (by omega) (by omega) H locs ls hP hI hS (lv_sub hl [1, 2, 0] rfl)
        · skip
          refine lv_iload_n hx hb dX3_widestSection_27 rfl (lv_at hl 2 rfl) ?_
          refine lv_istore_n (lv' := [(1, .int (nI k)), (0, .ref t0), (2, .int (nI k))]) hx hb dX3_widestSection_28 rfl hl (by decide) rfl (fun ls hl => ?_)
          refine lv_iinc (v := (nI k) + 1) (lv' := [(2, .int ((nI k) + 1)), (1, .int (nI k)), (0, .ref t0)]) hx hb dX3_widestSection_29 hl (k := 2) rfl rfl (by decide) rfl (fun ls hl => ?_)
          refine lv_goto (tgt := 4) hx hb dX3_widestSection_32 (by decide) ?_
          have e_2 : (nI k) + 1 = nI (k + 1) := nI_1 k
          rw [e_2] at hl
          have e_1 : nI k = wid bf (k + 1) := (if_pos (by rw [← hp_r2]; exact i_lt c3)).symm
          rw [e_1] at hl
          exact ih_loop (k + 1) (by omega) (by omega) H locs ls hP hI hS (lv_sub hl [2, 1, 0] rfl)
  have e0_1 : (0 : Int32) = wid bf 1 := wid_1 bf
  rw [show lv_has ls 3 [(2, .int 1), (1, .int 0), (0, .ref t0)] = lv_has ls 3 [(2, .int 1), (1, .int (wid bf 1)), (0, .ref t0)] from by rw [← e0_1]] at hl
  exact loop (20 + 1 - 1) 1 (by omega) (by omega) _ _ _ hP hI hS (lv_sub hl [2, 1, 0] rfl)

set_option maxHeartbeats 4000000 in
set_option maxRecDepth 100000 in
theorem c_X3_clinging (l : Launch) (G : mg) (A : Nat → Prop) (Mw : mw) (p0 p1 p2 : Int32) {t0 b0 : Nat} {us0 : Int32} {bf : Nat → Int32} (h_T : Mw t0 = some (.inr (3, [.ref b0, .int us0]))) (h_B : Mw b0 = some (.inl (G.2.1 0, 20, .inl bf))) : Met l yX3_clinging wsX3_clinging ({ frames := 2, cells := 0, slots := 0, locals := 42 }) (va_Pc [.ref t0, .int p0, .int p1, .int p2] (mB G A Mw)) (va_Qi (fun r Mw1 => r = (csum bf p0 p1 p2 20) ∧ Mw1 = Mw) (mE G A) A) 0 0 A := by
  refine Met.ofW (cc := cX3_clinging) (maxL := 7) (ret := (some .int)) (by decide) rfl ?_
  intro p e s m args below meth c s₁ B hml hv
  obtain ⟨rfl, hG, hP, hI, hA⟩ := hv
  have hx := B.exec
  have hb := B.bytes
  have hr := B.returns
  have hts := atoms_spec (ws := wsX3_clinging) B.pre
  have hown : s.vm.findClass RX3 = some m.cls := findClass_of_methodNamed B.named
  have hlocks := B.notSynchronized
  have hK := hG.K
  have i_X3 : ∀ w ∈ wsX30, w ∈ wsX3_clinging := by decide +kernel
  have hS : va_S A s.heap s.heap [] := va_S.rf
  have hl := lv_entry ([.ref t0, .int p0, .int p1, .int p2]) (n := 7) (Nat.le_of_ble_eq_true rfl)
  rw [lg_entry_eq]
  generalize (lg_sl ([.ref t0, .int p0, .int p1, .int p2]) ++ List.replicate (7 - (lg_sl ([.ref t0, .int p0, .int p1, .int p2])).length) Slot.unset).toArray = ls at hl ⊢
  have hl : lv_has ls 7 [(0, .ref t0), (1, .int p0), (2, .int p1), (3, .int p2)] := hl
  have hP : mP G.1 Mw s.heap := hP
  refine lv_iconst (v := 0) hx hb dX3_clinging_0 (by decide) ?_
  refine lv_istore (lv' := [(4, .int 0), (0, .ref t0), (1, .int p0), (2, .int p1), (3, .int p2)]) hx hb dX3_clinging_1 hl (by decide) rfl (fun ls hl => ?_)
  refine lv_iconst (v := 0) hx hb dX3_clinging_3 (by decide) ?_
  refine lv_istore (lv' := [(5, .int 0), (4, .int 0), (0, .ref t0), (1, .int p0), (2, .int p1), (3, .int p2)]) hx hb dX3_clinging_4 hl (by decide) rfl (fun ls hl => ?_)
  have loop : ∀ (n k : Nat), k ≤ 20 → k + n = 20 + 1 → ∀ (H : Heap) (locs : List Loc) (ls : Array Slot), mP G.1 (Mw) H → mI A (Mw) → va_S A s.heap H locs → lv_has ls 7 [(0, .ref t0), (1, .int p0), (2, .int p1), (3, .int p2), (4, .int (csum bf p0 p1 p2 k)), (5, .int (nI k))] → W p l e ({ frames := 2, cells := 0, slots := 0, locals := 42 }) s m ([.ref t0, .int p0, .int p1, .int p2] : List Value).toArray below meth c H locs 0 0 (MQ below (va_Qi (fun r Mw1 => r = (csum bf p0 p1 p2 20) ∧ Mw1 = Mw) (mE G A) A) ([.ref t0, .int p0, .int p1, .int p2] : List Value).toArray s 0 0 A) (F0 m 6 ls []) := by
    intro n
    induction n with
    | zero => intro k hk1 hk2; omega
    | succ n ih_loop =>
      intro k hk1 hk2 H locs ls hP hI hS hl
      refine lv_iload hx hb dX3_clinging_6 (lv_at hl 5 rfl) ?_
      refine lv_aload_n hx hb dX3_clinging_8 rfl (lv_at hl 0 rfl) ?_
      refine m_get (ci := 3) (v := .ref b0) (C := RX3) (T := TX3) (N := 2) hx hb hts i_X3 hown hK (hP _ _ h_T) rfl 0 (by decide) (hts (.fieldLink RX3 9 "Meniscus$Tube" "bores" "[I") (by decide +kernel)) (fun _ h9 => h9) rfl dX3_clinging_9 ?_
      refine m_alen (v := 20) hx hb hK 0 (hP _ _ h_B) rfl rfl dX3_clinging_12 ?_
      refine lv_icmp_ge (tgt := 56) hx hb dX3_clinging_13 (by decide) (fun c1 => ?_) (fun c1 => ?_)
      · skip
        have hk3 : 20 ≤ k := (nI_leI (a := 20) (b := k) (by omega) (by omega)).mp c1
        refine lv_iload hx hb dX3_clinging_56 (lv_at hl 4 rfl) ?_
        refine W.widen (k := 0) (n := 0) (Nat.le_of_ble_eq_true rfl) (Nat.le_of_ble_eq_true rfl) ?_
        exact W.iret (v := csum bf p0 p1 p2 k) hx hb hr (fun t99 ht99 hW99 => ⟨⟨csum bf p0 p1 p2 k, Mw, rfl, ⟨by rw [show k = 20 by omega], rfl⟩, by rw [ht99]; exact hP, hI⟩, hS.F ht99⟩) hS.2.2 dX3_clinging_58
      · skip
        have hk3 : k < 20 := Nat.lt_of_not_le (fun q => c1 (nI_le (a := 20) q (by omega)))
        refine lv_iload_n hx hb dX3_clinging_16 rfl (lv_at hl 2 rfl) ?_
        refine lv_iload hx hb dX3_clinging_17 (lv_at hl 5 rfl) ?_
        refine m_calli (va_runS (As := [.int p1, .int (nI k)]) (rest := []) ⟨hx, hb, hml, hown, hts⟩ (c_X3_stepsBelow l G A Mw  p1 (nI k)) (va_cwS 2 hts gX3_clinging_X3_stepsBelow rfl rfl rfl (by decide +kernel) ⟨Nat.le_of_ble_eq_true rfl, Nat.le_of_ble_eq_true rfl⟩) (mPreS hG hS hP hI hA) rfl rfl hl.1 rfl (lv_room (Nat.le_of_ble_eq_true rfl)) dX3_clinging_19 ⟨Nat.le_of_ble_eq_true rfl, Nat.le_of_ble_eq_true rfl⟩) hS (fun r2 Mw1 H locs hp_r2 hP hI hS => ?_)
        obtain ⟨hp_r2, hm9⟩ := hp_r2
        subst Mw1
        refine lv_iload_n hx hb dX3_clinging_22 rfl (lv_at hl 1 rfl) ?_
        refine lv_iload hx hb dX3_clinging_23 (lv_at hl 5 rfl) ?_
        refine m_calli (va_runS (As := [.int p0, .int (nI k)]) (rest := [.int r2]) ⟨hx, hb, hml, hown, hts⟩ (c_X3_stepsBelow l G A Mw  p0 (nI k)) (va_cwS 2 hts gX3_clinging_X3_stepsBelow rfl rfl rfl (by decide +kernel) ⟨Nat.le_of_ble_eq_true rfl, Nat.le_of_ble_eq_true rfl⟩) (mPreS hG hS hP hI hA) rfl rfl hl.1 rfl (lv_room (Nat.le_of_ble_eq_true rfl)) dX3_clinging_25 ⟨Nat.le_of_ble_eq_true rfl, Nat.le_of_ble_eq_true rfl⟩) hS (fun r3 Mw1 H locs hp_r3 hP hI hS => ?_)
        obtain ⟨hp_r3, hm9⟩ := hp_r3
        subst Mw1
        refine lv_isub hx hb dX3_clinging_28 ?_
        refine lv_istore (lv' := [(6, .int (r2 - r3)), (0, .ref t0), (1, .int p0), (2, .int p1), (3, .int p2), (4, .int (csum bf p0 p1 p2 k)), (5, .int (nI k))]) hx hb dX3_clinging_29 hl (by decide) rfl (fun ls hl => ?_)
        refine lv_iload hx hb dX3_clinging_31 (lv_at hl 5 rfl) ?_
        refine lv_iload hx hb dX3_clinging_33 (lv_at hl 0 rfl) ?_
        refine lv_iload_n hx hb dX3_clinging_35 rfl (lv_at hl 4 rfl) ?_
        refine lv_aload_n hx hb dX3_clinging_36 rfl (lv_at hl 1 rfl) ?_
        refine m_get (ci := 3) (v := .ref b0) (C := RX3) (T := TX3) (N := 2) hx hb hts i_X3 hown hK (hP _ _ h_T) rfl 0 (by decide) (hts (.fieldLink RX3 9 "Meniscus$Tube" "bores" "[I") (by decide +kernel)) (fun _ h9 => h9) rfl dX3_clinging_37 ?_
        refine lv_iload hx hb dX3_clinging_40 (lv_at hl 6 rfl) ?_
        refine m_iald hx hb hK 0 (hP _ _ h_B) rfl (vp_in_nI (by omega) (by omega)) dX3_clinging_42 ?_
        rw [nI_clamp (show k < 2 ^ 31 by omega)]
        refine va_mmin hx hb (hml.trans hl.1.symm) hown (hts (.methodLink RX3 15 Lib.Math.min.name) (by decide +kernel)) (hts (.static Lib.Math.min.name) (by decide +kernel)) (hts (.initialized "java/lang/Math") (by decide +kernel)) (hts (.code Lib.Math.min.name Lib.Math.min.code 2 (some .int)) (by decide +kernel)) (Nat.le_of_ble_eq_true rfl) (Nat.le_of_ble_eq_true rfl) (Nat.le_of_ble_eq_true rfl) (Nat.le_of_ble_eq_true rfl) dX3_clinging_43 ?_
        refine lv_imul hx hb dX3_clinging_46 ?_
        refine lv_iadd hx hb dX3_clinging_47 ?_
        refine lv_istore (lv' := [(4, .int ((csum bf p0 p1 p2 k) + ((r2 - r3) * (m_min p2 (bf k))))), (6, .int (r2 - r3)), (0, .ref t0), (1, .int p0), (2, .int p1), (3, .int p2), (5, .int (nI k))]) hx hb dX3_clinging_48 hl (by decide) rfl (fun ls hl => ?_)
        refine lv_iinc (v := (nI k) + 1) (lv' := [(5, .int ((nI k) + 1)), (4, .int ((csum bf p0 p1 p2 k) + ((r2 - r3) * (m_min p2 (bf k))))), (6, .int (r2 - r3)), (0, .ref t0), (1, .int p0), (2, .int p1), (3, .int p2)]) hx hb dX3_clinging_50 hl (k := 6) rfl rfl (by decide) rfl (fun ls hl => ?_)
        refine lv_goto (tgt := 6) hx hb dX3_clinging_53 (by decide) ?_
        have e_5 : (nI k) + 1 = nI (k + 1) := nI_1 k
        rw [e_5] at hl
        have e_4 : (csum bf p0 p1 p2 k) + ((r2 - r3) * (m_min p2 (bf k))) = csum bf p0 p1 p2 (k + 1) := by rw [hp_r2, hp_r3]; rfl
        rw [e_4] at hl
        exact ih_loop (k + 1) (by omega) (by omega) H locs ls hP hI hS (lv_sub hl [3, 4, 5, 6, 1, 0] rfl)
  exact loop (20 + 1 - 0) 0 (by omega) (by omega) _ _ _ hP hI hS (lv_sub hl [2, 3, 4, 5, 1, 0] rfl)

set_option maxHeartbeats 4000000 in
set_option maxRecDepth 100000 in
theorem c_X3_init (l : Launch) (G : mg) (A : Nat → Prop) (Mw : mw) (p0 p1 : Int32) {t0 : Nat} (h_T : Mw t0 = some (.inr (3, [.null, .int 0]))) : Met l yX3_init wsX3_init ({ frames := 1, cells := 1, slots := 20, locals := 21 }) (va_Pc [.ref t0, .int p0, .int p1] (mB G A Mw)) (va_Qv (fun Mw1 => ∃ q9 : Nat, Mw q9 = none ∧ q9 ≠ t0 ∧ Mw1 = mu (mu Mw t0 (.inr (3, [.ref q9, .int 0]))) q9 (.inl (G.2.1 0, 20, .inl (dboU p0 p1 20)))) (mE G A) A) 1 20 A := by
  refine Met.ofW (cc := cX3_init) (maxL := 4) (ret := none) (by decide) rfl ?_
  intro p e s m args below meth c s₁ B hml hv
  obtain ⟨rfl, hG, hP, hI, hA⟩ := hv
  have hx := B.exec
  have hb := B.bytes
  have hr := B.returns
  have hts := atoms_spec (ws := wsX3_init) B.pre
  have hown : s.vm.findClass RX3 = some m.cls := findClass_of_methodNamed B.named
  have hlocks := B.notSynchronized
  have hK := hG.K
  have hin : meth.name = "<init>" := (name_of_methodNamed B.named B.method).1
  have i_X3 : ∀ w ∈ wsX30, w ∈ wsX3_init := by decide +kernel
  have hS : va_S A s.heap s.heap [] := va_S.rf
  have hl := lv_entry ([.ref t0, .int p0, .int p1]) (n := 4) (Nat.le_of_ble_eq_true rfl)
  rw [lg_entry_eq]
  generalize (lg_sl ([.ref t0, .int p0, .int p1]) ++ List.replicate (4 - (lg_sl ([.ref t0, .int p0, .int p1])).length) Slot.unset).toArray = ls at hl ⊢
  have hl : lv_has ls 4 [(0, .ref t0), (1, .int p0), (2, .int p1)] := hl
  have hP : mP G.1 Mw s.heap := hP
  have h_T00 := h_T
  refine lv_aload_n hx hb dX3_init_0 rfl (lv_at hl 0 rfl) ?_
  refine W.objInit hx hb hown (hts (.methodLink RX3 3 objectInit) (by decide +kernel)) (hts (.instanceMethod objectInit) (by decide +kernel)) (hts (.code objectInit ⟨#[0xb1]⟩ 1 none) (by decide +kernel)) rfl (by rw [hml]; exact hl.1) rfl dX3_init_1 (Nat.le_of_ble_eq_true rfl) (Nat.le_of_ble_eq_true rfl) ?_
  refine W.eq (g2 := F0 m 4 ls []) rfl ?_
  refine lv_aload_n hx hb dX3_init_4 rfl (lv_at hl 0 rfl) ?_
  refine lv_bipush (v := (20)) hx hb dX3_init_5 (by decide) ?_
  refine m_newa (atype := .int) (a0 := (20, .inl (fun _ => 0))) hx hb (hts (.arrayClass .int) (by decide +kernel)) rfl hK hP hI hS hA (hK.2 0 _ rfl).2 (fun _ => rfl) (by decide) (by decide) (by decide) (Nat.le_of_ble_eq_true rfl) (Nat.le_of_ble_eq_true rfl) dX3_init_7 (fun q1 H hn_q1 hP hI hS => ?_)
  have h_T := mu_x (e := .inl (G.2.1 0, 20, .inl (fun _ => 0))) h_T hn_q1
  have h_q1 : (mu Mw q1 (.inl (G.2.1 0, 20, .inl (fun _ => 0)))) q1 = some (.inl (G.2.1 0, 20, .inl (fun _ => 0))) := mu_s
  refine m_putF (ci := 3) (v := .ref q1) (ty := .array .int) (C := RX3) (T := TX3) (N := 2) hx hb hts i_X3 tyX3 tyX3_ok nmX3 hown hK hP hI hS h_T rfl 0 (by decide) (hts (.fieldLink RX3 9 "Meniscus$Tube" "bores" "[I") (by decide +kernel)) (fun _ h9 => h9) rfl hin rfl (by decide +kernel) rfl rfl (Nat.le_of_ble_eq_true rfl) dX3_init_9 (fun H locs hP hI hS => ?_)
  have hP : mP G.1 (mu (mu Mw q1 (.inl (G.2.1 0, 20, .inl (fun _ => 0)))) t0 (.inr (3, [.ref q1, .int 0]))) H := hP
  have hI : mI A (mu (mu Mw q1 (.inl (G.2.1 0, 20, .inl (fun _ => 0)))) t0 (.inr (3, [.ref q1, .int 0]))) := hI
  have h_q1 := mu_k (e := .inr (3, [.ref q1, .int 0])) (kd_ne h_q1 h_T rfl) h_q1
  have h_T : (mu (mu Mw q1 (.inl (G.2.1 0, 20, .inl (fun _ => 0)))) t0 (.inr (3, [.ref q1, .int 0]))) t0 = some (.inr (3, [.ref q1, .int 0])) := mu_s
  refine lv_iconst (v := 0) hx hb dX3_init_12 (by decide) ?_
  refine lv_istore_n (lv' := [(3, .int 0), (0, .ref t0), (1, .int p0), (2, .int p1)]) hx hb dX3_init_13 rfl hl (by decide) rfl (fun ls hl => ?_)
  have ne_h_T_h_q1 := (kd_ne h_T h_q1 rfl)
  have loop : ∀ (n k : Nat), k ≤ 20 → k + n = 20 + 1 → ∀ (Mv_loop : mw) (H : Heap) (locs : List Loc) (ls : Array Slot), Mv_loop q1 = some (.inl (G.2.1 0, 20, .inl (dboU p0 p1 k))) → (∀ x : Nat, x ≠ q1 → Mv_loop x = (mu (mu Mw q1 (.inl (G.2.1 0, 20, .inl (fun _ => 0)))) t0 (.inr (3, [.ref q1, .int 0]))) x) → mP G.1 Mv_loop H → mI A Mv_loop → va_S A s.heap H locs → lv_has ls 4 [(0, .ref t0), (1, .int p0), (2, .int p1), (3, .int (nI k))] → W p l e ({ frames := 1, cells := 1, slots := 20, locals := 21 }) s m ([.ref t0, .int p0, .int p1] : List Value).toArray below meth c H locs 1 20 (MQ below (va_Qv (fun Mw1 => ∃ q9 : Nat, Mw q9 = none ∧ q9 ≠ t0 ∧ Mw1 = mu (mu Mw t0 (.inr (3, [.ref q9, .int 0]))) q9 (.inl (G.2.1 0, 20, .inl (dboU p0 p1 20)))) (mE G A) A) ([.ref t0, .int p0, .int p1] : List Value).toArray s 1 20 A) (F0 m 14 ls []) := by
    intro n
    induction n with
    | zero => intro k hk1 hk2; omega
    | succ n ih_loop =>
      intro k hk1 hk2 Mv_loop H locs ls h_q1 hfr_loop hP hI hS hl
      have h_T := (hfr_loop _ ne_h_T_h_q1).trans h_T
      refine lv_iload_n hx hb dX3_init_14 rfl (lv_at hl 3 rfl) ?_
      refine lv_aload_n hx hb dX3_init_15 rfl (lv_at hl 0 rfl) ?_
      refine m_get (ci := 3) (v := .ref q1) (C := RX3) (T := TX3) (N := 2) hx hb hts i_X3 hown hK (hP _ _ h_T) rfl 0 (by decide) (hts (.fieldLink RX3 9 "Meniscus$Tube" "bores" "[I") (by decide +kernel)) (fun _ h9 => h9) rfl dX3_init_16 ?_
      refine m_alen (v := 20) hx hb hK 0 (hP _ _ h_q1) rfl rfl dX3_init_19 ?_
      refine lv_icmp_ge (tgt := 49) hx hb dX3_init_20 (by decide) (fun c2 => ?_) (fun c2 => ?_)
      · skip
        have hk3 : 20 ≤ k := (nI_leI (a := 20) (b := k) (by omega) (by omega)).mp c2
        refine W.widen (k := 1) (n := 20) (Nat.le_of_ble_eq_true rfl) (Nat.le_of_ble_eq_true rfl) ?_
        exact W.vret hx hb hr (fun t99 ht99 hW99 => ⟨⟨Mv_loop, rfl, ⟨q1, hn_q1, (fun z => by rw [← z, hn_q1] at h_T00; cases h_T00), mw_ext2 h_T (by rw [h_q1, show k = 20 by omega]) (fun z hz1 hz2 => (hfr_loop z hz2).trans ((mu_n hz1).trans (mu_n hz2)))⟩, by rw [ht99]; exact hP, hI⟩, hS.F ht99⟩) hS.2.2 dX3_init_49
      · skip
        have hk3 : k < 20 := Nat.lt_of_not_le (fun q => c2 (nI_le (a := 20) q (by omega)))
        refine lv_aload_n hx hb dX3_init_23 rfl (lv_at hl 0 rfl) ?_
        refine m_get (ci := 3) (v := .ref q1) (C := RX3) (T := TX3) (N := 2) hx hb hts i_X3 hown hK (hP _ _ h_T) rfl 0 (by decide) (hts (.fieldLink RX3 9 "Meniscus$Tube" "bores" "[I") (by decide +kernel)) (fun _ h9 => h9) rfl dX3_init_24 ?_
        refine lv_iload_n hx hb dX3_init_27 rfl (lv_at hl 3 rfl) ?_
        refine lv_iconst (v := 1) hx hb dX3_init_28 (by decide) ?_
        refine lv_bipush (v := (60)) hx hb dX3_init_29 (by decide) ?_
        refine lv_iload_n hx hb dX3_init_31 rfl (lv_at hl 1 rfl) ?_
        refine lv_iload_n hx hb dX3_init_32 rfl (lv_at hl 3 rfl) ?_
        refine lv_iload_n hx hb dX3_init_33 rfl (lv_at hl 2 rfl) ?_
        refine lv_imul hx hb dX3_init_34 ?_
        refine lv_iadd hx hb dX3_init_35 ?_
        refine va_mmin hx hb (hml.trans hl.1.symm) hown (hts (.methodLink RX3 15 Lib.Math.min.name) (by decide +kernel)) (hts (.static Lib.Math.min.name) (by decide +kernel)) (hts (.initialized "java/lang/Math") (by decide +kernel)) (hts (.code Lib.Math.min.name Lib.Math.min.code 2 (some .int)) (by decide +kernel)) (Nat.le_of_ble_eq_true rfl) (Nat.le_of_ble_eq_true rfl) (Nat.le_of_ble_eq_true rfl) (Nat.le_of_ble_eq_true rfl) dX3_init_36 ?_
        refine va_mmax hx hb (hml.trans hl.1.symm) hown (hts (.methodLink RX3 21 Lib.Math.max.name) (by decide +kernel)) (hts (.static Lib.Math.max.name) (by decide +kernel)) (hts (.initialized "java/lang/Math") (by decide +kernel)) (hts (.code Lib.Math.max.name Lib.Math.max.code 2 (some .int)) (by decide +kernel)) (Nat.le_of_ble_eq_true rfl) (Nat.le_of_ble_eq_true rfl) (Nat.le_of_ble_eq_true rfl) (Nat.le_of_ble_eq_true rfl) dX3_init_39 ?_
        refine m_iast hx hb hK hP hI hS 0 h_q1 rfl (vp_in_nI (by omega) (by omega)) dX3_init_42 (fun H locs hP hI hS => ?_)
        have h_T := mu_k (e := .inl (G.2.1 0, 20, .inl (upd (dboU p0 p1 k) ((nI k).toNatClampNeg) (m_max 1 (m_min 60 (p0 + ((nI k) * p1))))))) (kd_ne h_T h_q1 rfl) h_T
        have h_q1 : (mu Mv_loop q1 (.inl (G.2.1 0, 20, .inl (upd (dboU p0 p1 k) ((nI k).toNatClampNeg) (m_max 1 (m_min 60 (p0 + ((nI k) * p1)))))))) q1 = some (.inl (G.2.1 0, 20, .inl (upd (dboU p0 p1 k) ((nI k).toNatClampNeg) (m_max 1 (m_min 60 (p0 + ((nI k) * p1))))))) := mu_s
        refine lv_iinc (v := (nI k) + 1) (lv' := [(3, .int ((nI k) + 1)), (0, .ref t0), (1, .int p0), (2, .int p1)]) hx hb dX3_init_43 hl (k := 3) rfl rfl (by decide) rfl (fun ls hl => ?_)
        refine lv_goto (tgt := 14) hx hb dX3_init_46 (by decide) ?_
        have e_3 : (nI k) + 1 = nI (k + 1) := nI_1 k
        rw [e_3] at hl
        have e_h_q1 : (.inl (G.2.1 0, 20, .inl (upd (dboU p0 p1 k) ((nI k).toNatClampNeg) (m_max 1 (m_min 60 (p0 + ((nI k) * p1)))))) : va_E) = .inl (G.2.1 0, 20, .inl (dboU p0 p1 (k + 1))) := by rw [nI_clamp (show k < 2 ^ 31 by omega), ← dboU_s]; rfl
        exact ih_loop (k + 1) (by omega) (by omega) _ H locs ls (h_q1.trans (congrArg some e_h_q1)) (fun x h90 => (mu_n h90).trans (hfr_loop x h90)) hP hI hS (lv_sub hl [1, 2, 3, 0] rfl)
  exact loop (20 + 1 - 0) 0 (by omega) (by omega) _ _ _ _ (h_q1.trans (congrArg some (by rw [dboU_0 p0 p1]))) (fun _ _ => rfl) hP hI hS (lv_sub hl [1, 2, 3, 0] rfl)

