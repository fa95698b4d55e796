set_option maxHeartbeats 4000000 in
set_option maxRecDepth 100000 in
theorem c_X0_creepsInAll (l : Launch) (G : mg) (A : Nat → Prop) (Mw : mw)  {a0 t0 sc0 rd0 : Nat} {tn0 bu0 gl0 cr0 fi0 sm0 li0 in0 ga0 ke0 gr0 ce0 : Int32} (h_I : Mw a0 = some (.inr (3, [.int tn0, .ref t0, .int bu0, .int gl0, .ref sc0, .ref rd0, .int cr0, .int fi0, .int sm0, .int li0, .int in0, .int ga0, .int ke0, .int gr0, .int ce0]))) : Met l yX0_creepsInAll wsX0_creepsInAll ({ frames := 0, cells := 0, slots := 0, locals := 0 }) (va_Pc [.ref a0] (mB G A Mw)) (va_Qi (fun r Mw1 => r = (cia bu0 gl0) ∧ Mw1 = Mw) (mE G A) A) 0 0 A := by
  refine Met.ofW (cc := cX0_creepsInAll) (maxL := 1) (ret := (some .int)) (by decide) rfl ?_
  intro p e s m args below meth c s₁ B hml hv
  obtain ⟨rfl, hG, hP, hI, hA⟩ := hv
  have hx := B.exec
  have hb := B.bytes
  have hr := B.returns
  have hts := atoms_spec (ws := wsX0_creepsInAll) B.pre
  have hown : s.vm.findClass RX0 = some m.cls := findClass_of_methodNamed B.named
  have hlocks := B.notSynchronized
  have hK := hG.K
  have i_X0 : ∀ w ∈ wsX00, w ∈ wsX0_creepsInAll := by decide +kernel
  have hS : va_S A s.heap s.heap [] := va_S.rf
  have hl := lv_entry ([.ref a0]) (n := 1) (Nat.le_of_ble_eq_true rfl)
  rw [lg_entry_eq]
  generalize (lg_sl ([.ref a0]) ++ List.replicate (1 - (lg_sl ([.ref a0])).length) Slot.unset).toArray = ls at hl ⊢
  have hl : lv_has ls 1 [(0, .ref a0)] := hl
  have hP : mP G.1 Mw s.heap := hP
  refine lv_aload_n hx hb dX0_creepsInAll_0 rfl (lv_at hl 0 rfl) ?_
  refine m_get (ci := 3) (v := .int bu0) (C := RX0) (T := TX0) (N := 15) hx hb hts i_X0 hown hK (hP _ _ h_I) rfl 2 (by decide) (hts (.fieldLink RX0 36 "Meniscus$Instrument" "bulb" "I") (by decide +kernel)) (fun _ h9 => h9) rfl dX0_creepsInAll_1 ?_
  refine lv_aload_n hx hb dX0_creepsInAll_4 rfl (lv_at hl 0 rfl) ?_
  refine m_get (ci := 3) (v := .int gl0) (C := RX0) (T := TX0) (N := 15) hx hb hts i_X0 hown hK (hP _ _ h_I) rfl 3 (by decide) (hts (.fieldLink RX0 39 "Meniscus$Instrument" "glass" "C") (by decide +kernel)) (fun _ h9 => h9) rfl dX0_creepsInAll_5 ?_
  refine lv_bipush (v := (104)) hx hb dX0_creepsInAll_8 (by decide) ?_
  refine lv_icmp_ne (tgt := 17) hx hb dX0_creepsInAll_10 (by decide) (fun c1 => ?_) (fun c1 => ?_)
  · skip
    refine lv_bipush (v := (6)) hx hb dX0_creepsInAll_17 (by decide) ?_
    refine lv_imul hx hb dX0_creepsInAll_19 ?_
    refine lv_sipush (v := (1000)) hx hb dX0_creepsInAll_20 (by decide) ?_
    refine lv_idiv hx hb dX0_creepsInAll_23 (by decide) ?_
    refine W.widen (k := 0) (n := 0) (Nat.le_of_ble_eq_true rfl) (Nat.le_of_ble_eq_true rfl) ?_
    exact W.iret (v := (bu0 * 6) / 1000) hx hb hr (fun t99 ht99 hW99 => ⟨⟨(bu0 * 6) / 1000, Mw, rfl, ⟨by simp [cia, c1], rfl⟩, by rw [ht99]; exact hP, hI⟩, hS.F ht99⟩) hS.2.2 dX0_creepsInAll_24
  · skip
    refine lv_iconst (v := 2) hx hb dX0_creepsInAll_13 (by decide) ?_
    refine lv_goto (tgt := 19) hx hb dX0_creepsInAll_14 (by decide) ?_
    refine lv_imul hx hb dX0_creepsInAll_19 ?_
    refine lv_sipush (v := (1000)) hx hb dX0_creepsInAll_20 (by decide) ?_
    refine lv_idiv hx hb dX0_creepsInAll_23 (by decide) ?_
    refine W.widen (k := 0) (n := 0) (Nat.le_of_ble_eq_true rfl) (Nat.le_of_ble_eq_true rfl) ?_
    exact W.iret (v := (bu0 * 2) / 1000) hx hb hr (fun t99 ht99 hW99 => ⟨⟨(bu0 * 2) / 1000, Mw, rfl, ⟨by simp [cia, c1], rfl⟩, by rw [ht99]; exact hP, hI⟩, hS.F ht99⟩) hS.2.2 dX0_creepsInAll_24

set_option maxHeartbeats 4000000 in
set_option maxRecDepth 100000 in
theorem c_X0_liquidGrowth (l : Launch) (G : mg) (A : Nat → Prop) (Mw : mw)  {a0 t0 sc0 rd0 : Nat} {tn0 bu0 gl0 cr0 fi0 sm0 li0 in0 ga0 ke0 gr0 ce0 : Int32} (h_I : Mw a0 = some (.inr (3, [.int tn0, .ref t0, .int bu0, .int gl0, .ref sc0, .ref rd0, .int cr0, .int fi0, .int sm0, .int li0, .int in0, .int ga0, .int ke0, .int gr0, .int ce0]))) : Met l yX0_liquidGrowth wsX0_liquidGrowth ({ frames := 0, cells := 0, slots := 0, locals := 0 }) (va_Pc [.ref a0] (mB G A Mw)) (va_Qi (fun r Mw1 => r = (lgr li0) ∧ Mw1 = Mw) (mE G A) A) 0 0 A := by
  refine Met.ofW (cc := cX0_liquidGrowth) (maxL := 1) (ret := (some .int)) (by decide) rfl ?_
  intro p e s m args below meth c s₁ B hml hv
  obtain ⟨rfl, hG, hP, hI, hA⟩ := hv
  have hx := B.exec
  have hb := B.bytes
  have hr := B.returns
  have hts := atoms_spec (ws := wsX0_liquidGrowth) B.pre
  have hown : s.vm.findClass RX0 = some m.cls := findClass_of_methodNamed B.named
  have hlocks := B.notSynchronized
  have hK := hG.K
  have i_X0 : ∀ w ∈ wsX00, w ∈ wsX0_liquidGrowth := by decide +kernel
  have hS : va_S A s.heap s.heap [] := va_S.rf
  have hl := lv_entry ([.ref a0]) (n := 1) (Nat.le_of_ble_eq_true rfl)
  rw [lg_entry_eq]
  generalize (lg_sl ([.ref a0]) ++ List.replicate (1 - (lg_sl ([.ref a0])).length) Slot.unset).toArray = ls at hl ⊢
  have hl : lv_has ls 1 [(0, .ref a0)] := hl
  have hP : mP G.1 Mw s.heap := hP
  refine lv_aload_n hx hb dX0_liquidGrowth_0 rfl (lv_at hl 0 rfl) ?_
  refine m_get (ci := 3) (v := .int li0) (C := RX0) (T := TX0) (N := 15) hx hb hts i_X0 hown hK (hP _ _ h_I) rfl 9 (by decide) (hts (.fieldLink RX0 18 "Meniscus$Instrument" "liquid" "C") (by decide +kernel)) (fun _ h9 => h9) rfl dX0_liquidGrowth_1 ?_
  refine lv_bipush (v := (109)) hx hb dX0_liquidGrowth_4 (by decide) ?_
  refine lv_icmp_ne (tgt := 14) hx hb dX0_liquidGrowth_6 (by decide) (fun c1 => ?_) (fun c1 => ?_)
  · skip
    refine lv_bipush (v := (110)) hx hb dX0_liquidGrowth_14 (by decide) ?_
    refine W.widen (k := 0) (n := 0) (Nat.le_of_ble_eq_true rfl) (Nat.le_of_ble_eq_true rfl) ?_
    exact W.iret (v := 110) hx hb hr (fun t99 ht99 hW99 => ⟨⟨110, Mw, rfl, ⟨by simp [lgr, c1], rfl⟩, by rw [ht99]; exact hP, hI⟩, hS.F ht99⟩) hS.2.2 dX0_liquidGrowth_16
  · skip
    refine lv_bipush (v := (18)) hx hb dX0_liquidGrowth_9 (by decide) ?_
    refine lv_goto (tgt := 16) hx hb dX0_liquidGrowth_11 (by decide) ?_
    refine W.widen (k := 0) (n := 0) (Nat.le_of_ble_eq_true rfl) (Nat.le_of_ble_eq_true rfl) ?_
    exact W.iret (v := 18) hx hb hr (fun t99 ht99 hW99 => ⟨⟨18, Mw, rfl, ⟨by simp [lgr, c1], rfl⟩, by rw [ht99]; exact hP, hI⟩, hS.F ht99⟩) hS.2.2 dX0_liquidGrowth_16

set_option maxHeartbeats 4000000 in
set_option maxRecDepth 100000 in
theorem c_X0_glassGrowth (l : Launch) (G : mg) (A : Nat → Prop) (Mw : mw)  {a0 t0 sc0 rd0 : Nat} {tn0 bu0 gl0 cr0 fi0 sm0 li0 in0 ga0 ke0 gr0 ce0 : Int32} (h_I : Mw a0 = some (.inr (3, [.int tn0, .ref t0, .int bu0, .int gl0, .ref sc0, .ref rd0, .int cr0, .int fi0, .int sm0, .int li0, .int in0, .int ga0, .int ke0, .int gr0, .int ce0]))) : Met l yX0_glassGrowth wsX0_glassGrowth ({ frames := 0, cells := 0, slots := 0, locals := 0 }) (va_Pc [.ref a0] (mB G A Mw)) (va_Qi (fun r Mw1 => r = (ggr gl0) ∧ Mw1 = Mw) (mE G A) A) 0 0 A := by
  refine Met.ofW (cc := cX0_glassGrowth) (maxL := 1) (ret := (some .int)) (by decide) rfl ?_
  intro p e s m args below meth c s₁ B hml hv
  obtain ⟨rfl, hG, hP, hI, hA⟩ := hv
  have hx := B.exec
  have hb := B.bytes
  have hr := B.returns
  have hts := atoms_spec (ws := wsX0_glassGrowth) B.pre
  have hown : s.vm.findClass RX0 = some m.cls := findClass_of_methodNamed B.named
  have hlocks := B.notSynchronized
  have hK := hG.K
  have i_X0 : ∀ w ∈ wsX00, w ∈ wsX0_glassGrowth := by decide +kernel
  have hS : va_S A s.heap s.heap [] := va_S.rf
  have hl := lv_entry ([.ref a0]) (n := 1) (Nat.le_of_ble_eq_true rfl)
  rw [lg_entry_eq]
  generalize (lg_sl ([.ref a0]) ++ List.replicate (1 - (lg_sl ([.ref a0])).length) Slot.unset).toArray = ls at hl ⊢
  have hl : lv_has ls 1 [(0, .ref a0)] := hl
  have hP : mP G.1 Mw s.heap := hP
  refine lv_aload_n hx hb dX0_glassGrowth_0 rfl (lv_at hl 0 rfl) ?_
  refine m_get (ci := 3) (v := .int gl0) (C := RX0) (T := TX0) (N := 15) hx hb hts i_X0 hown hK (hP _ _ h_I) rfl 3 (by decide) (hts (.fieldLink RX0 39 "Meniscus$Instrument" "glass" "C") (by decide +kernel)) (fun _ h9 => h9) rfl dX0_glassGrowth_1 ?_
  refine lv_bipush (v := (104)) hx hb dX0_glassGrowth_4 (by decide) ?_
  refine lv_icmp_ne (tgt := 13) hx hb dX0_glassGrowth_6 (by decide) (fun c1 => ?_) (fun c1 => ?_)
  · skip
    refine lv_iconst (v := 3) hx hb dX0_glassGrowth_13 (by decide) ?_
    refine W.widen (k := 0) (n := 0) (Nat.le_of_ble_eq_true rfl) (Nat.le_of_ble_eq_true rfl) ?_
    exact W.iret (v := 3) hx hb hr (fun t99 ht99 hW99 => ⟨⟨3, Mw, rfl, ⟨by simp [ggr, c1], rfl⟩, by rw [ht99]; exact hP, hI⟩, hS.F ht99⟩) hS.2.2 dX0_glassGrowth_14
  · skip
    refine lv_iconst (v := 1) hx hb dX0_glassGrowth_9 (by decide) ?_
    refine lv_goto (tgt := 14) hx hb dX0_glassGrowth_10 (by decide) ?_
    refine W.widen (k := 0) (n := 0) (Nat.le_of_ble_eq_true rfl) (Nat.le_of_ble_eq_true rfl) ?_
    exact W.iret (v := 1) hx hb hr (fun t99 ht99 hW99 => ⟨⟨1, Mw, rfl, ⟨by simp [ggr, c1], rfl⟩, by rw [ht99]; exact hP, hI⟩, hS.F ht99⟩) hS.2.2 dX0_glassGrowth_14

set_option maxHeartbeats 4000000 in
set_option maxRecDepth 100000 in
theorem c_X0_mercuryInside (l : Launch) (G : mg) (A : Nat → Prop) (Mw : mw)  {a0 t0 sc0 rd0 : Nat} {tn0 bu0 gl0 cr0 fi0 sm0 li0 in0 ga0 ke0 gr0 ce0 : Int32} (h_I : Mw a0 = some (.inr (3, [.int tn0, .ref t0, .int bu0, .int gl0, .ref sc0, .ref rd0, .int cr0, .int fi0, .int sm0, .int li0, .int in0, .int ga0, .int ke0, .int gr0, .int ce0]))) : Met l yX0_mercuryInside wsX0_mercuryInside ({ frames := 0, cells := 0, slots := 0, locals := 0 }) (va_Pc [.ref a0] (mB G A Mw)) (va_Qi (fun r Mw1 => r = (if li0 = 109 then in0 else 0) ∧ Mw1 = Mw) (mE G A) A) 0 0 A := by
  refine Met.ofW (cc := cX0_mercuryInside) (maxL := 1) (ret := (some .int)) (by decide) rfl ?_
  intro p e s m args below meth c s₁ B hml hv
  obtain ⟨rfl, hG, hP, hI, hA⟩ := hv
  have hx := B.exec
  have hb := B.bytes
  have hr := B.returns
  have hts := atoms_spec (ws := wsX0_mercuryInside) B.pre
  have hown : s.vm.findClass RX0 = some m.cls := findClass_of_methodNamed B.named
  have hlocks := B.notSynchronized
  have hK := hG.K
  have i_X0 : ∀ w ∈ wsX00, w ∈ wsX0_mercuryInside := by decide +kernel
  have hS : va_S A s.heap s.heap [] := va_S.rf
  have hl := lv_entry ([.ref a0]) (n := 1) (Nat.le_of_ble_eq_true rfl)
  rw [lg_entry_eq]
  generalize (lg_sl ([.ref a0]) ++ List.replicate (1 - (lg_sl ([.ref a0])).length) Slot.unset).toArray = ls at hl ⊢
  have hl : lv_has ls 1 [(0, .ref a0)] := hl
  have hP : mP G.1 Mw s.heap := hP
  refine lv_aload_n hx hb dX0_mercuryInside_0 rfl (lv_at hl 0 rfl) ?_
  refine m_get (ci := 3) (v := .int li0) (C := RX0) (T := TX0) (N := 15) hx hb hts i_X0 hown hK (hP _ _ h_I) rfl 9 (by decide) (hts (.fieldLink RX0 18 "Meniscus$Instrument" "liquid" "C") (by decide +kernel)) (fun _ h9 => h9) rfl dX0_mercuryInside_1 ?_
  refine lv_bipush (v := (109)) hx hb dX0_mercuryInside_4 (by decide) ?_
  refine lv_icmp_ne (tgt := 16) hx hb dX0_mercuryInside_6 (by decide) (fun c1 => ?_) (fun c1 => ?_)
  · skip
    refine lv_iconst (v := 0) hx hb dX0_mercuryInside_16 (by decide) ?_
    refine W.widen (k := 0) (n := 0) (Nat.le_of_ble_eq_true rfl) (Nat.le_of_ble_eq_true rfl) ?_
    exact W.iret (v := 0) hx hb hr (fun t99 ht99 hW99 => ⟨⟨0, Mw, rfl, ⟨by simp [c1], rfl⟩, by rw [ht99]; exact hP, hI⟩, hS.F ht99⟩) hS.2.2 dX0_mercuryInside_17
  · skip
    refine lv_aload_n hx hb dX0_mercuryInside_9 rfl (lv_at hl 0 rfl) ?_
    refine m_get (ci := 3) (v := .int in0) (C := RX0) (T := TX0) (N := 15) hx hb hts i_X0 hown hK (hP _ _ h_I) rfl 10 (by decide) (hts (.fieldLink RX0 68 "Meniscus$Instrument" "inside" "I") (by decide +kernel)) (fun _ h9 => h9) rfl dX0_mercuryInside_10 ?_
    refine lv_goto (tgt := 17) hx hb dX0_mercuryInside_13 (by decide) ?_
    refine W.widen (k := 0) (n := 0) (Nat.le_of_ble_eq_true rfl) (Nat.le_of_ble_eq_true rfl) ?_
    exact W.iret (v := in0) hx hb hr (fun t99 ht99 hW99 => ⟨⟨in0, Mw, rfl, ⟨by simp [c1], rfl⟩, by rw [ht99]; exact hP, hI⟩, hS.F ht99⟩) hS.2.2 dX0_mercuryInside_17

set_option maxHeartbeats 4000000 in
set_option maxRecDepth 100000 in
theorem c_X0_holdsCertificateOn (l : Launch) (G : mg) (A : Nat → Prop) (Mw : mw) (p0 : Int32) {a0 t0 sc0 rd0 : Nat} {tn0 bu0 gl0 cr0 fi0 sm0 li0 in0 ga0 ke0 gr0 ce0 : Int32} (h_I : Mw a0 = some (.inr (3, [.int tn0, .ref t0, .int bu0, .int gl0, .ref sc0, .ref rd0, .int cr0, .int fi0, .int sm0, .int li0, .int in0, .int ga0, .int ke0, .int gr0, .int ce0]))) : Met l yX0_holdsCertificateOn wsX0_holdsCertificateOn ({ frames := 0, cells := 0, slots := 0, locals := 0 }) (va_Pc [.ref a0, .int p0] (mB G A Mw)) (va_Qi (fun r Mw1 => r = (crtO sm0 ce0 p0) ∧ Mw1 = Mw) (mE G A) A) 0 0 A := by
  refine Met.ofW (cc := cX0_holdsCertificateOn) (maxL := 2) (ret := (some .boolean)) (by decide) rfl ?_
  intro p e s m args below meth c s₁ B hml hv
  obtain ⟨rfl, hG, hP, hI, hA⟩ := hv
  have hx := B.exec
  have hb := B.bytes
  have hr := B.returns
  have hts := atoms_spec (ws := wsX0_holdsCertificateOn) B.pre
  have hown : s.vm.findClass RX0 = some m.cls := findClass_of_methodNamed B.named
  have hlocks := B.notSynchronized
  have hK := hG.K
  have i_X0 : ∀ w ∈ wsX00, w ∈ wsX0_holdsCertificateOn := by decide +kernel
  have hS : va_S A s.heap s.heap [] := va_S.rf
  have hl := lv_entry ([.ref a0, .int p0]) (n := 2) (Nat.le_of_ble_eq_true rfl)
  rw [lg_entry_eq]
  generalize (lg_sl ([.ref a0, .int p0]) ++ List.replicate (2 - (lg_sl ([.ref a0, .int p0])).length) Slot.unset).toArray = ls at hl ⊢
  have hl : lv_has ls 2 [(0, .ref a0), (1, .int p0)] := hl
  have hP : mP G.1 Mw s.heap := hP
  refine lv_aload_n hx hb dX0_holdsCertificateOn_0 rfl (lv_at hl 0 rfl) ?_
  refine m_get (ci := 3) (v := .int sm0) (C := RX0) (T := TX0) (N := 15) hx hb hts i_X0 hown hK (hP _ _ h_I) rfl 8 (by decide) (hts (.fieldLink RX0 71 "Meniscus$Instrument" "smashed" "Z") (by decide +kernel)) (fun _ h9 => h9) rfl dX0_holdsCertificateOn_1 ?_
  refine lv_if_ne (tgt := 19) hx hb dX0_holdsCertificateOn_4 (by decide) (fun c1 => ?_) (fun c1 => ?_)
  · skip
    refine lv_iconst (v := 0) hx hb dX0_holdsCertificateOn_19 (by decide) ?_
    refine W.widen (k := 0) (n := 0) (Nat.le_of_ble_eq_true rfl) (Nat.le_of_ble_eq_true rfl) ?_
    exact W.zret (v := 0) hx hb hr rfl (fun t99 ht99 hW99 => ⟨⟨0, Mw, rfl, ⟨by unfold crtO; rw [if_neg c1], rfl⟩, by rw [ht99]; exact hP, hI⟩, hS.F ht99⟩) hS.2.2 dX0_holdsCertificateOn_20
  · skip
    refine lv_iload_n hx hb dX0_holdsCertificateOn_7 rfl (lv_at hl 1 rfl) ?_
    refine lv_aload_n hx hb dX0_holdsCertificateOn_8 rfl (lv_at hl 0 rfl) ?_
    refine m_get (ci := 3) (v := .int ce0) (C := RX0) (T := TX0) (N := 15) hx hb hts i_X0 hown hK (hP _ _ h_I) rfl 14 (by decide) (hts (.fieldLink RX0 26 "Meniscus$Instrument" "certificateEnd" "I") (by decide +kernel)) (fun _ h9 => h9) rfl dX0_holdsCertificateOn_9 ?_
    refine lv_icmp_gt (tgt := 19) hx hb dX0_holdsCertificateOn_12 (by decide) (fun c2 => ?_) (fun c2 => ?_)
    · skip
      refine lv_iconst (v := 0) hx hb dX0_holdsCertificateOn_19 (by decide) ?_
      refine W.widen (k := 0) (n := 0) (Nat.le_of_ble_eq_true rfl) (Nat.le_of_ble_eq_true rfl) ?_
      exact W.zret (v := 0) hx hb hr rfl (fun t99 ht99 hW99 => ⟨⟨0, Mw, rfl, ⟨by unfold crtO; rw [if_pos c1, if_neg (i_nle c2)], rfl⟩, by rw [ht99]; exact hP, hI⟩, hS.F ht99⟩) hS.2.2 dX0_holdsCertificateOn_20
    · skip
      refine lv_iconst (v := 1) hx hb dX0_holdsCertificateOn_15 (by decide) ?_
      refine lv_goto (tgt := 20) hx hb dX0_holdsCertificateOn_16 (by decide) ?_
      refine W.widen (k := 0) (n := 0) (Nat.le_of_ble_eq_true rfl) (Nat.le_of_ble_eq_true rfl) ?_
      exact W.zret (v := 1) hx hb hr rfl (fun t99 ht99 hW99 => ⟨⟨1, Mw, rfl, ⟨by unfold crtO; rw [if_pos c1, if_pos (i_le c2)], rfl⟩, by rw [ht99]; exact hP, hI⟩, hS.F ht99⟩) hS.2.2 dX0_holdsCertificateOn_20

set_option maxHeartbeats 4000000 in
set_option maxRecDepth 100000 in
theorem c_X0_grown (l : Launch) (G : mg) (A : Nat → Prop) (Mw : mw) (p0 : Int64) (p1 p2 : Int32) : Met l yX0_grown wsX0_grown ({ frames := 0, cells := 0, slots := 0, locals := 0 }) (va_Pc [.long p0, .int p1, .int p2] (mB G A Mw)) (va_Ql (fun r Mw1 => r = (grw p0 p1 p2) ∧ Mw1 = Mw) (mE G A) A) 0 0 A := by
  refine Met.ofW (cc := cX0_grown) (maxL := 4) (ret := (some .long)) (by decide) rfl ?_
  intro p e s m args below meth c s₁ B hml hv
  obtain ⟨rfl, hG, hP, hI, hA⟩ := hv
  have hx := B.exec
  have hb := B.bytes
  have hr := B.returns
  have hts := atoms_spec (ws := wsX0_grown) B.pre
  have hown : s.vm.findClass RX0 = some m.cls := findClass_of_methodNamed B.named
  have hlocks := B.notSynchronized
  have hK := hG.K
  have hS : va_S A s.heap s.heap [] := va_S.rf
  have hl := lv_entry ([.long p0, .int p1, .int p2]) (n := 4) (Nat.le_of_ble_eq_true rfl)
  rw [lg_entry_eq]
  generalize (lg_sl ([.long p0, .int p1, .int p2]) ++ List.replicate (4 - (lg_sl ([.long p0, .int p1, .int p2])).length) Slot.unset).toArray = ls at hl ⊢
  have hl : lv_has ls 4 [(0, .long p0), (2, .int p1), (3, .int p2)] := hl
  have hP : mP G.1 Mw s.heap := hP
  refine lv_lload_n hx hb dX0_grown_0 rfl (lv_at hl 0 rfl) ?_
  refine lv_iload_n hx hb dX0_grown_1 rfl (lv_at hl 1 rfl) ?_
  refine lv_i2l (v := p1.toInt64) hx hb dX0_grown_2 rfl ?_
  refine lv_lmul hx hb dX0_grown_3 ?_
  refine lv_iload_n hx hb dX0_grown_4 rfl (lv_at hl 2 rfl) ?_
  refine lv_i2l (v := p2.toInt64) hx hb dX0_grown_5 rfl ?_
  refine lv_lmul hx hb dX0_grown_6 ?_
  refine lv_ldc2 (v := 1000000) hx hb hown (hts (.constantLong RX0 92 (1000000)) (by decide +kernel)) dX0_grown_7 ?_
  refine lv_ldiv hx hb dX0_grown_10 (by decide) ?_
  refine W.widen (k := 0) (n := 0) (Nat.le_of_ble_eq_true rfl) (Nat.le_of_ble_eq_true rfl) ?_
  exact W.lret (v := ((p0 * p1.toInt64) * p2.toInt64) / 1000000) hx hb hr (fun t99 ht99 hW99 => ⟨⟨((p0 * p1.toInt64) * p2.toInt64) / 1000000, Mw, rfl, ⟨rfl, rfl⟩, by rw [ht99]; exact hP, hI⟩, hS.F ht99⟩) hS.2.2 dX0_grown_11

set_option maxHeartbeats 4000000 in
set_option maxRecDepth 100000 in
theorem c_X0_fillWith (l : Launch) (G : mg) (A : Nat → Prop) (Mw : mw) (p0 p1 : Int32) (hch : narrow .char (.int p0) = .int p0 ∧ fits .char (.int p0) = true) {a0 t0 sc0 rd0 : Nat} {tn0 bu0 gl0 cr0 fi0 sm0 li0 in0 ga0 ke0 gr0 ce0 : Int32} (h_I : Mw a0 = some (.inr (3, [.int tn0, .ref t0, .int bu0, .int gl0, .ref sc0, .ref rd0, .int cr0, .int fi0, .int sm0, .int li0, .int in0, .int ga0, .int ke0, .int gr0, .int ce0]))) : Met l yX0_fillWith wsX0_fillWith ({ frames := 0, cells := 0, slots := 0, locals := 0 }) (va_Pc [.ref a0, .int p0, .int p1] (mB G A Mw)) (va_Qv (fun Mw1 => Mw1 = mu Mw a0 (.inr (3, [.int tn0, .ref t0, .int bu0, .int gl0, .ref sc0, .ref rd0, .int cr0, .int 1, .int sm0, .int p0, .int p1, .int ga0, .int ke0, .int gr0, .int ce0]))) (mE G A) A) 0 0 A := by
  refine Met.ofW (cc := cX0_fillWith) (maxL := 3) (ret := none) (by decide) rfl ?_
  intro p e s m args below meth c s₁ B hml hv
  obtain ⟨rfl, hG, hP, hI, hA⟩ := hv
  have hx := B.exec
  have hb := B.bytes
  have hr := B.returns
  have hts := atoms_spec (ws := wsX0_fillWith) B.pre
  have hown : s.vm.findClass RX0 = some m.cls := findClass_of_methodNamed B.named
  have hlocks := B.notSynchronized
  have hK := hG.K
  have i_X0 : ∀ w ∈ wsX00, w ∈ wsX0_fillWith := by decide +kernel
  have hS : va_S A s.heap s.heap [] := va_S.rf
  have hl := lv_entry ([.ref a0, .int p0, .int p1]) (n := 3) (Nat.le_of_ble_eq_true rfl)
  rw [lg_entry_eq]
  generalize (lg_sl ([.ref a0, .int p0, .int p1]) ++ List.replicate (3 - (lg_sl ([.ref a0, .int p0, .int p1])).length) Slot.unset).toArray = ls at hl ⊢
  have hl : lv_has ls 3 [(0, .ref a0), (1, .int p0), (2, .int p1)] := hl
  have hP : mP G.1 Mw s.heap := hP
  refine lv_aload_n hx hb dX0_fillWith_0 rfl (lv_at hl 0 rfl) ?_
  refine lv_iconst (v := 1) hx hb dX0_fillWith_1 (by decide) ?_
  refine m_put (ci := 3) (v := .int 1) (ty := .boolean) (C := RX0) (T := TX0) (N := 15) hx hb hts i_X0 tyX0 tyX0_ok nmX0 hown hK hP hI hS h_I rfl 7 (by decide) (hts (.fieldLink RX0 64 "Meniscus$Instrument" "filled" "Z") (by decide +kernel)) (fun _ h9 => h9) rfl (by decide +kernel) rfl rfl (Nat.le_of_ble_eq_true rfl) dX0_fillWith_2 (fun H locs hP hI hS => ?_)
  have hP : mP G.1 (mu Mw a0 (.inr (3, [.int tn0, .ref t0, .int bu0, .int gl0, .ref sc0, .ref rd0, .int cr0, .int 1, .int sm0, .int li0, .int in0, .int ga0, .int ke0, .int gr0, .int ce0]))) H := hP
  have hI : mI A (mu Mw a0 (.inr (3, [.int tn0, .ref t0, .int bu0, .int gl0, .ref sc0, .ref rd0, .int cr0, .int 1, .int sm0, .int li0, .int in0, .int ga0, .int ke0, .int gr0, .int ce0]))) := hI
  have h_I : (mu Mw a0 (.inr (3, [.int tn0, .ref t0, .int bu0, .int gl0, .ref sc0, .ref rd0, .int cr0, .int 1, .int sm0, .int li0, .int in0, .int ga0, .int ke0, .int gr0, .int ce0]))) a0 = some (.inr (3, [.int tn0, .ref t0, .int bu0, .int gl0, .ref sc0, .ref rd0, .int cr0, .int 1, .int sm0, .int li0, .int in0, .int ga0, .int ke0, .int gr0, .int ce0])) := mu_s
  refine lv_aload_n hx hb dX0_fillWith_5 rfl (lv_at hl 0 rfl) ?_
  refine lv_iload_n hx hb dX0_fillWith_6 rfl (lv_at hl 1 rfl) ?_
  refine m_put (ci := 3) (v := .int p0) (ty := .char) (C := RX0) (T := TX0) (N := 15) hx hb hts i_X0 tyX0 tyX0_ok nmX0 hown hK hP hI hS h_I rfl 9 (by decide) (hts (.fieldLink RX0 18 "Meniscus$Instrument" "liquid" "C") (by decide +kernel)) (fun _ h9 => h9) rfl (by decide +kernel) hch.1 hch.2 (Nat.le_of_ble_eq_true rfl) dX0_fillWith_7 (fun H locs hP hI hS => ?_)
  have hP : mP G.1 (mu (mu Mw a0 (.inr (3, [.int tn0, .ref t0, .int bu0, .int gl0, .ref sc0, .ref rd0, .int cr0, .int 1, .int sm0, .int li0, .int in0, .int ga0, .int ke0, .int gr0, .int ce0]))) a0 (.inr (3, [.int tn0, .ref t0, .int bu0, .int gl0, .ref sc0, .ref rd0, .int cr0, .int 1, .int sm0, .int p0, .int in0, .int ga0, .int ke0, .int gr0, .int ce0]))) H := hP
  have hI : mI A (mu (mu Mw a0 (.inr (3, [.int tn0, .ref t0, .int bu0, .int gl0, .ref sc0, .ref rd0, .int cr0, .int 1, .int sm0, .int li0, .int in0, .int ga0, .int ke0, .int gr0, .int ce0]))) a0 (.inr (3, [.int tn0, .ref t0, .int bu0, .int gl0, .ref sc0, .ref rd0, .int cr0, .int 1, .int sm0, .int p0, .int in0, .int ga0, .int ke0, .int gr0, .int ce0]))) := hI
  rw [mu_uu] at hP hI 
  have h_I : (mu Mw a0 (.inr (3, [.int tn0, .ref t0, .int bu0, .int gl0, .ref sc0, .ref rd0, .int cr0, .int 1, .int sm0, .int p0, .int in0, .int ga0, .int ke0, .int gr0, .int ce0]))) a0 = some (.inr (3, [.int tn0, .ref t0, .int bu0, .int gl0, .ref sc0, .ref rd0, .int cr0, .int 1, .int sm0, .int p0, .int in0, .int ga0, .int ke0, .int gr0, .int ce0])) := mu_s
  refine lv_aload_n hx hb dX0_fillWith_10 rfl (lv_at hl 0 rfl) ?_
  refine lv_iload_n hx hb dX0_fillWith_11 rfl (lv_at hl 2 rfl) ?_
  refine m_put (ci := 3) (v := .int p1) (ty := .int) (C := RX0) (T := TX0) (N := 15) hx hb hts i_X0 tyX0 tyX0_ok nmX0 hown hK hP hI hS h_I rfl 10 (by decide) (hts (.fieldLink RX0 68 "Meniscus$Instrument" "inside" "I") (by decide +kernel)) (fun _ h9 => h9) rfl (by decide +kernel) rfl rfl (Nat.le_of_ble_eq_true rfl) dX0_fillWith_12 (fun H locs hP hI hS => ?_)
  have hP : mP G.1 (mu (mu Mw a0 (.inr (3, [.int tn0, .ref t0, .int bu0, .int gl0, .ref sc0, .ref rd0, .int cr0, .int 1, .int sm0, .int p0, .int in0, .int ga0, .int ke0, .int gr0, .int ce0]))) a0 (.inr (3, [.int tn0, .ref t0, .int bu0, .int gl0, .ref sc0, .ref rd0, .int cr0, .int 1, .int sm0, .int p0, .int p1, .int ga0, .int ke0, .int gr0, .int ce0]))) H := hP
  have hI : mI A (mu (mu Mw a0 (.inr (3, [.int tn0, .ref t0, .int bu0, .int gl0, .ref sc0, .ref rd0, .int cr0, .int 1, .int sm0, .int p0, .int in0, .int ga0, .int ke0, .int gr0, .int ce0]))) a0 (.inr (3, [.int tn0, .ref t0, .int bu0, .int gl0, .ref sc0, .ref rd0, .int cr0, .int 1, .int sm0, .int p0, .int p1, .int ga0, .int ke0, .int gr0, .int ce0]))) := hI
  rw [mu_uu] at hP hI 
  have h_I : (mu Mw a0 (.inr (3, [.int tn0, .ref t0, .int bu0, .int gl0, .ref sc0, .ref rd0, .int cr0, .int 1, .int sm0, .int p0, .int p1, .int ga0, .int ke0, .int gr0, .int ce0]))) a0 = some (.inr (3, [.int tn0, .ref t0, .int bu0, .int gl0, .ref sc0, .ref rd0, .int cr0, .int 1, .int sm0, .int p0, .int p1, .int ga0, .int ke0, .int gr0, .int ce0])) := mu_s
  refine W.widen (k := 0) (n := 0) (Nat.le_of_ble_eq_true rfl) (Nat.le_of_ble_eq_true rfl) ?_
  exact W.vret hx hb hr (fun t99 ht99 hW99 => ⟨⟨(mu Mw a0 (.inr (3, [.int tn0, .ref t0, .int bu0, .int gl0, .ref sc0, .ref rd0, .int cr0, .int 1, .int sm0, .int p0, .int p1, .int ga0, .int ke0, .int gr0, .int ce0]))), rfl, rfl, by rw [ht99]; exact hP, hI⟩, hS.F ht99⟩) hS.2.2 dX0_fillWith_15

set_option maxHeartbeats 4000000 in
set_option maxRecDepth 100000 in
theorem c_X0_breakUp (l : Launch) (G : mg) (A : Nat → Prop) (Mw : mw) {a0 t0 sc0 rd0 : Nat} {tn0 bu0 gl0 cr0 fi0 sm0 li0 in0 ga0 ke0 gr0 ce0 : Int32} (h_I : Mw a0 = some (.inr (3, [.int tn0, .ref t0, .int bu0, .int gl0, .ref sc0, .ref rd0, .int cr0, .int fi0, .int sm0, .int li0, .int in0, .int ga0, .int ke0, .int gr0, .int ce0]))) : Met l yX0_breakUp wsX0_breakUp ({ frames := 0, cells := 0, slots := 0, locals := 0 }) (va_Pc [.ref a0] (mB G A Mw)) (va_Qv (fun Mw1 => Mw1 = mu Mw a0 (.inr (3, [.int tn0, .ref t0, .int bu0, .int gl0, .ref sc0, .ref rd0, .int cr0, .int 0, .int 1, .int li0, .int 0, .int ga0, .int ke0, .int gr0, .int ce0]))) (mE G A) A) 0 0 A := by
  refine Met.ofW (cc := cX0_breakUp) (maxL := 1) (ret := none) (by decide) rfl ?_
  intro p e s m args below meth c s₁ B hml hv
  obtain ⟨rfl, hG, hP, hI, hA⟩ := hv
  have hx := B.exec
  have hb := B.bytes
  have hr := B.returns
  have hts := atoms_spec (ws := wsX0_breakUp) B.pre
  have hown : s.vm.findClass RX0 = some m.cls := findClass_of_methodNamed B.named
  have hlocks := B.notSynchronized
  have hK := hG.K
  have i_X0 : ∀ w ∈ wsX00, w ∈ wsX0_breakUp := by decide +kernel
  have hS : va_S A s.heap s.heap [] := va_S.rf
  have hl := lv_entry ([.ref a0]) (n := 1) (Nat.le_of_ble_eq_true rfl)
  rw [lg_entry_eq]
  generalize (lg_sl ([.ref a0]) ++ List.replicate (1 - (lg_sl ([.ref a0])).length) Slot.unset).toArray = ls at hl ⊢
  have hl : lv_has ls 1 [(0, .ref a0)] := hl
  have hP : mP G.1 Mw s.heap := hP
  refine lv_aload_n hx hb dX0_breakUp_0 rfl (lv_at hl 0 rfl) ?_
  refine lv_iconst (v := 1) hx hb dX0_breakUp_1 (by decide) ?_
  refine m_put (ci := 3) (v := .int 1) (ty := .boolean) (C := RX0) (T := TX0) (N := 15) hx hb hts i_X0 tyX0 tyX0_ok nmX0 hown hK hP hI hS h_I rfl 8 (by decide) (hts (.fieldLink RX0 71 "Meniscus$Instrument" "smashed" "Z") (by decide +kernel)) (fun _ h9 => h9) rfl (by decide +kernel) rfl rfl (Nat.le_of_ble_eq_true rfl) dX0_breakUp_2 (fun H locs hP hI hS => ?_)
  have hP : mP G.1 (mu Mw a0 (.inr (3, [.int tn0, .ref t0, .int bu0, .int gl0, .ref sc0, .ref rd0, .int cr0, .int fi0, .int 1, .int li0, .int in0, .int ga0, .int ke0, .int gr0, .int ce0]))) H := hP
  have hI : mI A (mu Mw a0 (.inr (3, [.int tn0, .ref t0, .int bu0, .int gl0, .ref sc0, .ref rd0, .int cr0, .int fi0, .int 1, .int li0, .int in0, .int ga0, .int ke0, .int gr0, .int ce0]))) := hI
  have h_I : (mu Mw a0 (.inr (3, [.int tn0, .ref t0, .int bu0, .int gl0, .ref sc0, .ref rd0, .int cr0, .int fi0, .int 1, .int li0, .int in0, .int ga0, .int ke0, .int gr0, .int ce0]))) a0 = some (.inr (3, [.int tn0, .ref t0, .int bu0, .int gl0, .ref sc0, .ref rd0, .int cr0, .int fi0, .int 1, .int li0, .int in0, .int ga0, .int ke0, .int gr0, .int ce0])) := mu_s
  refine lv_aload_n hx hb dX0_breakUp_5 rfl (lv_at hl 0 rfl) ?_
  refine lv_iconst (v := 0) hx hb dX0_breakUp_6 (by decide) ?_
  refine m_put (ci := 3) (v := .int 0) (ty := .boolean) (C := RX0) (T := TX0) (N := 15) hx hb hts i_X0 tyX0 tyX0_ok nmX0 hown hK hP hI hS h_I rfl 7 (by decide) (hts (.fieldLink RX0 64 "Meniscus$Instrument" "filled" "Z") (by decide +kernel)) (fun _ h9 => h9) rfl (by decide +kernel) rfl rfl (Nat.le_of_ble_eq_true rfl) dX0_breakUp_7 (fun H locs hP hI hS => ?_)
  have hP : mP G.1 (mu (mu Mw a0 (.inr (3, [.int tn0, .ref t0, .int bu0, .int gl0, .ref sc0, .ref rd0, .int cr0, .int fi0, .int 1, .int li0, .int in0, .int ga0, .int ke0, .int gr0, .int ce0]))) a0 (.inr (3, [.int tn0, .ref t0, .int bu0, .int gl0, .ref sc0, .ref rd0, .int cr0, .int 0, .int 1, .int li0, .int in0, .int ga0, .int ke0, .int gr0, .int ce0]))) H := hP
  have hI : mI A (mu (mu Mw a0 (.inr (3, [.int tn0, .ref t0, .int bu0, .int gl0, .ref sc0, .ref rd0, .int cr0, .int fi0, .int 1, .int li0, .int in0, .int ga0, .int ke0, .int gr0, .int ce0]))) a0 (.inr (3, [.int tn0, .ref t0, .int bu0, .int gl0, .ref sc0, .ref rd0, .int cr0, .int 0, .int 1, .int li0, .int in0, .int ga0, .int ke0, .int gr0, .int ce0]))) := hI
  rw [mu_uu] at hP hI 
  have h_I : (mu Mw a0 (.inr (3, [.int tn0, .ref t0, .int bu0, .int gl0, .ref sc0, .ref rd0, .int cr0, .int 0, .int 1, .int li0, .int in0, .int ga0, .int ke0, .int gr0, .int ce0]))) a0 = some (.inr (3, [.int tn0, .ref t0, .int bu0, .int gl0, .ref sc0, .ref rd0, .int cr0, .int 0, .int 1, .int li0, .int in0, .int ga0, .int ke0, .int gr0, .int ce0])) := mu_s
  refine lv_aload_n hx hb dX0_breakUp_10 rfl (lv_at hl 0 rfl) ?_
  refine lv_iconst (v := 0) hx hb dX0_breakUp_11 (by decide) ?_
  refine m_put (ci := 3) (v := .int 0) (ty := .int) (C := RX0) (T := TX0) (N := 15) hx hb hts i_X0 tyX0 tyX0_ok nmX0 hown hK hP hI hS h_I rfl 10 (by decide) (hts (.fieldLink RX0 68 "Meniscus$Instrument" "inside" "I") (by decide +kernel)) (fun _ h9 => h9) rfl (by decide +kernel) rfl rfl (Nat.le_of_ble_eq_true rfl) dX0_breakUp_12 (fun H locs hP hI hS => ?_)
  have hP : mP G.1 (mu (mu Mw a0 (.inr (3, [.int tn0, .ref t0, .int bu0, .int gl0, .ref sc0, .ref rd0, .int cr0, .int 0, .int 1, .int li0, .int in0, .int ga0, .int ke0, .int gr0, .int ce0]))) a0 (.inr (3, [.int tn0, .ref t0, .int bu0, .int gl0, .ref sc0, .ref rd0, .int cr0, .int 0, .int 1, .int li0, .int 0, .int ga0, .int ke0, .int gr0, .int ce0]))) H := hP
  have hI : mI A (mu (mu Mw a0 (.inr (3, [.int tn0, .ref t0, .int bu0, .int gl0, .ref sc0, .ref rd0, .int cr0, .int 0, .int 1, .int li0, .int in0, .int ga0, .int ke0, .int gr0, .int ce0]))) a0 (.inr (3, [.int tn0, .ref t0, .int bu0, .int gl0, .ref sc0, .ref rd0, .int cr0, .int 0, .int 1, .int li0, .int 0, .int ga0, .int ke0, .int gr0, .int ce0]))) := hI
  rw [mu_uu] at hP hI 
  have h_I : (mu Mw a0 (.inr (3, [.int tn0, .ref t0, .int bu0, .int gl0, .ref sc0, .ref rd0, .int cr0, .int 0, .int 1, .int li0, .int 0, .int ga0, .int ke0, .int gr0, .int ce0]))) a0 = some (.inr (3, [.int tn0, .ref t0, .int bu0, .int gl0, .ref sc0, .ref rd0, .int cr0, .int 0, .int 1, .int li0, .int 0, .int ga0, .int ke0, .int gr0, .int ce0])) := mu_s
  refine W.widen (k := 0) (n := 0) (Nat.le_of_ble_eq_true rfl) (Nat.le_of_ble_eq_true rfl) ?_
  exact W.vret hx hb hr (fun t99 ht99 hW99 => ⟨⟨(mu Mw a0 (.inr (3, [.int tn0, .ref t0, .int bu0, .int gl0, .ref sc0, .ref rd0, .int cr0, .int 0, .int 1, .int li0, .int 0, .int ga0, .int ke0, .int gr0, .int ce0]))), rfl, rfl, by rw [ht99]; exact hP, hI⟩, hS.F ht99⟩) hS.2.2 dX0_breakUp_15

set_option maxHeartbeats 4000000 in
set_option maxRecDepth 100000 in
theorem c_X0_creep (l : Launch) (G : mg) (A : Nat → Prop) (Mw : mw) (d9 : Nat) (hd9 : d9 < 2 ^ 30) {a0 t0 sc0 rd0 : Nat} {tn0 bu0 gl0 cr0 fi0 sm0 li0 in0 ga0 ke0 gr0 ce0 : Int32} (h_I : Mw a0 = some (.inr (3, [.int tn0, .ref t0, .int bu0, .int gl0, .ref sc0, .ref rd0, .int cr0, .int fi0, .int sm0, .int li0, .int in0, .int ga0, .int ke0, .int gr0, .int ce0]))) : Met l yX0_creep wsX0_creep ({ frames := 1, cells := 0, slots := 0, locals := 20 }) (va_Pc [.ref a0, .int (nI d9)] (mB G A Mw)) (va_Qv (fun Mw1 => Mw1 = mu Mw a0 (.inr (3, [.int tn0, .ref t0, .int bu0, .int gl0, .ref sc0, .ref rd0, .int (crp bu0 gl0 cr0 d9), .int fi0, .int sm0, .int li0, .int in0, .int ga0, .int ke0, .int gr0, .int ce0]))) (mE G A) A) 0 0 A := by
  refine Met.ofW (cc := cX0_creep) (maxL := 3) (ret := none) (by decide) rfl ?_
  intro p e s m args below meth c s₁ B hml hv
  obtain ⟨rfl, hG, hP, hI, hA⟩ := hv
  have hx := B.exec
  have hb := B.bytes
  have hr := B.returns
  have hts := atoms_spec (ws := wsX0_creep) B.pre
  have hown : s.vm.findClass RX0 = some m.cls := findClass_of_methodNamed B.named
  have hlocks := B.notSynchronized
  have hK := hG.K
  have i_X0 : ∀ w ∈ wsX00, w ∈ wsX0_creep := by decide +kernel
  have hS : va_S A s.heap s.heap [] := va_S.rf
  have hl := lv_entry ([.ref a0, .int (nI d9)]) (n := 3) (Nat.le_of_ble_eq_true rfl)
  rw [lg_entry_eq]
  generalize (lg_sl ([.ref a0, .int (nI d9)]) ++ List.replicate (3 - (lg_sl ([.ref a0, .int (nI d9)])).length) Slot.unset).toArray = ls at hl ⊢
  have hl : lv_has ls 3 [(0, .ref a0), (1, .int (nI d9))] := hl
  have hP : mP G.1 Mw s.heap := hP
  refine lv_iconst (v := 0) hx hb dX0_creep_0 (by decide) ?_
  refine lv_istore_n (lv' := [(2, .int 0), (0, .ref a0), (1, .int (nI d9))]) hx hb dX0_creep_1 rfl hl (by decide) rfl (fun ls hl => ?_)
  have loop : ∀ (n k : Nat), k ≤ d9 → k + n = d9 + 1 → ∀ (Mv_loop : mw) (H : Heap) (locs : List Loc) (ls : Array Slot), Mv_loop a0 = some (.inr (3, [.int tn0, .ref t0, .int bu0, .int gl0, .ref sc0, .ref rd0, .int (crp bu0 gl0 cr0 k), .int fi0, .int sm0, .int li0, .int in0, .int ga0, .int ke0, .int gr0, .int ce0])) → (∀ x : Nat, x ≠ a0 → Mv_loop x = (Mw) x) → mP G.1 Mv_loop H → mI A Mv_loop → va_S A s.heap H locs → lv_has ls 3 [(0, .ref a0), (1, .int (nI d9)), (2, .int (nI k))] → W p l e ({ frames := 1, cells := 0, slots := 0, locals := 20 }) s m ([.ref a0, .int (nI d9)] : List Value).toArray below meth c H locs 0 0 (MQ below (va_Qv (fun Mw1 => Mw1 = mu Mw a0 (.inr (3, [.int tn0, .ref t0, .int bu0, .int gl0, .ref sc0, .ref rd0, .int (crp bu0 gl0 cr0 d9), .int fi0, .int sm0, .int li0, .int in0, .int ga0, .int ke0, .int gr0, .int ce0]))) (mE G A) A) ([.ref a0, .int (nI d9)] : List Value).toArray s 0 0 A) (F0 m 2 ls []) := by
    intro n
    induction n with
    | zero => intro k hk1 hk2; omega
    | succ n ih_loop =>
      intro k hk1 hk2 Mv_loop H locs ls h_I hfr_loop hP hI hS hl
      refine lv_iload_n hx hb dX0_creep_2 rfl (lv_at hl 2 rfl) ?_
      refine lv_iload_n hx hb dX0_creep_3 rfl (lv_at hl 1 rfl) ?_
      refine lv_icmp_ge (tgt := 37) hx hb dX0_creep_4 (by decide) (fun c1 => ?_) (fun c1 => ?_)
      · skip
        have hk3 : d9 ≤ k := (nI_leI (by omega) (by omega)).mp c1
        obtain rfl : k = d9 := by omega
        have hMv := mw_ext1 h_I hfr_loop
        refine W.widen (k := 0) (n := 0) (Nat.le_of_ble_eq_true rfl) (Nat.le_of_ble_eq_true rfl) ?_
        exact W.vret hx hb hr (fun t99 ht99 hW99 => ⟨⟨Mv_loop, rfl, hMv, by rw [ht99]; exact hP, hI⟩, hS.F ht99⟩) hS.2.2 dX0_creep_37
      · skip
        have hk3 : k < d9 := Nat.lt_of_not_le (fun q => c1 (nI_le q (by omega)))
        refine lv_aload_n hx hb dX0_creep_7 rfl (lv_at hl 0 rfl) ?_
        refine lv_dup hx hb dX0_creep_8 rfl ?_
        refine m_get (ci := 3) (v := .int (crp bu0 gl0 cr0 k)) (C := RX0) (T := TX0) (N := 15) hx hb hts i_X0 hown hK (hP _ _ h_I) rfl 6 (by decide) (hts (.fieldLink RX0 51 "Meniscus$Instrument" "crept" "I") (by decide +kernel)) (fun _ h9 => h9) rfl dX0_creep_9 ?_
        refine lv_aload_n hx hb dX0_creep_12 rfl (lv_at hl 0 rfl) ?_
        refine m_calli (va_runV (As := []) (rest := [.int (crp bu0 gl0 cr0 k), .ref a0]) ⟨hx, hb, hml, hown, hts⟩ (c_X0_creepsInAll l G A Mv_loop  h_I) (cwV 0 hts gX0_creep_X0_creepsInAll rfl rfl rfl (by decide +kernel) ⟨Nat.le_of_ble_eq_true rfl, Nat.le_of_ble_eq_true rfl⟩) (mPreV hG hS hP hI hA (hP _ _ h_I) (r := (RX0, TX0, 15)) rfl) rfl rfl hl.1 rfl (lv_room (Nat.le_of_ble_eq_true rfl)) dX0_creep_13 ⟨Nat.le_of_ble_eq_true rfl, Nat.le_of_ble_eq_true rfl⟩) hS (fun r2 Mw1 H locs hp_r2 hP hI hS => ?_)
        obtain ⟨hp_r2, hm9⟩ := hp_r2
        subst Mw1
        refine lv_aload_n hx hb dX0_creep_16 rfl (lv_at hl 0 rfl) ?_
        refine m_get (ci := 3) (v := .int (crp bu0 gl0 cr0 k)) (C := RX0) (T := TX0) (N := 15) hx hb hts i_X0 hown hK (hP _ _ h_I) rfl 6 (by decide) (hts (.fieldLink RX0 51 "Meniscus$Instrument" "crept" "I") (by decide +kernel)) (fun _ h9 => h9) rfl dX0_creep_17 ?_
        refine lv_isub hx hb dX0_creep_20 ?_
        refine lv_bipush (v := (19)) hx hb dX0_creep_21 (by decide) ?_
        refine lv_iadd hx hb dX0_creep_23 ?_
        refine lv_bipush (v := (20)) hx hb dX0_creep_24 (by decide) ?_
        refine lv_idiv hx hb dX0_creep_26 (by decide) ?_
        refine lv_iadd hx hb dX0_creep_27 ?_
        refine m_put (ci := 3) (v := .int ((crp bu0 gl0 cr0 k) + (((r2 - (crp bu0 gl0 cr0 k)) + 19) / 20))) (ty := .int) (C := RX0) (T := TX0) (N := 15) hx hb hts i_X0 tyX0 tyX0_ok nmX0 hown hK hP hI hS h_I rfl 6 (by decide) (hts (.fieldLink RX0 51 "Meniscus$Instrument" "crept" "I") (by decide +kernel)) (fun _ h9 => h9) rfl (by decide +kernel) rfl rfl (Nat.le_of_ble_eq_true rfl) dX0_creep_28 (fun H locs hP hI hS => ?_)
        have hP : mP G.1 (mu Mv_loop a0 (.inr (3, [.int tn0, .ref t0, .int bu0, .int gl0, .ref sc0, .ref rd0, .int ((crp bu0 gl0 cr0 k) + (((r2 - (crp bu0 gl0 cr0 k)) + 19) / 20)), .int fi0, .int sm0, .int li0, .int in0, .int ga0, .int ke0, .int gr0, .int ce0]))) H := hP
        have hI : mI A (mu Mv_loop a0 (.inr (3, [.int tn0, .ref t0, .int bu0, .int gl0, .ref sc0, .ref rd0, .int ((crp bu0 gl0 cr0 k) + (((r2 - (crp bu0 gl0 cr0 k)) + 19) / 20)), .int fi0, .int sm0, .int li0, .int in0, .int ga0, .int ke0, .int gr0, .int ce0]))) := hI
        have h_I : (mu Mv_loop a0 (.inr (3, [.int tn0, .ref t0, .int bu0, .int gl0, .ref sc0, .ref rd0, .int ((crp bu0 gl0 cr0 k) + (((r2 - (crp bu0 gl0 cr0 k)) + 19) / 20)), .int fi0, .int sm0, .int li0, .int in0, .int ga0, .int ke0, .int gr0, .int ce0]))) a0 = some (.inr (3, [.int tn0, .ref t0, .int bu0, .int gl0, .ref sc0, .ref rd0, .int ((crp bu0 gl0 cr0 k) + (((r2 - (crp bu0 gl0 cr0 k)) + 19) / 20)), .int fi0, .int sm0, .int li0, .int in0, .int ga0, .int ke0, .int gr0, .int ce0])) := mu_s
        refine lv_iinc (v := (nI k) + 1) (lv' := [(2, .int ((nI k) + 1)), (0, .ref a0), (1, .int (nI d9))]) hx hb dX0_creep_31 hl (k := 2) rfl rfl (by decide) rfl (fun ls hl => ?_)
        refine lv_goto (tgt := 2) hx hb dX0_creep_34 (by decide) ?_
        have e_2 : (nI k) + 1 = nI (k + 1) := nI_1 k
        rw [e_2] at hl
        have e_h_I : (.inr (3, [.int tn0, .ref t0, .int bu0, .int gl0, .ref sc0, .ref rd0, .int ((crp bu0 gl0 cr0 k) + (((r2 - (crp bu0 gl0 cr0 k)) + 19) / 20)), .int fi0, .int sm0, .int li0, .int in0, .int ga0, .int ke0, .int gr0, .int ce0]) : va_E) = .inr (3, [.int tn0, .ref t0, .int bu0, .int gl0, .ref sc0, .ref rd0, .int (crp bu0 gl0 cr0 (k + 1)), .int fi0, .int sm0, .int li0, .int in0, .int ga0, .int ke0, .int gr0, .int ce0]) := by rw [hp_r2]; rfl
        exact ih_loop (k + 1) (by omega) (by omega) _ H locs ls (h_I.trans (congrArg some e_h_I)) (fun x h90 => (mu_n h90).trans (hfr_loop x h90)) hP hI hS (lv_sub hl [1, 2, 0] rfl)
  exact loop (d9 + 1 - 0) 0 (by omega) (by omega) _ _ _ _ (h_I) (fun _ _ => rfl) hP hI hS (lv_sub hl [1, 2, 0] rfl)

set_option maxHeartbeats 4000000 in
set_option maxRecDepth 100000 in
theorem c_X0_roomUpTo (l : Launch) (G : mg) (A : Nat → Prop) (Mw : mw) (p0 : Int32) {a0 t0 sc0 rd0 : Nat} {tn0 bu0 gl0 cr0 fi0 sm0 li0 in0 ga0 ke0 gr0 ce0 : Int32} (h_I : Mw a0 = some (.inr (3, [.int tn0, .ref t0, .int bu0, .int gl0, .ref sc0, .ref rd0, .int cr0, .int fi0, .int sm0, .int li0, .int in0, .int ga0, .int ke0, .int gr0, .int ce0]))) {b0 : Nat} {us0 : Int32} {bf : Nat → Int32} (h_T : Mw t0 = some (.inr (6, [.ref b0, .int us0]))) (h_B : Mw b0 = some (.inl (G.2.1 0, 20, .inl bf))) : Met l yX0_roomUpTo wsX0_roomUpTo ({ frames := 3, cells := 0, slots := 0, locals := 65 }) (va_Pc [.ref a0, .int p0] (mB G A Mw)) (va_Qi (fun r Mw1 => r = (bu0 - cr0 + vsum bf p0 20) ∧ Mw1 = Mw) (mE G A) A) 0 0 A := by
  refine Met.ofW (cc := cX0_roomUpTo) (maxL := 2) (ret := (some .int)) (by decide) rfl ?_
  intro p e s m args below meth c s₁ B hml hv
  obtain ⟨rfl, hG, hP, hI, hA⟩ := hv
  have hx := B.exec
  have hb := B.bytes
  have hr := B.returns
  have hts := atoms_spec (ws := wsX0_roomUpTo) B.pre
  have hown : s.vm.findClass RX0 = some m.cls := findClass_of_methodNamed B.named
  have hlocks := B.notSynchronized
  have hK := hG.K
  have i_X0 : ∀ w ∈ wsX00, w ∈ wsX0_roomUpTo := by decide +kernel
  have hS : va_S A s.heap s.heap [] := va_S.rf
  have hl := lv_entry ([.ref a0, .int p0]) (n := 2) (Nat.le_of_ble_eq_true rfl)
  rw [lg_entry_eq]
  generalize (lg_sl ([.ref a0, .int p0]) ++ List.replicate (2 - (lg_sl ([.ref a0, .int p0])).length) Slot.unset).toArray = ls at hl ⊢
  have hl : lv_has ls 2 [(0, .ref a0), (1, .int p0)] := hl
  have hP : mP G.1 Mw s.heap := hP
  refine lv_aload_n hx hb dX0_roomUpTo_0 rfl (lv_at hl 0 rfl) ?_
  refine m_get (ci := 3) (v := .int bu0) (C := RX0) (T := TX0) (N := 15) hx hb hts i_X0 hown hK (hP _ _ h_I) rfl 2 (by decide) (hts (.fieldLink RX0 36 "Meniscus$Instrument" "bulb" "I") (by decide +kernel)) (fun _ h9 => h9) rfl dX0_roomUpTo_1 ?_
  refine lv_aload_n hx hb dX0_roomUpTo_4 rfl (lv_at hl 0 rfl) ?_
  refine m_get (ci := 3) (v := .int cr0) (C := RX0) (T := TX0) (N := 15) hx hb hts i_X0 hown hK (hP _ _ h_I) rfl 6 (by decide) (hts (.fieldLink RX0 51 "Meniscus$Instrument" "crept" "I") (by decide +kernel)) (fun _ h9 => h9) rfl dX0_roomUpTo_5 ?_
  refine lv_isub hx hb dX0_roomUpTo_8 ?_
  refine lv_aload_n hx hb dX0_roomUpTo_9 rfl (lv_at hl 0 rfl) ?_
  refine m_get (ci := 3) (v := .ref t0) (C := RX0) (T := TX0) (N := 15) hx hb hts i_X0 hown hK (hP _ _ h_I) rfl 1 (by decide) (hts (.fieldLink RX0 32 "Meniscus$Instrument" "tube" "LMeniscus$Tube;") (by decide +kernel)) (fun _ h9 => h9) rfl dX0_roomUpTo_10 ?_
  refine lv_iload_n hx hb dX0_roomUpTo_13 rfl (lv_at hl 1 rfl) ?_
  refine m_calli (va_runV (As := [.int p0]) (rest := [.int (bu0 - cr0)]) ⟨hx, hb, hml, hown, hts⟩ (c_X3_volumeUpTo l G A Mw  p0 h_T h_B) (cwV 1 hts gX0_roomUpTo_X3_volumeUpTo rfl rfl rfl (by decide +kernel) ⟨Nat.le_of_ble_eq_true rfl, Nat.le_of_ble_eq_true rfl⟩) (mPreV hG hS hP hI hA (hP _ _ h_T) (r := (RX3, TX3, 2)) rfl) rfl rfl hl.1 rfl (lv_room (Nat.le_of_ble_eq_true rfl)) dX0_roomUpTo_14 ⟨Nat.le_of_ble_eq_true rfl, Nat.le_of_ble_eq_true rfl⟩) hS (fun r1 Mw1 H locs hp_r1 hP hI hS => ?_)
  obtain ⟨hp_r1, hm9⟩ := hp_r1
  subst Mw1
  refine lv_iadd hx hb dX0_roomUpTo_17 ?_
  refine W.widen (k := 0) (n := 0) (Nat.le_of_ble_eq_true rfl) (Nat.le_of_ble_eq_true rfl) ?_
  exact W.iret (v := (bu0 - cr0) + r1) hx hb hr (fun t99 ht99 hW99 => ⟨⟨(bu0 - cr0) + r1, Mw, rfl, ⟨by rw [hp_r1], rfl⟩, by rw [ht99]; exact hP, hI⟩, hS.F ht99⟩) hS.2.2 dX0_roomUpTo_18

set_option maxHeartbeats 4000000 in
set_option maxRecDepth 100000 in
theorem c_X0_restInTube (l : Launch) (G : mg) (A : Nat → Prop) (Mw : mw) (p0 : Int32) {a0 t0 sc0 rd0 : Nat} {tn0 bu0 gl0 cr0 fi0 sm0 li0 in0 ga0 ke0 gr0 ce0 : Int32} (h_I : Mw a0 = some (.inr (3, [.int tn0, .ref t0, .int bu0, .int gl0, .ref sc0, .ref rd0, .int cr0, .int fi0, .int sm0, .int li0, .int in0, .int ga0, .int ke0, .int gr0, .int ce0]))) : Met l yX0_restInTube wsX0_restInTube ({ frames := 1, cells := 0, slots := 0, locals := 23 }) (va_Pc [.ref a0, .int p0] (mB G A Mw)) (va_Ql (fun r Mw1 => r = rst in0 bu0 cr0 li0 gl0 p0 ∧ Mw1 = Mw) (mE G A) A) 0 0 A := by
  refine Met.ofW (cc := cX0_restInTube) (maxL := 6) (ret := (some .long)) (by decide) rfl ?_
  intro p e s m args below meth c s₁ B hml hv
  obtain ⟨rfl, hG, hP, hI, hA⟩ := hv
  have hx := B.exec
  have hb := B.bytes
  have hr := B.returns
  have hts := atoms_spec (ws := wsX0_restInTube) B.pre
  have hown : s.vm.findClass RX0 = some m.cls := findClass_of_methodNamed B.named
  have hlocks := B.notSynchronized
  have hK := hG.K
  have i_X0 : ∀ w ∈ wsX00, w ∈ wsX0_restInTube := by decide +kernel
  have hS : va_S A s.heap s.heap [] := va_S.rf
  have hl := lv_entry ([.ref a0, .int p0]) (n := 6) (Nat.le_of_ble_eq_true rfl)
  rw [lg_entry_eq]
  generalize (lg_sl ([.ref a0, .int p0]) ++ List.replicate (6 - (lg_sl ([.ref a0, .int p0])).length) Slot.unset).toArray = ls at hl ⊢
  have hl : lv_has ls 6 [(0, .ref a0), (1, .int p0)] := hl
  have hP : mP G.1 Mw s.heap := hP
  refine lv_aload_n hx hb dX0_restInTube_0 rfl (lv_at hl 0 rfl) ?_
  refine m_get (ci := 3) (v := .int in0) (C := RX0) (T := TX0) (N := 15) hx hb hts i_X0 hown hK (hP _ _ h_I) rfl 10 (by decide) (hts (.fieldLink RX0 68 "Meniscus$Instrument" "inside" "I") (by decide +kernel)) (fun _ h9 => h9) rfl dX0_restInTube_1 ?_
  refine lv_i2l (v := in0.toInt64) hx hb dX0_restInTube_4 rfl ?_
  refine lv_aload_n hx hb dX0_restInTube_5 rfl (lv_at hl 0 rfl) ?_
  refine m_get (ci := 3) (v := .int in0) (C := RX0) (T := TX0) (N := 15) hx hb hts i_X0 hown hK (hP _ _ h_I) rfl 10 (by decide) (hts (.fieldLink RX0 68 "Meniscus$Instrument" "inside" "I") (by decide +kernel)) (fun _ h9 => h9) rfl dX0_restInTube_6 ?_
  refine lv_i2l (v := in0.toInt64) hx hb dX0_restInTube_9 rfl ?_
  refine lv_aload_n hx hb dX0_restInTube_10 rfl (lv_at hl 0 rfl) ?_
  refine m_calli (va_runV (As := []) (rest := [.long in0.toInt64, .long in0.toInt64]) ⟨hx, hb, hml, hown, hts⟩ (c_X0_liquidGrowth l G A Mw  h_I) (cwV 0 hts gX0_restInTube_X0_liquidGrowth rfl rfl rfl (by decide +kernel) ⟨Nat.le_of_ble_eq_true rfl, Nat.le_of_ble_eq_true rfl⟩) (mPreV hG hS hP hI hA (hP _ _ h_I) (r := (RX0, TX0, 15)) rfl) rfl rfl hl.1 rfl (lv_room (Nat.le_of_ble_eq_true rfl)) dX0_restInTube_11 ⟨Nat.le_of_ble_eq_true rfl, Nat.le_of_ble_eq_true rfl⟩) hS (fun r1 Mw1 H locs hp_r1 hP hI hS => ?_)
  obtain ⟨hp_r1, hm9⟩ := hp_r1
  subst Mw1
  refine lv_iload_n hx hb dX0_restInTube_14 rfl (lv_at hl 1 rfl) ?_
  refine m_calll (va_runS (As := [.long in0.toInt64, .int r1, .int p0]) (rest := [.long in0.toInt64]) ⟨hx, hb, hml, hown, hts⟩ (c_X0_grown l G A Mw  in0.toInt64 r1 p0) (va_cwS 3 hts gX0_restInTube_X0_grown rfl rfl rfl (by decide +kernel) ⟨Nat.le_of_ble_eq_true rfl, Nat.le_of_ble_eq_true rfl⟩) (mPreS hG hS hP hI hA) rfl rfl hl.1 rfl (lv_room (Nat.le_of_ble_eq_true rfl)) dX0_restInTube_15 ⟨Nat.le_of_ble_eq_true rfl, Nat.le_of_ble_eq_true rfl⟩) hS (fun r2 Mw1 H locs hp_r2 hP hI hS => ?_)
  obtain ⟨hp_r2, hm9⟩ := hp_r2
  subst Mw1
  refine lv_ladd hx hb dX0_restInTube_18 ?_
  refine lv_lstore_n (lv' := [(2, .long (in0.toInt64 + r2)), (0, .ref a0), (1, .int p0)]) hx hb dX0_restInTube_19 rfl hl (by decide) rfl (fun ls hl => ?_)
  refine lv_aload_n hx hb dX0_restInTube_20 rfl (lv_at hl 1 rfl) ?_
  refine m_get (ci := 3) (v := .int bu0) (C := RX0) (T := TX0) (N := 15) hx hb hts i_X0 hown hK (hP _ _ h_I) rfl 2 (by decide) (hts (.fieldLink RX0 36 "Meniscus$Instrument" "bulb" "I") (by decide +kernel)) (fun _ h9 => h9) rfl dX0_restInTube_21 ?_
  refine lv_i2l (v := bu0.toInt64) hx hb dX0_restInTube_24 rfl ?_
  refine lv_aload_n hx hb dX0_restInTube_25 rfl (lv_at hl 1 rfl) ?_
  refine m_get (ci := 3) (v := .int bu0) (C := RX0) (T := TX0) (N := 15) hx hb hts i_X0 hown hK (hP _ _ h_I) rfl 2 (by decide) (hts (.fieldLink RX0 36 "Meniscus$Instrument" "bulb" "I") (by decide +kernel)) (fun _ h9 => h9) rfl dX0_restInTube_26 ?_
  refine lv_i2l (v := bu0.toInt64) hx hb dX0_restInTube_29 rfl ?_
  refine lv_aload_n hx hb dX0_restInTube_30 rfl (lv_at hl 1 rfl) ?_
  refine m_calli (va_runV (As := []) (rest := [.long bu0.toInt64, .long bu0.toInt64]) ⟨hx, hb, hml, hown, hts⟩ (c_X0_glassGrowth l G A Mw  h_I) (cwV 0 hts gX0_restInTube_X0_glassGrowth rfl rfl rfl (by decide +kernel) ⟨Nat.le_of_ble_eq_true rfl, Nat.le_of_ble_eq_true rfl⟩) (mPreV hG hS hP hI hA (hP _ _ h_I) (r := (RX0, TX0, 15)) rfl) rfl rfl hl.1 rfl (lv_room (Nat.le_of_ble_eq_true rfl)) dX0_restInTube_31 ⟨Nat.le_of_ble_eq_true rfl, Nat.le_of_ble_eq_true rfl⟩) hS (fun r3 Mw1 H locs hp_r3 hP hI hS => ?_)
  obtain ⟨hp_r3, hm9⟩ := hp_r3
  subst Mw1
  refine lv_iload_n hx hb dX0_restInTube_34 rfl (lv_at hl 2 rfl) ?_
  refine m_calll (va_runS (As := [.long bu0.toInt64, .int r3, .int p0]) (rest := [.long bu0.toInt64]) ⟨hx, hb, hml, hown, hts⟩ (c_X0_grown l G A Mw  bu0.toInt64 r3 p0) (va_cwS 3 hts gX0_restInTube_X0_grown rfl rfl rfl (by decide +kernel) ⟨Nat.le_of_ble_eq_true rfl, Nat.le_of_ble_eq_true rfl⟩) (mPreS hG hS hP hI hA) rfl rfl hl.1 rfl (lv_room (Nat.le_of_ble_eq_true rfl)) dX0_restInTube_35 ⟨Nat.le_of_ble_eq_true rfl, Nat.le_of_ble_eq_true rfl⟩) hS (fun r4 Mw1 H locs hp_r4 hP hI hS => ?_)
  obtain ⟨hp_r4, hm9⟩ := hp_r4
  subst Mw1
  refine lv_ladd hx hb dX0_restInTube_38 ?_
  refine lv_lstore (lv' := [(4, .long (bu0.toInt64 + r4)), (2, .long (in0.toInt64 + r2)), (0, .ref a0), (1, .int p0)]) hx hb dX0_restInTube_39 hl (by decide) rfl (fun ls hl => ?_)
  refine lv_lload_n hx hb dX0_restInTube_41 rfl (lv_at hl 1 rfl) ?_
  refine lv_lload hx hb dX0_restInTube_42 (lv_at hl 0 rfl) ?_
  refine lv_lsub hx hb dX0_restInTube_44 ?_
  refine lv_aload_n hx hb dX0_restInTube_45 rfl (lv_at hl 2 rfl) ?_
  refine m_get (ci := 3) (v := .int cr0) (C := RX0) (T := TX0) (N := 15) hx hb hts i_X0 hown hK (hP _ _ h_I) rfl 6 (by decide) (hts (.fieldLink RX0 51 "Meniscus$Instrument" "crept" "I") (by decide +kernel)) (fun _ h9 => h9) rfl dX0_restInTube_46 ?_
  refine lv_i2l (v := cr0.toInt64) hx hb dX0_restInTube_49 rfl ?_
  refine lv_ladd hx hb dX0_restInTube_50 ?_
  refine W.widen (k := 0) (n := 0) (Nat.le_of_ble_eq_true rfl) (Nat.le_of_ble_eq_true rfl) ?_
  exact W.lret (v := ((in0.toInt64 + r2) - (bu0.toInt64 + r4)) + cr0.toInt64) hx hb hr (fun t99 ht99 hW99 => ⟨⟨((in0.toInt64 + r2) - (bu0.toInt64 + r4)) + cr0.toInt64, Mw, rfl, ⟨by rw [hp_r2, hp_r1, hp_r4, hp_r3]; rfl, rfl⟩, by rw [ht99]; exact hP, hI⟩, hS.F ht99⟩) hS.2.2 dX0_restInTube_51

set_option maxHeartbeats 4000000 in
set_option maxRecDepth 100000 in
theorem c_X0_levelAt (l : Launch) (G : mg) (A : Nat → Prop) (Mw : mw) (p0 p1 p2 : Int32) {a0 t0 sc0 rd0 : Nat} {tn0 bu0 gl0 cr0 fi0 sm0 li0 in0 ga0 ke0 gr0 ce0 : Int32} (h_I : Mw a0 = some (.inr (3, [.int tn0, .ref t0, .int bu0, .int gl0, .ref sc0, .ref rd0, .int cr0, .int fi0, .int sm0, .int li0, .int in0, .int ga0, .int ke0, .int gr0, .int ce0]))) {b0 : Nat} {us0 : Int32} {bf : Nat → Int32} (h_T : Mw t0 = some (.inr (6, [.ref b0, .int us0]))) (h_B : Mw b0 = some (.inl (G.2.1 0, 20, .inl bf))) : Met l yX0_levelAt wsX0_levelAt ({ frames := 4, cells := 0, slots := 0, locals := 88 }) (va_Pc [.ref a0, .int p0, .int p1, .int p2] (mB G A Mw)) (va_Qi (fun r Mw1 => lvlR bf in0 bu0 cr0 li0 gl0 p0 p1 p2 r ∧ Mw1 = Mw) (mE G A) A) 0 0 A := by
  refine Met.ofW (cc := cX0_levelAt) (maxL := 9) (ret := (some .int)) (by decide) rfl ?_
  intro p e s m args below meth c s₁ B hml hv
  obtain ⟨rfl, hG, hP, hI, hA⟩ := hv
  have hx := B.exec
  have hb := B.bytes
  have hr := B.returns
  have hts := atoms_spec (ws := wsX0_levelAt) B.pre
  have hown : s.vm.findClass RX0 = some m.cls := findClass_of_methodNamed B.named
  have hlocks := B.notSynchronized
  have hK := hG.K
  have i_X0 : ∀ w ∈ wsX00, w ∈ wsX0_levelAt := by decide +kernel
  have hS : va_S A s.heap s.heap [] := va_S.rf
  have hl := lv_entry ([.ref a0, .int p0, .int p1, .int p2]) (n := 9) (Nat.le_of_ble_eq_true rfl)
  rw [lg_entry_eq]
  generalize (lg_sl ([.ref a0, .int p0, .int p1, .int p2]) ++ List.replicate (9 - (lg_sl ([.ref a0, .int p0, .int p1, .int p2])).length) Slot.unset).toArray = ls at hl ⊢
  have hl : lv_has ls 9 [(0, .ref a0), (1, .int p0), (2, .int p1), (3, .int p2)] := hl
  have hP : mP G.1 Mw s.heap := hP
  refine lv_aload_n hx hb dX0_levelAt_0 rfl (lv_at hl 0 rfl) ?_
  refine lv_iload_n hx hb dX0_levelAt_1 rfl (lv_at hl 1 rfl) ?_
  refine m_calll (va_runV (As := [.int p0]) (rest := []) ⟨hx, hb, hml, hown, hts⟩ (c_X0_restInTube l G A Mw  p0 h_I) (cwV 1 hts gX0_levelAt_X0_restInTube rfl rfl rfl (by decide +kernel) ⟨Nat.le_of_ble_eq_true rfl, Nat.le_of_ble_eq_true rfl⟩) (mPreV hG hS hP hI hA (hP _ _ h_I) (r := (RX0, TX0, 15)) rfl) rfl rfl hl.1 rfl (lv_room (Nat.le_of_ble_eq_true rfl)) dX0_levelAt_2 ⟨Nat.le_of_ble_eq_true rfl, Nat.le_of_ble_eq_true rfl⟩) hS (fun r1 Mw1 H locs hp_r1 hP hI hS => ?_)
  obtain ⟨hp_r1, hm9⟩ := hp_r1
  subst Mw1
  refine lv_lstore (lv' := [(4, .long r1), (0, .ref a0), (1, .int p0), (2, .int p1), (3, .int p2)]) hx hb dX0_levelAt_5 hl (by decide) rfl (fun ls hl => ?_)
  refine lv_aload_n hx hb dX0_levelAt_7 rfl (lv_at hl 1 rfl) ?_
  refine m_get (ci := 3) (v := .ref t0) (C := RX0) (T := TX0) (N := 15) hx hb hts i_X0 hown hK (hP _ _ h_I) rfl 1 (by decide) (hts (.fieldLink RX0 32 "Meniscus$Instrument" "tube" "LMeniscus$Tube;") (by decide +kernel)) (fun _ h9 => h9) rfl dX0_levelAt_8 ?_
  refine lv_lload hx hb dX0_levelAt_11 (lv_at hl 0 rfl) ?_
  refine m_calli (va_runV (As := [.long r1]) (rest := []) ⟨hx, hb, hml, hown, hts⟩ (c_X3_lastPlaceWithin l G A Mw  r1 h_T h_B) (cwV 1 hts gX0_levelAt_X3_lastPlaceWithin rfl rfl rfl (by decide +kernel) ⟨Nat.le_of_ble_eq_true rfl, Nat.le_of_ble_eq_true rfl⟩) (mPreV hG hS hP hI hA (hP _ _ h_T) (r := (RX3, TX3, 2)) rfl) rfl rfl hl.1 rfl (lv_room (Nat.le_of_ble_eq_true rfl)) dX0_levelAt_13 ⟨Nat.le_of_ble_eq_true rfl, Nat.le_of_ble_eq_true rfl⟩) hS (fun r2 Mw1 H locs hp_r2 hP hI hS => ?_)
  obtain ⟨hp_r2, hm9⟩ := hp_r2
  subst Mw1
  refine lv_istore (lv' := [(6, .int r2), (4, .long r1), (0, .ref a0), (1, .int p0), (2, .int p1), (3, .int p2)]) hx hb dX0_levelAt_16 hl (by decide) rfl (fun ls hl => ?_)
  refine lv_iload hx hb dX0_levelAt_18 (lv_at hl 0 rfl) ?_
  refine lv_iload_n hx hb dX0_levelAt_20 rfl (lv_at hl 4 rfl) ?_
  refine lv_icmp_gt (tgt := 27) hx hb dX0_levelAt_21 (by decide) (fun c3 => ?_) (fun c3 => ?_)
  · skip
    refine lv_aload_n hx hb dX0_levelAt_27 rfl (lv_at hl 2 rfl) ?_
    refine m_get (ci := 3) (v := .ref t0) (C := RX0) (T := TX0) (N := 15) hx hb hts i_X0 hown hK (hP _ _ h_I) rfl 1 (by decide) (hts (.fieldLink RX0 32 "Meniscus$Instrument" "tube" "LMeniscus$Tube;") (by decide +kernel)) (fun _ h9 => h9) rfl dX0_levelAt_28 ?_
    refine lv_iload hx hb dX0_levelAt_31 (lv_at hl 0 rfl) ?_
    refine m_calli (va_runV (As := [.int r2]) (rest := []) ⟨hx, hb, hml, hown, hts⟩ (c_X3_volumeUpTo l G A Mw  r2 h_T h_B) (cwV 1 hts gX0_levelAt_X3_volumeUpTo rfl rfl rfl (by decide +kernel) ⟨Nat.le_of_ble_eq_true rfl, Nat.le_of_ble_eq_true rfl⟩) (mPreV hG hS hP hI hA (hP _ _ h_T) (r := (RX3, TX3, 2)) rfl) rfl rfl hl.1 rfl (lv_room (Nat.le_of_ble_eq_true rfl)) dX0_levelAt_33 ⟨Nat.le_of_ble_eq_true rfl, Nat.le_of_ble_eq_true rfl⟩) hS (fun r4 Mw1 H locs hp_r4 hP hI hS => ?_)
    obtain ⟨hp_r4, hm9⟩ := hp_r4
    subst Mw1
    refine lv_aload_n hx hb dX0_levelAt_36 rfl (lv_at hl 2 rfl) ?_
    refine m_get (ci := 3) (v := .ref t0) (C := RX0) (T := TX0) (N := 15) hx hb hts i_X0 hown hK (hP _ _ h_I) rfl 1 (by decide) (hts (.fieldLink RX0 32 "Meniscus$Instrument" "tube" "LMeniscus$Tube;") (by decide +kernel)) (fun _ h9 => h9) rfl dX0_levelAt_37 ?_
    refine lv_iload_n hx hb dX0_levelAt_40 rfl (lv_at hl 4 rfl) ?_
    refine m_calli (va_runV (As := [.int p1]) (rest := [.int r4]) ⟨hx, hb, hml, hown, hts⟩ (c_X3_volumeUpTo l G A Mw  p1 h_T h_B) (cwV 1 hts gX0_levelAt_X3_volumeUpTo rfl rfl rfl (by decide +kernel) ⟨Nat.le_of_ble_eq_true rfl, Nat.le_of_ble_eq_true rfl⟩) (mPreV hG hS hP hI hA (hP _ _ h_T) (r := (RX3, TX3, 2)) rfl) rfl rfl hl.1 rfl (lv_room (Nat.le_of_ble_eq_true rfl)) dX0_levelAt_41 ⟨Nat.le_of_ble_eq_true rfl, Nat.le_of_ble_eq_true rfl⟩) hS (fun r5 Mw1 H locs hp_r5 hP hI hS => ?_)
    obtain ⟨hp_r5, hm9⟩ := hp_r5
    subst Mw1
    refine lv_isub hx hb dX0_levelAt_44 ?_
    refine lv_i2l (v := (r4 - r5).toInt64) hx hb dX0_levelAt_45 rfl ?_
    refine lv_lstore (lv' := [(7, .long ((r4 - r5).toInt64)), (6, .int r2), (4, .long r1), (0, .ref a0), (1, .int p0), (2, .int p1), (3, .int p2)]) hx hb dX0_levelAt_46 hl (by decide) rfl (fun ls hl => ?_)
    refine lv_aload_n hx hb dX0_levelAt_48 rfl (lv_at hl 3 rfl) ?_
    refine m_get (ci := 3) (v := .ref t0) (C := RX0) (T := TX0) (N := 15) hx hb hts i_X0 hown hK (hP _ _ h_I) rfl 1 (by decide) (hts (.fieldLink RX0 32 "Meniscus$Instrument" "tube" "LMeniscus$Tube;") (by decide +kernel)) (fun _ h9 => h9) rfl dX0_levelAt_49 ?_
    refine lv_lload hx hb dX0_levelAt_52 (lv_at hl 2 rfl) ?_
    refine lv_lload hx hb dX0_levelAt_54 (lv_at hl 0 rfl) ?_
    refine lv_aload_n hx hb dX0_levelAt_56 rfl (lv_at hl 3 rfl) ?_
    refine m_calli (va_runV (As := []) (rest := [.long ((r4 - r5).toInt64), .long r1, .ref t0]) ⟨hx, hb, hml, hown, hts⟩ (c_X0_liquidGrowth l G A Mw  h_I) (cwV 0 hts gX0_levelAt_X0_liquidGrowth rfl rfl rfl (by decide +kernel) ⟨Nat.le_of_ble_eq_true rfl, Nat.le_of_ble_eq_true rfl⟩) (mPreV hG hS hP hI hA (hP _ _ h_I) (r := (RX0, TX0, 15)) rfl) rfl rfl hl.1 rfl (lv_room (Nat.le_of_ble_eq_true rfl)) dX0_levelAt_57 ⟨Nat.le_of_ble_eq_true rfl, Nat.le_of_ble_eq_true rfl⟩) hS (fun r6 Mw1 H locs hp_r6 hP hI hS => ?_)
    obtain ⟨hp_r6, hm9⟩ := hp_r6
    subst Mw1
    refine lv_iload_n hx hb dX0_levelAt_60 rfl (lv_at hl 4 rfl) ?_
    refine lv_iload_n hx hb dX0_levelAt_61 rfl (lv_at hl 6 rfl) ?_
    refine lv_isub hx hb dX0_levelAt_62 ?_
    refine m_calll (va_runS (As := [.long ((r4 - r5).toInt64), .int r6, .int (p0 - p2)]) (rest := [.long r1, .ref t0]) ⟨hx, hb, hml, hown, hts⟩ (c_X0_grown l G A Mw  ((r4 - r5).toInt64) r6 (p0 - p2)) (va_cwS 3 hts gX0_levelAt_X0_grown rfl rfl rfl (by decide +kernel) ⟨Nat.le_of_ble_eq_true rfl, Nat.le_of_ble_eq_true rfl⟩) (mPreS hG hS hP hI hA) rfl rfl hl.1 rfl (lv_room (Nat.le_of_ble_eq_true rfl)) dX0_levelAt_63 ⟨Nat.le_of_ble_eq_true rfl, Nat.le_of_ble_eq_true rfl⟩) hS (fun r7 Mw1 H locs hp_r7 hP hI hS => ?_)
    obtain ⟨hp_r7, hm9⟩ := hp_r7
    subst Mw1
    refine lv_lsub hx hb dX0_levelAt_66 ?_
    refine m_calli (va_runV (As := [.long (r1 - r7)]) (rest := []) ⟨hx, hb, hml, hown, hts⟩ (c_X3_lastPlaceWithin l G A Mw  (r1 - r7) h_T h_B) (cwV 1 hts gX0_levelAt_X3_lastPlaceWithin rfl rfl rfl (by decide +kernel) ⟨Nat.le_of_ble_eq_true rfl, Nat.le_of_ble_eq_true rfl⟩) (mPreV hG hS hP hI hA (hP _ _ h_T) (r := (RX3, TX3, 2)) rfl) rfl rfl hl.1 rfl (lv_room (Nat.le_of_ble_eq_true rfl)) dX0_levelAt_67 ⟨Nat.le_of_ble_eq_true rfl, Nat.le_of_ble_eq_true rfl⟩) hS (fun r8 Mw1 H locs hp_r8 hP hI hS => ?_)
    obtain ⟨hp_r8, hm9⟩ := hp_r8
    subst Mw1
    refine W.widen (k := 0) (n := 0) (Nat.le_of_ble_eq_true rfl) (Nat.le_of_ble_eq_true rfl) ?_
    exact W.iret (v := r8) hx hb hr (fun t99 ht99 hW99 => ⟨⟨r8, Mw, rfl, ⟨⟨r2, by rw [← hp_r1]; exact hp_r2, Or.inr ⟨i_nle c3, by rw [← hp_r1, ← hp_r4, ← hp_r5, ← hp_r6, ← hp_r7]; exact hp_r8⟩⟩, rfl⟩, by rw [ht99]; exact hP, hI⟩, hS.F ht99⟩) hS.2.2 dX0_levelAt_70
  · skip
    refine lv_iload hx hb dX0_levelAt_24 (lv_at hl 0 rfl) ?_
    refine W.widen (k := 0) (n := 0) (Nat.le_of_ble_eq_true rfl) (Nat.le_of_ble_eq_true rfl) ?_
    exact W.iret (v := r2) hx hb hr (fun t99 ht99 hW99 => ⟨⟨r2, Mw, rfl, ⟨⟨r2, by rw [← hp_r1]; exact hp_r2, Or.inl ⟨i_le c3, rfl⟩⟩, rfl⟩, by rw [ht99]; exact hP, hI⟩, hS.F ht99⟩) hS.2.2 dX0_levelAt_26

set_option maxHeartbeats 4000000 in
set_option maxRecDepth 100000 in
theorem c_X0_levelShown (l : Launch) (G : mg) (A : Nat → Prop) (Mw : mw) (p0 : Int32) {a0 t0 sc0 rd0 : Nat} {tn0 bu0 gl0 cr0 fi0 sm0 li0 in0 ga0 ke0 gr0 ce0 : Int32} (h_I : Mw a0 = some (.inr (3, [.int tn0, .ref t0, .int bu0, .int gl0, .ref sc0, .ref rd0, .int cr0, .int fi0, .int sm0, .int li0, .int in0, .int ga0, .int ke0, .int gr0, .int ce0]))) : Met l yX0_levelShown wsX0_levelShown ({ frames := 1, cells := 0, slots := 0, locals := 21 }) (va_Pc [.ref a0, .int p0] (mB G A Mw)) (va_Qi (fun r Mw1 => r = (if ke0 = 0 then p0 else m_max gr0 p0) ∧ Mw1 = mu Mw a0 (.inr (3, [.int tn0, .ref t0, .int bu0, .int gl0, .ref sc0, .ref rd0, .int cr0, .int fi0, .int sm0, .int li0, .int in0, .int ga0, .int ke0, .int (if ke0 = 0 then gr0 else m_max gr0 p0), .int ce0]))) (mE G A) A) 0 0 A := by
  refine Met.ofW (cc := cX0_levelShown) (maxL := 2) (ret := (some .int)) (by decide) rfl ?_
  intro p e s m args below meth c s₁ B hml hv
  obtain ⟨rfl, hG, hP, hI, hA⟩ := hv
  have hx := B.exec
  have hb := B.bytes
  have hr := B.returns
  have hts := atoms_spec (ws := wsX0_levelShown) B.pre
  have hown : s.vm.findClass RX0 = some m.cls := findClass_of_methodNamed B.named
  have hlocks := B.notSynchronized
  have hK := hG.K
  have i_X0 : ∀ w ∈ wsX00, w ∈ wsX0_levelShown := by decide +kernel
  have hS : va_S A s.heap s.heap [] := va_S.rf
  have hl := lv_entry ([.ref a0, .int p0]) (n := 2) (Nat.le_of_ble_eq_true rfl)
  rw [lg_entry_eq]
  generalize (lg_sl ([.ref a0, .int p0]) ++ List.replicate (2 - (lg_sl ([.ref a0, .int p0])).length) Slot.unset).toArray = ls at hl ⊢
  have hl : lv_has ls 2 [(0, .ref a0), (1, .int p0)] := hl
  have hP : mP G.1 Mw s.heap := hP
  refine lv_aload_n hx hb dX0_levelShown_0 rfl (lv_at hl 0 rfl) ?_
  refine m_get (ci := 3) (v := .int ke0) (C := RX0) (T := TX0) (N := 15) hx hb hts i_X0 hown hK (hP _ _ h_I) rfl 12 (by decide) (hts (.fieldLink RX0 113 "Meniscus$Instrument" "keeper" "Z") (by decide +kernel)) (fun _ h9 => h9) rfl dX0_levelShown_1 ?_
  refine lv_if_ne (tgt := 9) hx hb dX0_levelShown_4 (by decide) (fun c1 => ?_) (fun c1 => ?_)
  · skip
    refine lv_aload_n hx hb dX0_levelShown_9 rfl (lv_at hl 0 rfl) ?_
    refine lv_aload_n hx hb dX0_levelShown_10 rfl (lv_at hl 0 rfl) ?_
    refine m_get (ci := 3) (v := .int gr0) (C := RX0) (T := TX0) (N := 15) hx hb hts i_X0 hown hK (hP _ _ h_I) rfl 13 (by decide) (hts (.fieldLink RX0 22 "Meniscus$Instrument" "greatestLevel" "I") (by decide +kernel)) (fun _ h9 => h9) rfl dX0_levelShown_11 ?_
    refine lv_iload_n hx hb dX0_levelShown_14 rfl (lv_at hl 1 rfl) ?_
    refine va_mmax hx hb (hml.trans hl.1.symm) hown (hts (.methodLink RX0 116 Lib.Math.max.name) (by decide +kernel)) (hts (.static Lib.Math.max.name) (by decide +kernel)) (hts (.initialized "java/lang/Math") (by decide +kernel)) (hts (.code Lib.Math.max.name Lib.Math.max.code 2 (some .int)) (by decide +kernel)) (Nat.le_of_ble_eq_true rfl) (Nat.le_of_ble_eq_true rfl) (Nat.le_of_ble_eq_true rfl) (Nat.le_of_ble_eq_true rfl) dX0_levelShown_15 ?_
    refine m_put (ci := 3) (v := .int (m_max gr0 p0)) (ty := .int) (C := RX0) (T := TX0) (N := 15) hx hb hts i_X0 tyX0 tyX0_ok nmX0 hown hK hP hI hS h_I rfl 13 (by decide) (hts (.fieldLink RX0 22 "Meniscus$Instrument" "greatestLevel" "I") (by decide +kernel)) (fun _ h9 => h9) rfl (by decide +kernel) rfl rfl (Nat.le_of_ble_eq_true rfl) dX0_levelShown_18 (fun H locs hP hI hS => ?_)
    have hP : mP G.1 (mu Mw a0 (.inr (3, [.int tn0, .ref t0, .int bu0, .int gl0, .ref sc0, .ref rd0, .int cr0, .int fi0, .int sm0, .int li0, .int in0, .int ga0, .int ke0, .int (m_max gr0 p0), .int ce0]))) H := hP
    have hI : mI A (mu Mw a0 (.inr (3, [.int tn0, .ref t0, .int bu0, .int gl0, .ref sc0, .ref rd0, .int cr0, .int fi0, .int sm0, .int li0, .int in0, .int ga0, .int ke0, .int (m_max gr0 p0), .int ce0]))) := hI
    have h_I : (mu Mw a0 (.inr (3, [.int tn0, .ref t0, .int bu0, .int gl0, .ref sc0, .ref rd0, .int cr0, .int fi0, .int sm0, .int li0, .int in0, .int ga0, .int ke0, .int (m_max gr0 p0), .int ce0]))) a0 = some (.inr (3, [.int tn0, .ref t0, .int bu0, .int gl0, .ref sc0, .ref rd0, .int cr0, .int fi0, .int sm0, .int li0, .int in0, .int ga0, .int ke0, .int (m_max gr0 p0), .int ce0])) := mu_s
    refine lv_aload_n hx hb dX0_levelShown_21 rfl (lv_at hl 0 rfl) ?_
    refine m_get (ci := 3) (v := .int (m_max gr0 p0)) (C := RX0) (T := TX0) (N := 15) hx hb hts i_X0 hown hK (hP _ _ h_I) rfl 13 (by decide) (hts (.fieldLink RX0 22 "Meniscus$Instrument" "greatestLevel" "I") (by decide +kernel)) (fun _ h9 => h9) rfl dX0_levelShown_22 ?_
    refine W.widen (k := 0) (n := 0) (Nat.le_of_ble_eq_true rfl) (Nat.le_of_ble_eq_true rfl) ?_
    exact W.iret (v := m_max gr0 p0) hx hb hr (fun t99 ht99 hW99 => ⟨⟨m_max gr0 p0, (mu Mw a0 (.inr (3, [.int tn0, .ref t0, .int bu0, .int gl0, .ref sc0, .ref rd0, .int cr0, .int fi0, .int sm0, .int li0, .int in0, .int ga0, .int ke0, .int (m_max gr0 p0), .int ce0]))), rfl, ⟨(if_neg c1).symm, by rw [if_neg c1]⟩, by rw [ht99]; exact hP, hI⟩, hS.F ht99⟩) hS.2.2 dX0_levelShown_25
  · skip
    refine lv_iload_n hx hb dX0_levelShown_7 rfl (lv_at hl 1 rfl) ?_
    refine W.widen (k := 0) (n := 0) (Nat.le_of_ble_eq_true rfl) (Nat.le_of_ble_eq_true rfl) ?_
    exact W.iret (v := p0) hx hb hr (fun t99 ht99 hW99 => ⟨⟨p0, Mw, rfl, ⟨(if_pos c1).symm, (mu_id (by rw [if_pos c1]; exact h_I)).symm⟩, by rw [ht99]; exact hP, hI⟩, hS.F ht99⟩) hS.2.2 dX0_levelShown_8

set_option maxHeartbeats 4000000 in
set_option maxRecDepth 100000 in
theorem c_X0_isInBounds (l : Launch) (G : mg) (A : Nat → Prop) (Mw : mw) {a0 t0 sc0 rd0 : Nat} {tn0 bu0 gl0 cr0 fi0 sm0 li0 in0 ga0 ke0 gr0 ce0 : Int32} (h_I : Mw a0 = some (.inr (3, [.int tn0, .ref t0, .int bu0, .int gl0, .ref sc0, .ref rd0, .int cr0, .int fi0, .int sm0, .int li0, .int in0, .int ga0, .int ke0, .int gr0, .int ce0]))) {va0 er0 n9 : Nat} (h_R : Mw rd0 = some (.inr (4, [.ref va0, .ref er0, .int (nI n9)]))) : Met l yX0_isInBounds wsX0_isInBounds ({ frames := 1, cells := 0, slots := 0, locals := 20 }) (va_Pc [.ref a0] (mB G A Mw)) (va_Qi (fun r Mw1 => r = (inb cr0 bu0 gl0 (nI n9)) ∧ Mw1 = Mw) (mE G A) A) 0 0 A := by
  refine Met.ofW (cc := cX0_isInBounds) (maxL := 1) (ret := (some .boolean)) (by decide) rfl ?_
  intro p e s m args below meth c s₁ B hml hv
  obtain ⟨rfl, hG, hP, hI, hA⟩ := hv
  have hx := B.exec
  have hb := B.bytes
  have hr := B.returns
  have hts := atoms_spec (ws := wsX0_isInBounds) B.pre
  have hown : s.vm.findClass RX0 = some m.cls := findClass_of_methodNamed B.named
  have hlocks := B.notSynchronized
  have hK := hG.K
  have i_X0 : ∀ w ∈ wsX00, w ∈ wsX0_isInBounds := by decide +kernel
  have i_X1 : ∀ w ∈ wsX10, w ∈ wsX0_isInBounds := by decide +kernel
  have hS : va_S A s.heap s.heap [] := va_S.rf
  have hl := lv_entry ([.ref a0]) (n := 1) (Nat.le_of_ble_eq_true rfl)
  rw [lg_entry_eq]
  generalize (lg_sl ([.ref a0]) ++ List.replicate (1 - (lg_sl ([.ref a0])).length) Slot.unset).toArray = ls at hl ⊢
  have hl : lv_has ls 1 [(0, .ref a0)] := hl
  have hP : mP G.1 Mw s.heap := hP
  refine lv_aload_n hx hb dX0_isInBounds_0 rfl (lv_at hl 0 rfl) ?_
  refine m_get (ci := 3) (v := .int cr0) (C := RX0) (T := TX0) (N := 15) hx hb hts i_X0 hown hK (hP _ _ h_I) rfl 6 (by decide) (hts (.fieldLink RX0 51 "Meniscus$Instrument" "crept" "I") (by decide +kernel)) (fun _ h9 => h9) rfl dX0_isInBounds_1 ?_
  refine lv_if_lt (tgt := 34) hx hb dX0_isInBounds_4 (by decide) (fun c1 => ?_) (fun c1 => ?_)
  · skip
    refine lv_iconst (v := 0) hx hb dX0_isInBounds_34 (by decide) ?_
    refine W.widen (k := 0) (n := 0) (Nat.le_of_ble_eq_true rfl) (Nat.le_of_ble_eq_true rfl) ?_
    exact W.zret (v := 0) hx hb hr rfl (fun t99 ht99 hW99 => ⟨⟨0, Mw, rfl, ⟨by unfold inb; rw [if_pos c1], rfl⟩, by rw [ht99]; exact hP, hI⟩, hS.F ht99⟩) hS.2.2 dX0_isInBounds_35
  · skip
    refine lv_aload_n hx hb dX0_isInBounds_7 rfl (lv_at hl 0 rfl) ?_
    refine m_get (ci := 3) (v := .int cr0) (C := RX0) (T := TX0) (N := 15) hx hb hts i_X0 hown hK (hP _ _ h_I) rfl 6 (by decide) (hts (.fieldLink RX0 51 "Meniscus$Instrument" "crept" "I") (by decide +kernel)) (fun _ h9 => h9) rfl dX0_isInBounds_8 ?_
    refine lv_aload_n hx hb dX0_isInBounds_11 rfl (lv_at hl 0 rfl) ?_
    refine m_calli (va_runV (As := []) (rest := [.int cr0]) ⟨hx, hb, hml, hown, hts⟩ (c_X0_creepsInAll l G A Mw  h_I) (cwV 0 hts gX0_isInBounds_X0_creepsInAll rfl rfl rfl (by decide +kernel) ⟨Nat.le_of_ble_eq_true rfl, Nat.le_of_ble_eq_true rfl⟩) (mPreV hG hS hP hI hA (hP _ _ h_I) (r := (RX0, TX0, 15)) rfl) rfl rfl hl.1 rfl (lv_room (Nat.le_of_ble_eq_true rfl)) dX0_isInBounds_12 ⟨Nat.le_of_ble_eq_true rfl, Nat.le_of_ble_eq_true rfl⟩) hS (fun r2 Mw1 H locs hp_r2 hP hI hS => ?_)
    obtain ⟨hp_r2, hm9⟩ := hp_r2
    subst Mw1
    refine lv_icmp_gt (tgt := 34) hx hb dX0_isInBounds_15 (by decide) (fun c3 => ?_) (fun c3 => ?_)
    · skip
      refine lv_iconst (v := 0) hx hb dX0_isInBounds_34 (by decide) ?_
      refine W.widen (k := 0) (n := 0) (Nat.le_of_ble_eq_true rfl) (Nat.le_of_ble_eq_true rfl) ?_
      exact W.zret (v := 0) hx hb hr rfl (fun t99 ht99 hW99 => ⟨⟨0, Mw, rfl, ⟨by unfold inb; rw [if_neg c1, ← hp_r2, if_pos c3], rfl⟩, by rw [ht99]; exact hP, hI⟩, hS.F ht99⟩) hS.2.2 dX0_isInBounds_35
    · skip
      refine lv_aload_n hx hb dX0_isInBounds_18 rfl (lv_at hl 0 rfl) ?_
      refine m_get (ci := 3) (v := .ref rd0) (C := RX0) (T := TX0) (N := 15) hx hb hts i_X0 hown hK (hP _ _ h_I) rfl 5 (by decide) (hts (.fieldLink RX0 12 "Meniscus$Instrument" "readings" "LMeniscus$Readings;") (by decide +kernel)) (fun _ h9 => h9) rfl dX0_isInBounds_19 ?_
      refine m_getN (ci := 4) (v := .int (nI n9)) (C := RX1) (T := TX1) (N := 3) hx hb hts i_X1 hown hK (hP _ _ h_R) rfl 2 (by decide) (va_Nw.use rfl (hG.2.1.2.1 ("Meniscus$Instrument", 119, "Meniscus$Readings", "count", "I", "Meniscus") (by decide +kernel))) (fun _ h9 => h9) rfl dX0_isInBounds_22 ?_
      refine lv_bipush (v := (8)) hx hb dX0_isInBounds_25 (by decide) ?_
      refine lv_icmp_gt (tgt := 34) hx hb dX0_isInBounds_27 (by decide) (fun c4 => ?_) (fun c4 => ?_)
      · skip
        refine lv_iconst (v := 0) hx hb dX0_isInBounds_34 (by decide) ?_
        refine W.widen (k := 0) (n := 0) (Nat.le_of_ble_eq_true rfl) (Nat.le_of_ble_eq_true rfl) ?_
        exact W.zret (v := 0) hx hb hr rfl (fun t99 ht99 hW99 => ⟨⟨0, Mw, rfl, ⟨by unfold inb; rw [if_neg c1, ← hp_r2, if_neg c3, if_pos c4], rfl⟩, by rw [ht99]; exact hP, hI⟩, hS.F ht99⟩) hS.2.2 dX0_isInBounds_35
      · skip
        refine lv_iconst (v := 1) hx hb dX0_isInBounds_30 (by decide) ?_
        refine lv_goto (tgt := 35) hx hb dX0_isInBounds_31 (by decide) ?_
        refine W.widen (k := 0) (n := 0) (Nat.le_of_ble_eq_true rfl) (Nat.le_of_ble_eq_true rfl) ?_
        exact W.zret (v := 1) hx hb hr rfl (fun t99 ht99 hW99 => ⟨⟨1, Mw, rfl, ⟨by unfold inb; rw [if_neg c1, ← hp_r2, if_neg c3, if_neg c4], rfl⟩, by rw [ht99]; exact hP, hI⟩, hS.F ht99⟩) hS.2.2 dX0_isInBounds_35

set_option maxHeartbeats 4000000 in
set_option maxRecDepth 100000 in
theorem c_X0_addTo (l : Launch) (G : mg) (A : Nat → Prop) (Mw : mw) (p0 : Int64) {a0 t0 sc0 rd0 : Nat} {tn0 bu0 gl0 cr0 fi0 sm0 li0 in0 ga0 ke0 gr0 ce0 : Int32} (h_I : Mw a0 = some (.inr (3, [.int tn0, .ref t0, .int bu0, .int gl0, .ref sc0, .ref rd0, .int cr0, .int fi0, .int sm0, .int li0, .int in0, .int ga0, .int ke0, .int gr0, .int ce0]))) {va0 er0 n9 : Nat} {vf ef : Nat → Int32} (hve : va0 ≠ er0) (hn9 : n9 ≤ 8) (h_R : Mw rd0 = some (.inr (4, [.ref va0, .ref er0, .int (nI n9)]))) (h_V : Mw va0 = some (.inl (G.2.1 0, 8, .inl vf))) (h_E : Mw er0 = some (.inl (G.2.1 0, 8, .inl ef))) : Met l yX0_addTo wsX0_addTo ({ frames := 1, cells := 0, slots := 0, locals := 25 }) (va_Pc [.ref a0, .long p0] (mB G A Mw)) (va_Ql (fun r Mw1 => r = (lsum vf (31 * (31 * p0 + in0.toInt64) + cr0.toInt64) n9) ∧ Mw1 = Mw) (mE G A) A) 0 0 A := by
  refine Met.ofW (cc := cX0_addTo) (maxL := 5) (ret := (some .long)) (by decide) rfl ?_
  intro p e s m args below meth c s₁ B hml hv
  obtain ⟨rfl, hG, hP, hI, hA⟩ := hv
  have hx := B.exec
  have hb := B.bytes
  have hr := B.returns
  have hts := atoms_spec (ws := wsX0_addTo) B.pre
  have hown : s.vm.findClass RX0 = some m.cls := findClass_of_methodNamed B.named
  have hlocks := B.notSynchronized
  have hK := hG.K
  have i_X0 : ∀ w ∈ wsX00, w ∈ wsX0_addTo := by decide +kernel
  have hS : va_S A s.heap s.heap [] := va_S.rf
  have hl := lv_entry ([.ref a0, .long p0]) (n := 5) (Nat.le_of_ble_eq_true rfl)
  rw [lg_entry_eq]
  generalize (lg_sl ([.ref a0, .long p0]) ++ List.replicate (5 - (lg_sl ([.ref a0, .long p0])).length) Slot.unset).toArray = ls at hl ⊢
  have hl : lv_has ls 5 [(0, .ref a0), (1, .long p0)] := hl
  have hP : mP G.1 Mw s.heap := hP
  refine lv_ldc2 (v := 31) hx hb hown (hts (.constantLong RX0 122 (31)) (by decide +kernel)) dX0_addTo_0 ?_
  refine lv_ldc2 (v := 31) hx hb hown (hts (.constantLong RX0 122 (31)) (by decide +kernel)) dX0_addTo_3 ?_
  refine lv_lload_n hx hb dX0_addTo_6 rfl (lv_at hl 1 rfl) ?_
  refine lv_lmul hx hb dX0_addTo_7 ?_
  refine lv_aload_n hx hb dX0_addTo_8 rfl (lv_at hl 0 rfl) ?_
  refine m_get (ci := 3) (v := .int in0) (C := RX0) (T := TX0) (N := 15) hx hb hts i_X0 hown hK (hP _ _ h_I) rfl 10 (by decide) (hts (.fieldLink RX0 68 "Meniscus$Instrument" "inside" "I") (by decide +kernel)) (fun _ h9 => h9) rfl dX0_addTo_9 ?_
  refine lv_i2l (v := in0.toInt64) hx hb dX0_addTo_12 rfl ?_
  refine lv_ladd hx hb dX0_addTo_13 ?_
  refine lv_lmul hx hb dX0_addTo_14 ?_
  refine lv_aload_n hx hb dX0_addTo_15 rfl (lv_at hl 0 rfl) ?_
  refine m_get (ci := 3) (v := .int cr0) (C := RX0) (T := TX0) (N := 15) hx hb hts i_X0 hown hK (hP _ _ h_I) rfl 6 (by decide) (hts (.fieldLink RX0 51 "Meniscus$Instrument" "crept" "I") (by decide +kernel)) (fun _ h9 => h9) rfl dX0_addTo_16 ?_
  refine lv_i2l (v := cr0.toInt64) hx hb dX0_addTo_19 rfl ?_
  refine lv_ladd hx hb dX0_addTo_20 ?_
  refine lv_lstore_n (lv' := [(3, .long ((31 * ((31 * p0) + in0.toInt64)) + cr0.toInt64)), (0, .ref a0), (1, .long p0)]) hx hb dX0_addTo_21 rfl hl (by decide) rfl (fun ls hl => ?_)
  refine lv_aload_n hx hb dX0_addTo_22 rfl (lv_at hl 1 rfl) ?_
  refine m_get (ci := 3) (v := .ref rd0) (C := RX0) (T := TX0) (N := 15) hx hb hts i_X0 hown hK (hP _ _ h_I) rfl 5 (by decide) (hts (.fieldLink RX0 12 "Meniscus$Instrument" "readings" "LMeniscus$Readings;") (by decide +kernel)) (fun _ h9 => h9) rfl dX0_addTo_23 ?_
  refine lv_lload_n hx hb dX0_addTo_26 rfl (lv_at hl 0 rfl) ?_
  refine m_calll (va_runV (As := [.long ((31 * ((31 * p0) + in0.toInt64)) + cr0.toInt64)]) (rest := []) ⟨hx, hb, hml, hown, hts⟩ (c_X1_addTo l G A Mw  ((31 * ((31 * p0) + in0.toInt64)) + cr0.toInt64) hve hn9 h_R h_V h_E) (cwV 1 hts gX0_addTo_X1_addTo rfl rfl rfl (by decide +kernel) ⟨Nat.le_of_ble_eq_true rfl, Nat.le_of_ble_eq_true rfl⟩) (mPreV hG hS hP hI hA (hP _ _ h_R) (r := (RX1, TX1, 3)) rfl) rfl rfl hl.1 rfl (lv_room (Nat.le_of_ble_eq_true rfl)) dX0_addTo_27 ⟨Nat.le_of_ble_eq_true rfl, Nat.le_of_ble_eq_true rfl⟩) hS (fun r1 Mw1 H locs hp_r1 hP hI hS => ?_)
  obtain ⟨hp_r1, hm9⟩ := hp_r1
  subst Mw1
  refine W.widen (k := 0) (n := 0) (Nat.le_of_ble_eq_true rfl) (Nat.le_of_ble_eq_true rfl) ?_
  exact W.lret (v := r1) hx hb hr (fun t99 ht99 hW99 => ⟨⟨r1, Mw, rfl, ⟨hp_r1, rfl⟩, by rw [ht99]; exact hP, hI⟩, hS.F ht99⟩) hS.2.2 dX0_addTo_30

set_option maxHeartbeats 4000000 in
set_option maxRecDepth 100000 in
theorem c_X0_readInBath (l : Launch) (G : mg) (A : Nat → Prop) (Mw : mw) (p0 p1 : Int32) {a0 t0 sc0 rd0 : Nat} {tn0 bu0 gl0 cr0 fi0 sm0 li0 in0 ga0 ke0 gr0 ce0 : Int32} (h_I : Mw a0 = some (.inr (3, [.int tn0, .ref t0, .int bu0, .int gl0, .ref sc0, .ref rd0, .int cr0, .int fi0, .int sm0, .int li0, .int in0, .int ga0, .int ke0, .int gr0, .int ce0]))) {ice0 stm0 stt0 kin0 : Int32} (h_S : Mw sc0 = some (.inr (5, [.ref t0, .int ice0, .int stm0, .int stt0, .int kin0]))) {b0 : Nat} {us0 : Int32} {bf : Nat → Int32} (h_T : Mw t0 = some (.inr (6, [.ref b0, .int us0]))) (h_B : Mw b0 = some (.inl (G.2.1 0, 20, .inl bf))) {va0 er0 n9 : Nat} {vf ef : Nat → Int32} (hve : va0 ≠ er0) (hn9 : n9 ≤ 8) (h_R : Mw rd0 = some (.inr (4, [.ref va0, .ref er0, .int (nI n9)]))) (h_V : Mw va0 = some (.inl (G.2.1 0, 8, .inl vf))) (h_E : Mw er0 = some (.inl (G.2.1 0, 8, .inl ef))) (hvb : va0 ≠ b0) (heb : er0 ≠ b0) : Met l yX0_readInBath wsX0_readInBath ({ frames := 5, cells := 0, slots := 0, locals := 108 }) (va_Pc [.ref a0, .int p0, .int p1] (mB G A Mw)) (va_Qi (fun r Mw1 => r = (rdg kin0 bf ice0 stm0 stt0 (m_min 200 ((if ke0 = 0 then p1 else m_max gr0 p1) + (if p0 ≤ (-200) then 0 else ga0)))) ∧ Mw1 = mu (mu (mu (mu Mw a0 (.inr (3, [.int tn0, .ref t0, .int bu0, .int gl0, .ref sc0, .ref rd0, .int (if 2000 < p0 then cr0 / 2 else cr0), .int fi0, .int sm0, .int li0, .int in0, .int (if p0 ≤ (-200) then 0 else ga0), .int ke0, .int (if ke0 = 0 then gr0 else m_max gr0 p1), .int (if 2000 < p0 then (-1) else ce0)]))) va0 (.inl (G.2.1 0, 8, .inl (apV vf n9 (rdg kin0 bf ice0 stm0 stt0 (m_min 200 ((if ke0 = 0 then p1 else m_max gr0 p1) + (if p0 ≤ (-200) then 0 else ga0)))))))) er0 (.inl (G.2.1 0, 8, .inl (apV ef n9 ((rdg kin0 bf ice0 stm0 stt0 (m_min 200 ((if ke0 = 0 then p1 else m_max gr0 p1) + (if p0 ≤ (-200) then 0 else ga0)))) - p0))))) rd0 (.inr (4, [.ref va0, .ref er0, .int (nI (apN n9))]))) (mE G A) A) 0 0 A := by
  refine Met.ofW (cc := cX0_readInBath) (maxL := 4) (ret := (some .int)) (by decide) rfl ?_
  intro p e s m args below meth c s₁ B hml hv
  obtain ⟨rfl, hG, hP, hI, hA⟩ := hv
  have hx := B.exec
  have hb := B.bytes
  have hr := B.returns
  have hts := atoms_spec (ws := wsX0_readInBath) B.pre
  have hown : s.vm.findClass RX0 = some m.cls := findClass_of_methodNamed B.named
  have hlocks := B.notSynchronized
  have hK := hG.K
  have i_X0 : ∀ w ∈ wsX00, w ∈ wsX0_readInBath := by decide +kernel
  have hS : va_S A s.heap s.heap [] := va_S.rf
  have hl := lv_entry ([.ref a0, .int p0, .int p1]) (n := 4) (Nat.le_of_ble_eq_true rfl)
  rw [lg_entry_eq]
  generalize (lg_sl ([.ref a0, .int p0, .int p1]) ++ List.replicate (4 - (lg_sl ([.ref a0, .int p0, .int p1])).length) Slot.unset).toArray = ls at hl ⊢
  have hl : lv_has ls 4 [(0, .ref a0), (1, .int p0), (2, .int p1)] := hl
  have hP : mP G.1 Mw s.heap := hP
  refine lv_iload_n hx hb dX0_readInBath_0 rfl (lv_at hl 1 rfl) ?_
  refine lv_sipush (v := (-200)) hx hb dX0_readInBath_1 (by decide) ?_
  refine lv_icmp_gt (tgt := 12) hx hb dX0_readInBath_4 (by decide) (fun c1 => ?_) (fun c1 => ?_)
  · skip
    refine lv_aload_n hx hb dX0_readInBath_12 rfl (lv_at hl 0 rfl) ?_
    refine m_get (ci := 3) (v := .ref sc0) (C := RX0) (T := TX0) (N := 15) hx hb hts i_X0 hown hK (hP _ _ h_I) rfl 4 (by decide) (hts (.fieldLink RX0 47 "Meniscus$Instrument" "scale" "LMeniscus$Scale;") (by decide +kernel)) (fun _ h9 => h9) rfl dX0_readInBath_13 ?_
    refine lv_sipush (v := (200)) hx hb dX0_readInBath_16 (by decide) ?_
    refine lv_aload_n hx hb dX0_readInBath_19 rfl (lv_at hl 0 rfl) ?_
    refine lv_iload_n hx hb dX0_readInBath_20 rfl (lv_at hl 2 rfl) ?_
    refine m_calli (va_runV (As := [.int p1]) (rest := [.int 200, .ref sc0]) ⟨hx, hb, hml, hown, hts⟩ (c_X0_levelShown l G A Mw  p1 h_I) (cwV 1 hts gX0_readInBath_X0_levelShown rfl rfl rfl (by decide +kernel) ⟨Nat.le_of_ble_eq_true rfl, Nat.le_of_ble_eq_true rfl⟩) (mPreV hG hS hP hI hA (hP _ _ h_I) (r := (RX0, TX0, 15)) rfl) rfl rfl hl.1 rfl (lv_room (Nat.le_of_ble_eq_true rfl)) dX0_readInBath_21 ⟨Nat.le_of_ble_eq_true rfl, Nat.le_of_ble_eq_true rfl⟩) hS (fun r2 Mw1 H locs hp_r2 hP hI hS => ?_)
    obtain ⟨hp_r2, hm9⟩ := hp_r2
    subst Mw1
    have h_S := mu_k (e := .inr (3, [.int tn0, .ref t0, .int bu0, .int gl0, .ref sc0, .ref rd0, .int cr0, .int fi0, .int sm0, .int li0, .int in0, .int ga0, .int ke0, .int (if ke0 = 0 then gr0 else m_max gr0 p1), .int ce0])) (kd_ne h_S h_I rfl) h_S
    have h_T := mu_k (e := .inr (3, [.int tn0, .ref t0, .int bu0, .int gl0, .ref sc0, .ref rd0, .int cr0, .int fi0, .int sm0, .int li0, .int in0, .int ga0, .int ke0, .int (if ke0 = 0 then gr0 else m_max gr0 p1), .int ce0])) (kd_ne h_T h_I rfl) h_T
    have h_B := mu_k (e := .inr (3, [.int tn0, .ref t0, .int bu0, .int gl0, .ref sc0, .ref rd0, .int cr0, .int fi0, .int sm0, .int li0, .int in0, .int ga0, .int ke0, .int (if ke0 = 0 then gr0 else m_max gr0 p1), .int ce0])) (kd_ne h_B h_I rfl) h_B
    have h_R := mu_k (e := .inr (3, [.int tn0, .ref t0, .int bu0, .int gl0, .ref sc0, .ref rd0, .int cr0, .int fi0, .int sm0, .int li0, .int in0, .int ga0, .int ke0, .int (if ke0 = 0 then gr0 else m_max gr0 p1), .int ce0])) (kd_ne h_R h_I rfl) h_R
    have h_V := mu_k (e := .inr (3, [.int tn0, .ref t0, .int bu0, .int gl0, .ref sc0, .ref rd0, .int cr0, .int fi0, .int sm0, .int li0, .int in0, .int ga0, .int ke0, .int (if ke0 = 0 then gr0 else m_max gr0 p1), .int ce0])) (kd_ne h_V h_I rfl) h_V
    have h_E := mu_k (e := .inr (3, [.int tn0, .ref t0, .int bu0, .int gl0, .ref sc0, .ref rd0, .int cr0, .int fi0, .int sm0, .int li0, .int in0, .int ga0, .int ke0, .int (if ke0 = 0 then gr0 else m_max gr0 p1), .int ce0])) (kd_ne h_E h_I rfl) h_E
    have h_I : (mu Mw a0 (.inr (3, [.int tn0, .ref t0, .int bu0, .int gl0, .ref sc0, .ref rd0, .int cr0, .int fi0, .int sm0, .int li0, .int in0, .int ga0, .int ke0, .int (if ke0 = 0 then gr0 else m_max gr0 p1), .int ce0]))) a0 = some (.inr (3, [.int tn0, .ref t0, .int bu0, .int gl0, .ref sc0, .ref rd0, .int cr0, .int fi0, .int sm0, .int li0, .int in0, .int ga0, .int ke0, .int (if ke0 = 0 then gr0 else m_max gr0 p1), .int ce0])) := mu_s
    refine lv_aload_n hx hb dX0_readInBath_24 rfl (lv_at hl 0 rfl) ?_
    refine m_get (ci := 3) (v := .int ga0) (C := RX0) (T := TX0) (N := 15) hx hb hts i_X0 hown hK (hP _ _ h_I) rfl 11 (by decide) (hts (.fieldLink RX0 94 "Meniscus$Instrument" "gap" "I") (by decide +kernel)) (fun _ h9 => h9) rfl dX0_readInBath_25 ?_
    refine lv_iadd hx hb dX0_readInBath_28 ?_
    refine va_mmin hx hb (hml.trans hl.1.symm) hown (hts (.methodLink RX0 100 Lib.Math.min.name) (by decide +kernel)) (hts (.static Lib.Math.min.name) (by decide +kernel)) (hts (.initialized "java/lang/Math") (by decide +kernel)) (hts (.code Lib.Math.min.name Lib.Math.min.code 2 (some .int)) (by decide +kernel)) (Nat.le_of_ble_eq_true rfl) (Nat.le_of_ble_eq_true rfl) (Nat.le_of_ble_eq_true rfl) (Nat.le_of_ble_eq_true rfl) dX0_readInBath_29 ?_
    refine m_calli (va_runV (As := [.int (m_min 200 (r2 + ga0))]) (rest := []) ⟨hx, hb, hml, hown, hts⟩ (c_X2_readingAt l G A (mu Mw a0 (.inr (3, [.int tn0, .ref t0, .int bu0, .int gl0, .ref sc0, .ref rd0, .int cr0, .int fi0, .int sm0, .int li0, .int in0, .int ga0, .int ke0, .int (if ke0 = 0 then gr0 else m_max gr0 p1), .int ce0])))  (m_min 200 (r2 + ga0)) h_S h_T h_B) (cwV 1 hts gX0_readInBath_X2_readingAt rfl rfl rfl (by decide +kernel) ⟨Nat.le_of_ble_eq_true rfl, Nat.le_of_ble_eq_true rfl⟩) (mPreV hG hS hP hI hA (hP _ _ h_S) (r := (RX2, TX2, 5)) rfl) rfl rfl hl.1 rfl (lv_room (Nat.le_of_ble_eq_true rfl)) dX0_readInBath_32 ⟨Nat.le_of_ble_eq_true rfl, Nat.le_of_ble_eq_true rfl⟩) hS (fun r4 Mw1 H locs hp_r4 hP hI hS => ?_)
    obtain ⟨hp_r4, hm9⟩ := hp_r4
    subst Mw1
    refine lv_istore_n (lv' := [(3, .int r4), (0, .ref a0), (1, .int p0), (2, .int p1)]) hx hb dX0_readInBath_35 rfl hl (by decide) rfl (fun ls hl => ?_)
    refine lv_aload_n hx hb dX0_readInBath_36 rfl (lv_at hl 1 rfl) ?_
    refine m_get (ci := 3) (v := .ref rd0) (C := RX0) (T := TX0) (N := 15) hx hb hts i_X0 hown hK (hP _ _ h_I) rfl 5 (by decide) (hts (.fieldLink RX0 12 "Meniscus$Instrument" "readings" "LMeniscus$Readings;") (by decide +kernel)) (fun _ h9 => h9) rfl dX0_readInBath_37 ?_
    refine lv_iload_n hx hb dX0_readInBath_40 rfl (lv_at hl 0 rfl) ?_
    refine lv_iload_n hx hb dX0_readInBath_41 rfl (lv_at hl 2 rfl) ?_
    refine m_callv (va_runV (As := [.int r4, .int p0]) (rest := []) ⟨hx, hb, hml, hown, hts⟩ (c_X1_append l G A (mu Mw a0 (.inr (3, [.int tn0, .ref t0, .int bu0, .int gl0, .ref sc0, .ref rd0, .int cr0, .int fi0, .int sm0, .int li0, .int in0, .int ga0, .int ke0, .int (if ke0 = 0 then gr0 else m_max gr0 p1), .int ce0])))  r4 p0 hve hn9 h_R h_V h_E) (cwV 2 hts gX0_readInBath_X1_append rfl rfl rfl (by decide +kernel) ⟨Nat.le_of_ble_eq_true rfl, Nat.le_of_ble_eq_true rfl⟩) (mPreV hG hS hP hI hA (hP _ _ h_R) (r := (RX1, TX1, 3)) rfl) rfl rfl hl.1 rfl (lv_room (Nat.le_of_ble_eq_true rfl)) dX0_readInBath_42 ⟨Nat.le_of_ble_eq_true rfl, Nat.le_of_ble_eq_true rfl⟩) hS (fun Mw1 H locs hp_r5 hP hI hS => ?_)
    subst Mw1
    have h_I := mu_k (e := .inl (G.2.1 0, 8, .inl (apV vf n9 r4))) (kd_ne h_I h_V rfl) h_I
    have h_S := mu_k (e := .inl (G.2.1 0, 8, .inl (apV vf n9 r4))) (kd_ne h_S h_V rfl) h_S
    have h_T := mu_k (e := .inl (G.2.1 0, 8, .inl (apV vf n9 r4))) (kd_ne h_T h_V rfl) h_T
    have h_B := mu_k (e := .inl (G.2.1 0, 8, .inl (apV vf n9 r4))) (Ne.symm hvb) h_B
    have h_R := mu_k (e := .inl (G.2.1 0, 8, .inl (apV vf n9 r4))) (kd_ne h_R h_V rfl) h_R
    have h_E := mu_k (e := .inl (G.2.1 0, 8, .inl (apV vf n9 r4))) (Ne.symm hve) h_E
    have h_V : (mu (mu Mw a0 (.inr (3, [.int tn0, .ref t0, .int bu0, .int gl0, .ref sc0, .ref rd0, .int cr0, .int fi0, .int sm0, .int li0, .int in0, .int ga0, .int ke0, .int (if ke0 = 0 then gr0 else m_max gr0 p1), .int ce0]))) va0 (.inl (G.2.1 0, 8, .inl (apV vf n9 r4)))) va0 = some (.inl (G.2.1 0, 8, .inl (apV vf n9 r4))) := mu_s
    have h_I := mu_k (e := .inl (G.2.1 0, 8, .inl (apV ef n9 (r4 - p0)))) (kd_ne h_I h_E rfl) h_I
    have h_S := mu_k (e := .inl (G.2.1 0, 8, .inl (apV ef n9 (r4 - p0)))) (kd_ne h_S h_E rfl) h_S
    have h_T := mu_k (e := .inl (G.2.1 0, 8, .inl (apV ef n9 (r4 - p0)))) (kd_ne h_T h_E rfl) h_T
    have h_B := mu_k (e := .inl (G.2.1 0, 8, .inl (apV ef n9 (r4 - p0)))) (Ne.symm heb) h_B
    have h_R := mu_k (e := .inl (G.2.1 0, 8, .inl (apV ef n9 (r4 - p0)))) (kd_ne h_R h_E rfl) h_R
    have h_V := mu_k (e := .inl (G.2.1 0, 8, .inl (apV ef n9 (r4 - p0)))) hve h_V
    have h_E : (mu (mu (mu Mw a0 (.inr (3, [.int tn0, .ref t0, .int bu0, .int gl0, .ref sc0, .ref rd0, .int cr0, .int fi0, .int sm0, .int li0, .int in0, .int ga0, .int ke0, .int (if ke0 = 0 then gr0 else m_max gr0 p1), .int ce0]))) va0 (.inl (G.2.1 0, 8, .inl (apV vf n9 r4)))) er0 (.inl (G.2.1 0, 8, .inl (apV ef n9 (r4 - p0))))) er0 = some (.inl (G.2.1 0, 8, .inl (apV ef n9 (r4 - p0)))) := mu_s
    have h_I := mu_k (e := .inr (4, [.ref va0, .ref er0, .int (nI (apN n9))])) (kd_ne h_I h_R rfl) h_I
    have h_S := mu_k (e := .inr (4, [.ref va0, .ref er0, .int (nI (apN n9))])) (kd_ne h_S h_R rfl) h_S
    have h_T := mu_k (e := .inr (4, [.ref va0, .ref er0, .int (nI (apN n9))])) (kd_ne h_T h_R rfl) h_T
    have h_B := mu_k (e := .inr (4, [.ref va0, .ref er0, .int (nI (apN n9))])) (kd_ne h_B h_R rfl) h_B
    have h_V := mu_k (e := .inr (4, [.ref va0, .ref er0, .int (nI (apN n9))])) (kd_ne h_V h_R rfl) h_V
    have h_E := mu_k (e := .inr (4, [.ref va0, .ref er0, .int (nI (apN n9))])) (kd_ne h_E h_R rfl) h_E
    have h_R : (mu (mu (mu (mu Mw a0 (.inr (3, [.int tn0, .ref t0, .int bu0, .int gl0, .ref sc0, .ref rd0, .int cr0, .int fi0, .int sm0, .int li0, .int in0, .int ga0, .int ke0, .int (if ke0 = 0 then gr0 else m_max gr0 p1), .int ce0]))) va0 (.inl (G.2.1 0, 8, .inl (apV vf n9 r4)))) er0 (.inl (G.2.1 0, 8, .inl (apV ef n9 (r4 - p0))))) rd0 (.inr (4, [.ref va0, .ref er0, .int (nI (apN n9))]))) rd0 = some (.inr (4, [.ref va0, .ref er0, .int (nI (apN n9))])) := mu_s
    refine lv_iload_n hx hb dX0_readInBath_45 rfl (lv_at hl 2 rfl) ?_
    refine lv_sipush (v := (2000)) hx hb dX0_readInBath_46 (by decide) ?_
    refine lv_icmp_le (tgt := 67) hx hb dX0_readInBath_49 (by decide) (fun c6 => ?_) (fun c6 => ?_)
    · skip
      refine lv_iload_n hx hb dX0_readInBath_67 rfl (lv_at hl 0 rfl) ?_
      have hr9 : r4 = rdg kin0 bf ice0 stm0 stt0 (m_min 200 ((if ke0 = 0 then p1 else m_max gr0 p1) + (if p0 ≤ (-200) then 0 else ga0))) := by rw [hp_r4, hp_r2]; simp only [if_neg (i_nle c1)]
      refine W.widen (k := 0) (n := 0) (Nat.le_of_ble_eq_true rfl) (Nat.le_of_ble_eq_true rfl) ?_
      exact W.iret (v := r4) hx hb hr (fun t99 ht99 hW99 => ⟨⟨r4, (mu (mu (mu (mu Mw a0 (.inr (3, [.int tn0, .ref t0, .int bu0, .int gl0, .ref sc0, .ref rd0, .int cr0, .int fi0, .int sm0, .int li0, .int in0, .int ga0, .int ke0, .int (if ke0 = 0 then gr0 else m_max gr0 p1), .int ce0]))) va0 (.inl (G.2.1 0, 8, .inl (apV vf n9 r4)))) er0 (.inl (G.2.1 0, 8, .inl (apV ef n9 (r4 - p0))))) rd0 (.inr (4, [.ref va0, .ref er0, .int (nI (apN n9))]))), rfl, ⟨hr9, mw_ext4 (h_I.trans (congrArg some (by simp only [if_neg (i_nle c1), if_neg (i_nlt c6)]))) (h_V.trans (congrArg some (by rw [hr9]))) (h_E.trans (congrArg some (by rw [hr9]))) h_R (fun z h1 h2 h3 h4 => (mu_n h4).trans ((mu_n h3).trans ((mu_n h2).trans ((mu_n h1).trans (rfl)))))⟩, by rw [ht99]; exact hP, hI⟩, hS.F ht99⟩) hS.2.2 dX0_readInBath_68
    · skip
      refine lv_aload_n hx hb dX0_readInBath_52 rfl (lv_at hl 1 rfl) ?_
      refine lv_dup hx hb dX0_readInBath_53 rfl ?_
      refine m_get (ci := 3) (v := .int cr0) (C := RX0) (T := TX0) (N := 15) hx hb hts i_X0 hown hK (hP _ _ h_I) rfl 6 (by decide) (hts (.fieldLink RX0 51 "Meniscus$Instrument" "crept" "I") (by decide +kernel)) (fun _ h9 => h9) rfl dX0_readInBath_54 ?_
      refine lv_iconst (v := 2) hx hb dX0_readInBath_57 (by decide) ?_
      refine lv_idiv hx hb dX0_readInBath_58 (by decide) ?_
      refine m_put (ci := 3) (v := .int (cr0 / 2)) (ty := .int) (C := RX0) (T := TX0) (N := 15) hx hb hts i_X0 tyX0 tyX0_ok nmX0 hown hK hP hI hS h_I rfl 6 (by decide) (hts (.fieldLink RX0 51 "Meniscus$Instrument" "crept" "I") (by decide +kernel)) (fun _ h9 => h9) rfl (by decide +kernel) rfl rfl (Nat.le_of_ble_eq_true rfl) dX0_readInBath_59 (fun H locs hP hI hS => ?_)
      have hP : mP G.1 (mu (mu (mu (mu (mu Mw a0 (.inr (3, [.int tn0, .ref t0, .int bu0, .int gl0, .ref sc0, .ref rd0, .int cr0, .int fi0, .int sm0, .int li0, .int in0, .int ga0, .int ke0, .int (if ke0 = 0 then gr0 else m_max gr0 p1), .int ce0]))) va0 (.inl (G.2.1 0, 8, .inl (apV vf n9 r4)))) er0 (.inl (G.2.1 0, 8, .inl (apV ef n9 (r4 - p0))))) rd0 (.inr (4, [.ref va0, .ref er0, .int (nI (apN n9))]))) a0 (.inr (3, [.int tn0, .ref t0, .int bu0, .int gl0, .ref sc0, .ref rd0, .int (cr0 / 2), .int fi0, .int sm0, .int li0, .int in0, .int ga0, .int ke0, .int (if ke0 = 0 then gr0 else m_max gr0 p1), .int ce0]))) H := hP
      have hI : mI A (mu (mu (mu (mu (mu Mw a0 (.inr (3, [.int tn0, .ref t0, .int bu0, .int gl0, .ref sc0, .ref rd0, .int cr0, .int fi0, .int sm0, .int li0, .int in0, .int ga0, .int ke0, .int (if ke0 = 0 then gr0 else m_max gr0 p1), .int ce0]))) va0 (.inl (G.2.1 0, 8, .inl (apV vf n9 r4)))) er0 (.inl (G.2.1 0, 8, .inl (apV ef n9 (r4 - p0))))) rd0 (.inr (4, [.ref va0, .ref er0, .int (nI (apN n9))]))) a0 (.inr (3, [.int tn0, .ref t0, .int bu0, .int gl0, .ref sc0, .ref rd0, .int (cr0 / 2), .int fi0, .int sm0, .int li0, .int in0, .int ga0, .int ke0, .int (if ke0 = 0 then gr0 else m_max gr0 p1), .int ce0]))) := hI
      have h_S := mu_k (e := .inr (3, [.int tn0, .ref t0, .int bu0, .int gl0, .ref sc0, .ref rd0, .int (cr0 / 2), .int fi0, .int sm0, .int li0, .int in0, .int ga0, .int ke0, .int (if ke0 = 0 then gr0 else m_max gr0 p1), .int ce0])) (kd_ne h_S h_I rfl) h_S
      have h_T := mu_k (e := .inr (3, [.int tn0, .ref t0, .int bu0, .int gl0, .ref sc0, .ref rd0, .int (cr0 / 2), .int fi0, .int sm0, .int li0, .int in0, .int ga0, .int ke0, .int (if ke0 = 0 then gr0 else m_max gr0 p1), .int ce0])) (kd_ne h_T h_I rfl) h_T
      have h_B := mu_k (e := .inr (3, [.int tn0, .ref t0, .int bu0, .int gl0, .ref sc0, .ref rd0, .int (cr0 / 2), .int fi0, .int sm0, .int li0, .int in0, .int ga0, .int ke0, .int (if ke0 = 0 then gr0 else m_max gr0 p1), .int ce0])) (kd_ne h_B h_I rfl) h_B
      have h_R := mu_k (e := .inr (3, [.int tn0, .ref t0, .int bu0, .int gl0, .ref sc0, .ref rd0, .int (cr0 / 2), .int fi0, .int sm0, .int li0, .int in0, .int ga0, .int ke0, .int (if ke0 = 0 then gr0 else m_max gr0 p1), .int ce0])) (kd_ne h_R h_I rfl) h_R
      have h_V := mu_k (e := .inr (3, [.int tn0, .ref t0, .int bu0, .int gl0, .ref sc0, .ref rd0, .int (cr0 / 2), .int fi0, .int sm0, .int li0, .int in0, .int ga0, .int ke0, .int (if ke0 = 0 then gr0 else m_max gr0 p1), .int ce0])) (kd_ne h_V h_I rfl) h_V
      have h_E := mu_k (e := .inr (3, [.int tn0, .ref t0, .int bu0, .int gl0, .ref sc0, .ref rd0, .int (cr0 / 2), .int fi0, .int sm0, .int li0, .int in0, .int ga0, .int ke0, .int (if ke0 = 0 then gr0 else m_max gr0 p1), .int ce0])) (kd_ne h_E h_I rfl) h_E
      have h_I : (mu (mu (mu (mu (mu Mw a0 (.inr (3, [.int tn0, .ref t0, .int bu0, .int gl0, .ref sc0, .ref rd0, .int cr0, .int fi0, .int sm0, .int li0, .int in0, .int ga0, .int ke0, .int (if ke0 = 0 then gr0 else m_max gr0 p1), .int ce0]))) va0 (.inl (G.2.1 0, 8, .inl (apV vf n9 r4)))) er0 (.inl (G.2.1 0, 8, .inl (apV ef n9 (r4 - p0))))) rd0 (.inr (4, [.ref va0, .ref er0, .int (nI (apN n9))]))) a0 (.inr (3, [.int tn0, .ref t0, .int bu0, .int gl0, .ref sc0, .ref rd0, .int (cr0 / 2), .int fi0, .int sm0, .int li0, .int in0, .int ga0, .int ke0, .int (if ke0 = 0 then gr0 else m_max gr0 p1), .int ce0]))) a0 = some (.inr (3, [.int tn0, .ref t0, .int bu0, .int gl0, .ref sc0, .ref rd0, .int (cr0 / 2), .int fi0, .int sm0, .int li0, .int in0, .int ga0, .int ke0, .int (if ke0 = 0 then gr0 else m_max gr0 p1), .int ce0])) := mu_s
      refine lv_aload_n hx hb dX0_readInBath_62 rfl (lv_at hl 1 rfl) ?_
      refine lv_iconst (v := (-1)) hx hb dX0_readInBath_63 (by decide) ?_
      refine m_put (ci := 3) (v := .int ((-1))) (ty := .int) (C := RX0) (T := TX0) (N := 15) hx hb hts i_X0 tyX0 tyX0_ok nmX0 hown hK hP hI hS h_I rfl 14 (by decide) (hts (.fieldLink RX0 26 "Meniscus$Instrument" "certificateEnd" "I") (by decide +kernel)) (fun _ h9 => h9) rfl (by decide +kernel) rfl rfl (Nat.le_of_ble_eq_true rfl) dX0_readInBath_64 (fun H locs hP hI hS => ?_)
      have hP : mP G.1 (mu (mu (mu (mu (mu (mu Mw a0 (.inr (3, [.int tn0, .ref t0, .int bu0, .int gl0, .ref sc0, .ref rd0, .int cr0, .int fi0, .int sm0, .int li0, .int in0, .int ga0, .int ke0, .int (if ke0 = 0 then gr0 else m_max gr0 p1), .int ce0]))) va0 (.inl (G.2.1 0, 8, .inl (apV vf n9 r4)))) er0 (.inl (G.2.1 0, 8, .inl (apV ef n9 (r4 - p0))))) rd0 (.inr (4, [.ref va0, .ref er0, .int (nI (apN n9))]))) a0 (.inr (3, [.int tn0, .ref t0, .int bu0, .int gl0, .ref sc0, .ref rd0, .int (cr0 / 2), .int fi0, .int sm0, .int li0, .int in0, .int ga0, .int ke0, .int (if ke0 = 0 then gr0 else m_max gr0 p1), .int ce0]))) a0 (.inr (3, [.int tn0, .ref t0, .int bu0, .int gl0, .ref sc0, .ref rd0, .int (cr0 / 2), .int fi0, .int sm0, .int li0, .int in0, .int ga0, .int ke0, .int (if ke0 = 0 then gr0 else m_max gr0 p1), .int ((-1))]))) H := hP
      have hI : mI A (mu (mu (mu (mu (mu (mu Mw a0 (.inr (3, [.int tn0, .ref t0, .int bu0, .int gl0, .ref sc0, .ref rd0, .int cr0, .int fi0, .int sm0, .int li0, .int in0, .int ga0, .int ke0, .int (if ke0 = 0 then gr0 else m_max gr0 p1), .int ce0]))) va0 (.inl (G.2.1 0, 8, .inl (apV vf n9 r4)))) er0 (.inl (G.2.1 0, 8, .inl (apV ef n9 (r4 - p0))))) rd0 (.inr (4, [.ref va0, .ref er0, .int (nI (apN n9))]))) a0 (.inr (3, [.int tn0, .ref t0, .int bu0, .int gl0, .ref sc0, .ref rd0, .int (cr0 / 2), .int fi0, .int sm0, .int li0, .int in0, .int ga0, .int ke0, .int (if ke0 = 0 then gr0 else m_max gr0 p1), .int ce0]))) a0 (.inr (3, [.int tn0, .ref t0, .int bu0, .int gl0, .ref sc0, .ref rd0, .int (cr0 / 2), .int fi0, .int sm0, .int li0, .int in0, .int ga0, .int ke0, .int (if ke0 = 0 then gr0 else m_max gr0 p1), .int ((-1))]))) := hI
      have h_S := mu_k (e := .inr (3, [.int tn0, .ref t0, .int bu0, .int gl0, .ref sc0, .ref rd0, .int (cr0 / 2), .int fi0, .int sm0, .int li0, .int in0, .int ga0, .int ke0, .int (if ke0 = 0 then gr0 else m_max gr0 p1), .int ((-1))])) (kd_ne h_S h_I rfl) h_S
      have h_T := mu_k (e := .inr (3, [.int tn0, .ref t0, .int bu0, .int gl0, .ref sc0, .ref rd0, .int (cr0 / 2), .int fi0, .int sm0, .int li0, .int in0, .int ga0, .int ke0, .int (if ke0 = 0 then gr0 else m_max gr0 p1), .int ((-1))])) (kd_ne h_T h_I rfl) h_T
      have h_B := mu_k (e := .inr (3, [.int tn0, .ref t0, .int bu0, .int gl0, .ref sc0, .ref rd0, .int (cr0 / 2), .int fi0, .int sm0, .int li0, .int in0, .int ga0, .int ke0, .int (if ke0 = 0 then gr0 else m_max gr0 p1), .int ((-1))])) (kd_ne h_B h_I rfl) h_B
      have h_R := mu_k (e := .inr (3, [.int tn0, .ref t0, .int bu0, .int gl0, .ref sc0, .ref rd0, .int (cr0 / 2), .int fi0, .int sm0, .int li0, .int in0, .int ga0, .int ke0, .int (if ke0 = 0 then gr0 else m_max gr0 p1), .int ((-1))])) (kd_ne h_R h_I rfl) h_R
      have h_V := mu_k (e := .inr (3, [.int tn0, .ref t0, .int bu0, .int gl0, .ref sc0, .ref rd0, .int (cr0 / 2), .int fi0, .int sm0, .int li0, .int in0, .int ga0, .int ke0, .int (if ke0 = 0 then gr0 else m_max gr0 p1), .int ((-1))])) (kd_ne h_V h_I rfl) h_V
      have h_E := mu_k (e := .inr (3, [.int tn0, .ref t0, .int bu0, .int gl0, .ref sc0, .ref rd0, .int (cr0 / 2), .int fi0, .int sm0, .int li0, .int in0, .int ga0, .int ke0, .int (if ke0 = 0 then gr0 else m_max gr0 p1), .int ((-1))])) (kd_ne h_E h_I rfl) h_E
      rw [mu_uu] at hP hI h_S h_T h_B h_R h_V h_E
      have h_I : (mu (mu (mu (mu (mu Mw a0 (.inr (3, [.int tn0, .ref t0, .int bu0, .int gl0, .ref sc0, .ref rd0, .int cr0, .int fi0, .int sm0, .int li0, .int in0, .int ga0, .int ke0, .int (if ke0 = 0 then gr0 else m_max gr0 p1), .int ce0]))) va0 (.inl (G.2.1 0, 8, .inl (apV vf n9 r4)))) er0 (.inl (G.2.1 0, 8, .inl (apV ef n9 (r4 - p0))))) rd0 (.inr (4, [.ref va0, .ref er0, .int (nI (apN n9))]))) a0 (.inr (3, [.int tn0, .ref t0, .int bu0, .int gl0, .ref sc0, .ref rd0, .int (cr0 / 2), .int fi0, .int sm0, .int li0, .int in0, .int ga0, .int ke0, .int (if ke0 = 0 then gr0 else m_max gr0 p1), .int ((-1))]))) a0 = some (.inr (3, [.int tn0, .ref t0, .int bu0, .int gl0, .ref sc0, .ref rd0, .int (cr0 / 2), .int fi0, .int sm0, .int li0, .int in0, .int ga0, .int ke0, .int (if ke0 = 0 then gr0 else m_max gr0 p1), .int ((-1))])) := mu_s
      refine lv_iload_n hx hb dX0_readInBath_67 rfl (lv_at hl 0 rfl) ?_
      have hr9 : r4 = rdg kin0 bf ice0 stm0 stt0 (m_min 200 ((if ke0 = 0 then p1 else m_max gr0 p1) + (if p0 ≤ (-200) then 0 else ga0))) := by rw [hp_r4, hp_r2]; simp only [if_neg (i_nle c1)]
      refine W.widen (k := 0) (n := 0) (Nat.le_of_ble_eq_true rfl) (Nat.le_of_ble_eq_true rfl) ?_
      exact W.iret (v := r4) hx hb hr (fun t99 ht99 hW99 => ⟨⟨r4, (mu (mu (mu (mu (mu Mw a0 (.inr (3, [.int tn0, .ref t0, .int bu0, .int gl0, .ref sc0, .ref rd0, .int cr0, .int fi0, .int sm0, .int li0, .int in0, .int ga0, .int ke0, .int (if ke0 = 0 then gr0 else m_max gr0 p1), .int ce0]))) va0 (.inl (G.2.1 0, 8, .inl (apV vf n9 r4)))) er0 (.inl (G.2.1 0, 8, .inl (apV ef n9 (r4 - p0))))) rd0 (.inr (4, [.ref va0, .ref er0, .int (nI (apN n9))]))) a0 (.inr (3, [.int tn0, .ref t0, .int bu0, .int gl0, .ref sc0, .ref rd0, .int (cr0 / 2), .int fi0, .int sm0, .int li0, .int in0, .int ga0, .int ke0, .int (if ke0 = 0 then gr0 else m_max gr0 p1), .int ((-1))]))), rfl, ⟨hr9, mw_ext4 (h_I.trans (congrArg some (by simp only [if_neg (i_nle c1), if_pos (i_lt c6)]))) (h_V.trans (congrArg some (by rw [hr9]))) (h_E.trans (congrArg some (by rw [hr9]))) h_R (fun z h1 h2 h3 h4 => (mu_n h1).trans ((mu_n h4).trans ((mu_n h3).trans ((mu_n h2).trans ((mu_n h1).trans (rfl))))))⟩, by rw [ht99]; exact hP, hI⟩, hS.F ht99⟩) hS.2.2 dX0_readInBath_68
  · skip
    refine lv_aload_n hx hb dX0_readInBath_7 rfl (lv_at hl 0 rfl) ?_
    refine lv_iconst (v := 0) hx hb dX0_readInBath_8 (by decide) ?_
    refine m_put (ci := 3) (v := .int 0) (ty := .int) (C := RX0) (T := TX0) (N := 15) hx hb hts i_X0 tyX0 tyX0_ok nmX0 hown hK hP hI hS h_I rfl 11 (by decide) (hts (.fieldLink RX0 94 "Meniscus$Instrument" "gap" "I") (by decide +kernel)) (fun _ h9 => h9) rfl (by decide +kernel) rfl rfl (Nat.le_of_ble_eq_true rfl) dX0_readInBath_9 (fun H locs hP hI hS => ?_)
    have hP : mP G.1 (mu Mw a0 (.inr (3, [.int tn0, .ref t0, .int bu0, .int gl0, .ref sc0, .ref rd0, .int cr0, .int fi0, .int sm0, .int li0, .int in0, .int 0, .int ke0, .int gr0, .int ce0]))) H := hP
    have hI : mI A (mu Mw a0 (.inr (3, [.int tn0, .ref t0, .int bu0, .int gl0, .ref sc0, .ref rd0, .int cr0, .int fi0, .int sm0, .int li0, .int in0, .int 0, .int ke0, .int gr0, .int ce0]))) := hI
    have h_S := mu_k (e := .inr (3, [.int tn0, .ref t0, .int bu0, .int gl0, .ref sc0, .ref rd0, .int cr0, .int fi0, .int sm0, .int li0, .int in0, .int 0, .int ke0, .int gr0, .int ce0])) (kd_ne h_S h_I rfl) h_S
    have h_T := mu_k (e := .inr (3, [.int tn0, .ref t0, .int bu0, .int gl0, .ref sc0, .ref rd0, .int cr0, .int fi0, .int sm0, .int li0, .int in0, .int 0, .int ke0, .int gr0, .int ce0])) (kd_ne h_T h_I rfl) h_T
    have h_B := mu_k (e := .inr (3, [.int tn0, .ref t0, .int bu0, .int gl0, .ref sc0, .ref rd0, .int cr0, .int fi0, .int sm0, .int li0, .int in0, .int 0, .int ke0, .int gr0, .int ce0])) (kd_ne h_B h_I rfl) h_B
    have h_R := mu_k (e := .inr (3, [.int tn0, .ref t0, .int bu0, .int gl0, .ref sc0, .ref rd0, .int cr0, .int fi0, .int sm0, .int li0, .int in0, .int 0, .int ke0, .int gr0, .int ce0])) (kd_ne h_R h_I rfl) h_R
    have h_V := mu_k (e := .inr (3, [.int tn0, .ref t0, .int bu0, .int gl0, .ref sc0, .ref rd0, .int cr0, .int fi0, .int sm0, .int li0, .int in0, .int 0, .int ke0, .int gr0, .int ce0])) (kd_ne h_V h_I rfl) h_V
    have h_E := mu_k (e := .inr (3, [.int tn0, .ref t0, .int bu0, .int gl0, .ref sc0, .ref rd0, .int cr0, .int fi0, .int sm0, .int li0, .int in0, .int 0, .int ke0, .int gr0, .int ce0])) (kd_ne h_E h_I rfl) h_E
    have h_I : (mu Mw a0 (.inr (3, [.int tn0, .ref t0, .int bu0, .int gl0, .ref sc0, .ref rd0, .int cr0, .int fi0, .int sm0, .int li0, .int in0, .int 0, .int ke0, .int gr0, .int ce0]))) a0 = some (.inr (3, [.int tn0, .ref t0, .int bu0, .int gl0, .ref sc0, .ref rd0, .int cr0, .int fi0, .int sm0, .int li0, .int in0, .int 0, .int ke0, .int gr0, .int ce0])) := mu_s
    refine lv_aload_n hx hb dX0_readInBath_12 rfl (lv_at hl 0 rfl) ?_
    refine m_get (ci := 3) (v := .ref sc0) (C := RX0) (T := TX0) (N := 15) hx hb hts i_X0 hown hK (hP _ _ h_I) rfl 4 (by decide) (hts (.fieldLink RX0 47 "Meniscus$Instrument" "scale" "LMeniscus$Scale;") (by decide +kernel)) (fun _ h9 => h9) rfl dX0_readInBath_13 ?_
    refine lv_sipush (v := (200)) hx hb dX0_readInBath_16 (by decide) ?_
    refine lv_aload_n hx hb dX0_readInBath_19 rfl (lv_at hl 0 rfl) ?_
    refine lv_iload_n hx hb dX0_readInBath_20 rfl (lv_at hl 2 rfl) ?_
    refine m_calli (va_runV (As := [.int p1]) (rest := [.int 200, .ref sc0]) ⟨hx, hb, hml, hown, hts⟩ (c_X0_levelShown l G A (mu Mw a0 (.inr (3, [.int tn0, .ref t0, .int bu0, .int gl0, .ref sc0, .ref rd0, .int cr0, .int fi0, .int sm0, .int li0, .int in0, .int 0, .int ke0, .int gr0, .int ce0])))  p1 h_I) (cwV 1 hts gX0_readInBath_X0_levelShown rfl rfl rfl (by decide +kernel) ⟨Nat.le_of_ble_eq_true rfl, Nat.le_of_ble_eq_true rfl⟩) (mPreV hG hS hP hI hA (hP _ _ h_I) (r := (RX0, TX0, 15)) rfl) rfl rfl hl.1 rfl (lv_room (Nat.le_of_ble_eq_true rfl)) dX0_readInBath_21 ⟨Nat.le_of_ble_eq_true rfl, Nat.le_of_ble_eq_true rfl⟩) hS (fun r7 Mw1 H locs hp_r7 hP hI hS => ?_)
    obtain ⟨hp_r7, hm9⟩ := hp_r7
    subst Mw1
    have h_S := mu_k (e := .inr (3, [.int tn0, .ref t0, .int bu0, .int gl0, .ref sc0, .ref rd0, .int cr0, .int fi0, .int sm0, .int li0, .int in0, .int 0, .int ke0, .int (if ke0 = 0 then gr0 else m_max gr0 p1), .int ce0])) (kd_ne h_S h_I rfl) h_S
    have h_T := mu_k (e := .inr (3, [.int tn0, .ref t0, .int bu0, .int gl0, .ref sc0, .ref rd0, .int cr0, .int fi0, .int sm0, .int li0, .int in0, .int 0, .int ke0, .int (if ke0 = 0 then gr0 else m_max gr0 p1), .int ce0])) (kd_ne h_T h_I rfl) h_T
    have h_B := mu_k (e := .inr (3, [.int tn0, .ref t0, .int bu0, .int gl0, .ref sc0, .ref rd0, .int cr0, .int fi0, .int sm0, .int li0, .int in0, .int 0, .int ke0, .int (if ke0 = 0 then gr0 else m_max gr0 p1), .int ce0])) (kd_ne h_B h_I rfl) h_B
    have h_R := mu_k (e := .inr (3, [.int tn0, .ref t0, .int bu0, .int gl0, .ref sc0, .ref rd0, .int cr0, .int fi0, .int sm0, .int li0, .int in0, .int 0, .int ke0, .int (if ke0 = 0 then gr0 else m_max gr0 p1), .int ce0])) (kd_ne h_R h_I rfl) h_R
    have h_V := mu_k (e := .inr (3, [.int tn0, .ref t0, .int bu0, .int gl0, .ref sc0, .ref rd0, .int cr0, .int fi0, .int sm0, .int li0, .int in0, .int 0, .int ke0, .int (if ke0 = 0 then gr0 else m_max gr0 p1), .int ce0])) (kd_ne h_V h_I rfl) h_V
    have h_E := mu_k (e := .inr (3, [.int tn0, .ref t0, .int bu0, .int gl0, .ref sc0, .ref rd0, .int cr0, .int fi0, .int sm0, .int li0, .int in0, .int 0, .int ke0, .int (if ke0 = 0 then gr0 else m_max gr0 p1), .int ce0])) (kd_ne h_E h_I rfl) h_E
    have h_I : (mu (mu Mw a0 (.inr (3, [.int tn0, .ref t0, .int bu0, .int gl0, .ref sc0, .ref rd0, .int cr0, .int fi0, .int sm0, .int li0, .int in0, .int 0, .int ke0, .int gr0, .int ce0]))) a0 (.inr (3, [.int tn0, .ref t0, .int bu0, .int gl0, .ref sc0, .ref rd0, .int cr0, .int fi0, .int sm0, .int li0, .int in0, .int 0, .int ke0, .int (if ke0 = 0 then gr0 else m_max gr0 p1), .int ce0]))) a0 = some (.inr (3, [.int tn0, .ref t0, .int bu0, .int gl0, .ref sc0, .ref rd0, .int cr0, .int fi0, .int sm0, .int li0, .int in0, .int 0, .int ke0, .int (if ke0 = 0 then gr0 else m_max gr0 p1), .int ce0])) := mu_s
    refine lv_aload_n hx hb dX0_readInBath_24 rfl (lv_at hl 0 rfl) ?_
    refine m_get (ci := 3) (v := .int 0) (C := RX0) (T := TX0) (N := 15) hx hb hts i_X0 hown hK (hP _ _ h_I) rfl 11 (by decide) (hts (.fieldLink RX0 94 "Meniscus$Instrument" "gap" "I") (by decide +kernel)) (fun _ h9 => h9) rfl dX0_readInBath_25 ?_
    refine lv_iadd hx hb dX0_readInBath_28 ?_
    refine va_mmin hx hb (hml.trans hl.1.symm) hown (hts (.methodLink RX0 100 Lib.Math.min.name) (by decide +kernel)) (hts (.static Lib.Math.min.name) (by decide +kernel)) (hts (.initialized "java/lang/Math") (by decide +kernel)) (hts (.code Lib.Math.min.name Lib.Math.min.code 2 (some .int)) (by decide +kernel)) (Nat.le_of_ble_eq_true rfl) (Nat.le_of_ble_eq_true rfl) (Nat.le_of_ble_eq_true rfl) (Nat.le_of_ble_eq_true rfl) dX0_readInBath_29 ?_
    refine m_calli (va_runV (As := [.int (m_min 200 (r7 + 0))]) (rest := []) ⟨hx, hb, hml, hown, hts⟩ (c_X2_readingAt l G A (mu (mu Mw a0 (.inr (3, [.int tn0, .ref t0, .int bu0, .int gl0, .ref sc0, .ref rd0, .int cr0, .int fi0, .int sm0, .int li0, .int in0, .int 0, .int ke0, .int gr0, .int ce0]))) a0 (.inr (3, [.int tn0, .ref t0, .int bu0, .int gl0, .ref sc0, .ref rd0, .int cr0, .int fi0, .int sm0, .int li0, .int in0, .int 0, .int ke0, .int (if ke0 = 0 then gr0 else m_max gr0 p1), .int ce0])))  (m_min 200 (r7 + 0)) h_S h_T h_B) (cwV 1 hts gX0_readInBath_X2_readingAt rfl rfl rfl (by decide +kernel) ⟨Nat.le_of_ble_eq_true rfl, Nat.le_of_ble_eq_true rfl⟩) (mPreV hG hS hP hI hA (hP _ _ h_S) (r := (RX2, TX2, 5)) rfl) rfl rfl hl.1 rfl (lv_room (Nat.le_of_ble_eq_true rfl)) dX0_readInBath_32 ⟨Nat.le_of_ble_eq_true rfl, Nat.le_of_ble_eq_true rfl⟩) hS (fun r9 Mw1 H locs hp_r9 hP hI hS => ?_)
    obtain ⟨hp_r9, hm9⟩ := hp_r9
    subst Mw1
    refine lv_istore_n (lv' := [(3, .int r9), (0, .ref a0), (1, .int p0), (2, .int p1)]) hx hb dX0_readInBath_35 rfl hl (by decide) rfl (fun ls hl => ?_)
    refine lv_aload_n hx hb dX0_readInBath_36 rfl (lv_at hl 1 rfl) ?_
    refine m_get (ci := 3) (v := .ref rd0) (C := RX0) (T := TX0) (N := 15) hx hb hts i_X0 hown hK (hP _ _ h_I) rfl 5 (by decide) (hts (.fieldLink RX0 12 "Meniscus$Instrument" "readings" "LMeniscus$Readings;") (by decide +kernel)) (fun _ h9 => h9) rfl dX0_readInBath_37 ?_
    refine lv_iload_n hx hb dX0_readInBath_40 rfl (lv_at hl 0 rfl) ?_
    refine lv_iload_n hx hb dX0_readInBath_41 rfl (lv_at hl 2 rfl) ?_
    refine m_callv (va_runV (As := [.int r9, .int p0]) (rest := []) ⟨hx, hb, hml, hown, hts⟩ (c_X1_append l G A (mu (mu Mw a0 (.inr (3, [.int tn0, .ref t0, .int bu0, .int gl0, .ref sc0, .ref rd0, .int cr0, .int fi0, .int sm0, .int li0, .int in0, .int 0, .int ke0, .int gr0, .int ce0]))) a0 (.inr (3, [.int tn0, .ref t0, .int bu0, .int gl0, .ref sc0, .ref rd0, .int cr0, .int fi0, .int sm0, .int li0, .int in0, .int 0, .int ke0, .int (if ke0 = 0 then gr0 else m_max gr0 p1), .int ce0])))  r9 p0 hve hn9 h_R h_V h_E) (cwV 2 hts gX0_readInBath_X1_append rfl rfl rfl (by decide +kernel) ⟨Nat.le_of_ble_eq_true rfl, Nat.le_of_ble_eq_true rfl⟩) (mPreV hG hS hP hI hA (hP _ _ h_R) (r := (RX1, TX1, 3)) rfl) rfl rfl hl.1 rfl (lv_room (Nat.le_of_ble_eq_true rfl)) dX0_readInBath_42 ⟨Nat.le_of_ble_eq_true rfl, Nat.le_of_ble_eq_true rfl⟩) hS (fun Mw1 H locs hp_r10 hP hI hS => ?_)
    subst Mw1
    have h_I := mu_k (e := .inl (G.2.1 0, 8, .inl (apV vf n9 r9))) (kd_ne h_I h_V rfl) h_I
    have h_S := mu_k (e := .inl (G.2.1 0, 8, .inl (apV vf n9 r9))) (kd_ne h_S h_V rfl) h_S
    have h_T := mu_k (e := .inl (G.2.1 0, 8, .inl (apV vf n9 r9))) (kd_ne h_T h_V rfl) h_T
    have h_B := mu_k (e := .inl (G.2.1 0, 8, .inl (apV vf n9 r9))) (Ne.symm hvb) h_B
    have h_R := mu_k (e := .inl (G.2.1 0, 8, .inl (apV vf n9 r9))) (kd_ne h_R h_V rfl) h_R
    have h_E := mu_k (e := .inl (G.2.1 0, 8, .inl (apV vf n9 r9))) (Ne.symm hve) h_E
    have h_V : (mu (mu (mu Mw a0 (.inr (3, [.int tn0, .ref t0, .int bu0, .int gl0, .ref sc0, .ref rd0, .int cr0, .int fi0, .int sm0, .int li0, .int in0, .int 0, .int ke0, .int gr0, .int ce0]))) a0 (.inr (3, [.int tn0, .ref t0, .int bu0, .int gl0, .ref sc0, .ref rd0, .int cr0, .int fi0, .int sm0, .int li0, .int in0, .int 0, .int ke0, .int (if ke0 = 0 then gr0 else m_max gr0 p1), .int ce0]))) va0 (.inl (G.2.1 0, 8, .inl (apV vf n9 r9)))) va0 = some (.inl (G.2.1 0, 8, .inl (apV vf n9 r9))) := mu_s
    have h_I := mu_k (e := .inl (G.2.1 0, 8, .inl (apV ef n9 (r9 - p0)))) (kd_ne h_I h_E rfl) h_I
    have h_S := mu_k (e := .inl (G.2.1 0, 8, .inl (apV ef n9 (r9 - p0)))) (kd_ne h_S h_E rfl) h_S
    have h_T := mu_k (e := .inl (G.2.1 0, 8, .inl (apV ef n9 (r9 - p0)))) (kd_ne h_T h_E rfl) h_T
    have h_B := mu_k (e := .inl (G.2.1 0, 8, .inl (apV ef n9 (r9 - p0)))) (Ne.symm heb) h_B
    have h_R := mu_k (e := .inl (G.2.1 0, 8, .inl (apV ef n9 (r9 - p0)))) (kd_ne h_R h_E rfl) h_R
    have h_V := mu_k (e := .inl (G.2.1 0, 8, .inl (apV ef n9 (r9 - p0)))) hve h_V
    have h_E : (mu (mu (mu (mu Mw a0 (.inr (3, [.int tn0, .ref t0, .int bu0, .int gl0, .ref sc0, .ref rd0, .int cr0, .int fi0, .int sm0, .int li0, .int in0, .int 0, .int ke0, .int gr0, .int ce0]))) a0 (.inr (3, [.int tn0, .ref t0, .int bu0, .int gl0, .ref sc0, .ref rd0, .int cr0, .int fi0, .int sm0, .int li0, .int in0, .int 0, .int ke0, .int (if ke0 = 0 then gr0 else m_max gr0 p1), .int ce0]))) va0 (.inl (G.2.1 0, 8, .inl (apV vf n9 r9)))) er0 (.inl (G.2.1 0, 8, .inl (apV ef n9 (r9 - p0))))) er0 = some (.inl (G.2.1 0, 8, .inl (apV ef n9 (r9 - p0)))) := mu_s
    have h_I := mu_k (e := .inr (4, [.ref va0, .ref er0, .int (nI (apN n9))])) (kd_ne h_I h_R rfl) h_I
    have h_S := mu_k (e := .inr (4, [.ref va0, .ref er0, .int (nI (apN n9))])) (kd_ne h_S h_R rfl) h_S
    have h_T := mu_k (e := .inr (4, [.ref va0, .ref er0, .int (nI (apN n9))])) (kd_ne h_T h_R rfl) h_T
    have h_B := mu_k (e := .inr (4, [.ref va0, .ref er0, .int (nI (apN n9))])) (kd_ne h_B h_R rfl) h_B
    have h_V := mu_k (e := .inr (4, [.ref va0, .ref er0, .int (nI (apN n9))])) (kd_ne h_V h_R rfl) h_V
    have h_E := mu_k (e := .inr (4, [.ref va0, .ref er0, .int (nI (apN n9))])) (kd_ne h_E h_R rfl) h_E
    have h_R : (mu (mu (mu (mu (mu Mw a0 (.inr (3, [.int tn0, .ref t0, .int bu0, .int gl0, .ref sc0, .ref rd0, .int cr0, .int fi0, .int sm0, .int li0, .int in0, .int 0, .int ke0, .int gr0, .int ce0]))) a0 (.inr (3, [.int tn0, .ref t0, .int bu0, .int gl0, .ref sc0, .ref rd0, .int cr0, .int fi0, .int sm0, .int li0, .int in0, .int 0, .int ke0, .int (if ke0 = 0 then gr0 else m_max gr0 p1), .int ce0]))) va0 (.inl (G.2.1 0, 8, .inl (apV vf n9 r9)))) er0 (.inl (G.2.1 0, 8, .inl (apV ef n9 (r9 - p0))))) rd0 (.inr (4, [.ref va0, .ref er0, .int (nI (apN n9))]))) rd0 = some (.inr (4, [.ref va0, .ref er0, .int (nI (apN n9))])) := mu_s
    refine lv_iload_n hx hb dX0_readInBath_45 rfl (lv_at hl 2 rfl) ?_
    refine lv_sipush (v := (2000)) hx hb dX0_readInBath_46 (by decide) ?_
    refine lv_icmp_le (tgt := 67) hx hb dX0_readInBath_49 (by decide) (fun c11 => ?_) (fun c11 => ?_)
    · skip
      refine lv_iload_n hx hb dX0_readInBath_67 rfl (lv_at hl 0 rfl) ?_
      have hr9 : r9 = rdg kin0 bf ice0 stm0 stt0 (m_min 200 ((if ke0 = 0 then p1 else m_max gr0 p1) + (if p0 ≤ (-200) then 0 else ga0))) := by rw [hp_r9, hp_r7]; simp only [if_pos (i_le c1)]
      refine W.widen (k := 0) (n := 0) (Nat.le_of_ble_eq_true rfl) (Nat.le_of_ble_eq_true rfl) ?_
      exact W.iret (v := r9) hx hb hr (fun t99 ht99 hW99 => ⟨⟨r9, (mu (mu (mu (mu (mu Mw a0 (.inr (3, [.int tn0, .ref t0, .int bu0, .int gl0, .ref sc0, .ref rd0, .int cr0, .int fi0, .int sm0, .int li0, .int in0, .int 0, .int ke0, .int gr0, .int ce0]))) a0 (.inr (3, [.int tn0, .ref t0, .int bu0, .int gl0, .ref sc0, .ref rd0, .int cr0, .int fi0, .int sm0, .int li0, .int in0, .int 0, .int ke0, .int (if ke0 = 0 then gr0 else m_max gr0 p1), .int ce0]))) va0 (.inl (G.2.1 0, 8, .inl (apV vf n9 r9)))) er0 (.inl (G.2.1 0, 8, .inl (apV ef n9 (r9 - p0))))) rd0 (.inr (4, [.ref va0, .ref er0, .int (nI (apN n9))]))), rfl, ⟨hr9, mw_ext4 (h_I.trans (congrArg some (by simp only [if_pos (i_le c1), if_neg (i_nlt c11)]))) (h_V.trans (congrArg some (by rw [hr9]))) (h_E.trans (congrArg some (by rw [hr9]))) h_R (fun z h1 h2 h3 h4 => (mu_n h4).trans ((mu_n h3).trans ((mu_n h2).trans ((mu_n h1).trans ((mu_n h1).trans (rfl))))))⟩, by rw [ht99]; exact hP, hI⟩, hS.F ht99⟩) hS.2.2 dX0_readInBath_68
    · skip
      refine lv_aload_n hx hb dX0_readInBath_52 rfl (lv_at hl 1 rfl) ?_
      refine lv_dup hx hb dX0_readInBath_53 rfl ?_
      refine m_get (ci := 3) (v := .int cr0) (C := RX0) (T := TX0) (N := 15) hx hb hts i_X0 hown hK (hP _ _ h_I) rfl 6 (by decide) (hts (.fieldLink RX0 51 "Meniscus$Instrument" "crept" "I") (by decide +kernel)) (fun _ h9 => h9) rfl dX0_readInBath_54 ?_
      refine lv_iconst (v := 2) hx hb dX0_readInBath_57 (by decide) ?_
      refine lv_idiv hx hb dX0_readInBath_58 (by decide) ?_
      refine m_put (ci := 3) (v := .int (cr0 / 2)) (ty := .int) (C := RX0) (T := TX0) (N := 15) hx hb hts i_X0 tyX0 tyX0_ok nmX0 hown hK hP hI hS h_I rfl 6 (by decide) (hts (.fieldLink RX0 51 "Meniscus$Instrument" "crept" "I") (by decide +kernel)) (fun _ h9 => h9) rfl (by decide +kernel) rfl rfl (Nat.le_of_ble_eq_true rfl) dX0_readInBath_59 (fun H locs hP hI hS => ?_)
      have hP : mP G.1 (mu (mu (mu (mu (mu (mu Mw a0 (.inr (3, [.int tn0, .ref t0, .int bu0, .int gl0, .ref sc0, .ref rd0, .int cr0, .int fi0, .int sm0, .int li0, .int in0, .int 0, .int ke0, .int gr0, .int ce0]))) a0 (.inr (3, [.int tn0, .ref t0, .int bu0, .int gl0, .ref sc0, .ref rd0, .int cr0, .int fi0, .int sm0, .int li0, .int in0, .int 0, .int ke0, .int (if ke0 = 0 then gr0 else m_max gr0 p1), .int ce0]))) va0 (.inl (G.2.1 0, 8, .inl (apV vf n9 r9)))) er0 (.inl (G.2.1 0, 8, .inl (apV ef n9 (r9 - p0))))) rd0 (.inr (4, [.ref va0, .ref er0, .int (nI (apN n9))]))) a0 (.inr (3, [.int tn0, .ref t0, .int bu0, .int gl0, .ref sc0, .ref rd0, .int (cr0 / 2), .int fi0, .int sm0, .int li0, .int in0, .int 0, .int ke0, .int (if ke0 = 0 then gr0 else m_max gr0 p1), .int ce0]))) H := hP
      have hI : mI A (mu (mu (mu (mu (mu (mu Mw a0 (.inr (3, [.int tn0, .ref t0, .int bu0, .int gl0, .ref sc0, .ref rd0, .int cr0, .int fi0, .int sm0, .int li0, .int in0, .int 0, .int ke0, .int gr0, .int ce0]))) a0 (.inr (3, [.int tn0, .ref t0, .int bu0, .int gl0, .ref sc0, .ref rd0, .int cr0, .int fi0, .int sm0, .int li0, .int in0, .int 0, .int ke0, .int (if ke0 = 0 then gr0 else m_max gr0 p1), .int ce0]))) va0 (.inl (G.2.1 0, 8, .inl (apV vf n9 r9)))) er0 (.inl (G.2.1 0, 8, .inl (apV ef n9 (r9 - p0))))) rd0 (.inr (4, [.ref va0, .ref er0, .int (nI (apN n9))]))) a0 (.inr (3, [.int tn0, .ref t0, .int bu0, .int gl0, .ref sc0, .ref rd0, .int (cr0 / 2), .int fi0, .int sm0, .int li0, .int in0, .int 0, .int ke0, .int (if ke0 = 0 then gr0 else m_max gr0 p1), .int ce0]))) := hI
      have h_S := mu_k (e := .inr (3, [.int tn0, .ref t0, .int bu0, .int gl0, .ref sc0, .ref rd0, .int (cr0 / 2), .int fi0, .int sm0, .int li0, .int in0, .int 0, .int ke0, .int (if ke0 = 0 then gr0 else m_max gr0 p1), .int ce0])) (kd_ne h_S h_I rfl) h_S
      have h_T := mu_k (e := .inr (3, [.int tn0, .ref t0, .int bu0, .int gl0, .ref sc0, .ref rd0, .int (cr0 / 2), .int fi0, .int sm0, .int li0, .int in0, .int 0, .int ke0, .int (if ke0 = 0 then gr0 else m_max gr0 p1), .int ce0])) (kd_ne h_T h_I rfl) h_T
      have h_B := mu_k (e := .inr (3, [.int tn0, .ref t0, .int bu0, .int gl0, .ref sc0, .ref rd0, .int (cr0 / 2), .int fi0, .int sm0, .int li0, .int in0, .int 0, .int ke0, .int (if ke0 = 0 then gr0 else m_max gr0 p1), .int ce0])) (kd_ne h_B h_I rfl) h_B
      have h_R := mu_k (e := .inr (3, [.int tn0, .ref t0, .int bu0, .int gl0, .ref sc0, .ref rd0, .int (cr0 / 2), .int fi0, .int sm0, .int li0, .int in0, .int 0, .int ke0, .int (if ke0 = 0 then gr0 else m_max gr0 p1), .int ce0])) (kd_ne h_R h_I rfl) h_R
      have h_V := mu_k (e := .inr (3, [.int tn0, .ref t0, .int bu0, .int gl0, .ref sc0, .ref rd0, .int (cr0 / 2), .int fi0, .int sm0, .int li0, .int in0, .int 0, .int ke0, .int (if ke0 = 0 then gr0 else m_max gr0 p1), .int ce0])) (kd_ne h_V h_I rfl) h_V
      have h_E := mu_k (e := .inr (3, [.int tn0, .ref t0, .int bu0, .int gl0, .ref sc0, .ref rd0, .int (cr0 / 2), .int fi0, .int sm0, .int li0, .int in0, .int 0, .int ke0, .int (if ke0 = 0 then gr0 else m_max gr0 p1), .int ce0])) (kd_ne h_E h_I rfl) h_E
      have h_I : (mu (mu (mu (mu (mu (mu Mw a0 (.inr (3, [.int tn0, .ref t0, .int bu0, .int gl0, .ref sc0, .ref rd0, .int cr0, .int fi0, .int sm0, .int li0, .int in0, .int 0, .int ke0, .int gr0, .int ce0]))) a0 (.inr (3, [.int tn0, .ref t0, .int bu0, .int gl0, .ref sc0, .ref rd0, .int cr0, .int fi0, .int sm0, .int li0, .int in0, .int 0, .int ke0, .int (if ke0 = 0 then gr0 else m_max gr0 p1), .int ce0]))) va0 (.inl (G.2.1 0, 8, .inl (apV vf n9 r9)))) er0 (.inl (G.2.1 0, 8, .inl (apV ef n9 (r9 - p0))))) rd0 (.inr (4, [.ref va0, .ref er0, .int (nI (apN n9))]))) a0 (.inr (3, [.int tn0, .ref t0, .int bu0, .int gl0, .ref sc0, .ref rd0, .int (cr0 / 2), .int fi0, .int sm0, .int li0, .int in0, .int 0, .int ke0, .int (if ke0 = 0 then gr0 else m_max gr0 p1), .int ce0]))) a0 = some (.inr (3, [.int tn0, .ref t0, .int bu0, .int gl0, .ref sc0, .ref rd0, .int (cr0 / 2), .int fi0, .int sm0, .int li0, .int in0, .int 0, .int ke0, .int (if ke0 = 0 then gr0 else m_max gr0 p1), .int ce0])) := mu_s
      refine lv_aload_n hx hb dX0_readInBath_62 rfl (lv_at hl 1 rfl) ?_
      refine lv_iconst (v := (-1)) hx hb dX0_readInBath_63 (by decide) ?_
      refine m_put (ci := 3) (v := .int ((-1))) (ty := .int) (C := RX0) (T := TX0) (N := 15) hx hb hts i_X0 tyX0 tyX0_ok nmX0 hown hK hP hI hS h_I rfl 14 (by decide) (hts (.fieldLink RX0 26 "Meniscus$Instrument" "certificateEnd" "I") (by decide +kernel)) (fun _ h9 => h9) rfl (by decide +kernel) rfl rfl (Nat.le_of_ble_eq_true rfl) dX0_readInBath_64 (fun H locs hP hI hS => ?_)
      have hP : mP G.1 (mu (mu (mu (mu (mu (mu (mu Mw a0 (.inr (3, [.int tn0, .ref t0, .int bu0, .int gl0, .ref sc0, .ref rd0, .int cr0, .int fi0, .int sm0, .int li0, .int in0, .int 0, .int ke0, .int gr0, .int ce0]))) a0 (.inr (3, [.int tn0, .ref t0, .int bu0, .int gl0, .ref sc0, .ref rd0, .int cr0, .int fi0, .int sm0, .int li0, .int in0, .int 0, .int ke0, .int (if ke0 = 0 then gr0 else m_max gr0 p1), .int ce0]))) va0 (.inl (G.2.1 0, 8, .inl (apV vf n9 r9)))) er0 (.inl (G.2.1 0, 8, .inl (apV ef n9 (r9 - p0))))) rd0 (.inr (4, [.ref va0, .ref er0, .int (nI (apN n9))]))) a0 (.inr (3, [.int tn0, .ref t0, .int bu0, .int gl0, .ref sc0, .ref rd0, .int (cr0 / 2), .int fi0, .int sm0, .int li0, .int in0, .int 0, .int ke0, .int (if ke0 = 0 then gr0 else m_max gr0 p1), .int ce0]))) a0 (.inr (3, [.int tn0, .ref t0, .int bu0, .int gl0, .ref sc0, .ref rd0, .int (cr0 / 2), .int fi0, .int sm0, .int li0, .int in0, .int 0, .int ke0, .int (if ke0 = 0 then gr0 else m_max gr0 p1), .int ((-1))]))) H := hP
      have hI : mI A (mu (mu (mu (mu (mu (mu (mu Mw a0 (.inr (3, [.int tn0, .ref t0, .int bu0, .int gl0, .ref sc0, .ref rd0, .int cr0, .int fi0, .int sm0, .int li0, .int in0, .int 0, .int ke0, .int gr0, .int ce0]))) a0 (.inr (3, [.int tn0, .ref t0, .int bu0, .int gl0, .ref sc0, .ref rd0, .int cr0, .int fi0, .int sm0, .int li0, .int in0, .int 0, .int ke0, .int (if ke0 = 0 then gr0 else m_max gr0 p1), .int ce0]))) va0 (.inl (G.2.1 0, 8, .inl (apV vf n9 r9)))) er0 (.inl (G.2.1 0, 8, .inl (apV ef n9 (r9 - p0))))) rd0 (.inr (4, [.ref va0, .ref er0, .int (nI (apN n9))]))) a0 (.inr (3, [.int tn0, .ref t0, .int bu0, .int gl0, .ref sc0, .ref rd0, .int (cr0 / 2), .int fi0, .int sm0, .int li0, .int in0, .int 0, .int ke0, .int (if ke0 = 0 then gr0 else m_max gr0 p1), .int ce0]))) a0 (.inr (3, [.int tn0, .ref t0, .int bu0, .int gl0, .ref sc0, .ref rd0, .int (cr0 / 2), .int fi0, .int sm0, .int li0, .int in0, .int 0, .int ke0, .int (if ke0 = 0 then gr0 else m_max gr0 p1), .int ((-1))]))) := hI
      have h_S := mu_k (e := .inr (3, [.int tn0, .ref t0, .int bu0, .int gl0, .ref sc0, .ref rd0, .int (cr0 / 2), .int fi0, .int sm0, .int li0, .int in0, .int 0, .int ke0, .int (if ke0 = 0 then gr0 else m_max gr0 p1), .int ((-1))])) (kd_ne h_S h_I rfl) h_S
      have h_T := mu_k (e := .inr (3, [.int tn0, .ref t0, .int bu0, .int gl0, .ref sc0, .ref rd0, .int (cr0 / 2), .int fi0, .int sm0, .int li0, .int in0, .int 0, .int ke0, .int (if ke0 = 0 then gr0 else m_max gr0 p1), .int ((-1))])) (kd_ne h_T h_I rfl) h_T
      have h_B := mu_k (e := .inr (3, [.int tn0, .ref t0, .int bu0, .int gl0, .ref sc0, .ref rd0, .int (cr0 / 2), .int fi0, .int sm0, .int li0, .int in0, .int 0, .int ke0, .int (if ke0 = 0 then gr0 else m_max gr0 p1), .int ((-1))])) (kd_ne h_B h_I rfl) h_B
      have h_R := mu_k (e := .inr (3, [.int tn0, .ref t0, .int bu0, .int gl0, .ref sc0, .ref rd0, .int (cr0 / 2), .int fi0, .int sm0, .int li0, .int in0, .int 0, .int ke0, .int (if ke0 = 0 then gr0 else m_max gr0 p1), .int ((-1))])) (kd_ne h_R h_I rfl) h_R
      have h_V := mu_k (e := .inr (3, [.int tn0, .ref t0, .int bu0, .int gl0, .ref sc0, .ref rd0, .int (cr0 / 2), .int fi0, .int sm0, .int li0, .int in0, .int 0, .int ke0, .int (if ke0 = 0 then gr0 else m_max gr0 p1), .int ((-1))])) (kd_ne h_V h_I rfl) h_V
      have h_E := mu_k (e := .inr (3, [.int tn0, .ref t0, .int bu0, .int gl0, .ref sc0, .ref rd0, .int (cr0 / 2), .int fi0, .int sm0, .int li0, .int in0, .int 0, .int ke0, .int (if ke0 = 0 then gr0 else m_max gr0 p1), .int ((-1))])) (kd_ne h_E h_I rfl) h_E
      rw [mu_uu] at hP hI h_S h_T h_B h_R h_V h_E
      have h_I : (mu (mu (mu (mu (mu (mu Mw a0 (.inr (3, [.int tn0, .ref t0, .int bu0, .int gl0, .ref sc0, .ref rd0, .int cr0, .int fi0, .int sm0, .int li0, .int in0, .int 0, .int ke0, .int gr0, .int ce0]))) a0 (.inr (3, [.int tn0, .ref t0, .int bu0, .int gl0, .ref sc0, .ref rd0, .int cr0, .int fi0, .int sm0, .int li0, .int in0, .int 0, .int ke0, .int (if ke0 = 0 then gr0 else m_max gr0 p1), .int ce0]))) va0 (.inl (G.2.1 0, 8, .inl (apV vf n9 r9)))) er0 (.inl (G.2.1 0, 8, .inl (apV ef n9 (r9 - p0))))) rd0 (.inr (4, [.ref va0, .ref er0, .int (nI (apN n9))]))) a0 (.inr (3, [.int tn0, .ref t0, .int bu0, .int gl0, .ref sc0, .ref rd0, .int (cr0 / 2), .int fi0, .int sm0, .int li0, .int in0, .int 0, .int ke0, .int (if ke0 = 0 then gr0 else m_max gr0 p1), .int ((-1))]))) a0 = some (.inr (3, [.int tn0, .ref t0, .int bu0, .int gl0, .ref sc0, .ref rd0, .int (cr0 / 2), .int fi0, .int sm0, .int li0, .int in0, .int 0, .int ke0, .int (if ke0 = 0 then gr0 else m_max gr0 p1), .int ((-1))])) := mu_s
      refine lv_iload_n hx hb dX0_readInBath_67 rfl (lv_at hl 0 rfl) ?_
      have hr9 : r9 = rdg kin0 bf ice0 stm0 stt0 (m_min 200 ((if ke0 = 0 then p1 else m_max gr0 p1) + (if p0 ≤ (-200) then 0 else ga0))) := by rw [hp_r9, hp_r7]; simp only [if_pos (i_le c1)]
      refine W.widen (k := 0) (n := 0) (Nat.le_of_ble_eq_true rfl) (Nat.le_of_ble_eq_true rfl) ?_
      exact W.iret (v := r9) hx hb hr (fun t99 ht99 hW99 => ⟨⟨r9, (mu (mu (mu (mu (mu (mu Mw a0 (.inr (3, [.int tn0, .ref t0, .int bu0, .int gl0, .ref sc0, .ref rd0, .int cr0, .int fi0, .int sm0, .int li0, .int in0, .int 0, .int ke0, .int gr0, .int ce0]))) a0 (.inr (3, [.int tn0, .ref t0, .int bu0, .int gl0, .ref sc0, .ref rd0, .int cr0, .int fi0, .int sm0, .int li0, .int in0, .int 0, .int ke0, .int (if ke0 = 0 then gr0 else m_max gr0 p1), .int ce0]))) va0 (.inl (G.2.1 0, 8, .inl (apV vf n9 r9)))) er0 (.inl (G.2.1 0, 8, .inl (apV ef n9 (r9 - p0))))) rd0 (.inr (4, [.ref va0, .ref er0, .int (nI (apN n9))]))) a0 (.inr (3, [.int tn0, .ref t0, .int bu0, .int gl0, .ref sc0, .ref rd0, .int (cr0 / 2), .int fi0, .int sm0, .int li0, .int in0, .int 0, .int ke0, .int (if ke0 = 0 then gr0 else m_max gr0 p1), .int ((-1))]))), rfl, ⟨hr9, mw_ext4 (h_I.trans (congrArg some (by simp only [if_pos (i_le c1), if_pos (i_lt c11)]))) (h_V.trans (congrArg some (by rw [hr9]))) (h_E.trans (congrArg some (by rw [hr9]))) h_R (fun z h1 h2 h3 h4 => (mu_n h1).trans ((mu_n h4).trans ((mu_n h3).trans ((mu_n h2).trans ((mu_n h1).trans ((mu_n h1).trans (rfl)))))))⟩, by rw [ht99]; exact hP, hI⟩, hS.F ht99⟩) hS.2.2 dX0_readInBath_68

set_option maxHeartbeats 4000000 in
set_option maxRecDepth 100000 in
theorem c_X0_init (l : Launch) (G : mg) (A : Nat → Prop) (Mw : mw) (p0 p1 p2 : Int32) (t0 : Nat) (hch : narrow .char (.int p2) = .int p2 ∧ fits .char (.int p2) = true) {a0 : Nat} (h_I : Mw a0 = some (.inr (3, [.int 0, .null, .int 0, .int 0, .null, .null, .int 0, .int 0, .int 0, .int 0, .int 0, .int 0, .int 0, .int 0, .int 0]))) : Met l yX0_init wsX0_init ({ frames := 2, cells := 4, slots := 24, locals := 41 }) (va_Pc [.ref a0, .int p0, .ref t0, .int p1, .int p2] (mB G A Mw)) (va_Qv (fun Mw1 => ∃ rd0 va0 er0 sc0 : Nat, Mw rd0 = none ∧ Mw va0 = none ∧ Mw er0 = none ∧ Mw sc0 = none ∧ rd0 ≠ va0 ∧ rd0 ≠ er0 ∧ rd0 ≠ sc0 ∧ va0 ≠ er0 ∧ va0 ≠ sc0 ∧ er0 ≠ sc0 ∧ Mw1 = mu (mu (mu (mu (mu Mw a0 (.inr (3, [.int p0, .ref t0, .int p1, .int p2, .ref sc0, .ref rd0, .int 0, .int 0, .int 0, .int 32, .int 0, .int 0, .int 0, .int ((-1)), .int ((-1))]))) rd0 (.inr (4, [.ref va0, .ref er0, .int 0]))) va0 (.inl (G.2.1 0, 8, .inl (fun _ => 0)))) er0 (.inl (G.2.1 0, 8, .inl (fun _ => 0)))) sc0 (.inr (5, [.ref t0, .int ((-1)), .int ((-1)), .int 0, .int 32]))) (mE G A) A) 4 24 A := by
  refine Met.ofW (cc := cX0_init) (maxL := 5) (ret := none) (by decide) rfl ?_
  intro p e s m args below meth c s₁ B hml hv
  obtain ⟨rfl, hG, hP, hI, hA⟩ := hv
  have hx := B.exec
  have hb := B.bytes
  have hr := B.returns
  have hts := atoms_spec (ws := wsX0_init) B.pre
  have hown : s.vm.findClass RX0 = some m.cls := findClass_of_methodNamed B.named
  have hlocks := B.notSynchronized
  have hK := hG.K
  have hin : meth.name = "<init>" := (name_of_methodNamed B.named B.method).1
  have i_X0 : ∀ w ∈ wsX00, w ∈ wsX0_init := by decide +kernel
  have i_X1 : ∀ w ∈ wsX10, w ∈ wsX0_init := by decide +kernel
  have i_X2 : ∀ w ∈ wsX20, w ∈ wsX0_init := by decide +kernel
  have hS : va_S A s.heap s.heap [] := va_S.rf
  have hl := lv_entry ([.ref a0, .int p0, .ref t0, .int p1, .int p2]) (n := 5) (Nat.le_of_ble_eq_true rfl)
  rw [lg_entry_eq]
  generalize (lg_sl ([.ref a0, .int p0, .ref t0, .int p1, .int p2]) ++ List.replicate (5 - (lg_sl ([.ref a0, .int p0, .ref t0, .int p1, .int p2])).length) Slot.unset).toArray = ls at hl ⊢
  have hl : lv_has ls 5 [(0, .ref a0), (1, .int p0), (2, .ref t0), (3, .int p1), (4, .int p2)] := hl
  have hP : mP G.1 Mw s.heap := hP
  refine lv_aload_n hx hb dX0_init_0 rfl (lv_at hl 0 rfl) ?_
  refine W.objInit hx hb hown (hts (.methodLink RX0 3 objectInit) (by decide +kernel)) (hts (.instanceMethod objectInit) (by decide +kernel)) (hts (.code objectInit ⟨#[0xb1]⟩ 1 none) (by decide +kernel)) rfl (by rw [hml]; exact hl.1) rfl dX0_init_1 (Nat.le_of_ble_eq_true rfl) (Nat.le_of_ble_eq_true rfl) ?_
  refine W.eq (g2 := F0 m 4 ls []) rfl ?_
  refine lv_aload_n hx hb dX0_init_4 rfl (lv_at hl 0 rfl) ?_
  refine m_new (ci := 4) (fs := [.null, .null, .int 0]) (C := RX1) (T := TX1) (N := 3) hx hb hts i_X1 tyX1 tyX1_ok hown (hts (.classLink RX0 9 RX1) (by decide +kernel)) (hts (.instantiable RX1 3) (by decide +kernel)) (hts (.initialized RX1) (by decide +kernel)) hK hP hI hS hA rfl (fun j hj => by rcases (show j = 0 ∨ j = 1 ∨ j = 2 by omega) with rfl | rfl | rfl <;> rfl) (Nat.le_of_ble_eq_true rfl) (Nat.le_of_ble_eq_true rfl) dX0_init_5 (fun q1 H hn_q1 hP hI hS => ?_)
  have h_I := mu_x (e := .inr (4, [.null, .null, .int 0])) h_I hn_q1
  have h_q1 : (mu Mw q1 (.inr (4, [.null, .null, .int 0]))) q1 = some (.inr (4, [.null, .null, .int 0])) := mu_s
  refine lv_dup hx hb dX0_init_8 rfl ?_
  refine m_callv (va_runIN (As := []) (rest := [.ref q1, .ref a0]) ⟨hx, hb, hml, hown, hts⟩ (c_X1_init l G A (mu Mw q1 (.inr (4, [.null, .null, .int 0])))  h_q1) ⟨va_cnB 0 hts gX0_init_X1_init_n11 rfl rfl rfl (hG.2.1.2.2.1 ("Meniscus$Instrument", 11, yX1_init, "Meniscus") (by decide +kernel)) (hts (.initialized RX1) (by decide +kernel)) (by decide +kernel) ⟨Nat.le_of_ble_eq_true rfl, Nat.le_of_ble_eq_true rfl⟩, rfl, (hts (.instanceMethod yX1_init) (by decide +kernel))⟩ (mPreS hG hS hP hI hA) rfl rfl hl.1 rfl (lv_room (Nat.le_of_ble_eq_true rfl)) dX0_init_9 ⟨Nat.le_of_ble_eq_true rfl, Nat.le_of_ble_eq_true rfl⟩) hS (fun Mw1 H locs hp_r2 hP hI hS => ?_)
  obtain ⟨va0, er0, hnv, hne, hve, hm9⟩ := hp_r2
  subst Mw1
  have hne2 : (mu (mu Mw q1 (.inr (4, [.null, .null, .int 0]))) va0 (.inl (G.2.1 0, 8, .inl (fun _ => 0)))) er0 = none := (mu_n (Ne.symm hve)).trans hne
  have h_I := mu_k (e := .inl (G.2.1 0, 8, .inl (fun _ => 0))) (ne_none h_I hnv) h_I
  have h_q1 := mu_k (e := .inl (G.2.1 0, 8, .inl (fun _ => 0))) (ne_none h_q1 hnv) h_q1
  have h_V : (mu (mu Mw q1 (.inr (4, [.null, .null, .int 0]))) va0 (.inl (G.2.1 0, 8, .inl (fun _ => 0)))) va0 = some (.inl (G.2.1 0, 8, .inl (fun _ => 0))) := mu_s
  have h_I := mu_k (e := .inl (G.2.1 0, 8, .inl (fun _ => 0))) (ne_none h_I hne2) h_I
  have h_q1 := mu_k (e := .inl (G.2.1 0, 8, .inl (fun _ => 0))) (ne_none h_q1 hne2) h_q1
  have h_V := mu_k (e := .inl (G.2.1 0, 8, .inl (fun _ => 0))) (ne_none h_V hne2) h_V
  have h_E : (mu (mu (mu Mw q1 (.inr (4, [.null, .null, .int 0]))) va0 (.inl (G.2.1 0, 8, .inl (fun _ => 0)))) er0 (.inl (G.2.1 0, 8, .inl (fun _ => 0)))) er0 = some (.inl (G.2.1 0, 8, .inl (fun _ => 0))) := mu_s
  have h_I := mu_k (e := .inr (4, [.ref va0, .ref er0, .int 0])) (kd_ne h_I h_q1 rfl) h_I
  have h_V := mu_k (e := .inr (4, [.ref va0, .ref er0, .int 0])) (kd_ne h_V h_q1 rfl) h_V
  have h_E := mu_k (e := .inr (4, [.ref va0, .ref er0, .int 0])) (kd_ne h_E h_q1 rfl) h_E
  have h_q1 : (mu (mu (mu (mu Mw q1 (.inr (4, [.null, .null, .int 0]))) va0 (.inl (G.2.1 0, 8, .inl (fun _ => 0)))) er0 (.inl (G.2.1 0, 8, .inl (fun _ => 0)))) q1 (.inr (4, [.ref va0, .ref er0, .int 0]))) q1 = some (.inr (4, [.ref va0, .ref er0, .int 0])) := mu_s
  refine m_putF (ci := 3) (v := .ref q1) (ty := .object "Meniscus$Readings") (C := RX0) (T := TX0) (N := 15) hx hb hts i_X0 tyX0 tyX0_ok nmX0 hown hK hP hI hS h_I rfl 5 (by decide) (hts (.fieldLink RX0 12 "Meniscus$Instrument" "readings" "LMeniscus$Readings;") (by decide +kernel)) (fun _ h9 => h9) rfl hin rfl (by decide +kernel) rfl rfl (Nat.le_of_ble_eq_true rfl) dX0_init_12 (fun H locs hP hI hS => ?_)
  have hP : mP G.1 (mu (mu (mu (mu (mu Mw q1 (.inr (4, [.null, .null, .int 0]))) va0 (.inl (G.2.1 0, 8, .inl (fun _ => 0)))) er0 (.inl (G.2.1 0, 8, .inl (fun _ => 0)))) q1 (.inr (4, [.ref va0, .ref er0, .int 0]))) a0 (.inr (3, [.int 0, .null, .int 0, .int 0, .null, .ref q1, .int 0, .int 0, .int 0, .int 0, .int 0, .int 0, .int 0, .int 0, .int 0]))) H := hP
  have hI : mI A (mu (mu (mu (mu (mu Mw q1 (.inr (4, [.null, .null, .int 0]))) va0 (.inl (G.2.1 0, 8, .inl (fun _ => 0)))) er0 (.inl (G.2.1 0, 8, .inl (fun _ => 0)))) q1 (.inr (4, [.ref va0, .ref er0, .int 0]))) a0 (.inr (3, [.int 0, .null, .int 0, .int 0, .null, .ref q1, .int 0, .int 0, .int 0, .int 0, .int 0, .int 0, .int 0, .int 0, .int 0]))) := hI
  have h_q1 := mu_k (e := .inr (3, [.int 0, .null, .int 0, .int 0, .null, .ref q1, .int 0, .int 0, .int 0, .int 0, .int 0, .int 0, .int 0, .int 0, .int 0])) (kd_ne h_q1 h_I rfl) h_q1
  have h_V := mu_k (e := .inr (3, [.int 0, .null, .int 0, .int 0, .null, .ref q1, .int 0, .int 0, .int 0, .int 0, .int 0, .int 0, .int 0, .int 0, .int 0])) (kd_ne h_V h_I rfl) h_V
  have h_E := mu_k (e := .inr (3, [.int 0, .null, .int 0, .int 0, .null, .ref q1, .int 0, .int 0, .int 0, .int 0, .int 0, .int 0, .int 0, .int 0, .int 0])) (kd_ne h_E h_I rfl) h_E
  have h_I : (mu (mu (mu (mu (mu Mw q1 (.inr (4, [.null, .null, .int 0]))) va0 (.inl (G.2.1 0, 8, .inl (fun _ => 0)))) er0 (.inl (G.2.1 0, 8, .inl (fun _ => 0)))) q1 (.inr (4, [.ref va0, .ref er0, .int 0]))) a0 (.inr (3, [.int 0, .null, .int 0, .int 0, .null, .ref q1, .int 0, .int 0, .int 0, .int 0, .int 0, .int 0, .int 0, .int 0, .int 0]))) a0 = some (.inr (3, [.int 0, .null, .int 0, .int 0, .null, .ref q1, .int 0, .int 0, .int 0, .int 0, .int 0, .int 0, .int 0, .int 0, .int 0])) := mu_s
  refine lv_aload_n hx hb dX0_init_15 rfl (lv_at hl 0 rfl) ?_
  refine lv_bipush (v := (32)) hx hb dX0_init_16 (by decide) ?_
  refine m_put (ci := 3) (v := .int 32) (ty := .char) (C := RX0) (T := TX0) (N := 15) hx hb hts i_X0 tyX0 tyX0_ok nmX0 hown hK hP hI hS h_I rfl 9 (by decide) (hts (.fieldLink RX0 18 "Meniscus$Instrument" "liquid" "C") (by decide +kernel)) (fun _ h9 => h9) rfl (by decide +kernel) rfl rfl (Nat.le_of_ble_eq_true rfl) dX0_init_18 (fun H locs hP hI hS => ?_)
  have hP : mP G.1 (mu (mu (mu (mu (mu (mu Mw q1 (.inr (4, [.null, .null, .int 0]))) va0 (.inl (G.2.1 0, 8, .inl (fun _ => 0)))) er0 (.inl (G.2.1 0, 8, .inl (fun _ => 0)))) q1 (.inr (4, [.ref va0, .ref er0, .int 0]))) a0 (.inr (3, [.int 0, .null, .int 0, .int 0, .null, .ref q1, .int 0, .int 0, .int 0, .int 0, .int 0, .int 0, .int 0, .int 0, .int 0]))) a0 (.inr (3, [.int 0, .null, .int 0, .int 0, .null, .ref q1, .int 0, .int 0, .int 0, .int 32, .int 0, .int 0, .int 0, .int 0, .int 0]))) H := hP
  have hI : mI A (mu (mu (mu (mu (mu (mu Mw q1 (.inr (4, [.null, .null, .int 0]))) va0 (.inl (G.2.1 0, 8, .inl (fun _ => 0)))) er0 (.inl (G.2.1 0, 8, .inl (fun _ => 0)))) q1 (.inr (4, [.ref va0, .ref er0, .int 0]))) a0 (.inr (3, [.int 0, .null, .int 0, .int 0, .null, .ref q1, .int 0, .int 0, .int 0, .int 0, .int 0, .int 0, .int 0, .int 0, .int 0]))) a0 (.inr (3, [.int 0, .null, .int 0, .int 0, .null, .ref q1, .int 0, .int 0, .int 0, .int 32, .int 0, .int 0, .int 0, .int 0, .int 0]))) := hI
  have h_q1 := mu_k (e := .inr (3, [.int 0, .null, .int 0, .int 0, .null, .ref q1, .int 0, .int 0, .int 0, .int 32, .int 0, .int 0, .int 0, .int 0, .int 0])) (kd_ne h_q1 h_I rfl) h_q1
  have h_V := mu_k (e := .inr (3, [.int 0, .null, .int 0, .int 0, .null, .ref q1, .int 0, .int 0, .int 0, .int 32, .int 0, .int 0, .int 0, .int 0, .int 0])) (kd_ne h_V h_I rfl) h_V
  have h_E := mu_k (e := .inr (3, [.int 0, .null, .int 0, .int 0, .null, .ref q1, .int 0, .int 0, .int 0, .int 32, .int 0, .int 0, .int 0, .int 0, .int 0])) (kd_ne h_E h_I rfl) h_E
  rw [mu_uu] at hP hI h_q1 h_V h_E
  have h_I : (mu (mu (mu (mu (mu Mw q1 (.inr (4, [.null, .null, .int 0]))) va0 (.inl (G.2.1 0, 8, .inl (fun _ => 0)))) er0 (.inl (G.2.1 0, 8, .inl (fun _ => 0)))) q1 (.inr (4, [.ref va0, .ref er0, .int 0]))) a0 (.inr (3, [.int 0, .null, .int 0, .int 0, .null, .ref q1, .int 0, .int 0, .int 0, .int 32, .int 0, .int 0, .int 0, .int 0, .int 0]))) a0 = some (.inr (3, [.int 0, .null, .int 0, .int 0, .null, .ref q1, .int 0, .int 0, .int 0, .int 32, .int 0, .int 0, .int 0, .int 0, .int 0])) := mu_s
  refine lv_aload_n hx hb dX0_init_21 rfl (lv_at hl 0 rfl) ?_
  refine lv_iconst (v := (-1)) hx hb dX0_init_22 (by decide) ?_
  refine m_put (ci := 3) (v := .int ((-1))) (ty := .int) (C := RX0) (T := TX0) (N := 15) hx hb hts i_X0 tyX0 tyX0_ok nmX0 hown hK hP hI hS h_I rfl 13 (by decide) (hts (.fieldLink RX0 22 "Meniscus$Instrument" "greatestLevel" "I") (by decide +kernel)) (fun _ h9 => h9) rfl (by decide +kernel) rfl rfl (Nat.le_of_ble_eq_true rfl) dX0_init_23 (fun H locs hP hI hS => ?_)
  have hP : mP G.1 (mu (mu (mu (mu (mu (mu Mw q1 (.inr (4, [.null, .null, .int 0]))) va0 (.inl (G.2.1 0, 8, .inl (fun _ => 0)))) er0 (.inl (G.2.1 0, 8, .inl (fun _ => 0)))) q1 (.inr (4, [.ref va0, .ref er0, .int 0]))) a0 (.inr (3, [.int 0, .null, .int 0, .int 0, .null, .ref q1, .int 0, .int 0, .int 0, .int 32, .int 0, .int 0, .int 0, .int 0, .int 0]))) a0 (.inr (3, [.int 0, .null, .int 0, .int 0, .null, .ref q1, .int 0, .int 0, .int 0, .int 32, .int 0, .int 0, .int 0, .int ((-1)), .int 0]))) H := hP
  have hI : mI A (mu (mu (mu (mu (mu (mu Mw q1 (.inr (4, [.null, .null, .int 0]))) va0 (.inl (G.2.1 0, 8, .inl (fun _ => 0)))) er0 (.inl (G.2.1 0, 8, .inl (fun _ => 0)))) q1 (.inr (4, [.ref va0, .ref er0, .int 0]))) a0 (.inr (3, [.int 0, .null, .int 0, .int 0, .null, .ref q1, .int 0, .int 0, .int 0, .int 32, .int 0, .int 0, .int 0, .int 0, .int 0]))) a0 (.inr (3, [.int 0, .null, .int 0, .int 0, .null, .ref q1, .int 0, .int 0, .int 0, .int 32, .int 0, .int 0, .int 0, .int ((-1)), .int 0]))) := hI
  have h_q1 := mu_k (e := .inr (3, [.int 0, .null, .int 0, .int 0, .null, .ref q1, .int 0, .int 0, .int 0, .int 32, .int 0, .int 0, .int 0, .int ((-1)), .int 0])) (kd_ne h_q1 h_I rfl) h_q1
  have h_V := mu_k (e := .inr (3, [.int 0, .null, .int 0, .int 0, .null, .ref q1, .int 0, .int 0, .int 0, .int 32, .int 0, .int 0, .int 0, .int ((-1)), .int 0])) (kd_ne h_V h_I rfl) h_V
  have h_E := mu_k (e := .inr (3, [.int 0, .null, .int 0, .int 0, .null, .ref q1, .int 0, .int 0, .int 0, .int 32, .int 0, .int 0, .int 0, .int ((-1)), .int 0])) (kd_ne h_E h_I rfl) h_E
  rw [mu_uu] at hP hI h_q1 h_V h_E
  have h_I : (mu (mu (mu (mu (mu Mw q1 (.inr (4, [.null, .null, .int 0]))) va0 (.inl (G.2.1 0, 8, .inl (fun _ => 0)))) er0 (.inl (G.2.1 0, 8, .inl (fun _ => 0)))) q1 (.inr (4, [.ref va0, .ref er0, .int 0]))) a0 (.inr (3, [.int 0, .null, .int 0, .int 0, .null, .ref q1, .int 0, .int 0, .int 0, .int 32, .int 0, .int 0, .int 0, .int ((-1)), .int 0]))) a0 = some (.inr (3, [.int 0, .null, .int 0, .int 0, .null, .ref q1, .int 0, .int 0, .int 0, .int 32, .int 0, .int 0, .int 0, .int ((-1)), .int 0])) := mu_s
  refine lv_aload_n hx hb dX0_init_26 rfl (lv_at hl 0 rfl) ?_
  refine lv_iconst (v := (-1)) hx hb dX0_init_27 (by decide) ?_
  refine m_put (ci := 3) (v := .int ((-1))) (ty := .int) (C := RX0) (T := TX0) (N := 15) hx hb hts i_X0 tyX0 tyX0_ok nmX0 hown hK hP hI hS h_I rfl 14 (by decide) (hts (.fieldLink RX0 26 "Meniscus$Instrument" "certificateEnd" "I") (by decide +kernel)) (fun _ h9 => h9) rfl (by decide +kernel) rfl rfl (Nat.le_of_ble_eq_true rfl) dX0_init_28 (fun H locs hP hI hS => ?_)
  have hP : mP G.1 (mu (mu (mu (mu (mu (mu Mw q1 (.inr (4, [.null, .null, .int 0]))) va0 (.inl (G.2.1 0, 8, .inl (fun _ => 0)))) er0 (.inl (G.2.1 0, 8, .inl (fun _ => 0)))) q1 (.inr (4, [.ref va0, .ref er0, .int 0]))) a0 (.inr (3, [.int 0, .null, .int 0, .int 0, .null, .ref q1, .int 0, .int 0, .int 0, .int 32, .int 0, .int 0, .int 0, .int ((-1)), .int 0]))) a0 (.inr (3, [.int 0, .null, .int 0, .int 0, .null, .ref q1, .int 0, .int 0, .int 0, .int 32, .int 0, .int 0, .int 0, .int ((-1)), .int ((-1))]))) H := hP
  have hI : mI A (mu (mu (mu (mu (mu (mu Mw q1 (.inr (4, [.null, .null, .int 0]))) va0 (.inl (G.2.1 0, 8, .inl (fun _ => 0)))) er0 (.inl (G.2.1 0, 8, .inl (fun _ => 0)))) q1 (.inr (4, [.ref va0, .ref er0, .int 0]))) a0 (.inr (3, [.int 0, .null, .int 0, .int 0, .null, .ref q1, .int 0, .int 0, .int 0, .int 32, .int 0, .int 0, .int 0, .int ((-1)), .int 0]))) a0 (.inr (3, [.int 0, .null, .int 0, .int 0, .null, .ref q1, .int 0, .int 0, .int 0, .int 32, .int 0, .int 0, .int 0, .int ((-1)), .int ((-1))]))) := hI
  have h_q1 := mu_k (e := .inr (3, [.int 0, .null, .int 0, .int 0, .null, .ref q1, .int 0, .int 0, .int 0, .int 32, .int 0, .int 0, .int 0, .int ((-1)), .int ((-1))])) (kd_ne h_q1 h_I rfl) h_q1
  have h_V := mu_k (e := .inr (3, [.int 0, .null, .int 0, .int 0, .null, .ref q1, .int 0, .int 0, .int 0, .int 32, .int 0, .int 0, .int 0, .int ((-1)), .int ((-1))])) (kd_ne h_V h_I rfl) h_V
  have h_E := mu_k (e := .inr (3, [.int 0, .null, .int 0, .int 0, .null, .ref q1, .int 0, .int 0, .int 0, .int 32, .int 0, .int 0, .int 0, .int ((-1)), .int ((-1))])) (kd_ne h_E h_I rfl) h_E
  rw [mu_uu] at hP hI h_q1 h_V h_E
  have h_I : (mu (mu (mu (mu (mu Mw q1 (.inr (4, [.null, .null, .int 0]))) va0 (.inl (G.2.1 0, 8, .inl (fun _ => 0)))) er0 (.inl (G.2.1 0, 8, .inl (fun _ => 0)))) q1 (.inr (4, [.ref va0, .ref er0, .int 0]))) a0 (.inr (3, [.int 0, .null, .int 0, .int 0, .null, .ref q1, .int 0, .int 0, .int 0, .int 32, .int 0, .int 0, .int 0, .int ((-1)), .int ((-1))]))) a0 = some (.inr (3, [.int 0, .null, .int 0, .int 0, .null, .ref q1, .int 0, .int 0, .int 0, .int 32, .int 0, .int 0, .int 0, .int ((-1)), .int ((-1))])) := mu_s
  refine lv_aload_n hx hb dX0_init_31 rfl (lv_at hl 0 rfl) ?_
  refine lv_iload_n hx hb dX0_init_32 rfl (lv_at hl 1 rfl) ?_
  refine m_putF (ci := 3) (v := .int p0) (ty := .int) (C := RX0) (T := TX0) (N := 15) hx hb hts i_X0 tyX0 tyX0_ok nmX0 hown hK hP hI hS h_I rfl 0 (by decide) (hts (.fieldLink RX0 29 "Meniscus$Instrument" "tubeNumber" "I") (by decide +kernel)) (fun _ h9 => h9) rfl hin rfl (by decide +kernel) rfl rfl (Nat.le_of_ble_eq_true rfl) dX0_init_33 (fun H locs hP hI hS => ?_)
  have hP : mP G.1 (mu (mu (mu (mu (mu (mu Mw q1 (.inr (4, [.null, .null, .int 0]))) va0 (.inl (G.2.1 0, 8, .inl (fun _ => 0)))) er0 (.inl (G.2.1 0, 8, .inl (fun _ => 0)))) q1 (.inr (4, [.ref va0, .ref er0, .int 0]))) a0 (.inr (3, [.int 0, .null, .int 0, .int 0, .null, .ref q1, .int 0, .int 0, .int 0, .int 32, .int 0, .int 0, .int 0, .int ((-1)), .int ((-1))]))) a0 (.inr (3, [.int p0, .null, .int 0, .int 0, .null, .ref q1, .int 0, .int 0, .int 0, .int 32, .int 0, .int 0, .int 0, .int ((-1)), .int ((-1))]))) H := hP
  have hI : mI A (mu (mu (mu (mu (mu (mu Mw q1 (.inr (4, [.null, .null, .int 0]))) va0 (.inl (G.2.1 0, 8, .inl (fun _ => 0)))) er0 (.inl (G.2.1 0, 8, .inl (fun _ => 0)))) q1 (.inr (4, [.ref va0, .ref er0, .int 0]))) a0 (.inr (3, [.int 0, .null, .int 0, .int 0, .null, .ref q1, .int 0, .int 0, .int 0, .int 32, .int 0, .int 0, .int 0, .int ((-1)), .int ((-1))]))) a0 (.inr (3, [.int p0, .null, .int 0, .int 0, .null, .ref q1, .int 0, .int 0, .int 0, .int 32, .int 0, .int 0, .int 0, .int ((-1)), .int ((-1))]))) := hI
  have h_q1 := mu_k (e := .inr (3, [.int p0, .null, .int 0, .int 0, .null, .ref q1, .int 0, .int 0, .int 0, .int 32, .int 0, .int 0, .int 0, .int ((-1)), .int ((-1))])) (kd_ne h_q1 h_I rfl) h_q1
  have h_V := mu_k (e := .inr (3, [.int p0, .null, .int 0, .int 0, .null, .ref q1, .int 0, .int 0, .int 0, .int 32, .int 0, .int 0, .int 0, .int ((-1)), .int ((-1))])) (kd_ne h_V h_I rfl) h_V
  have h_E := mu_k (e := .inr (3, [.int p0, .null, .int 0, .int 0, .null, .ref q1, .int 0, .int 0, .int 0, .int 32, .int 0, .int 0, .int 0, .int ((-1)), .int ((-1))])) (kd_ne h_E h_I rfl) h_E
  rw [mu_uu] at hP hI h_q1 h_V h_E
  have h_I : (mu (mu (mu (mu (mu Mw q1 (.inr (4, [.null, .null, .int 0]))) va0 (.inl (G.2.1 0, 8, .inl (fun _ => 0)))) er0 (.inl (G.2.1 0, 8, .inl (fun _ => 0)))) q1 (.inr (4, [.ref va0, .ref er0, .int 0]))) a0 (.inr (3, [.int p0, .null, .int 0, .int 0, .null, .ref q1, .int 0, .int 0, .int 0, .int 32, .int 0, .int 0, .int 0, .int ((-1)), .int ((-1))]))) a0 = some (.inr (3, [.int p0, .null, .int 0, .int 0, .null, .ref q1, .int 0, .int 0, .int 0, .int 32, .int 0, .int 0, .int 0, .int ((-1)), .int ((-1))])) := mu_s
  refine lv_aload_n hx hb dX0_init_36 rfl (lv_at hl 0 rfl) ?_
  refine lv_aload_n hx hb dX0_init_37 rfl (lv_at hl 2 rfl) ?_
  refine m_putF (ci := 3) (v := .ref t0) (ty := .object "Meniscus$Tube") (C := RX0) (T := TX0) (N := 15) hx hb hts i_X0 tyX0 tyX0_ok nmX0 hown hK hP hI hS h_I rfl 1 (by decide) (hts (.fieldLink RX0 32 "Meniscus$Instrument" "tube" "LMeniscus$Tube;") (by decide +kernel)) (fun _ h9 => h9) rfl hin rfl (by decide +kernel) rfl rfl (Nat.le_of_ble_eq_true rfl) dX0_init_38 (fun H locs hP hI hS => ?_)
  have hP : mP G.1 (mu (mu (mu (mu (mu (mu Mw q1 (.inr (4, [.null, .null, .int 0]))) va0 (.inl (G.2.1 0, 8, .inl (fun _ => 0)))) er0 (.inl (G.2.1 0, 8, .inl (fun _ => 0)))) q1 (.inr (4, [.ref va0, .ref er0, .int 0]))) a0 (.inr (3, [.int p0, .null, .int 0, .int 0, .null, .ref q1, .int 0, .int 0, .int 0, .int 32, .int 0, .int 0, .int 0, .int ((-1)), .int ((-1))]))) a0 (.inr (3, [.int p0, .ref t0, .int 0, .int 0, .null, .ref q1, .int 0, .int 0, .int 0, .int 32, .int 0, .int 0, .int 0, .int ((-1)), .int ((-1))]))) H := hP
  have hI : mI A (mu (mu (mu (mu (mu (mu Mw q1 (.inr (4, [.null, .null, .int 0]))) va0 (.inl (G.2.1 0, 8, .inl (fun _ => 0)))) er0 (.inl (G.2.1 0, 8, .inl (fun _ => 0)))) q1 (.inr (4, [.ref va0, .ref er0, .int 0]))) a0 (.inr (3, [.int p0, .null, .int 0, .int 0, .null, .ref q1, .int 0, .int 0, .int 0, .int 32, .int 0, .int 0, .int 0, .int ((-1)), .int ((-1))]))) a0 (.inr (3, [.int p0, .ref t0, .int 0, .int 0, .null, .ref q1, .int 0, .int 0, .int 0, .int 32, .int 0, .int 0, .int 0, .int ((-1)), .int ((-1))]))) := hI
  have h_q1 := mu_k (e := .inr (3, [.int p0, .ref t0, .int 0, .int 0, .null, .ref q1, .int 0, .int 0, .int 0, .int 32, .int 0, .int 0, .int 0, .int ((-1)), .int ((-1))])) (kd_ne h_q1 h_I rfl) h_q1
  have h_V := mu_k (e := .inr (3, [.int p0, .ref t0, .int 0, .int 0, .null, .ref q1, .int 0, .int 0, .int 0, .int 32, .int 0, .int 0, .int 0, .int ((-1)), .int ((-1))])) (kd_ne h_V h_I rfl) h_V
  have h_E := mu_k (e := .inr (3, [.int p0, .ref t0, .int 0, .int 0, .null, .ref q1, .int 0, .int 0, .int 0, .int 32, .int 0, .int 0, .int 0, .int ((-1)), .int ((-1))])) (kd_ne h_E h_I rfl) h_E
  rw [mu_uu] at hP hI h_q1 h_V h_E
  have h_I : (mu (mu (mu (mu (mu Mw q1 (.inr (4, [.null, .null, .int 0]))) va0 (.inl (G.2.1 0, 8, .inl (fun _ => 0)))) er0 (.inl (G.2.1 0, 8, .inl (fun _ => 0)))) q1 (.inr (4, [.ref va0, .ref er0, .int 0]))) a0 (.inr (3, [.int p0, .ref t0, .int 0, .int 0, .null, .ref q1, .int 0, .int 0, .int 0, .int 32, .int 0, .int 0, .int 0, .int ((-1)), .int ((-1))]))) a0 = some (.inr (3, [.int p0, .ref t0, .int 0, .int 0, .null, .ref q1, .int 0, .int 0, .int 0, .int 32, .int 0, .int 0, .int 0, .int ((-1)), .int ((-1))])) := mu_s
  refine lv_aload_n hx hb dX0_init_41 rfl (lv_at hl 0 rfl) ?_
  refine lv_iload_n hx hb dX0_init_42 rfl (lv_at hl 3 rfl) ?_
  refine m_putF (ci := 3) (v := .int p1) (ty := .int) (C := RX0) (T := TX0) (N := 15) hx hb hts i_X0 tyX0 tyX0_ok nmX0 hown hK hP hI hS h_I rfl 2 (by decide) (hts (.fieldLink RX0 36 "Meniscus$Instrument" "bulb" "I") (by decide +kernel)) (fun _ h9 => h9) rfl hin rfl (by decide +kernel) rfl rfl (Nat.le_of_ble_eq_true rfl) dX0_init_43 (fun H locs hP hI hS => ?_)
  have hP : mP G.1 (mu (mu (mu (mu (mu (mu Mw q1 (.inr (4, [.null, .null, .int 0]))) va0 (.inl (G.2.1 0, 8, .inl (fun _ => 0)))) er0 (.inl (G.2.1 0, 8, .inl (fun _ => 0)))) q1 (.inr (4, [.ref va0, .ref er0, .int 0]))) a0 (.inr (3, [.int p0, .ref t0, .int 0, .int 0, .null, .ref q1, .int 0, .int 0, .int 0, .int 32, .int 0, .int 0, .int 0, .int ((-1)), .int ((-1))]))) a0 (.inr (3, [.int p0, .ref t0, .int p1, .int 0, .null, .ref q1, .int 0, .int 0, .int 0, .int 32, .int 0, .int 0, .int 0, .int ((-1)), .int ((-1))]))) H := hP
  have hI : mI A (mu (mu (mu (mu (mu (mu Mw q1 (.inr (4, [.null, .null, .int 0]))) va0 (.inl (G.2.1 0, 8, .inl (fun _ => 0)))) er0 (.inl (G.2.1 0, 8, .inl (fun _ => 0)))) q1 (.inr (4, [.ref va0, .ref er0, .int 0]))) a0 (.inr (3, [.int p0, .ref t0, .int 0, .int 0, .null, .ref q1, .int 0, .int 0, .int 0, .int 32, .int 0, .int 0, .int 0, .int ((-1)), .int ((-1))]))) a0 (.inr (3, [.int p0, .ref t0, .int p1, .int 0, .null, .ref q1, .int 0, .int 0, .int 0, .int 32, .int 0, .int 0, .int 0, .int ((-1)), .int ((-1))]))) := hI
  have h_q1 := mu_k (e := .inr (3, [.int p0, .ref t0, .int p1, .int 0, .null, .ref q1, .int 0, .int 0, .int 0, .int 32, .int 0, .int 0, .int 0, .int ((-1)), .int ((-1))])) (kd_ne h_q1 h_I rfl) h_q1
  have h_V := mu_k (e := .inr (3, [.int p0, .ref t0, .int p1, .int 0, .null, .ref q1, .int 0, .int 0, .int 0, .int 32, .int 0, .int 0, .int 0, .int ((-1)), .int ((-1))])) (kd_ne h_V h_I rfl) h_V
  have h_E := mu_k (e := .inr (3, [.int p0, .ref t0, .int p1, .int 0, .null, .ref q1, .int 0, .int 0, .int 0, .int 32, .int 0, .int 0, .int 0, .int ((-1)), .int ((-1))])) (kd_ne h_E h_I rfl) h_E
  rw [mu_uu] at hP hI h_q1 h_V h_E
  have h_I : (mu (mu (mu (mu (mu Mw q1 (.inr (4, [.null, .null, .int 0]))) va0 (.inl (G.2.1 0, 8, .inl (fun _ => 0)))) er0 (.inl (G.2.1 0, 8, .inl (fun _ => 0)))) q1 (.inr (4, [.ref va0, .ref er0, .int 0]))) a0 (.inr (3, [.int p0, .ref t0, .int p1, .int 0, .null, .ref q1, .int 0, .int 0, .int 0, .int 32, .int 0, .int 0, .int 0, .int ((-1)), .int ((-1))]))) a0 = some (.inr (3, [.int p0, .ref t0, .int p1, .int 0, .null, .ref q1, .int 0, .int 0, .int 0, .int 32, .int 0, .int 0, .int 0, .int ((-1)), .int ((-1))])) := mu_s
  refine lv_aload_n hx hb dX0_init_46 rfl (lv_at hl 0 rfl) ?_
  refine lv_iload hx hb dX0_init_47 (lv_at hl 4 rfl) ?_
  refine m_putF (ci := 3) (v := .int p2) (ty := .char) (C := RX0) (T := TX0) (N := 15) hx hb hts i_X0 tyX0 tyX0_ok nmX0 hown hK hP hI hS h_I rfl 3 (by decide) (hts (.fieldLink RX0 39 "Meniscus$Instrument" "glass" "C") (by decide +kernel)) (fun _ h9 => h9) rfl hin rfl (by decide +kernel) hch.1 hch.2 (Nat.le_of_ble_eq_true rfl) dX0_init_49 (fun H locs hP hI hS => ?_)
  have hP : mP G.1 (mu (mu (mu (mu (mu (mu Mw q1 (.inr (4, [.null, .null, .int 0]))) va0 (.inl (G.2.1 0, 8, .inl (fun _ => 0)))) er0 (.inl (G.2.1 0, 8, .inl (fun _ => 0)))) q1 (.inr (4, [.ref va0, .ref er0, .int 0]))) a0 (.inr (3, [.int p0, .ref t0, .int p1, .int 0, .null, .ref q1, .int 0, .int 0, .int 0, .int 32, .int 0, .int 0, .int 0, .int ((-1)), .int ((-1))]))) a0 (.inr (3, [.int p0, .ref t0, .int p1, .int p2, .null, .ref q1, .int 0, .int 0, .int 0, .int 32, .int 0, .int 0, .int 0, .int ((-1)), .int ((-1))]))) H := hP
  have hI : mI A (mu (mu (mu (mu (mu (mu Mw q1 (.inr (4, [.null, .null, .int 0]))) va0 (.inl (G.2.1 0, 8, .inl (fun _ => 0)))) er0 (.inl (G.2.1 0, 8, .inl (fun _ => 0)))) q1 (.inr (4, [.ref va0, .ref er0, .int 0]))) a0 (.inr (3, [.int p0, .ref t0, .int p1, .int 0, .null, .ref q1, .int 0, .int 0, .int 0, .int 32, .int 0, .int 0, .int 0, .int ((-1)), .int ((-1))]))) a0 (.inr (3, [.int p0, .ref t0, .int p1, .int p2, .null, .ref q1, .int 0, .int 0, .int 0, .int 32, .int 0, .int 0, .int 0, .int ((-1)), .int ((-1))]))) := hI
  have h_q1 := mu_k (e := .inr (3, [.int p0, .ref t0, .int p1, .int p2, .null, .ref q1, .int 0, .int 0, .int 0, .int 32, .int 0, .int 0, .int 0, .int ((-1)), .int ((-1))])) (kd_ne h_q1 h_I rfl) h_q1
  have h_V := mu_k (e := .inr (3, [.int p0, .ref t0, .int p1, .int p2, .null, .ref q1, .int 0, .int 0, .int 0, .int 32, .int 0, .int 0, .int 0, .int ((-1)), .int ((-1))])) (kd_ne h_V h_I rfl) h_V
  have h_E := mu_k (e := .inr (3, [.int p0, .ref t0, .int p1, .int p2, .null, .ref q1, .int 0, .int 0, .int 0, .int 32, .int 0, .int 0, .int 0, .int ((-1)), .int ((-1))])) (kd_ne h_E h_I rfl) h_E
  rw [mu_uu] at hP hI h_q1 h_V h_E
  have h_I : (mu (mu (mu (mu (mu Mw q1 (.inr (4, [.null, .null, .int 0]))) va0 (.inl (G.2.1 0, 8, .inl (fun _ => 0)))) er0 (.inl (G.2.1 0, 8, .inl (fun _ => 0)))) q1 (.inr (4, [.ref va0, .ref er0, .int 0]))) a0 (.inr (3, [.int p0, .ref t0, .int p1, .int p2, .null, .ref q1, .int 0, .int 0, .int 0, .int 32, .int 0, .int 0, .int 0, .int ((-1)), .int ((-1))]))) a0 = some (.inr (3, [.int p0, .ref t0, .int p1, .int p2, .null, .ref q1, .int 0, .int 0, .int 0, .int 32, .int 0, .int 0, .int 0, .int ((-1)), .int ((-1))])) := mu_s
  refine lv_aload_n hx hb dX0_init_52 rfl (lv_at hl 0 rfl) ?_
  refine m_new (ci := 5) (fs := [.null, .int 0, .int 0, .int 0, .int 0]) (C := RX2) (T := TX2) (N := 5) hx hb hts i_X2 tyX2 tyX2_ok hown (hts (.classLink RX0 42 RX2) (by decide +kernel)) (hts (.instantiable RX2 5) (by decide +kernel)) (hts (.initialized RX2) (by decide +kernel)) hK hP hI hS hA rfl (fun j hj => by rcases (show j = 0 ∨ j = 1 ∨ j = 2 ∨ j = 3 ∨ j = 4 by omega) with rfl | rfl | rfl | rfl | rfl <;> rfl) (Nat.le_of_ble_eq_true rfl) (Nat.le_of_ble_eq_true rfl) dX0_init_53 (fun q3 H hn_q3 hP hI hS => ?_)
  have h_I := mu_x (e := .inr (5, [.null, .int 0, .int 0, .int 0, .int 0])) h_I hn_q3
  have h_q1 := mu_x (e := .inr (5, [.null, .int 0, .int 0, .int 0, .int 0])) h_q1 hn_q3
  have h_V := mu_x (e := .inr (5, [.null, .int 0, .int 0, .int 0, .int 0])) h_V hn_q3
  have h_E := mu_x (e := .inr (5, [.null, .int 0, .int 0, .int 0, .int 0])) h_E hn_q3
  have h_q3 : (mu (mu (mu (mu (mu (mu Mw q1 (.inr (4, [.null, .null, .int 0]))) va0 (.inl (G.2.1 0, 8, .inl (fun _ => 0)))) er0 (.inl (G.2.1 0, 8, .inl (fun _ => 0)))) q1 (.inr (4, [.ref va0, .ref er0, .int 0]))) a0 (.inr (3, [.int p0, .ref t0, .int p1, .int p2, .null, .ref q1, .int 0, .int 0, .int 0, .int 32, .int 0, .int 0, .int 0, .int ((-1)), .int ((-1))]))) q3 (.inr (5, [.null, .int 0, .int 0, .int 0, .int 0]))) q3 = some (.inr (5, [.null, .int 0, .int 0, .int 0, .int 0])) := mu_s
  refine lv_dup hx hb dX0_init_56 rfl ?_
  refine lv_aload_n hx hb dX0_init_57 rfl (lv_at hl 2 rfl) ?_
  refine m_callv (va_runI (As := [.ref t0]) (rest := [.ref q3, .ref a0]) ⟨hx, hb, hml, hown, hts⟩ (c_X2_init l G A (mu (mu (mu (mu (mu (mu Mw q1 (.inr (4, [.null, .null, .int 0]))) va0 (.inl (G.2.1 0, 8, .inl (fun _ => 0)))) er0 (.inl (G.2.1 0, 8, .inl (fun _ => 0)))) q1 (.inr (4, [.ref va0, .ref er0, .int 0]))) a0 (.inr (3, [.int p0, .ref t0, .int p1, .int p2, .null, .ref q1, .int 0, .int 0, .int 0, .int 32, .int 0, .int 0, .int 0, .int ((-1)), .int ((-1))]))) q3 (.inr (5, [.null, .int 0, .int 0, .int 0, .int 0])))  t0 h_q3) (cwI 1 hts gX0_init_X2_init rfl rfl rfl (hts (.initialized RX2) (by decide +kernel)) (hts (.methodLink RX0 44 yX2_init) (by decide +kernel)) (hts (.instanceMethod yX2_init) (by decide +kernel)) rfl (by decide +kernel) ⟨Nat.le_of_ble_eq_true rfl, Nat.le_of_ble_eq_true rfl⟩) (mPreS hG hS hP hI hA) rfl rfl hl.1 rfl (lv_room (Nat.le_of_ble_eq_true rfl)) dX0_init_58 ⟨Nat.le_of_ble_eq_true rfl, Nat.le_of_ble_eq_true rfl⟩) hS (fun Mw1 H locs hp_r4 hP hI hS => ?_)
  subst Mw1
  have h_I := mu_k (e := .inr (5, [.ref t0, .int ((-1)), .int ((-1)), .int 0, .int 32])) (kd_ne h_I h_q3 rfl) h_I
  have h_q1 := mu_k (e := .inr (5, [.ref t0, .int ((-1)), .int ((-1)), .int 0, .int 32])) (kd_ne h_q1 h_q3 rfl) h_q1
  have h_V := mu_k (e := .inr (5, [.ref t0, .int ((-1)), .int ((-1)), .int 0, .int 32])) (kd_ne h_V h_q3 rfl) h_V
  have h_E := mu_k (e := .inr (5, [.ref t0, .int ((-1)), .int ((-1)), .int 0, .int 32])) (kd_ne h_E h_q3 rfl) h_E
  have h_q3 : (mu (mu (mu (mu (mu (mu (mu Mw q1 (.inr (4, [.null, .null, .int 0]))) va0 (.inl (G.2.1 0, 8, .inl (fun _ => 0)))) er0 (.inl (G.2.1 0, 8, .inl (fun _ => 0)))) q1 (.inr (4, [.ref va0, .ref er0, .int 0]))) a0 (.inr (3, [.int p0, .ref t0, .int p1, .int p2, .null, .ref q1, .int 0, .int 0, .int 0, .int 32, .int 0, .int 0, .int 0, .int ((-1)), .int ((-1))]))) q3 (.inr (5, [.null, .int 0, .int 0, .int 0, .int 0]))) q3 (.inr (5, [.ref t0, .int ((-1)), .int ((-1)), .int 0, .int 32]))) q3 = some (.inr (5, [.ref t0, .int ((-1)), .int ((-1)), .int 0, .int 32])) := mu_s
  refine m_putF (ci := 3) (v := .ref q3) (ty := .object "Meniscus$Scale") (C := RX0) (T := TX0) (N := 15) hx hb hts i_X0 tyX0 tyX0_ok nmX0 hown hK hP hI hS h_I rfl 4 (by decide) (hts (.fieldLink RX0 47 "Meniscus$Instrument" "scale" "LMeniscus$Scale;") (by decide +kernel)) (fun _ h9 => h9) rfl hin rfl (by decide +kernel) rfl rfl (Nat.le_of_ble_eq_true rfl) dX0_init_61 (fun H locs hP hI hS => ?_)
  have hP : mP G.1 (mu (mu (mu (mu (mu (mu (mu (mu Mw q1 (.inr (4, [.null, .null, .int 0]))) va0 (.inl (G.2.1 0, 8, .inl (fun _ => 0)))) er0 (.inl (G.2.1 0, 8, .inl (fun _ => 0)))) q1 (.inr (4, [.ref va0, .ref er0, .int 0]))) a0 (.inr (3, [.int p0, .ref t0, .int p1, .int p2, .null, .ref q1, .int 0, .int 0, .int 0, .int 32, .int 0, .int 0, .int 0, .int ((-1)), .int ((-1))]))) q3 (.inr (5, [.null, .int 0, .int 0, .int 0, .int 0]))) q3 (.inr (5, [.ref t0, .int ((-1)), .int ((-1)), .int 0, .int 32]))) a0 (.inr (3, [.int p0, .ref t0, .int p1, .int p2, .ref q3, .ref q1, .int 0, .int 0, .int 0, .int 32, .int 0, .int 0, .int 0, .int ((-1)), .int ((-1))]))) H := hP
  have hI : mI A (mu (mu (mu (mu (mu (mu (mu (mu Mw q1 (.inr (4, [.null, .null, .int 0]))) va0 (.inl (G.2.1 0, 8, .inl (fun _ => 0)))) er0 (.inl (G.2.1 0, 8, .inl (fun _ => 0)))) q1 (.inr (4, [.ref va0, .ref er0, .int 0]))) a0 (.inr (3, [.int p0, .ref t0, .int p1, .int p2, .null, .ref q1, .int 0, .int 0, .int 0, .int 32, .int 0, .int 0, .int 0, .int ((-1)), .int ((-1))]))) q3 (.inr (5, [.null, .int 0, .int 0, .int 0, .int 0]))) q3 (.inr (5, [.ref t0, .int ((-1)), .int ((-1)), .int 0, .int 32]))) a0 (.inr (3, [.int p0, .ref t0, .int p1, .int p2, .ref q3, .ref q1, .int 0, .int 0, .int 0, .int 32, .int 0, .int 0, .int 0, .int ((-1)), .int ((-1))]))) := hI
  have h_q1 := mu_k (e := .inr (3, [.int p0, .ref t0, .int p1, .int p2, .ref q3, .ref q1, .int 0, .int 0, .int 0, .int 32, .int 0, .int 0, .int 0, .int ((-1)), .int ((-1))])) (kd_ne h_q1 h_I rfl) h_q1
  have h_V := mu_k (e := .inr (3, [.int p0, .ref t0, .int p1, .int p2, .ref q3, .ref q1, .int 0, .int 0, .int 0, .int 32, .int 0, .int 0, .int 0, .int ((-1)), .int ((-1))])) (kd_ne h_V h_I rfl) h_V
  have h_E := mu_k (e := .inr (3, [.int p0, .ref t0, .int p1, .int p2, .ref q3, .ref q1, .int 0, .int 0, .int 0, .int 32, .int 0, .int 0, .int 0, .int ((-1)), .int ((-1))])) (kd_ne h_E h_I rfl) h_E
  have h_q3 := mu_k (e := .inr (3, [.int p0, .ref t0, .int p1, .int p2, .ref q3, .ref q1, .int 0, .int 0, .int 0, .int 32, .int 0, .int 0, .int 0, .int ((-1)), .int ((-1))])) (kd_ne h_q3 h_I rfl) h_q3
  have h_I : (mu (mu (mu (mu (mu (mu (mu (mu Mw q1 (.inr (4, [.null, .null, .int 0]))) va0 (.inl (G.2.1 0, 8, .inl (fun _ => 0)))) er0 (.inl (G.2.1 0, 8, .inl (fun _ => 0)))) q1 (.inr (4, [.ref va0, .ref er0, .int 0]))) a0 (.inr (3, [.int p0, .ref t0, .int p1, .int p2, .null, .ref q1, .int 0, .int 0, .int 0, .int 32, .int 0, .int 0, .int 0, .int ((-1)), .int ((-1))]))) q3 (.inr (5, [.null, .int 0, .int 0, .int 0, .int 0]))) q3 (.inr (5, [.ref t0, .int ((-1)), .int ((-1)), .int 0, .int 32]))) a0 (.inr (3, [.int p0, .ref t0, .int p1, .int p2, .ref q3, .ref q1, .int 0, .int 0, .int 0, .int 32, .int 0, .int 0, .int 0, .int ((-1)), .int ((-1))]))) a0 = some (.inr (3, [.int p0, .ref t0, .int p1, .int p2, .ref q3, .ref q1, .int 0, .int 0, .int 0, .int 32, .int 0, .int 0, .int 0, .int ((-1)), .int ((-1))])) := mu_s
  refine W.widen (k := 4) (n := 24) (Nat.le_of_ble_eq_true rfl) (Nat.le_of_ble_eq_true rfl) ?_
  exact W.vret hx hb hr (fun t99 ht99 hW99 => ⟨⟨(mu (mu (mu (mu (mu (mu (mu (mu Mw q1 (.inr (4, [.null, .null, .int 0]))) va0 (.inl (G.2.1 0, 8, .inl (fun _ => 0)))) er0 (.inl (G.2.1 0, 8, .inl (fun _ => 0)))) q1 (.inr (4, [.ref va0, .ref er0, .int 0]))) a0 (.inr (3, [.int p0, .ref t0, .int p1, .int p2, .null, .ref q1, .int 0, .int 0, .int 0, .int 32, .int 0, .int 0, .int 0, .int ((-1)), .int ((-1))]))) q3 (.inr (5, [.null, .int 0, .int 0, .int 0, .int 0]))) q3 (.inr (5, [.ref t0, .int ((-1)), .int ((-1)), .int 0, .int 32]))) a0 (.inr (3, [.int p0, .ref t0, .int p1, .int p2, .ref q3, .ref q1, .int 0, .int 0, .int 0, .int 32, .int 0, .int 0, .int 0, .int ((-1)), .int ((-1))]))), rfl, ⟨q1, va0, er0, q3, hn_q1, (mu_none hnv).1, (mu_none hne).1, (mu_none (mu_none (mu_none (mu_none (mu_none hn_q3).1).1).1).1).1, kd_ne h_q1 h_V rfl, kd_ne h_q1 h_E rfl, kd_ne h_q1 h_q3 rfl, hve, kd_ne h_V h_q3 rfl, kd_ne h_E h_q3 rfl, mw_ext5 h_I h_q1 h_V h_E h_q3 (fun z h1 h2 h3 h4 h5 => (mu_n h1).trans ((mu_n h5).trans ((mu_n h5).trans ((mu_n h1).trans ((mu_n h2).trans ((mu_n h4).trans ((mu_n h3).trans ((mu_n h2).trans (rfl)))))))))⟩, by rw [ht99]; exact hP, hI⟩, hS.F ht99⟩) hS.2.2 dX0_init_64
