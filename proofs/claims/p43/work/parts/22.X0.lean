set_option maxHeartbeats 4000000 in
set_option maxRecDepth 100000 in
theorem c_X0_creepsInAll (l : Launch) (G : mg) (A : Nat → Prop) (Mw : mw)  {a0 t0 sc0 rd0 : Nat} {tn0 bu0 gl0 cr0 fi0 sm0 li0 in0 ga0 ke0 gr0 ce0 : Int32} (h_I : Mw a0 = some (.inr (0, [.int tn0, .ref t0, .int bu0, .int gl0, .ref sc0, .ref rd0, .int cr0, .int fi0, .int sm0, .int li0, .int in0, .int ga0, .int ke0, .int gr0, .int ce0]))) : Met l yX0_creepsInAll wsX0_creepsInAll ({ frames := 0, cells := 0, slots := 0, locals := 0 }) (va_Pc [.ref a0] (mB G A Mw)) (va_Qi (fun r Mw1 => r = (cia bu0 gl0) ∧ Mw1 = Mw) (mE G A) A) 0 0 A := by
  refine Met.ofW (cc := cX0_creepsInAll) (maxL := 1) (ret := (some .int)) (by decide) rfl ?_
  intro p e s m args below meth c s₁ B hml hv
  obtain ⟨rfl, hG, hP, hI, hA⟩ := hv
  have hx := B.exec
  have hb := B.bytes
  have hr := B.returns
  have hts := atoms_spec (ws := wsX0_creepsInAll) B.pre
  have hown : s.vm.findClass RX0 = some m.cls := findClass_of_methodNamed B.named
  have hlocks := B.notSynchronized
  have hK := hG.K
  have i_X0 : ∀ w ∈ wsX00, w ∈ wsX0_creepsInAll := by decide +kernel
  have hS : va_S A s.heap s.heap [] := va_S.rf
  have hl := lv_entry ([.ref a0]) (n := 1) (Nat.le_of_ble_eq_true rfl)
  rw [lg_entry_eq]
  generalize (lg_sl ([.ref a0]) ++ List.replicate (1 - (lg_sl ([.ref a0])).length) Slot.unset).toArray = ls at hl ⊢
  have hl : lv_has ls 1 [(0, .ref a0)] := hl
  have hP : mP G.1 Mw s.heap := hP
  refine lv_aload_n hx hb dX0_creepsInAll_0 rfl (lv_at hl 0 rfl) ?_
  refine m_get (ci := 0) (v := .int bu0) (C := RX0) (T := TX0) (N := 15) hx hb hts i_X0 hown hK (hP _ _ h_I) rfl 2 (by decide) (hts (.fieldLink RX0 36 "Meniscus$Instrument" "bulb" "I") (by decide +kernel)) (fun _ h9 => h9) rfl dX0_creepsInAll_1 ?_
  refine lv_aload_n hx hb dX0_creepsInAll_4 rfl (lv_at hl 0 rfl) ?_
  refine m_get (ci := 0) (v := .int gl0) (C := RX0) (T := TX0) (N := 15) hx hb hts i_X0 hown hK (hP _ _ h_I) rfl 3 (by decide) (hts (.fieldLink RX0 39 "Meniscus$Instrument" "glass" "C") (by decide +kernel)) (fun _ h9 => h9) rfl dX0_creepsInAll_5 ?_
  refine lv_bipush (v := (104)) hx hb dX0_creepsInAll_8 (by decide) ?_
  refine lv_icmp_ne (tgt := 17) hx hb dX0_creepsInAll_10 (by decide) (fun c1 => ?_) (fun c1 => ?_)
  · skip
    refine lv_bipush (v := (6)) hx hb dX0_creepsInAll_17 (by decide) ?_
    refine lv_imul hx hb dX0_creepsInAll_19 ?_
    refine lv_sipush (v := (1000)) hx hb dX0_creepsInAll_20 (by decide) ?_
    refine lv_idiv hx hb dX0_creepsInAll_23 (by decide) ?_
    refine W.widen (k := 0) (n := 0) (Nat.le_of_ble_eq_true rfl) (Nat.le_of_ble_eq_true rfl) ?_
    exact W.iret (v := (bu0 * 6) / 1000) hx hb hr (fun t99 ht99 hW99 => ⟨⟨(bu0 * 6) / 1000, Mw, rfl, ⟨by simp [cia, c1], rfl⟩, by rw [ht99]; exact hP, hI⟩, hS.F ht99⟩) hS.2.2 dX0_creepsInAll_24
  · skip
    refine lv_iconst (v := 2) hx hb dX0_creepsInAll_13 (by decide) ?_
    refine lv_goto (tgt := 19) hx hb dX0_creepsInAll_14 (by decide) ?_
    refine lv_imul hx hb dX0_creepsInAll_19 ?_
    refine lv_sipush (v := (1000)) hx hb dX0_creepsInAll_20 (by decide) ?_
    refine lv_idiv hx hb dX0_creepsInAll_23 (by decide) ?_
    refine W.widen (k := 0) (n := 0) (Nat.le_of_ble_eq_true rfl) (Nat.le_of_ble_eq_true rfl) ?_
    exact W.iret (v := (bu0 * 2) / 1000) hx hb hr (fun t99 ht99 hW99 => ⟨⟨(bu0 * 2) / 1000, Mw, rfl, ⟨by simp [cia, c1], rfl⟩, by rw [ht99]; exact hP, hI⟩, hS.F ht99⟩) hS.2.2 dX0_creepsInAll_24

set_option maxHeartbeats 4000000 in
set_option maxRecDepth 100000 in
theorem c_X0_mercuryInside (l : Launch) (G : mg) (A : Nat → Prop) (Mw : mw)  {a0 t0 sc0 rd0 : Nat} {tn0 bu0 gl0 cr0 fi0 sm0 li0 in0 ga0 ke0 gr0 ce0 : Int32} (h_I : Mw a0 = some (.inr (0, [.int tn0, .ref t0, .int bu0, .int gl0, .ref sc0, .ref rd0, .int cr0, .int fi0, .int sm0, .int li0, .int in0, .int ga0, .int ke0, .int gr0, .int ce0]))) : Met l yX0_mercuryInside wsX0_mercuryInside ({ frames := 0, cells := 0, slots := 0, locals := 0 }) (va_Pc [.ref a0] (mB G A Mw)) (va_Qi (fun r Mw1 => r = (if li0 = 109 then in0 else 0) ∧ Mw1 = Mw) (mE G A) A) 0 0 A := by
  refine Met.ofW (cc := cX0_mercuryInside) (maxL := 1) (ret := (some .int)) (by decide) rfl ?_
  intro p e s m args below meth c s₁ B hml hv
  obtain ⟨rfl, hG, hP, hI, hA⟩ := hv
  have hx := B.exec
  have hb := B.bytes
  have hr := B.returns
  have hts := atoms_spec (ws := wsX0_mercuryInside) B.pre
  have hown : s.vm.findClass RX0 = some m.cls := findClass_of_methodNamed B.named
  have hlocks := B.notSynchronized
  have hK := hG.K
  have i_X0 : ∀ w ∈ wsX00, w ∈ wsX0_mercuryInside := by decide +kernel
  have hS : va_S A s.heap s.heap [] := va_S.rf
  have hl := lv_entry ([.ref a0]) (n := 1) (Nat.le_of_ble_eq_true rfl)
  rw [lg_entry_eq]
  generalize (lg_sl ([.ref a0]) ++ List.replicate (1 - (lg_sl ([.ref a0])).length) Slot.unset).toArray = ls at hl ⊢
  have hl : lv_has ls 1 [(0, .ref a0)] := hl
  have hP : mP G.1 Mw s.heap := hP
  refine lv_aload_n hx hb dX0_mercuryInside_0 rfl (lv_at hl 0 rfl) ?_
  refine m_get (ci := 0) (v := .int li0) (C := RX0) (T := TX0) (N := 15) hx hb hts i_X0 hown hK (hP _ _ h_I) rfl 9 (by decide) (hts (.fieldLink RX0 18 "Meniscus$Instrument" "liquid" "C") (by decide +kernel)) (fun _ h9 => h9) rfl dX0_mercuryInside_1 ?_
  refine lv_bipush (v := (109)) hx hb dX0_mercuryInside_4 (by decide) ?_
  refine lv_icmp_ne (tgt := 16) hx hb dX0_mercuryInside_6 (by decide) (fun c1 => ?_) (fun c1 => ?_)
  · skip
    refine lv_iconst (v := 0) hx hb dX0_mercuryInside_16 (by decide) ?_
    refine W.widen (k := 0) (n := 0) (Nat.le_of_ble_eq_true rfl) (Nat.le_of_ble_eq_true rfl) ?_
    exact W.iret (v := 0) hx hb hr (fun t99 ht99 hW99 => ⟨⟨0, Mw, rfl, ⟨by simp [c1], rfl⟩, by rw [ht99]; exact hP, hI⟩, hS.F ht99⟩) hS.2.2 dX0_mercuryInside_17
  · skip
    refine lv_aload_n hx hb dX0_mercuryInside_9 rfl (lv_at hl 0 rfl) ?_
    refine m_get (ci := 0) (v := .int in0) (C := RX0) (T := TX0) (N := 15) hx hb hts i_X0 hown hK (hP _ _ h_I) rfl 10 (by decide) (hts (.fieldLink RX0 68 "Meniscus$Instrument" "inside" "I") (by decide +kernel)) (fun _ h9 => h9) rfl dX0_mercuryInside_10 ?_
    refine lv_goto (tgt := 17) hx hb dX0_mercuryInside_13 (by decide) ?_
    refine W.widen (k := 0) (n := 0) (Nat.le_of_ble_eq_true rfl) (Nat.le_of_ble_eq_true rfl) ?_
    exact W.iret (v := in0) hx hb hr (fun t99 ht99 hW99 => ⟨⟨in0, Mw, rfl, ⟨by simp [c1], rfl⟩, by rw [ht99]; exact hP, hI⟩, hS.F ht99⟩) hS.2.2 dX0_mercuryInside_17

set_option maxHeartbeats 4000000 in
set_option maxRecDepth 100000 in
theorem c_X0_isInBounds (l : Launch) (G : mg) (A : Nat → Prop) (Mw : mw) {a0 t0 sc0 rd0 : Nat} {tn0 bu0 gl0 cr0 fi0 sm0 li0 in0 ga0 ke0 gr0 ce0 : Int32} (h_I : Mw a0 = some (.inr (0, [.int tn0, .ref t0, .int bu0, .int gl0, .ref sc0, .ref rd0, .int cr0, .int fi0, .int sm0, .int li0, .int in0, .int ga0, .int ke0, .int gr0, .int ce0]))) {va0 er0 n9 : Nat} (h_R : Mw rd0 = some (.inr (1, [.ref va0, .ref er0, .int (nI n9)]))) : Met l yX0_isInBounds wsX0_isInBounds ({ frames := 1, cells := 0, slots := 0, locals := 20 }) (va_Pc [.ref a0] (mB G A Mw)) (va_Qi (fun r Mw1 => r = (inb cr0 bu0 gl0 (nI n9)) ∧ Mw1 = Mw) (mE G A) A) 0 0 A := by
  refine Met.ofW (cc := cX0_isInBounds) (maxL := 1) (ret := (some .boolean)) (by decide) rfl ?_
  intro p e s m args below meth c s₁ B hml hv
  obtain ⟨rfl, hG, hP, hI, hA⟩ := hv
  have hx := B.exec
  have hb := B.bytes
  have hr := B.returns
  have hts := atoms_spec (ws := wsX0_isInBounds) B.pre
  have hown : s.vm.findClass RX0 = some m.cls := findClass_of_methodNamed B.named
  have hlocks := B.notSynchronized
  have hK := hG.K
  have i_X0 : ∀ w ∈ wsX00, w ∈ wsX0_isInBounds := by decide +kernel
  have i_X1 : ∀ w ∈ wsX10, w ∈ wsX0_isInBounds := by decide +kernel
  have hS : va_S A s.heap s.heap [] := va_S.rf
  have hl := lv_entry ([.ref a0]) (n := 1) (Nat.le_of_ble_eq_true rfl)
  rw [lg_entry_eq]
  generalize (lg_sl ([.ref a0]) ++ List.replicate (1 - (lg_sl ([.ref a0])).length) Slot.unset).toArray = ls at hl ⊢
  have hl : lv_has ls 1 [(0, .ref a0)] := hl
  have hP : mP G.1 Mw s.heap := hP
  refine lv_aload_n hx hb dX0_isInBounds_0 rfl (lv_at hl 0 rfl) ?_
  refine m_get (ci := 0) (v := .int cr0) (C := RX0) (T := TX0) (N := 15) hx hb hts i_X0 hown hK (hP _ _ h_I) rfl 6 (by decide) (hts (.fieldLink RX0 51 "Meniscus$Instrument" "crept" "I") (by decide +kernel)) (fun _ h9 => h9) rfl dX0_isInBounds_1 ?_
  refine lv_if_lt (tgt := 34) hx hb dX0_isInBounds_4 (by decide) (fun c1 => ?_) (fun c1 => ?_)
  · skip
    refine lv_iconst (v := 0) hx hb dX0_isInBounds_34 (by decide) ?_
    refine W.widen (k := 0) (n := 0) (Nat.le_of_ble_eq_true rfl) (Nat.le_of_ble_eq_true rfl) ?_
    exact W.zret (v := 0) hx hb hr rfl (fun t99 ht99 hW99 => ⟨⟨0, Mw, rfl, ⟨by unfold inb; rw [if_pos c1], rfl⟩, by rw [ht99]; exact hP, hI⟩, hS.F ht99⟩) hS.2.2 dX0_isInBounds_35
  · skip
    refine lv_aload_n hx hb dX0_isInBounds_7 rfl (lv_at hl 0 rfl) ?_
    refine m_get (ci := 0) (v := .int cr0) (C := RX0) (T := TX0) (N := 15) hx hb hts i_X0 hown hK (hP _ _ h_I) rfl 6 (by decide) (hts (.fieldLink RX0 51 "Meniscus$Instrument" "crept" "I") (by decide +kernel)) (fun _ h9 => h9) rfl dX0_isInBounds_8 ?_
    refine lv_aload_n hx hb dX0_isInBounds_11 rfl (lv_at hl 0 rfl) ?_
    refine m_calli (va_runV (As := []) (rest := [.int cr0]) ⟨hx, hb, hml, hown, hts⟩ (c_X0_creepsInAll l G A Mw  h_I) (cwV 0 hts gX0_isInBounds_X0_creepsInAll rfl rfl rfl (by decide +kernel) ⟨Nat.le_of_ble_eq_true rfl, Nat.le_of_ble_eq_true rfl⟩) (mPreV hG hS hP hI hA (hP _ _ h_I) (r := (RX0, TX0, 15)) rfl) rfl rfl hl.1 rfl (lv_room (Nat.le_of_ble_eq_true rfl)) dX0_isInBounds_12 ⟨Nat.le_of_ble_eq_true rfl, Nat.le_of_ble_eq_true rfl⟩) hS (fun r2 Mw1 H locs hp_r2 hP hI hS => ?_)
    obtain ⟨hp_r2, hm9⟩ := hp_r2
    subst Mw1
    refine lv_icmp_gt (tgt := 34) hx hb dX0_isInBounds_15 (by decide) (fun c3 => ?_) (fun c3 => ?_)
    · skip
      refine lv_iconst (v := 0) hx hb dX0_isInBounds_34 (by decide) ?_
      refine W.widen (k := 0) (n := 0) (Nat.le_of_ble_eq_true rfl) (Nat.le_of_ble_eq_true rfl) ?_
      exact W.zret (v := 0) hx hb hr rfl (fun t99 ht99 hW99 => ⟨⟨0, Mw, rfl, ⟨by unfold inb; rw [if_neg c1, ← hp_r2, if_pos c3], rfl⟩, by rw [ht99]; exact hP, hI⟩, hS.F ht99⟩) hS.2.2 dX0_isInBounds_35
    · skip
      refine lv_aload_n hx hb dX0_isInBounds_18 rfl (lv_at hl 0 rfl) ?_
      refine m_get (ci := 0) (v := .ref rd0) (C := RX0) (T := TX0) (N := 15) hx hb hts i_X0 hown hK (hP _ _ h_I) rfl 5 (by decide) (hts (.fieldLink RX0 12 "Meniscus$Instrument" "readings" "LMeniscus$Readings;") (by decide +kernel)) (fun _ h9 => h9) rfl dX0_isInBounds_19 ?_
      refine m_getN (ci := 1) (v := .int (nI n9)) (C := RX1) (T := TX1) (N := 3) hx hb hts i_X1 hown hK (hP _ _ h_R) rfl 2 (by decide) (va_Nw.use rfl (hG.2.1.2.1 ("Meniscus$Instrument", 119, "Meniscus$Readings", "count", "I", "Meniscus") (by decide +kernel))) (fun _ h9 => h9) rfl dX0_isInBounds_22 ?_
      refine lv_bipush (v := (8)) hx hb dX0_isInBounds_25 (by decide) ?_
      refine lv_icmp_gt (tgt := 34) hx hb dX0_isInBounds_27 (by decide) (fun c4 => ?_) (fun c4 => ?_)
      · skip
        refine lv_iconst (v := 0) hx hb dX0_isInBounds_34 (by decide) ?_
        refine W.widen (k := 0) (n := 0) (Nat.le_of_ble_eq_true rfl) (Nat.le_of_ble_eq_true rfl) ?_
        exact W.zret (v := 0) hx hb hr rfl (fun t99 ht99 hW99 => ⟨⟨0, Mw, rfl, ⟨by unfold inb; rw [if_neg c1, ← hp_r2, if_neg c3, if_pos c4], rfl⟩, by rw [ht99]; exact hP, hI⟩, hS.F ht99⟩) hS.2.2 dX0_isInBounds_35
      · skip
        refine lv_iconst (v := 1) hx hb dX0_isInBounds_30 (by decide) ?_
        refine lv_goto (tgt := 35) hx hb dX0_isInBounds_31 (by decide) ?_
        refine W.widen (k := 0) (n := 0) (Nat.le_of_ble_eq_true rfl) (Nat.le_of_ble_eq_true rfl) ?_
        exact W.zret (v := 1) hx hb hr rfl (fun t99 ht99 hW99 => ⟨⟨1, Mw, rfl, ⟨by unfold inb; rw [if_neg c1, ← hp_r2, if_neg c3, if_neg c4], rfl⟩, by rw [ht99]; exact hP, hI⟩, hS.F ht99⟩) hS.2.2 dX0_isInBounds_35

set_option maxHeartbeats 4000000 in
set_option maxRecDepth 100000 in
theorem c_X0_init (l : Launch) (G : mg) (A : Nat → Prop) (Mw : mw) (p0 p1 p2 : Int32) (t0 : Nat) (hch : narrow .char (.int p2) = .int p2 ∧ fits .char (.int p2) = true) {a0 : Nat} (h_I : Mw a0 = some (.inr (0, [.int 0, .null, .int 0, .int 0, .null, .null, .int 0, .int 0, .int 0, .int 0, .int 0, .int 0, .int 0, .int 0, .int 0]))) : Met l yX0_init wsX0_init ({ frames := 2, cells := 4, slots := 24, locals := 41 }) (va_Pc [.ref a0, .int p0, .ref t0, .int p1, .int p2] (mB G A Mw)) (va_Qv (fun Mw1 => ∃ rd0 va0 er0 sc0 : Nat, Mw rd0 = none ∧ Mw va0 = none ∧ Mw er0 = none ∧ Mw sc0 = none ∧ rd0 ≠ va0 ∧ rd0 ≠ er0 ∧ rd0 ≠ sc0 ∧ va0 ≠ er0 ∧ va0 ≠ sc0 ∧ er0 ≠ sc0 ∧ Mw1 = mu (mu (mu (mu (mu Mw a0 (.inr (0, [.int p0, .ref t0, .int p1, .int p2, .ref sc0, .ref rd0, .int 0, .int 0, .int 0, .int 32, .int 0, .int 0, .int 0, .int ((-1)), .int ((-1))]))) rd0 (.inr (1, [.ref va0, .ref er0, .int 0]))) va0 (.inl (G.2.1 0, 8, .inl (fun _ => 0)))) er0 (.inl (G.2.1 0, 8, .inl (fun _ => 0)))) sc0 (.inr (2, [.ref t0, .int ((-1)), .int ((-1)), .int 0, .int 32]))) (mE G A) A) 4 24 A := by
  refine Met.ofW (cc := cX0_init) (maxL := 5) (ret := none) (by decide) rfl ?_
  intro p e s m args below meth c s₁ B hml hv
  obtain ⟨rfl, hG, hP, hI, hA⟩ := hv
  have hx := B.exec
  have hb := B.bytes
  have hr := B.returns
  have hts := atoms_spec (ws := wsX0_init) B.pre
  have hown : s.vm.findClass RX0 = some m.cls := findClass_of_methodNamed B.named
  have hlocks := B.notSynchronized
  have hK := hG.K
  have hin : meth.name = "<init>" := (name_of_methodNamed B.named B.method).1
  have i_X0 : ∀ w ∈ wsX00, w ∈ wsX0_init := by decide +kernel
  have i_X1 : ∀ w ∈ wsX10, w ∈ wsX0_init := by decide +kernel
  have i_X2 : ∀ w ∈ wsX20, w ∈ wsX0_init := by decide +kernel
  have hS : va_S A s.heap s.heap [] := va_S.rf
  have hl := lv_entry ([.ref a0, .int p0, .ref t0, .int p1, .int p2]) (n := 5) (Nat.le_of_ble_eq_true rfl)
  rw [lg_entry_eq]
  generalize (lg_sl ([.ref a0, .int p0, .ref t0, .int p1, .int p2]) ++ List.replicate (5 - (lg_sl ([.ref a0, .int p0, .ref t0, .int p1, .int p2])).length) Slot.unset).toArray = ls at hl ⊢
  have hl : lv_has ls 5 [(0, .ref a0), (1, .int p0), (2, .ref t0), (3, .int p1), (4, .int p2)] := hl
  have hP : mP G.1 Mw s.heap := hP
  refine lv_aload_n hx hb dX0_init_0 rfl (lv_at hl 0 rfl) ?_
  refine W.objInit hx hb hown (hts (.methodLink RX0 3 objectInit) (by decide +kernel)) (hts (.instanceMethod objectInit) (by decide +kernel)) (hts (.code objectInit ⟨#[0xb1]⟩ 1 none) (by decide +kernel)) rfl (by rw [hml]; exact hl.1) rfl dX0_init_1 (Nat.le_of_ble_eq_true rfl) (Nat.le_of_ble_eq_true rfl) ?_
  refine W.eq (g2 := F0 m 4 ls []) rfl ?_
  refine lv_aload_n hx hb dX0_init_4 rfl (lv_at hl 0 rfl) ?_
  refine m_new (ci := 1) (fs := [.null, .null, .int 0]) (C := RX1) (T := TX1) (N := 3) hx hb hts i_X1 tyX1 tyX1_ok hown (hts (.classLink RX0 9 RX1) (by decide +kernel)) (hts (.instantiable RX1 3) (by decide +kernel)) (hts (.initialized RX1) (by decide +kernel)) hK hP hI hS hA rfl (fun j hj => by rcases (show j = 0 ∨ j = 1 ∨ j = 2 by omega) with rfl | rfl | rfl <;> rfl) (Nat.le_of_ble_eq_true rfl) (Nat.le_of_ble_eq_true rfl) dX0_init_5 (fun q1 H hn_q1 hP hI hS => ?_)
  have h_I := mu_x (e := .inr (1, [.null, .null, .int 0])) h_I hn_q1
  have h_q1 : (mu Mw q1 (.inr (1, [.null, .null, .int 0]))) q1 = some (.inr (1, [.null, .null, .int 0])) := mu_s
  refine lv_dup hx hb dX0_init_8 rfl ?_
  refine m_callv (va_runIN (As := []) (rest := [.ref q1, .ref a0]) ⟨hx, hb, hml, hown, hts⟩ (c_X1_init l G A (mu Mw q1 (.inr (1, [.null, .null, .int 0])))  h_q1) ⟨va_cnB 0 hts gX0_init_X1_init_n11 rfl rfl rfl (hG.2.1.2.2.1 ("Meniscus$Instrument", 11, yX1_init, "Meniscus") (by decide +kernel)) (hts (.initialized RX1) (by decide +kernel)) (by decide +kernel) ⟨Nat.le_of_ble_eq_true rfl, Nat.le_of_ble_eq_true rfl⟩, rfl, (hts (.instanceMethod yX1_init) (by decide +kernel))⟩ (mPreS hG hS hP hI hA) rfl rfl hl.1 rfl (lv_room (Nat.le_of_ble_eq_true rfl)) dX0_init_9 ⟨Nat.le_of_ble_eq_true rfl, Nat.le_of_ble_eq_true rfl⟩) hS (fun Mw1 H locs hp_r2 hP hI hS => ?_)
  obtain ⟨va0, er0, hnv, hne, hve, hm9⟩ := hp_r2
  subst Mw1
  have hne2 : (mu (mu Mw q1 (.inr (1, [.null, .null, .int 0]))) va0 (.inl (G.2.1 0, 8, .inl (fun _ => 0)))) er0 = none := (mu_n (Ne.symm hve)).trans hne
  have h_I := mu_k (e := .inl (G.2.1 0, 8, .inl (fun _ => 0))) (ne_none h_I hnv) h_I
  have h_q1 := mu_k (e := .inl (G.2.1 0, 8, .inl (fun _ => 0))) (ne_none h_q1 hnv) h_q1
  have h_V : (mu (mu Mw q1 (.inr (1, [.null, .null, .int 0]))) va0 (.inl (G.2.1 0, 8, .inl (fun _ => 0)))) va0 = some (.inl (G.2.1 0, 8, .inl (fun _ => 0))) := mu_s
  have h_I := mu_k (e := .inl (G.2.1 0, 8, .inl (fun _ => 0))) (ne_none h_I hne2) h_I
  have h_q1 := mu_k (e := .inl (G.2.1 0, 8, .inl (fun _ => 0))) (ne_none h_q1 hne2) h_q1
  have h_V := mu_k (e := .inl (G.2.1 0, 8, .inl (fun _ => 0))) (ne_none h_V hne2) h_V
  have h_E : (mu (mu (mu Mw q1 (.inr (1, [.null, .null, .int 0]))) va0 (.inl (G.2.1 0, 8, .inl (fun _ => 0)))) er0 (.inl (G.2.1 0, 8, .inl (fun _ => 0)))) er0 = some (.inl (G.2.1 0, 8, .inl (fun _ => 0))) := mu_s
  have h_I := mu_k (e := .inr (1, [.ref va0, .ref er0, .int 0])) (kd_ne h_I h_q1 rfl) h_I
  have h_V := mu_k (e := .inr (1, [.ref va0, .ref er0, .int 0])) (kd_ne h_V h_q1 rfl) h_V
  have h_E := mu_k (e := .inr (1, [.ref va0, .ref er0, .int 0])) (kd_ne h_E h_q1 rfl) h_E
  have h_q1 : (mu (mu (mu (mu Mw q1 (.inr (1, [.null, .null, .int 0]))) va0 (.inl (G.2.1 0, 8, .inl (fun _ => 0)))) er0 (.inl (G.2.1 0, 8, .inl (fun _ => 0)))) q1 (.inr (1, [.ref va0, .ref er0, .int 0]))) q1 = some (.inr (1, [.ref va0, .ref er0, .int 0])) := mu_s
  refine m_putF (ci := 0) (v := .ref q1) (ty := .object "Meniscus$Readings") (C := RX0) (T := TX0) (N := 15) hx hb hts i_X0 tyX0 tyX0_ok nmX0 hown hK hP hI hS h_I rfl 5 (by decide) (hts (.fieldLink RX0 12 "Meniscus$Instrument" "readings" "LMeniscus$Readings;") (by decide +kernel)) (fun _ h9 => h9) rfl hin rfl (by decide +kernel) rfl rfl (Nat.le_of_ble_eq_true rfl) dX0_init_12 (fun H locs hP hI hS => ?_)
  have hP : mP G.1 (mu (mu (mu (mu (mu Mw q1 (.inr (1, [.null, .null, .int 0]))) va0 (.inl (G.2.1 0, 8, .inl (fun _ => 0)))) er0 (.inl (G.2.1 0, 8, .inl (fun _ => 0)))) q1 (.inr (1, [.ref va0, .ref er0, .int 0]))) a0 (.inr (0, [.int 0, .null, .int 0, .int 0, .null, .ref q1, .int 0, .int 0, .int 0, .int 0, .int 0, .int 0, .int 0, .int 0, .int 0]))) H := hP
  have hI : mI A (mu (mu (mu (mu (mu Mw q1 (.inr (1, [.null, .null, .int 0]))) va0 (.inl (G.2.1 0, 8, .inl (fun _ => 0)))) er0 (.inl (G.2.1 0, 8, .inl (fun _ => 0)))) q1 (.inr (1, [.ref va0, .ref er0, .int 0]))) a0 (.inr (0, [.int 0, .null, .int 0, .int 0, .null, .ref q1, .int 0, .int 0, .int 0, .int 0, .int 0, .int 0, .int 0, .int 0, .int 0]))) := hI
  have h_q1 := mu_k (e := .inr (0, [.int 0, .null, .int 0, .int 0, .null, .ref q1, .int 0, .int 0, .int 0, .int 0, .int 0, .int 0, .int 0, .int 0, .int 0])) (kd_ne h_q1 h_I rfl) h_q1
  have h_V := mu_k (e := .inr (0, [.int 0, .null, .int 0, .int 0, .null, .ref q1, .int 0, .int 0, .int 0, .int 0, .int 0, .int 0, .int 0, .int 0, .int 0])) (kd_ne h_V h_I rfl) h_V
  have h_E := mu_k (e := .inr (0, [.int 0, .null, .int 0, .int 0, .null, .ref q1, .int 0, .int 0, .int 0, .int 0, .int 0, .int 0, .int 0, .int 0, .int 0])) (kd_ne h_E h_I rfl) h_E
  have h_I : (mu (mu (mu (mu (mu Mw q1 (.inr (1, [.null, .null, .int 0]))) va0 (.inl (G.2.1 0, 8, .inl (fun _ => 0)))) er0 (.inl (G.2.1 0, 8, .inl (fun _ => 0)))) q1 (.inr (1, [.ref va0, .ref er0, .int 0]))) a0 (.inr (0, [.int 0, .null, .int 0, .int 0, .null, .ref q1, .int 0, .int 0, .int 0, .int 0, .int 0, .int 0, .int 0, .int 0, .int 0]))) a0 = some (.inr (0, [.int 0, .null, .int 0, .int 0, .null, .ref q1, .int 0, .int 0, .int 0, .int 0, .int 0, .int 0, .int 0, .int 0, .int 0])) := mu_s
  refine lv_aload_n hx hb dX0_init_15 rfl (lv_at hl 0 rfl) ?_
  refine lv_bipush (v := (32)) hx hb dX0_init_16 (by decide) ?_
  refine m_put (ci := 0) (v := .int 32) (ty := .char) (C := RX0) (T := TX0) (N := 15) hx hb hts i_X0 tyX0 tyX0_ok nmX0 hown hK hP hI hS h_I rfl 9 (by decide) (hts (.fieldLink RX0 18 "Meniscus$Instrument" "liquid" "C") (by decide +kernel)) (fun _ h9 => h9) rfl (by decide +kernel) rfl rfl (Nat.le_of_ble_eq_true rfl) dX0_init_18 (fun H locs hP hI hS => ?_)
  have hP : mP G.1 (mu (mu (mu (mu (mu (mu Mw q1 (.inr (1, [.null, .null, .int 0]))) va0 (.inl (G.2.1 0, 8, .inl (fun _ => 0)))) er0 (.inl (G.2.1 0, 8, .inl (fun _ => 0)))) q1 (.inr (1, [.ref va0, .ref er0, .int 0]))) a0 (.inr (0, [.int 0, .null, .int 0, .int 0, .null, .ref q1, .int 0, .int 0, .int 0, .int 0, .int 0, .int 0, .int 0, .int 0, .int 0]))) a0 (.inr (0, [.int 0, .null, .int 0, .int 0, .null, .ref q1, .int 0, .int 0, .int 0, .int 32, .int 0, .int 0, .int 0, .int 0, .int 0]))) H := hP
  have hI : mI A (mu (mu (mu (mu (mu (mu Mw q1 (.inr (1, [.null, .null, .int 0]))) va0 (.inl (G.2.1 0, 8, .inl (fun _ => 0)))) er0 (.inl (G.2.1 0, 8, .inl (fun _ => 0)))) q1 (.inr (1, [.ref va0, .ref er0, .int 0]))) a0 (.inr (0, [.int 0, .null, .int 0, .int 0, .null, .ref q1, .int 0, .int 0, .int 0, .int 0, .int 0, .int 0, .int 0, .int 0, .int 0]))) a0 (.inr (0, [.int 0, .null, .int 0, .int 0, .null, .ref q1, .int 0, .int 0, .int 0, .int 32, .int 0, .int 0, .int 0, .int 0, .int 0]))) := hI
  have h_q1 := mu_k (e := .inr (0, [.int 0, .null, .int 0, .int 0, .null, .ref q1, .int 0, .int 0, .int 0, .int 32, .int 0, .int 0, .int 0, .int 0, .int 0])) (kd_ne h_q1 h_I rfl) h_q1
  have h_V := mu_k (e := .inr (0, [.int 0, .null, .int 0, .int 0, .null, .ref q1, .int 0, .int 0, .int 0, .int 32, .int 0, .int 0, .int 0, .int 0, .int 0])) (kd_ne h_V h_I rfl) h_V
  have h_E := mu_k (e := .inr (0, [.int 0, .null, .int 0, .int 0, .null, .ref q1, .int 0, .int 0, .int 0, .int 32, .int 0, .int 0, .int 0, .int 0, .int 0])) (kd_ne h_E h_I rfl) h_E
  rw [mu_uu] at hP hI h_q1 h_V h_E
  have h_I : (mu (mu (mu (mu (mu Mw q1 (.inr (1, [.null, .null, .int 0]))) va0 (.inl (G.2.1 0, 8, .inl (fun _ => 0)))) er0 (.inl (G.2.1 0, 8, .inl (fun _ => 0)))) q1 (.inr (1, [.ref va0, .ref er0, .int 0]))) a0 (.inr (0, [.int 0, .null, .int 0, .int 0, .null, .ref q1, .int 0, .int 0, .int 0, .int 32, .int 0, .int 0, .int 0, .int 0, .int 0]))) a0 = some (.inr (0, [.int 0, .null, .int 0, .int 0, .null, .ref q1, .int 0, .int 0, .int 0, .int 32, .int 0, .int 0, .int 0, .int 0, .int 0])) := mu_s
  refine lv_aload_n hx hb dX0_init_21 rfl (lv_at hl 0 rfl) ?_
  refine lv_iconst (v := (-1)) hx hb dX0_init_22 (by decide) ?_
  refine m_put (ci := 0) (v := .int ((-1))) (ty := .int) (C := RX0) (T := TX0) (N := 15) hx hb hts i_X0 tyX0 tyX0_ok nmX0 hown hK hP hI hS h_I rfl 13 (by decide) (hts (.fieldLink RX0 22 "Meniscus$Instrument" "greatestLevel" "I") (by decide +kernel)) (fun _ h9 => h9) rfl (by decide +kernel) rfl rfl (Nat.le_of_ble_eq_true rfl) dX0_init_23 (fun H locs hP hI hS => ?_)
  have hP : mP G.1 (mu (mu (mu (mu (mu (mu Mw q1 (.inr (1, [.null, .null, .int 0]))) va0 (.inl (G.2.1 0, 8, .inl (fun _ => 0)))) er0 (.inl (G.2.1 0, 8, .inl (fun _ => 0)))) q1 (.inr (1, [.ref va0, .ref er0, .int 0]))) a0 (.inr (0, [.int 0, .null, .int 0, .int 0, .null, .ref q1, .int 0, .int 0, .int 0, .int 32, .int 0, .int 0, .int 0, .int 0, .int 0]))) a0 (.inr (0, [.int 0, .null, .int 0, .int 0, .null, .ref q1, .int 0, .int 0, .int 0, .int 32, .int 0, .int 0, .int 0, .int ((-1)), .int 0]))) H := hP
  have hI : mI A (mu (mu (mu (mu (mu (mu Mw q1 (.inr (1, [.null, .null, .int 0]))) va0 (.inl (G.2.1 0, 8, .inl (fun _ => 0)))) er0 (.inl (G.2.1 0, 8, .inl (fun _ => 0)))) q1 (.inr (1, [.ref va0, .ref er0, .int 0]))) a0 (.inr (0, [.int 0, .null, .int 0, .int 0, .null, .ref q1, .int 0, .int 0, .int 0, .int 32, .int 0, .int 0, .int 0, .int 0, .int 0]))) a0 (.inr (0, [.int 0, .null, .int 0, .int 0, .null, .ref q1, .int 0, .int 0, .int 0, .int 32, .int 0, .int 0, .int 0, .int ((-1)), .int 0]))) := hI
  have h_q1 := mu_k (e := .inr (0, [.int 0, .null, .int 0, .int 0, .null, .ref q1, .int 0, .int 0, .int 0, .int 32, .int 0, .int 0, .int 0, .int ((-1)), .int 0])) (kd_ne h_q1 h_I rfl) h_q1
  have h_V := mu_k (e := .inr (0, [.int 0, .null, .int 0, .int 0, .null, .ref q1, .int 0, .int 0, .int 0, .int 32, .int 0, .int 0, .int 0, .int ((-1)), .int 0])) (kd_ne h_V h_I rfl) h_V
  have h_E := mu_k (e := .inr (0, [.int 0, .null, .int 0, .int 0, .null, .ref q1, .int 0, .int 0, .int 0, .int 32, .int 0, .int 0, .int 0, .int ((-1)), .int 0])) (kd_ne h_E h_I rfl) h_E
  rw [mu_uu] at hP hI h_q1 h_V h_E
  have h_I : (mu (mu (mu (mu (mu Mw q1 (.inr (1, [.null, .null, .int 0]))) va0 (.inl (G.2.1 0, 8, .inl (fun _ => 0)))) er0 (.inl (G.2.1 0, 8, .inl (fun _ => 0)))) q1 (.inr (1, [.ref va0, .ref er0, .int 0]))) a0 (.inr (0, [.int 0, .null, .int 0, .int 0, .null, .ref q1, .int 0, .int 0, .int 0, .int 32, .int 0, .int 0, .int 0, .int ((-1)), .int 0]))) a0 = some (.inr (0, [.int 0, .null, .int 0, .int 0, .null, .ref q1, .int 0, .int 0, .int 0, .int 32, .int 0, .int 0, .int 0, .int ((-1)), .int 0])) := mu_s
  refine lv_aload_n hx hb dX0_init_26 rfl (lv_at hl 0 rfl) ?_
  refine lv_iconst (v := (-1)) hx hb dX0_init_27 (by decide) ?_
  refine m_put (ci := 0) (v := .int ((-1))) (ty := .int) (C := RX0) (T := TX0) (N := 15) hx hb hts i_X0 tyX0 tyX0_ok nmX0 hown hK hP hI hS h_I rfl 14 (by decide) (hts (.fieldLink RX0 26 "Meniscus$Instrument" "certificateEnd" "I") (by decide +kernel)) (fun _ h9 => h9) rfl (by decide +kernel) rfl rfl (Nat.le_of_ble_eq_true rfl) dX0_init_28 (fun H locs hP hI hS => ?_)
  have hP : mP G.1 (mu (mu (mu (mu (mu (mu Mw q1 (.inr (1, [.null, .null, .int 0]))) va0 (.inl (G.2.1 0, 8, .inl (fun _ => 0)))) er0 (.inl (G.2.1 0, 8, .inl (fun _ => 0)))) q1 (.inr (1, [.ref va0, .ref er0, .int 0]))) a0 (.inr (0, [.int 0, .null, .int 0, .int 0, .null, .ref q1, .int 0, .int 0, .int 0, .int 32, .int 0, .int 0, .int 0, .int ((-1)), .int 0]))) a0 (.inr (0, [.int 0, .null, .int 0, .int 0, .null, .ref q1, .int 0, .int 0, .int 0, .int 32, .int 0, .int 0, .int 0, .int ((-1)), .int ((-1))]))) H := hP
  have hI : mI A (mu (mu (mu (mu (mu (mu Mw q1 (.inr (1, [.null, .null, .int 0]))) va0 (.inl (G.2.1 0, 8, .inl (fun _ => 0)))) er0 (.inl (G.2.1 0, 8, .inl (fun _ => 0)))) q1 (.inr (1, [.ref va0, .ref er0, .int 0]))) a0 (.inr (0, [.int 0, .null, .int 0, .int 0, .null, .ref q1, .int 0, .int 0, .int 0, .int 32, .int 0, .int 0, .int 0, .int ((-1)), .int 0]))) a0 (.inr (0, [.int 0, .null, .int 0, .int 0, .null, .ref q1, .int 0, .int 0, .int 0, .int 32, .int 0, .int 0, .int 0, .int ((-1)), .int ((-1))]))) := hI
  have h_q1 := mu_k (e := .inr (0, [.int 0, .null, .int 0, .int 0, .null, .ref q1, .int 0, .int 0, .int 0, .int 32, .int 0, .int 0, .int 0, .int ((-1)), .int ((-1))])) (kd_ne h_q1 h_I rfl) h_q1
  have h_V := mu_k (e := .inr (0, [.int 0, .null, .int 0, .int 0, .null, .ref q1, .int 0, .int 0, .int 0, .int 32, .int 0, .int 0, .int 0, .int ((-1)), .int ((-1))])) (kd_ne h_V h_I rfl) h_V
  have h_E := mu_k (e := .inr (0, [.int 0, .null, .int 0, .int 0, .null, .ref q1, .int 0, .int 0, .int 0, .int 32, .int 0, .int 0, .int 0, .int ((-1)), .int ((-1))])) (kd_ne h_E h_I rfl) h_E
  rw [mu_uu] at hP hI h_q1 h_V h_E
  have h_I : (mu (mu (mu (mu (mu Mw q1 (.inr (1, [.null, .null, .int 0]))) va0 (.inl (G.2.1 0, 8, .inl (fun _ => 0)))) er0 (.inl (G.2.1 0, 8, .inl (fun _ => 0)))) q1 (.inr (1, [.ref va0, .ref er0, .int 0]))) a0 (.inr (0, [.int 0, .null, .int 0, .int 0, .null, .ref q1, .int 0, .int 0, .int 0, .int 32, .int 0, .int 0, .int 0, .int ((-1)), .int ((-1))]))) a0 = some (.inr (0, [.int 0, .null, .int 0, .int 0, .null, .ref q1, .int 0, .int 0, .int 0, .int 32, .int 0, .int 0, .int 0, .int ((-1)), .int ((-1))])) := mu_s
  refine lv_aload_n hx hb dX0_init_31 rfl (lv_at hl 0 rfl) ?_
  refine lv_iload_n hx hb dX0_init_32 rfl (lv_at hl 1 rfl) ?_
  refine m_putF (ci := 0) (v := .int p0) (ty := .int) (C := RX0) (T := TX0) (N := 15) hx hb hts i_X0 tyX0 tyX0_ok nmX0 hown hK hP hI hS h_I rfl 0 (by decide) (hts (.fieldLink RX0 29 "Meniscus$Instrument" "tubeNumber" "I") (by decide +kernel)) (fun _ h9 => h9) rfl hin rfl (by decide +kernel) rfl rfl (Nat.le_of_ble_eq_true rfl) dX0_init_33 (fun H locs hP hI hS => ?_)
  have hP : mP G.1 (mu (mu (mu (mu (mu (mu Mw q1 (.inr (1, [.null, .null, .int 0]))) va0 (.inl (G.2.1 0, 8, .inl (fun _ => 0)))) er0 (.inl (G.2.1 0, 8, .inl (fun _ => 0)))) q1 (.inr (1, [.ref va0, .ref er0, .int 0]))) a0 (.inr (0, [.int 0, .null, .int 0, .int 0, .null, .ref q1, .int 0, .int 0, .int 0, .int 32, .int 0, .int 0, .int 0, .int ((-1)), .int ((-1))]))) a0 (.inr (0, [.int p0, .null, .int 0, .int 0, .null, .ref q1, .int 0, .int 0, .int 0, .int 32, .int 0, .int 0, .int 0, .int ((-1)), .int ((-1))]))) H := hP
  have hI : mI A (mu (mu (mu (mu (mu (mu Mw q1 (.inr (1, [.null, .null, .int 0]))) va0 (.inl (G.2.1 0, 8, .inl (fun _ => 0)))) er0 (.inl (G.2.1 0, 8, .inl (fun _ => 0)))) q1 (.inr (1, [.ref va0, .ref er0, .int 0]))) a0 (.inr (0, [.int 0, .null, .int 0, .int 0, .null, .ref q1, .int 0, .int 0, .int 0, .int 32, .int 0, .int 0, .int 0, .int ((-1)), .int ((-1))]))) a0 (.inr (0, [.int p0, .null, .int 0, .int 0, .null, .ref q1, .int 0, .int 0, .int 0, .int 32, .int 0, .int 0, .int 0, .int ((-1)), .int ((-1))]))) := hI
  have h_q1 := mu_k (e := .inr (0, [.int p0, .null, .int 0, .int 0, .null, .ref q1, .int 0, .int 0, .int 0, .int 32, .int 0, .int 0, .int 0, .int ((-1)), .int ((-1))])) (kd_ne h_q1 h_I rfl) h_q1
  have h_V := mu_k (e := .inr (0, [.int p0, .null, .int 0, .int 0, .null, .ref q1, .int 0, .int 0, .int 0, .int 32, .int 0, .int 0, .int 0, .int ((-1)), .int ((-1))])) (kd_ne h_V h_I rfl) h_V
  have h_E := mu_k (e := .inr (0, [.int p0, .null, .int 0, .int 0, .null, .ref q1, .int 0, .int 0, .int 0, .int 32, .int 0, .int 0, .int 0, .int ((-1)), .int ((-1))])) (kd_ne h_E h_I rfl) h_E
  rw [mu_uu] at hP hI h_q1 h_V h_E
  have h_I : (mu (mu (mu (mu (mu Mw q1 (.inr (1, [.null, .null, .int 0]))) va0 (.inl (G.2.1 0, 8, .inl (fun _ => 0)))) er0 (.inl (G.2.1 0, 8, .inl (fun _ => 0)))) q1 (.inr (1, [.ref va0, .ref er0, .int 0]))) a0 (.inr (0, [.int p0, .null, .int 0, .int 0, .null, .ref q1, .int 0, .int 0, .int 0, .int 32, .int 0, .int 0, .int 0, .int ((-1)), .int ((-1))]))) a0 = some (.inr (0, [.int p0, .null, .int 0, .int 0, .null, .ref q1, .int 0, .int 0, .int 0, .int 32, .int 0, .int 0, .int 0, .int ((-1)), .int ((-1))])) := mu_s
  refine lv_aload_n hx hb dX0_init_36 rfl (lv_at hl 0 rfl) ?_
  refine lv_aload_n hx hb dX0_init_37 rfl (lv_at hl 2 rfl) ?_
  refine m_putF (ci := 0) (v := .ref t0) (ty := .object "Meniscus$Tube") (C := RX0) (T := TX0) (N := 15) hx hb hts i_X0 tyX0 tyX0_ok nmX0 hown hK hP hI hS h_I rfl 1 (by decide) (hts (.fieldLink RX0 32 "Meniscus$Instrument" "tube" "LMeniscus$Tube;") (by decide +kernel)) (fun _ h9 => h9) rfl hin rfl (by decide +kernel) rfl rfl (Nat.le_of_ble_eq_true rfl) dX0_init_38 (fun H locs hP hI hS => ?_)
  have hP : mP G.1 (mu (mu (mu (mu (mu (mu Mw q1 (.inr (1, [.null, .null, .int 0]))) va0 (.inl (G.2.1 0, 8, .inl (fun _ => 0)))) er0 (.inl (G.2.1 0, 8, .inl (fun _ => 0)))) q1 (.inr (1, [.ref va0, .ref er0, .int 0]))) a0 (.inr (0, [.int p0, .null, .int 0, .int 0, .null, .ref q1, .int 0, .int 0, .int 0, .int 32, .int 0, .int 0, .int 0, .int ((-1)), .int ((-1))]))) a0 (.inr (0, [.int p0, .ref t0, .int 0, .int 0, .null, .ref q1, .int 0, .int 0, .int 0, .int 32, .int 0, .int 0, .int 0, .int ((-1)), .int ((-1))]))) H := hP
  have hI : mI A (mu (mu (mu (mu (mu (mu Mw q1 (.inr (1, [.null, .null, .int 0]))) va0 (.inl (G.2.1 0, 8, .inl (fun _ => 0)))) er0 (.inl (G.2.1 0, 8, .inl (fun _ => 0)))) q1 (.inr (1, [.ref va0, .ref er0, .int 0]))) a0 (.inr (0, [.int p0, .null, .int 0, .int 0, .null, .ref q1, .int 0, .int 0, .int 0, .int 32, .int 0, .int 0, .int 0, .int ((-1)), .int ((-1))]))) a0 (.inr (0, [.int p0, .ref t0, .int 0, .int 0, .null, .ref q1, .int 0, .int 0, .int 0, .int 32, .int 0, .int 0, .int 0, .int ((-1)), .int ((-1))]))) := hI
  have h_q1 := mu_k (e := .inr (0, [.int p0, .ref t0, .int 0, .int 0, .null, .ref q1, .int 0, .int 0, .int 0, .int 32, .int 0, .int 0, .int 0, .int ((-1)), .int ((-1))])) (kd_ne h_q1 h_I rfl) h_q1
  have h_V := mu_k (e := .inr (0, [.int p0, .ref t0, .int 0, .int 0, .null, .ref q1, .int 0, .int 0, .int 0, .int 32, .int 0, .int 0, .int 0, .int ((-1)), .int ((-1))])) (kd_ne h_V h_I rfl) h_V
  have h_E := mu_k (e := .inr (0, [.int p0, .ref t0, .int 0, .int 0, .null, .ref q1, .int 0, .int 0, .int 0, .int 32, .int 0, .int 0, .int 0, .int ((-1)), .int ((-1))])) (kd_ne h_E h_I rfl) h_E
  rw [mu_uu] at hP hI h_q1 h_V h_E
  have h_I : (mu (mu (mu (mu (mu Mw q1 (.inr (1, [.null, .null, .int 0]))) va0 (.inl (G.2.1 0, 8, .inl (fun _ => 0)))) er0 (.inl (G.2.1 0, 8, .inl (fun _ => 0)))) q1 (.inr (1, [.ref va0, .ref er0, .int 0]))) a0 (.inr (0, [.int p0, .ref t0, .int 0, .int 0, .null, .ref q1, .int 0, .int 0, .int 0, .int 32, .int 0, .int 0, .int 0, .int ((-1)), .int ((-1))]))) a0 = some (.inr (0, [.int p0, .ref t0, .int 0, .int 0, .null, .ref q1, .int 0, .int 0, .int 0, .int 32, .int 0, .int 0, .int 0, .int ((-1)), .int ((-1))])) := mu_s
  refine lv_aload_n hx hb dX0_init_41 rfl (lv_at hl 0 rfl) ?_
  refine lv_iload_n hx hb dX0_init_42 rfl (lv_at hl 3 rfl) ?_
  refine m_putF (ci := 0) (v := .int p1) (ty := .int) (C := RX0) (T := TX0) (N := 15) hx hb hts i_X0 tyX0 tyX0_ok nmX0 hown hK hP hI hS h_I rfl 2 (by decide) (hts (.fieldLink RX0 36 "Meniscus$Instrument" "bulb" "I") (by decide +kernel)) (fun _ h9 => h9) rfl hin rfl (by decide +kernel) rfl rfl (Nat.le_of_ble_eq_true rfl) dX0_init_43 (fun H locs hP hI hS => ?_)
  have hP : mP G.1 (mu (mu (mu (mu (mu (mu Mw q1 (.inr (1, [.null, .null, .int 0]))) va0 (.inl (G.2.1 0, 8, .inl (fun _ => 0)))) er0 (.inl (G.2.1 0, 8, .inl (fun _ => 0)))) q1 (.inr (1, [.ref va0, .ref er0, .int 0]))) a0 (.inr (0, [.int p0, .ref t0, .int 0, .int 0, .null, .ref q1, .int 0, .int 0, .int 0, .int 32, .int 0, .int 0, .int 0, .int ((-1)), .int ((-1))]))) a0 (.inr (0, [.int p0, .ref t0, .int p1, .int 0, .null, .ref q1, .int 0, .int 0, .int 0, .int 32, .int 0, .int 0, .int 0, .int ((-1)), .int ((-1))]))) H := hP
  have hI : mI A (mu (mu (mu (mu (mu (mu Mw q1 (.inr (1, [.null, .null, .int 0]))) va0 (.inl (G.2.1 0, 8, .inl (fun _ => 0)))) er0 (.inl (G.2.1 0, 8, .inl (fun _ => 0)))) q1 (.inr (1, [.ref va0, .ref er0, .int 0]))) a0 (.inr (0, [.int p0, .ref t0, .int 0, .int 0, .null, .ref q1, .int 0, .int 0, .int 0, .int 32, .int 0, .int 0, .int 0, .int ((-1)), .int ((-1))]))) a0 (.inr (0, [.int p0, .ref t0, .int p1, .int 0, .null, .ref q1, .int 0, .int 0, .int 0, .int 32, .int 0, .int 0, .int 0, .int ((-1)), .int ((-1))]))) := hI
  have h_q1 := mu_k (e := .inr (0, [.int p0, .ref t0, .int p1, .int 0, .null, .ref q1, .int 0, .int 0, .int 0, .int 32, .int 0, .int 0, .int 0, .int ((-1)), .int ((-1))])) (kd_ne h_q1 h_I rfl) h_q1
  have h_V := mu_k (e := .inr (0, [.int p0, .ref t0, .int p1, .int 0, .null, .ref q1, .int 0, .int 0, .int 0, .int 32, .int 0, .int 0, .int 0, .int ((-1)), .int ((-1))])) (kd_ne h_V h_I rfl) h_V
  have h_E := mu_k (e := .inr (0, [.int p0, .ref t0, .int p1, .int 0, .null, .ref q1, .int 0, .int 0, .int 0, .int 32, .int 0, .int 0, .int 0, .int ((-1)), .int ((-1))])) (kd_ne h_E h_I rfl) h_E
  rw [mu_uu] at hP hI h_q1 h_V h_E
  have h_I : (mu (mu (mu (mu (mu Mw q1 (.inr (1, [.null, .null, .int 0]))) va0 (.inl (G.2.1 0, 8, .inl (fun _ => 0)))) er0 (.inl (G.2.1 0, 8, .inl (fun _ => 0)))) q1 (.inr (1, [.ref va0, .ref er0, .int 0]))) a0 (.inr (0, [.int p0, .ref t0, .int p1, .int 0, .null, .ref q1, .int 0, .int 0, .int 0, .int 32, .int 0, .int 0, .int 0, .int ((-1)), .int ((-1))]))) a0 = some (.inr (0, [.int p0, .ref t0, .int p1, .int 0, .null, .ref q1, .int 0, .int 0, .int 0, .int 32, .int 0, .int 0, .int 0, .int ((-1)), .int ((-1))])) := mu_s
  refine lv_aload_n hx hb dX0_init_46 rfl (lv_at hl 0 rfl) ?_
  refine lv_iload hx hb dX0_init_47 (lv_at hl 4 rfl) ?_
  refine m_putF (ci := 0) (v := .int p2) (ty := .char) (C := RX0) (T := TX0) (N := 15) hx hb hts i_X0 tyX0 tyX0_ok nmX0 hown hK hP hI hS h_I rfl 3 (by decide) (hts (.fieldLink RX0 39 "Meniscus$Instrument" "glass" "C") (by decide +kernel)) (fun _ h9 => h9) rfl hin rfl (by decide +kernel) hch.1 hch.2 (Nat.le_of_ble_eq_true rfl) dX0_init_49 (fun H locs hP hI hS => ?_)
  have hP : mP G.1 (mu (mu (mu (mu (mu (mu Mw q1 (.inr (1, [.null, .null, .int 0]))) va0 (.inl (G.2.1 0, 8, .inl (fun _ => 0)))) er0 (.inl (G.2.1 0, 8, .inl (fun _ => 0)))) q1 (.inr (1, [.ref va0, .ref er0, .int 0]))) a0 (.inr (0, [.int p0, .ref t0, .int p1, .int 0, .null, .ref q1, .int 0, .int 0, .int 0, .int 32, .int 0, .int 0, .int 0, .int ((-1)), .int ((-1))]))) a0 (.inr (0, [.int p0, .ref t0, .int p1, .int p2, .null, .ref q1, .int 0, .int 0, .int 0, .int 32, .int 0, .int 0, .int 0, .int ((-1)), .int ((-1))]))) H := hP
  have hI : mI A (mu (mu (mu (mu (mu (mu Mw q1 (.inr (1, [.null, .null, .int 0]))) va0 (.inl (G.2.1 0, 8, .inl (fun _ => 0)))) er0 (.inl (G.2.1 0, 8, .inl (fun _ => 0)))) q1 (.inr (1, [.ref va0, .ref er0, .int 0]))) a0 (.inr (0, [.int p0, .ref t0, .int p1, .int 0, .null, .ref q1, .int 0, .int 0, .int 0, .int 32, .int 0, .int 0, .int 0, .int ((-1)), .int ((-1))]))) a0 (.inr (0, [.int p0, .ref t0, .int p1, .int p2, .null, .ref q1, .int 0, .int 0, .int 0, .int 32, .int 0, .int 0, .int 0, .int ((-1)), .int ((-1))]))) := hI
  have h_q1 := mu_k (e := .inr (0, [.int p0, .ref t0, .int p1, .int p2, .null, .ref q1, .int 0, .int 0, .int 0, .int 32, .int 0, .int 0, .int 0, .int ((-1)), .int ((-1))])) (kd_ne h_q1 h_I rfl) h_q1
  have h_V := mu_k (e := .inr (0, [.int p0, .ref t0, .int p1, .int p2, .null, .ref q1, .int 0, .int 0, .int 0, .int 32, .int 0, .int 0, .int 0, .int ((-1)), .int ((-1))])) (kd_ne h_V h_I rfl) h_V
  have h_E := mu_k (e := .inr (0, [.int p0, .ref t0, .int p1, .int p2, .null, .ref q1, .int 0, .int 0, .int 0, .int 32, .int 0, .int 0, .int 0, .int ((-1)), .int ((-1))])) (kd_ne h_E h_I rfl) h_E
  rw [mu_uu] at hP hI h_q1 h_V h_E
  have h_I : (mu (mu (mu (mu (mu Mw q1 (.inr (1, [.null, .null, .int 0]))) va0 (.inl (G.2.1 0, 8, .inl (fun _ => 0)))) er0 (.inl (G.2.1 0, 8, .inl (fun _ => 0)))) q1 (.inr (1, [.ref va0, .ref er0, .int 0]))) a0 (.inr (0, [.int p0, .ref t0, .int p1, .int p2, .null, .ref q1, .int 0, .int 0, .int 0, .int 32, .int 0, .int 0, .int 0, .int ((-1)), .int ((-1))]))) a0 = some (.inr (0, [.int p0, .ref t0, .int p1, .int p2, .null, .ref q1, .int 0, .int 0, .int 0, .int 32, .int 0, .int 0, .int 0, .int ((-1)), .int ((-1))])) := mu_s
  refine lv_aload_n hx hb dX0_init_52 rfl (lv_at hl 0 rfl) ?_
  refine m_new (ci := 2) (fs := [.null, .int 0, .int 0, .int 0, .int 0]) (C := RX2) (T := TX2) (N := 5) hx hb hts i_X2 tyX2 tyX2_ok hown (hts (.classLink RX0 42 RX2) (by decide +kernel)) (hts (.instantiable RX2 5) (by decide +kernel)) (hts (.initialized RX2) (by decide +kernel)) hK hP hI hS hA rfl (fun j hj => by rcases (show j = 0 ∨ j = 1 ∨ j = 2 ∨ j = 3 ∨ j = 4 by omega) with rfl | rfl | rfl | rfl | rfl <;> rfl) (Nat.le_of_ble_eq_true rfl) (Nat.le_of_ble_eq_true rfl) dX0_init_53 (fun q3 H hn_q3 hP hI hS => ?_)
  have h_I := mu_x (e := .inr (2, [.null, .int 0, .int 0, .int 0, .int 0])) h_I hn_q3
  have h_q1 := mu_x (e := .inr (2, [.null, .int 0, .int 0, .int 0, .int 0])) h_q1 hn_q3
  have h_V := mu_x (e := .inr (2, [.null, .int 0, .int 0, .int 0, .int 0])) h_V hn_q3
  have h_E := mu_x (e := .inr (2, [.null, .int 0, .int 0, .int 0, .int 0])) h_E hn_q3
  have h_q3 : (mu (mu (mu (mu (mu (mu Mw q1 (.inr (1, [.null, .null, .int 0]))) va0 (.inl (G.2.1 0, 8, .inl (fun _ => 0)))) er0 (.inl (G.2.1 0, 8, .inl (fun _ => 0)))) q1 (.inr (1, [.ref va0, .ref er0, .int 0]))) a0 (.inr (0, [.int p0, .ref t0, .int p1, .int p2, .null, .ref q1, .int 0, .int 0, .int 0, .int 32, .int 0, .int 0, .int 0, .int ((-1)), .int ((-1))]))) q3 (.inr (2, [.null, .int 0, .int 0, .int 0, .int 0]))) q3 = some (.inr (2, [.null, .int 0, .int 0, .int 0, .int 0])) := mu_s
  refine lv_dup hx hb dX0_init_56 rfl ?_
  refine lv_aload_n hx hb dX0_init_57 rfl (lv_at hl 2 rfl) ?_
  refine m_callv (va_runI (As := [.ref t0]) (rest := [.ref q3, .ref a0]) ⟨hx, hb, hml, hown, hts⟩ (c_X2_init l G A (mu (mu (mu (mu (mu (mu Mw q1 (.inr (1, [.null, .null, .int 0]))) va0 (.inl (G.2.1 0, 8, .inl (fun _ => 0)))) er0 (.inl (G.2.1 0, 8, .inl (fun _ => 0)))) q1 (.inr (1, [.ref va0, .ref er0, .int 0]))) a0 (.inr (0, [.int p0, .ref t0, .int p1, .int p2, .null, .ref q1, .int 0, .int 0, .int 0, .int 32, .int 0, .int 0, .int 0, .int ((-1)), .int ((-1))]))) q3 (.inr (2, [.null, .int 0, .int 0, .int 0, .int 0])))  t0 h_q3) (cwI 1 hts gX0_init_X2_init rfl rfl rfl (hts (.initialized RX2) (by decide +kernel)) (hts (.methodLink RX0 44 yX2_init) (by decide +kernel)) (hts (.instanceMethod yX2_init) (by decide +kernel)) rfl (by decide +kernel) ⟨Nat.le_of_ble_eq_true rfl, Nat.le_of_ble_eq_true rfl⟩) (mPreS hG hS hP hI hA) rfl rfl hl.1 rfl (lv_room (Nat.le_of_ble_eq_true rfl)) dX0_init_58 ⟨Nat.le_of_ble_eq_true rfl, Nat.le_of_ble_eq_true rfl⟩) hS (fun Mw1 H locs hp_r4 hP hI hS => ?_)
  subst Mw1
  have h_I := mu_k (e := .inr (2, [.ref t0, .int ((-1)), .int ((-1)), .int 0, .int 32])) (kd_ne h_I h_q3 rfl) h_I
  have h_q1 := mu_k (e := .inr (2, [.ref t0, .int ((-1)), .int ((-1)), .int 0, .int 32])) (kd_ne h_q1 h_q3 rfl) h_q1
  have h_V := mu_k (e := .inr (2, [.ref t0, .int ((-1)), .int ((-1)), .int 0, .int 32])) (kd_ne h_V h_q3 rfl) h_V
  have h_E := mu_k (e := .inr (2, [.ref t0, .int ((-1)), .int ((-1)), .int 0, .int 32])) (kd_ne h_E h_q3 rfl) h_E
  have h_q3 : (mu (mu (mu (mu (mu (mu (mu Mw q1 (.inr (1, [.null, .null, .int 0]))) va0 (.inl (G.2.1 0, 8, .inl (fun _ => 0)))) er0 (.inl (G.2.1 0, 8, .inl (fun _ => 0)))) q1 (.inr (1, [.ref va0, .ref er0, .int 0]))) a0 (.inr (0, [.int p0, .ref t0, .int p1, .int p2, .null, .ref q1, .int 0, .int 0, .int 0, .int 32, .int 0, .int 0, .int 0, .int ((-1)), .int ((-1))]))) q3 (.inr (2, [.null, .int 0, .int 0, .int 0, .int 0]))) q3 (.inr (2, [.ref t0, .int ((-1)), .int ((-1)), .int 0, .int 32]))) q3 = some (.inr (2, [.ref t0, .int ((-1)), .int ((-1)), .int 0, .int 32])) := mu_s
  refine m_putF (ci := 0) (v := .ref q3) (ty := .object "Meniscus$Scale") (C := RX0) (T := TX0) (N := 15) hx hb hts i_X0 tyX0 tyX0_ok nmX0 hown hK hP hI hS h_I rfl 4 (by decide) (hts (.fieldLink RX0 47 "Meniscus$Instrument" "scale" "LMeniscus$Scale;") (by decide +kernel)) (fun _ h9 => h9) rfl hin rfl (by decide +kernel) rfl rfl (Nat.le_of_ble_eq_true rfl) dX0_init_61 (fun H locs hP hI hS => ?_)
  have hP : mP G.1 (mu (mu (mu (mu (mu (mu (mu (mu Mw q1 (.inr (1, [.null, .null, .int 0]))) va0 (.inl (G.2.1 0, 8, .inl (fun _ => 0)))) er0 (.inl (G.2.1 0, 8, .inl (fun _ => 0)))) q1 (.inr (1, [.ref va0, .ref er0, .int 0]))) a0 (.inr (0, [.int p0, .ref t0, .int p1, .int p2, .null, .ref q1, .int 0, .int 0, .int 0, .int 32, .int 0, .int 0, .int 0, .int ((-1)), .int ((-1))]))) q3 (.inr (2, [.null, .int 0, .int 0, .int 0, .int 0]))) q3 (.inr (2, [.ref t0, .int ((-1)), .int ((-1)), .int 0, .int 32]))) a0 (.inr (0, [.int p0, .ref t0, .int p1, .int p2, .ref q3, .ref q1, .int 0, .int 0, .int 0, .int 32, .int 0, .int 0, .int 0, .int ((-1)), .int ((-1))]))) H := hP
  have hI : mI A (mu (mu (mu (mu (mu (mu (mu (mu Mw q1 (.inr (1, [.null, .null, .int 0]))) va0 (.inl (G.2.1 0, 8, .inl (fun _ => 0)))) er0 (.inl (G.2.1 0, 8, .inl (fun _ => 0)))) q1 (.inr (1, [.ref va0, .ref er0, .int 0]))) a0 (.inr (0, [.int p0, .ref t0, .int p1, .int p2, .null, .ref q1, .int 0, .int 0, .int 0, .int 32, .int 0, .int 0, .int 0, .int ((-1)), .int ((-1))]))) q3 (.inr (2, [.null, .int 0, .int 0, .int 0, .int 0]))) q3 (.inr (2, [.ref t0, .int ((-1)), .int ((-1)), .int 0, .int 32]))) a0 (.inr (0, [.int p0, .ref t0, .int p1, .int p2, .ref q3, .ref q1, .int 0, .int 0, .int 0, .int 32, .int 0, .int 0, .int 0, .int ((-1)), .int ((-1))]))) := hI
  have h_q1 := mu_k (e := .inr (0, [.int p0, .ref t0, .int p1, .int p2, .ref q3, .ref q1, .int 0, .int 0, .int 0, .int 32, .int 0, .int 0, .int 0, .int ((-1)), .int ((-1))])) (kd_ne h_q1 h_I rfl) h_q1
  have h_V := mu_k (e := .inr (0, [.int p0, .ref t0, .int p1, .int p2, .ref q3, .ref q1, .int 0, .int 0, .int 0, .int 32, .int 0, .int 0, .int 0, .int ((-1)), .int ((-1))])) (kd_ne h_V h_I rfl) h_V
  have h_E := mu_k (e := .inr (0, [.int p0, .ref t0, .int p1, .int p2, .ref q3, .ref q1, .int 0, .int 0, .int 0, .int 32, .int 0, .int 0, .int 0, .int ((-1)), .int ((-1))])) (kd_ne h_E h_I rfl) h_E
  have h_q3 := mu_k (e := .inr (0, [.int p0, .ref t0, .int p1, .int p2, .ref q3, .ref q1, .int 0, .int 0, .int 0, .int 32, .int 0, .int 0, .int 0, .int ((-1)), .int ((-1))])) (kd_ne h_q3 h_I rfl) h_q3
  have h_I : (mu (mu (mu (mu (mu (mu (mu (mu Mw q1 (.inr (1, [.null, .null, .int 0]))) va0 (.inl (G.2.1 0, 8, .inl (fun _ => 0)))) er0 (.inl (G.2.1 0, 8, .inl (fun _ => 0)))) q1 (.inr (1, [.ref va0, .ref er0, .int 0]))) a0 (.inr (0, [.int p0, .ref t0, .int p1, .int p2, .null, .ref q1, .int 0, .int 0, .int 0, .int 32, .int 0, .int 0, .int 0, .int ((-1)), .int ((-1))]))) q3 (.inr (2, [.null, .int 0, .int 0, .int 0, .int 0]))) q3 (.inr (2, [.ref t0, .int ((-1)), .int ((-1)), .int 0, .int 32]))) a0 (.inr (0, [.int p0, .ref t0, .int p1, .int p2, .ref q3, .ref q1, .int 0, .int 0, .int 0, .int 32, .int 0, .int 0, .int 0, .int ((-1)), .int ((-1))]))) a0 = some (.inr (0, [.int p0, .ref t0, .int p1, .int p2, .ref q3, .ref q1, .int 0, .int 0, .int 0, .int 32, .int 0, .int 0, .int 0, .int ((-1)), .int ((-1))])) := mu_s
  refine W.widen (k := 4) (n := 24) (Nat.le_of_ble_eq_true rfl) (Nat.le_of_ble_eq_true rfl) ?_
  exact W.vret hx hb hr (fun t99 ht99 hW99 => ⟨⟨(mu (mu (mu (mu (mu (mu (mu (mu Mw q1 (.inr (1, [.null, .null, .int 0]))) va0 (.inl (G.2.1 0, 8, .inl (fun _ => 0)))) er0 (.inl (G.2.1 0, 8, .inl (fun _ => 0)))) q1 (.inr (1, [.ref va0, .ref er0, .int 0]))) a0 (.inr (0, [.int p0, .ref t0, .int p1, .int p2, .null, .ref q1, .int 0, .int 0, .int 0, .int 32, .int 0, .int 0, .int 0, .int ((-1)), .int ((-1))]))) q3 (.inr (2, [.null, .int 0, .int 0, .int 0, .int 0]))) q3 (.inr (2, [.ref t0, .int ((-1)), .int ((-1)), .int 0, .int 32]))) a0 (.inr (0, [.int p0, .ref t0, .int p1, .int p2, .ref q3, .ref q1, .int 0, .int 0, .int 0, .int 32, .int 0, .int 0, .int 0, .int ((-1)), .int ((-1))]))), rfl, ⟨q1, va0, er0, q3, hn_q1, (mu_none hnv).1, (mu_none hne).1, (mu_none (mu_none (mu_none (mu_none (mu_none hn_q3).1).1).1).1).1, kd_ne h_q1 h_V rfl, kd_ne h_q1 h_E rfl, kd_ne h_q1 h_q3 rfl, hve, kd_ne h_V h_q3 rfl, kd_ne h_E h_q3 rfl, mw_ext5 h_I h_q1 h_V h_E h_q3 (fun z h1 h2 h3 h4 h5 => (mu_n h1).trans ((mu_n h5).trans ((mu_n h5).trans ((mu_n h1).trans ((mu_n h2).trans ((mu_n h4).trans ((mu_n h3).trans ((mu_n h2).trans (rfl)))))))))⟩, by rw [ht99]; exact hP, hI⟩, hS.F ht99⟩) hS.2.2 dX0_init_64

