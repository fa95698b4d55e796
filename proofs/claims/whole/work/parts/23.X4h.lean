set_option maxHeartbeats 4000000 in
set_option maxRecDepth 100000 in
theorem c_X4_demandRange (l : Launch) (G : mg) (A : Nat → Prop) (Mw : mw) (hl9 : l.stackTraces = false) (p0 p1 p2 : Int32) : vx_Met l yX4_demandRange wsX4_demandRange ({ frames := 6, cells := 1, slots := 6, locals := 82 }) (va_Pc [.int p0, .int p1, .int p2] (mB G A Mw)) (va_Qv (fun Mw1 => (rng p0 p1 p2) ∧ Mw1 = Mw) (mE G A) A) (xX (fun E => E = "java/lang/IllegalArgumentException" ∧ ¬ (rng p0 p1 p2)) G A Mw) 1 6 A := by
  refine vx_ofW (cc := cX4_demandRange) (maxL := 3) (ret := none) (by decide) rfl ?_
  intro p e s m args below meth c s₁ B hml hxt hv
  obtain ⟨rfl, hG, hP, hI, hA⟩ := hv
  have hx := B.exec
  have hb := B.bytes
  have hr := B.returns
  have hts := atoms_spec (ws := wsX4_demandRange) B.pre
  have hown : s.vm.findClass RX4 = some m.cls := findClass_of_methodNamed B.named
  have hlocks := B.notSynchronized
  have hK := hG.K
  have hS : va_S A s.heap s.heap [] := va_S.rf
  have hl := lv_entry ([.int p0, .int p1, .int p2]) (n := 3) (Nat.le_of_ble_eq_true rfl)
  rw [lg_entry_eq]
  generalize (lg_sl ([.int p0, .int p1, .int p2]) ++ List.replicate (3 - (lg_sl ([.int p0, .int p1, .int p2])).length) Slot.unset).toArray = ls at hl ⊢
  have hl : lv_has ls 3 [(0, .int p0), (1, .int p1), (2, .int p2)] := hl
  have hP : mP G.1 Mw s.heap := hP
  refine lv_iload_n hx hb dX4_demandRange_0 rfl (lv_at hl 0 rfl) ?_
  refine lv_iload_n hx hb dX4_demandRange_1 rfl (lv_at hl 1 rfl) ?_
  refine lv_icmp_lt (tgt := 10) hx hb dX4_demandRange_2 (by decide) (fun c1 => ?_) (fun c1 => ?_)
  · skip
    obtain ⟨sa9, hsa9⟩ := hG.2.1.2.2.2.2.2.1 (302, "a number is out of range") (by decide +kernel)
    exact vx_throwSW (text := "a number is out of range") (names := ["java/lang/RuntimeException", "java/lang/Exception"]) hx hb hl9 hown (by decide +kernel) (by decide +kernel) (hts (.classLink RX4 77 "java/lang/IllegalArgumentException") (by decide +kernel)) (hts (.initialized "java/lang/IllegalArgumentException") (by decide +kernel)) hsa9 (m_hat hG (fun w h => hts w (List.mem_cons_of_mem _ (List.mem_append_right _ h))) (by decide +kernel) (by decide +kernel)) (by decide +kernel) hG.2.2.1 hG.2.2.2.1 hS (hl.1.trans hml.symm) dX4_demandRange_10 dX4_demandRange_13 dX4_demandRange_14 dX4_demandRange_17 dX4_demandRange_20 (fun x hx9 => absurd hx9 (fun q => hxt x q)) (Nat.le_of_ble_eq_true rfl) (Nat.le_of_ble_eq_true rfl) (Nat.le_of_ble_eq_true rfl) (Nat.le_of_ble_eq_true rfl) hlocks (fun t9 _ h92 h93 => m_thrown (px := fun E => E = "java/lang/IllegalArgumentException" ∧ ¬ (rng p0 p1 p2)) (E := "java/lang/IllegalArgumentException") hP hI hS (⟨rfl, by first | exact fun q => q.1 (by assumption) | exact fun q => absurd q.2 (by assumption)⟩) t9 h92 h93) hS.2.2 (Nat.le_of_ble_eq_true rfl) (Nat.le_of_ble_eq_true rfl)
  · skip
    refine lv_iload_n hx hb dX4_demandRange_5 rfl (lv_at hl 0 rfl) ?_
    refine lv_iload_n hx hb dX4_demandRange_6 rfl (lv_at hl 2 rfl) ?_
    refine lv_icmp_le (tgt := 21) hx hb dX4_demandRange_7 (by decide) (fun c2 => ?_) (fun c2 => ?_)
    · skip
      refine W.widen (k := 1) (n := 6) (Nat.le_of_ble_eq_true rfl) (Nat.le_of_ble_eq_true rfl) ?_
      refine vx_ret ?_
      exact W.vret hx hb hr (fun t99 ht99 hW99 => ⟨⟨Mw, rfl, ⟨⟨by assumption, by assumption⟩, rfl⟩, by rw [ht99]; exact hP, hI⟩, hS.F ht99⟩) hS.2.2 dX4_demandRange_21
    · skip
      obtain ⟨sa9, hsa9⟩ := hG.2.1.2.2.2.2.2.1 (302, "a number is out of range") (by decide +kernel)
      exact vx_throwSW (text := "a number is out of range") (names := ["java/lang/RuntimeException", "java/lang/Exception"]) hx hb hl9 hown (by decide +kernel) (by decide +kernel) (hts (.classLink RX4 77 "java/lang/IllegalArgumentException") (by decide +kernel)) (hts (.initialized "java/lang/IllegalArgumentException") (by decide +kernel)) hsa9 (m_hat hG (fun w h => hts w (List.mem_cons_of_mem _ (List.mem_append_right _ h))) (by decide +kernel) (by decide +kernel)) (by decide +kernel) hG.2.2.1 hG.2.2.2.1 hS (hl.1.trans hml.symm) dX4_demandRange_10 dX4_demandRange_13 dX4_demandRange_14 dX4_demandRange_17 dX4_demandRange_20 (fun x hx9 => absurd hx9 (fun q => hxt x q)) (Nat.le_of_ble_eq_true rfl) (Nat.le_of_ble_eq_true rfl) (Nat.le_of_ble_eq_true rfl) (Nat.le_of_ble_eq_true rfl) hlocks (fun t9 _ h92 h93 => m_thrown (px := fun E => E = "java/lang/IllegalArgumentException" ∧ ¬ (rng p0 p1 p2)) (E := "java/lang/IllegalArgumentException") hP hI hS (⟨rfl, by first | exact fun q => q.1 (by assumption) | exact fun q => absurd q.2 (by assumption)⟩) t9 h92 h93) hS.2.2 (Nat.le_of_ble_eq_true rfl) (Nat.le_of_ble_eq_true rfl)

set_option maxHeartbeats 4000000 in
set_option maxRecDepth 100000 in
theorem c_X4_demandPlace (l : Launch) (G : mg) (A : Nat → Prop) (Mw : mw) (hl9 : l.stackTraces = false) (p0 : Int32) : vx_Met l yX4_demandPlace wsX4_demandPlace ({ frames := 7, cells := 1, slots := 6, locals := 104 }) (va_Pc [.int p0] (mB G A Mw)) (va_Qv (fun Mw1 => (rng p0 (0) 200) ∧ Mw1 = Mw) (mE G A) A) (xX (fun E => E = "java/lang/IllegalArgumentException" ∧ ¬ (rng p0 (0) 200)) G A Mw) 1 6 A := by
  refine vx_ofW (cc := cX4_demandPlace) (maxL := 1) (ret := none) (by decide) rfl ?_
  intro p e s m args below meth c s₁ B hml hxt hv
  obtain ⟨rfl, hG, hP, hI, hA⟩ := hv
  have hx := B.exec
  have hb := B.bytes
  have hr := B.returns
  have hts := atoms_spec (ws := wsX4_demandPlace) B.pre
  have hown : s.vm.findClass RX4 = some m.cls := findClass_of_methodNamed B.named
  have hlocks := B.notSynchronized
  have hK := hG.K
  have hS : va_S A s.heap s.heap [] := va_S.rf
  have hl := lv_entry ([.int p0]) (n := 1) (Nat.le_of_ble_eq_true rfl)
  rw [lg_entry_eq]
  generalize (lg_sl ([.int p0]) ++ List.replicate (1 - (lg_sl ([.int p0])).length) Slot.unset).toArray = ls at hl ⊢
  have hl : lv_has ls 1 [(0, .int p0)] := hl
  have hP : mP G.1 Mw s.heap := hP
  refine lv_iload_n hx hb dX4_demandPlace_0 rfl (lv_at hl 0 rfl) ?_
  refine lv_iconst (v := 0) hx hb dX4_demandPlace_1 (by decide) ?_
  refine lv_sipush (v := (200)) hx hb dX4_demandPlace_2 (by decide) ?_
  refine mx_callv (vx_runS (As := [.int p0, .int 0, .int 200]) (rest := []) ⟨hx, hb, hml, hown, hts⟩ (c_X4_demandRange l G A Mw hl9  p0 0 200) (va_cwS 3 hts gX4_demandPlace_X4_demandRange rfl rfl rfl (by decide +kernel) ⟨Nat.le_of_ble_eq_true rfl, Nat.le_of_ble_eq_true rfl⟩) (mPreS hG hS hP hI hA) rfl rfl hl.1 rfl (lv_room (Nat.le_of_ble_eq_true rfl)) dX4_demandPlace_5 ⟨Nat.le_of_ble_eq_true rfl, Nat.le_of_ble_eq_true rfl⟩) hS (fun E9 ce9 q9 H locs hpx9 hP hI hS hc9 hv9 hcl9 => m_out (px := fun E => E = "java/lang/IllegalArgumentException" ∧ ¬ (rng p0 (0) 200)) (fun x hx9 => absurd hx9 (fun q => hxt x q)) hlocks hP hI hS hc9 hv9 hcl9 (hpx9) (Nat.le_of_ble_eq_true rfl) (Nat.le_of_ble_eq_true rfl)) (fun Mw1 H locs hp_r1 hP hI hS => ?_)
  obtain ⟨hp_r1, hm9⟩ := hp_r1
  subst Mw1
  refine W.widen (k := 1) (n := 6) (Nat.le_of_ble_eq_true rfl) (Nat.le_of_ble_eq_true rfl) ?_
  refine vx_ret ?_
  exact W.vret hx hb hr (fun t99 ht99 hW99 => ⟨⟨Mw, rfl, ⟨hp_r1, rfl⟩, by rw [ht99]; exact hP, hI⟩, hS.F ht99⟩) hS.2.2 dX4_demandPlace_8

set_option maxHeartbeats 4000000 in
set_option maxRecDepth 100000 in
theorem c_X4_demandTemperature (l : Launch) (G : mg) (A : Nat → Prop) (Mw : mw) (hl9 : l.stackTraces = false) (p0 : Int32) : vx_Met l yX4_demandTemperature wsX4_demandTemperature ({ frames := 7, cells := 1, slots := 6, locals := 104 }) (va_Pc [.int p0] (mB G A Mw)) (va_Qv (fun Mw1 => (rng p0 (-300) 3000) ∧ Mw1 = Mw) (mE G A) A) (xX (fun E => E = "java/lang/IllegalArgumentException" ∧ ¬ (rng p0 (-300) 3000)) G A Mw) 1 6 A := by
  refine vx_ofW (cc := cX4_demandTemperature) (maxL := 1) (ret := none) (by decide) rfl ?_
  intro p e s m args below meth c s₁ B hml hxt hv
  obtain ⟨rfl, hG, hP, hI, hA⟩ := hv
  have hx := B.exec
  have hb := B.bytes
  have hr := B.returns
  have hts := atoms_spec (ws := wsX4_demandTemperature) B.pre
  have hown : s.vm.findClass RX4 = some m.cls := findClass_of_methodNamed B.named
  have hlocks := B.notSynchronized
  have hK := hG.K
  have hS : va_S A s.heap s.heap [] := va_S.rf
  have hl := lv_entry ([.int p0]) (n := 1) (Nat.le_of_ble_eq_true rfl)
  rw [lg_entry_eq]
  generalize (lg_sl ([.int p0]) ++ List.replicate (1 - (lg_sl ([.int p0])).length) Slot.unset).toArray = ls at hl ⊢
  have hl : lv_has ls 1 [(0, .int p0)] := hl
  have hP : mP G.1 Mw s.heap := hP
  refine lv_iload_n hx hb dX4_demandTemperature_0 rfl (lv_at hl 0 rfl) ?_
  refine lv_sipush (v := (-300)) hx hb dX4_demandTemperature_1 (by decide) ?_
  refine lv_sipush (v := (3000)) hx hb dX4_demandTemperature_4 (by decide) ?_
  refine mx_callv (vx_runS (As := [.int p0, .int ((-300)), .int 3000]) (rest := []) ⟨hx, hb, hml, hown, hts⟩ (c_X4_demandRange l G A Mw hl9  p0 (-300) 3000) (va_cwS 3 hts gX4_demandTemperature_X4_demandRange rfl rfl rfl (by decide +kernel) ⟨Nat.le_of_ble_eq_true rfl, Nat.le_of_ble_eq_true rfl⟩) (mPreS hG hS hP hI hA) rfl rfl hl.1 rfl (lv_room (Nat.le_of_ble_eq_true rfl)) dX4_demandTemperature_7 ⟨Nat.le_of_ble_eq_true rfl, Nat.le_of_ble_eq_true rfl⟩) hS (fun E9 ce9 q9 H locs hpx9 hP hI hS hc9 hv9 hcl9 => m_out (px := fun E => E = "java/lang/IllegalArgumentException" ∧ ¬ (rng p0 (-300) 3000)) (fun x hx9 => absurd hx9 (fun q => hxt x q)) hlocks hP hI hS hc9 hv9 hcl9 (hpx9) (Nat.le_of_ble_eq_true rfl) (Nat.le_of_ble_eq_true rfl)) (fun Mw1 H locs hp_r1 hP hI hS => ?_)
  obtain ⟨hp_r1, hm9⟩ := hp_r1
  subst Mw1
  refine W.widen (k := 1) (n := 6) (Nat.le_of_ble_eq_true rfl) (Nat.le_of_ble_eq_true rfl) ?_
  refine vx_ret ?_
  exact W.vret hx hb hr (fun t99 ht99 hW99 => ⟨⟨Mw, rfl, ⟨hp_r1, rfl⟩, by rw [ht99]; exact hP, hI⟩, hS.F ht99⟩) hS.2.2 dX4_demandTemperature_10

set_option maxHeartbeats 4000000 in
set_option maxRecDepth 100000 in
theorem c_X4_demandPressure (l : Launch) (G : mg) (A : Nat → Prop) (Mw : mw) (hl9 : l.stackTraces = false) (p0 : Int32) : vx_Met l yX4_demandPressure wsX4_demandPressure ({ frames := 7, cells := 1, slots := 6, locals := 104 }) (va_Pc [.int p0] (mB G A Mw)) (va_Qv (fun Mw1 => (rng p0 (700) 800) ∧ Mw1 = Mw) (mE G A) A) (xX (fun E => E = "java/lang/IllegalArgumentException" ∧ ¬ (rng p0 (700) 800)) G A Mw) 1 6 A := by
  refine vx_ofW (cc := cX4_demandPressure) (maxL := 1) (ret := none) (by decide) rfl ?_
  intro p e s m args below meth c s₁ B hml hxt hv
  obtain ⟨rfl, hG, hP, hI, hA⟩ := hv
  have hx := B.exec
  have hb := B.bytes
  have hr := B.returns
  have hts := atoms_spec (ws := wsX4_demandPressure) B.pre
  have hown : s.vm.findClass RX4 = some m.cls := findClass_of_methodNamed B.named
  have hlocks := B.notSynchronized
  have hK := hG.K
  have hS : va_S A s.heap s.heap [] := va_S.rf
  have hl := lv_entry ([.int p0]) (n := 1) (Nat.le_of_ble_eq_true rfl)
  rw [lg_entry_eq]
  generalize (lg_sl ([.int p0]) ++ List.replicate (1 - (lg_sl ([.int p0])).length) Slot.unset).toArray = ls at hl ⊢
  have hl : lv_has ls 1 [(0, .int p0)] := hl
  have hP : mP G.1 Mw s.heap := hP
  refine lv_iload_n hx hb dX4_demandPressure_0 rfl (lv_at hl 0 rfl) ?_
  refine lv_sipush (v := (700)) hx hb dX4_demandPressure_1 (by decide) ?_
  refine lv_sipush (v := (800)) hx hb dX4_demandPressure_4 (by decide) ?_
  refine mx_callv (vx_runS (As := [.int p0, .int 700, .int 800]) (rest := []) ⟨hx, hb, hml, hown, hts⟩ (c_X4_demandRange l G A Mw hl9  p0 700 800) (va_cwS 3 hts gX4_demandPressure_X4_demandRange rfl rfl rfl (by decide +kernel) ⟨Nat.le_of_ble_eq_true rfl, Nat.le_of_ble_eq_true rfl⟩) (mPreS hG hS hP hI hA) rfl rfl hl.1 rfl (lv_room (Nat.le_of_ble_eq_true rfl)) dX4_demandPressure_7 ⟨Nat.le_of_ble_eq_true rfl, Nat.le_of_ble_eq_true rfl⟩) hS (fun E9 ce9 q9 H locs hpx9 hP hI hS hc9 hv9 hcl9 => m_out (px := fun E => E = "java/lang/IllegalArgumentException" ∧ ¬ (rng p0 (700) 800)) (fun x hx9 => absurd hx9 (fun q => hxt x q)) hlocks hP hI hS hc9 hv9 hcl9 (hpx9) (Nat.le_of_ble_eq_true rfl) (Nat.le_of_ble_eq_true rfl)) (fun Mw1 H locs hp_r1 hP hI hS => ?_)
  obtain ⟨hp_r1, hm9⟩ := hp_r1
  subst Mw1
  refine W.widen (k := 1) (n := 6) (Nat.le_of_ble_eq_true rfl) (Nat.le_of_ble_eq_true rfl) ?_
  refine vx_ret ?_
  exact W.vret hx hb hr (fun t99 ht99 hW99 => ⟨⟨Mw, rfl, ⟨hp_r1, rfl⟩, by rw [ht99]; exact hP, hI⟩, hS.F ht99⟩) hS.2.2 dX4_demandPressure_10

set_option maxHeartbeats 4000000 in
set_option maxRecDepth 100000 in
theorem c_X4_demandEither (l : Launch) (G : mg) (A : Nat → Prop) (Mw : mw) (hl9 : l.stackTraces = false) (p0 p1 p2 : Int32) : vx_Met l yX4_demandEither wsX4_demandEither ({ frames := 6, cells := 1, slots := 6, locals := 82 }) (va_Pc [.int p0, .int p1, .int p2] (mB G A Mw)) (va_Qv (fun Mw1 => (eith p0 p1 p2) ∧ Mw1 = Mw) (mE G A) A) (xX (fun E => E = "java/lang/IllegalArgumentException" ∧ ¬ (eith p0 p1 p2)) G A Mw) 1 6 A := by
  refine vx_ofW (cc := cX4_demandEither) (maxL := 3) (ret := none) (by decide) rfl ?_
  intro p e s m args below meth c s₁ B hml hxt hv
  obtain ⟨rfl, hG, hP, hI, hA⟩ := hv
  have hx := B.exec
  have hb := B.bytes
  have hr := B.returns
  have hts := atoms_spec (ws := wsX4_demandEither) B.pre
  have hown : s.vm.findClass RX4 = some m.cls := findClass_of_methodNamed B.named
  have hlocks := B.notSynchronized
  have hK := hG.K
  have hS : va_S A s.heap s.heap [] := va_S.rf
  have hl := lv_entry ([.int p0, .int p1, .int p2]) (n := 3) (Nat.le_of_ble_eq_true rfl)
  rw [lg_entry_eq]
  generalize (lg_sl ([.int p0, .int p1, .int p2]) ++ List.replicate (3 - (lg_sl ([.int p0, .int p1, .int p2])).length) Slot.unset).toArray = ls at hl ⊢
  have hl : lv_has ls 3 [(0, .int p0), (1, .int p1), (2, .int p2)] := hl
  have hP : mP G.1 Mw s.heap := hP
  refine lv_iload_n hx hb dX4_demandEither_0 rfl (lv_at hl 0 rfl) ?_
  refine lv_iload_n hx hb dX4_demandEither_1 rfl (lv_at hl 1 rfl) ?_
  refine lv_icmp_eq (tgt := 21) hx hb dX4_demandEither_2 (by decide) (fun c1 => ?_) (fun c1 => ?_)
  · skip
    refine W.widen (k := 1) (n := 6) (Nat.le_of_ble_eq_true rfl) (Nat.le_of_ble_eq_true rfl) ?_
    refine vx_ret ?_
    exact W.vret hx hb hr (fun t99 ht99 hW99 => ⟨⟨Mw, rfl, ⟨by first | exact Or.inl (by assumption) | exact Or.inr (by assumption), rfl⟩, by rw [ht99]; exact hP, hI⟩, hS.F ht99⟩) hS.2.2 dX4_demandEither_21
  · skip
    refine lv_iload_n hx hb dX4_demandEither_5 rfl (lv_at hl 0 rfl) ?_
    refine lv_iload_n hx hb dX4_demandEither_6 rfl (lv_at hl 2 rfl) ?_
    refine lv_icmp_eq (tgt := 21) hx hb dX4_demandEither_7 (by decide) (fun c2 => ?_) (fun c2 => ?_)
    · skip
      refine W.widen (k := 1) (n := 6) (Nat.le_of_ble_eq_true rfl) (Nat.le_of_ble_eq_true rfl) ?_
      refine vx_ret ?_
      exact W.vret hx hb hr (fun t99 ht99 hW99 => ⟨⟨Mw, rfl, ⟨by first | exact Or.inl (by assumption) | exact Or.inr (by assumption), rfl⟩, by rw [ht99]; exact hP, hI⟩, hS.F ht99⟩) hS.2.2 dX4_demandEither_21
    · skip
      obtain ⟨sa9, hsa9⟩ := hG.2.1.2.2.2.2.2.1 (304, "there is no such kind") (by decide +kernel)
      exact vx_throwSW (text := "there is no such kind") (names := ["java/lang/RuntimeException", "java/lang/Exception"]) hx hb hl9 hown (by decide +kernel) (by decide +kernel) (hts (.classLink RX4 77 "java/lang/IllegalArgumentException") (by decide +kernel)) (hts (.initialized "java/lang/IllegalArgumentException") (by decide +kernel)) hsa9 (m_hat hG (fun w h => hts w (List.mem_cons_of_mem _ (List.mem_append_right _ h))) (by decide +kernel) (by decide +kernel)) (by decide +kernel) hG.2.2.1 hG.2.2.2.1 hS (hl.1.trans hml.symm) dX4_demandEither_10 dX4_demandEither_13 dX4_demandEither_14 dX4_demandEither_17 dX4_demandEither_20 (fun x hx9 => absurd hx9 (fun q => hxt x q)) (Nat.le_of_ble_eq_true rfl) (Nat.le_of_ble_eq_true rfl) (Nat.le_of_ble_eq_true rfl) (Nat.le_of_ble_eq_true rfl) hlocks (fun t9 _ h92 h93 => m_thrown (px := fun E => E = "java/lang/IllegalArgumentException" ∧ ¬ (eith p0 p1 p2)) (E := "java/lang/IllegalArgumentException") hP hI hS (⟨rfl, fun q => q.elim (by assumption) (by assumption)⟩) t9 h92 h93) hS.2.2 (Nat.le_of_ble_eq_true rfl) (Nat.le_of_ble_eq_true rfl)

set_option maxHeartbeats 4000000 in
set_option maxRecDepth 100000 in
theorem c_X4_demandUnused (l : Launch) (G : mg) (A : Nat → Prop) (Mw : mw) (hl9 : l.stackTraces = false) {t0 b0 : Nat} {us0 : Int32} (h_T : Mw t0 = some (.inr (6, [.ref b0, .int us0]))) : vx_Met l yX4_demandUnused wsX4_demandUnused ({ frames := 6, cells := 1, slots := 6, locals := 82 }) (va_Pc [.ref t0] (mB G A Mw)) (va_Qv (fun Mw1 => (us0 = 0) ∧ Mw1 = Mw) (mE G A) A) (xX (fun E => E = "java/lang/UnsupportedOperationException" ∧ ¬ (us0 = 0)) G A Mw) 1 6 A := by
  refine vx_ofW (cc := cX4_demandUnused) (maxL := 1) (ret := none) (by decide) rfl ?_
  intro p e s m args below meth c s₁ B hml hxt hv
  obtain ⟨rfl, hG, hP, hI, hA⟩ := hv
  have hx := B.exec
  have hb := B.bytes
  have hr := B.returns
  have hts := atoms_spec (ws := wsX4_demandUnused) B.pre
  have hown : s.vm.findClass RX4 = some m.cls := findClass_of_methodNamed B.named
  have hlocks := B.notSynchronized
  have hK := hG.K
  have i_X3 : ∀ w ∈ wsX30, w ∈ wsX4_demandUnused := by decide +kernel
  have hS : va_S A s.heap s.heap [] := va_S.rf
  have hl := lv_entry ([.ref t0]) (n := 1) (Nat.le_of_ble_eq_true rfl)
  rw [lg_entry_eq]
  generalize (lg_sl ([.ref t0]) ++ List.replicate (1 - (lg_sl ([.ref t0])).length) Slot.unset).toArray = ls at hl ⊢
  have hl : lv_has ls 1 [(0, .ref t0)] := hl
  have hP : mP G.1 Mw s.heap := hP
  refine lv_aload_n hx hb dX4_demandUnused_0 rfl (lv_at hl 0 rfl) ?_
  refine m_getN (ci := 6) (v := .int us0) (C := RX3) (T := TX3) (N := 2) hx hb hts i_X3 hown hK (hP _ _ h_T) rfl 1 (by decide) (va_Nw.use rfl (hG.2.1.2.1 ("Meniscus", 99, "Meniscus$Tube", "used", "Z", "Meniscus") (by decide +kernel))) (fun _ h9 => h9) rfl dX4_demandUnused_1 ?_
  refine lv_if_eq (tgt := 18) hx hb dX4_demandUnused_4 (by decide) (fun c1 => ?_) (fun c1 => ?_)
  · skip
    refine W.widen (k := 1) (n := 6) (Nat.le_of_ble_eq_true rfl) (Nat.le_of_ble_eq_true rfl) ?_
    refine vx_ret ?_
    exact W.vret hx hb hr (fun t99 ht99 hW99 => ⟨⟨Mw, rfl, ⟨by assumption, rfl⟩, by rw [ht99]; exact hP, hI⟩, hS.F ht99⟩) hS.2.2 dX4_demandUnused_18
  · skip
    obtain ⟨sa9, hsa9⟩ := hG.2.1.2.2.2.2.2.1 (306, "the tube is used") (by decide +kernel)
    exact vx_throwSW (text := "the tube is used") (names := ["java/lang/RuntimeException", "java/lang/Exception"]) hx hb hl9 hown (by decide +kernel) (by decide +kernel) (hts (.classLink RX4 122 "java/lang/UnsupportedOperationException") (by decide +kernel)) (hts (.initialized "java/lang/UnsupportedOperationException") (by decide +kernel)) hsa9 (m_hat hG (fun w h => hts w (List.mem_cons_of_mem _ (List.mem_append_right _ h))) (by decide +kernel) (by decide +kernel)) (by decide +kernel) hG.2.2.1 hG.2.2.2.1 hS (hl.1.trans hml.symm) dX4_demandUnused_7 dX4_demandUnused_10 dX4_demandUnused_11 dX4_demandUnused_14 dX4_demandUnused_17 (fun x hx9 => absurd hx9 (fun q => hxt x q)) (Nat.le_of_ble_eq_true rfl) (Nat.le_of_ble_eq_true rfl) (Nat.le_of_ble_eq_true rfl) (Nat.le_of_ble_eq_true rfl) hlocks (fun t9 _ h92 h93 => m_thrown (px := fun E => E = "java/lang/UnsupportedOperationException" ∧ ¬ (us0 = 0)) (E := "java/lang/UnsupportedOperationException") hP hI hS (⟨rfl, by first | assumption | exact fun q => q (by assumption)⟩) t9 h92 h93) hS.2.2 (Nat.le_of_ble_eq_true rfl) (Nat.le_of_ble_eq_true rfl)

set_option maxHeartbeats 4000000 in
set_option maxRecDepth 100000 in
theorem c_X4_demandFilled (l : Launch) (G : mg) (A : Nat → Prop) (Mw : mw) (hl9 : l.stackTraces = false) {a0 t0 sc0 rd0 : Nat} {tn0 bu0 gl0 cr0 fi0 sm0 li0 in0 ga0 ke0 gr0 ce0 : Int32} (h_I : Mw a0 = some (.inr (3, [.int tn0, .ref t0, .int bu0, .int gl0, .ref sc0, .ref rd0, .int cr0, .int fi0, .int sm0, .int li0, .int in0, .int ga0, .int ke0, .int gr0, .int ce0]))) : vx_Met l yX4_demandFilled wsX4_demandFilled ({ frames := 6, cells := 1, slots := 6, locals := 82 }) (va_Pc [.ref a0] (mB G A Mw)) (va_Qv (fun Mw1 => (¬ fi0 = 0) ∧ Mw1 = Mw) (mE G A) A) (xX (fun E => E = "java/lang/UnsupportedOperationException" ∧ ¬ (¬ fi0 = 0)) G A Mw) 1 6 A := by
  refine vx_ofW (cc := cX4_demandFilled) (maxL := 1) (ret := none) (by decide) rfl ?_
  intro p e s m args below meth c s₁ B hml hxt hv
  obtain ⟨rfl, hG, hP, hI, hA⟩ := hv
  have hx := B.exec
  have hb := B.bytes
  have hr := B.returns
  have hts := atoms_spec (ws := wsX4_demandFilled) B.pre
  have hown : s.vm.findClass RX4 = some m.cls := findClass_of_methodNamed B.named
  have hlocks := B.notSynchronized
  have hK := hG.K
  have i_X0 : ∀ w ∈ wsX00, w ∈ wsX4_demandFilled := by decide +kernel
  have hS : va_S A s.heap s.heap [] := va_S.rf
  have hl := lv_entry ([.ref a0]) (n := 1) (Nat.le_of_ble_eq_true rfl)
  rw [lg_entry_eq]
  generalize (lg_sl ([.ref a0]) ++ List.replicate (1 - (lg_sl ([.ref a0])).length) Slot.unset).toArray = ls at hl ⊢
  have hl : lv_has ls 1 [(0, .ref a0)] := hl
  have hP : mP G.1 Mw s.heap := hP
  refine lv_aload_n hx hb dX4_demandFilled_0 rfl (lv_at hl 0 rfl) ?_
  refine m_getN (ci := 3) (v := .int fi0) (C := RX0) (T := TX0) (N := 15) hx hb hts i_X0 hown hK (hP _ _ h_I) rfl 7 (by decide) (va_Nw.use rfl (hG.2.1.2.1 ("Meniscus", 116, "Meniscus$Instrument", "filled", "Z", "Meniscus") (by decide +kernel))) (fun _ h9 => h9) rfl dX4_demandFilled_1 ?_
  refine lv_if_ne (tgt := 18) hx hb dX4_demandFilled_4 (by decide) (fun c1 => ?_) (fun c1 => ?_)
  · skip
    refine W.widen (k := 1) (n := 6) (Nat.le_of_ble_eq_true rfl) (Nat.le_of_ble_eq_true rfl) ?_
    refine vx_ret ?_
    exact W.vret hx hb hr (fun t99 ht99 hW99 => ⟨⟨Mw, rfl, ⟨by assumption, rfl⟩, by rw [ht99]; exact hP, hI⟩, hS.F ht99⟩) hS.2.2 dX4_demandFilled_18
  · skip
    obtain ⟨sa9, hsa9⟩ := hG.2.1.2.2.2.2.2.1 (308, "it is not filled") (by decide +kernel)
    exact vx_throwSW (text := "it is not filled") (names := ["java/lang/RuntimeException", "java/lang/Exception"]) hx hb hl9 hown (by decide +kernel) (by decide +kernel) (hts (.classLink RX4 122 "java/lang/UnsupportedOperationException") (by decide +kernel)) (hts (.initialized "java/lang/UnsupportedOperationException") (by decide +kernel)) hsa9 (m_hat hG (fun w h => hts w (List.mem_cons_of_mem _ (List.mem_append_right _ h))) (by decide +kernel) (by decide +kernel)) (by decide +kernel) hG.2.2.1 hG.2.2.2.1 hS (hl.1.trans hml.symm) dX4_demandFilled_7 dX4_demandFilled_10 dX4_demandFilled_11 dX4_demandFilled_14 dX4_demandFilled_17 (fun x hx9 => absurd hx9 (fun q => hxt x q)) (Nat.le_of_ble_eq_true rfl) (Nat.le_of_ble_eq_true rfl) (Nat.le_of_ble_eq_true rfl) (Nat.le_of_ble_eq_true rfl) hlocks (fun t9 _ h92 h93 => m_thrown (px := fun E => E = "java/lang/UnsupportedOperationException" ∧ ¬ (¬ fi0 = 0)) (E := "java/lang/UnsupportedOperationException") hP hI hS (⟨rfl, by first | assumption | exact fun q => q (by assumption)⟩) t9 h92 h93) hS.2.2 (Nat.le_of_ble_eq_true rfl) (Nat.le_of_ble_eq_true rfl)

set_option maxHeartbeats 4000000 in
set_option maxRecDepth 100000 in
theorem c_X4_demandDivided (l : Launch) (G : mg) (A : Nat → Prop) (Mw : mw) (hl9 : l.stackTraces = false) {a0 t0 sc0 rd0 : Nat} {tn0 bu0 gl0 cr0 fi0 sm0 li0 in0 ga0 ke0 gr0 ce0 : Int32} (h_I : Mw a0 = some (.inr (3, [.int tn0, .ref t0, .int bu0, .int gl0, .ref sc0, .ref rd0, .int cr0, .int fi0, .int sm0, .int li0, .int in0, .int ga0, .int ke0, .int gr0, .int ce0]))) {ice0 stm0 stt0 kin0 : Int32} (h_S : Mw sc0 = some (.inr (5, [.ref t0, .int ice0, .int stm0, .int stt0, .int kin0]))) : vx_Met l yX4_demandDivided wsX4_demandDivided ({ frames := 6, cells := 1, slots := 6, locals := 82 }) (va_Pc [.ref a0] (mB G A Mw)) (va_Qv (fun Mw1 => (¬ kin0 = 32) ∧ Mw1 = Mw) (mE G A) A) (xX (fun E => E = "java/lang/UnsupportedOperationException" ∧ ¬ (¬ kin0 = 32)) G A Mw) 1 6 A := by
  refine vx_ofW (cc := cX4_demandDivided) (maxL := 1) (ret := none) (by decide) rfl ?_
  intro p e s m args below meth c s₁ B hml hxt hv
  obtain ⟨rfl, hG, hP, hI, hA⟩ := hv
  have hx := B.exec
  have hb := B.bytes
  have hr := B.returns
  have hts := atoms_spec (ws := wsX4_demandDivided) B.pre
  have hown : s.vm.findClass RX4 = some m.cls := findClass_of_methodNamed B.named
  have hlocks := B.notSynchronized
  have hK := hG.K
  have i_X0 : ∀ w ∈ wsX00, w ∈ wsX4_demandDivided := by decide +kernel
  have i_X2 : ∀ w ∈ wsX20, w ∈ wsX4_demandDivided := by decide +kernel
  have hS : va_S A s.heap s.heap [] := va_S.rf
  have hl := lv_entry ([.ref a0]) (n := 1) (Nat.le_of_ble_eq_true rfl)
  rw [lg_entry_eq]
  generalize (lg_sl ([.ref a0]) ++ List.replicate (1 - (lg_sl ([.ref a0])).length) Slot.unset).toArray = ls at hl ⊢
  have hl : lv_has ls 1 [(0, .ref a0)] := hl
  have hP : mP G.1 Mw s.heap := hP
  refine lv_aload_n hx hb dX4_demandDivided_0 rfl (lv_at hl 0 rfl) ?_
  refine m_getN (ci := 3) (v := .ref sc0) (C := RX0) (T := TX0) (N := 15) hx hb hts i_X0 hown hK (hP _ _ h_I) rfl 4 (by decide) (va_Nw.use rfl (hG.2.1.2.1 ("Meniscus", 173, "Meniscus$Instrument", "scale", "LMeniscus$Scale;", "Meniscus") (by decide +kernel))) (fun _ h9 => h9) rfl dX4_demandDivided_1 ?_
  refine m_getN (ci := 5) (v := .int kin0) (C := RX2) (T := TX2) (N := 5) hx hb hts i_X2 hown hK (hP _ _ h_S) rfl 4 (by decide) (va_Nw.use rfl (hG.2.1.2.1 ("Meniscus", 197, "Meniscus$Scale", "kind", "C", "Meniscus") (by decide +kernel))) (fun _ h9 => h9) rfl dX4_demandDivided_4 ?_
  refine lv_bipush (v := (32)) hx hb dX4_demandDivided_7 (by decide) ?_
  refine lv_icmp_ne (tgt := 23) hx hb dX4_demandDivided_9 (by decide) (fun c1 => ?_) (fun c1 => ?_)
  · skip
    refine W.widen (k := 1) (n := 6) (Nat.le_of_ble_eq_true rfl) (Nat.le_of_ble_eq_true rfl) ?_
    refine vx_ret ?_
    exact W.vret hx hb hr (fun t99 ht99 hW99 => ⟨⟨Mw, rfl, ⟨by assumption, rfl⟩, by rw [ht99]; exact hP, hI⟩, hS.F ht99⟩) hS.2.2 dX4_demandDivided_23
  · skip
    obtain ⟨sa9, hsa9⟩ := hG.2.1.2.2.2.2.2.1 (310, "it is not divided") (by decide +kernel)
    exact vx_throwSW (text := "it is not divided") (names := ["java/lang/RuntimeException", "java/lang/Exception"]) hx hb hl9 hown (by decide +kernel) (by decide +kernel) (hts (.classLink RX4 122 "java/lang/UnsupportedOperationException") (by decide +kernel)) (hts (.initialized "java/lang/UnsupportedOperationException") (by decide +kernel)) hsa9 (m_hat hG (fun w h => hts w (List.mem_cons_of_mem _ (List.mem_append_right _ h))) (by decide +kernel) (by decide +kernel)) (by decide +kernel) hG.2.2.1 hG.2.2.2.1 hS (hl.1.trans hml.symm) dX4_demandDivided_12 dX4_demandDivided_15 dX4_demandDivided_16 dX4_demandDivided_19 dX4_demandDivided_22 (fun x hx9 => absurd hx9 (fun q => hxt x q)) (Nat.le_of_ble_eq_true rfl) (Nat.le_of_ble_eq_true rfl) (Nat.le_of_ble_eq_true rfl) (Nat.le_of_ble_eq_true rfl) hlocks (fun t9 _ h92 h93 => m_thrown (px := fun E => E = "java/lang/UnsupportedOperationException" ∧ ¬ (¬ kin0 = 32)) (E := "java/lang/UnsupportedOperationException") hP hI hS (⟨rfl, by first | assumption | exact fun q => q (by assumption)⟩) t9 h92 h93) hS.2.2 (Nat.le_of_ble_eq_true rfl) (Nat.le_of_ble_eq_true rfl)

set_option maxHeartbeats 4000000 in
set_option maxRecDepth 100000 in
theorem c_X4_demandReadings (l : Launch) (G : mg) (A : Nat → Prop) (Mw : mw) (hl9 : l.stackTraces = false) {rd0 va0 er0 n9 : Nat} (hn9 : n9 ≤ 8) (h_R : Mw rd0 = some (.inr (4, [.ref va0, .ref er0, .int (nI n9)]))) : vx_Met l yX4_demandReadings wsX4_demandReadings ({ frames := 6, cells := 1, slots := 6, locals := 82 }) (va_Pc [.ref rd0] (mB G A Mw)) (va_Qv (fun Mw1 => (¬ n9 = 0) ∧ Mw1 = Mw) (mE G A) A) (xX (fun E => E = "java/util/NoSuchElementException" ∧ ¬ (¬ n9 = 0)) G A Mw) 1 6 A := by
  refine vx_ofW (cc := cX4_demandReadings) (maxL := 1) (ret := none) (by decide) rfl ?_
  intro p e s m args below meth c s₁ B hml hxt hv
  obtain ⟨rfl, hG, hP, hI, hA⟩ := hv
  have hx := B.exec
  have hb := B.bytes
  have hr := B.returns
  have hts := atoms_spec (ws := wsX4_demandReadings) B.pre
  have hown : s.vm.findClass RX4 = some m.cls := findClass_of_methodNamed B.named
  have hlocks := B.notSynchronized
  have hK := hG.K
  have i_X1 : ∀ w ∈ wsX10, w ∈ wsX4_demandReadings := by decide +kernel
  have hS : va_S A s.heap s.heap [] := va_S.rf
  have hl := lv_entry ([.ref rd0]) (n := 1) (Nat.le_of_ble_eq_true rfl)
  rw [lg_entry_eq]
  generalize (lg_sl ([.ref rd0]) ++ List.replicate (1 - (lg_sl ([.ref rd0])).length) Slot.unset).toArray = ls at hl ⊢
  have hl : lv_has ls 1 [(0, .ref rd0)] := hl
  have hP : mP G.1 Mw s.heap := hP
  refine lv_aload_n hx hb dX4_demandReadings_0 rfl (lv_at hl 0 rfl) ?_
  refine m_getN (ci := 4) (v := .int (nI n9)) (C := RX1) (T := TX1) (N := 3) hx hb hts i_X1 hown hK (hP _ _ h_R) rfl 2 (by decide) (va_Nw.use rfl (hG.2.1.2.1 ("Meniscus", 227, "Meniscus$Readings", "count", "I", "Meniscus") (by decide +kernel))) (fun _ h9 => h9) rfl dX4_demandReadings_1 ?_
  refine lv_if_gt (tgt := 18) hx hb dX4_demandReadings_4 (by decide) (fun c1 => ?_) (fun c1 => ?_)
  · skip
    refine W.widen (k := 1) (n := 6) (Nat.le_of_ble_eq_true rfl) (Nat.le_of_ble_eq_true rfl) ?_
    refine vx_ret ?_
    exact W.vret hx hb hr (fun t99 ht99 hW99 => ⟨⟨Mw, rfl, ⟨fun q => by rw [q] at c1; exact absurd c1 (by decide), rfl⟩, by rw [ht99]; exact hP, hI⟩, hS.F ht99⟩) hS.2.2 dX4_demandReadings_18
  · skip
    obtain ⟨sa9, hsa9⟩ := hG.2.1.2.2.2.2.2.1 (312, "no reading is kept") (by decide +kernel)
    exact vn_throwSW (text := "no reading is kept") hx hb hl9 hown (hts (.classLink RX4 68 "java/util/NoSuchElementException") (by decide +kernel)) (hts (.initialized "java/util/NoSuchElementException") (by decide +kernel)) hsa9 (m_hatN hG (fun w h => hts w (List.mem_cons_of_mem _ (List.mem_append_right _ h))) (by decide +kernel) (by decide +kernel)) (by decide +kernel) hG.2.2.1 hG.2.2.2.1 hS (hl.1.trans hml.symm) dX4_demandReadings_7 dX4_demandReadings_10 dX4_demandReadings_11 dX4_demandReadings_14 dX4_demandReadings_17 (fun x hx9 => absurd hx9 (fun q => hxt x q)) (Nat.le_of_ble_eq_true rfl) (Nat.le_of_ble_eq_true rfl) (Nat.le_of_ble_eq_true rfl) (Nat.le_of_ble_eq_true rfl) hlocks (fun t9 _ h92 h93 => m_thrown (px := fun E => E = "java/util/NoSuchElementException" ∧ ¬ (¬ n9 = 0)) (E := vnN) hP hI hS (⟨rfl, fun q => absurd (nI_lt (a := 0) (b := n9) (by omega) (by omega)) (by assumption)⟩) t9 h92 h93) hS.2.2 (Nat.le_of_ble_eq_true rfl) (Nat.le_of_ble_eq_true rfl)

set_option maxHeartbeats 4000000 in
set_option maxRecDepth 100000 in
theorem c_X4_demandEnoughForClass (l : Launch) (G : mg) (A : Nat → Prop) (Mw : mw) (hl9 : l.stackTraces = false) {rd0 va0 er0 n9 : Nat} (hn9 : n9 ≤ 8) (h_R : Mw rd0 = some (.inr (4, [.ref va0, .ref er0, .int (nI n9)]))) : vx_Met l yX4_demandEnoughForClass wsX4_demandEnoughForClass ({ frames := 6, cells := 1, slots := 6, locals := 82 }) (va_Pc [.ref rd0] (mB G A Mw)) (va_Qv (fun Mw1 => (3 ≤ n9) ∧ Mw1 = Mw) (mE G A) A) (xX (fun E => E = "java/lang/UnsupportedOperationException" ∧ ¬ (3 ≤ n9)) G A Mw) 1 6 A := by
  refine vx_ofW (cc := cX4_demandEnoughForClass) (maxL := 1) (ret := none) (by decide) rfl ?_
  intro p e s m args below meth c s₁ B hml hxt hv
  obtain ⟨rfl, hG, hP, hI, hA⟩ := hv
  have hx := B.exec
  have hb := B.bytes
  have hr := B.returns
  have hts := atoms_spec (ws := wsX4_demandEnoughForClass) B.pre
  have hown : s.vm.findClass RX4 = some m.cls := findClass_of_methodNamed B.named
  have hlocks := B.notSynchronized
  have hK := hG.K
  have i_X1 : ∀ w ∈ wsX10, w ∈ wsX4_demandEnoughForClass := by decide +kernel
  have hS : va_S A s.heap s.heap [] := va_S.rf
  have hl := lv_entry ([.ref rd0]) (n := 1) (Nat.le_of_ble_eq_true rfl)
  rw [lg_entry_eq]
  generalize (lg_sl ([.ref rd0]) ++ List.replicate (1 - (lg_sl ([.ref rd0])).length) Slot.unset).toArray = ls at hl ⊢
  have hl : lv_has ls 1 [(0, .ref rd0)] := hl
  have hP : mP G.1 Mw s.heap := hP
  refine lv_aload_n hx hb dX4_demandEnoughForClass_0 rfl (lv_at hl 0 rfl) ?_
  refine m_getN (ci := 4) (v := .int (nI n9)) (C := RX1) (T := TX1) (N := 3) hx hb hts i_X1 hown hK (hP _ _ h_R) rfl 2 (by decide) (va_Nw.use rfl (hG.2.1.2.1 ("Meniscus", 227, "Meniscus$Readings", "count", "I", "Meniscus") (by decide +kernel))) (fun _ h9 => h9) rfl dX4_demandEnoughForClass_1 ?_
  refine lv_iconst (v := 3) hx hb dX4_demandEnoughForClass_4 (by decide) ?_
  refine lv_icmp_ge (tgt := 19) hx hb dX4_demandEnoughForClass_5 (by decide) (fun c1 => ?_) (fun c1 => ?_)
  · skip
    refine W.widen (k := 1) (n := 6) (Nat.le_of_ble_eq_true rfl) (Nat.le_of_ble_eq_true rfl) ?_
    refine vx_ret ?_
    exact W.vret hx hb hr (fun t99 ht99 hW99 => ⟨⟨Mw, rfl, ⟨(nI_leI (a := 3) (b := n9) (by omega) (by omega)).mp c1, rfl⟩, by rw [ht99]; exact hP, hI⟩, hS.F ht99⟩) hS.2.2 dX4_demandEnoughForClass_19
  · skip
    obtain ⟨sa9, hsa9⟩ := hG.2.1.2.2.2.2.2.1 (314, "too few readings are kept") (by decide +kernel)
    exact vx_throwSW (text := "too few readings are kept") (names := ["java/lang/RuntimeException", "java/lang/Exception"]) hx hb hl9 hown (by decide +kernel) (by decide +kernel) (hts (.classLink RX4 122 "java/lang/UnsupportedOperationException") (by decide +kernel)) (hts (.initialized "java/lang/UnsupportedOperationException") (by decide +kernel)) hsa9 (m_hat hG (fun w h => hts w (List.mem_cons_of_mem _ (List.mem_append_right _ h))) (by decide +kernel) (by decide +kernel)) (by decide +kernel) hG.2.2.1 hG.2.2.2.1 hS (hl.1.trans hml.symm) dX4_demandEnoughForClass_8 dX4_demandEnoughForClass_11 dX4_demandEnoughForClass_12 dX4_demandEnoughForClass_15 dX4_demandEnoughForClass_18 (fun x hx9 => absurd hx9 (fun q => hxt x q)) (Nat.le_of_ble_eq_true rfl) (Nat.le_of_ble_eq_true rfl) (Nat.le_of_ble_eq_true rfl) (Nat.le_of_ble_eq_true rfl) hlocks (fun t9 _ h92 h93 => m_thrown (px := fun E => E = "java/lang/UnsupportedOperationException" ∧ ¬ (3 ≤ n9)) (E := "java/lang/UnsupportedOperationException") hP hI hS (⟨rfl, fun q => absurd (nI_le (a := 3) (b := n9) q (by omega)) (by assumption)⟩) t9 h92 h93) hS.2.2 (Nat.le_of_ble_eq_true rfl) (Nat.le_of_ble_eq_true rfl)

set_option maxHeartbeats 4000000 in
set_option maxRecDepth 100000 in
theorem c_X4_steamAt (l : Launch) (G : mg) (A : Nat → Prop) (Mw : mw) (p0 : Int32) : Met l yX4_steamAt wsX4_steamAt ({ frames := 0, cells := 0, slots := 0, locals := 0 }) (va_Pc [.int p0] (mB G A Mw)) (va_Qi (fun r Mw1 => r = (sta p0) ∧ Mw1 = Mw) (mE G A) A) 0 0 A := by
  refine Met.ofW (cc := cX4_steamAt) (maxL := 1) (ret := (some .int)) (by decide) rfl ?_
  intro p e s m args below meth c s₁ B hml hv
  obtain ⟨rfl, hG, hP, hI, hA⟩ := hv
  have hx := B.exec
  have hb := B.bytes
  have hr := B.returns
  have hts := atoms_spec (ws := wsX4_steamAt) B.pre
  have hown : s.vm.findClass RX4 = some m.cls := findClass_of_methodNamed B.named
  have hlocks := B.notSynchronized
  have hK := hG.K
  have hS : va_S A s.heap s.heap [] := va_S.rf
  have hl := lv_entry ([.int p0]) (n := 1) (Nat.le_of_ble_eq_true rfl)
  rw [lg_entry_eq]
  generalize (lg_sl ([.int p0]) ++ List.replicate (1 - (lg_sl ([.int p0])).length) Slot.unset).toArray = ls at hl ⊢
  have hl : lv_has ls 1 [(0, .int p0)] := hl
  have hP : mP G.1 Mw s.heap := hP
  refine lv_sipush (v := (1000)) hx hb dX4_steamAt_0 (by decide) ?_
  refine lv_bipush (v := (37)) hx hb dX4_steamAt_3 (by decide) ?_
  refine lv_iload_n hx hb dX4_steamAt_5 rfl (lv_at hl 0 rfl) ?_
  refine lv_sipush (v := (760)) hx hb dX4_steamAt_6 (by decide) ?_
  refine lv_isub hx hb dX4_steamAt_9 ?_
  refine lv_imul hx hb dX4_steamAt_10 ?_
  refine lv_bipush (v := (100)) hx hb dX4_steamAt_11 (by decide) ?_
  refine lv_idiv hx hb dX4_steamAt_13 (by decide) ?_
  refine lv_iadd hx hb dX4_steamAt_14 ?_
  refine W.widen (k := 0) (n := 0) (Nat.le_of_ble_eq_true rfl) (Nat.le_of_ble_eq_true rfl) ?_
  exact W.iret (v := 1000 + ((37 * (p0 - 760)) / 100)) hx hb hr (fun t99 ht99 hW99 => ⟨⟨1000 + ((37 * (p0 - 760)) / 100), Mw, rfl, ⟨rfl, rfl⟩, by rw [ht99]; exact hP, hI⟩, hS.F ht99⟩) hS.2.2 dX4_steamAt_15

set_option maxHeartbeats 4000000 in
set_option maxRecDepth 100000 in
theorem c_X4_clingingToStep (l : Launch) (G : mg) (A : Nat → Prop) (Mw : mw) (p0 : Int32) : Met l yX4_clingingToStep wsX4_clingingToStep ({ frames := 0, cells := 0, slots := 0, locals := 0 }) (va_Pc [.int p0] (mB G A Mw)) (va_Qi (fun r Mw1 => r = (cts p0) ∧ Mw1 = Mw) (mE G A) A) 0 0 A := by
  refine Met.ofW (cc := cX4_clingingToStep) (maxL := 1) (ret := (some .int)) (by decide) rfl ?_
  intro p e s m args below meth c s₁ B hml hv
  obtain ⟨rfl, hG, hP, hI, hA⟩ := hv
  have hx := B.exec
  have hb := B.bytes
  have hr := B.returns
  have hts := atoms_spec (ws := wsX4_clingingToStep) B.pre
  have hown : s.vm.findClass RX4 = some m.cls := findClass_of_methodNamed B.named
  have hlocks := B.notSynchronized
  have hK := hG.K
  have hS : va_S A s.heap s.heap [] := va_S.rf
  have hl := lv_entry ([.int p0]) (n := 1) (Nat.le_of_ble_eq_true rfl)
  rw [lg_entry_eq]
  generalize (lg_sl ([.int p0]) ++ List.replicate (1 - (lg_sl ([.int p0])).length) Slot.unset).toArray = ls at hl ⊢
  have hl : lv_has ls 1 [(0, .int p0)] := hl
  have hP : mP G.1 Mw s.heap := hP
  refine lv_iload_n hx hb dX4_clingingToStep_0 rfl (lv_at hl 0 rfl) ?_
  refine lv_bipush (v := (60)) hx hb dX4_clingingToStep_1 (by decide) ?_
  refine lv_icmp_ge (tgt := 19) hx hb dX4_clingingToStep_3 (by decide) (fun c1 => ?_) (fun c1 => ?_)
  · skip
    refine lv_iconst (v := 0) hx hb dX4_clingingToStep_19 (by decide) ?_
    refine W.widen (k := 0) (n := 0) (Nat.le_of_ble_eq_true rfl) (Nat.le_of_ble_eq_true rfl) ?_
    exact W.iret (v := 0) hx hb hr (fun t99 ht99 hW99 => ⟨⟨0, Mw, rfl, ⟨(if_pos c1).symm, rfl⟩, by rw [ht99]; exact hP, hI⟩, hS.F ht99⟩) hS.2.2 dX4_clingingToStep_20
  · skip
    refine lv_bipush (v := (60)) hx hb dX4_clingingToStep_6 (by decide) ?_
    refine lv_iload_n hx hb dX4_clingingToStep_8 rfl (lv_at hl 0 rfl) ?_
    refine lv_isub hx hb dX4_clingingToStep_9 ?_
    refine lv_bipush (v := (9)) hx hb dX4_clingingToStep_10 (by decide) ?_
    refine lv_iadd hx hb dX4_clingingToStep_12 ?_
    refine lv_bipush (v := (10)) hx hb dX4_clingingToStep_13 (by decide) ?_
    refine lv_idiv hx hb dX4_clingingToStep_15 (by decide) ?_
    refine lv_goto (tgt := 20) hx hb dX4_clingingToStep_16 (by decide) ?_
    refine W.widen (k := 0) (n := 0) (Nat.le_of_ble_eq_true rfl) (Nat.le_of_ble_eq_true rfl) ?_
    exact W.iret (v := ((60 - p0) + 9) / 10) hx hb hr (fun t99 ht99 hW99 => ⟨⟨((60 - p0) + 9) / 10, Mw, rfl, ⟨(if_neg c1).symm, rfl⟩, by rw [ht99]; exact hP, hI⟩, hS.F ht99⟩) hS.2.2 dX4_clingingToStep_20

set_option maxHeartbeats 4000000 in
set_option maxRecDepth 100000 in
theorem c_X4_classByError (l : Launch) (G : mg) (A : Nat → Prop) (Mw : mw) (p0 : Int32) : Met l yX4_classByError wsX4_classByError ({ frames := 0, cells := 0, slots := 0, locals := 0 }) (va_Pc [.int p0] (mB G A Mw)) (va_Qi (fun r Mw1 => r = (clsE p0) ∧ Mw1 = Mw) (mE G A) A) 0 0 A := by
  refine Met.ofW (cc := cX4_classByError) (maxL := 1) (ret := (some .char)) (by decide) rfl ?_
  intro p e s m args below meth c s₁ B hml hv
  obtain ⟨rfl, hG, hP, hI, hA⟩ := hv
  have hx := B.exec
  have hb := B.bytes
  have hr := B.returns
  have hts := atoms_spec (ws := wsX4_classByError) B.pre
  have hown : s.vm.findClass RX4 = some m.cls := findClass_of_methodNamed B.named
  have hlocks := B.notSynchronized
  have hK := hG.K
  have hS : va_S A s.heap s.heap [] := va_S.rf
  have hl := lv_entry ([.int p0]) (n := 1) (Nat.le_of_ble_eq_true rfl)
  rw [lg_entry_eq]
  generalize (lg_sl ([.int p0]) ++ List.replicate (1 - (lg_sl ([.int p0])).length) Slot.unset).toArray = ls at hl ⊢
  have hl : lv_has ls 1 [(0, .int p0)] := hl
  have hP : mP G.1 Mw s.heap := hP
  refine lv_iload_n hx hb dX4_classByError_0 rfl (lv_at hl 0 rfl) ?_
  refine lv_iconst (v := 2) hx hb dX4_classByError_1 (by decide) ?_
  refine lv_icmp_gt (tgt := 8) hx hb dX4_classByError_2 (by decide) (fun c1 => ?_) (fun c1 => ?_)
  · skip
    refine lv_iload_n hx hb dX4_classByError_8 rfl (lv_at hl 0 rfl) ?_
    refine lv_iconst (v := 5) hx hb dX4_classByError_9 (by decide) ?_
    refine lv_icmp_gt (tgt := 16) hx hb dX4_classByError_10 (by decide) (fun c2 => ?_) (fun c2 => ?_)
    · skip
      refine lv_iload_n hx hb dX4_classByError_16 rfl (lv_at hl 0 rfl) ?_
      refine lv_bipush (v := (10)) hx hb dX4_classByError_17 (by decide) ?_
      refine lv_icmp_gt (tgt := 27) hx hb dX4_classByError_19 (by decide) (fun c3 => ?_) (fun c3 => ?_)
      · skip
        refine lv_bipush (v := (88)) hx hb dX4_classByError_27 (by decide) ?_
        refine W.widen (k := 0) (n := 0) (Nat.le_of_ble_eq_true rfl) (Nat.le_of_ble_eq_true rfl) ?_
        exact W.zret (v := 88) hx hb hr rfl (fun t99 ht99 hW99 => ⟨⟨88, Mw, rfl, ⟨by unfold clsE; rw [if_pos c1, if_pos c2, if_pos c3], rfl⟩, by rw [ht99]; exact hP, hI⟩, hS.F ht99⟩) hS.2.2 dX4_classByError_29
      · skip
        refine lv_bipush (v := (67)) hx hb dX4_classByError_22 (by decide) ?_
        refine lv_goto (tgt := 29) hx hb dX4_classByError_24 (by decide) ?_
        refine W.widen (k := 0) (n := 0) (Nat.le_of_ble_eq_true rfl) (Nat.le_of_ble_eq_true rfl) ?_
        exact W.zret (v := 67) hx hb hr rfl (fun t99 ht99 hW99 => ⟨⟨67, Mw, rfl, ⟨by unfold clsE; rw [if_pos c1, if_pos c2, if_neg c3], rfl⟩, by rw [ht99]; exact hP, hI⟩, hS.F ht99⟩) hS.2.2 dX4_classByError_29
    · skip
      refine lv_bipush (v := (66)) hx hb dX4_classByError_13 (by decide) ?_
      refine W.widen (k := 0) (n := 0) (Nat.le_of_ble_eq_true rfl) (Nat.le_of_ble_eq_true rfl) ?_
      exact W.zret (v := 66) hx hb hr rfl (fun t99 ht99 hW99 => ⟨⟨66, Mw, rfl, ⟨by unfold clsE; rw [if_pos c1, if_neg c2], rfl⟩, by rw [ht99]; exact hP, hI⟩, hS.F ht99⟩) hS.2.2 dX4_classByError_15
  · skip
    refine lv_bipush (v := (65)) hx hb dX4_classByError_5 (by decide) ?_
    refine W.widen (k := 0) (n := 0) (Nat.le_of_ble_eq_true rfl) (Nat.le_of_ble_eq_true rfl) ?_
    exact W.zret (v := 65) hx hb hr rfl (fun t99 ht99 hW99 => ⟨⟨65, Mw, rfl, ⟨by unfold clsE; rw [if_neg c1], rfl⟩, by rw [ht99]; exact hP, hI⟩, hS.F ht99⟩) hS.2.2 dX4_classByError_7

set_option maxHeartbeats 4000000 in
set_option maxRecDepth 100000 in
theorem c_X4_tubeNumbered (l : Launch) (G : mg) (A : Nat → Prop) (Mw : mw) (hl9 : l.stackTraces = false) (p0 : Int32) {x0 ta0 ia0 : Nat} {tc0 ic0 air0 day0 stk0 spl0 bgt0 : Int32} (h_X : Mw x0 = some (.inr (7, [.ref ta0, .ref ia0, .int tc0, .int ic0, .int air0, .int day0, .int stk0, .int spl0, .int bgt0]))) {n8 : Nat} {tb8 : Nat → Nat} (hn8 : n8 ≤ 8) (h_TA : Mw ta0 = some (.inl (G.2.1 3, 8, .inr (.inr (.inr (.inr (qf n8 tb8))))))) : vx_Met l yX4_tubeNumbered wsX4_tubeNumbered ({ frames := 6, cells := 1, slots := 6, locals := 82 }) (va_Pc [.ref x0, .int p0] (mB G A Mw)) (va_Qq (fun r Mw1 => (tkN n8 p0 ∧ r = some (tb8 (ix p0))) ∧ Mw1 = Mw) (mE G A) A) (xX (fun E => E = "java/lang/IndexOutOfBoundsException" ∧ ¬ (tkN n8 p0)) G A Mw) 1 6 A := by
  refine vx_ofW (cc := cX4_tubeNumbered) (maxL := 2) (ret := (some (.object "Meniscus$Tube"))) (by decide) rfl ?_
  intro p e s m args below meth c s₁ B hml hxt hv
  obtain ⟨rfl, hG, hP, hI, hA⟩ := hv
  have hx := B.exec
  have hb := B.bytes
  have hr := B.returns
  have hts := atoms_spec (ws := wsX4_tubeNumbered) B.pre
  have hown : s.vm.findClass RX4 = some m.cls := findClass_of_methodNamed B.named
  have hlocks := B.notSynchronized
  have hK := hG.K
  have i_X4 : ∀ w ∈ wsX40, w ∈ wsX4_tubeNumbered := by decide +kernel
  have hS : va_S A s.heap s.heap [] := va_S.rf
  have hl := lv_entry ([.ref x0, .int p0]) (n := 2) (Nat.le_of_ble_eq_true rfl)
  rw [lg_entry_eq]
  generalize (lg_sl ([.ref x0, .int p0]) ++ List.replicate (2 - (lg_sl ([.ref x0, .int p0])).length) Slot.unset).toArray = ls at hl ⊢
  have hl : lv_has ls 2 [(0, .ref x0), (1, .int p0)] := hl
  have hP : mP G.1 Mw s.heap := hP
  refine lv_iload_n hx hb dX4_tubeNumbered_0 rfl (lv_at hl 1 rfl) ?_
  refine lv_if_lt (tgt := 22) hx hb dX4_tubeNumbered_1 (by decide) (fun c1 => ?_) (fun c1 => ?_)
  · skip
    obtain ⟨sa9, hsa9⟩ := hG.2.1.2.2.2.2.2.1 (290, "no such tube") (by decide +kernel)
    exact vx_throwSW (text := "no such tube") (names := ["java/lang/RuntimeException", "java/lang/Exception"]) hx hb hl9 hown (by decide +kernel) (by decide +kernel) (hts (.classLink RX4 288 "java/lang/IndexOutOfBoundsException") (by decide +kernel)) (hts (.initialized "java/lang/IndexOutOfBoundsException") (by decide +kernel)) hsa9 (m_hat hG (fun w h => hts w (List.mem_cons_of_mem _ (List.mem_append_right _ h))) (by decide +kernel) (by decide +kernel)) (by decide +kernel) hG.2.2.1 hG.2.2.2.1 hS (hl.1.trans hml.symm) dX4_tubeNumbered_22 dX4_tubeNumbered_25 dX4_tubeNumbered_26 dX4_tubeNumbered_29 dX4_tubeNumbered_32 (fun x hx9 => absurd hx9 (fun q => hxt x q)) (Nat.le_of_ble_eq_true rfl) (Nat.le_of_ble_eq_true rfl) (Nat.le_of_ble_eq_true rfl) (Nat.le_of_ble_eq_true rfl) hlocks (fun t9 _ h92 h93 => m_thrown (px := fun E => E = "java/lang/IndexOutOfBoundsException" ∧ ¬ (tkN n8 p0)) (E := "java/lang/IndexOutOfBoundsException") hP hI hS (⟨rfl, by first | exact tk_out (by assumption) | exact tk_neg (by assumption) | exact tk_big hn8 (by omega) (by assumption)⟩) t9 h92 h93) hS.2.2 (Nat.le_of_ble_eq_true rfl) (Nat.le_of_ble_eq_true rfl)
  · skip
    refine lv_iload_n hx hb dX4_tubeNumbered_4 rfl (lv_at hl 1 rfl) ?_
    refine lv_aload_n hx hb dX4_tubeNumbered_5 rfl (lv_at hl 0 rfl) ?_
    refine m_get (ci := 7) (v := .ref ta0) (C := RX4) (T := TX4) (N := 9) hx hb hts i_X4 hown hK (hP _ _ h_X) rfl 0 (by decide) (hts (.fieldLink RX4 11 "Meniscus" "tubes" "[LMeniscus$Tube;") (by decide +kernel)) (fun _ h9 => h9) rfl dX4_tubeNumbered_6 ?_
    refine m_alen (v := 8) hx hb hK 3 (hP _ _ h_TA) rfl rfl dX4_tubeNumbered_9 ?_
    refine lv_icmp_ge (tgt := 22) hx hb dX4_tubeNumbered_10 (by decide) (fun c2 => ?_) (fun c2 => ?_)
    · skip
      obtain ⟨sa9, hsa9⟩ := hG.2.1.2.2.2.2.2.1 (290, "no such tube") (by decide +kernel)
      exact vx_throwSW (text := "no such tube") (names := ["java/lang/RuntimeException", "java/lang/Exception"]) hx hb hl9 hown (by decide +kernel) (by decide +kernel) (hts (.classLink RX4 288 "java/lang/IndexOutOfBoundsException") (by decide +kernel)) (hts (.initialized "java/lang/IndexOutOfBoundsException") (by decide +kernel)) hsa9 (m_hat hG (fun w h => hts w (List.mem_cons_of_mem _ (List.mem_append_right _ h))) (by decide +kernel) (by decide +kernel)) (by decide +kernel) hG.2.2.1 hG.2.2.2.1 hS (hl.1.trans hml.symm) dX4_tubeNumbered_22 dX4_tubeNumbered_25 dX4_tubeNumbered_26 dX4_tubeNumbered_29 dX4_tubeNumbered_32 (fun x hx9 => absurd hx9 (fun q => hxt x q)) (Nat.le_of_ble_eq_true rfl) (Nat.le_of_ble_eq_true rfl) (Nat.le_of_ble_eq_true rfl) (Nat.le_of_ble_eq_true rfl) hlocks (fun t9 _ h92 h93 => m_thrown (px := fun E => E = "java/lang/IndexOutOfBoundsException" ∧ ¬ (tkN n8 p0)) (E := "java/lang/IndexOutOfBoundsException") hP hI hS (⟨rfl, by first | exact tk_out (by assumption) | exact tk_neg (by assumption) | exact tk_big hn8 (by omega) (by assumption)⟩) t9 h92 h93) hS.2.2 (Nat.le_of_ble_eq_true rfl) (Nat.le_of_ble_eq_true rfl)
    · skip
      refine lv_aload_n hx hb dX4_tubeNumbered_13 rfl (lv_at hl 0 rfl) ?_
      refine m_get (ci := 7) (v := .ref ta0) (C := RX4) (T := TX4) (N := 9) hx hb hts i_X4 hown hK (hP _ _ h_X) rfl 0 (by decide) (hts (.fieldLink RX4 11 "Meniscus" "tubes" "[LMeniscus$Tube;") (by decide +kernel)) (fun _ h9 => h9) rfl dX4_tubeNumbered_14 ?_
      refine lv_iload_n hx hb dX4_tubeNumbered_17 rfl (lv_at hl 1 rfl) ?_
      refine m_aldq hx hb hK 3 (hP _ _ h_TA) rfl (vin_of (by assumption) (by omega) (by assumption)) dX4_tubeNumbered_18 ?_
      rcases Nat.lt_or_ge (ix p0) n8 with hj9 | hj9
      · rw [qf_p hj9]
        refine lv_ifnonnull (tgt := 33) hx hb dX4_tubeNumbered_19 (by decide) ?_
        refine lv_aload_n hx hb dX4_tubeNumbered_33 rfl (lv_at hl 0 rfl) ?_
        refine m_get (ci := 7) (v := .ref ta0) (C := RX4) (T := TX4) (N := 9) hx hb hts i_X4 hown hK (hP _ _ h_X) rfl 0 (by decide) (hts (.fieldLink RX4 11 "Meniscus" "tubes" "[LMeniscus$Tube;") (by decide +kernel)) (fun _ h9 => h9) rfl dX4_tubeNumbered_34 ?_
        refine lv_iload_n hx hb dX4_tubeNumbered_37 rfl (lv_at hl 1 rfl) ?_
        refine m_aldq hx hb hK 3 (hP _ _ h_TA) rfl (vin_of (by assumption) (by omega) (by assumption)) dX4_tubeNumbered_38 ?_
        rw [qf_p hj9]
        refine W.widen (k := 1) (n := 6) (Nat.le_of_ble_eq_true rfl) (Nat.le_of_ble_eq_true rfl) ?_
        refine vx_ret ?_
        exact W.aret (v := .ref (tb8 (ix p0))) hx hb hr (Or.inl ⟨_, rfl⟩) (Or.inr ⟨_, rfl⟩) (fun t99 ht99 hW99 => ⟨⟨some (tb8 (ix p0)), Mw, rfl, ⟨⟨⟨by assumption, hj9⟩, rfl⟩, rfl⟩, by rw [ht99]; exact hP, hI⟩, hS.F ht99⟩) hS.2.2 dX4_tubeNumbered_39
      · rw [qf_n hj9]
        refine lv_ifnonnullN hx hb dX4_tubeNumbered_19 ?_
        obtain ⟨sa9, hsa9⟩ := hG.2.1.2.2.2.2.2.1 (290, "no such tube") (by decide +kernel)
        exact vx_throwSW (text := "no such tube") (names := ["java/lang/RuntimeException", "java/lang/Exception"]) hx hb hl9 hown (by decide +kernel) (by decide +kernel) (hts (.classLink RX4 288 "java/lang/IndexOutOfBoundsException") (by decide +kernel)) (hts (.initialized "java/lang/IndexOutOfBoundsException") (by decide +kernel)) hsa9 (m_hat hG (fun w h => hts w (List.mem_cons_of_mem _ (List.mem_append_right _ h))) (by decide +kernel) (by decide +kernel)) (by decide +kernel) hG.2.2.1 hG.2.2.2.1 hS (hl.1.trans hml.symm) dX4_tubeNumbered_22 dX4_tubeNumbered_25 dX4_tubeNumbered_26 dX4_tubeNumbered_29 dX4_tubeNumbered_32 (fun x hx9 => absurd hx9 (fun q => hxt x q)) (Nat.le_of_ble_eq_true rfl) (Nat.le_of_ble_eq_true rfl) (Nat.le_of_ble_eq_true rfl) (Nat.le_of_ble_eq_true rfl) hlocks (fun t9 _ h92 h93 => m_thrown (px := fun E => E = "java/lang/IndexOutOfBoundsException" ∧ ¬ (tkN n8 p0)) (E := "java/lang/IndexOutOfBoundsException") hP hI hS (⟨rfl, by first | exact tk_out (by assumption) | exact tk_neg (by assumption) | exact tk_big hn8 (by omega) (by assumption)⟩) t9 h92 h93) hS.2.2 (Nat.le_of_ble_eq_true rfl) (Nat.le_of_ble_eq_true rfl)

set_option maxHeartbeats 4000000 in
set_option maxRecDepth 100000 in
theorem c_X4_instrumentNumbered (l : Launch) (G : mg) (A : Nat → Prop) (Mw : mw) (hl9 : l.stackTraces = false) (p0 : Int32) {x0 ta0 ia0 : Nat} {tc0 ic0 air0 day0 stk0 spl0 bgt0 : Int32} (h_X : Mw x0 = some (.inr (7, [.ref ta0, .ref ia0, .int tc0, .int ic0, .int air0, .int day0, .int stk0, .int spl0, .int bgt0]))) {n8 : Nat} {tb8 : Nat → Nat} (hn8 : n8 ≤ 6) (h_IA : Mw ia0 = some (.inl (G.2.1 4, 6, .inr (.inr (.inr (.inr (qf n8 tb8))))))) : vx_Met l yX4_instrumentNumbered wsX4_instrumentNumbered ({ frames := 6, cells := 1, slots := 6, locals := 82 }) (va_Pc [.ref x0, .int p0] (mB G A Mw)) (va_Qq (fun r Mw1 => (tkN n8 p0 ∧ r = some (tb8 (ix p0))) ∧ Mw1 = Mw) (mE G A) A) (xX (fun E => E = "java/lang/IndexOutOfBoundsException" ∧ ¬ (tkN n8 p0)) G A Mw) 1 6 A := by
  refine vx_ofW (cc := cX4_instrumentNumbered) (maxL := 2) (ret := (some (.object "Meniscus$Instrument"))) (by decide) rfl ?_
  intro p e s m args below meth c s₁ B hml hxt hv
  obtain ⟨rfl, hG, hP, hI, hA⟩ := hv
  have hx := B.exec
  have hb := B.bytes
  have hr := B.returns
  have hts := atoms_spec (ws := wsX4_instrumentNumbered) B.pre
  have hown : s.vm.findClass RX4 = some m.cls := findClass_of_methodNamed B.named
  have hlocks := B.notSynchronized
  have hK := hG.K
  have i_X4 : ∀ w ∈ wsX40, w ∈ wsX4_instrumentNumbered := by decide +kernel
  have hS : va_S A s.heap s.heap [] := va_S.rf
  have hl := lv_entry ([.ref x0, .int p0]) (n := 2) (Nat.le_of_ble_eq_true rfl)
  rw [lg_entry_eq]
  generalize (lg_sl ([.ref x0, .int p0]) ++ List.replicate (2 - (lg_sl ([.ref x0, .int p0])).length) Slot.unset).toArray = ls at hl ⊢
  have hl : lv_has ls 2 [(0, .ref x0), (1, .int p0)] := hl
  have hP : mP G.1 Mw s.heap := hP
  refine lv_iload_n hx hb dX4_instrumentNumbered_0 rfl (lv_at hl 1 rfl) ?_
  refine lv_if_lt (tgt := 22) hx hb dX4_instrumentNumbered_1 (by decide) (fun c1 => ?_) (fun c1 => ?_)
  · skip
    obtain ⟨sa9, hsa9⟩ := hG.2.1.2.2.2.2.2.1 (293, "no such instrument") (by decide +kernel)
    exact vx_throwSW (text := "no such instrument") (names := ["java/lang/RuntimeException", "java/lang/Exception"]) hx hb hl9 hown (by decide +kernel) (by decide +kernel) (hts (.classLink RX4 288 "java/lang/IndexOutOfBoundsException") (by decide +kernel)) (hts (.initialized "java/lang/IndexOutOfBoundsException") (by decide +kernel)) hsa9 (m_hat hG (fun w h => hts w (List.mem_cons_of_mem _ (List.mem_append_right _ h))) (by decide +kernel) (by decide +kernel)) (by decide +kernel) hG.2.2.1 hG.2.2.2.1 hS (hl.1.trans hml.symm) dX4_instrumentNumbered_22 dX4_instrumentNumbered_25 dX4_instrumentNumbered_26 dX4_instrumentNumbered_29 dX4_instrumentNumbered_32 (fun x hx9 => absurd hx9 (fun q => hxt x q)) (Nat.le_of_ble_eq_true rfl) (Nat.le_of_ble_eq_true rfl) (Nat.le_of_ble_eq_true rfl) (Nat.le_of_ble_eq_true rfl) hlocks (fun t9 _ h92 h93 => m_thrown (px := fun E => E = "java/lang/IndexOutOfBoundsException" ∧ ¬ (tkN n8 p0)) (E := "java/lang/IndexOutOfBoundsException") hP hI hS (⟨rfl, by first | exact tk_out (by assumption) | exact tk_neg (by assumption) | exact tk_big hn8 (by omega) (by assumption)⟩) t9 h92 h93) hS.2.2 (Nat.le_of_ble_eq_true rfl) (Nat.le_of_ble_eq_true rfl)
  · skip
    refine lv_iload_n hx hb dX4_instrumentNumbered_4 rfl (lv_at hl 1 rfl) ?_
    refine lv_aload_n hx hb dX4_instrumentNumbered_5 rfl (lv_at hl 0 rfl) ?_
    refine m_get (ci := 7) (v := .ref ia0) (C := RX4) (T := TX4) (N := 9) hx hb hts i_X4 hown hK (hP _ _ h_X) rfl 1 (by decide) (hts (.fieldLink RX4 17 "Meniscus" "instruments" "[LMeniscus$Instrument;") (by decide +kernel)) (fun _ h9 => h9) rfl dX4_instrumentNumbered_6 ?_
    refine m_alen (v := 6) hx hb hK 4 (hP _ _ h_IA) rfl rfl dX4_instrumentNumbered_9 ?_
    refine lv_icmp_ge (tgt := 22) hx hb dX4_instrumentNumbered_10 (by decide) (fun c2 => ?_) (fun c2 => ?_)
    · skip
      obtain ⟨sa9, hsa9⟩ := hG.2.1.2.2.2.2.2.1 (293, "no such instrument") (by decide +kernel)
      exact vx_throwSW (text := "no such instrument") (names := ["java/lang/RuntimeException", "java/lang/Exception"]) hx hb hl9 hown (by decide +kernel) (by decide +kernel) (hts (.classLink RX4 288 "java/lang/IndexOutOfBoundsException") (by decide +kernel)) (hts (.initialized "java/lang/IndexOutOfBoundsException") (by decide +kernel)) hsa9 (m_hat hG (fun w h => hts w (List.mem_cons_of_mem _ (List.mem_append_right _ h))) (by decide +kernel) (by decide +kernel)) (by decide +kernel) hG.2.2.1 hG.2.2.2.1 hS (hl.1.trans hml.symm) dX4_instrumentNumbered_22 dX4_instrumentNumbered_25 dX4_instrumentNumbered_26 dX4_instrumentNumbered_29 dX4_instrumentNumbered_32 (fun x hx9 => absurd hx9 (fun q => hxt x q)) (Nat.le_of_ble_eq_true rfl) (Nat.le_of_ble_eq_true rfl) (Nat.le_of_ble_eq_true rfl) (Nat.le_of_ble_eq_true rfl) hlocks (fun t9 _ h92 h93 => m_thrown (px := fun E => E = "java/lang/IndexOutOfBoundsException" ∧ ¬ (tkN n8 p0)) (E := "java/lang/IndexOutOfBoundsException") hP hI hS (⟨rfl, by first | exact tk_out (by assumption) | exact tk_neg (by assumption) | exact tk_big hn8 (by omega) (by assumption)⟩) t9 h92 h93) hS.2.2 (Nat.le_of_ble_eq_true rfl) (Nat.le_of_ble_eq_true rfl)
    · skip
      refine lv_aload_n hx hb dX4_instrumentNumbered_13 rfl (lv_at hl 0 rfl) ?_
      refine m_get (ci := 7) (v := .ref ia0) (C := RX4) (T := TX4) (N := 9) hx hb hts i_X4 hown hK (hP _ _ h_X) rfl 1 (by decide) (hts (.fieldLink RX4 17 "Meniscus" "instruments" "[LMeniscus$Instrument;") (by decide +kernel)) (fun _ h9 => h9) rfl dX4_instrumentNumbered_14 ?_
      refine lv_iload_n hx hb dX4_instrumentNumbered_17 rfl (lv_at hl 1 rfl) ?_
      refine m_aldq hx hb hK 4 (hP _ _ h_IA) rfl (vin_of (by assumption) (by omega) (by assumption)) dX4_instrumentNumbered_18 ?_
      rcases Nat.lt_or_ge (ix p0) n8 with hj9 | hj9
      · rw [qf_p hj9]
        refine lv_ifnonnull (tgt := 33) hx hb dX4_instrumentNumbered_19 (by decide) ?_
        refine lv_aload_n hx hb dX4_instrumentNumbered_33 rfl (lv_at hl 0 rfl) ?_
        refine m_get (ci := 7) (v := .ref ia0) (C := RX4) (T := TX4) (N := 9) hx hb hts i_X4 hown hK (hP _ _ h_X) rfl 1 (by decide) (hts (.fieldLink RX4 17 "Meniscus" "instruments" "[LMeniscus$Instrument;") (by decide +kernel)) (fun _ h9 => h9) rfl dX4_instrumentNumbered_34 ?_
        refine lv_iload_n hx hb dX4_instrumentNumbered_37 rfl (lv_at hl 1 rfl) ?_
        refine m_aldq hx hb hK 4 (hP _ _ h_IA) rfl (vin_of (by assumption) (by omega) (by assumption)) dX4_instrumentNumbered_38 ?_
        rw [qf_p hj9]
        refine W.widen (k := 1) (n := 6) (Nat.le_of_ble_eq_true rfl) (Nat.le_of_ble_eq_true rfl) ?_
        refine vx_ret ?_
        exact W.aret (v := .ref (tb8 (ix p0))) hx hb hr (Or.inl ⟨_, rfl⟩) (Or.inr ⟨_, rfl⟩) (fun t99 ht99 hW99 => ⟨⟨some (tb8 (ix p0)), Mw, rfl, ⟨⟨⟨by assumption, hj9⟩, rfl⟩, rfl⟩, by rw [ht99]; exact hP, hI⟩, hS.F ht99⟩) hS.2.2 dX4_instrumentNumbered_39
      · rw [qf_n hj9]
        refine lv_ifnonnullN hx hb dX4_instrumentNumbered_19 ?_
        obtain ⟨sa9, hsa9⟩ := hG.2.1.2.2.2.2.2.1 (293, "no such instrument") (by decide +kernel)
        exact vx_throwSW (text := "no such instrument") (names := ["java/lang/RuntimeException", "java/lang/Exception"]) hx hb hl9 hown (by decide +kernel) (by decide +kernel) (hts (.classLink RX4 288 "java/lang/IndexOutOfBoundsException") (by decide +kernel)) (hts (.initialized "java/lang/IndexOutOfBoundsException") (by decide +kernel)) hsa9 (m_hat hG (fun w h => hts w (List.mem_cons_of_mem _ (List.mem_append_right _ h))) (by decide +kernel) (by decide +kernel)) (by decide +kernel) hG.2.2.1 hG.2.2.2.1 hS (hl.1.trans hml.symm) dX4_instrumentNumbered_22 dX4_instrumentNumbered_25 dX4_instrumentNumbered_26 dX4_instrumentNumbered_29 dX4_instrumentNumbered_32 (fun x hx9 => absurd hx9 (fun q => hxt x q)) (Nat.le_of_ble_eq_true rfl) (Nat.le_of_ble_eq_true rfl) (Nat.le_of_ble_eq_true rfl) (Nat.le_of_ble_eq_true rfl) hlocks (fun t9 _ h92 h93 => m_thrown (px := fun E => E = "java/lang/IndexOutOfBoundsException" ∧ ¬ (tkN n8 p0)) (E := "java/lang/IndexOutOfBoundsException") hP hI hS (⟨rfl, by first | exact tk_out (by assumption) | exact tk_neg (by assumption) | exact tk_big hn8 (by omega) (by assumption)⟩) t9 h92 h93) hS.2.2 (Nat.le_of_ble_eq_true rfl) (Nat.le_of_ble_eq_true rfl)

set_option maxHeartbeats 4000000 in
set_option maxRecDepth 100000 in
theorem c_X4_levelFound (l : Launch) (G : mg) (A : Nat → Prop) (Mw : mw) (hl9 : l.stackTraces = false) (p0 p1 : Int32) {x0 ta0 ia0 : Nat} {tc0 ic0 air0 day0 stk0 spl0 bgt0 : Int32} (h_X : Mw x0 = some (.inr (7, [.ref ta0, .ref ia0, .int tc0, .int ic0, .int air0, .int day0, .int stk0, .int spl0, .int bgt0]))) {a0 t0 sc0 rd0 : Nat} {tn0 bu0 gl0 cr0 fi0 sm0 li0 in0 ga0 ke0 gr0 ce0 : Int32} (h_I : Mw a0 = some (.inr (3, [.int tn0, .ref t0, .int bu0, .int gl0, .ref sc0, .ref rd0, .int cr0, .int fi0, .int sm0, .int li0, .int in0, .int ga0, .int ke0, .int gr0, .int ce0]))) {b0 : Nat} {us0 : Int32} {bf : Nat → Int32} (h_T : Mw t0 = some (.inr (6, [.ref b0, .int us0]))) (h_B : Mw b0 = some (.inl (G.2.1 0, 20, .inl bf))) : vx_Met l yX4_levelFound wsX4_levelFound ({ frames := 6, cells := 1, slots := 6, locals := 116 }) (va_Pc [.ref x0, .ref a0, .int p0, .int p1] (mB G A Mw)) (va_Qi (fun r Mw1 => (lvlR bf in0 bu0 cr0 li0 gl0 p0 p1 air0 r ∧ ¬ r = -1) ∧ Mw1 = Mw) (mE G A) A) (xX (fun E => E = "java/util/NoSuchElementException" ∧ lvlR bf in0 bu0 cr0 li0 gl0 p0 p1 air0 (-1)) G A Mw) 1 6 A := by
  refine vx_ofW (cc := cX4_levelFound) (maxL := 5) (ret := (some .int)) (by decide) rfl ?_
  intro p e s m args below meth c s₁ B hml hxt hv
  obtain ⟨rfl, hG, hP, hI, hA⟩ := hv
  have hx := B.exec
  have hb := B.bytes
  have hr := B.returns
  have hts := atoms_spec (ws := wsX4_levelFound) B.pre
  have hown : s.vm.findClass RX4 = some m.cls := findClass_of_methodNamed B.named
  have hlocks := B.notSynchronized
  have hK := hG.K
  have i_X4 : ∀ w ∈ wsX40, w ∈ wsX4_levelFound := by decide +kernel
  have hS : va_S A s.heap s.heap [] := va_S.rf
  have hl := lv_entry ([.ref x0, .ref a0, .int p0, .int p1]) (n := 5) (Nat.le_of_ble_eq_true rfl)
  rw [lg_entry_eq]
  generalize (lg_sl ([.ref x0, .ref a0, .int p0, .int p1]) ++ List.replicate (5 - (lg_sl ([.ref x0, .ref a0, .int p0, .int p1])).length) Slot.unset).toArray = ls at hl ⊢
  have hl : lv_has ls 5 [(0, .ref x0), (1, .ref a0), (2, .int p0), (3, .int p1)] := hl
  have hP : mP G.1 Mw s.heap := hP
  refine lv_aload_n hx hb dX4_levelFound_0 rfl (lv_at hl 1 rfl) ?_
  refine lv_iload_n hx hb dX4_levelFound_1 rfl (lv_at hl 2 rfl) ?_
  refine lv_iload_n hx hb dX4_levelFound_2 rfl (lv_at hl 3 rfl) ?_
  refine lv_aload_n hx hb dX4_levelFound_3 rfl (lv_at hl 0 rfl) ?_
  refine m_get (ci := 7) (v := .int air0) (C := RX4) (T := TX4) (N := 9) hx hb hts i_X4 hown hK (hP _ _ h_X) rfl 4 (by decide) (hts (.fieldLink RX4 21 "Meniscus" "airTemperature" "I") (by decide +kernel)) (fun _ h9 => h9) rfl dX4_levelFound_4 ?_
  refine m_calli (va_runV (As := [.int p0, .int p1, .int air0]) (rest := []) ⟨hx, hb, hml, hown, hts⟩ (c_X0_levelAt l G A Mw  p0 p1 air0 h_I h_T h_B) (cwV 3 hts gX4_levelFound_X0_levelAt rfl rfl rfl (by decide +kernel) ⟨Nat.le_of_ble_eq_true rfl, Nat.le_of_ble_eq_true rfl⟩) (mPreV hG hS hP hI hA (hP _ _ h_I) (r := (RX0, TX0, 15)) rfl) rfl rfl hl.1 rfl (lv_room (Nat.le_of_ble_eq_true rfl)) dX4_levelFound_7 ⟨Nat.le_of_ble_eq_true rfl, Nat.le_of_ble_eq_true rfl⟩) hS (fun r1 Mw1 H locs hp_r1 hP hI hS => ?_)
  obtain ⟨hp_r1, hm9⟩ := hp_r1
  subst Mw1
  refine lv_istore (lv' := [(4, .int r1), (0, .ref x0), (1, .ref a0), (2, .int p0), (3, .int p1)]) hx hb dX4_levelFound_10 hl (by decide) rfl (fun ls hl => ?_)
  refine lv_iload hx hb dX4_levelFound_12 (lv_at hl 0 rfl) ?_
  refine lv_iconst (v := (-1)) hx hb dX4_levelFound_14 (by decide) ?_
  refine lv_icmp_ne (tgt := 29) hx hb dX4_levelFound_15 (by decide) (fun c2 => ?_) (fun c2 => ?_)
  · skip
    refine lv_iload hx hb dX4_levelFound_29 (lv_at hl 0 rfl) ?_
    refine W.widen (k := 1) (n := 6) (Nat.le_of_ble_eq_true rfl) (Nat.le_of_ble_eq_true rfl) ?_
    refine vx_ret ?_
    exact W.iret (v := r1) hx hb hr (fun t99 ht99 hW99 => ⟨⟨r1, Mw, rfl, ⟨⟨hp_r1, c2⟩, rfl⟩, by rw [ht99]; exact hP, hI⟩, hS.F ht99⟩) hS.2.2 dX4_levelFound_31
  · skip
    have hl79 : lvlR bf in0 bu0 cr0 li0 gl0 p0 p1 air0 (-1) := by rw [← c2]; exact hp_r1
    obtain ⟨sa9, hsa9⟩ := hG.2.1.2.2.2.2.2.1 (298, "it has no level") (by decide +kernel)
    exact vn_throwSW (text := "it has no level") hx hb hl9 hown (hts (.classLink RX4 68 "java/util/NoSuchElementException") (by decide +kernel)) (hts (.initialized "java/util/NoSuchElementException") (by decide +kernel)) hsa9 (m_hatN hG (fun w h => hts w (List.mem_cons_of_mem _ (List.mem_append_right _ h))) (by decide +kernel) (by decide +kernel)) (by decide +kernel) hG.2.2.1 hG.2.2.2.1 hS (hl.1.trans hml.symm) dX4_levelFound_18 dX4_levelFound_21 dX4_levelFound_22 dX4_levelFound_25 dX4_levelFound_28 (fun x hx9 => absurd hx9 (fun q => hxt x q)) (Nat.le_of_ble_eq_true rfl) (Nat.le_of_ble_eq_true rfl) (Nat.le_of_ble_eq_true rfl) (Nat.le_of_ble_eq_true rfl) hlocks (fun t9 _ h92 h93 => m_thrown (px := fun E => E = "java/util/NoSuchElementException" ∧ lvlR bf in0 bu0 cr0 li0 gl0 p0 p1 air0 (-1)) (E := vnN) hP hI hS (⟨rfl, hl79⟩) t9 h92 h93) hS.2.2 (Nat.le_of_ble_eq_true rfl) (Nat.le_of_ble_eq_true rfl)

set_option maxHeartbeats 4000000 in
set_option maxRecDepth 100000 in
theorem c_X4_takeFromStock (l : Launch) (G : mg) (A : Nat → Prop) (Mw : mw) (hl9 : l.stackTraces = false) (p0 : Int32) {x0 ta0 ia0 : Nat} {tc0 ic0 air0 day0 stk0 spl0 bgt0 : Int32} (h_X : Mw x0 = some (.inr (7, [.ref ta0, .ref ia0, .int tc0, .int ic0, .int air0, .int day0, .int stk0, .int spl0, .int bgt0]))) : vx_Met l yX4_takeFromStock wsX4_takeFromStock ({ frames := 6, cells := 1, slots := 6, locals := 82 }) (va_Pc [.ref x0, .int p0] (mB G A Mw)) (va_Qv (fun Mw1 => p0 ≤ stk0 ∧ Mw1 = mu Mw x0 (.inr (7, [.ref ta0, .ref ia0, .int tc0, .int ic0, .int air0, .int day0, .int (stk0 - p0), .int spl0, .int bgt0]))) (mE G A) A) (xX (fun E => E = "java/lang/UnsupportedOperationException" ∧ ¬ (p0 ≤ stk0)) G A Mw) 1 6 A := by
  refine vx_ofW (cc := cX4_takeFromStock) (maxL := 2) (ret := none) (by decide) rfl ?_
  intro p e s m args below meth c s₁ B hml hxt hv
  obtain ⟨rfl, hG, hP, hI, hA⟩ := hv
  have hx := B.exec
  have hb := B.bytes
  have hr := B.returns
  have hts := atoms_spec (ws := wsX4_takeFromStock) B.pre
  have hown : s.vm.findClass RX4 = some m.cls := findClass_of_methodNamed B.named
  have hlocks := B.notSynchronized
  have hK := hG.K
  have i_X4 : ∀ w ∈ wsX40, w ∈ wsX4_takeFromStock := by decide +kernel
  have hS : va_S A s.heap s.heap [] := va_S.rf
  have hl := lv_entry ([.ref x0, .int p0]) (n := 2) (Nat.le_of_ble_eq_true rfl)
  rw [lg_entry_eq]
  generalize (lg_sl ([.ref x0, .int p0]) ++ List.replicate (2 - (lg_sl ([.ref x0, .int p0])).length) Slot.unset).toArray = ls at hl ⊢
  have hl : lv_has ls 2 [(0, .ref x0), (1, .int p0)] := hl
  have hP : mP G.1 Mw s.heap := hP
  refine lv_iload_n hx hb dX4_takeFromStock_0 rfl (lv_at hl 1 rfl) ?_
  refine lv_aload_n hx hb dX4_takeFromStock_1 rfl (lv_at hl 0 rfl) ?_
  refine m_get (ci := 7) (v := .int stk0) (C := RX4) (T := TX4) (N := 9) hx hb hts i_X4 hown hK (hP _ _ h_X) rfl 6 (by decide) (hts (.fieldLink RX4 109 "Meniscus" "stock" "I") (by decide +kernel)) (fun _ h9 => h9) rfl dX4_takeFromStock_2 ?_
  refine lv_icmp_le (tgt := 19) hx hb dX4_takeFromStock_5 (by decide) (fun c1 => ?_) (fun c1 => ?_)
  · skip
    refine lv_aload_n hx hb dX4_takeFromStock_19 rfl (lv_at hl 0 rfl) ?_
    refine lv_dup hx hb dX4_takeFromStock_20 rfl ?_
    refine m_get (ci := 7) (v := .int stk0) (C := RX4) (T := TX4) (N := 9) hx hb hts i_X4 hown hK (hP _ _ h_X) rfl 6 (by decide) (hts (.fieldLink RX4 109 "Meniscus" "stock" "I") (by decide +kernel)) (fun _ h9 => h9) rfl dX4_takeFromStock_21 ?_
    refine lv_iload_n hx hb dX4_takeFromStock_24 rfl (lv_at hl 1 rfl) ?_
    refine lv_isub hx hb dX4_takeFromStock_25 ?_
    refine m_put (ci := 7) (v := .int (stk0 - p0)) (ty := .int) (C := RX4) (T := TX4) (N := 9) hx hb hts i_X4 tyX4 tyX4_ok nmX4 hown hK hP hI hS h_X rfl 6 (by decide) (hts (.fieldLink RX4 109 "Meniscus" "stock" "I") (by decide +kernel)) (fun _ h9 => h9) rfl (by decide +kernel) rfl rfl (Nat.le_of_ble_eq_true rfl) dX4_takeFromStock_26 (fun H locs hP hI hS => ?_)
    have hP : mP G.1 (mu Mw x0 (.inr (7, [.ref ta0, .ref ia0, .int tc0, .int ic0, .int air0, .int day0, .int (stk0 - p0), .int spl0, .int bgt0]))) H := hP
    have hI : mI A (mu Mw x0 (.inr (7, [.ref ta0, .ref ia0, .int tc0, .int ic0, .int air0, .int day0, .int (stk0 - p0), .int spl0, .int bgt0]))) := hI
    have h_X : (mu Mw x0 (.inr (7, [.ref ta0, .ref ia0, .int tc0, .int ic0, .int air0, .int day0, .int (stk0 - p0), .int spl0, .int bgt0]))) x0 = some (.inr (7, [.ref ta0, .ref ia0, .int tc0, .int ic0, .int air0, .int day0, .int (stk0 - p0), .int spl0, .int bgt0])) := mu_s
    refine W.widen (k := 1) (n := 6) (Nat.le_of_ble_eq_true rfl) (Nat.le_of_ble_eq_true rfl) ?_
    refine vx_ret ?_
    exact W.vret hx hb hr (fun t99 ht99 hW99 => ⟨⟨(mu Mw x0 (.inr (7, [.ref ta0, .ref ia0, .int tc0, .int ic0, .int air0, .int day0, .int (stk0 - p0), .int spl0, .int bgt0]))), rfl, ⟨c1, rfl⟩, by rw [ht99]; exact hP, hI⟩, hS.F ht99⟩) hS.2.2 dX4_takeFromStock_29
  · skip
    obtain ⟨sa9, hsa9⟩ := hG.2.1.2.2.2.2.2.1 (300, "not as much mercury") (by decide +kernel)
    exact vx_throwSW (text := "not as much mercury") (names := ["java/lang/RuntimeException", "java/lang/Exception"]) hx hb hl9 hown (by decide +kernel) (by decide +kernel) (hts (.classLink RX4 122 "java/lang/UnsupportedOperationException") (by decide +kernel)) (hts (.initialized "java/lang/UnsupportedOperationException") (by decide +kernel)) hsa9 (m_hat hG (fun w h => hts w (List.mem_cons_of_mem _ (List.mem_append_right _ h))) (by decide +kernel) (by decide +kernel)) (by decide +kernel) hG.2.2.1 hG.2.2.2.1 hS (hl.1.trans hml.symm) dX4_takeFromStock_8 dX4_takeFromStock_11 dX4_takeFromStock_12 dX4_takeFromStock_15 dX4_takeFromStock_18 (fun x hx9 => absurd hx9 (fun q => hxt x q)) (Nat.le_of_ble_eq_true rfl) (Nat.le_of_ble_eq_true rfl) (Nat.le_of_ble_eq_true rfl) (Nat.le_of_ble_eq_true rfl) hlocks (fun t9 _ h92 h93 => m_thrown (px := fun E => E = "java/lang/UnsupportedOperationException" ∧ ¬ (p0 ≤ stk0)) (E := "java/lang/UnsupportedOperationException") hP hI hS (⟨rfl, by assumption⟩) t9 h92 h93) hS.2.2 (Nat.le_of_ble_eq_true rfl) (Nat.le_of_ble_eq_true rfl)
