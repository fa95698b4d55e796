set_option maxHeartbeats 4000000 in
set_option maxRecDepth 100000 in
theorem c_X4_demandRange (l : Launch) (G : mg) (A : Nat → Prop) (Mw : mw) (hl9 : l.stackTraces = false) (p0 p1 p2 : Int32) : vx_Met l yX4_demandRange wsX4_demandRange ({ frames := 6, cells := 1, slots := 6, locals := 82 }) (va_Pc [.int p0, .int p1, .int p2] (mB G A Mw)) (va_Qv (fun Mw1 => (rng p0 p1 p2) ∧ Mw1 = Mw) (mE G A) A) (xX (fun E => E = "java/lang/IllegalArgumentException" ∧ ¬ (rng p0 p1 p2)) G A Mw) 1 6 A := by
  refine vx_ofW (cc := cX4_demandRange) (maxL := 3) (ret := none) (by decide) rfl ?_
  intro p e s m args below meth c s₁ B hml hxt hv
  obtain ⟨rfl, hG, hP, hI, hA⟩ := hv
  have hx := B.exec
  have hb := B.bytes
  have hr := B.returns
  have hts := atoms_spec (ws := wsX4_demandRange) B.pre
  have hown : s.vm.findClass RX4 = some m.cls := findClass_of_methodNamed B.named
  have hlocks := B.notSynchronized
  have hK := hG.K
  have hS : va_S A s.heap s.heap [] := va_S.rf
  have hl := lv_entry ([.int p0, .int p1, .int p2]) (n := 3) (Nat.le_of_ble_eq_true rfl)
  rw [lg_entry_eq]
  generalize (lg_sl ([.int p0, .int p1, .int p2]) ++ List.replicate (3 - (lg_sl ([.int p0, .int p1, .int p2])).length) Slot.unset).toArray = ls at hl ⊢
  have hl : lv_has ls 3 [(0, .int p0), (1, .int p1), (2, .int p2)] := hl
  have hP : mP G.1 Mw s.heap := hP
  refine lv_iload_n hx hb dX4_demandRange_0 rfl (lv_at hl 0 rfl) ?_
  refine lv_iload_n hx hb dX4_demandRange_1 rfl (lv_at hl 1 rfl) ?_
  refine lv_icmp_lt (tgt := 10) hx hb dX4_demandRange_2 (by decide) (fun c1 => ?_) (fun c1 => ?_)
  · skip
    obtain ⟨sa9, hsa9⟩ := hG.2.1.2.2.2.2.2.1 (302, "a number is out of range") (by decide +kernel)
    exact vx_throwSW (text := "a number is out of range") (names := ["java/lang/RuntimeException", "java/lang/Exception"]) hx hb hl9 hown (by decide +kernel) (by decide +kernel) (hts (.classLink RX4 77 "java/lang/IllegalArgumentException") (by decide +kernel)) (hts (.initialized "java/lang/IllegalArgumentException") (by decide +kernel)) hsa9 (m_hat hG (fun w h => hts w (List.mem_cons_of_mem _ (List.mem_append_right _ h))) (by decide +kernel) (by decide +kernel)) (by decide +kernel) hG.2.2.1 hG.2.2.2.1 hS (hl.1.trans hml.symm) dX4_demandRange_10 dX4_demandRange_13 dX4_demandRange_14 dX4_demandRange_17 dX4_demandRange_20 (fun x hx9 => absurd hx9 (fun q => hxt x q)) (Nat.le_of_ble_eq_true rfl) (Nat.le_of_ble_eq_true rfl) (Nat.le_of_ble_eq_true rfl) (Nat.le_of_ble_eq_true rfl) hlocks (fun t9 _ h92 h93 => m_thrown (px := fun E => E = "java/lang/IllegalArgumentException" ∧ ¬ (rng p0 p1 p2)) (E := "java/lang/IllegalArgumentException") hP hI hS (⟨rfl, by first | exact fun q => q.1 (by assumption) | exact fun q => absurd q.2 (by assumption)⟩) t9 h92 h93) hS.2.2 (Nat.le_of_ble_eq_true rfl) (Nat.le_of_ble_eq_true rfl)
  · skip
    refine lv_iload_n hx hb dX4_demandRange_5 rfl (lv_at hl 0 rfl) ?_
    refine lv_iload_n hx hb dX4_demandRange_6 rfl (lv_at hl 2 rfl) ?_
    refine lv_icmp_le (tgt := 21) hx hb dX4_demandRange_7 (by decide) (fun c2 => ?_) (fun c2 => ?_)
    · skip
      refine W.widen (k := 1) (n := 6) (Nat.le_of_ble_eq_true rfl) (Nat.le_of_ble_eq_true rfl) ?_
      refine vx_ret ?_
      exact W.vret hx hb hr (fun t99 ht99 hW99 => ⟨⟨Mw, rfl, ⟨⟨by assumption, by assumption⟩, rfl⟩, by rw [ht99]; exact hP, hI⟩, hS.F ht99⟩) hS.2.2 dX4_demandRange_21
    · skip
      obtain ⟨sa9, hsa9⟩ := hG.2.1.2.2.2.2.2.1 (302, "a number is out of range") (by decide +kernel)
      exact vx_throwSW (text := "a number is out of range") (names := ["java/lang/RuntimeException", "java/lang/Exception"]) hx hb hl9 hown (by decide +kernel) (by decide +kernel) (hts (.classLink RX4 77 "java/lang/IllegalArgumentException") (by decide +kernel)) (hts (.initialized "java/lang/IllegalArgumentException") (by decide +kernel)) hsa9 (m_hat hG (fun w h => hts w (List.mem_cons_of_mem _ (List.mem_append_right _ h))) (by decide +kernel) (by decide +kernel)) (by decide +kernel) hG.2.2.1 hG.2.2.2.1 hS (hl.1.trans hml.symm) dX4_demandRange_10 dX4_demandRange_13 dX4_demandRange_14 dX4_demandRange_17 dX4_demandRange_20 (fun x hx9 => absurd hx9 (fun q => hxt x q)) (Nat.le_of_ble_eq_true rfl) (Nat.le_of_ble_eq_true rfl) (Nat.le_of_ble_eq_true rfl) (Nat.le_of_ble_eq_true rfl) hlocks (fun t9 _ h92 h93 => m_thrown (px := fun E => E = "java/lang/IllegalArgumentException" ∧ ¬ (rng p0 p1 p2)) (E := "java/lang/IllegalArgumentException") hP hI hS (⟨rfl, by first | exact fun q => q.1 (by assumption) | exact fun q => absurd q.2 (by assumption)⟩) t9 h92 h93) hS.2.2 (Nat.le_of_ble_eq_true rfl) (Nat.le_of_ble_eq_true rfl)

set_option maxHeartbeats 4000000 in
set_option maxRecDepth 100000 in
theorem c_X4_demandPlace (l : Launch) (G : mg) (A : Nat → Prop) (Mw : mw) (hl9 : l.stackTraces = false) (p0 : Int32) : vx_Met l yX4_demandPlace wsX4_demandPlace ({ frames := 7, cells := 1, slots := 6, locals := 104 }) (va_Pc [.int p0] (mB G A Mw)) (va_Qv (fun Mw1 => (rng p0 (0) 200) ∧ Mw1 = Mw) (mE G A) A) (xX (fun E => E = "java/lang/IllegalArgumentException" ∧ ¬ (rng p0 (0) 200)) G A Mw) 1 6 A := by
  refine vx_ofW (cc := cX4_demandPlace) (maxL := 1) (ret := none) (by decide) rfl ?_
  intro p e s m args below meth c s₁ B hml hxt hv
  obtain ⟨rfl, hG, hP, hI, hA⟩ := hv
  have hx := B.exec
  have hb := B.bytes
  have hr := B.returns
  have hts := atoms_spec (ws := wsX4_demandPlace) B.pre
  have hown : s.vm.findClass RX4 = some m.cls := findClass_of_methodNamed B.named
  have hlocks := B.notSynchronized
  have hK := hG.K
  have hS : va_S A s.heap s.heap [] := va_S.rf
  have hl := lv_entry ([.int p0]) (n := 1) (Nat.le_of_ble_eq_true rfl)
  rw [lg_entry_eq]
  generalize (lg_sl ([.int p0]) ++ List.replicate (1 - (lg_sl ([.int p0])).length) Slot.unset).toArray = ls at hl ⊢
  have hl : lv_has ls 1 [(0, .int p0)] := hl
  have hP : mP G.1 Mw s.heap := hP
  refine lv_iload_n hx hb dX4_demandPlace_0 rfl (lv_at hl 0 rfl) ?_
  refine lv_iconst (v := 0) hx hb dX4_demandPlace_1 (by decide) ?_
  refine lv_sipush (v := (200)) hx hb dX4_demandPlace_2 (by decide) ?_
  refine mx_callv (vx_runS (As := [.int p0, .int 0, .int 200]) (rest := []) ⟨hx, hb, hml, hown, hts⟩ (c_X4_demandRange l G A Mw hl9  p0 0 200) (va_cwS 3 hts gX4_demandPlace_X4_demandRange rfl rfl rfl (by decide +kernel) ⟨Nat.le_of_ble_eq_true rfl, Nat.le_of_ble_eq_true rfl⟩) (mPreS hG hS hP hI hA) rfl rfl hl.1 rfl (lv_room (Nat.le_of_ble_eq_true rfl)) dX4_demandPlace_5 ⟨Nat.le_of_ble_eq_true rfl, Nat.le_of_ble_eq_true rfl⟩) hS (fun E9 ce9 q9 H locs hpx9 hP hI hS hc9 hv9 hcl9 => m_out (px := fun E => E = "java/lang/IllegalArgumentException" ∧ ¬ (rng p0 (0) 200)) (fun x hx9 => absurd hx9 (fun q => hxt x q)) hlocks hP hI hS hc9 hv9 hcl9 (hpx9) (Nat.le_of_ble_eq_true rfl) (Nat.le_of_ble_eq_true rfl)) (fun Mw1 H locs hp_r1 hP hI hS => ?_)
  obtain ⟨hp_r1, hm9⟩ := hp_r1
  subst Mw1
  refine W.widen (k := 1) (n := 6) (Nat.le_of_ble_eq_true rfl) (Nat.le_of_ble_eq_true rfl) ?_
  refine vx_ret ?_
  exact W.vret hx hb hr (fun t99 ht99 hW99 => ⟨⟨Mw, rfl, ⟨hp_r1, rfl⟩, by rw [ht99]; exact hP, hI⟩, hS.F ht99⟩) hS.2.2 dX4_demandPlace_8

set_option maxHeartbeats 4000000 in
set_option maxRecDepth 100000 in
theorem c_X4_demandPressure (l : Launch) (G : mg) (A : Nat → Prop) (Mw : mw) (hl9 : l.stackTraces = false) (p0 : Int32) : vx_Met l yX4_demandPressure wsX4_demandPressure ({ frames := 7, cells := 1, slots := 6, locals := 104 }) (va_Pc [.int p0] (mB G A Mw)) (va_Qv (fun Mw1 => (rng p0 (700) 800) ∧ Mw1 = Mw) (mE G A) A) (xX (fun E => E = "java/lang/IllegalArgumentException" ∧ ¬ (rng p0 (700) 800)) G A Mw) 1 6 A := by
  refine vx_ofW (cc := cX4_demandPressure) (maxL := 1) (ret := none) (by decide) rfl ?_
  intro p e s m args below meth c s₁ B hml hxt hv
  obtain ⟨rfl, hG, hP, hI, hA⟩ := hv
  have hx := B.exec
  have hb := B.bytes
  have hr := B.returns
  have hts := atoms_spec (ws := wsX4_demandPressure) B.pre
  have hown : s.vm.findClass RX4 = some m.cls := findClass_of_methodNamed B.named
  have hlocks := B.notSynchronized
  have hK := hG.K
  have hS : va_S A s.heap s.heap [] := va_S.rf
  have hl := lv_entry ([.int p0]) (n := 1) (Nat.le_of_ble_eq_true rfl)
  rw [lg_entry_eq]
  generalize (lg_sl ([.int p0]) ++ List.replicate (1 - (lg_sl ([.int p0])).length) Slot.unset).toArray = ls at hl ⊢
  have hl : lv_has ls 1 [(0, .int p0)] := hl
  have hP : mP G.1 Mw s.heap := hP
  refine lv_iload_n hx hb dX4_demandPressure_0 rfl (lv_at hl 0 rfl) ?_
  refine lv_sipush (v := (700)) hx hb dX4_demandPressure_1 (by decide) ?_
  refine lv_sipush (v := (800)) hx hb dX4_demandPressure_4 (by decide) ?_
  refine mx_callv (vx_runS (As := [.int p0, .int 700, .int 800]) (rest := []) ⟨hx, hb, hml, hown, hts⟩ (c_X4_demandRange l G A Mw hl9  p0 700 800) (va_cwS 3 hts gX4_demandPressure_X4_demandRange rfl rfl rfl (by decide +kernel) ⟨Nat.le_of_ble_eq_true rfl, Nat.le_of_ble_eq_true rfl⟩) (mPreS hG hS hP hI hA) rfl rfl hl.1 rfl (lv_room (Nat.le_of_ble_eq_true rfl)) dX4_demandPressure_7 ⟨Nat.le_of_ble_eq_true rfl, Nat.le_of_ble_eq_true rfl⟩) hS (fun E9 ce9 q9 H locs hpx9 hP hI hS hc9 hv9 hcl9 => m_out (px := fun E => E = "java/lang/IllegalArgumentException" ∧ ¬ (rng p0 (700) 800)) (fun x hx9 => absurd hx9 (fun q => hxt x q)) hlocks hP hI hS hc9 hv9 hcl9 (hpx9) (Nat.le_of_ble_eq_true rfl) (Nat.le_of_ble_eq_true rfl)) (fun Mw1 H locs hp_r1 hP hI hS => ?_)
  obtain ⟨hp_r1, hm9⟩ := hp_r1
  subst Mw1
  refine W.widen (k := 1) (n := 6) (Nat.le_of_ble_eq_true rfl) (Nat.le_of_ble_eq_true rfl) ?_
  refine vx_ret ?_
  exact W.vret hx hb hr (fun t99 ht99 hW99 => ⟨⟨Mw, rfl, ⟨hp_r1, rfl⟩, by rw [ht99]; exact hP, hI⟩, hS.F ht99⟩) hS.2.2 dX4_demandPressure_10

set_option maxHeartbeats 4000000 in
set_option maxRecDepth 100000 in
theorem c_X4_demandEither (l : Launch) (G : mg) (A : Nat → Prop) (Mw : mw) (hl9 : l.stackTraces = false) (p0 p1 p2 : Int32) : vx_Met l yX4_demandEither wsX4_demandEither ({ frames := 6, cells := 1, slots := 6, locals := 82 }) (va_Pc [.int p0, .int p1, .int p2] (mB G A Mw)) (va_Qv (fun Mw1 => (eith p0 p1 p2) ∧ Mw1 = Mw) (mE G A) A) (xX (fun E => E = "java/lang/IllegalArgumentException" ∧ ¬ (eith p0 p1 p2)) G A Mw) 1 6 A := by
  refine vx_ofW (cc := cX4_demandEither) (maxL := 3) (ret := none) (by decide) rfl ?_
  intro p e s m args below meth c s₁ B hml hxt hv
  obtain ⟨rfl, hG, hP, hI, hA⟩ := hv
  have hx := B.exec
  have hb := B.bytes
  have hr := B.returns
  have hts := atoms_spec (ws := wsX4_demandEither) B.pre
  have hown : s.vm.findClass RX4 = some m.cls := findClass_of_methodNamed B.named
  have hlocks := B.notSynchronized
  have hK := hG.K
  have hS : va_S A s.heap s.heap [] := va_S.rf
  have hl := lv_entry ([.int p0, .int p1, .int p2]) (n := 3) (Nat.le_of_ble_eq_true rfl)
  rw [lg_entry_eq]
  generalize (lg_sl ([.int p0, .int p1, .int p2]) ++ List.replicate (3 - (lg_sl ([.int p0, .int p1, .int p2])).length) Slot.unset).toArray = ls at hl ⊢
  have hl : lv_has ls 3 [(0, .int p0), (1, .int p1), (2, .int p2)] := hl
  have hP : mP G.1 Mw s.heap := hP
  refine lv_iload_n hx hb dX4_demandEither_0 rfl (lv_at hl 0 rfl) ?_
  refine lv_iload_n hx hb dX4_demandEither_1 rfl (lv_at hl 1 rfl) ?_
  refine lv_icmp_eq (tgt := 21) hx hb dX4_demandEither_2 (by decide) (fun c1 => ?_) (fun c1 => ?_)
  · skip
    refine W.widen (k := 1) (n := 6) (Nat.le_of_ble_eq_true rfl) (Nat.le_of_ble_eq_true rfl) ?_
    refine vx_ret ?_
    exact W.vret hx hb hr (fun t99 ht99 hW99 => ⟨⟨Mw, rfl, ⟨by first | exact Or.inl (by assumption) | exact Or.inr (by assumption), rfl⟩, by rw [ht99]; exact hP, hI⟩, hS.F ht99⟩) hS.2.2 dX4_demandEither_21
  · skip
    refine lv_iload_n hx hb dX4_demandEither_5 rfl (lv_at hl 0 rfl) ?_
    refine lv_iload_n hx hb dX4_demandEither_6 rfl (lv_at hl 2 rfl) ?_
    refine lv_icmp_eq (tgt := 21) hx hb dX4_demandEither_7 (by decide) (fun c2 => ?_) (fun c2 => ?_)
    · skip
      refine W.widen (k := 1) (n := 6) (Nat.le_of_ble_eq_true rfl) (Nat.le_of_ble_eq_true rfl) ?_
      refine vx_ret ?_
      exact W.vret hx hb hr (fun t99 ht99 hW99 => ⟨⟨Mw, rfl, ⟨by first | exact Or.inl (by assumption) | exact Or.inr (by assumption), rfl⟩, by rw [ht99]; exact hP, hI⟩, hS.F ht99⟩) hS.2.2 dX4_demandEither_21
    · skip
      obtain ⟨sa9, hsa9⟩ := hG.2.1.2.2.2.2.2.1 (304, "there is no such kind") (by decide +kernel)
      exact vx_throwSW (text := "there is no such kind") (names := ["java/lang/RuntimeException", "java/lang/Exception"]) hx hb hl9 hown (by decide +kernel) (by decide +kernel) (hts (.classLink RX4 77 "java/lang/IllegalArgumentException") (by decide +kernel)) (hts (.initialized "java/lang/IllegalArgumentException") (by decide +kernel)) hsa9 (m_hat hG (fun w h => hts w (List.mem_cons_of_mem _ (List.mem_append_right _ h))) (by decide +kernel) (by decide +kernel)) (by decide +kernel) hG.2.2.1 hG.2.2.2.1 hS (hl.1.trans hml.symm) dX4_demandEither_10 dX4_demandEither_13 dX4_demandEither_14 dX4_demandEither_17 dX4_demandEither_20 (fun x hx9 => absurd hx9 (fun q => hxt x q)) (Nat.le_of_ble_eq_true rfl) (Nat.le_of_ble_eq_true rfl) (Nat.le_of_ble_eq_true rfl) (Nat.le_of_ble_eq_true rfl) hlocks (fun t9 _ h92 h93 => m_thrown (px := fun E => E = "java/lang/IllegalArgumentException" ∧ ¬ (eith p0 p1 p2)) (E := "java/lang/IllegalArgumentException") hP hI hS (⟨rfl, fun q => q.elim (by assumption) (by assumption)⟩) t9 h92 h93) hS.2.2 (Nat.le_of_ble_eq_true rfl) (Nat.le_of_ble_eq_true rfl)

set_option maxHeartbeats 4000000 in
set_option maxRecDepth 100000 in
theorem c_X4_demandUnused (l : Launch) (G : mg) (A : Nat → Prop) (Mw : mw) (hl9 : l.stackTraces = false) {t0 b0 : Nat} {us0 : Int32} (h_T : Mw t0 = some (.inr (3, [.ref b0, .int us0]))) : vx_Met l yX4_demandUnused wsX4_demandUnused ({ frames := 6, cells := 1, slots := 6, locals := 82 }) (va_Pc [.ref t0] (mB G A Mw)) (va_Qv (fun Mw1 => (us0 = 0) ∧ Mw1 = Mw) (mE G A) A) (xX (fun E => E = "java/lang/UnsupportedOperationException" ∧ ¬ (us0 = 0)) G A Mw) 1 6 A := by
  refine vx_ofW (cc := cX4_demandUnused) (maxL := 1) (ret := none) (by decide) rfl ?_
  intro p e s m args below meth c s₁ B hml hxt hv
  obtain ⟨rfl, hG, hP, hI, hA⟩ := hv
  have hx := B.exec
  have hb := B.bytes
  have hr := B.returns
  have hts := atoms_spec (ws := wsX4_demandUnused) B.pre
  have hown : s.vm.findClass RX4 = some m.cls := findClass_of_methodNamed B.named
  have hlocks := B.notSynchronized
  have hK := hG.K
  have i_X3 : ∀ w ∈ wsX30, w ∈ wsX4_demandUnused := by decide +kernel
  have hS : va_S A s.heap s.heap [] := va_S.rf
  have hl := lv_entry ([.ref t0]) (n := 1) (Nat.le_of_ble_eq_true rfl)
  rw [lg_entry_eq]
  generalize (lg_sl ([.ref t0]) ++ List.replicate (1 - (lg_sl ([.ref t0])).length) Slot.unset).toArray = ls at hl ⊢
  have hl : lv_has ls 1 [(0, .ref t0)] := hl
  have hP : mP G.1 Mw s.heap := hP
  refine lv_aload_n hx hb dX4_demandUnused_0 rfl (lv_at hl 0 rfl) ?_
  refine m_getN (ci := 3) (v := .int us0) (C := RX3) (T := TX3) (N := 2) hx hb hts i_X3 hown hK (hP _ _ h_T) rfl 1 (by decide) (va_Nw.use rfl (hG.2.1.2.1 ("Meniscus", 99, "Meniscus$Tube", "used", "Z", "Meniscus") (by decide +kernel))) (fun _ h9 => h9) rfl dX4_demandUnused_1 ?_
  refine lv_if_eq (tgt := 18) hx hb dX4_demandUnused_4 (by decide) (fun c1 => ?_) (fun c1 => ?_)
  · skip
    refine W.widen (k := 1) (n := 6) (Nat.le_of_ble_eq_true rfl) (Nat.le_of_ble_eq_true rfl) ?_
    refine vx_ret ?_
    exact W.vret hx hb hr (fun t99 ht99 hW99 => ⟨⟨Mw, rfl, ⟨by assumption, rfl⟩, by rw [ht99]; exact hP, hI⟩, hS.F ht99⟩) hS.2.2 dX4_demandUnused_18
  · skip
    obtain ⟨sa9, hsa9⟩ := hG.2.1.2.2.2.2.2.1 (306, "the tube is used") (by decide +kernel)
    exact vx_throwSW (text := "the tube is used") (names := ["java/lang/RuntimeException", "java/lang/Exception"]) hx hb hl9 hown (by decide +kernel) (by decide +kernel) (hts (.classLink RX4 122 "java/lang/UnsupportedOperationException") (by decide +kernel)) (hts (.initialized "java/lang/UnsupportedOperationException") (by decide +kernel)) hsa9 (m_hat hG (fun w h => hts w (List.mem_cons_of_mem _ (List.mem_append_right _ h))) (by decide +kernel) (by decide +kernel)) (by decide +kernel) hG.2.2.1 hG.2.2.2.1 hS (hl.1.trans hml.symm) dX4_demandUnused_7 dX4_demandUnused_10 dX4_demandUnused_11 dX4_demandUnused_14 dX4_demandUnused_17 (fun x hx9 => absurd hx9 (fun q => hxt x q)) (Nat.le_of_ble_eq_true rfl) (Nat.le_of_ble_eq_true rfl) (Nat.le_of_ble_eq_true rfl) (Nat.le_of_ble_eq_true rfl) hlocks (fun t9 _ h92 h93 => m_thrown (px := fun E => E = "java/lang/UnsupportedOperationException" ∧ ¬ (us0 = 0)) (E := "java/lang/UnsupportedOperationException") hP hI hS (⟨rfl, by first | assumption | exact fun q => q (by assumption)⟩) t9 h92 h93) hS.2.2 (Nat.le_of_ble_eq_true rfl) (Nat.le_of_ble_eq_true rfl)

set_option maxHeartbeats 4000000 in
set_option maxRecDepth 100000 in
theorem c_X4_steamAt (l : Launch) (G : mg) (A : Nat → Prop) (Mw : mw) (p0 : Int32) : Met l yX4_steamAt wsX4_steamAt ({ frames := 0, cells := 0, slots := 0, locals := 0 }) (va_Pc [.int p0] (mB G A Mw)) (va_Qi (fun r Mw1 => r = (sta p0) ∧ Mw1 = Mw) (mE G A) A) 0 0 A := by
  refine Met.ofW (cc := cX4_steamAt) (maxL := 1) (ret := (some .int)) (by decide) rfl ?_
  intro p e s m args below meth c s₁ B hml hv
  obtain ⟨rfl, hG, hP, hI, hA⟩ := hv
  have hx := B.exec
  have hb := B.bytes
  have hr := B.returns
  have hts := atoms_spec (ws := wsX4_steamAt) B.pre
  have hown : s.vm.findClass RX4 = some m.cls := findClass_of_methodNamed B.named
  have hlocks := B.notSynchronized
  have hK := hG.K
  have hS : va_S A s.heap s.heap [] := va_S.rf
  have hl := lv_entry ([.int p0]) (n := 1) (Nat.le_of_ble_eq_true rfl)
  rw [lg_entry_eq]
  generalize (lg_sl ([.int p0]) ++ List.replicate (1 - (lg_sl ([.int p0])).length) Slot.unset).toArray = ls at hl ⊢
  have hl : lv_has ls 1 [(0, .int p0)] := hl
  have hP : mP G.1 Mw s.heap := hP
  refine lv_sipush (v := (1000)) hx hb dX4_steamAt_0 (by decide) ?_
  refine lv_bipush (v := (37)) hx hb dX4_steamAt_3 (by decide) ?_
  refine lv_iload_n hx hb dX4_steamAt_5 rfl (lv_at hl 0 rfl) ?_
  refine lv_sipush (v := (760)) hx hb dX4_steamAt_6 (by decide) ?_
  refine lv_isub hx hb dX4_steamAt_9 ?_
  refine lv_imul hx hb dX4_steamAt_10 ?_
  refine lv_bipush (v := (100)) hx hb dX4_steamAt_11 (by decide) ?_
  refine lv_idiv hx hb dX4_steamAt_13 (by decide) ?_
  refine lv_iadd hx hb dX4_steamAt_14 ?_
  refine W.widen (k := 0) (n := 0) (Nat.le_of_ble_eq_true rfl) (Nat.le_of_ble_eq_true rfl) ?_
  exact W.iret (v := 1000 + ((37 * (p0 - 760)) / 100)) hx hb hr (fun t99 ht99 hW99 => ⟨⟨1000 + ((37 * (p0 - 760)) / 100), Mw, rfl, ⟨rfl, rfl⟩, by rw [ht99]; exact hP, hI⟩, hS.F ht99⟩) hS.2.2 dX4_steamAt_15

set_option maxHeartbeats 4000000 in
set_option maxRecDepth 100000 in
theorem c_X4_clingingToStep (l : Launch) (G : mg) (A : Nat → Prop) (Mw : mw) (p0 : Int32) : Met l yX4_clingingToStep wsX4_clingingToStep ({ frames := 0, cells := 0, slots := 0, locals := 0 }) (va_Pc [.int p0] (mB G A Mw)) (va_Qi (fun r Mw1 => r = (cts p0) ∧ Mw1 = Mw) (mE G A) A) 0 0 A := by
  refine Met.ofW (cc := cX4_clingingToStep) (maxL := 1) (ret := (some .int)) (by decide) rfl ?_
  intro p e s m args below meth c s₁ B hml hv
  obtain ⟨rfl, hG, hP, hI, hA⟩ := hv
  have hx := B.exec
  have hb := B.bytes
  have hr := B.returns
  have hts := atoms_spec (ws := wsX4_clingingToStep) B.pre
  have hown : s.vm.findClass RX4 = some m.cls := findClass_of_methodNamed B.named
  have hlocks := B.notSynchronized
  have hK := hG.K
  have hS : va_S A s.heap s.heap [] := va_S.rf
  have hl := lv_entry ([.int p0]) (n := 1) (Nat.le_of_ble_eq_true rfl)
  rw [lg_entry_eq]
  generalize (lg_sl ([.int p0]) ++ List.replicate (1 - (lg_sl ([.int p0])).length) Slot.unset).toArray = ls at hl ⊢
  have hl : lv_has ls 1 [(0, .int p0)] := hl
  have hP : mP G.1 Mw s.heap := hP
  refine lv_iload_n hx hb dX4_clingingToStep_0 rfl (lv_at hl 0 rfl) ?_
  refine lv_bipush (v := (60)) hx hb dX4_clingingToStep_1 (by decide) ?_
  refine lv_icmp_ge (tgt := 19) hx hb dX4_clingingToStep_3 (by decide) (fun c1 => ?_) (fun c1 => ?_)
  · skip
    refine lv_iconst (v := 0) hx hb dX4_clingingToStep_19 (by decide) ?_
    refine W.widen (k := 0) (n := 0) (Nat.le_of_ble_eq_true rfl) (Nat.le_of_ble_eq_true rfl) ?_
    exact W.iret (v := 0) hx hb hr (fun t99 ht99 hW99 => ⟨⟨0, Mw, rfl, ⟨(if_pos c1).symm, rfl⟩, by rw [ht99]; exact hP, hI⟩, hS.F ht99⟩) hS.2.2 dX4_clingingToStep_20
  · skip
    refine lv_bipush (v := (60)) hx hb dX4_clingingToStep_6 (by decide) ?_
    refine lv_iload_n hx hb dX4_clingingToStep_8 rfl (lv_at hl 0 rfl) ?_
    refine lv_isub hx hb dX4_clingingToStep_9 ?_
    refine lv_bipush (v := (9)) hx hb dX4_clingingToStep_10 (by decide) ?_
    refine lv_iadd hx hb dX4_clingingToStep_12 ?_
    refine lv_bipush (v := (10)) hx hb dX4_clingingToStep_13 (by decide) ?_
    refine lv_idiv hx hb dX4_clingingToStep_15 (by decide) ?_
    refine lv_goto (tgt := 20) hx hb dX4_clingingToStep_16 (by decide) ?_
    refine W.widen (k := 0) (n := 0) (Nat.le_of_ble_eq_true rfl) (Nat.le_of_ble_eq_true rfl) ?_
    exact W.iret (v := ((60 - p0) + 9) / 10) hx hb hr (fun t99 ht99 hW99 => ⟨⟨((60 - p0) + 9) / 10, Mw, rfl, ⟨(if_neg c1).symm, rfl⟩, by rw [ht99]; exact hP, hI⟩, hS.F ht99⟩) hS.2.2 dX4_clingingToStep_20

set_option maxHeartbeats 4000000 in
set_option maxRecDepth 100000 in
theorem c_X4_tubeNumbered (l : Launch) (G : mg) (A : Nat → Prop) (Mw : mw) (hl9 : l.stackTraces = false) (p0 : Int32) {x0 ta0 ia0 : Nat} {tc0 ic0 air0 day0 stk0 spl0 bgt0 : Int32} (h_X : Mw x0 = some (.inr (4, [.ref ta0, .ref ia0, .int tc0, .int ic0, .int air0, .int day0, .int stk0, .int spl0, .int bgt0]))) {n8 : Nat} {tb8 : Nat → Nat} (hn8 : n8 ≤ 8) (h_TA : Mw ta0 = some (.inl (G.2.1 3, 8, .inr (.inr (.inr (.inr (qf n8 tb8))))))) : vx_Met l yX4_tubeNumbered wsX4_tubeNumbered ({ frames := 6, cells := 1, slots := 6, locals := 82 }) (va_Pc [.ref x0, .int p0] (mB G A Mw)) (va_Qq (fun r Mw1 => (tkN n8 p0 ∧ r = some (tb8 (ix p0))) ∧ Mw1 = Mw) (mE G A) A) (xX (fun E => E = "java/lang/IndexOutOfBoundsException" ∧ ¬ (tkN n8 p0)) G A Mw) 1 6 A := by
  refine vx_ofW (cc := cX4_tubeNumbered) (maxL := 2) (ret := (some (.object "Meniscus$Tube"))) (by decide) rfl ?_
  intro p e s m args below meth c s₁ B hml hxt hv
  obtain ⟨rfl, hG, hP, hI, hA⟩ := hv
  have hx := B.exec
  have hb := B.bytes
  have hr := B.returns
  have hts := atoms_spec (ws := wsX4_tubeNumbered) B.pre
  have hown : s.vm.findClass RX4 = some m.cls := findClass_of_methodNamed B.named
  have hlocks := B.notSynchronized
  have hK := hG.K
  have i_X4 : ∀ w ∈ wsX40, w ∈ wsX4_tubeNumbered := by decide +kernel
  have hS : va_S A s.heap s.heap [] := va_S.rf
  have hl := lv_entry ([.ref x0, .int p0]) (n := 2) (Nat.le_of_ble_eq_true rfl)
  rw [lg_entry_eq]
  generalize (lg_sl ([.ref x0, .int p0]) ++ List.replicate (2 - (lg_sl ([.ref x0, .int p0])).length) Slot.unset).toArray = ls at hl ⊢
  have hl : lv_has ls 2 [(0, .ref x0), (1, .int p0)] := hl
  have hP : mP G.1 Mw s.heap := hP
  refine lv_iload_n hx hb dX4_tubeNumbered_0 rfl (lv_at hl 1 rfl) ?_
  refine lv_if_lt (tgt := 22) hx hb dX4_tubeNumbered_1 (by decide) (fun c1 => ?_) (fun c1 => ?_)
  · skip
    obtain ⟨sa9, hsa9⟩ := hG.2.1.2.2.2.2.2.1 (290, "no such tube") (by decide +kernel)
    exact vx_throwSW (text := "no such tube") (names := ["java/lang/RuntimeException", "java/lang/Exception"]) hx hb hl9 hown (by decide +kernel) (by decide +kernel) (hts (.classLink RX4 288 "java/lang/IndexOutOfBoundsException") (by decide +kernel)) (hts (.initialized "java/lang/IndexOutOfBoundsException") (by decide +kernel)) hsa9 (m_hat hG (fun w h => hts w (List.mem_cons_of_mem _ (List.mem_append_right _ h))) (by decide +kernel) (by decide +kernel)) (by decide +kernel) hG.2.2.1 hG.2.2.2.1 hS (hl.1.trans hml.symm) dX4_tubeNumbered_22 dX4_tubeNumbered_25 dX4_tubeNumbered_26 dX4_tubeNumbered_29 dX4_tubeNumbered_32 (fun x hx9 => absurd hx9 (fun q => hxt x q)) (Nat.le_of_ble_eq_true rfl) (Nat.le_of_ble_eq_true rfl) (Nat.le_of_ble_eq_true rfl) (Nat.le_of_ble_eq_true rfl) hlocks (fun t9 _ h92 h93 => m_thrown (px := fun E => E = "java/lang/IndexOutOfBoundsException" ∧ ¬ (tkN n8 p0)) (E := "java/lang/IndexOutOfBoundsException") hP hI hS (⟨rfl, by first | exact tk_out (by assumption) | exact tk_neg (by assumption) | exact tk_big hn8 (by omega) (by assumption)⟩) t9 h92 h93) hS.2.2 (Nat.le_of_ble_eq_true rfl) (Nat.le_of_ble_eq_true rfl)
  · skip
    refine lv_iload_n hx hb dX4_tubeNumbered_4 rfl (lv_at hl 1 rfl) ?_
    refine lv_aload_n hx hb dX4_tubeNumbered_5 rfl (lv_at hl 0 rfl) ?_
    refine m_get (ci := 4) (v := .ref ta0) (C := RX4) (T := TX4) (N := 9) hx hb hts i_X4 hown hK (hP _ _ h_X) rfl 0 (by decide) (hts (.fieldLink RX4 11 "Meniscus" "tubes" "[LMeniscus$Tube;") (by decide +kernel)) (fun _ h9 => h9) rfl dX4_tubeNumbered_6 ?_
    refine m_alen (v := 8) hx hb hK 3 (hP _ _ h_TA) rfl rfl dX4_tubeNumbered_9 ?_
    refine lv_icmp_ge (tgt := 22) hx hb dX4_tubeNumbered_10 (by decide) (fun c2 => ?_) (fun c2 => ?_)
    · skip
      obtain ⟨sa9, hsa9⟩ := hG.2.1.2.2.2.2.2.1 (290, "no such tube") (by decide +kernel)
      exact vx_throwSW (text := "no such tube") (names := ["java/lang/RuntimeException", "java/lang/Exception"]) hx hb hl9 hown (by decide +kernel) (by decide +kernel) (hts (.classLink RX4 288 "java/lang/IndexOutOfBoundsException") (by decide +kernel)) (hts (.initialized "java/lang/IndexOutOfBoundsException") (by decide +kernel)) hsa9 (m_hat hG (fun w h => hts w (List.mem_cons_of_mem _ (List.mem_append_right _ h))) (by decide +kernel) (by decide +kernel)) (by decide +kernel) hG.2.2.1 hG.2.2.2.1 hS (hl.1.trans hml.symm) dX4_tubeNumbered_22 dX4_tubeNumbered_25 dX4_tubeNumbered_26 dX4_tubeNumbered_29 dX4_tubeNumbered_32 (fun x hx9 => absurd hx9 (fun q => hxt x q)) (Nat.le_of_ble_eq_true rfl) (Nat.le_of_ble_eq_true rfl) (Nat.le_of_ble_eq_true rfl) (Nat.le_of_ble_eq_true rfl) hlocks (fun t9 _ h92 h93 => m_thrown (px := fun E => E = "java/lang/IndexOutOfBoundsException" ∧ ¬ (tkN n8 p0)) (E := "java/lang/IndexOutOfBoundsException") hP hI hS (⟨rfl, by first | exact tk_out (by assumption) | exact tk_neg (by assumption) | exact tk_big hn8 (by omega) (by assumption)⟩) t9 h92 h93) hS.2.2 (Nat.le_of_ble_eq_true rfl) (Nat.le_of_ble_eq_true rfl)
    · skip
      refine lv_aload_n hx hb dX4_tubeNumbered_13 rfl (lv_at hl 0 rfl) ?_
      refine m_get (ci := 4) (v := .ref ta0) (C := RX4) (T := TX4) (N := 9) hx hb hts i_X4 hown hK (hP _ _ h_X) rfl 0 (by decide) (hts (.fieldLink RX4 11 "Meniscus" "tubes" "[LMeniscus$Tube;") (by decide +kernel)) (fun _ h9 => h9) rfl dX4_tubeNumbered_14 ?_
      refine lv_iload_n hx hb dX4_tubeNumbered_17 rfl (lv_at hl 1 rfl) ?_
      refine m_aldq hx hb hK 3 (hP _ _ h_TA) rfl (vin_of (by assumption) (by omega) (by assumption)) dX4_tubeNumbered_18 ?_
      rcases Nat.lt_or_ge (ix p0) n8 with hj9 | hj9
      · rw [qf_p hj9]
        refine lv_ifnonnull (tgt := 33) hx hb dX4_tubeNumbered_19 (by decide) ?_
        refine lv_aload_n hx hb dX4_tubeNumbered_33 rfl (lv_at hl 0 rfl) ?_
        refine m_get (ci := 4) (v := .ref ta0) (C := RX4) (T := TX4) (N := 9) hx hb hts i_X4 hown hK (hP _ _ h_X) rfl 0 (by decide) (hts (.fieldLink RX4 11 "Meniscus" "tubes" "[LMeniscus$Tube;") (by decide +kernel)) (fun _ h9 => h9) rfl dX4_tubeNumbered_34 ?_
        refine lv_iload_n hx hb dX4_tubeNumbered_37 rfl (lv_at hl 1 rfl) ?_
        refine m_aldq hx hb hK 3 (hP _ _ h_TA) rfl (vin_of (by assumption) (by omega) (by assumption)) dX4_tubeNumbered_38 ?_
        rw [qf_p hj9]
        refine W.widen (k := 1) (n := 6) (Nat.le_of_ble_eq_true rfl) (Nat.le_of_ble_eq_true rfl) ?_
        refine vx_ret ?_
        exact W.aret (v := .ref (tb8 (ix p0))) hx hb hr (Or.inl ⟨_, rfl⟩) (Or.inr ⟨_, rfl⟩) (fun t99 ht99 hW99 => ⟨⟨some (tb8 (ix p0)), Mw, rfl, ⟨⟨⟨by assumption, hj9⟩, rfl⟩, rfl⟩, by rw [ht99]; exact hP, hI⟩, hS.F ht99⟩) hS.2.2 dX4_tubeNumbered_39
      · rw [qf_n hj9]
        refine lv_ifnonnullN hx hb dX4_tubeNumbered_19 ?_
        obtain ⟨sa9, hsa9⟩ := hG.2.1.2.2.2.2.2.1 (290, "no such tube") (by decide +kernel)
        exact vx_throwSW (text := "no such tube") (names := ["java/lang/RuntimeException", "java/lang/Exception"]) hx hb hl9 hown (by decide +kernel) (by decide +kernel) (hts (.classLink RX4 288 "java/lang/IndexOutOfBoundsException") (by decide +kernel)) (hts (.initialized "java/lang/IndexOutOfBoundsException") (by decide +kernel)) hsa9 (m_hat hG (fun w h => hts w (List.mem_cons_of_mem _ (List.mem_append_right _ h))) (by decide +kernel) (by decide +kernel)) (by decide +kernel) hG.2.2.1 hG.2.2.2.1 hS (hl.1.trans hml.symm) dX4_tubeNumbered_22 dX4_tubeNumbered_25 dX4_tubeNumbered_26 dX4_tubeNumbered_29 dX4_tubeNumbered_32 (fun x hx9 => absurd hx9 (fun q => hxt x q)) (Nat.le_of_ble_eq_true rfl) (Nat.le_of_ble_eq_true rfl) (Nat.le_of_ble_eq_true rfl) (Nat.le_of_ble_eq_true rfl) hlocks (fun t9 _ h92 h93 => m_thrown (px := fun E => E = "java/lang/IndexOutOfBoundsException" ∧ ¬ (tkN n8 p0)) (E := "java/lang/IndexOutOfBoundsException") hP hI hS (⟨rfl, by first | exact tk_out (by assumption) | exact tk_neg (by assumption) | exact tk_big hn8 (by omega) (by assumption)⟩) t9 h92 h93) hS.2.2 (Nat.le_of_ble_eq_true rfl) (Nat.le_of_ble_eq_true rfl)

