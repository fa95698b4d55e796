set_option maxHeartbeats 4000000 in
set_option maxRecDepth 100000 in
theorem c_X7_isIn (l : Launch) (G : mg) (A : Nat → Prop) (Mw : mw) (p0 p1 p2 : Int32) : Met l yX7_isIn wsX7_isIn ({ frames := 0, cells := 0, slots := 0, locals := 0 }) (va_Pc [.int p0, .int p1, .int p2] (mB G A Mw)) (va_Qi (fun r Mw1 => ((r = 0 ∧ ¬ rng p0 p1 p2) ∨ (r = 1 ∧ rng p0 p1 p2)) ∧ Mw1 = Mw) (mE G A) A) 0 0 A := by
  refine Met.ofW (cc := cX7_isIn) (maxL := 3) (ret := (some .boolean)) (by decide) rfl ?_
  intro p e s m args below meth c s₁ B hml hv
  obtain ⟨rfl, hG, hP, hI, hA⟩ := hv
  have hx := B.exec
  have hb := B.bytes
  have hr := B.returns
  have hts := atoms_spec (ws := wsX7_isIn) B.pre
  have hown : s.vm.findClass RX7 = some m.cls := findClass_of_methodNamed B.named
  have hlocks := B.notSynchronized
  have hK := hG.K
  have hS : va_S A s.heap s.heap [] := va_S.rf
  have hl := lv_entry ([.int p0, .int p1, .int p2]) (n := 3) (Nat.le_of_ble_eq_true rfl)
  rw [lg_entry_eq]
  generalize (lg_sl ([.int p0, .int p1, .int p2]) ++ List.replicate (3 - (lg_sl ([.int p0, .int p1, .int p2])).length) Slot.unset).toArray = ls at hl ⊢
  have hl : lv_has ls 3 [(0, .int p0), (1, .int p1), (2, .int p2)] := hl
  have hP : mP G.1 Mw s.heap := hP
  refine lv_iload_n hx hb dX7_isIn_0 rfl (lv_at hl 0 rfl) ?_
  refine lv_iload_n hx hb dX7_isIn_1 rfl (lv_at hl 1 rfl) ?_
  refine lv_icmp_lt (tgt := 14) hx hb dX7_isIn_2 (by decide) (fun c1 => ?_) (fun c1 => ?_)
  · skip
    refine lv_iconst (v := 0) hx hb dX7_isIn_14 (by decide) ?_
    refine W.widen (k := 0) (n := 0) (Nat.le_of_ble_eq_true rfl) (Nat.le_of_ble_eq_true rfl) ?_
    exact W.zret (v := 0) hx hb hr rfl (fun t99 ht99 hW99 => ⟨⟨0, Mw, rfl, ⟨Or.inl ⟨rfl, fun q9 => q9.1 c1⟩, rfl⟩, by rw [ht99]; exact hP, hI⟩, hS.F ht99⟩) hS.2.2 dX7_isIn_15
  · skip
    refine lv_iload_n hx hb dX7_isIn_5 rfl (lv_at hl 0 rfl) ?_
    refine lv_iload_n hx hb dX7_isIn_6 rfl (lv_at hl 2 rfl) ?_
    refine lv_icmp_gt (tgt := 14) hx hb dX7_isIn_7 (by decide) (fun c2 => ?_) (fun c2 => ?_)
    · skip
      refine lv_iconst (v := 0) hx hb dX7_isIn_14 (by decide) ?_
      refine W.widen (k := 0) (n := 0) (Nat.le_of_ble_eq_true rfl) (Nat.le_of_ble_eq_true rfl) ?_
      exact W.zret (v := 0) hx hb hr rfl (fun t99 ht99 hW99 => ⟨⟨0, Mw, rfl, ⟨Or.inl ⟨rfl, fun q9 => absurd q9.2 (i_nle c2)⟩, rfl⟩, by rw [ht99]; exact hP, hI⟩, hS.F ht99⟩) hS.2.2 dX7_isIn_15
    · skip
      refine lv_iconst (v := 1) hx hb dX7_isIn_10 (by decide) ?_
      refine lv_goto (tgt := 15) hx hb dX7_isIn_11 (by decide) ?_
      refine W.widen (k := 0) (n := 0) (Nat.le_of_ble_eq_true rfl) (Nat.le_of_ble_eq_true rfl) ?_
      exact W.zret (v := 1) hx hb hr rfl (fun t99 ht99 hW99 => ⟨⟨1, Mw, rfl, ⟨Or.inr ⟨rfl, c1, i_le c2⟩, rfl⟩, by rw [ht99]; exact hP, hI⟩, hS.F ht99⟩) hS.2.2 dX7_isIn_15

set_option maxHeartbeats 4000000 in
set_option maxRecDepth 100000 in
theorem c_X7_isNoPlace (l : Launch) (G : mg) (A : Nat → Prop) (Mw : mw) (p0 : Int32) : Met l yX7_isNoPlace wsX7_isNoPlace ({ frames := 1, cells := 0, slots := 0, locals := 22 }) (va_Pc [.int p0] (mB G A Mw)) (va_Qi (fun r Mw1 => ((r = 0 ∧ rng p0 0 200) ∨ (r = 1 ∧ ¬ rng p0 0 200)) ∧ Mw1 = Mw) (mE G A) A) 0 0 A := by
  refine Met.ofW (cc := cX7_isNoPlace) (maxL := 1) (ret := (some .boolean)) (by decide) rfl ?_
  intro p e s m args below meth c s₁ B hml hv
  obtain ⟨rfl, hG, hP, hI, hA⟩ := hv
  have hx := B.exec
  have hb := B.bytes
  have hr := B.returns
  have hts := atoms_spec (ws := wsX7_isNoPlace) B.pre
  have hown : s.vm.findClass RX7 = some m.cls := findClass_of_methodNamed B.named
  have hlocks := B.notSynchronized
  have hK := hG.K
  have hS : va_S A s.heap s.heap [] := va_S.rf
  have hl := lv_entry ([.int p0]) (n := 1) (Nat.le_of_ble_eq_true rfl)
  rw [lg_entry_eq]
  generalize (lg_sl ([.int p0]) ++ List.replicate (1 - (lg_sl ([.int p0])).length) Slot.unset).toArray = ls at hl ⊢
  have hl : lv_has ls 1 [(0, .int p0)] := hl
  have hP : mP G.1 Mw s.heap := hP
  refine lv_iload_n hx hb dX7_isNoPlace_0 rfl (lv_at hl 0 rfl) ?_
  refine lv_iconst (v := 0) hx hb dX7_isNoPlace_1 (by decide) ?_
  refine lv_sipush (v := (200)) hx hb dX7_isNoPlace_2 (by decide) ?_
  refine m_calli (va_runS (As := [.int p0, .int 0, .int 200]) (rest := []) ⟨hx, hb, hml, hown, hts⟩ (c_X7_isIn l G A Mw  p0 0 200) (va_cwS 3 hts gX7_isNoPlace_X7_isIn rfl rfl rfl (by decide +kernel) ⟨Nat.le_of_ble_eq_true rfl, Nat.le_of_ble_eq_true rfl⟩) (mPreS hG hS hP hI hA) rfl rfl hl.1 rfl (lv_room (Nat.le_of_ble_eq_true rfl)) dX7_isNoPlace_5 ⟨Nat.le_of_ble_eq_true rfl, Nat.le_of_ble_eq_true rfl⟩) hS (fun r1 Mw1 H locs hp_r1 hP hI hS => ?_)
  obtain ⟨hb9, hm9⟩ := hp_r1
  subst Mw1
  rcases hb9 with ⟨hr9, hq_r1⟩ | ⟨hr9, hq_r1⟩
  · subst hr9
    refine lv_if_ne (tgt := 15) hx hb dX7_isNoPlace_8 (by decide) (fun h9 => absurd h9 (by decide)) (fun _ => ?_)
    refine lv_iconst (v := 1) hx hb dX7_isNoPlace_11 (by decide) ?_
    refine lv_goto (tgt := 16) hx hb dX7_isNoPlace_12 (by decide) ?_
    refine W.widen (k := 0) (n := 0) (Nat.le_of_ble_eq_true rfl) (Nat.le_of_ble_eq_true rfl) ?_
    exact W.zret (v := 1) hx hb hr rfl (fun t99 ht99 hW99 => ⟨⟨1, Mw, rfl, ⟨Or.inr ⟨rfl, hq_r1⟩, rfl⟩, by rw [ht99]; exact hP, hI⟩, hS.F ht99⟩) hS.2.2 dX7_isNoPlace_16
  · subst hr9
    refine lv_if_ne (tgt := 15) hx hb dX7_isNoPlace_8 (by decide) (fun _ => ?_) (fun h9 => absurd h9 (by decide))
    refine lv_iconst (v := 0) hx hb dX7_isNoPlace_15 (by decide) ?_
    refine W.widen (k := 0) (n := 0) (Nat.le_of_ble_eq_true rfl) (Nat.le_of_ble_eq_true rfl) ?_
    exact W.zret (v := 0) hx hb hr rfl (fun t99 ht99 hW99 => ⟨⟨0, Mw, rfl, ⟨Or.inl ⟨rfl, hq_r1⟩, rfl⟩, by rw [ht99]; exact hP, hI⟩, hS.F ht99⟩) hS.2.2 dX7_isNoPlace_16

set_option maxHeartbeats 4000000 in
set_option maxRecDepth 100000 in
theorem c_X7_isNoHeat (l : Launch) (G : mg) (A : Nat → Prop) (Mw : mw) (p0 : Int32) : Met l yX7_isNoHeat wsX7_isNoHeat ({ frames := 1, cells := 0, slots := 0, locals := 22 }) (va_Pc [.int p0] (mB G A Mw)) (va_Qi (fun r Mw1 => ((r = 0 ∧ rng p0 (-300) 3000) ∨ (r = 1 ∧ ¬ rng p0 (-300) 3000)) ∧ Mw1 = Mw) (mE G A) A) 0 0 A := by
  refine Met.ofW (cc := cX7_isNoHeat) (maxL := 1) (ret := (some .boolean)) (by decide) rfl ?_
  intro p e s m args below meth c s₁ B hml hv
  obtain ⟨rfl, hG, hP, hI, hA⟩ := hv
  have hx := B.exec
  have hb := B.bytes
  have hr := B.returns
  have hts := atoms_spec (ws := wsX7_isNoHeat) B.pre
  have hown : s.vm.findClass RX7 = some m.cls := findClass_of_methodNamed B.named
  have hlocks := B.notSynchronized
  have hK := hG.K
  have hS : va_S A s.heap s.heap [] := va_S.rf
  have hl := lv_entry ([.int p0]) (n := 1) (Nat.le_of_ble_eq_true rfl)
  rw [lg_entry_eq]
  generalize (lg_sl ([.int p0]) ++ List.replicate (1 - (lg_sl ([.int p0])).length) Slot.unset).toArray = ls at hl ⊢
  have hl : lv_has ls 1 [(0, .int p0)] := hl
  have hP : mP G.1 Mw s.heap := hP
  refine lv_iload_n hx hb dX7_isNoHeat_0 rfl (lv_at hl 0 rfl) ?_
  refine lv_sipush (v := (-300)) hx hb dX7_isNoHeat_1 (by decide) ?_
  refine lv_sipush (v := (3000)) hx hb dX7_isNoHeat_4 (by decide) ?_
  refine m_calli (va_runS (As := [.int p0, .int ((-300)), .int 3000]) (rest := []) ⟨hx, hb, hml, hown, hts⟩ (c_X7_isIn l G A Mw  p0 (-300) 3000) (va_cwS 3 hts gX7_isNoHeat_X7_isIn rfl rfl rfl (by decide +kernel) ⟨Nat.le_of_ble_eq_true rfl, Nat.le_of_ble_eq_true rfl⟩) (mPreS hG hS hP hI hA) rfl rfl hl.1 rfl (lv_room (Nat.le_of_ble_eq_true rfl)) dX7_isNoHeat_7 ⟨Nat.le_of_ble_eq_true rfl, Nat.le_of_ble_eq_true rfl⟩) hS (fun r1 Mw1 H locs hp_r1 hP hI hS => ?_)
  obtain ⟨hb9, hm9⟩ := hp_r1
  subst Mw1
  rcases hb9 with ⟨hr9, hq_r1⟩ | ⟨hr9, hq_r1⟩
  · subst hr9
    refine lv_if_ne (tgt := 17) hx hb dX7_isNoHeat_10 (by decide) (fun h9 => absurd h9 (by decide)) (fun _ => ?_)
    refine lv_iconst (v := 1) hx hb dX7_isNoHeat_13 (by decide) ?_
    refine lv_goto (tgt := 18) hx hb dX7_isNoHeat_14 (by decide) ?_
    refine W.widen (k := 0) (n := 0) (Nat.le_of_ble_eq_true rfl) (Nat.le_of_ble_eq_true rfl) ?_
    exact W.zret (v := 1) hx hb hr rfl (fun t99 ht99 hW99 => ⟨⟨1, Mw, rfl, ⟨Or.inr ⟨rfl, hq_r1⟩, rfl⟩, by rw [ht99]; exact hP, hI⟩, hS.F ht99⟩) hS.2.2 dX7_isNoHeat_18
  · subst hr9
    refine lv_if_ne (tgt := 17) hx hb dX7_isNoHeat_10 (by decide) (fun _ => ?_) (fun h9 => absurd h9 (by decide))
    refine lv_iconst (v := 0) hx hb dX7_isNoHeat_17 (by decide) ?_
    refine W.widen (k := 0) (n := 0) (Nat.le_of_ble_eq_true rfl) (Nat.le_of_ble_eq_true rfl) ?_
    exact W.zret (v := 0) hx hb hr rfl (fun t99 ht99 hW99 => ⟨⟨0, Mw, rfl, ⟨Or.inl ⟨rfl, hq_r1⟩, rfl⟩, by rw [ht99]; exact hP, hI⟩, hS.F ht99⟩) hS.2.2 dX7_isNoHeat_18

set_option maxHeartbeats 4000000 in
set_option maxRecDepth 100000 in
theorem c_X7_boils (l : Launch) (G : mg) (A : Nat → Prop) (Mw : mw) (p0 : Int32) : Met l yX7_boils wsX7_boils ({ frames := 0, cells := 0, slots := 0, locals := 0 }) (va_Pc [.int p0] (mB G A Mw)) (va_Qi (fun r Mw1 => r = (sta p0) ∧ Mw1 = Mw) (mE G A) A) 0 0 A := by
  refine Met.ofW (cc := cX7_boils) (maxL := 1) (ret := (some .int)) (by decide) rfl ?_
  intro p e s m args below meth c s₁ B hml hv
  obtain ⟨rfl, hG, hP, hI, hA⟩ := hv
  have hx := B.exec
  have hb := B.bytes
  have hr := B.returns
  have hts := atoms_spec (ws := wsX7_boils) B.pre
  have hown : s.vm.findClass RX7 = some m.cls := findClass_of_methodNamed B.named
  have hlocks := B.notSynchronized
  have hK := hG.K
  have hS : va_S A s.heap s.heap [] := va_S.rf
  have hl := lv_entry ([.int p0]) (n := 1) (Nat.le_of_ble_eq_true rfl)
  rw [lg_entry_eq]
  generalize (lg_sl ([.int p0]) ++ List.replicate (1 - (lg_sl ([.int p0])).length) Slot.unset).toArray = ls at hl ⊢
  have hl : lv_has ls 1 [(0, .int p0)] := hl
  have hP : mP G.1 Mw s.heap := hP
  refine lv_sipush (v := (1000)) hx hb dX7_boils_0 (by decide) ?_
  refine lv_bipush (v := (37)) hx hb dX7_boils_3 (by decide) ?_
  refine lv_iload_n hx hb dX7_boils_5 rfl (lv_at hl 0 rfl) ?_
  refine lv_sipush (v := (760)) hx hb dX7_boils_6 (by decide) ?_
  refine lv_isub hx hb dX7_boils_9 ?_
  refine lv_imul hx hb dX7_boils_10 ?_
  refine lv_bipush (v := (100)) hx hb dX7_boils_11 (by decide) ?_
  refine lv_idiv hx hb dX7_boils_13 (by decide) ?_
  refine lv_iadd hx hb dX7_boils_14 ?_
  refine W.widen (k := 0) (n := 0) (Nat.le_of_ble_eq_true rfl) (Nat.le_of_ble_eq_true rfl) ?_
  exact W.iret (v := 1000 + ((37 * (p0 - 760)) / 100)) hx hb hr (fun t99 ht99 hW99 => ⟨⟨1000 + ((37 * (p0 - 760)) / 100), Mw, rfl, ⟨rfl, rfl⟩, by rw [ht99]; exact hP, hI⟩, hS.F ht99⟩) hS.2.2 dX7_boils_15

set_option maxHeartbeats 4000000 in
set_option maxRecDepth 100000 in
theorem c_X7_isThrown0 (l : Launch) (G : mg) (A : Nat → Prop) (Mw : mw) (p0 : Int32) {xx tl il : Nat} {w2 w3 w1 w0 wt : Int32} (h_X : Mw xx = some (.inr (10, [.ref tl, .ref il, .int w2, .int w3, .int w1, .int w0, .int wt]))) : Met l yX7_isThrown wsX7_isThrown ({ frames := 0, cells := 0, slots := 0, locals := 0 }) (va_Pc [.ref xx, .int 0, .int p0] (mB G A Mw)) (va_Qi (fun r Mw1 => r = 0 ∧ Mw1 = mu Mw xx (.inr (10, [.ref tl, .ref il, .int w2, .int w3, .int w1, .int w0, .int 0]))) (mE G A) A) 0 0 A := by
  refine Met.ofW (cc := cX7_isThrown) (maxL := 3) (ret := (some .boolean)) (by decide) rfl ?_
  intro p e s m args below meth c s₁ B hml hv
  obtain ⟨rfl, hG, hP, hI, hA⟩ := hv
  have hx := B.exec
  have hb := B.bytes
  have hr := B.returns
  have hts := atoms_spec (ws := wsX7_isThrown) B.pre
  have hown : s.vm.findClass RX7 = some m.cls := findClass_of_methodNamed B.named
  have hlocks := B.notSynchronized
  have hK := hG.K
  have i_X7 : ∀ w ∈ wsX70, w ∈ wsX7_isThrown := by decide +kernel
  have hS : va_S A s.heap s.heap [] := va_S.rf
  have hl := lv_entry ([.ref xx, .int 0, .int p0]) (n := 3) (Nat.le_of_ble_eq_true rfl)
  rw [lg_entry_eq]
  generalize (lg_sl ([.ref xx, .int 0, .int p0]) ++ List.replicate (3 - (lg_sl ([.ref xx, .int 0, .int p0])).length) Slot.unset).toArray = ls at hl ⊢
  have hl : lv_has ls 3 [(0, .ref xx), (1, .int 0), (2, .int p0)] := hl
  have hP : mP G.1 Mw s.heap := hP
  refine lv_aload_n hx hb dX7_isThrown_0 rfl (lv_at hl 0 rfl) ?_
  refine lv_iload_n hx hb dX7_isThrown_1 rfl (lv_at hl 1 rfl) ?_
  refine lv_if_eq (tgt := 9) hx hb dX7_isThrown_2 (by decide) (fun _ => ?_) (fun h9 => absurd h9 (by decide))
  refine lv_iconst (v := 0) hx hb dX7_isThrown_9 (by decide) ?_
  refine m_put (ci := 10) (v := .int 0) (ty := .int) (C := RX7) (T := TX7) (N := 7) hx hb hts i_X7 tyX7 tyX7_ok nmX7 hown hK hP hI hS h_X rfl 6 (by decide) (hts (.fieldLink RX7 23 "MeniscusModel" "thrown" "I") (by decide +kernel)) (fun _ h9 => h9) rfl (by decide +kernel) rfl rfl (Nat.le_of_ble_eq_true rfl) dX7_isThrown_10 (fun H locs hP hI hS => ?_)
  have hP : mP G.1 (mu Mw xx (.inr (10, [.ref tl, .ref il, .int w2, .int w3, .int w1, .int w0, .int 0]))) H := hP
  have hI : mI A (mu Mw xx (.inr (10, [.ref tl, .ref il, .int w2, .int w3, .int w1, .int w0, .int 0]))) := hI
  have h_X : (mu Mw xx (.inr (10, [.ref tl, .ref il, .int w2, .int w3, .int w1, .int w0, .int 0]))) xx = some (.inr (10, [.ref tl, .ref il, .int w2, .int w3, .int w1, .int w0, .int 0])) := mu_s
  refine lv_iload_n hx hb dX7_isThrown_13 rfl (lv_at hl 1 rfl) ?_
  refine W.widen (k := 0) (n := 0) (Nat.le_of_ble_eq_true rfl) (Nat.le_of_ble_eq_true rfl) ?_
  exact W.zret (v := 0) hx hb hr rfl (fun t99 ht99 hW99 => ⟨⟨0, (mu Mw xx (.inr (10, [.ref tl, .ref il, .int w2, .int w3, .int w1, .int w0, .int 0]))), rfl, ⟨rfl, rfl⟩, by rw [ht99]; exact hP, hI⟩, hS.F ht99⟩) hS.2.2 dX7_isThrown_14

set_option maxHeartbeats 4000000 in
set_option maxRecDepth 100000 in
theorem c_X7_isThrown1 (l : Launch) (G : mg) (A : Nat → Prop) (Mw : mw) (p0 : Int32) {xx tl il : Nat} {w2 w3 w1 w0 wt : Int32} (h_X : Mw xx = some (.inr (10, [.ref tl, .ref il, .int w2, .int w3, .int w1, .int w0, .int wt]))) : Met l yX7_isThrown wsX7_isThrown ({ frames := 0, cells := 0, slots := 0, locals := 0 }) (va_Pc [.ref xx, .int 1, .int p0] (mB G A Mw)) (va_Qi (fun r Mw1 => r = 1 ∧ Mw1 = mu Mw xx (.inr (10, [.ref tl, .ref il, .int w2, .int w3, .int w1, .int w0, .int p0]))) (mE G A) A) 0 0 A := by
  refine Met.ofW (cc := cX7_isThrown) (maxL := 3) (ret := (some .boolean)) (by decide) rfl ?_
  intro p e s m args below meth c s₁ B hml hv
  obtain ⟨rfl, hG, hP, hI, hA⟩ := hv
  have hx := B.exec
  have hb := B.bytes
  have hr := B.returns
  have hts := atoms_spec (ws := wsX7_isThrown) B.pre
  have hown : s.vm.findClass RX7 = some m.cls := findClass_of_methodNamed B.named
  have hlocks := B.notSynchronized
  have hK := hG.K
  have i_X7 : ∀ w ∈ wsX70, w ∈ wsX7_isThrown := by decide +kernel
  have hS : va_S A s.heap s.heap [] := va_S.rf
  have hl := lv_entry ([.ref xx, .int 1, .int p0]) (n := 3) (Nat.le_of_ble_eq_true rfl)
  rw [lg_entry_eq]
  generalize (lg_sl ([.ref xx, .int 1, .int p0]) ++ List.replicate (3 - (lg_sl ([.ref xx, .int 1, .int p0])).length) Slot.unset).toArray = ls at hl ⊢
  have hl : lv_has ls 3 [(0, .ref xx), (1, .int 1), (2, .int p0)] := hl
  have hP : mP G.1 Mw s.heap := hP
  refine lv_aload_n hx hb dX7_isThrown_0 rfl (lv_at hl 0 rfl) ?_
  refine lv_iload_n hx hb dX7_isThrown_1 rfl (lv_at hl 1 rfl) ?_
  refine lv_if_eq (tgt := 9) hx hb dX7_isThrown_2 (by decide) (fun h9 => absurd h9 (by decide)) (fun _ => ?_)
  refine lv_iload_n hx hb dX7_isThrown_5 rfl (lv_at hl 2 rfl) ?_
  refine lv_goto (tgt := 10) hx hb dX7_isThrown_6 (by decide) ?_
  refine m_put (ci := 10) (v := .int p0) (ty := .int) (C := RX7) (T := TX7) (N := 7) hx hb hts i_X7 tyX7 tyX7_ok nmX7 hown hK hP hI hS h_X rfl 6 (by decide) (hts (.fieldLink RX7 23 "MeniscusModel" "thrown" "I") (by decide +kernel)) (fun _ h9 => h9) rfl (by decide +kernel) rfl rfl (Nat.le_of_ble_eq_true rfl) dX7_isThrown_10 (fun H locs hP hI hS => ?_)
  have hP : mP G.1 (mu Mw xx (.inr (10, [.ref tl, .ref il, .int w2, .int w3, .int w1, .int w0, .int p0]))) H := hP
  have hI : mI A (mu Mw xx (.inr (10, [.ref tl, .ref il, .int w2, .int w3, .int w1, .int w0, .int p0]))) := hI
  have h_X : (mu Mw xx (.inr (10, [.ref tl, .ref il, .int w2, .int w3, .int w1, .int w0, .int p0]))) xx = some (.inr (10, [.ref tl, .ref il, .int w2, .int w3, .int w1, .int w0, .int p0])) := mu_s
  refine lv_iload_n hx hb dX7_isThrown_13 rfl (lv_at hl 1 rfl) ?_
  refine W.widen (k := 0) (n := 0) (Nat.le_of_ble_eq_true rfl) (Nat.le_of_ble_eq_true rfl) ?_
  exact W.zret (v := 1) hx hb hr rfl (fun t99 ht99 hW99 => ⟨⟨1, (mu Mw xx (.inr (10, [.ref tl, .ref il, .int w2, .int w3, .int w1, .int w0, .int p0]))), rfl, ⟨rfl, rfl⟩, by rw [ht99]; exact hP, hI⟩, hS.F ht99⟩) hS.2.2 dX7_isThrown_14

set_option maxHeartbeats 4000000 in
set_option maxRecDepth 100000 in
theorem c_X7_isNoTube (l : Launch) (G : mg) (A : Nat → Prop) (Mw : mw) (p0 : Int32) {xx tl il : Nat} {w2 w3 w1 w0 wt : Int32} (h_X : Mw xx = some (.inr (10, [.ref tl, .ref il, .int w2, .int w3, .int w1, .int w0, .int wt]))) {d0 n0 : Nat} {m0 : Int32} (h_TL : Mw tl = some (.inr (2, [.int m0, .ref d0, .int ((nI n0))]))) (hn0 : n0 ≤ 8) : Met l yX7_isNoTube wsX7_isNoTube ({ frames := 1, cells := 0, slots := 0, locals := 22 }) (va_Pc [.ref xx, .int p0] (mB G A Mw)) (va_Qi (fun r Mw1 => ((r = 0 ∧ tkN n0 p0) ∨ (r = 1 ∧ ¬ tkN n0 p0)) ∧ Mw1 = Mw) (mE G A) A) 0 0 A := by
  refine Met.ofW (cc := cX7_isNoTube) (maxL := 2) (ret := (some .boolean)) (by decide) rfl ?_
  intro p e s m args below meth c s₁ B hml hv
  obtain ⟨rfl, hG, hP, hI, hA⟩ := hv
  have hx := B.exec
  have hb := B.bytes
  have hr := B.returns
  have hts := atoms_spec (ws := wsX7_isNoTube) B.pre
  have hown : s.vm.findClass RX7 = some m.cls := findClass_of_methodNamed B.named
  have hlocks := B.notSynchronized
  have hK := hG.K
  have i_X7 : ∀ w ∈ wsX70, w ∈ wsX7_isNoTube := by decide +kernel
  have hS : va_S A s.heap s.heap [] := va_S.rf
  have hl := lv_entry ([.ref xx, .int p0]) (n := 2) (Nat.le_of_ble_eq_true rfl)
  rw [lg_entry_eq]
  generalize (lg_sl ([.ref xx, .int p0]) ++ List.replicate (2 - (lg_sl ([.ref xx, .int p0])).length) Slot.unset).toArray = ls at hl ⊢
  have hl : lv_has ls 2 [(0, .ref xx), (1, .int p0)] := hl
  have hP : mP G.1 Mw s.heap := hP
  refine lv_iload_n hx hb dX7_isNoTube_0 rfl (lv_at hl 1 rfl) ?_
  refine lv_iconst (v := 0) hx hb dX7_isNoTube_1 (by decide) ?_
  refine lv_aload_n hx hb dX7_isNoTube_2 rfl (lv_at hl 0 rfl) ?_
  refine m_get (ci := 10) (v := .ref tl) (C := RX7) (T := TX7) (N := 7) hx hb hts i_X7 hown hK (hP _ _ h_X) rfl 0 (by decide) (hts (.fieldLink RX7 10 "MeniscusModel" "tubes" "Ljava/util/ArrayList;") (by decide +kernel)) (fun _ h9 => h9) rfl dX7_isNoTube_3 ?_
  refine m_calli (va_runV (As := []) (rest := [.int 0, .int p0]) ⟨hx, hb, hml, hown, hts⟩ (c_Jx4a65c_size_8abf5 l G A Mw  h_TL) (cwV 0 hts gX7_isNoTube_Jx4a65c_size_8abf5 rfl rfl rfl (by decide +kernel) ⟨Nat.le_of_ble_eq_true rfl, Nat.le_of_ble_eq_true rfl⟩) (mPreV hG hS hP hI hA (hP _ _ h_TL) (r := (RJx4a65c, TJx4a65c, 3)) rfl) rfl rfl hl.1 rfl (lv_room (Nat.le_of_ble_eq_true rfl)) dX7_isNoTube_6 ⟨Nat.le_of_ble_eq_true rfl, Nat.le_of_ble_eq_true rfl⟩) hS (fun r1 Mw1 H locs hp_r1 hP hI hS => ?_)
  obtain ⟨hp_r1, hm9⟩ := hp_r1
  subst Mw1
  subst hp_r1
  refine lv_iconst (v := 1) hx hb dX7_isNoTube_9 (by decide) ?_
  refine lv_isub hx hb dX7_isNoTube_10 ?_
  refine m_calli (va_runS (As := [.int p0, .int 0, .int ((nI n0) - 1)]) (rest := []) ⟨hx, hb, hml, hown, hts⟩ (c_X7_isIn l G A Mw  p0 0 ((nI n0) - 1)) (va_cwS 3 hts gX7_isNoTube_X7_isIn rfl rfl rfl (by decide +kernel) ⟨Nat.le_of_ble_eq_true rfl, Nat.le_of_ble_eq_true rfl⟩) (mPreS hG hS hP hI hA) rfl rfl hl.1 rfl (lv_room (Nat.le_of_ble_eq_true rfl)) dX7_isNoTube_11 ⟨Nat.le_of_ble_eq_true rfl, Nat.le_of_ble_eq_true rfl⟩) hS (fun r2 Mw1 H locs hp_r2 hP hI hS => ?_)
  obtain ⟨hb9, hm9⟩ := hp_r2
  subst Mw1
  rcases hb9 with ⟨hr9, hq_r2⟩ | ⟨hr9, hq_r2⟩
  · subst hr9
    refine lv_if_ne (tgt := 21) hx hb dX7_isNoTube_14 (by decide) (fun h9 => absurd h9 (by decide)) (fun _ => ?_)
    refine lv_iconst (v := 1) hx hb dX7_isNoTube_17 (by decide) ?_
    refine lv_goto (tgt := 22) hx hb dX7_isNoTube_18 (by decide) ?_
    refine W.widen (k := 0) (n := 0) (Nat.le_of_ble_eq_true rfl) (Nat.le_of_ble_eq_true rfl) ?_
    exact W.zret (v := 1) hx hb hr rfl (fun t99 ht99 hW99 => ⟨⟨1, Mw, rfl, ⟨Or.inr ⟨rfl, fun q9 => hq_r2 ((tk_rg hn0).mpr q9)⟩, rfl⟩, by rw [ht99]; exact hP, hI⟩, hS.F ht99⟩) hS.2.2 dX7_isNoTube_22
  · subst hr9
    refine lv_if_ne (tgt := 21) hx hb dX7_isNoTube_14 (by decide) (fun _ => ?_) (fun h9 => absurd h9 (by decide))
    refine lv_iconst (v := 0) hx hb dX7_isNoTube_21 (by decide) ?_
    refine W.widen (k := 0) (n := 0) (Nat.le_of_ble_eq_true rfl) (Nat.le_of_ble_eq_true rfl) ?_
    exact W.zret (v := 0) hx hb hr rfl (fun t99 ht99 hW99 => ⟨⟨0, Mw, rfl, ⟨Or.inl ⟨rfl, (tk_rg hn0).mp hq_r2⟩, rfl⟩, by rw [ht99]; exact hP, hI⟩, hS.F ht99⟩) hS.2.2 dX7_isNoTube_22

set_option maxHeartbeats 4000000 in
set_option maxRecDepth 100000 in
theorem c_X7_isNone (l : Launch) (G : mg) (A : Nat → Prop) (Mw : mw) (p0 : Int32) {xx tl il : Nat} {w2 w3 w1 w0 wt : Int32} (h_X : Mw xx = some (.inr (10, [.ref tl, .ref il, .int w2, .int w3, .int w1, .int w0, .int wt]))) {d0 n0 : Nat} {m0 : Int32} (h_IL : Mw il = some (.inr (2, [.int m0, .ref d0, .int ((nI n0))]))) (hn0 : n0 ≤ 8) : Met l yX7_isNone wsX7_isNone ({ frames := 1, cells := 0, slots := 0, locals := 22 }) (va_Pc [.ref xx, .int p0] (mB G A Mw)) (va_Qi (fun r Mw1 => ((r = 0 ∧ tkN n0 p0) ∨ (r = 1 ∧ ¬ tkN n0 p0)) ∧ Mw1 = Mw) (mE G A) A) 0 0 A := by
  refine Met.ofW (cc := cX7_isNone) (maxL := 2) (ret := (some .boolean)) (by decide) rfl ?_
  intro p e s m args below meth c s₁ B hml hv
  obtain ⟨rfl, hG, hP, hI, hA⟩ := hv
  have hx := B.exec
  have hb := B.bytes
  have hr := B.returns
  have hts := atoms_spec (ws := wsX7_isNone) B.pre
  have hown : s.vm.findClass RX7 = some m.cls := findClass_of_methodNamed B.named
  have hlocks := B.notSynchronized
  have hK := hG.K
  have i_X7 : ∀ w ∈ wsX70, w ∈ wsX7_isNone := by decide +kernel
  have hS : va_S A s.heap s.heap [] := va_S.rf
  have hl := lv_entry ([.ref xx, .int p0]) (n := 2) (Nat.le_of_ble_eq_true rfl)
  rw [lg_entry_eq]
  generalize (lg_sl ([.ref xx, .int p0]) ++ List.replicate (2 - (lg_sl ([.ref xx, .int p0])).length) Slot.unset).toArray = ls at hl ⊢
  have hl : lv_has ls 2 [(0, .ref xx), (1, .int p0)] := hl
  have hP : mP G.1 Mw s.heap := hP
  refine lv_iload_n hx hb dX7_isNone_0 rfl (lv_at hl 1 rfl) ?_
  refine lv_iconst (v := 0) hx hb dX7_isNone_1 (by decide) ?_
  refine lv_aload_n hx hb dX7_isNone_2 rfl (lv_at hl 0 rfl) ?_
  refine m_get (ci := 10) (v := .ref il) (C := RX7) (T := TX7) (N := 7) hx hb hts i_X7 hown hK (hP _ _ h_X) rfl 1 (by decide) (hts (.fieldLink RX7 16 "MeniscusModel" "instruments" "Ljava/util/ArrayList;") (by decide +kernel)) (fun _ h9 => h9) rfl dX7_isNone_3 ?_
  refine m_calli (va_runV (As := []) (rest := [.int 0, .int p0]) ⟨hx, hb, hml, hown, hts⟩ (c_Jx4a65c_size_8abf5 l G A Mw  h_IL) (cwV 0 hts gX7_isNone_Jx4a65c_size_8abf5 rfl rfl rfl (by decide +kernel) ⟨Nat.le_of_ble_eq_true rfl, Nat.le_of_ble_eq_true rfl⟩) (mPreV hG hS hP hI hA (hP _ _ h_IL) (r := (RJx4a65c, TJx4a65c, 3)) rfl) rfl rfl hl.1 rfl (lv_room (Nat.le_of_ble_eq_true rfl)) dX7_isNone_6 ⟨Nat.le_of_ble_eq_true rfl, Nat.le_of_ble_eq_true rfl⟩) hS (fun r1 Mw1 H locs hp_r1 hP hI hS => ?_)
  obtain ⟨hp_r1, hm9⟩ := hp_r1
  subst Mw1
  subst hp_r1
  refine lv_iconst (v := 1) hx hb dX7_isNone_9 (by decide) ?_
  refine lv_isub hx hb dX7_isNone_10 ?_
  refine m_calli (va_runS (As := [.int p0, .int 0, .int ((nI n0) - 1)]) (rest := []) ⟨hx, hb, hml, hown, hts⟩ (c_X7_isIn l G A Mw  p0 0 ((nI n0) - 1)) (va_cwS 3 hts gX7_isNone_X7_isIn rfl rfl rfl (by decide +kernel) ⟨Nat.le_of_ble_eq_true rfl, Nat.le_of_ble_eq_true rfl⟩) (mPreS hG hS hP hI hA) rfl rfl hl.1 rfl (lv_room (Nat.le_of_ble_eq_true rfl)) dX7_isNone_11 ⟨Nat.le_of_ble_eq_true rfl, Nat.le_of_ble_eq_true rfl⟩) hS (fun r2 Mw1 H locs hp_r2 hP hI hS => ?_)
  obtain ⟨hb9, hm9⟩ := hp_r2
  subst Mw1
  rcases hb9 with ⟨hr9, hq_r2⟩ | ⟨hr9, hq_r2⟩
  · subst hr9
    refine lv_if_ne (tgt := 21) hx hb dX7_isNone_14 (by decide) (fun h9 => absurd h9 (by decide)) (fun _ => ?_)
    refine lv_iconst (v := 1) hx hb dX7_isNone_17 (by decide) ?_
    refine lv_goto (tgt := 22) hx hb dX7_isNone_18 (by decide) ?_
    refine W.widen (k := 0) (n := 0) (Nat.le_of_ble_eq_true rfl) (Nat.le_of_ble_eq_true rfl) ?_
    exact W.zret (v := 1) hx hb hr rfl (fun t99 ht99 hW99 => ⟨⟨1, Mw, rfl, ⟨Or.inr ⟨rfl, fun q9 => hq_r2 ((tk_rg hn0).mpr q9)⟩, rfl⟩, by rw [ht99]; exact hP, hI⟩, hS.F ht99⟩) hS.2.2 dX7_isNone_22
  · subst hr9
    refine lv_if_ne (tgt := 21) hx hb dX7_isNone_14 (by decide) (fun _ => ?_) (fun h9 => absurd h9 (by decide))
    refine lv_iconst (v := 0) hx hb dX7_isNone_21 (by decide) ?_
    refine W.widen (k := 0) (n := 0) (Nat.le_of_ble_eq_true rfl) (Nat.le_of_ble_eq_true rfl) ?_
    exact W.zret (v := 0) hx hb hr rfl (fun t99 ht99 hW99 => ⟨⟨0, Mw, rfl, ⟨Or.inl ⟨rfl, (tk_rg hn0).mp hq_r2⟩, rfl⟩, by rw [ht99]; exact hP, hI⟩, hS.F ht99⟩) hS.2.2 dX7_isNone_22

set_option maxHeartbeats 4000000 in
set_option maxRecDepth 100000 in
theorem c_X7_isEmpty (l : Launch) (G : mg) (A : Nat → Prop) (Mw : mw) {xx tl il : Nat} {w2 w3 w1 w0 wt : Int32} (h_X : Mw xx = some (.inr (10, [.ref tl, .ref il, .int w2, .int w3, .int w1, .int w0, .int wt]))) {d0 n0 : Nat} {m0 : Int32} (h_IL : Mw il = some (.inr (2, [.int m0, .ref d0, .int ((nI n0))]))) (hn0 : n0 ≤ 8) {g0 : Nat → Option Nat} (h_ID : Mw d0 = some (.inl (G.2.1 5, 10, .inr (.inr (.inr (.inr g0)))))) {a0 t0 rd0 ht0 : Nat} {bu0 gl0 cr0 in0 li0 sm0 ice0 stm0 stt0 kin0 ga0 ke0 gr0 ce0 : Int32} (h_I : Mw a0 = some (.inr (8, [.ref t0, .int bu0, .int (sof gl0), .int cr0, .int in0, .int li0, .int sm0, .int ice0, .int stm0, .int stt0, .int kin0, .int ga0, .int ke0, .int gr0, .int ce0, .ref rd0, .ref ht0]))) (i0 : Nat) (hi0 : i0 < n0) (hx0 : g0 i0 = some a0) : Met l yX7_isEmpty wsX7_isEmpty ({ frames := 3, cells := 0, slots := 0, locals := 64 }) (va_Pc [.ref xx, .int (nI i0)] (mB G A Mw)) (va_Qi (fun r Mw1 => ((r = 0 ∧ ¬ mfi li0 sm0 = 0) ∨ (r = 1 ∧ mfi li0 sm0 = 0)) ∧ Mw1 = Mw) (mE G A) A) 0 0 A := by
  refine Met.ofW (cc := cX7_isEmpty) (maxL := 2) (ret := (some .boolean)) (by decide) rfl ?_
  intro p e s m args below meth c s₁ B hml hv
  obtain ⟨rfl, hG, hP, hI, hA⟩ := hv
  have hx := B.exec
  have hb := B.bytes
  have hr := B.returns
  have hts := atoms_spec (ws := wsX7_isEmpty) B.pre
  have hown : s.vm.findClass RX7 = some m.cls := findClass_of_methodNamed B.named
  have hlocks := B.notSynchronized
  have hK := hG.K
  have i_X7 : ∀ w ∈ wsX70, w ∈ wsX7_isEmpty := by decide +kernel
  have hS : va_S A s.heap s.heap [] := va_S.rf
  have hl := lv_entry ([.ref xx, .int (nI i0)]) (n := 2) (Nat.le_of_ble_eq_true rfl)
  rw [lg_entry_eq]
  generalize (lg_sl ([.ref xx, .int (nI i0)]) ++ List.replicate (2 - (lg_sl ([.ref xx, .int (nI i0)])).length) Slot.unset).toArray = ls at hl ⊢
  have hl : lv_has ls 2 [(0, .ref xx), (1, .int (nI i0))] := hl
  have hP : mP G.1 Mw s.heap := hP
  refine lv_aload_n hx hb dX7_isEmpty_0 rfl (lv_at hl 0 rfl) ?_
  refine m_get (ci := 10) (v := .ref il) (C := RX7) (T := TX7) (N := 7) hx hb hts i_X7 hown hK (hP _ _ h_X) rfl 1 (by decide) (hts (.fieldLink RX7 16 "MeniscusModel" "instruments" "Ljava/util/ArrayList;") (by decide +kernel)) (fun _ h9 => h9) rfl dX7_isEmpty_1 ?_
  refine lv_iload_n hx hb dX7_isEmpty_4 rfl (lv_at hl 1 rfl) ?_
  refine m_callq (va_runV (As := [.int (nI i0)]) (rest := []) ⟨hx, hb, hml, hown, hts⟩ (c_Jx4a65c_get_915e3 l G A Mw  h_IL h_ID i0 a0 hi0 hn0 hx0) (cwV 1 hts gX7_isEmpty_Jx4a65c_get_915e3 rfl rfl rfl (by decide +kernel) ⟨Nat.le_of_ble_eq_true rfl, Nat.le_of_ble_eq_true rfl⟩) (mPreV hG hS hP hI hA (hP _ _ h_IL) (r := (RJx4a65c, TJx4a65c, 3)) rfl) rfl rfl hl.1 rfl (lv_room (Nat.le_of_ble_eq_true rfl)) dX7_isEmpty_5 ⟨Nat.le_of_ble_eq_true rfl, Nat.le_of_ble_eq_true rfl⟩) hS (fun r1 Mw1 H locs hp_r1 hP hI hS => ?_)
  obtain ⟨hp_r1, hm9⟩ := hp_r1
  subst Mw1
  subst hp_r1
  refine va_castE hx hb hown (hts (.classLink RX7 79 RX5) (by decide +kernel)) (va_recv hK (va_at.one (hP _ _ h_I)) (q0 := 0) (q := (RX5, TX5, 17)) rfl rfl) dX7_isEmpty_8 ?_
  refine m_calli (va_runV (As := []) (rest := []) ⟨hx, hb, hml, hown, hts⟩ (c_X5_isFilled l G A Mw  h_I) (cwV 0 hts gX7_isEmpty_X5_isFilled rfl rfl rfl (by decide +kernel) ⟨Nat.le_of_ble_eq_true rfl, Nat.le_of_ble_eq_true rfl⟩) (mPreV hG hS hP hI hA (hP _ _ h_I) (r := (RX5, TX5, 17)) rfl) rfl rfl hl.1 rfl (lv_room (Nat.le_of_ble_eq_true rfl)) dX7_isEmpty_11 ⟨Nat.le_of_ble_eq_true rfl, Nat.le_of_ble_eq_true rfl⟩) hS (fun r2 Mw1 H locs hp_r2 hP hI hS => ?_)
  obtain ⟨hp_r2, hm9⟩ := hp_r2
  subst Mw1
  refine lv_if_ne (tgt := 21) hx hb dX7_isEmpty_14 (by decide) (fun c3 => ?_) (fun c3 => ?_)
  · skip
    refine lv_iconst (v := 0) hx hb dX7_isEmpty_21 (by decide) ?_
    refine W.widen (k := 0) (n := 0) (Nat.le_of_ble_eq_true rfl) (Nat.le_of_ble_eq_true rfl) ?_
    exact W.zret (v := 0) hx hb hr rfl (fun t99 ht99 hW99 => ⟨⟨0, Mw, rfl, ⟨Or.inl ⟨rfl, by rw [← hp_r2]; exact c3⟩, rfl⟩, by rw [ht99]; exact hP, hI⟩, hS.F ht99⟩) hS.2.2 dX7_isEmpty_22
  · skip
    refine lv_iconst (v := 1) hx hb dX7_isEmpty_17 (by decide) ?_
    refine lv_goto (tgt := 22) hx hb dX7_isEmpty_18 (by decide) ?_
    refine W.widen (k := 0) (n := 0) (Nat.le_of_ble_eq_true rfl) (Nat.le_of_ble_eq_true rfl) ?_
    exact W.zret (v := 1) hx hb hr rfl (fun t99 ht99 hW99 => ⟨⟨1, Mw, rfl, ⟨Or.inr ⟨rfl, by rw [← hp_r2]; exact c3⟩, rfl⟩, by rw [ht99]; exact hP, hI⟩, hS.F ht99⟩) hS.2.2 dX7_isEmpty_22

theorem em_01 {n : Nat} (hn : n ≤ 8) {r : Int32} (h : r = if nI n = 0 then 1 else 0) : (r = 0 ∧ ¬ n = 0) ∨ (r = 1 ∧ n = 0) := by
  by_cases z : nI n = 0
  · rw [if_pos z] at h
    exact Or.inr ⟨h, nI_inj0 hn z⟩
  · rw [if_neg z] at h
    exact Or.inl ⟨h, fun q => z (by rw [q]; rfl)⟩
theorem em_nb (n : Nat) : narrow .boolean (.int (if nI n = 0 then 1 else 0)) = .int (if nI n = 0 then 1 else 0) := by
  by_cases z : nI n = 0
  · rw [if_pos z]
    rfl
  · rw [if_neg z]
    rfl
set_option maxHeartbeats 4000000 in
set_option maxRecDepth 100000 in
theorem c_X7_hasNone (l : Launch) (G : mg) (A : Nat → Prop) (Mw : mw) {xx tl il : Nat} {w2 w3 w1 w0 wt : Int32} (h_X : Mw xx = some (.inr (10, [.ref tl, .ref il, .int w2, .int w3, .int w1, .int w0, .int wt]))) {d0 n0 : Nat} {m0 : Int32} (h_IL : Mw il = some (.inr (2, [.int m0, .ref d0, .int ((nI n0))]))) (hn0 : n0 ≤ 8) {g0 : Nat → Option Nat} (h_ID : Mw d0 = some (.inl (G.2.1 5, 10, .inr (.inr (.inr (.inr g0)))))) {a0 t0 rd0 ht0 : Nat} {bu0 gl0 cr0 in0 li0 sm0 ice0 stm0 stt0 kin0 ga0 ke0 gr0 ce0 : Int32} (h_I : Mw a0 = some (.inr (8, [.ref t0, .int bu0, .int (sof gl0), .int cr0, .int in0, .int li0, .int sm0, .int ice0, .int stm0, .int stt0, .int kin0, .int ga0, .int ke0, .int gr0, .int ce0, .ref rd0, .ref ht0]))) (i0 : Nat) (hi0 : i0 < n0) (hx0 : g0 i0 = some a0) {d1 n1 : Nat} {m1 : Int32} (h_L : Mw rd0 = some (.inr (2, [.int m1, .ref d1, .int ((nI n1))]))) (hn1 : n1 ≤ 8) (hli : rd0 ≠ il) : Met l yX7_hasNone wsX7_hasNone ({ frames := 3, cells := 0, slots := 0, locals := 64 }) (va_Pc [.ref xx, .int (nI i0)] (mB G A Mw)) (va_Qi (fun r Mw1 => ((r = 0 ∧ ¬ n1 = 0) ∨ (r = 1 ∧ n1 = 0)) ∧ Mw1 = Mw) (mE G A) A) 0 0 A := by
  refine Met.ofW (cc := cX7_hasNone) (maxL := 2) (ret := (some .boolean)) (by decide) rfl ?_
  intro p e s m args below meth c s₁ B hml hv
  obtain ⟨rfl, hG, hP, hI, hA⟩ := hv
  have hx := B.exec
  have hb := B.bytes
  have hr := B.returns
  have hts := atoms_spec (ws := wsX7_hasNone) B.pre
  have hown : s.vm.findClass RX7 = some m.cls := findClass_of_methodNamed B.named
  have hlocks := B.notSynchronized
  have hK := hG.K
  have i_X5 : ∀ w ∈ wsX50, w ∈ wsX7_hasNone := by decide +kernel
  have i_X7 : ∀ w ∈ wsX70, w ∈ wsX7_hasNone := by decide +kernel
  have hS : va_S A s.heap s.heap [] := va_S.rf
  have hl := lv_entry ([.ref xx, .int (nI i0)]) (n := 2) (Nat.le_of_ble_eq_true rfl)
  rw [lg_entry_eq]
  generalize (lg_sl ([.ref xx, .int (nI i0)]) ++ List.replicate (2 - (lg_sl ([.ref xx, .int (nI i0)])).length) Slot.unset).toArray = ls at hl ⊢
  have hl : lv_has ls 2 [(0, .ref xx), (1, .int (nI i0))] := hl
  have hP : mP G.1 Mw s.heap := hP
  refine lv_aload_n hx hb dX7_hasNone_0 rfl (lv_at hl 0 rfl) ?_
  refine m_get (ci := 10) (v := .ref il) (C := RX7) (T := TX7) (N := 7) hx hb hts i_X7 hown hK (hP _ _ h_X) rfl 1 (by decide) (hts (.fieldLink RX7 16 "MeniscusModel" "instruments" "Ljava/util/ArrayList;") (by decide +kernel)) (fun _ h9 => h9) rfl dX7_hasNone_1 ?_
  refine lv_iload_n hx hb dX7_hasNone_4 rfl (lv_at hl 1 rfl) ?_
  refine m_callq (va_runV (As := [.int (nI i0)]) (rest := []) ⟨hx, hb, hml, hown, hts⟩ (c_Jx4a65c_get_915e3 l G A Mw  h_IL h_ID i0 a0 hi0 hn0 hx0) (cwV 1 hts gX7_hasNone_Jx4a65c_get_915e3 rfl rfl rfl (by decide +kernel) ⟨Nat.le_of_ble_eq_true rfl, Nat.le_of_ble_eq_true rfl⟩) (mPreV hG hS hP hI hA (hP _ _ h_IL) (r := (RJx4a65c, TJx4a65c, 3)) rfl) rfl rfl hl.1 rfl (lv_room (Nat.le_of_ble_eq_true rfl)) dX7_hasNone_5 ⟨Nat.le_of_ble_eq_true rfl, Nat.le_of_ble_eq_true rfl⟩) hS (fun r1 Mw1 H locs hp_r1 hP hI hS => ?_)
  obtain ⟨hp_r1, hm9⟩ := hp_r1
  subst Mw1
  subst hp_r1
  refine va_castE hx hb hown (hts (.classLink RX7 79 RX5) (by decide +kernel)) (va_recv hK (va_at.one (hP _ _ h_I)) (q0 := 0) (q := (RX5, TX5, 17)) rfl rfl) dX7_hasNone_8 ?_
  refine m_getN (ci := 8) (v := .ref rd0) (C := RX5) (T := TX5) (N := 17) hx hb hts i_X5 hown hK (hP _ _ h_I) rfl 15 (by decide) (va_Nw.use rfl (hG.2.1.2.1 ("MeniscusModel", 176, "MeniscusModel$Instrument", "readings", "Ljava/util/ArrayList;", "MeniscusModel") (by decide +kernel))) (fun _ h9 => h9) rfl dX7_hasNone_11 ?_
  refine m_calli (va_runV (As := []) (rest := []) ⟨hx, hb, hml, hown, hts⟩ (c_Jx4a65c_isEmpty_aae02 l G A Mw  h_L) (cwV 0 hts gX7_hasNone_Jx4a65c_isEmpty_aae02 rfl rfl rfl (by decide +kernel) ⟨Nat.le_of_ble_eq_true rfl, Nat.le_of_ble_eq_true rfl⟩) (mPreV hG hS hP hI hA (hP _ _ h_L) (r := (RJx4a65c, TJx4a65c, 3)) rfl) rfl rfl hl.1 rfl (lv_room (Nat.le_of_ble_eq_true rfl)) dX7_hasNone_14 ⟨Nat.le_of_ble_eq_true rfl, Nat.le_of_ble_eq_true rfl⟩) hS (fun r2 Mw1 H locs hp_r2 hP hI hS => ?_)
  obtain ⟨hp_r2, hm9⟩ := hp_r2
  subst Mw1
  refine W.widen (k := 0) (n := 0) (Nat.le_of_ble_eq_true rfl) (Nat.le_of_ble_eq_true rfl) ?_
  exact W.zret (v := r2) hx hb hr (by rw [hp_r2]; exact em_nb n1) (fun t99 ht99 hW99 => ⟨⟨r2, Mw, rfl, ⟨em_01 hn1 hp_r2, rfl⟩, by rw [ht99]; exact hP, hI⟩, hS.F ht99⟩) hS.2.2 dX7_hasNone_17

set_option maxHeartbeats 4000000 in
set_option maxRecDepth 100000 in
theorem c_X7_isFew (l : Launch) (G : mg) (A : Nat → Prop) (Mw : mw) {xx tl il : Nat} {w2 w3 w1 w0 wt : Int32} (h_X : Mw xx = some (.inr (10, [.ref tl, .ref il, .int w2, .int w3, .int w1, .int w0, .int wt]))) {d0 n0 : Nat} {m0 : Int32} (h_IL : Mw il = some (.inr (2, [.int m0, .ref d0, .int ((nI n0))]))) (hn0 : n0 ≤ 8) {g0 : Nat → Option Nat} (h_ID : Mw d0 = some (.inl (G.2.1 5, 10, .inr (.inr (.inr (.inr g0)))))) {a0 t0 rd0 ht0 : Nat} {bu0 gl0 cr0 in0 li0 sm0 ice0 stm0 stt0 kin0 ga0 ke0 gr0 ce0 : Int32} (h_I : Mw a0 = some (.inr (8, [.ref t0, .int bu0, .int (sof gl0), .int cr0, .int in0, .int li0, .int sm0, .int ice0, .int stm0, .int stt0, .int kin0, .int ga0, .int ke0, .int gr0, .int ce0, .ref rd0, .ref ht0]))) (i0 : Nat) (hi0 : i0 < n0) (hx0 : g0 i0 = some a0) {d1 n1 : Nat} {m1 : Int32} (h_L : Mw rd0 = some (.inr (2, [.int m1, .ref d1, .int ((nI n1))]))) (hn1 : n1 ≤ 8) (hli : rd0 ≠ il) : Met l yX7_isFew wsX7_isFew ({ frames := 3, cells := 0, slots := 0, locals := 64 }) (va_Pc [.ref xx, .int (nI i0)] (mB G A Mw)) (va_Qi (fun r Mw1 => ((r = 0 ∧ 3 ≤ n1) ∨ (r = 1 ∧ ¬ 3 ≤ n1)) ∧ Mw1 = Mw) (mE G A) A) 0 0 A := by
  refine Met.ofW (cc := cX7_isFew) (maxL := 2) (ret := (some .boolean)) (by decide) rfl ?_
  intro p e s m args below meth c s₁ B hml hv
  obtain ⟨rfl, hG, hP, hI, hA⟩ := hv
  have hx := B.exec
  have hb := B.bytes
  have hr := B.returns
  have hts := atoms_spec (ws := wsX7_isFew) B.pre
  have hown : s.vm.findClass RX7 = some m.cls := findClass_of_methodNamed B.named
  have hlocks := B.notSynchronized
  have hK := hG.K
  have i_X5 : ∀ w ∈ wsX50, w ∈ wsX7_isFew := by decide +kernel
  have i_X7 : ∀ w ∈ wsX70, w ∈ wsX7_isFew := by decide +kernel
  have hS : va_S A s.heap s.heap [] := va_S.rf
  have hl := lv_entry ([.ref xx, .int (nI i0)]) (n := 2) (Nat.le_of_ble_eq_true rfl)
  rw [lg_entry_eq]
  generalize (lg_sl ([.ref xx, .int (nI i0)]) ++ List.replicate (2 - (lg_sl ([.ref xx, .int (nI i0)])).length) Slot.unset).toArray = ls at hl ⊢
  have hl : lv_has ls 2 [(0, .ref xx), (1, .int (nI i0))] := hl
  have hP : mP G.1 Mw s.heap := hP
  refine lv_aload_n hx hb dX7_isFew_0 rfl (lv_at hl 0 rfl) ?_
  refine m_get (ci := 10) (v := .ref il) (C := RX7) (T := TX7) (N := 7) hx hb hts i_X7 hown hK (hP _ _ h_X) rfl 1 (by decide) (hts (.fieldLink RX7 16 "MeniscusModel" "instruments" "Ljava/util/ArrayList;") (by decide +kernel)) (fun _ h9 => h9) rfl dX7_isFew_1 ?_
  refine lv_iload_n hx hb dX7_isFew_4 rfl (lv_at hl 1 rfl) ?_
  refine m_callq (va_runV (As := [.int (nI i0)]) (rest := []) ⟨hx, hb, hml, hown, hts⟩ (c_Jx4a65c_get_915e3 l G A Mw  h_IL h_ID i0 a0 hi0 hn0 hx0) (cwV 1 hts gX7_isFew_Jx4a65c_get_915e3 rfl rfl rfl (by decide +kernel) ⟨Nat.le_of_ble_eq_true rfl, Nat.le_of_ble_eq_true rfl⟩) (mPreV hG hS hP hI hA (hP _ _ h_IL) (r := (RJx4a65c, TJx4a65c, 3)) rfl) rfl rfl hl.1 rfl (lv_room (Nat.le_of_ble_eq_true rfl)) dX7_isFew_5 ⟨Nat.le_of_ble_eq_true rfl, Nat.le_of_ble_eq_true rfl⟩) hS (fun r1 Mw1 H locs hp_r1 hP hI hS => ?_)
  obtain ⟨hp_r1, hm9⟩ := hp_r1
  subst Mw1
  subst hp_r1
  refine va_castE hx hb hown (hts (.classLink RX7 79 RX5) (by decide +kernel)) (va_recv hK (va_at.one (hP _ _ h_I)) (q0 := 0) (q := (RX5, TX5, 17)) rfl rfl) dX7_isFew_8 ?_
  refine m_getN (ci := 8) (v := .ref rd0) (C := RX5) (T := TX5) (N := 17) hx hb hts i_X5 hown hK (hP _ _ h_I) rfl 15 (by decide) (va_Nw.use rfl (hG.2.1.2.1 ("MeniscusModel", 176, "MeniscusModel$Instrument", "readings", "Ljava/util/ArrayList;", "MeniscusModel") (by decide +kernel))) (fun _ h9 => h9) rfl dX7_isFew_11 ?_
  refine m_calli (va_runV (As := []) (rest := []) ⟨hx, hb, hml, hown, hts⟩ (c_Jx4a65c_size_8abf5 l G A Mw  h_L) (cwV 0 hts gX7_isFew_Jx4a65c_size_8abf5 rfl rfl rfl (by decide +kernel) ⟨Nat.le_of_ble_eq_true rfl, Nat.le_of_ble_eq_true rfl⟩) (mPreV hG hS hP hI hA (hP _ _ h_L) (r := (RJx4a65c, TJx4a65c, 3)) rfl) rfl rfl hl.1 rfl (lv_room (Nat.le_of_ble_eq_true rfl)) dX7_isFew_14 ⟨Nat.le_of_ble_eq_true rfl, Nat.le_of_ble_eq_true rfl⟩) hS (fun r2 Mw1 H locs hp_r2 hP hI hS => ?_)
  obtain ⟨hp_r2, hm9⟩ := hp_r2
  subst Mw1
  subst hp_r2
  refine lv_iconst (v := 3) hx hb dX7_isFew_17 (by decide) ?_
  refine lv_icmp_ge (tgt := 25) hx hb dX7_isFew_18 (by decide) (fun c3 => ?_) (fun c3 => ?_)
  · skip
    refine lv_iconst (v := 0) hx hb dX7_isFew_25 (by decide) ?_
    refine W.widen (k := 0) (n := 0) (Nat.le_of_ble_eq_true rfl) (Nat.le_of_ble_eq_true rfl) ?_
    exact W.zret (v := 0) hx hb hr rfl (fun t99 ht99 hW99 => ⟨⟨0, Mw, rfl, ⟨Or.inl ⟨rfl, (nI_leI (a := 3) (b := n1) (by omega) (by omega)).mp c3⟩, rfl⟩, by rw [ht99]; exact hP, hI⟩, hS.F ht99⟩) hS.2.2 dX7_isFew_26
  · skip
    refine lv_iconst (v := 1) hx hb dX7_isFew_21 (by decide) ?_
    refine lv_goto (tgt := 26) hx hb dX7_isFew_22 (by decide) ?_
    refine W.widen (k := 0) (n := 0) (Nat.le_of_ble_eq_true rfl) (Nat.le_of_ble_eq_true rfl) ?_
    exact W.zret (v := 1) hx hb hr rfl (fun t99 ht99 hW99 => ⟨⟨1, Mw, rfl, ⟨Or.inr ⟨rfl, fun q9 => c3 (nI_le (a := 3) q9 (by omega))⟩, rfl⟩, by rw [ht99]; exact hP, hI⟩, hS.F ht99⟩) hS.2.2 dX7_isFew_26

set_option maxHeartbeats 4000000 in
set_option maxRecDepth 100000 in
theorem c_X7_holds (l : Launch) (G : mg) (A : Nat → Prop) (Mw : mw) {xx tl il : Nat} {w2 w3 w1 w0 wt : Int32} (h_X : Mw xx = some (.inr (10, [.ref tl, .ref il, .int w2, .int w3, .int w1, .int w0, .int wt]))) {a0 t0 rd0 ht0 : Nat} {bu0 gl0 cr0 in0 li0 sm0 ice0 stm0 stt0 kin0 ga0 ke0 gr0 ce0 : Int32} (h_I : Mw a0 = some (.inr (8, [.ref t0, .int bu0, .int (sof gl0), .int cr0, .int in0, .int li0, .int sm0, .int ice0, .int stm0, .int stt0, .int kin0, .int ga0, .int ke0, .int gr0, .int ce0, .ref rd0, .ref ht0]))) : Met l yX7_holds wsX7_holds ({ frames := 0, cells := 0, slots := 0, locals := 0 }) (va_Pc [.ref xx, .ref a0] (mB G A Mw)) (va_Qi (fun r Mw1 => ((r = 0 ∧ ¬ crtO sm0 ce0 w1 = 1) ∨ (r = 1 ∧ crtO sm0 ce0 w1 = 1)) ∧ Mw1 = Mw) (mE G A) A) 0 0 A := by
  refine Met.ofW (cc := cX7_holds) (maxL := 2) (ret := (some .boolean)) (by decide) rfl ?_
  intro p e s m args below meth c s₁ B hml hv
  obtain ⟨rfl, hG, hP, hI, hA⟩ := hv
  have hx := B.exec
  have hb := B.bytes
  have hr := B.returns
  have hts := atoms_spec (ws := wsX7_holds) B.pre
  have hown : s.vm.findClass RX7 = some m.cls := findClass_of_methodNamed B.named
  have hlocks := B.notSynchronized
  have hK := hG.K
  have i_X5 : ∀ w ∈ wsX50, w ∈ wsX7_holds := by decide +kernel
  have i_X7 : ∀ w ∈ wsX70, w ∈ wsX7_holds := by decide +kernel
  have hS : va_S A s.heap s.heap [] := va_S.rf
  have hl := lv_entry ([.ref xx, .ref a0]) (n := 2) (Nat.le_of_ble_eq_true rfl)
  rw [lg_entry_eq]
  generalize (lg_sl ([.ref xx, .ref a0]) ++ List.replicate (2 - (lg_sl ([.ref xx, .ref a0])).length) Slot.unset).toArray = ls at hl ⊢
  have hl : lv_has ls 2 [(0, .ref xx), (1, .ref a0)] := hl
  have hP : mP G.1 Mw s.heap := hP
  refine lv_aload_n hx hb dX7_holds_0 rfl (lv_at hl 1 rfl) ?_
  refine m_getN (ci := 8) (v := .int sm0) (C := RX5) (T := TX5) (N := 17) hx hb hts i_X5 hown hK (hP _ _ h_I) rfl 6 (by decide) (va_Nw.use rfl (hG.2.1.2.1 ("MeniscusModel", 104, "MeniscusModel$Instrument", "isSmashed", "Z", "MeniscusModel") (by decide +kernel))) (fun _ h9 => h9) rfl dX7_holds_1 ?_
  refine lv_if_ne (tgt := 22) hx hb dX7_holds_4 (by decide) (fun c1 => ?_) (fun c1 => ?_)
  · skip
    refine lv_iconst (v := 0) hx hb dX7_holds_22 (by decide) ?_
    refine W.widen (k := 0) (n := 0) (Nat.le_of_ble_eq_true rfl) (Nat.le_of_ble_eq_true rfl) ?_
    exact W.zret (v := 0) hx hb hr rfl (fun t99 ht99 hW99 => ⟨⟨0, Mw, rfl, ⟨Or.inl ⟨rfl, by unfold crtO; rw [if_neg c1]; decide⟩, rfl⟩, by rw [ht99]; exact hP, hI⟩, hS.F ht99⟩) hS.2.2 dX7_holds_23
  · skip
    refine lv_aload_n hx hb dX7_holds_7 rfl (lv_at hl 1 rfl) ?_
    refine m_getN (ci := 8) (v := .int ce0) (C := RX5) (T := TX5) (N := 17) hx hb hts i_X5 hown hK (hP _ _ h_I) rfl 14 (by decide) (va_Nw.use rfl (hG.2.1.2.1 ("MeniscusModel", 113, "MeniscusModel$Instrument", "certified", "I", "MeniscusModel") (by decide +kernel))) (fun _ h9 => h9) rfl dX7_holds_8 ?_
    refine lv_aload_n hx hb dX7_holds_11 rfl (lv_at hl 0 rfl) ?_
    refine m_get (ci := 10) (v := .int w1) (C := RX7) (T := TX7) (N := 7) hx hb hts i_X7 hown hK (hP _ _ h_X) rfl 4 (by decide) (hts (.fieldLink RX7 116 "MeniscusModel" "day" "I") (by decide +kernel)) (fun _ h9 => h9) rfl dX7_holds_12 ?_
    refine lv_icmp_lt (tgt := 22) hx hb dX7_holds_15 (by decide) (fun c2 => ?_) (fun c2 => ?_)
    · skip
      refine lv_iconst (v := 0) hx hb dX7_holds_22 (by decide) ?_
      refine W.widen (k := 0) (n := 0) (Nat.le_of_ble_eq_true rfl) (Nat.le_of_ble_eq_true rfl) ?_
      exact W.zret (v := 0) hx hb hr rfl (fun t99 ht99 hW99 => ⟨⟨0, Mw, rfl, ⟨Or.inl ⟨rfl, by unfold crtO; rw [if_pos c1, if_neg (i_nle c2)]; decide⟩, rfl⟩, by rw [ht99]; exact hP, hI⟩, hS.F ht99⟩) hS.2.2 dX7_holds_23
    · skip
      refine lv_iconst (v := 1) hx hb dX7_holds_18 (by decide) ?_
      refine lv_goto (tgt := 23) hx hb dX7_holds_19 (by decide) ?_
      refine W.widen (k := 0) (n := 0) (Nat.le_of_ble_eq_true rfl) (Nat.le_of_ble_eq_true rfl) ?_
      exact W.zret (v := 1) hx hb hr rfl (fun t99 ht99 hW99 => ⟨⟨1, Mw, rfl, ⟨Or.inr ⟨rfl, by unfold crtO; rw [if_pos c1, if_pos (i_le c2)]⟩, rfl⟩, by rw [ht99]; exact hP, hI⟩, hS.F ht99⟩) hS.2.2 dX7_holds_23

set_option maxHeartbeats 4000000 in
set_option maxRecDepth 100000 in
theorem c_X7_thrown (l : Launch) (G : mg) (A : Nat → Prop) (Mw : mw) {xx tl il : Nat} {w2 w3 w1 w0 wt : Int32} (h_X : Mw xx = some (.inr (10, [.ref tl, .ref il, .int w2, .int w3, .int w1, .int w0, .int wt]))) : Met l yX7_thrown wsX7_thrown ({ frames := 0, cells := 0, slots := 0, locals := 0 }) (va_Pc [.ref xx] (mB G A Mw)) (va_Qi (fun r Mw1 => r = (wt) ∧ Mw1 = Mw) (mE G A) A) 0 0 A := by
  refine Met.ofW (cc := cX7_thrown) (maxL := 1) (ret := (some .int)) (by decide) rfl ?_
  intro p e s m args below meth c s₁ B hml hv
  obtain ⟨rfl, hG, hP, hI, hA⟩ := hv
  have hx := B.exec
  have hb := B.bytes
  have hr := B.returns
  have hts := atoms_spec (ws := wsX7_thrown) B.pre
  have hown : s.vm.findClass RX7 = some m.cls := findClass_of_methodNamed B.named
  have hlocks := B.notSynchronized
  have hK := hG.K
  have i_X7 : ∀ w ∈ wsX70, w ∈ wsX7_thrown := by decide +kernel
  have hS : va_S A s.heap s.heap [] := va_S.rf
  have hl := lv_entry ([.ref xx]) (n := 1) (Nat.le_of_ble_eq_true rfl)
  rw [lg_entry_eq]
  generalize (lg_sl ([.ref xx]) ++ List.replicate (1 - (lg_sl ([.ref xx])).length) Slot.unset).toArray = ls at hl ⊢
  have hl : lv_has ls 1 [(0, .ref xx)] := hl
  have hP : mP G.1 Mw s.heap := hP
  refine lv_aload_n hx hb dX7_thrown_0 rfl (lv_at hl 0 rfl) ?_
  refine m_get (ci := 10) (v := .int wt) (C := RX7) (T := TX7) (N := 7) hx hb hts i_X7 hown hK (hP _ _ h_X) rfl 6 (by decide) (hts (.fieldLink RX7 23 "MeniscusModel" "thrown" "I") (by decide +kernel)) (fun _ h9 => h9) rfl dX7_thrown_1 ?_
  refine W.widen (k := 0) (n := 0) (Nat.le_of_ble_eq_true rfl) (Nat.le_of_ble_eq_true rfl) ?_
  exact W.iret (v := wt) hx hb hr (fun t99 ht99 hW99 => ⟨⟨wt, Mw, rfl, ⟨rfl, rfl⟩, by rw [ht99]; exact hP, hI⟩, hS.F ht99⟩) hS.2.2 dX7_thrown_4
