set_option maxHeartbeats 4000000 in
set_option maxRecDepth 100000 in
theorem c_X2_putIce (l : Launch) (G : mg) (A : Nat → Prop) (Mw : mw) (p0 : Int32) {sc0 t0 : Nat} {ice0 stm0 stt0 kin0 : Int32} (h_S : Mw sc0 = some (.inr (5, [.ref t0, .int ice0, .int stm0, .int stt0, .int kin0]))) : Met l yX2_putIce wsX2_putIce ({ frames := 0, cells := 0, slots := 0, locals := 0 }) (va_Pc [.ref sc0, .int p0] (mB G A Mw)) (va_Qv (fun Mw1 => Mw1 = mu Mw sc0 (.inr (5, [.ref t0, .int p0, .int stm0, .int stt0, .int 32]))) (mE G A) A) 0 0 A := by
  refine Met.ofW (cc := cX2_putIce) (maxL := 2) (ret := none) (by decide) rfl ?_
  intro p e s m args below meth c s₁ B hml hv
  obtain ⟨rfl, hG, hP, hI, hA⟩ := hv
  have hx := B.exec
  have hb := B.bytes
  have hr := B.returns
  have hts := atoms_spec (ws := wsX2_putIce) B.pre
  have hown : s.vm.findClass RX2 = some m.cls := findClass_of_methodNamed B.named
  have hlocks := B.notSynchronized
  have hK := hG.K
  have i_X2 : ∀ w ∈ wsX20, w ∈ wsX2_putIce := by decide +kernel
  have hS : va_S A s.heap s.heap [] := va_S.rf
  have hl := lv_entry ([.ref sc0, .int p0]) (n := 2) (Nat.le_of_ble_eq_true rfl)
  rw [lg_entry_eq]
  generalize (lg_sl ([.ref sc0, .int p0]) ++ List.replicate (2 - (lg_sl ([.ref sc0, .int p0])).length) Slot.unset).toArray = ls at hl ⊢
  have hl : lv_has ls 2 [(0, .ref sc0), (1, .int p0)] := hl
  have hP : mP G.1 Mw s.heap := hP
  refine lv_aload_n hx hb dX2_putIce_0 rfl (lv_at hl 0 rfl) ?_
  refine lv_iload_n hx hb dX2_putIce_1 rfl (lv_at hl 1 rfl) ?_
  refine m_put (ci := 5) (v := .int p0) (ty := .int) (C := RX2) (T := TX2) (N := 5) hx hb hts i_X2 tyX2 tyX2_ok nmX2 hown hK hP hI hS h_S rfl 1 (by decide) (hts (.fieldLink RX2 9 "Meniscus$Scale" "icePlace" "I") (by decide +kernel)) (fun _ h9 => h9) rfl (by decide +kernel) rfl rfl (Nat.le_of_ble_eq_true rfl) dX2_putIce_2 (fun H locs hP hI hS => ?_)
  have hP : mP G.1 (mu Mw sc0 (.inr (5, [.ref t0, .int p0, .int stm0, .int stt0, .int kin0]))) H := hP
  have hI : mI A (mu Mw sc0 (.inr (5, [.ref t0, .int p0, .int stm0, .int stt0, .int kin0]))) := hI
  have h_S : (mu Mw sc0 (.inr (5, [.ref t0, .int p0, .int stm0, .int stt0, .int kin0]))) sc0 = some (.inr (5, [.ref t0, .int p0, .int stm0, .int stt0, .int kin0])) := mu_s
  refine lv_aload_n hx hb dX2_putIce_5 rfl (lv_at hl 0 rfl) ?_
  refine lv_bipush (v := (32)) hx hb dX2_putIce_6 (by decide) ?_
  refine m_put (ci := 5) (v := .int 32) (ty := .char) (C := RX2) (T := TX2) (N := 5) hx hb hts i_X2 tyX2 tyX2_ok nmX2 hown hK hP hI hS h_S rfl 4 (by decide) (hts (.fieldLink RX2 18 "Meniscus$Scale" "kind" "C") (by decide +kernel)) (fun _ h9 => h9) rfl (by decide +kernel) rfl rfl (Nat.le_of_ble_eq_true rfl) dX2_putIce_8 (fun H locs hP hI hS => ?_)
  have hP : mP G.1 (mu (mu Mw sc0 (.inr (5, [.ref t0, .int p0, .int stm0, .int stt0, .int kin0]))) sc0 (.inr (5, [.ref t0, .int p0, .int stm0, .int stt0, .int 32]))) H := hP
  have hI : mI A (mu (mu Mw sc0 (.inr (5, [.ref t0, .int p0, .int stm0, .int stt0, .int kin0]))) sc0 (.inr (5, [.ref t0, .int p0, .int stm0, .int stt0, .int 32]))) := hI
  rw [mu_uu] at hP hI 
  have h_S : (mu Mw sc0 (.inr (5, [.ref t0, .int p0, .int stm0, .int stt0, .int 32]))) sc0 = some (.inr (5, [.ref t0, .int p0, .int stm0, .int stt0, .int 32])) := mu_s
  refine W.widen (k := 0) (n := 0) (Nat.le_of_ble_eq_true rfl) (Nat.le_of_ble_eq_true rfl) ?_
  exact W.vret hx hb hr (fun t99 ht99 hW99 => ⟨⟨(mu Mw sc0 (.inr (5, [.ref t0, .int p0, .int stm0, .int stt0, .int 32]))), rfl, rfl, by rw [ht99]; exact hP, hI⟩, hS.F ht99⟩) hS.2.2 dX2_putIce_11

set_option maxHeartbeats 4000000 in
set_option maxRecDepth 100000 in
theorem c_X2_putSteam (l : Launch) (G : mg) (A : Nat → Prop) (Mw : mw) (p0 p1 : Int32) {sc0 t0 : Nat} {ice0 stm0 stt0 kin0 : Int32} (h_S : Mw sc0 = some (.inr (5, [.ref t0, .int ice0, .int stm0, .int stt0, .int kin0]))) : Met l yX2_putSteam wsX2_putSteam ({ frames := 0, cells := 0, slots := 0, locals := 0 }) (va_Pc [.ref sc0, .int p0, .int p1] (mB G A Mw)) (va_Qv (fun Mw1 => Mw1 = mu Mw sc0 (.inr (5, [.ref t0, .int ice0, .int p0, .int p1, .int 32]))) (mE G A) A) 0 0 A := by
  refine Met.ofW (cc := cX2_putSteam) (maxL := 3) (ret := none) (by decide) rfl ?_
  intro p e s m args below meth c s₁ B hml hv
  obtain ⟨rfl, hG, hP, hI, hA⟩ := hv
  have hx := B.exec
  have hb := B.bytes
  have hr := B.returns
  have hts := atoms_spec (ws := wsX2_putSteam) B.pre
  have hown : s.vm.findClass RX2 = some m.cls := findClass_of_methodNamed B.named
  have hlocks := B.notSynchronized
  have hK := hG.K
  have i_X2 : ∀ w ∈ wsX20, w ∈ wsX2_putSteam := by decide +kernel
  have hS : va_S A s.heap s.heap [] := va_S.rf
  have hl := lv_entry ([.ref sc0, .int p0, .int p1]) (n := 3) (Nat.le_of_ble_eq_true rfl)
  rw [lg_entry_eq]
  generalize (lg_sl ([.ref sc0, .int p0, .int p1]) ++ List.replicate (3 - (lg_sl ([.ref sc0, .int p0, .int p1])).length) Slot.unset).toArray = ls at hl ⊢
  have hl : lv_has ls 3 [(0, .ref sc0), (1, .int p0), (2, .int p1)] := hl
  have hP : mP G.1 Mw s.heap := hP
  refine lv_aload_n hx hb dX2_putSteam_0 rfl (lv_at hl 0 rfl) ?_
  refine lv_iload_n hx hb dX2_putSteam_1 rfl (lv_at hl 1 rfl) ?_
  refine m_put (ci := 5) (v := .int p0) (ty := .int) (C := RX2) (T := TX2) (N := 5) hx hb hts i_X2 tyX2 tyX2_ok nmX2 hown hK hP hI hS h_S rfl 2 (by decide) (hts (.fieldLink RX2 15 "Meniscus$Scale" "steamPlace" "I") (by decide +kernel)) (fun _ h9 => h9) rfl (by decide +kernel) rfl rfl (Nat.le_of_ble_eq_true rfl) dX2_putSteam_2 (fun H locs hP hI hS => ?_)
  have hP : mP G.1 (mu Mw sc0 (.inr (5, [.ref t0, .int ice0, .int p0, .int stt0, .int kin0]))) H := hP
  have hI : mI A (mu Mw sc0 (.inr (5, [.ref t0, .int ice0, .int p0, .int stt0, .int kin0]))) := hI
  have h_S : (mu Mw sc0 (.inr (5, [.ref t0, .int ice0, .int p0, .int stt0, .int kin0]))) sc0 = some (.inr (5, [.ref t0, .int ice0, .int p0, .int stt0, .int kin0])) := mu_s
  refine lv_aload_n hx hb dX2_putSteam_5 rfl (lv_at hl 0 rfl) ?_
  refine lv_iload_n hx hb dX2_putSteam_6 rfl (lv_at hl 2 rfl) ?_
  refine m_put (ci := 5) (v := .int p1) (ty := .int) (C := RX2) (T := TX2) (N := 5) hx hb hts i_X2 tyX2 tyX2_ok nmX2 hown hK hP hI hS h_S rfl 3 (by decide) (hts (.fieldLink RX2 26 "Meniscus$Scale" "steamTemperature" "I") (by decide +kernel)) (fun _ h9 => h9) rfl (by decide +kernel) rfl rfl (Nat.le_of_ble_eq_true rfl) dX2_putSteam_7 (fun H locs hP hI hS => ?_)
  have hP : mP G.1 (mu (mu Mw sc0 (.inr (5, [.ref t0, .int ice0, .int p0, .int stt0, .int kin0]))) sc0 (.inr (5, [.ref t0, .int ice0, .int p0, .int p1, .int kin0]))) H := hP
  have hI : mI A (mu (mu Mw sc0 (.inr (5, [.ref t0, .int ice0, .int p0, .int stt0, .int kin0]))) sc0 (.inr (5, [.ref t0, .int ice0, .int p0, .int p1, .int kin0]))) := hI
  rw [mu_uu] at hP hI 
  have h_S : (mu Mw sc0 (.inr (5, [.ref t0, .int ice0, .int p0, .int p1, .int kin0]))) sc0 = some (.inr (5, [.ref t0, .int ice0, .int p0, .int p1, .int kin0])) := mu_s
  refine lv_aload_n hx hb dX2_putSteam_10 rfl (lv_at hl 0 rfl) ?_
  refine lv_bipush (v := (32)) hx hb dX2_putSteam_11 (by decide) ?_
  refine m_put (ci := 5) (v := .int 32) (ty := .char) (C := RX2) (T := TX2) (N := 5) hx hb hts i_X2 tyX2 tyX2_ok nmX2 hown hK hP hI hS h_S rfl 4 (by decide) (hts (.fieldLink RX2 18 "Meniscus$Scale" "kind" "C") (by decide +kernel)) (fun _ h9 => h9) rfl (by decide +kernel) rfl rfl (Nat.le_of_ble_eq_true rfl) dX2_putSteam_13 (fun H locs hP hI hS => ?_)
  have hP : mP G.1 (mu (mu Mw sc0 (.inr (5, [.ref t0, .int ice0, .int p0, .int p1, .int kin0]))) sc0 (.inr (5, [.ref t0, .int ice0, .int p0, .int p1, .int 32]))) H := hP
  have hI : mI A (mu (mu Mw sc0 (.inr (5, [.ref t0, .int ice0, .int p0, .int p1, .int kin0]))) sc0 (.inr (5, [.ref t0, .int ice0, .int p0, .int p1, .int 32]))) := hI
  rw [mu_uu] at hP hI 
  have h_S : (mu Mw sc0 (.inr (5, [.ref t0, .int ice0, .int p0, .int p1, .int 32]))) sc0 = some (.inr (5, [.ref t0, .int ice0, .int p0, .int p1, .int 32])) := mu_s
  refine W.widen (k := 0) (n := 0) (Nat.le_of_ble_eq_true rfl) (Nat.le_of_ble_eq_true rfl) ?_
  exact W.vret hx hb hr (fun t99 ht99 hW99 => ⟨⟨(mu Mw sc0 (.inr (5, [.ref t0, .int ice0, .int p0, .int p1, .int 32]))), rfl, rfl, by rw [ht99]; exact hP, hI⟩, hS.F ht99⟩) hS.2.2 dX2_putSteam_16

set_option maxHeartbeats 4000000 in
set_option maxRecDepth 100000 in
theorem c_X2_hasUnlikePoints (l : Launch) (G : mg) (A : Nat → Prop) (Mw : mw) {sc0 t0 : Nat} {ice0 stm0 stt0 kin0 : Int32} (h_S : Mw sc0 = some (.inr (5, [.ref t0, .int ice0, .int stm0, .int stt0, .int kin0]))) : Met l yX2_hasUnlikePoints wsX2_hasUnlikePoints ({ frames := 0, cells := 0, slots := 0, locals := 0 }) (va_Pc [.ref sc0] (mB G A Mw)) (va_Qi (fun r Mw1 => r = (unl ice0 stm0) ∧ Mw1 = Mw) (mE G A) A) 0 0 A := by
  refine Met.ofW (cc := cX2_hasUnlikePoints) (maxL := 1) (ret := (some .boolean)) (by decide) rfl ?_
  intro p e s m args below meth c s₁ B hml hv
  obtain ⟨rfl, hG, hP, hI, hA⟩ := hv
  have hx := B.exec
  have hb := B.bytes
  have hr := B.returns
  have hts := atoms_spec (ws := wsX2_hasUnlikePoints) B.pre
  have hown : s.vm.findClass RX2 = some m.cls := findClass_of_methodNamed B.named
  have hlocks := B.notSynchronized
  have hK := hG.K
  have i_X2 : ∀ w ∈ wsX20, w ∈ wsX2_hasUnlikePoints := by decide +kernel
  have hS : va_S A s.heap s.heap [] := va_S.rf
  have hl := lv_entry ([.ref sc0]) (n := 1) (Nat.le_of_ble_eq_true rfl)
  rw [lg_entry_eq]
  generalize (lg_sl ([.ref sc0]) ++ List.replicate (1 - (lg_sl ([.ref sc0])).length) Slot.unset).toArray = ls at hl ⊢
  have hl : lv_has ls 1 [(0, .ref sc0)] := hl
  have hP : mP G.1 Mw s.heap := hP
  refine lv_aload_n hx hb dX2_hasUnlikePoints_0 rfl (lv_at hl 0 rfl) ?_
  refine m_get (ci := 5) (v := .int ice0) (C := RX2) (T := TX2) (N := 5) hx hb hts i_X2 hown hK (hP _ _ h_S) rfl 1 (by decide) (hts (.fieldLink RX2 9 "Meniscus$Scale" "icePlace" "I") (by decide +kernel)) (fun _ h9 => h9) rfl dX2_hasUnlikePoints_1 ?_
  refine lv_iconst (v := (-1)) hx hb dX2_hasUnlikePoints_4 (by decide) ?_
  refine lv_icmp_eq (tgt := 31) hx hb dX2_hasUnlikePoints_5 (by decide) (fun c1 => ?_) (fun c1 => ?_)
  · skip
    refine lv_iconst (v := 0) hx hb dX2_hasUnlikePoints_31 (by decide) ?_
    refine W.widen (k := 0) (n := 0) (Nat.le_of_ble_eq_true rfl) (Nat.le_of_ble_eq_true rfl) ?_
    exact W.zret (v := 0) hx hb hr rfl (fun t99 ht99 hW99 => ⟨⟨0, Mw, rfl, ⟨by simp [unl, c1], rfl⟩, by rw [ht99]; exact hP, hI⟩, hS.F ht99⟩) hS.2.2 dX2_hasUnlikePoints_32
  · skip
    refine lv_aload_n hx hb dX2_hasUnlikePoints_8 rfl (lv_at hl 0 rfl) ?_
    refine m_get (ci := 5) (v := .int stm0) (C := RX2) (T := TX2) (N := 5) hx hb hts i_X2 hown hK (hP _ _ h_S) rfl 2 (by decide) (hts (.fieldLink RX2 15 "Meniscus$Scale" "steamPlace" "I") (by decide +kernel)) (fun _ h9 => h9) rfl dX2_hasUnlikePoints_9 ?_
    refine lv_iconst (v := (-1)) hx hb dX2_hasUnlikePoints_12 (by decide) ?_
    refine lv_icmp_eq (tgt := 31) hx hb dX2_hasUnlikePoints_13 (by decide) (fun c2 => ?_) (fun c2 => ?_)
    · skip
      refine lv_iconst (v := 0) hx hb dX2_hasUnlikePoints_31 (by decide) ?_
      refine W.widen (k := 0) (n := 0) (Nat.le_of_ble_eq_true rfl) (Nat.le_of_ble_eq_true rfl) ?_
      exact W.zret (v := 0) hx hb hr rfl (fun t99 ht99 hW99 => ⟨⟨0, Mw, rfl, ⟨by simp [unl, c1, c2], rfl⟩, by rw [ht99]; exact hP, hI⟩, hS.F ht99⟩) hS.2.2 dX2_hasUnlikePoints_32
    · skip
      refine lv_aload_n hx hb dX2_hasUnlikePoints_16 rfl (lv_at hl 0 rfl) ?_
      refine m_get (ci := 5) (v := .int ice0) (C := RX2) (T := TX2) (N := 5) hx hb hts i_X2 hown hK (hP _ _ h_S) rfl 1 (by decide) (hts (.fieldLink RX2 9 "Meniscus$Scale" "icePlace" "I") (by decide +kernel)) (fun _ h9 => h9) rfl dX2_hasUnlikePoints_17 ?_
      refine lv_aload_n hx hb dX2_hasUnlikePoints_20 rfl (lv_at hl 0 rfl) ?_
      refine m_get (ci := 5) (v := .int stm0) (C := RX2) (T := TX2) (N := 5) hx hb hts i_X2 hown hK (hP _ _ h_S) rfl 2 (by decide) (hts (.fieldLink RX2 15 "Meniscus$Scale" "steamPlace" "I") (by decide +kernel)) (fun _ h9 => h9) rfl dX2_hasUnlikePoints_21 ?_
      refine lv_icmp_eq (tgt := 31) hx hb dX2_hasUnlikePoints_24 (by decide) (fun c3 => ?_) (fun c3 => ?_)
      · skip
        refine lv_iconst (v := 0) hx hb dX2_hasUnlikePoints_31 (by decide) ?_
        refine W.widen (k := 0) (n := 0) (Nat.le_of_ble_eq_true rfl) (Nat.le_of_ble_eq_true rfl) ?_
        exact W.zret (v := 0) hx hb hr rfl (fun t99 ht99 hW99 => ⟨⟨0, Mw, rfl, ⟨by simp [unl, c1, c2, c3], rfl⟩, by rw [ht99]; exact hP, hI⟩, hS.F ht99⟩) hS.2.2 dX2_hasUnlikePoints_32
      · skip
        refine lv_iconst (v := 1) hx hb dX2_hasUnlikePoints_27 (by decide) ?_
        refine lv_goto (tgt := 32) hx hb dX2_hasUnlikePoints_28 (by decide) ?_
        refine W.widen (k := 0) (n := 0) (Nat.le_of_ble_eq_true rfl) (Nat.le_of_ble_eq_true rfl) ?_
        exact W.zret (v := 1) hx hb hr rfl (fun t99 ht99 hW99 => ⟨⟨1, Mw, rfl, ⟨by simp [unl, c1, c2, c3], rfl⟩, by rw [ht99]; exact hP, hI⟩, hS.F ht99⟩) hS.2.2 dX2_hasUnlikePoints_32

set_option maxHeartbeats 4000000 in
set_option maxRecDepth 100000 in
theorem c_X2_placesBetween (l : Launch) (G : mg) (A : Nat → Prop) (Mw : mw) {sc0 t0 : Nat} {ice0 stm0 stt0 kin0 : Int32} (h_S : Mw sc0 = some (.inr (5, [.ref t0, .int ice0, .int stm0, .int stt0, .int kin0]))) : Met l yX2_placesBetween wsX2_placesBetween ({ frames := 0, cells := 0, slots := 0, locals := 0 }) (va_Pc [.ref sc0] (mB G A Mw)) (va_Qi (fun r Mw1 => r = (stm0 - ice0) ∧ Mw1 = Mw) (mE G A) A) 0 0 A := by
  refine Met.ofW (cc := cX2_placesBetween) (maxL := 1) (ret := (some .int)) (by decide) rfl ?_
  intro p e s m args below meth c s₁ B hml hv
  obtain ⟨rfl, hG, hP, hI, hA⟩ := hv
  have hx := B.exec
  have hb := B.bytes
  have hr := B.returns
  have hts := atoms_spec (ws := wsX2_placesBetween) B.pre
  have hown : s.vm.findClass RX2 = some m.cls := findClass_of_methodNamed B.named
  have hlocks := B.notSynchronized
  have hK := hG.K
  have i_X2 : ∀ w ∈ wsX20, w ∈ wsX2_placesBetween := by decide +kernel
  have hS : va_S A s.heap s.heap [] := va_S.rf
  have hl := lv_entry ([.ref sc0]) (n := 1) (Nat.le_of_ble_eq_true rfl)
  rw [lg_entry_eq]
  generalize (lg_sl ([.ref sc0]) ++ List.replicate (1 - (lg_sl ([.ref sc0])).length) Slot.unset).toArray = ls at hl ⊢
  have hl : lv_has ls 1 [(0, .ref sc0)] := hl
  have hP : mP G.1 Mw s.heap := hP
  refine lv_aload_n hx hb dX2_placesBetween_0 rfl (lv_at hl 0 rfl) ?_
  refine m_get (ci := 5) (v := .int stm0) (C := RX2) (T := TX2) (N := 5) hx hb hts i_X2 hown hK (hP _ _ h_S) rfl 2 (by decide) (hts (.fieldLink RX2 15 "Meniscus$Scale" "steamPlace" "I") (by decide +kernel)) (fun _ h9 => h9) rfl dX2_placesBetween_1 ?_
  refine lv_aload_n hx hb dX2_placesBetween_4 rfl (lv_at hl 0 rfl) ?_
  refine m_get (ci := 5) (v := .int ice0) (C := RX2) (T := TX2) (N := 5) hx hb hts i_X2 hown hK (hP _ _ h_S) rfl 1 (by decide) (hts (.fieldLink RX2 9 "Meniscus$Scale" "icePlace" "I") (by decide +kernel)) (fun _ h9 => h9) rfl dX2_placesBetween_5 ?_
  refine lv_isub hx hb dX2_placesBetween_8 ?_
  refine W.widen (k := 0) (n := 0) (Nat.le_of_ble_eq_true rfl) (Nat.le_of_ble_eq_true rfl) ?_
  exact W.iret (v := stm0 - ice0) hx hb hr (fun t99 ht99 hW99 => ⟨⟨stm0 - ice0, Mw, rfl, ⟨rfl, rfl⟩, by rw [ht99]; exact hP, hI⟩, hS.F ht99⟩) hS.2.2 dX2_placesBetween_9

set_option maxHeartbeats 4000000 in
set_option maxRecDepth 100000 in
theorem c_X2_farAboveIce (l : Launch) (G : mg) (A : Nat → Prop) (Mw : mw) (p0 : Int32) {sc0 t0 b0 : Nat} {ice0 stm0 stt0 kin0 us0 : Int32} {bf : Nat → Int32} (h_S : Mw sc0 = some (.inr (5, [.ref t0, .int ice0, .int stm0, .int stt0, .int kin0]))) (h_T : Mw t0 = some (.inr (6, [.ref b0, .int us0]))) (h_B : Mw b0 = some (.inl (G.2.1 0, 20, .inl bf))) : Met l yX2_farAboveIce wsX2_farAboveIce ({ frames := 3, cells := 0, slots := 0, locals := 65 }) (va_Pc [.ref sc0, .int p0] (mB G A Mw)) (va_Qi (fun r Mw1 => r = (far kin0 bf ice0 p0) ∧ Mw1 = Mw) (mE G A) A) 0 0 A := by
  refine Met.ofW (cc := cX2_farAboveIce) (maxL := 2) (ret := (some .int)) (by decide) rfl ?_
  intro p e s m args below meth c s₁ B hml hv
  obtain ⟨rfl, hG, hP, hI, hA⟩ := hv
  have hx := B.exec
  have hb := B.bytes
  have hr := B.returns
  have hts := atoms_spec (ws := wsX2_farAboveIce) B.pre
  have hown : s.vm.findClass RX2 = some m.cls := findClass_of_methodNamed B.named
  have hlocks := B.notSynchronized
  have hK := hG.K
  have i_X2 : ∀ w ∈ wsX20, w ∈ wsX2_farAboveIce := by decide +kernel
  have hS : va_S A s.heap s.heap [] := va_S.rf
  have hl := lv_entry ([.ref sc0, .int p0]) (n := 2) (Nat.le_of_ble_eq_true rfl)
  rw [lg_entry_eq]
  generalize (lg_sl ([.ref sc0, .int p0]) ++ List.replicate (2 - (lg_sl ([.ref sc0, .int p0])).length) Slot.unset).toArray = ls at hl ⊢
  have hl : lv_has ls 2 [(0, .ref sc0), (1, .int p0)] := hl
  have hP : mP G.1 Mw s.heap := hP
  refine lv_aload_n hx hb dX2_farAboveIce_0 rfl (lv_at hl 0 rfl) ?_
  refine m_get (ci := 5) (v := .int kin0) (C := RX2) (T := TX2) (N := 5) hx hb hts i_X2 hown hK (hP _ _ h_S) rfl 4 (by decide) (hts (.fieldLink RX2 18 "Meniscus$Scale" "kind" "C") (by decide +kernel)) (fun _ h9 => h9) rfl dX2_farAboveIce_1 ?_
  refine lv_bipush (v := (118)) hx hb dX2_farAboveIce_4 (by decide) ?_
  refine lv_icmp_ne (tgt := 30) hx hb dX2_farAboveIce_6 (by decide) (fun c1 => ?_) (fun c1 => ?_)
  · skip
    refine lv_iload_n hx hb dX2_farAboveIce_30 rfl (lv_at hl 1 rfl) ?_
    refine lv_aload_n hx hb dX2_farAboveIce_31 rfl (lv_at hl 0 rfl) ?_
    refine m_get (ci := 5) (v := .int ice0) (C := RX2) (T := TX2) (N := 5) hx hb hts i_X2 hown hK (hP _ _ h_S) rfl 1 (by decide) (hts (.fieldLink RX2 9 "Meniscus$Scale" "icePlace" "I") (by decide +kernel)) (fun _ h9 => h9) rfl dX2_farAboveIce_32 ?_
    refine lv_isub hx hb dX2_farAboveIce_35 ?_
    refine W.widen (k := 0) (n := 0) (Nat.le_of_ble_eq_true rfl) (Nat.le_of_ble_eq_true rfl) ?_
    exact W.iret (v := p0 - ice0) hx hb hr (fun t99 ht99 hW99 => ⟨⟨p0 - ice0, Mw, rfl, ⟨(if_neg c1).symm, rfl⟩, by rw [ht99]; exact hP, hI⟩, hS.F ht99⟩) hS.2.2 dX2_farAboveIce_36
  · skip
    refine lv_aload_n hx hb dX2_farAboveIce_9 rfl (lv_at hl 0 rfl) ?_
    refine m_get (ci := 5) (v := .ref t0) (C := RX2) (T := TX2) (N := 5) hx hb hts i_X2 hown hK (hP _ _ h_S) rfl 0 (by decide) (hts (.fieldLink RX2 22 "Meniscus$Scale" "tube" "LMeniscus$Tube;") (by decide +kernel)) (fun _ h9 => h9) rfl dX2_farAboveIce_10 ?_
    refine lv_iload_n hx hb dX2_farAboveIce_13 rfl (lv_at hl 1 rfl) ?_
    refine m_calli (va_runV (As := [.int p0]) (rest := []) ⟨hx, hb, hml, hown, hts⟩ (c_X3_volumeUpTo l G A Mw  p0 h_T h_B) (cwV 1 hts gX2_farAboveIce_X3_volumeUpTo rfl rfl rfl (by decide +kernel) ⟨Nat.le_of_ble_eq_true rfl, Nat.le_of_ble_eq_true rfl⟩) (mPreV hG hS hP hI hA (hP _ _ h_T) (r := (RX3, TX3, 2)) rfl) rfl rfl hl.1 rfl (lv_room (Nat.le_of_ble_eq_true rfl)) dX2_farAboveIce_14 ⟨Nat.le_of_ble_eq_true rfl, Nat.le_of_ble_eq_true rfl⟩) hS (fun r2 Mw1 H locs hp_r2 hP hI hS => ?_)
    obtain ⟨hp_r2, hm9⟩ := hp_r2
    subst Mw1
    refine lv_aload_n hx hb dX2_farAboveIce_17 rfl (lv_at hl 0 rfl) ?_
    refine m_get (ci := 5) (v := .ref t0) (C := RX2) (T := TX2) (N := 5) hx hb hts i_X2 hown hK (hP _ _ h_S) rfl 0 (by decide) (hts (.fieldLink RX2 22 "Meniscus$Scale" "tube" "LMeniscus$Tube;") (by decide +kernel)) (fun _ h9 => h9) rfl dX2_farAboveIce_18 ?_
    refine lv_aload_n hx hb dX2_farAboveIce_21 rfl (lv_at hl 0 rfl) ?_
    refine m_get (ci := 5) (v := .int ice0) (C := RX2) (T := TX2) (N := 5) hx hb hts i_X2 hown hK (hP _ _ h_S) rfl 1 (by decide) (hts (.fieldLink RX2 9 "Meniscus$Scale" "icePlace" "I") (by decide +kernel)) (fun _ h9 => h9) rfl dX2_farAboveIce_22 ?_
    refine m_calli (va_runV (As := [.int ice0]) (rest := [.int r2]) ⟨hx, hb, hml, hown, hts⟩ (c_X3_volumeUpTo l G A Mw  ice0 h_T h_B) (cwV 1 hts gX2_farAboveIce_X3_volumeUpTo rfl rfl rfl (by decide +kernel) ⟨Nat.le_of_ble_eq_true rfl, Nat.le_of_ble_eq_true rfl⟩) (mPreV hG hS hP hI hA (hP _ _ h_T) (r := (RX3, TX3, 2)) rfl) rfl rfl hl.1 rfl (lv_room (Nat.le_of_ble_eq_true rfl)) dX2_farAboveIce_25 ⟨Nat.le_of_ble_eq_true rfl, Nat.le_of_ble_eq_true rfl⟩) hS (fun r3 Mw1 H locs hp_r3 hP hI hS => ?_)
    obtain ⟨hp_r3, hm9⟩ := hp_r3
    subst Mw1
    refine lv_isub hx hb dX2_farAboveIce_28 ?_
    refine W.widen (k := 0) (n := 0) (Nat.le_of_ble_eq_true rfl) (Nat.le_of_ble_eq_true rfl) ?_
    exact W.iret (v := r2 - r3) hx hb hr (fun t99 ht99 hW99 => ⟨⟨r2 - r3, Mw, rfl, ⟨by rw [hp_r2, hp_r3]; exact (if_pos c1).symm, rfl⟩, by rw [ht99]; exact hP, hI⟩, hS.F ht99⟩) hS.2.2 dX2_farAboveIce_29

set_option maxHeartbeats 4000000 in
set_option maxRecDepth 100000 in
theorem c_X2_readingAt (l : Launch) (G : mg) (A : Nat → Prop) (Mw : mw) (p0 : Int32) {sc0 t0 b0 : Nat} {ice0 stm0 stt0 kin0 us0 : Int32} {bf : Nat → Int32} (h_S : Mw sc0 = some (.inr (5, [.ref t0, .int ice0, .int stm0, .int stt0, .int kin0]))) (h_T : Mw t0 = some (.inr (6, [.ref b0, .int us0]))) (h_B : Mw b0 = some (.inl (G.2.1 0, 20, .inl bf))) : Met l yX2_readingAt wsX2_readingAt ({ frames := 4, cells := 0, slots := 0, locals := 86 }) (va_Pc [.ref sc0, .int p0] (mB G A Mw)) (va_Qi (fun r Mw1 => r = (rdg kin0 bf ice0 stm0 stt0 p0) ∧ Mw1 = Mw) (mE G A) A) 0 0 A := by
  refine Met.ofW (cc := cX2_readingAt) (maxL := 3) (ret := (some .int)) (by decide) rfl ?_
  intro p e s m args below meth c s₁ B hml hv
  obtain ⟨rfl, hG, hP, hI, hA⟩ := hv
  have hx := B.exec
  have hb := B.bytes
  have hr := B.returns
  have hts := atoms_spec (ws := wsX2_readingAt) B.pre
  have hown : s.vm.findClass RX2 = some m.cls := findClass_of_methodNamed B.named
  have hlocks := B.notSynchronized
  have hK := hG.K
  have i_X2 : ∀ w ∈ wsX20, w ∈ wsX2_readingAt := by decide +kernel
  have hS : va_S A s.heap s.heap [] := va_S.rf
  have hl := lv_entry ([.ref sc0, .int p0]) (n := 3) (Nat.le_of_ble_eq_true rfl)
  rw [lg_entry_eq]
  generalize (lg_sl ([.ref sc0, .int p0]) ++ List.replicate (3 - (lg_sl ([.ref sc0, .int p0])).length) Slot.unset).toArray = ls at hl ⊢
  have hl : lv_has ls 3 [(0, .ref sc0), (1, .int p0)] := hl
  have hP : mP G.1 Mw s.heap := hP
  refine lv_aload_n hx hb dX2_readingAt_0 rfl (lv_at hl 0 rfl) ?_
  refine lv_aload_n hx hb dX2_readingAt_1 rfl (lv_at hl 0 rfl) ?_
  refine m_get (ci := 5) (v := .int stm0) (C := RX2) (T := TX2) (N := 5) hx hb hts i_X2 hown hK (hP _ _ h_S) rfl 2 (by decide) (hts (.fieldLink RX2 15 "Meniscus$Scale" "steamPlace" "I") (by decide +kernel)) (fun _ h9 => h9) rfl dX2_readingAt_2 ?_
  refine m_calli (va_runV (As := [.int stm0]) (rest := []) ⟨hx, hb, hml, hown, hts⟩ (c_X2_farAboveIce l G A Mw  stm0 h_S h_T h_B) (cwV 1 hts gX2_readingAt_X2_farAboveIce rfl rfl rfl (by decide +kernel) ⟨Nat.le_of_ble_eq_true rfl, Nat.le_of_ble_eq_true rfl⟩) (mPreV hG hS hP hI hA (hP _ _ h_S) (r := (RX2, TX2, 5)) rfl) rfl rfl hl.1 rfl (lv_room (Nat.le_of_ble_eq_true rfl)) dX2_readingAt_5 ⟨Nat.le_of_ble_eq_true rfl, Nat.le_of_ble_eq_true rfl⟩) hS (fun r1 Mw1 H locs hp_r1 hP hI hS => ?_)
  obtain ⟨hp_r1, hm9⟩ := hp_r1
  subst Mw1
  refine lv_istore_n (lv' := [(2, .int r1), (0, .ref sc0), (1, .int p0)]) hx hb dX2_readingAt_8 rfl hl (by decide) rfl (fun ls hl => ?_)
  refine lv_iload_n hx hb dX2_readingAt_9 rfl (lv_at hl 0 rfl) ?_
  refine lv_if_ne (tgt := 15) hx hb dX2_readingAt_10 (by decide) (fun c2 => ?_) (fun c2 => ?_)
  · skip
    refine lv_aload_n hx hb dX2_readingAt_15 rfl (lv_at hl 1 rfl) ?_
    refine m_get (ci := 5) (v := .int stt0) (C := RX2) (T := TX2) (N := 5) hx hb hts i_X2 hown hK (hP _ _ h_S) rfl 3 (by decide) (hts (.fieldLink RX2 26 "Meniscus$Scale" "steamTemperature" "I") (by decide +kernel)) (fun _ h9 => h9) rfl dX2_readingAt_16 ?_
    refine lv_aload_n hx hb dX2_readingAt_19 rfl (lv_at hl 1 rfl) ?_
    refine lv_iload_n hx hb dX2_readingAt_20 rfl (lv_at hl 2 rfl) ?_
    refine m_calli (va_runV (As := [.int p0]) (rest := [.int stt0]) ⟨hx, hb, hml, hown, hts⟩ (c_X2_farAboveIce l G A Mw  p0 h_S h_T h_B) (cwV 1 hts gX2_readingAt_X2_farAboveIce rfl rfl rfl (by decide +kernel) ⟨Nat.le_of_ble_eq_true rfl, Nat.le_of_ble_eq_true rfl⟩) (mPreV hG hS hP hI hA (hP _ _ h_S) (r := (RX2, TX2, 5)) rfl) rfl rfl hl.1 rfl (lv_room (Nat.le_of_ble_eq_true rfl)) dX2_readingAt_21 ⟨Nat.le_of_ble_eq_true rfl, Nat.le_of_ble_eq_true rfl⟩) hS (fun r3 Mw1 H locs hp_r3 hP hI hS => ?_)
    obtain ⟨hp_r3, hm9⟩ := hp_r3
    subst Mw1
    refine lv_imul hx hb dX2_readingAt_24 ?_
    refine lv_iload_n hx hb dX2_readingAt_25 rfl (lv_at hl 0 rfl) ?_
    refine lv_idiv hx hb dX2_readingAt_26 (by assumption) ?_
    refine W.widen (k := 0) (n := 0) (Nat.le_of_ble_eq_true rfl) (Nat.le_of_ble_eq_true rfl) ?_
    exact W.iret (v := (stt0 * r3) / r1) hx hb hr (fun t99 ht99 hW99 => ⟨⟨(stt0 * r3) / r1, Mw, rfl, ⟨by rw [hp_r1, hp_r3]; rw [hp_r1] at c2; exact (if_neg c2).symm, rfl⟩, by rw [ht99]; exact hP, hI⟩, hS.F ht99⟩) hS.2.2 dX2_readingAt_27
  · skip
    refine lv_iconst (v := 0) hx hb dX2_readingAt_13 (by decide) ?_
    refine W.widen (k := 0) (n := 0) (Nat.le_of_ble_eq_true rfl) (Nat.le_of_ble_eq_true rfl) ?_
    exact W.iret (v := 0) hx hb hr (fun t99 ht99 hW99 => ⟨⟨0, Mw, rfl, ⟨by rw [hp_r1] at c2; exact (if_pos c2).symm, rfl⟩, by rw [ht99]; exact hP, hI⟩, hS.F ht99⟩) hS.2.2 dX2_readingAt_14

set_option maxHeartbeats 4000000 in
set_option maxRecDepth 100000 in
theorem c_X2_init (l : Launch) (G : mg) (A : Nat → Prop) (Mw : mw) {sc0 : Nat} (t0 : Nat) (h_S : Mw sc0 = some (.inr (5, [.null, .int 0, .int 0, .int 0, .int 0]))) : Met l yX2_init wsX2_init ({ frames := 1, cells := 0, slots := 0, locals := 20 }) (va_Pc [.ref sc0, .ref t0] (mB G A Mw)) (va_Qv (fun Mw1 => Mw1 = mu Mw sc0 (.inr (5, [.ref t0, .int ((-1)), .int ((-1)), .int 0, .int 32]))) (mE G A) A) 0 0 A := by
  refine Met.ofW (cc := cX2_init) (maxL := 2) (ret := none) (by decide) rfl ?_
  intro p e s m args below meth c s₁ B hml hv
  obtain ⟨rfl, hG, hP, hI, hA⟩ := hv
  have hx := B.exec
  have hb := B.bytes
  have hr := B.returns
  have hts := atoms_spec (ws := wsX2_init) B.pre
  have hown : s.vm.findClass RX2 = some m.cls := findClass_of_methodNamed B.named
  have hlocks := B.notSynchronized
  have hK := hG.K
  have hin : meth.name = "<init>" := (name_of_methodNamed B.named B.method).1
  have i_X2 : ∀ w ∈ wsX20, w ∈ wsX2_init := by decide +kernel
  have hS : va_S A s.heap s.heap [] := va_S.rf
  have hl := lv_entry ([.ref sc0, .ref t0]) (n := 2) (Nat.le_of_ble_eq_true rfl)
  rw [lg_entry_eq]
  generalize (lg_sl ([.ref sc0, .ref t0]) ++ List.replicate (2 - (lg_sl ([.ref sc0, .ref t0])).length) Slot.unset).toArray = ls at hl ⊢
  have hl : lv_has ls 2 [(0, .ref sc0), (1, .ref t0)] := hl
  have hP : mP G.1 Mw s.heap := hP
  refine lv_aload_n hx hb dX2_init_0 rfl (lv_at hl 0 rfl) ?_
  refine W.objInit hx hb hown (hts (.methodLink RX2 3 objectInit) (by decide +kernel)) (hts (.instanceMethod objectInit) (by decide +kernel)) (hts (.code objectInit ⟨#[0xb1]⟩ 1 none) (by decide +kernel)) rfl (by rw [hml]; exact hl.1) rfl dX2_init_1 (Nat.le_of_ble_eq_true rfl) (Nat.le_of_ble_eq_true rfl) ?_
  refine W.eq (g2 := F0 m 4 ls []) rfl ?_
  refine lv_aload_n hx hb dX2_init_4 rfl (lv_at hl 0 rfl) ?_
  refine lv_iconst (v := (-1)) hx hb dX2_init_5 (by decide) ?_
  refine m_put (ci := 5) (v := .int ((-1))) (ty := .int) (C := RX2) (T := TX2) (N := 5) hx hb hts i_X2 tyX2 tyX2_ok nmX2 hown hK hP hI hS h_S rfl 1 (by decide) (hts (.fieldLink RX2 9 "Meniscus$Scale" "icePlace" "I") (by decide +kernel)) (fun _ h9 => h9) rfl (by decide +kernel) rfl rfl (Nat.le_of_ble_eq_true rfl) dX2_init_6 (fun H locs hP hI hS => ?_)
  have hP : mP G.1 (mu Mw sc0 (.inr (5, [.null, .int ((-1)), .int 0, .int 0, .int 0]))) H := hP
  have hI : mI A (mu Mw sc0 (.inr (5, [.null, .int ((-1)), .int 0, .int 0, .int 0]))) := hI
  have h_S : (mu Mw sc0 (.inr (5, [.null, .int ((-1)), .int 0, .int 0, .int 0]))) sc0 = some (.inr (5, [.null, .int ((-1)), .int 0, .int 0, .int 0])) := mu_s
  refine lv_aload_n hx hb dX2_init_9 rfl (lv_at hl 0 rfl) ?_
  refine lv_iconst (v := (-1)) hx hb dX2_init_10 (by decide) ?_
  refine m_put (ci := 5) (v := .int ((-1))) (ty := .int) (C := RX2) (T := TX2) (N := 5) hx hb hts i_X2 tyX2 tyX2_ok nmX2 hown hK hP hI hS h_S rfl 2 (by decide) (hts (.fieldLink RX2 15 "Meniscus$Scale" "steamPlace" "I") (by decide +kernel)) (fun _ h9 => h9) rfl (by decide +kernel) rfl rfl (Nat.le_of_ble_eq_true rfl) dX2_init_11 (fun H locs hP hI hS => ?_)
  have hP : mP G.1 (mu (mu Mw sc0 (.inr (5, [.null, .int ((-1)), .int 0, .int 0, .int 0]))) sc0 (.inr (5, [.null, .int ((-1)), .int ((-1)), .int 0, .int 0]))) H := hP
  have hI : mI A (mu (mu Mw sc0 (.inr (5, [.null, .int ((-1)), .int 0, .int 0, .int 0]))) sc0 (.inr (5, [.null, .int ((-1)), .int ((-1)), .int 0, .int 0]))) := hI
  rw [mu_uu] at hP hI 
  have h_S : (mu Mw sc0 (.inr (5, [.null, .int ((-1)), .int ((-1)), .int 0, .int 0]))) sc0 = some (.inr (5, [.null, .int ((-1)), .int ((-1)), .int 0, .int 0])) := mu_s
  refine lv_aload_n hx hb dX2_init_14 rfl (lv_at hl 0 rfl) ?_
  refine lv_bipush (v := (32)) hx hb dX2_init_15 (by decide) ?_
  refine m_put (ci := 5) (v := .int 32) (ty := .char) (C := RX2) (T := TX2) (N := 5) hx hb hts i_X2 tyX2 tyX2_ok nmX2 hown hK hP hI hS h_S rfl 4 (by decide) (hts (.fieldLink RX2 18 "Meniscus$Scale" "kind" "C") (by decide +kernel)) (fun _ h9 => h9) rfl (by decide +kernel) rfl rfl (Nat.le_of_ble_eq_true rfl) dX2_init_17 (fun H locs hP hI hS => ?_)
  have hP : mP G.1 (mu (mu Mw sc0 (.inr (5, [.null, .int ((-1)), .int ((-1)), .int 0, .int 0]))) sc0 (.inr (5, [.null, .int ((-1)), .int ((-1)), .int 0, .int 32]))) H := hP
  have hI : mI A (mu (mu Mw sc0 (.inr (5, [.null, .int ((-1)), .int ((-1)), .int 0, .int 0]))) sc0 (.inr (5, [.null, .int ((-1)), .int ((-1)), .int 0, .int 32]))) := hI
  rw [mu_uu] at hP hI 
  have h_S : (mu Mw sc0 (.inr (5, [.null, .int ((-1)), .int ((-1)), .int 0, .int 32]))) sc0 = some (.inr (5, [.null, .int ((-1)), .int ((-1)), .int 0, .int 32])) := mu_s
  refine lv_aload_n hx hb dX2_init_20 rfl (lv_at hl 0 rfl) ?_
  refine lv_aload_n hx hb dX2_init_21 rfl (lv_at hl 1 rfl) ?_
  refine m_putF (ci := 5) (v := .ref t0) (ty := .object "Meniscus$Tube") (C := RX2) (T := TX2) (N := 5) hx hb hts i_X2 tyX2 tyX2_ok nmX2 hown hK hP hI hS h_S rfl 0 (by decide) (hts (.fieldLink RX2 22 "Meniscus$Scale" "tube" "LMeniscus$Tube;") (by decide +kernel)) (fun _ h9 => h9) rfl hin rfl (by decide +kernel) rfl rfl (Nat.le_of_ble_eq_true rfl) dX2_init_22 (fun H locs hP hI hS => ?_)
  have hP : mP G.1 (mu (mu Mw sc0 (.inr (5, [.null, .int ((-1)), .int ((-1)), .int 0, .int 32]))) sc0 (.inr (5, [.ref t0, .int ((-1)), .int ((-1)), .int 0, .int 32]))) H := hP
  have hI : mI A (mu (mu Mw sc0 (.inr (5, [.null, .int ((-1)), .int ((-1)), .int 0, .int 32]))) sc0 (.inr (5, [.ref t0, .int ((-1)), .int ((-1)), .int 0, .int 32]))) := hI
  rw [mu_uu] at hP hI 
  have h_S : (mu Mw sc0 (.inr (5, [.ref t0, .int ((-1)), .int ((-1)), .int 0, .int 32]))) sc0 = some (.inr (5, [.ref t0, .int ((-1)), .int ((-1)), .int 0, .int 32])) := mu_s
  refine W.widen (k := 0) (n := 0) (Nat.le_of_ble_eq_true rfl) (Nat.le_of_ble_eq_true rfl) ?_
  exact W.vret hx hb hr (fun t99 ht99 hW99 => ⟨⟨(mu Mw sc0 (.inr (5, [.ref t0, .int ((-1)), .int ((-1)), .int 0, .int 32]))), rfl, rfl, by rw [ht99]; exact hP, hI⟩, hS.F ht99⟩) hS.2.2 dX2_init_25

set_option maxHeartbeats 4000000 in
set_option maxRecDepth 100000 in
theorem c_X1_loseOldest (l : Launch) (G : mg) (A : Nat → Prop) (Mw : mw) {rd0 va0 er0 n9 : Nat} {vf ef : Nat → Int32} (hve : va0 ≠ er0) (hn9 : n9 ≤ 8) (h_R : Mw rd0 = some (.inr (4, [.ref va0, .ref er0, .int (nI n9)]))) (h_V : Mw va0 = some (.inl (G.2.1 0, 8, .inl vf))) (h_E : Mw er0 = some (.inl (G.2.1 0, 8, .inl ef))) : Met l yX1_loseOldest wsX1_loseOldest ({ frames := 0, cells := 0, slots := 0, locals := 0 }) (va_Pc [.ref rd0] (mB G A Mw)) (va_Qv (fun Mw1 => Mw1 = mu (mu (mu Mw va0 (.inl (G.2.1 0, 8, .inl (losU vf 8)))) er0 (.inl (G.2.1 0, 8, .inl (losU ef 8)))) rd0 (.inr (4, [.ref va0, .ref er0, .int 7]))) (mE G A) A) 0 0 A := by
  refine Met.ofW (cc := cX1_loseOldest) (maxL := 2) (ret := none) (by decide) rfl ?_
  intro p e s m args below meth c s₁ B hml hv
  obtain ⟨rfl, hG, hP, hI, hA⟩ := hv
  have hx := B.exec
  have hb := B.bytes
  have hr := B.returns
  have hts := atoms_spec (ws := wsX1_loseOldest) B.pre
  have hown : s.vm.findClass RX1 = some m.cls := findClass_of_methodNamed B.named
  have hlocks := B.notSynchronized
  have hK := hG.K
  have i_X1 : ∀ w ∈ wsX10, w ∈ wsX1_loseOldest := by decide +kernel
  have hS : va_S A s.heap s.heap [] := va_S.rf
  have hl := lv_entry ([.ref rd0]) (n := 2) (Nat.le_of_ble_eq_true rfl)
  rw [lg_entry_eq]
  generalize (lg_sl ([.ref rd0]) ++ List.replicate (2 - (lg_sl ([.ref rd0])).length) Slot.unset).toArray = ls at hl ⊢
  have hl : lv_has ls 2 [(0, .ref rd0)] := hl
  have hP : mP G.1 Mw s.heap := hP
  refine lv_iconst (v := 1) hx hb dX1_loseOldest_0 (by decide) ?_
  refine lv_istore_n (lv' := [(1, .int 1), (0, .ref rd0)]) hx hb dX1_loseOldest_1 rfl hl (by decide) rfl (fun ls hl => ?_)
  have ne_h_R_h_V := (kd_ne h_R h_V rfl)
  have ne_h_R_h_E := (kd_ne h_R h_E rfl)
  have loop : ∀ (n k : Nat) (h1k : 1 ≤ k), k ≤ 8 → k + n = 8 + 1 → ∀ (Mv_loop : mw) (H : Heap) (locs : List Loc) (ls : Array Slot), Mv_loop va0 = some (.inl (G.2.1 0, 8, .inl (losU vf k))) → Mv_loop er0 = some (.inl (G.2.1 0, 8, .inl (losU ef k))) → (∀ x : Nat, x ≠ va0 → x ≠ er0 → Mv_loop x = (Mw) x) → mP G.1 Mv_loop H → mI A Mv_loop → va_S A s.heap H locs → lv_has ls 2 [(0, .ref rd0), (1, .int (nI k))] → W p l e ({ frames := 0, cells := 0, slots := 0, locals := 0 }) s m ([.ref rd0] : List Value).toArray below meth c H locs 0 0 (MQ below (va_Qv (fun Mw1 => Mw1 = mu (mu (mu Mw va0 (.inl (G.2.1 0, 8, .inl (losU vf 8)))) er0 (.inl (G.2.1 0, 8, .inl (losU ef 8)))) rd0 (.inr (4, [.ref va0, .ref er0, .int 7]))) (mE G A) A) ([.ref rd0] : List Value).toArray s 0 0 A) (F0 m 2 ls []) := by
    intro n
    induction n with
    | zero => intro k h1k hk1 hk2; omega
    | succ n ih_loop =>
      intro k h1k hk1 hk2 Mv_loop H locs ls h_V h_E hfr_loop hP hI hS hl
      have h_R := (hfr_loop _ ne_h_R_h_V ne_h_R_h_E).trans h_R
      refine lv_iload_n hx hb dX1_loseOldest_2 rfl (lv_at hl 1 rfl) ?_
      refine lv_bipush (v := (8)) hx hb dX1_loseOldest_3 (by decide) ?_
      refine lv_icmp_ge (tgt := 42) hx hb dX1_loseOldest_5 (by decide) (fun c1 => ?_) (fun c1 => ?_)
      · skip
        have hk3 : 8 ≤ k := (nI_leI (a := 8) (b := k) (by omega) (by omega)).mp c1
        obtain rfl : k = 8 := by omega
        have hMv := mw_ext2 h_V h_E hfr_loop
        refine lv_aload_n hx hb dX1_loseOldest_42 rfl (lv_at hl 0 rfl) ?_
        refine lv_bipush (v := (7)) hx hb dX1_loseOldest_43 (by decide) ?_
        refine m_put (ci := 4) (v := .int 7) (ty := .int) (C := RX1) (T := TX1) (N := 3) hx hb hts i_X1 tyX1 tyX1_ok nmX1 hown hK hP hI hS h_R rfl 2 (by decide) (hts (.fieldLink RX1 18 "Meniscus$Readings" "count" "I") (by decide +kernel)) (fun _ h9 => h9) rfl (by decide +kernel) rfl rfl (Nat.le_of_ble_eq_true rfl) dX1_loseOldest_45 (fun H locs hP hI hS => ?_)
        have hP : mP G.1 (mu Mv_loop rd0 (.inr (4, [.ref va0, .ref er0, .int 7]))) H := hP
        have hI : mI A (mu Mv_loop rd0 (.inr (4, [.ref va0, .ref er0, .int 7]))) := hI
        have h_V := mu_k (e := .inr (4, [.ref va0, .ref er0, .int 7])) (kd_ne h_V h_R rfl) h_V
        have h_E := mu_k (e := .inr (4, [.ref va0, .ref er0, .int 7])) (kd_ne h_E h_R rfl) h_E
        have h_R : (mu Mv_loop rd0 (.inr (4, [.ref va0, .ref er0, .int 7]))) rd0 = some (.inr (4, [.ref va0, .ref er0, .int 7])) := mu_s
        refine W.widen (k := 0) (n := 0) (Nat.le_of_ble_eq_true rfl) (Nat.le_of_ble_eq_true rfl) ?_
        exact W.vret hx hb hr (fun t99 ht99 hW99 => ⟨⟨(mu Mv_loop rd0 (.inr (4, [.ref va0, .ref er0, .int 7]))), rfl, by rw [hMv], by rw [ht99]; exact hP, hI⟩, hS.F ht99⟩) hS.2.2 dX1_loseOldest_48
      · skip
        have hk3 : k < 8 := Nat.lt_of_not_le (fun q => c1 (nI_le (a := 8) q (by omega)))
        refine lv_aload_n hx hb dX1_loseOldest_8 rfl (lv_at hl 0 rfl) ?_
        refine m_get (ci := 4) (v := .ref va0) (C := RX1) (T := TX1) (N := 3) hx hb hts i_X1 hown hK (hP _ _ h_R) rfl 0 (by decide) (hts (.fieldLink RX1 9 "Meniscus$Readings" "values" "[I") (by decide +kernel)) (fun _ h9 => h9) rfl dX1_loseOldest_9 ?_
        refine lv_iload_n hx hb dX1_loseOldest_12 rfl (lv_at hl 1 rfl) ?_
        refine lv_iconst (v := 1) hx hb dX1_loseOldest_13 (by decide) ?_
        refine lv_isub hx hb dX1_loseOldest_14 ?_
        refine lv_aload_n hx hb dX1_loseOldest_15 rfl (lv_at hl 0 rfl) ?_
        refine m_get (ci := 4) (v := .ref va0) (C := RX1) (T := TX1) (N := 3) hx hb hts i_X1 hown hK (hP _ _ h_R) rfl 0 (by decide) (hts (.fieldLink RX1 9 "Meniscus$Readings" "values" "[I") (by decide +kernel)) (fun _ h9 => h9) rfl dX1_loseOldest_16 ?_
        refine lv_iload_n hx hb dX1_loseOldest_19 rfl (lv_at hl 1 rfl) ?_
        refine m_iald hx hb hK 0 (hP _ _ h_V) rfl (vp_in_nI (by omega) (by omega)) dX1_loseOldest_20 ?_
        refine m_iast hx hb hK hP hI hS 0 h_V rfl (by rw [show nI k - 1 = nI (k - 1) from pk_sub (a := k) (b := 1) h1k]; exact vp_in_nI (by omega) (by omega)) dX1_loseOldest_21 (fun H locs hP hI hS => ?_)
        have h_R := mu_k (e := .inl (G.2.1 0, 8, .inl (upd (losU vf k) (((nI k) - 1).toNatClampNeg) ((losU vf k) ((nI k).toNatClampNeg))))) (kd_ne h_R h_V rfl) h_R
        have h_E := mu_k (e := .inl (G.2.1 0, 8, .inl (upd (losU vf k) (((nI k) - 1).toNatClampNeg) ((losU vf k) ((nI k).toNatClampNeg))))) (Ne.symm hve) h_E
        have h_V : (mu Mv_loop va0 (.inl (G.2.1 0, 8, .inl (upd (losU vf k) (((nI k) - 1).toNatClampNeg) ((losU vf k) ((nI k).toNatClampNeg)))))) va0 = some (.inl (G.2.1 0, 8, .inl (upd (losU vf k) (((nI k) - 1).toNatClampNeg) ((losU vf k) ((nI k).toNatClampNeg))))) := mu_s
        refine lv_aload_n hx hb dX1_loseOldest_22 rfl (lv_at hl 0 rfl) ?_
        refine m_get (ci := 4) (v := .ref er0) (C := RX1) (T := TX1) (N := 3) hx hb hts i_X1 hown hK (hP _ _ h_R) rfl 1 (by decide) (hts (.fieldLink RX1 15 "Meniscus$Readings" "errors" "[I") (by decide +kernel)) (fun _ h9 => h9) rfl dX1_loseOldest_23 ?_
        refine lv_iload_n hx hb dX1_loseOldest_26 rfl (lv_at hl 1 rfl) ?_
        refine lv_iconst (v := 1) hx hb dX1_loseOldest_27 (by decide) ?_
        refine lv_isub hx hb dX1_loseOldest_28 ?_
        refine lv_aload_n hx hb dX1_loseOldest_29 rfl (lv_at hl 0 rfl) ?_
        refine m_get (ci := 4) (v := .ref er0) (C := RX1) (T := TX1) (N := 3) hx hb hts i_X1 hown hK (hP _ _ h_R) rfl 1 (by decide) (hts (.fieldLink RX1 15 "Meniscus$Readings" "errors" "[I") (by decide +kernel)) (fun _ h9 => h9) rfl dX1_loseOldest_30 ?_
        refine lv_iload_n hx hb dX1_loseOldest_33 rfl (lv_at hl 1 rfl) ?_
        refine m_iald hx hb hK 0 (hP _ _ h_E) rfl (vp_in_nI (by omega) (by omega)) dX1_loseOldest_34 ?_
        refine m_iast hx hb hK hP hI hS 0 h_E rfl (by rw [show nI k - 1 = nI (k - 1) from pk_sub (a := k) (b := 1) h1k]; exact vp_in_nI (by omega) (by omega)) dX1_loseOldest_35 (fun H locs hP hI hS => ?_)
        have h_R := mu_k (e := .inl (G.2.1 0, 8, .inl (upd (losU ef k) (((nI k) - 1).toNatClampNeg) ((losU ef k) ((nI k).toNatClampNeg))))) (kd_ne h_R h_E rfl) h_R
        have h_V := mu_k (e := .inl (G.2.1 0, 8, .inl (upd (losU ef k) (((nI k) - 1).toNatClampNeg) ((losU ef k) ((nI k).toNatClampNeg))))) hve h_V
        have h_E : (mu (mu Mv_loop va0 (.inl (G.2.1 0, 8, .inl (upd (losU vf k) (((nI k) - 1).toNatClampNeg) ((losU vf k) ((nI k).toNatClampNeg)))))) er0 (.inl (G.2.1 0, 8, .inl (upd (losU ef k) (((nI k) - 1).toNatClampNeg) ((losU ef k) ((nI k).toNatClampNeg)))))) er0 = some (.inl (G.2.1 0, 8, .inl (upd (losU ef k) (((nI k) - 1).toNatClampNeg) ((losU ef k) ((nI k).toNatClampNeg))))) := mu_s
        refine lv_iinc (v := (nI k) + 1) (lv' := [(1, .int ((nI k) + 1)), (0, .ref rd0)]) hx hb dX1_loseOldest_36 hl (k := 1) rfl rfl (by decide) rfl (fun ls hl => ?_)
        refine lv_goto (tgt := 2) hx hb dX1_loseOldest_39 (by decide) ?_
        have e_1 : (nI k) + 1 = nI (k + 1) := nI_1 k
        rw [e_1] at hl
        have e_h_V : (.inl (G.2.1 0, 8, .inl (upd (losU vf k) (((nI k) - 1).toNatClampNeg) ((losU vf k) ((nI k).toNatClampNeg)))) : va_E) = .inl (G.2.1 0, 8, .inl (losU vf (k + 1))) := by rw [nI_clamp (show k < 2 ^ 31 by omega), show nI k - 1 = nI (k - 1) from pk_sub (a := k) (b := 1) h1k, nI_clamp (show k - 1 < 2 ^ 31 by omega), losU_s _ _ h1k]
        have e_h_E : (.inl (G.2.1 0, 8, .inl (upd (losU ef k) (((nI k) - 1).toNatClampNeg) ((losU ef k) ((nI k).toNatClampNeg)))) : va_E) = .inl (G.2.1 0, 8, .inl (losU ef (k + 1))) := by rw [nI_clamp (show k < 2 ^ 31 by omega), show nI k - 1 = nI (k - 1) from pk_sub (a := k) (b := 1) h1k, nI_clamp (show k - 1 < 2 ^ 31 by omega), losU_s _ _ h1k]
        exact ih_loop (k + 1) (by omega) (by omega) (by omega) _ H locs ls (h_V.trans (congrArg some e_h_V)) (h_E.trans (congrArg some e_h_E)) (fun x h90 h91 => (mu_n h91).trans ((mu_n h90).trans (hfr_loop x h90 h91))) hP hI hS (lv_sub hl [1, 0] rfl)
  exact loop (8 + 1 - 1) 1 (Nat.le_refl 1) (by omega) (by omega) _ _ _ _ (h_V.trans (congrArg some (by rw [← losU_1]))) (h_E.trans (congrArg some (by rw [← losU_1]))) (fun _ _ _ => rfl) hP hI hS (lv_sub hl [1, 0] rfl)

set_option maxHeartbeats 4000000 in
set_option maxRecDepth 100000 in
theorem c_X1_append (l : Launch) (G : mg) (A : Nat → Prop) (Mw : mw) (p0 p1 : Int32) {rd0 va0 er0 n9 : Nat} {vf ef : Nat → Int32} (hve : va0 ≠ er0) (hn9 : n9 ≤ 8) (h_R : Mw rd0 = some (.inr (4, [.ref va0, .ref er0, .int (nI n9)]))) (h_V : Mw va0 = some (.inl (G.2.1 0, 8, .inl vf))) (h_E : Mw er0 = some (.inl (G.2.1 0, 8, .inl ef))) : Met l yX1_append wsX1_append ({ frames := 1, cells := 0, slots := 0, locals := 21 }) (va_Pc [.ref rd0, .int p0, .int p1] (mB G A Mw)) (va_Qv (fun Mw1 => Mw1 = mu (mu (mu Mw va0 (.inl (G.2.1 0, 8, .inl (apV vf n9 p0)))) er0 (.inl (G.2.1 0, 8, .inl (apV ef n9 (p0 - p1))))) rd0 (.inr (4, [.ref va0, .ref er0, .int (nI (apN n9))]))) (mE G A) A) 0 0 A := by
  refine Met.ofW (cc := cX1_append) (maxL := 3) (ret := none) (by decide) rfl ?_
  intro p e s m args below meth c s₁ B hml hv
  obtain ⟨rfl, hG, hP, hI, hA⟩ := hv
  have hx := B.exec
  have hb := B.bytes
  have hr := B.returns
  have hts := atoms_spec (ws := wsX1_append) B.pre
  have hown : s.vm.findClass RX1 = some m.cls := findClass_of_methodNamed B.named
  have hlocks := B.notSynchronized
  have hK := hG.K
  have i_X1 : ∀ w ∈ wsX10, w ∈ wsX1_append := by decide +kernel
  have hS : va_S A s.heap s.heap [] := va_S.rf
  have hl := lv_entry ([.ref rd0, .int p0, .int p1]) (n := 3) (Nat.le_of_ble_eq_true rfl)
  rw [lg_entry_eq]
  generalize (lg_sl ([.ref rd0, .int p0, .int p1]) ++ List.replicate (3 - (lg_sl ([.ref rd0, .int p0, .int p1])).length) Slot.unset).toArray = ls at hl ⊢
  have hl : lv_has ls 3 [(0, .ref rd0), (1, .int p0), (2, .int p1)] := hl
  have hP : mP G.1 Mw s.heap := hP
  refine lv_aload_n hx hb dX1_append_0 rfl (lv_at hl 0 rfl) ?_
  refine m_get (ci := 4) (v := .int (nI n9)) (C := RX1) (T := TX1) (N := 3) hx hb hts i_X1 hown hK (hP _ _ h_R) rfl 2 (by decide) (hts (.fieldLink RX1 18 "Meniscus$Readings" "count" "I") (by decide +kernel)) (fun _ h9 => h9) rfl dX1_append_1 ?_
  refine lv_bipush (v := (8)) hx hb dX1_append_4 (by decide) ?_
  refine lv_icmp_lt (tgt := 13) hx hb dX1_append_6 (by decide) (fun c1 => ?_) (fun c1 => ?_)
  · skip
    have hf9 : n9 < 8 := (nI_ltI (a := n9) (b := 8) (by omega) (by omega)).mp c1
    refine lv_aload_n hx hb dX1_append_13 rfl (lv_at hl 0 rfl) ?_
    refine m_get (ci := 4) (v := .int (nI n9)) (C := RX1) (T := TX1) (N := 3) hx hb hts i_X1 hown hK (hP _ _ h_R) rfl 2 (by decide) (hts (.fieldLink RX1 18 "Meniscus$Readings" "count" "I") (by decide +kernel)) (fun _ h9 => h9) rfl dX1_append_14 ?_
    refine lv_if_lt (tgt := 61) hx hb dX1_append_17 (by decide) (fun c2 => absurd c2 (nI_pos (by omega))) (fun c2 => ?_)
    refine lv_aload_n hx hb dX1_append_20 rfl (lv_at hl 0 rfl) ?_
    refine m_get (ci := 4) (v := .int (nI n9)) (C := RX1) (T := TX1) (N := 3) hx hb hts i_X1 hown hK (hP _ _ h_R) rfl 2 (by decide) (hts (.fieldLink RX1 18 "Meniscus$Readings" "count" "I") (by decide +kernel)) (fun _ h9 => h9) rfl dX1_append_21 ?_
    refine lv_bipush (v := (8)) hx hb dX1_append_24 (by decide) ?_
    refine lv_icmp_ge (tgt := 61) hx hb dX1_append_26 (by decide) (fun c3 => absurd c3 (fun q => absurd (nI_lt (b := 8) hf9 (by omega)) (i_nlt q))) (fun c3 => ?_)
    refine lv_aload_n hx hb dX1_append_29 rfl (lv_at hl 0 rfl) ?_
    refine m_get (ci := 4) (v := .ref va0) (C := RX1) (T := TX1) (N := 3) hx hb hts i_X1 hown hK (hP _ _ h_R) rfl 0 (by decide) (hts (.fieldLink RX1 9 "Meniscus$Readings" "values" "[I") (by decide +kernel)) (fun _ h9 => h9) rfl dX1_append_30 ?_
    refine lv_aload_n hx hb dX1_append_33 rfl (lv_at hl 0 rfl) ?_
    refine m_get (ci := 4) (v := .int (nI n9)) (C := RX1) (T := TX1) (N := 3) hx hb hts i_X1 hown hK (hP _ _ h_R) rfl 2 (by decide) (hts (.fieldLink RX1 18 "Meniscus$Readings" "count" "I") (by decide +kernel)) (fun _ h9 => h9) rfl dX1_append_34 ?_
    refine lv_iload_n hx hb dX1_append_37 rfl (lv_at hl 1 rfl) ?_
    refine m_iast hx hb hK hP hI hS 0 h_V rfl (vp_in_nI hf9 (by omega)) dX1_append_38 (fun H locs hP hI hS => ?_)
    have h_R := mu_k (e := .inl (G.2.1 0, 8, .inl (upd vf ((nI n9).toNatClampNeg) p0))) (kd_ne h_R h_V rfl) h_R
    have h_E := mu_k (e := .inl (G.2.1 0, 8, .inl (upd vf ((nI n9).toNatClampNeg) p0))) (Ne.symm hve) h_E
    have h_V : (mu Mw va0 (.inl (G.2.1 0, 8, .inl (upd vf ((nI n9).toNatClampNeg) p0)))) va0 = some (.inl (G.2.1 0, 8, .inl (upd vf ((nI n9).toNatClampNeg) p0))) := mu_s
    refine lv_aload_n hx hb dX1_append_39 rfl (lv_at hl 0 rfl) ?_
    refine m_get (ci := 4) (v := .ref er0) (C := RX1) (T := TX1) (N := 3) hx hb hts i_X1 hown hK (hP _ _ h_R) rfl 1 (by decide) (hts (.fieldLink RX1 15 "Meniscus$Readings" "errors" "[I") (by decide +kernel)) (fun _ h9 => h9) rfl dX1_append_40 ?_
    refine lv_aload_n hx hb dX1_append_43 rfl (lv_at hl 0 rfl) ?_
    refine m_get (ci := 4) (v := .int (nI n9)) (C := RX1) (T := TX1) (N := 3) hx hb hts i_X1 hown hK (hP _ _ h_R) rfl 2 (by decide) (hts (.fieldLink RX1 18 "Meniscus$Readings" "count" "I") (by decide +kernel)) (fun _ h9 => h9) rfl dX1_append_44 ?_
    refine lv_iload_n hx hb dX1_append_47 rfl (lv_at hl 1 rfl) ?_
    refine lv_iload_n hx hb dX1_append_48 rfl (lv_at hl 2 rfl) ?_
    refine lv_isub hx hb dX1_append_49 ?_
    refine m_iast hx hb hK hP hI hS 0 h_E rfl (vp_in_nI hf9 (by omega)) dX1_append_50 (fun H locs hP hI hS => ?_)
    have h_R := mu_k (e := .inl (G.2.1 0, 8, .inl (upd ef ((nI n9).toNatClampNeg) (p0 - p1)))) (kd_ne h_R h_E rfl) h_R
    have h_V := mu_k (e := .inl (G.2.1 0, 8, .inl (upd ef ((nI n9).toNatClampNeg) (p0 - p1)))) hve h_V
    have h_E : (mu (mu Mw va0 (.inl (G.2.1 0, 8, .inl (upd vf ((nI n9).toNatClampNeg) p0)))) er0 (.inl (G.2.1 0, 8, .inl (upd ef ((nI n9).toNatClampNeg) (p0 - p1))))) er0 = some (.inl (G.2.1 0, 8, .inl (upd ef ((nI n9).toNatClampNeg) (p0 - p1)))) := mu_s
    refine lv_aload_n hx hb dX1_append_51 rfl (lv_at hl 0 rfl) ?_
    refine lv_dup hx hb dX1_append_52 rfl ?_
    refine m_get (ci := 4) (v := .int (nI n9)) (C := RX1) (T := TX1) (N := 3) hx hb hts i_X1 hown hK (hP _ _ h_R) rfl 2 (by decide) (hts (.fieldLink RX1 18 "Meniscus$Readings" "count" "I") (by decide +kernel)) (fun _ h9 => h9) rfl dX1_append_53 ?_
    refine lv_iconst (v := 1) hx hb dX1_append_56 (by decide) ?_
    refine lv_iadd hx hb dX1_append_57 ?_
    refine m_put (ci := 4) (v := .int ((nI n9) + 1)) (ty := .int) (C := RX1) (T := TX1) (N := 3) hx hb hts i_X1 tyX1 tyX1_ok nmX1 hown hK hP hI hS h_R rfl 2 (by decide) (hts (.fieldLink RX1 18 "Meniscus$Readings" "count" "I") (by decide +kernel)) (fun _ h9 => h9) rfl (by decide +kernel) rfl rfl (Nat.le_of_ble_eq_true rfl) dX1_append_58 (fun H locs hP hI hS => ?_)
    have hP : mP G.1 (mu (mu (mu Mw va0 (.inl (G.2.1 0, 8, .inl (upd vf ((nI n9).toNatClampNeg) p0)))) er0 (.inl (G.2.1 0, 8, .inl (upd ef ((nI n9).toNatClampNeg) (p0 - p1))))) rd0 (.inr (4, [.ref va0, .ref er0, .int ((nI n9) + 1)]))) H := hP
    have hI : mI A (mu (mu (mu Mw va0 (.inl (G.2.1 0, 8, .inl (upd vf ((nI n9).toNatClampNeg) p0)))) er0 (.inl (G.2.1 0, 8, .inl (upd ef ((nI n9).toNatClampNeg) (p0 - p1))))) rd0 (.inr (4, [.ref va0, .ref er0, .int ((nI n9) + 1)]))) := hI
    have h_V := mu_k (e := .inr (4, [.ref va0, .ref er0, .int ((nI n9) + 1)])) (kd_ne h_V h_R rfl) h_V
    have h_E := mu_k (e := .inr (4, [.ref va0, .ref er0, .int ((nI n9) + 1)])) (kd_ne h_E h_R rfl) h_E
    have h_R : (mu (mu (mu Mw va0 (.inl (G.2.1 0, 8, .inl (upd vf ((nI n9).toNatClampNeg) p0)))) er0 (.inl (G.2.1 0, 8, .inl (upd ef ((nI n9).toNatClampNeg) (p0 - p1))))) rd0 (.inr (4, [.ref va0, .ref er0, .int ((nI n9) + 1)]))) rd0 = some (.inr (4, [.ref va0, .ref er0, .int ((nI n9) + 1)])) := mu_s
    refine W.widen (k := 0) (n := 0) (Nat.le_of_ble_eq_true rfl) (Nat.le_of_ble_eq_true rfl) ?_
    exact W.vret hx hb hr (fun t99 ht99 hW99 => ⟨⟨(mu (mu (mu Mw va0 (.inl (G.2.1 0, 8, .inl (upd vf ((nI n9).toNatClampNeg) p0)))) er0 (.inl (G.2.1 0, 8, .inl (upd ef ((nI n9).toNatClampNeg) (p0 - p1))))) rd0 (.inr (4, [.ref va0, .ref er0, .int ((nI n9) + 1)]))), rfl, mw_ext3 (h_V.trans (congrArg some (by simp only [apV, if_pos hf9]; rw [nI_clamp (show n9 < 2 ^ 31 by omega)]))) (h_E.trans (congrArg some (by simp only [apV, if_pos hf9]; rw [nI_clamp (show n9 < 2 ^ 31 by omega)]))) (h_R.trans (congrArg some (by simp only [apN, if_pos hf9]; rw [nI_1]))) (fun z h1 h2 h3 => (mu_n h3).trans ((mu_n h2).trans ((mu_n h1).trans (rfl)))), by rw [ht99]; exact hP, hI⟩, hS.F ht99⟩) hS.2.2 dX1_append_61
  · skip
    have hf9 : ¬ n9 < 8 := fun q => c1 (nI_lt (b := 8) q (by omega))
    refine lv_aload_n hx hb dX1_append_9 rfl (lv_at hl 0 rfl) ?_
    refine m_callv (va_runV (As := []) (rest := []) ⟨hx, hb, hml, hown, hts⟩ (c_X1_loseOldest l G A Mw  hve hn9 h_R h_V h_E) (cwV 0 hts gX1_append_X1_loseOldest rfl rfl rfl (by decide +kernel) ⟨Nat.le_of_ble_eq_true rfl, Nat.le_of_ble_eq_true rfl⟩) (mPreV hG hS hP hI hA (hP _ _ h_R) (r := (RX1, TX1, 3)) rfl) rfl rfl hl.1 rfl (lv_room (Nat.le_of_ble_eq_true rfl)) dX1_append_10 ⟨Nat.le_of_ble_eq_true rfl, Nat.le_of_ble_eq_true rfl⟩) hS (fun Mw1 H locs hp_r4 hP hI hS => ?_)
    subst Mw1
    have h_R := mu_k (e := .inl (G.2.1 0, 8, .inl (losU vf 8))) (kd_ne h_R h_V rfl) h_R
    have h_E := mu_k (e := .inl (G.2.1 0, 8, .inl (losU vf 8))) (Ne.symm hve) h_E
    have h_V : (mu Mw va0 (.inl (G.2.1 0, 8, .inl (losU vf 8)))) va0 = some (.inl (G.2.1 0, 8, .inl (losU vf 8))) := mu_s
    have h_R := mu_k (e := .inl (G.2.1 0, 8, .inl (losU ef 8))) (kd_ne h_R h_E rfl) h_R
    have h_V := mu_k (e := .inl (G.2.1 0, 8, .inl (losU ef 8))) hve h_V
    have h_E : (mu (mu Mw va0 (.inl (G.2.1 0, 8, .inl (losU vf 8)))) er0 (.inl (G.2.1 0, 8, .inl (losU ef 8)))) er0 = some (.inl (G.2.1 0, 8, .inl (losU ef 8))) := mu_s
    have h_V := mu_k (e := .inr (4, [.ref va0, .ref er0, .int 7])) (kd_ne h_V h_R rfl) h_V
    have h_E := mu_k (e := .inr (4, [.ref va0, .ref er0, .int 7])) (kd_ne h_E h_R rfl) h_E
    have h_R : (mu (mu (mu Mw va0 (.inl (G.2.1 0, 8, .inl (losU vf 8)))) er0 (.inl (G.2.1 0, 8, .inl (losU ef 8)))) rd0 (.inr (4, [.ref va0, .ref er0, .int 7]))) rd0 = some (.inr (4, [.ref va0, .ref er0, .int 7])) := mu_s
    refine lv_aload_n hx hb dX1_append_13 rfl (lv_at hl 0 rfl) ?_
    refine m_get (ci := 4) (v := .int 7) (C := RX1) (T := TX1) (N := 3) hx hb hts i_X1 hown hK (hP _ _ h_R) rfl 2 (by decide) (hts (.fieldLink RX1 18 "Meniscus$Readings" "count" "I") (by decide +kernel)) (fun _ h9 => h9) rfl dX1_append_14 ?_
    refine lv_if_lt (tgt := 61) hx hb dX1_append_17 (by decide) (fun h9 => absurd h9 (by decide)) (fun _ => ?_)
    refine lv_aload_n hx hb dX1_append_20 rfl (lv_at hl 0 rfl) ?_
    refine m_get (ci := 4) (v := .int 7) (C := RX1) (T := TX1) (N := 3) hx hb hts i_X1 hown hK (hP _ _ h_R) rfl 2 (by decide) (hts (.fieldLink RX1 18 "Meniscus$Readings" "count" "I") (by decide +kernel)) (fun _ h9 => h9) rfl dX1_append_21 ?_
    refine lv_bipush (v := (8)) hx hb dX1_append_24 (by decide) ?_
    refine lv_icmp_ge (tgt := 61) hx hb dX1_append_26 (by decide) (fun h9 => absurd h9 (by decide)) (fun _ => ?_)
    refine lv_aload_n hx hb dX1_append_29 rfl (lv_at hl 0 rfl) ?_
    refine m_get (ci := 4) (v := .ref va0) (C := RX1) (T := TX1) (N := 3) hx hb hts i_X1 hown hK (hP _ _ h_R) rfl 0 (by decide) (hts (.fieldLink RX1 9 "Meniscus$Readings" "values" "[I") (by decide +kernel)) (fun _ h9 => h9) rfl dX1_append_30 ?_
    refine lv_aload_n hx hb dX1_append_33 rfl (lv_at hl 0 rfl) ?_
    refine m_get (ci := 4) (v := .int 7) (C := RX1) (T := TX1) (N := 3) hx hb hts i_X1 hown hK (hP _ _ h_R) rfl 2 (by decide) (hts (.fieldLink RX1 18 "Meniscus$Readings" "count" "I") (by decide +kernel)) (fun _ h9 => h9) rfl dX1_append_34 ?_
    refine lv_iload_n hx hb dX1_append_37 rfl (lv_at hl 1 rfl) ?_
    refine m_iast hx hb hK hP hI hS 0 h_V rfl (by unfold vp_in; decide) dX1_append_38 (fun H locs hP hI hS => ?_)
    have h_R := mu_k (e := .inl (G.2.1 0, 8, .inl (upd (losU vf 8) ((7 : Int32).toNatClampNeg) p0))) (kd_ne h_R h_V rfl) h_R
    have h_E := mu_k (e := .inl (G.2.1 0, 8, .inl (upd (losU vf 8) ((7 : Int32).toNatClampNeg) p0))) (Ne.symm hve) h_E
    have h_V : (mu (mu (mu (mu Mw va0 (.inl (G.2.1 0, 8, .inl (losU vf 8)))) er0 (.inl (G.2.1 0, 8, .inl (losU ef 8)))) rd0 (.inr (4, [.ref va0, .ref er0, .int 7]))) va0 (.inl (G.2.1 0, 8, .inl (upd (losU vf 8) ((7 : Int32).toNatClampNeg) p0)))) va0 = some (.inl (G.2.1 0, 8, .inl (upd (losU vf 8) ((7 : Int32).toNatClampNeg) p0))) := mu_s
    refine lv_aload_n hx hb dX1_append_39 rfl (lv_at hl 0 rfl) ?_
    refine m_get (ci := 4) (v := .ref er0) (C := RX1) (T := TX1) (N := 3) hx hb hts i_X1 hown hK (hP _ _ h_R) rfl 1 (by decide) (hts (.fieldLink RX1 15 "Meniscus$Readings" "errors" "[I") (by decide +kernel)) (fun _ h9 => h9) rfl dX1_append_40 ?_
    refine lv_aload_n hx hb dX1_append_43 rfl (lv_at hl 0 rfl) ?_
    refine m_get (ci := 4) (v := .int 7) (C := RX1) (T := TX1) (N := 3) hx hb hts i_X1 hown hK (hP _ _ h_R) rfl 2 (by decide) (hts (.fieldLink RX1 18 "Meniscus$Readings" "count" "I") (by decide +kernel)) (fun _ h9 => h9) rfl dX1_append_44 ?_
    refine lv_iload_n hx hb dX1_append_47 rfl (lv_at hl 1 rfl) ?_
    refine lv_iload_n hx hb dX1_append_48 rfl (lv_at hl 2 rfl) ?_
    refine lv_isub hx hb dX1_append_49 ?_
    refine m_iast hx hb hK hP hI hS 0 h_E rfl (by unfold vp_in; decide) dX1_append_50 (fun H locs hP hI hS => ?_)
    have h_R := mu_k (e := .inl (G.2.1 0, 8, .inl (upd (losU ef 8) ((7 : Int32).toNatClampNeg) (p0 - p1)))) (kd_ne h_R h_E rfl) h_R
    have h_V := mu_k (e := .inl (G.2.1 0, 8, .inl (upd (losU ef 8) ((7 : Int32).toNatClampNeg) (p0 - p1)))) hve h_V
    have h_E : (mu (mu (mu (mu (mu Mw va0 (.inl (G.2.1 0, 8, .inl (losU vf 8)))) er0 (.inl (G.2.1 0, 8, .inl (losU ef 8)))) rd0 (.inr (4, [.ref va0, .ref er0, .int 7]))) va0 (.inl (G.2.1 0, 8, .inl (upd (losU vf 8) ((7 : Int32).toNatClampNeg) p0)))) er0 (.inl (G.2.1 0, 8, .inl (upd (losU ef 8) ((7 : Int32).toNatClampNeg) (p0 - p1))))) er0 = some (.inl (G.2.1 0, 8, .inl (upd (losU ef 8) ((7 : Int32).toNatClampNeg) (p0 - p1)))) := mu_s
    refine lv_aload_n hx hb dX1_append_51 rfl (lv_at hl 0 rfl) ?_
    refine lv_dup hx hb dX1_append_52 rfl ?_
    refine m_get (ci := 4) (v := .int 7) (C := RX1) (T := TX1) (N := 3) hx hb hts i_X1 hown hK (hP _ _ h_R) rfl 2 (by decide) (hts (.fieldLink RX1 18 "Meniscus$Readings" "count" "I") (by decide +kernel)) (fun _ h9 => h9) rfl dX1_append_53 ?_
    refine lv_iconst (v := 1) hx hb dX1_append_56 (by decide) ?_
    refine lv_iadd hx hb dX1_append_57 ?_
    refine m_put (ci := 4) (v := .int (7 + 1)) (ty := .int) (C := RX1) (T := TX1) (N := 3) hx hb hts i_X1 tyX1 tyX1_ok nmX1 hown hK hP hI hS h_R rfl 2 (by decide) (hts (.fieldLink RX1 18 "Meniscus$Readings" "count" "I") (by decide +kernel)) (fun _ h9 => h9) rfl (by decide +kernel) rfl rfl (Nat.le_of_ble_eq_true rfl) dX1_append_58 (fun H locs hP hI hS => ?_)
    have hP : mP G.1 (mu (mu (mu (mu (mu (mu Mw va0 (.inl (G.2.1 0, 8, .inl (losU vf 8)))) er0 (.inl (G.2.1 0, 8, .inl (losU ef 8)))) rd0 (.inr (4, [.ref va0, .ref er0, .int 7]))) va0 (.inl (G.2.1 0, 8, .inl (upd (losU vf 8) ((7 : Int32).toNatClampNeg) p0)))) er0 (.inl (G.2.1 0, 8, .inl (upd (losU ef 8) ((7 : Int32).toNatClampNeg) (p0 - p1))))) rd0 (.inr (4, [.ref va0, .ref er0, .int (7 + 1)]))) H := hP
    have hI : mI A (mu (mu (mu (mu (mu (mu Mw va0 (.inl (G.2.1 0, 8, .inl (losU vf 8)))) er0 (.inl (G.2.1 0, 8, .inl (losU ef 8)))) rd0 (.inr (4, [.ref va0, .ref er0, .int 7]))) va0 (.inl (G.2.1 0, 8, .inl (upd (losU vf 8) ((7 : Int32).toNatClampNeg) p0)))) er0 (.inl (G.2.1 0, 8, .inl (upd (losU ef 8) ((7 : Int32).toNatClampNeg) (p0 - p1))))) rd0 (.inr (4, [.ref va0, .ref er0, .int (7 + 1)]))) := hI
    have h_V := mu_k (e := .inr (4, [.ref va0, .ref er0, .int (7 + 1)])) (kd_ne h_V h_R rfl) h_V
    have h_E := mu_k (e := .inr (4, [.ref va0, .ref er0, .int (7 + 1)])) (kd_ne h_E h_R rfl) h_E
    have h_R : (mu (mu (mu (mu (mu (mu Mw va0 (.inl (G.2.1 0, 8, .inl (losU vf 8)))) er0 (.inl (G.2.1 0, 8, .inl (losU ef 8)))) rd0 (.inr (4, [.ref va0, .ref er0, .int 7]))) va0 (.inl (G.2.1 0, 8, .inl (upd (losU vf 8) ((7 : Int32).toNatClampNeg) p0)))) er0 (.inl (G.2.1 0, 8, .inl (upd (losU ef 8) ((7 : Int32).toNatClampNeg) (p0 - p1))))) rd0 (.inr (4, [.ref va0, .ref er0, .int (7 + 1)]))) rd0 = some (.inr (4, [.ref va0, .ref er0, .int (7 + 1)])) := mu_s
    refine W.widen (k := 0) (n := 0) (Nat.le_of_ble_eq_true rfl) (Nat.le_of_ble_eq_true rfl) ?_
    exact W.vret hx hb hr (fun t99 ht99 hW99 => ⟨⟨(mu (mu (mu (mu (mu (mu Mw va0 (.inl (G.2.1 0, 8, .inl (losU vf 8)))) er0 (.inl (G.2.1 0, 8, .inl (losU ef 8)))) rd0 (.inr (4, [.ref va0, .ref er0, .int 7]))) va0 (.inl (G.2.1 0, 8, .inl (upd (losU vf 8) ((7 : Int32).toNatClampNeg) p0)))) er0 (.inl (G.2.1 0, 8, .inl (upd (losU ef 8) ((7 : Int32).toNatClampNeg) (p0 - p1))))) rd0 (.inr (4, [.ref va0, .ref er0, .int (7 + 1)]))), rfl, mw_ext3 (h_V.trans (congrArg some (by simp only [apV, if_neg hf9]; rfl))) (h_E.trans (congrArg some (by simp only [apV, if_neg hf9]; rfl))) (h_R.trans (congrArg some (by simp only [apN, if_neg hf9]; rfl))) (fun z h1 h2 h3 => (mu_n h3).trans ((mu_n h2).trans ((mu_n h1).trans ((mu_n h3).trans ((mu_n h2).trans ((mu_n h1).trans (rfl))))))), by rw [ht99]; exact hP, hI⟩, hS.F ht99⟩) hS.2.2 dX1_append_61

set_option maxHeartbeats 4000000 in
set_option maxRecDepth 100000 in
theorem c_X1_newestError (l : Launch) (G : mg) (A : Nat → Prop) (Mw : mw) {rd0 va0 er0 n9 : Nat} {vf ef : Nat → Int32} (h1n : 1 ≤ n9) (hve : va0 ≠ er0) (hn9 : n9 ≤ 8) (h_R : Mw rd0 = some (.inr (4, [.ref va0, .ref er0, .int (nI n9)]))) (h_V : Mw va0 = some (.inl (G.2.1 0, 8, .inl vf))) (h_E : Mw er0 = some (.inl (G.2.1 0, 8, .inl ef))) : Met l yX1_newestError wsX1_newestError ({ frames := 0, cells := 0, slots := 0, locals := 0 }) (va_Pc [.ref rd0] (mB G A Mw)) (va_Qi (fun r Mw1 => r = (ef (n9 - 1)) ∧ Mw1 = Mw) (mE G A) A) 0 0 A := by
  refine Met.ofW (cc := cX1_newestError) (maxL := 1) (ret := (some .int)) (by decide) rfl ?_
  intro p e s m args below meth c s₁ B hml hv
  obtain ⟨rfl, hG, hP, hI, hA⟩ := hv
  have hx := B.exec
  have hb := B.bytes
  have hr := B.returns
  have hts := atoms_spec (ws := wsX1_newestError) B.pre
  have hown : s.vm.findClass RX1 = some m.cls := findClass_of_methodNamed B.named
  have hlocks := B.notSynchronized
  have hK := hG.K
  have i_X1 : ∀ w ∈ wsX10, w ∈ wsX1_newestError := by decide +kernel
  have hS : va_S A s.heap s.heap [] := va_S.rf
  have hl := lv_entry ([.ref rd0]) (n := 1) (Nat.le_of_ble_eq_true rfl)
  rw [lg_entry_eq]
  generalize (lg_sl ([.ref rd0]) ++ List.replicate (1 - (lg_sl ([.ref rd0])).length) Slot.unset).toArray = ls at hl ⊢
  have hl : lv_has ls 1 [(0, .ref rd0)] := hl
  have hP : mP G.1 Mw s.heap := hP
  refine lv_aload_n hx hb dX1_newestError_0 rfl (lv_at hl 0 rfl) ?_
  refine m_get (ci := 4) (v := .int (nI n9)) (C := RX1) (T := TX1) (N := 3) hx hb hts i_X1 hown hK (hP _ _ h_R) rfl 2 (by decide) (hts (.fieldLink RX1 18 "Meniscus$Readings" "count" "I") (by decide +kernel)) (fun _ h9 => h9) rfl dX1_newestError_1 ?_
  refine lv_if_le (tgt := 30) hx hb dX1_newestError_4 (by decide) (fun c1 => absurd c1 (nI_nle h1n (by omega))) (fun c1 => ?_)
  refine lv_aload_n hx hb dX1_newestError_7 rfl (lv_at hl 0 rfl) ?_
  refine m_get (ci := 4) (v := .int (nI n9)) (C := RX1) (T := TX1) (N := 3) hx hb hts i_X1 hown hK (hP _ _ h_R) rfl 2 (by decide) (hts (.fieldLink RX1 18 "Meniscus$Readings" "count" "I") (by decide +kernel)) (fun _ h9 => h9) rfl dX1_newestError_8 ?_
  refine lv_bipush (v := (8)) hx hb dX1_newestError_11 (by decide) ?_
  refine lv_icmp_gt (tgt := 30) hx hb dX1_newestError_13 (by decide) (fun c2 => absurd c2 (i_nlt (nI_le (b := 8) hn9 (by omega)))) (fun c2 => ?_)
  refine lv_aload_n hx hb dX1_newestError_16 rfl (lv_at hl 0 rfl) ?_
  refine m_get (ci := 4) (v := .ref er0) (C := RX1) (T := TX1) (N := 3) hx hb hts i_X1 hown hK (hP _ _ h_R) rfl 1 (by decide) (hts (.fieldLink RX1 15 "Meniscus$Readings" "errors" "[I") (by decide +kernel)) (fun _ h9 => h9) rfl dX1_newestError_17 ?_
  refine lv_aload_n hx hb dX1_newestError_20 rfl (lv_at hl 0 rfl) ?_
  refine m_get (ci := 4) (v := .int (nI n9)) (C := RX1) (T := TX1) (N := 3) hx hb hts i_X1 hown hK (hP _ _ h_R) rfl 2 (by decide) (hts (.fieldLink RX1 18 "Meniscus$Readings" "count" "I") (by decide +kernel)) (fun _ h9 => h9) rfl dX1_newestError_21 ?_
  refine lv_iconst (v := 1) hx hb dX1_newestError_24 (by decide) ?_
  refine lv_isub hx hb dX1_newestError_25 ?_
  refine m_iald hx hb hK 0 (hP _ _ h_E) rfl (by rw [show nI n9 - 1 = nI (n9 - 1) from pk_sub (a := n9) (b := 1) h1n]; exact vp_in_nI (by omega) (by omega)) dX1_newestError_26 ?_
  refine lv_goto (tgt := 31) hx hb dX1_newestError_27 (by decide) ?_
  refine W.widen (k := 0) (n := 0) (Nat.le_of_ble_eq_true rfl) (Nat.le_of_ble_eq_true rfl) ?_
  exact W.iret (v := ef (((nI n9) - 1).toNatClampNeg)) hx hb hr (fun t99 ht99 hW99 => ⟨⟨ef (((nI n9) - 1).toNatClampNeg), Mw, rfl, ⟨by rw [show nI n9 - 1 = nI (n9 - 1) from pk_sub (a := n9) (b := 1) h1n, nI_clamp (show n9 - 1 < 2 ^ 31 by omega)], rfl⟩, by rw [ht99]; exact hP, hI⟩, hS.F ht99⟩) hS.2.2 dX1_newestError_31

set_option maxHeartbeats 4000000 in
set_option maxRecDepth 100000 in
theorem c_X1_greatestError (l : Launch) (G : mg) (A : Nat → Prop) (Mw : mw) {rd0 va0 er0 n9 : Nat} {vf ef : Nat → Int32} (hve : va0 ≠ er0) (hn9 : n9 ≤ 8) (h_R : Mw rd0 = some (.inr (4, [.ref va0, .ref er0, .int (nI n9)]))) (h_V : Mw va0 = some (.inl (G.2.1 0, 8, .inl vf))) (h_E : Mw er0 = some (.inl (G.2.1 0, 8, .inl ef))) : Met l yX1_greatestError wsX1_greatestError ({ frames := 1, cells := 0, slots := 0, locals := 21 }) (va_Pc [.ref rd0] (mB G A Mw)) (va_Qi (fun r Mw1 => r = (gmax ef n9) ∧ Mw1 = Mw) (mE G A) A) 0 0 A := by
  refine Met.ofW (cc := cX1_greatestError) (maxL := 3) (ret := (some .int)) (by decide) rfl ?_
  intro p e s m args below meth c s₁ B hml hv
  obtain ⟨rfl, hG, hP, hI, hA⟩ := hv
  have hx := B.exec
  have hb := B.bytes
  have hr := B.returns
  have hts := atoms_spec (ws := wsX1_greatestError) B.pre
  have hown : s.vm.findClass RX1 = some m.cls := findClass_of_methodNamed B.named
  have hlocks := B.notSynchronized
  have hK := hG.K
  have i_X1 : ∀ w ∈ wsX10, w ∈ wsX1_greatestError := by decide +kernel
  have hS : va_S A s.heap s.heap [] := va_S.rf
  have hl := lv_entry ([.ref rd0]) (n := 3) (Nat.le_of_ble_eq_true rfl)
  rw [lg_entry_eq]
  generalize (lg_sl ([.ref rd0]) ++ List.replicate (3 - (lg_sl ([.ref rd0])).length) Slot.unset).toArray = ls at hl ⊢
  have hl : lv_has ls 3 [(0, .ref rd0)] := hl
  have hP : mP G.1 Mw s.heap := hP
  refine lv_iconst (v := 0) hx hb dX1_greatestError_0 (by decide) ?_
  refine lv_istore_n (lv' := [(1, .int 0), (0, .ref rd0)]) hx hb dX1_greatestError_1 rfl hl (by decide) rfl (fun ls hl => ?_)
  refine lv_iconst (v := 0) hx hb dX1_greatestError_2 (by decide) ?_
  refine lv_istore_n (lv' := [(2, .int 0), (1, .int 0), (0, .ref rd0)]) hx hb dX1_greatestError_3 rfl hl (by decide) rfl (fun ls hl => ?_)
  have loop : ∀ (n k : Nat), k ≤ n9 → k + n = n9 + 1 → ∀ (H : Heap) (locs : List Loc) (ls : Array Slot), mP G.1 (Mw) H → mI A (Mw) → va_S A s.heap H locs → lv_has ls 3 [(0, .ref rd0), (1, .int (gmax ef k)), (2, .int (nI k))] → W p l e ({ frames := 1, cells := 0, slots := 0, locals := 21 }) s m ([.ref rd0] : List Value).toArray below meth c H locs 0 0 (MQ below (va_Qi (fun r Mw1 => r = (gmax ef n9) ∧ Mw1 = Mw) (mE G A) A) ([.ref rd0] : List Value).toArray s 0 0 A) (F0 m 4 ls []) := by
    intro n
    induction n with
    | zero => intro k hk1 hk2; omega
    | succ n ih_loop =>
      intro k hk1 hk2 H locs ls hP hI hS hl
      refine lv_iload_n hx hb dX1_greatestError_4 rfl (lv_at hl 2 rfl) ?_
      refine lv_bipush (v := (8)) hx hb dX1_greatestError_5 (by decide) ?_
      refine lv_icmp_ge (tgt := 38) hx hb dX1_greatestError_7 (by decide) (fun c1 => ?_) (fun c1 => ?_)
      · skip
        have hk3 : 8 ≤ k := (nI_leI (a := 8) (b := k) (by omega) (by omega)).mp c1
        refine lv_iload_n hx hb dX1_greatestError_38 rfl (lv_at hl 1 rfl) ?_
        refine W.widen (k := 0) (n := 0) (Nat.le_of_ble_eq_true rfl) (Nat.le_of_ble_eq_true rfl) ?_
        exact W.iret (v := gmax ef k) hx hb hr (fun t99 ht99 hW99 => ⟨⟨gmax ef k, Mw, rfl, ⟨by rw [show k = n9 by omega], rfl⟩, by rw [ht99]; exact hP, hI⟩, hS.F ht99⟩) hS.2.2 dX1_greatestError_39
      · skip
        have hk3 : k < 8 := Nat.lt_of_not_le (fun q => c1 (nI_le (a := 8) q (by omega)))
        refine lv_iload_n hx hb dX1_greatestError_10 rfl (lv_at hl 2 rfl) ?_
        refine lv_aload_n hx hb dX1_greatestError_11 rfl (lv_at hl 0 rfl) ?_
        refine m_get (ci := 4) (v := .int (nI n9)) (C := RX1) (T := TX1) (N := 3) hx hb hts i_X1 hown hK (hP _ _ h_R) rfl 2 (by decide) (hts (.fieldLink RX1 18 "Meniscus$Readings" "count" "I") (by decide +kernel)) (fun _ h9 => h9) rfl dX1_greatestError_12 ?_
        refine lv_icmp_ge (tgt := 38) hx hb dX1_greatestError_15 (by decide) (fun c2 => ?_) (fun c2 => ?_)
        · skip
          have hk4 : n9 ≤ k := (nI_leI (by omega) (by omega)).mp c2
          refine lv_iload_n hx hb dX1_greatestError_38 rfl (lv_at hl 1 rfl) ?_
          refine W.widen (k := 0) (n := 0) (Nat.le_of_ble_eq_true rfl) (Nat.le_of_ble_eq_true rfl) ?_
          exact W.iret (v := gmax ef k) hx hb hr (fun t99 ht99 hW99 => ⟨⟨gmax ef k, Mw, rfl, ⟨by rw [show k = n9 by omega], rfl⟩, by rw [ht99]; exact hP, hI⟩, hS.F ht99⟩) hS.2.2 dX1_greatestError_39
        · skip
          have hk4 : k < n9 := Nat.lt_of_not_le (fun q => c2 (nI_le q (by omega)))
          refine lv_iload_n hx hb dX1_greatestError_18 rfl (lv_at hl 1 rfl) ?_
          refine lv_aload_n hx hb dX1_greatestError_19 rfl (lv_at hl 0 rfl) ?_
          refine m_get (ci := 4) (v := .ref er0) (C := RX1) (T := TX1) (N := 3) hx hb hts i_X1 hown hK (hP _ _ h_R) rfl 1 (by decide) (hts (.fieldLink RX1 15 "Meniscus$Readings" "errors" "[I") (by decide +kernel)) (fun _ h9 => h9) rfl dX1_greatestError_20 ?_
          refine lv_iload_n hx hb dX1_greatestError_23 rfl (lv_at hl 2 rfl) ?_
          refine m_iald hx hb hK 0 (hP _ _ h_E) rfl (vp_in_nI (by omega) (by omega)) dX1_greatestError_24 ?_
          rw [nI_clamp (show k < 2 ^ 31 by omega)]
          refine va_mabs hx hb (hml.trans hl.1.symm) hown (hts (.methodLink RX1 25 Lib.Math.abs.name) (by decide +kernel)) (hts (.static Lib.Math.abs.name) (by decide +kernel)) (hts (.initialized "java/lang/Math") (by decide +kernel)) (hts (.code Lib.Math.abs.name Lib.Math.abs.code 1 (some .int)) (by decide +kernel)) (Nat.le_of_ble_eq_true rfl) (Nat.le_of_ble_eq_true rfl) (Nat.le_of_ble_eq_true rfl) (Nat.le_of_ble_eq_true rfl) dX1_greatestError_25 ?_
          refine va_mmax hx hb (hml.trans hl.1.symm) hown (hts (.methodLink RX1 31 Lib.Math.max.name) (by decide +kernel)) (hts (.static Lib.Math.max.name) (by decide +kernel)) (hts (.initialized "java/lang/Math") (by decide +kernel)) (hts (.code Lib.Math.max.name Lib.Math.max.code 2 (some .int)) (by decide +kernel)) (Nat.le_of_ble_eq_true rfl) (Nat.le_of_ble_eq_true rfl) (Nat.le_of_ble_eq_true rfl) (Nat.le_of_ble_eq_true rfl) dX1_greatestError_28 ?_
          refine lv_istore_n (lv' := [(1, .int (m_max (gmax ef k) (m_abs (ef k)))), (0, .ref rd0), (2, .int (nI k))]) hx hb dX1_greatestError_31 rfl hl (by decide) rfl (fun ls hl => ?_)
          refine lv_iinc (v := (nI k) + 1) (lv' := [(2, .int ((nI k) + 1)), (1, .int (m_max (gmax ef k) (m_abs (ef k)))), (0, .ref rd0)]) hx hb dX1_greatestError_32 hl (k := 2) rfl rfl (by decide) rfl (fun ls hl => ?_)
          refine lv_goto (tgt := 4) hx hb dX1_greatestError_35 (by decide) ?_
          have e_2 : (nI k) + 1 = nI (k + 1) := nI_1 k
          rw [e_2] at hl
          have e_1 : m_max (gmax ef k) (m_abs (ef k)) = gmax ef (k + 1) := rfl
          rw [e_1] at hl
          exact ih_loop (k + 1) (by omega) (by omega) H locs ls hP hI hS (lv_sub hl [2, 1, 0] rfl)
  exact loop (n9 + 1 - 0) 0 (by omega) (by omega) _ _ _ hP hI hS (lv_sub hl [2, 1, 0] rfl)

set_option maxHeartbeats 4000000 in
set_option maxRecDepth 100000 in
theorem c_X1_errorSum (l : Launch) (G : mg) (A : Nat → Prop) (Mw : mw) {rd0 va0 er0 n9 : Nat} {vf ef : Nat → Int32} (hve : va0 ≠ er0) (hn9 : n9 ≤ 8) (h_R : Mw rd0 = some (.inr (4, [.ref va0, .ref er0, .int (nI n9)]))) (h_V : Mw va0 = some (.inl (G.2.1 0, 8, .inl vf))) (h_E : Mw er0 = some (.inl (G.2.1 0, 8, .inl ef))) : Met l yX1_errorSum wsX1_errorSum ({ frames := 0, cells := 0, slots := 0, locals := 0 }) (va_Pc [.ref rd0] (mB G A Mw)) (va_Qi (fun r Mw1 => r = (isum ef n9) ∧ Mw1 = Mw) (mE G A) A) 0 0 A := by
  refine Met.ofW (cc := cX1_errorSum) (maxL := 3) (ret := (some .int)) (by decide) rfl ?_
  intro p e s m args below meth c s₁ B hml hv
  obtain ⟨rfl, hG, hP, hI, hA⟩ := hv
  have hx := B.exec
  have hb := B.bytes
  have hr := B.returns
  have hts := atoms_spec (ws := wsX1_errorSum) B.pre
  have hown : s.vm.findClass RX1 = some m.cls := findClass_of_methodNamed B.named
  have hlocks := B.notSynchronized
  have hK := hG.K
  have i_X1 : ∀ w ∈ wsX10, w ∈ wsX1_errorSum := by decide +kernel
  have hS : va_S A s.heap s.heap [] := va_S.rf
  have hl := lv_entry ([.ref rd0]) (n := 3) (Nat.le_of_ble_eq_true rfl)
  rw [lg_entry_eq]
  generalize (lg_sl ([.ref rd0]) ++ List.replicate (3 - (lg_sl ([.ref rd0])).length) Slot.unset).toArray = ls at hl ⊢
  have hl : lv_has ls 3 [(0, .ref rd0)] := hl
  have hP : mP G.1 Mw s.heap := hP
  refine lv_iconst (v := 0) hx hb dX1_errorSum_0 (by decide) ?_
  refine lv_istore_n (lv' := [(1, .int 0), (0, .ref rd0)]) hx hb dX1_errorSum_1 rfl hl (by decide) rfl (fun ls hl => ?_)
  refine lv_iconst (v := 0) hx hb dX1_errorSum_2 (by decide) ?_
  refine lv_istore_n (lv' := [(2, .int 0), (1, .int 0), (0, .ref rd0)]) hx hb dX1_errorSum_3 rfl hl (by decide) rfl (fun ls hl => ?_)
  have loop : ∀ (n k : Nat), k ≤ n9 → k + n = n9 + 1 → ∀ (H : Heap) (locs : List Loc) (ls : Array Slot), mP G.1 (Mw) H → mI A (Mw) → va_S A s.heap H locs → lv_has ls 3 [(0, .ref rd0), (1, .int (isum ef k)), (2, .int (nI k))] → W p l e ({ frames := 0, cells := 0, slots := 0, locals := 0 }) s m ([.ref rd0] : List Value).toArray below meth c H locs 0 0 (MQ below (va_Qi (fun r Mw1 => r = (isum ef n9) ∧ Mw1 = Mw) (mE G A) A) ([.ref rd0] : List Value).toArray s 0 0 A) (F0 m 4 ls []) := by
    intro n
    induction n with
    | zero => intro k hk1 hk2; omega
    | succ n ih_loop =>
      intro k hk1 hk2 H locs ls hP hI hS hl
      refine lv_iload_n hx hb dX1_errorSum_4 rfl (lv_at hl 2 rfl) ?_
      refine lv_bipush (v := (8)) hx hb dX1_errorSum_5 (by decide) ?_
      refine lv_icmp_ge (tgt := 33) hx hb dX1_errorSum_7 (by decide) (fun c1 => ?_) (fun c1 => ?_)
      · skip
        have hk3 : 8 ≤ k := (nI_leI (a := 8) (b := k) (by omega) (by omega)).mp c1
        refine lv_iload_n hx hb dX1_errorSum_33 rfl (lv_at hl 1 rfl) ?_
        refine W.widen (k := 0) (n := 0) (Nat.le_of_ble_eq_true rfl) (Nat.le_of_ble_eq_true rfl) ?_
        exact W.iret (v := isum ef k) hx hb hr (fun t99 ht99 hW99 => ⟨⟨isum ef k, Mw, rfl, ⟨by rw [show k = n9 by omega], rfl⟩, by rw [ht99]; exact hP, hI⟩, hS.F ht99⟩) hS.2.2 dX1_errorSum_34
      · skip
        have hk3 : k < 8 := Nat.lt_of_not_le (fun q => c1 (nI_le (a := 8) q (by omega)))
        refine lv_iload_n hx hb dX1_errorSum_10 rfl (lv_at hl 2 rfl) ?_
        refine lv_aload_n hx hb dX1_errorSum_11 rfl (lv_at hl 0 rfl) ?_
        refine m_get (ci := 4) (v := .int (nI n9)) (C := RX1) (T := TX1) (N := 3) hx hb hts i_X1 hown hK (hP _ _ h_R) rfl 2 (by decide) (hts (.fieldLink RX1 18 "Meniscus$Readings" "count" "I") (by decide +kernel)) (fun _ h9 => h9) rfl dX1_errorSum_12 ?_
        refine lv_icmp_ge (tgt := 33) hx hb dX1_errorSum_15 (by decide) (fun c2 => ?_) (fun c2 => ?_)
        · skip
          have hk4 : n9 ≤ k := (nI_leI (by omega) (by omega)).mp c2
          refine lv_iload_n hx hb dX1_errorSum_33 rfl (lv_at hl 1 rfl) ?_
          refine W.widen (k := 0) (n := 0) (Nat.le_of_ble_eq_true rfl) (Nat.le_of_ble_eq_true rfl) ?_
          exact W.iret (v := isum ef k) hx hb hr (fun t99 ht99 hW99 => ⟨⟨isum ef k, Mw, rfl, ⟨by rw [show k = n9 by omega], rfl⟩, by rw [ht99]; exact hP, hI⟩, hS.F ht99⟩) hS.2.2 dX1_errorSum_34
        · skip
          have hk4 : k < n9 := Nat.lt_of_not_le (fun q => c2 (nI_le q (by omega)))
          refine lv_iload_n hx hb dX1_errorSum_18 rfl (lv_at hl 1 rfl) ?_
          refine lv_aload_n hx hb dX1_errorSum_19 rfl (lv_at hl 0 rfl) ?_
          refine m_get (ci := 4) (v := .ref er0) (C := RX1) (T := TX1) (N := 3) hx hb hts i_X1 hown hK (hP _ _ h_R) rfl 1 (by decide) (hts (.fieldLink RX1 15 "Meniscus$Readings" "errors" "[I") (by decide +kernel)) (fun _ h9 => h9) rfl dX1_errorSum_20 ?_
          refine lv_iload_n hx hb dX1_errorSum_23 rfl (lv_at hl 2 rfl) ?_
          refine m_iald hx hb hK 0 (hP _ _ h_E) rfl (vp_in_nI (by omega) (by omega)) dX1_errorSum_24 ?_
          rw [nI_clamp (show k < 2 ^ 31 by omega)]
          refine lv_iadd hx hb dX1_errorSum_25 ?_
          refine lv_istore_n (lv' := [(1, .int ((isum ef k) + (ef k))), (0, .ref rd0), (2, .int (nI k))]) hx hb dX1_errorSum_26 rfl hl (by decide) rfl (fun ls hl => ?_)
          refine lv_iinc (v := (nI k) + 1) (lv' := [(2, .int ((nI k) + 1)), (1, .int ((isum ef k) + (ef k))), (0, .ref rd0)]) hx hb dX1_errorSum_27 hl (k := 2) rfl rfl (by decide) rfl (fun ls hl => ?_)
          refine lv_goto (tgt := 4) hx hb dX1_errorSum_30 (by decide) ?_
          have e_2 : (nI k) + 1 = nI (k + 1) := nI_1 k
          rw [e_2] at hl
          have e_1 : (isum ef k) + (ef k) = isum ef (k + 1) := rfl
          rw [e_1] at hl
          exact ih_loop (k + 1) (by omega) (by omega) H locs ls hP hI hS (lv_sub hl [2, 1, 0] rfl)
  exact loop (n9 + 1 - 0) 0 (by omega) (by omega) _ _ _ hP hI hS (lv_sub hl [2, 1, 0] rfl)

set_option maxHeartbeats 4000000 in
set_option maxRecDepth 100000 in
theorem c_X1_addTo (l : Launch) (G : mg) (A : Nat → Prop) (Mw : mw) (p0 : Int64) {rd0 va0 er0 n9 : Nat} {vf ef : Nat → Int32} (hve : va0 ≠ er0) (hn9 : n9 ≤ 8) (h_R : Mw rd0 = some (.inr (4, [.ref va0, .ref er0, .int (nI n9)]))) (h_V : Mw va0 = some (.inl (G.2.1 0, 8, .inl vf))) (h_E : Mw er0 = some (.inl (G.2.1 0, 8, .inl ef))) : Met l yX1_addTo wsX1_addTo ({ frames := 0, cells := 0, slots := 0, locals := 0 }) (va_Pc [.ref rd0, .long p0] (mB G A Mw)) (va_Ql (fun r Mw1 => r = (lsum vf p0 n9) ∧ Mw1 = Mw) (mE G A) A) 0 0 A := by
  refine Met.ofW (cc := cX1_addTo) (maxL := 6) (ret := (some .long)) (by decide) rfl ?_
  intro p e s m args below meth c s₁ B hml hv
  obtain ⟨rfl, hG, hP, hI, hA⟩ := hv
  have hx := B.exec
  have hb := B.bytes
  have hr := B.returns
  have hts := atoms_spec (ws := wsX1_addTo) B.pre
  have hown : s.vm.findClass RX1 = some m.cls := findClass_of_methodNamed B.named
  have hlocks := B.notSynchronized
  have hK := hG.K
  have i_X1 : ∀ w ∈ wsX10, w ∈ wsX1_addTo := by decide +kernel
  have hS : va_S A s.heap s.heap [] := va_S.rf
  have hl := lv_entry ([.ref rd0, .long p0]) (n := 6) (Nat.le_of_ble_eq_true rfl)
  rw [lg_entry_eq]
  generalize (lg_sl ([.ref rd0, .long p0]) ++ List.replicate (6 - (lg_sl ([.ref rd0, .long p0])).length) Slot.unset).toArray = ls at hl ⊢
  have hl : lv_has ls 6 [(0, .ref rd0), (1, .long p0)] := hl
  have hP : mP G.1 Mw s.heap := hP
  refine lv_lload_n hx hb dX1_addTo_0 rfl (lv_at hl 1 rfl) ?_
  refine lv_lstore_n (lv' := [(3, .long p0), (0, .ref rd0), (1, .long p0)]) hx hb dX1_addTo_1 rfl hl (by decide) rfl (fun ls hl => ?_)
  refine lv_iconst (v := 0) hx hb dX1_addTo_2 (by decide) ?_
  refine lv_istore (lv' := [(5, .int 0), (3, .long p0), (0, .ref rd0), (1, .long p0)]) hx hb dX1_addTo_3 hl (by decide) rfl (fun ls hl => ?_)
  have loop : ∀ (n k : Nat), k ≤ n9 → k + n = n9 + 1 → ∀ (H : Heap) (locs : List Loc) (ls : Array Slot), mP G.1 (Mw) H → mI A (Mw) → va_S A s.heap H locs → lv_has ls 6 [(0, .ref rd0), (1, .long p0), (3, .long (lsum vf p0 k)), (5, .int (nI k))] → W p l e ({ frames := 0, cells := 0, slots := 0, locals := 0 }) s m ([.ref rd0, .long p0] : List Value).toArray below meth c H locs 0 0 (MQ below (va_Ql (fun r Mw1 => r = (lsum vf p0 n9) ∧ Mw1 = Mw) (mE G A) A) ([.ref rd0, .long p0] : List Value).toArray s 0 0 A) (F0 m 5 ls []) := by
    intro n
    induction n with
    | zero => intro k hk1 hk2; omega
    | succ n ih_loop =>
      intro k hk1 hk2 H locs ls hP hI hS hl
      refine lv_iload hx hb dX1_addTo_5 (lv_at hl 3 rfl) ?_
      refine lv_bipush (v := (8)) hx hb dX1_addTo_7 (by decide) ?_
      refine lv_icmp_ge (tgt := 42) hx hb dX1_addTo_9 (by decide) (fun c1 => ?_) (fun c1 => ?_)
      · skip
        have hk3 : 8 ≤ k := (nI_leI (a := 8) (b := k) (by omega) (by omega)).mp c1
        refine lv_lload_n hx hb dX1_addTo_42 rfl (lv_at hl 2 rfl) ?_
        refine W.widen (k := 0) (n := 0) (Nat.le_of_ble_eq_true rfl) (Nat.le_of_ble_eq_true rfl) ?_
        exact W.lret (v := lsum vf p0 k) hx hb hr (fun t99 ht99 hW99 => ⟨⟨lsum vf p0 k, Mw, rfl, ⟨by rw [show k = n9 by omega], rfl⟩, by rw [ht99]; exact hP, hI⟩, hS.F ht99⟩) hS.2.2 dX1_addTo_43
      · skip
        have hk3 : k < 8 := Nat.lt_of_not_le (fun q => c1 (nI_le (a := 8) q (by omega)))
        refine lv_iload hx hb dX1_addTo_12 (lv_at hl 3 rfl) ?_
        refine lv_aload_n hx hb dX1_addTo_14 rfl (lv_at hl 0 rfl) ?_
        refine m_get (ci := 4) (v := .int (nI n9)) (C := RX1) (T := TX1) (N := 3) hx hb hts i_X1 hown hK (hP _ _ h_R) rfl 2 (by decide) (hts (.fieldLink RX1 18 "Meniscus$Readings" "count" "I") (by decide +kernel)) (fun _ h9 => h9) rfl dX1_addTo_15 ?_
        refine lv_icmp_ge (tgt := 42) hx hb dX1_addTo_18 (by decide) (fun c2 => ?_) (fun c2 => ?_)
        · skip
          have hk4 : n9 ≤ k := (nI_leI (by omega) (by omega)).mp c2
          refine lv_lload_n hx hb dX1_addTo_42 rfl (lv_at hl 2 rfl) ?_
          refine W.widen (k := 0) (n := 0) (Nat.le_of_ble_eq_true rfl) (Nat.le_of_ble_eq_true rfl) ?_
          exact W.lret (v := lsum vf p0 k) hx hb hr (fun t99 ht99 hW99 => ⟨⟨lsum vf p0 k, Mw, rfl, ⟨by rw [show k = n9 by omega], rfl⟩, by rw [ht99]; exact hP, hI⟩, hS.F ht99⟩) hS.2.2 dX1_addTo_43
        · skip
          have hk4 : k < n9 := Nat.lt_of_not_le (fun q => c2 (nI_le q (by omega)))
          refine lv_ldc2 (v := 31) hx hb hown (hts (.constantLong RX1 35 (31)) (by decide +kernel)) dX1_addTo_21 ?_
          refine lv_lload_n hx hb dX1_addTo_24 rfl (lv_at hl 2 rfl) ?_
          refine lv_lmul hx hb dX1_addTo_25 ?_
          refine lv_aload_n hx hb dX1_addTo_26 rfl (lv_at hl 0 rfl) ?_
          refine m_get (ci := 4) (v := .ref va0) (C := RX1) (T := TX1) (N := 3) hx hb hts i_X1 hown hK (hP _ _ h_R) rfl 0 (by decide) (hts (.fieldLink RX1 9 "Meniscus$Readings" "values" "[I") (by decide +kernel)) (fun _ h9 => h9) rfl dX1_addTo_27 ?_
          refine lv_iload hx hb dX1_addTo_30 (lv_at hl 3 rfl) ?_
          refine m_iald hx hb hK 0 (hP _ _ h_V) rfl (vp_in_nI (by omega) (by omega)) dX1_addTo_32 ?_
          rw [nI_clamp (show k < 2 ^ 31 by omega)]
          refine lv_i2l (v := (vf k).toInt64) hx hb dX1_addTo_33 rfl ?_
          refine lv_ladd hx hb dX1_addTo_34 ?_
          refine lv_lstore_n (lv' := [(3, .long ((31 * (lsum vf p0 k)) + ((vf k).toInt64))), (0, .ref rd0), (1, .long p0), (5, .int (nI k))]) hx hb dX1_addTo_35 rfl hl (by decide) rfl (fun ls hl => ?_)
          refine lv_iinc (v := (nI k) + 1) (lv' := [(5, .int ((nI k) + 1)), (3, .long ((31 * (lsum vf p0 k)) + ((vf k).toInt64))), (0, .ref rd0), (1, .long p0)]) hx hb dX1_addTo_36 hl (k := 3) rfl rfl (by decide) rfl (fun ls hl => ?_)
          refine lv_goto (tgt := 5) hx hb dX1_addTo_39 (by decide) ?_
          have e_5 : (nI k) + 1 = nI (k + 1) := nI_1 k
          rw [e_5] at hl
          have e_3 : (31 * (lsum vf p0 k)) + ((vf k).toInt64) = lsum vf p0 (k + 1) := rfl
          rw [e_3] at hl
          exact ih_loop (k + 1) (by omega) (by omega) H locs ls hP hI hS (lv_sub hl [2, 3, 1, 0] rfl)
  exact loop (n9 + 1 - 0) 0 (by omega) (by omega) _ _ _ hP hI hS (lv_sub hl [2, 3, 1, 0] rfl)

set_option maxHeartbeats 4000000 in
set_option maxRecDepth 100000 in
theorem c_X1_init (l : Launch) (G : mg) (A : Nat → Prop) (Mw : mw) {rd0 : Nat} (h_R : Mw rd0 = some (.inr (4, [.null, .null, .int 0]))) : Met l yX1_init wsX1_init ({ frames := 1, cells := 2, slots := 16, locals := 20 }) (va_Pc [.ref rd0] (mB G A Mw)) (va_Qv (fun Mw1 => ∃ va0 er0 : Nat, Mw va0 = none ∧ Mw er0 = none ∧ va0 ≠ er0 ∧ Mw1 = mu (mu (mu Mw va0 (.inl (G.2.1 0, 8, .inl (fun _ => 0)))) er0 (.inl (G.2.1 0, 8, .inl (fun _ => 0)))) rd0 (.inr (4, [.ref va0, .ref er0, .int 0]))) (mE G A) A) 2 16 A := by
  refine Met.ofW (cc := cX1_init) (maxL := 1) (ret := none) (by decide) rfl ?_
  intro p e s m args below meth c s₁ B hml hv
  obtain ⟨rfl, hG, hP, hI, hA⟩ := hv
  have hx := B.exec
  have hb := B.bytes
  have hr := B.returns
  have hts := atoms_spec (ws := wsX1_init) B.pre
  have hown : s.vm.findClass RX1 = some m.cls := findClass_of_methodNamed B.named
  have hlocks := B.notSynchronized
  have hK := hG.K
  have hin : meth.name = "<init>" := (name_of_methodNamed B.named B.method).1
  have i_X1 : ∀ w ∈ wsX10, w ∈ wsX1_init := by decide +kernel
  have hS : va_S A s.heap s.heap [] := va_S.rf
  have hl := lv_entry ([.ref rd0]) (n := 1) (Nat.le_of_ble_eq_true rfl)
  rw [lg_entry_eq]
  generalize (lg_sl ([.ref rd0]) ++ List.replicate (1 - (lg_sl ([.ref rd0])).length) Slot.unset).toArray = ls at hl ⊢
  have hl : lv_has ls 1 [(0, .ref rd0)] := hl
  have hP : mP G.1 Mw s.heap := hP
  refine lv_aload_n hx hb dX1_init_0 rfl (lv_at hl 0 rfl) ?_
  refine W.objInit hx hb hown (hts (.methodLink RX1 3 objectInit) (by decide +kernel)) (hts (.instanceMethod objectInit) (by decide +kernel)) (hts (.code objectInit ⟨#[0xb1]⟩ 1 none) (by decide +kernel)) rfl (by rw [hml]; exact hl.1) rfl dX1_init_1 (Nat.le_of_ble_eq_true rfl) (Nat.le_of_ble_eq_true rfl) ?_
  refine W.eq (g2 := F0 m 4 ls []) rfl ?_
  refine lv_aload_n hx hb dX1_init_4 rfl (lv_at hl 0 rfl) ?_
  refine lv_bipush (v := (8)) hx hb dX1_init_5 (by decide) ?_
  refine m_newa (atype := .int) (a0 := (8, .inl (fun _ => 0))) hx hb (hts (.arrayClass .int) (by decide +kernel)) rfl hK hP hI hS hA (hK.2 0 _ rfl).2 (fun _ => rfl) (by decide) (by decide) (by decide) (Nat.le_of_ble_eq_true rfl) (Nat.le_of_ble_eq_true rfl) dX1_init_7 (fun q1 H hn_q1 hP hI hS => ?_)
  have h_R := mu_x (e := .inl (G.2.1 0, 8, .inl (fun _ => 0))) h_R hn_q1
  have h_q1 : (mu Mw q1 (.inl (G.2.1 0, 8, .inl (fun _ => 0)))) q1 = some (.inl (G.2.1 0, 8, .inl (fun _ => 0))) := mu_s
  refine m_putF (ci := 4) (v := .ref q1) (ty := .array .int) (C := RX1) (T := TX1) (N := 3) hx hb hts i_X1 tyX1 tyX1_ok nmX1 hown hK hP hI hS h_R rfl 0 (by decide) (hts (.fieldLink RX1 9 "Meniscus$Readings" "values" "[I") (by decide +kernel)) (fun _ h9 => h9) rfl hin rfl (by decide +kernel) rfl rfl (Nat.le_of_ble_eq_true rfl) dX1_init_9 (fun H locs hP hI hS => ?_)
  have hP : mP G.1 (mu (mu Mw q1 (.inl (G.2.1 0, 8, .inl (fun _ => 0)))) rd0 (.inr (4, [.ref q1, .null, .int 0]))) H := hP
  have hI : mI A (mu (mu Mw q1 (.inl (G.2.1 0, 8, .inl (fun _ => 0)))) rd0 (.inr (4, [.ref q1, .null, .int 0]))) := hI
  have h_q1 := mu_k (e := .inr (4, [.ref q1, .null, .int 0])) (kd_ne h_q1 h_R rfl) h_q1
  have h_R : (mu (mu Mw q1 (.inl (G.2.1 0, 8, .inl (fun _ => 0)))) rd0 (.inr (4, [.ref q1, .null, .int 0]))) rd0 = some (.inr (4, [.ref q1, .null, .int 0])) := mu_s
  refine lv_aload_n hx hb dX1_init_12 rfl (lv_at hl 0 rfl) ?_
  refine lv_bipush (v := (8)) hx hb dX1_init_13 (by decide) ?_
  refine m_newa (atype := .int) (a0 := (8, .inl (fun _ => 0))) hx hb (hts (.arrayClass .int) (by decide +kernel)) rfl hK hP hI hS hA (hK.2 0 _ rfl).2 (fun _ => rfl) (by decide) (by decide) (by decide) (Nat.le_of_ble_eq_true rfl) (Nat.le_of_ble_eq_true rfl) dX1_init_15 (fun q2 H hn_q2 hP hI hS => ?_)
  have h_R := mu_x (e := .inl (G.2.1 0, 8, .inl (fun _ => 0))) h_R hn_q2
  have h_q1 := mu_x (e := .inl (G.2.1 0, 8, .inl (fun _ => 0))) h_q1 hn_q2
  have h_q2 : (mu (mu (mu Mw q1 (.inl (G.2.1 0, 8, .inl (fun _ => 0)))) rd0 (.inr (4, [.ref q1, .null, .int 0]))) q2 (.inl (G.2.1 0, 8, .inl (fun _ => 0)))) q2 = some (.inl (G.2.1 0, 8, .inl (fun _ => 0))) := mu_s
  have hq12 : q1 ≠ q2 := Ne.symm (mu_none (mu_none hn_q2).1).2
  have hq12s := Ne.symm hq12
  have hn_q20 : Mw q2 = none := (mu_none (mu_none hn_q2).1).1
  refine m_putF (ci := 4) (v := .ref q2) (ty := .array .int) (C := RX1) (T := TX1) (N := 3) hx hb hts i_X1 tyX1 tyX1_ok nmX1 hown hK hP hI hS h_R rfl 1 (by decide) (hts (.fieldLink RX1 15 "Meniscus$Readings" "errors" "[I") (by decide +kernel)) (fun _ h9 => h9) rfl hin rfl (by decide +kernel) rfl rfl (Nat.le_of_ble_eq_true rfl) dX1_init_17 (fun H locs hP hI hS => ?_)
  have hP : mP G.1 (mu (mu (mu (mu Mw q1 (.inl (G.2.1 0, 8, .inl (fun _ => 0)))) rd0 (.inr (4, [.ref q1, .null, .int 0]))) q2 (.inl (G.2.1 0, 8, .inl (fun _ => 0)))) rd0 (.inr (4, [.ref q1, .ref q2, .int 0]))) H := hP
  have hI : mI A (mu (mu (mu (mu Mw q1 (.inl (G.2.1 0, 8, .inl (fun _ => 0)))) rd0 (.inr (4, [.ref q1, .null, .int 0]))) q2 (.inl (G.2.1 0, 8, .inl (fun _ => 0)))) rd0 (.inr (4, [.ref q1, .ref q2, .int 0]))) := hI
  have h_q1 := mu_k (e := .inr (4, [.ref q1, .ref q2, .int 0])) (kd_ne h_q1 h_R rfl) h_q1
  have h_q2 := mu_k (e := .inr (4, [.ref q1, .ref q2, .int 0])) (kd_ne h_q2 h_R rfl) h_q2
  have h_R : (mu (mu (mu (mu Mw q1 (.inl (G.2.1 0, 8, .inl (fun _ => 0)))) rd0 (.inr (4, [.ref q1, .null, .int 0]))) q2 (.inl (G.2.1 0, 8, .inl (fun _ => 0)))) rd0 (.inr (4, [.ref q1, .ref q2, .int 0]))) rd0 = some (.inr (4, [.ref q1, .ref q2, .int 0])) := mu_s
  refine W.widen (k := 2) (n := 16) (Nat.le_of_ble_eq_true rfl) (Nat.le_of_ble_eq_true rfl) ?_
  exact W.vret hx hb hr (fun t99 ht99 hW99 => ⟨⟨(mu (mu (mu (mu Mw q1 (.inl (G.2.1 0, 8, .inl (fun _ => 0)))) rd0 (.inr (4, [.ref q1, .null, .int 0]))) q2 (.inl (G.2.1 0, 8, .inl (fun _ => 0)))) rd0 (.inr (4, [.ref q1, .ref q2, .int 0]))), rfl, ⟨q1, q2, hn_q1, hn_q20, hq12, mw_ext3 h_q1 h_q2 h_R (fun z h1 h2 h3 => (mu_n h3).trans ((mu_n h2).trans ((mu_n h3).trans ((mu_n h1).trans (rfl)))))⟩, by rw [ht99]; exact hP, hI⟩, hS.F ht99⟩) hS.2.2 dX1_init_20
