theorem at_or {G : mg} {A : Nat → Prop} {s : State} {H : Heap} {locs : List Loc} {M : mw} {a : Nat} {e : va_E} (hG : GK G A s) (hS : va_S A s.heap H locs) (hP : mP G.1 M H) (h : M a = some e ∨ G.2.2.1 a = some e) : va_at G.1 vwCl (a, e) H := h.elim (fun q => hP a e q) (fun q => hG.con hS q)
set_option maxHeartbeats 4000000 in
set_option maxRecDepth 100000 in
theorem c_J6_intValue_8abf5 (l : Launch) (G : mg) (A : Nat → Prop) (Mw : mw) {v0 : Nat} {x0 : Int32} (h_V : Mw v0 = some (.inr (0, [.int x0])) ∨ G.2.2.1 v0 = some (.inr (0, [.int x0]))) : Met l yJ6_intValue_8abf5 wsJ6_intValue_8abf5 ({ frames := 0, cells := 0, slots := 0, locals := 0 }) (va_Pc [.ref v0] (mB G A Mw)) (va_Qi (fun r Mw1 => r = (x0) ∧ Mw1 = Mw) (mE G A) A) 0 0 A := by
  refine Met.ofW (cc := cJ6_intValue_8abf5) (maxL := 1) (ret := (some .int)) (by decide) rfl ?_
  intro p e s m args below meth c s₁ B hml hv
  obtain ⟨rfl, hG, hP, hI, hA⟩ := hv
  have hx := B.exec
  have hb := B.bytes
  have hr := B.returns
  have hts := atoms_spec (ws := wsJ6_intValue_8abf5) B.pre
  have hown : s.vm.findClass RJ6 = some m.cls := findClass_of_methodNamed B.named
  have hlocks := B.notSynchronized
  have hK := hG.K
  have i_J6 : ∀ w ∈ wsJ60, w ∈ wsJ6_intValue_8abf5 := by decide +kernel
  have hS : va_S A s.heap s.heap [] := va_S.rf
  have hl := lv_entry ([.ref v0]) (n := 1) (Nat.le_of_ble_eq_true rfl)
  rw [lg_entry_eq]
  generalize (lg_sl ([.ref v0]) ++ List.replicate (1 - (lg_sl ([.ref v0])).length) Slot.unset).toArray = ls at hl ⊢
  have hl : lv_has ls 1 [(0, .ref v0)] := hl
  have hP : mP G.1 Mw s.heap := hP
  refine lv_aload_n hx hb dJ6_intValue_8abf5_0 rfl (lv_at hl 0 rfl) ?_
  refine m_get (ci := 0) (v := .int x0) (C := RJ6) (T := TJ6) (N := 1) hx hb hts i_J6 hown hK (at_or hG hS hP h_V) rfl 0 (by decide) (hts (.fieldLink RJ6 205 "java/lang/Integer" "value" "I") (by decide +kernel)) (fun _ h9 => h9) rfl dJ6_intValue_8abf5_1 ?_
  refine W.widen (k := 0) (n := 0) (Nat.le_of_ble_eq_true rfl) (Nat.le_of_ble_eq_true rfl) ?_
  exact W.iret (v := x0) hx hb hr (fun t99 ht99 hW99 => ⟨⟨x0, Mw, rfl, ⟨rfl, rfl⟩, by rw [ht99]; exact hP, hI⟩, hS.F ht99⟩) hS.2.2 dJ6_intValue_8abf5_4

set_option maxHeartbeats 4000000 in
set_option maxRecDepth 100000 in
theorem c_Jxd2413_init_da8c8 (l : Launch) (G : mg) (A : Nat → Prop) (Mw : mw) (a0 : Nat) : Met l yJxd2413_init_da8c8 wsJxd2413_init_da8c8 ({ frames := 1, cells := 0, slots := 0, locals := 20 }) (va_Pc [.ref a0] (mB G A Mw)) (va_Qv (fun Mw1 => Mw1 = Mw) (mE G A) A) 0 0 A := by
  refine Met.ofW (cc := cJxd2413_init_da8c8) (maxL := 1) (ret := none) (by decide) rfl ?_
  intro p e s m args below meth c s₁ B hml hv
  obtain ⟨rfl, hG, hP, hI, hA⟩ := hv
  have hx := B.exec
  have hb := B.bytes
  have hr := B.returns
  have hts := atoms_spec (ws := wsJxd2413_init_da8c8) B.pre
  have hown : s.vm.findClass RJxd2413 = some m.cls := findClass_of_methodNamed B.named
  have hlocks := B.notSynchronized
  have hK := hG.K
  have hin : meth.name = "<init>" := (name_of_methodNamed B.named B.method).1
  have hS : va_S A s.heap s.heap [] := va_S.rf
  have hl := lv_entry ([.ref a0]) (n := 1) (Nat.le_of_ble_eq_true rfl)
  rw [lg_entry_eq]
  generalize (lg_sl ([.ref a0]) ++ List.replicate (1 - (lg_sl ([.ref a0])).length) Slot.unset).toArray = ls at hl ⊢
  have hl : lv_has ls 1 [(0, .ref a0)] := hl
  have hP : mP G.1 Mw s.heap := hP
  refine lv_aload_n hx hb dJxd2413_init_da8c8_0 rfl (lv_at hl 0 rfl) ?_
  refine W.objInit hx hb hown (hts (.methodLink RJxd2413 1 objectInit) (by decide +kernel)) (hts (.instanceMethod objectInit) (by decide +kernel)) (hts (.code objectInit ⟨#[0xb1]⟩ 1 none) (by decide +kernel)) rfl (by rw [hml]; exact hl.1) rfl dJxd2413_init_da8c8_1 (Nat.le_of_ble_eq_true rfl) (Nat.le_of_ble_eq_true rfl) ?_
  refine W.eq (g2 := F0 m 4 ls []) rfl ?_
  refine W.widen (k := 0) (n := 0) (Nat.le_of_ble_eq_true rfl) (Nat.le_of_ble_eq_true rfl) ?_
  exact W.vret hx hb hr (fun t99 ht99 hW99 => ⟨⟨Mw, rfl, rfl, by rw [ht99]; exact hP, hI⟩, hS.F ht99⟩) hS.2.2 dJxd2413_init_da8c8_4

set_option maxHeartbeats 4000000 in
set_option maxRecDepth 100000 in
theorem c_Jxa1e45_init_da8c8 (l : Launch) (G : mg) (A : Nat → Prop) (Mw : mw) (a0 : Nat) : Met l yJxa1e45_init_da8c8 wsJxa1e45_init_da8c8 ({ frames := 1, cells := 0, slots := 0, locals := 20 }) (va_Pc [.ref a0] (mB G A Mw)) (va_Qv (fun Mw1 => Mw1 = Mw) (mE G A) A) 0 0 A := by
  refine Met.ofW (cc := cJxa1e45_init_da8c8) (maxL := 1) (ret := none) (by decide) rfl ?_
  intro p e s m args below meth c s₁ B hml hv
  obtain ⟨rfl, hG, hP, hI, hA⟩ := hv
  have hx := B.exec
  have hb := B.bytes
  have hr := B.returns
  have hts := atoms_spec (ws := wsJxa1e45_init_da8c8) B.pre
  have hown : s.vm.findClass RJxa1e45 = some m.cls := findClass_of_methodNamed B.named
  have hlocks := B.notSynchronized
  have hK := hG.K
  have hin : meth.name = "<init>" := (name_of_methodNamed B.named B.method).1
  have hS : va_S A s.heap s.heap [] := va_S.rf
  have hl := lv_entry ([.ref a0]) (n := 1) (Nat.le_of_ble_eq_true rfl)
  rw [lg_entry_eq]
  generalize (lg_sl ([.ref a0]) ++ List.replicate (1 - (lg_sl ([.ref a0])).length) Slot.unset).toArray = ls at hl ⊢
  have hl : lv_has ls 1 [(0, .ref a0)] := hl
  have hP : mP G.1 Mw s.heap := hP
  refine lv_aload_n hx hb dJxa1e45_init_da8c8_0 rfl (lv_at hl 0 rfl) ?_
  refine W.objInit hx hb hown (hts (.methodLink RJxa1e45 1 objectInit) (by decide +kernel)) (hts (.instanceMethod objectInit) (by decide +kernel)) (hts (.code objectInit ⟨#[0xb1]⟩ 1 none) (by decide +kernel)) rfl (by rw [hml]; exact hl.1) rfl dJxa1e45_init_da8c8_1 (Nat.le_of_ble_eq_true rfl) (Nat.le_of_ble_eq_true rfl) ?_
  refine W.eq (g2 := F0 m 4 ls []) rfl ?_
  refine W.widen (k := 0) (n := 0) (Nat.le_of_ble_eq_true rfl) (Nat.le_of_ble_eq_true rfl) ?_
  exact W.vret hx hb hr (fun t99 ht99 hW99 => ⟨⟨Mw, rfl, rfl, by rw [ht99]; exact hP, hI⟩, hS.F ht99⟩) hS.2.2 dJxa1e45_init_da8c8_4
