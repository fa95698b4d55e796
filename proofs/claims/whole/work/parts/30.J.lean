section MW
variable {p : Program} {l : Launch} {e : Env} {R : Room} {s : State} {m : MethodId} {args : Array Value} {below : List Frame} {meth : Method} {c : Code} {H : Heap} {locs : List Loc} {cells slots : Nat} {Q : State → Prop}
variable {cc : ByteArray} {pc : Nat} {ls : Array Slot} {rest : List Value} {D : va_G} {A : Nat → Prop} {a : Nat} {tys : List (ClassId × FieldType)} {M : mw} {H0 : Heap}
theorem m_any {v : Nat} {C E : String} (hv : ∃ cell : Cell, H[v]? = some cell ∧ cell.vm.isStatics = false ∧ s.vm.findClass C = some cell.cls) (hca : va_Nw (.castable C E) s) : va_Any E s H v := by
  obtain ⟨cell, h1, h2, h3⟩ := hv
  obtain ⟨kC, hkC, -⟩ := Vm.findClass_spec h3
  refine ⟨cell, h1, h2, ⟨kC, hkC⟩, fun comp h => ?_⟩
  obtain ⟨c3, c4, q3, q4, q5⟩ := Cond.castable_spec (va_Nw.use (A := #[]) rfl hca)
  cases Option.some.inj (q4.symm.trans h)
  cases Option.some.inj (q3.symm.trans h3)
  exact q5
theorem m_astqM (hexec : p.tables.exec = Jvm.exec) (hb : c.code = cc) (hK : va_K D vwCl tys s) (hP : mP D M H) (hI : mI A M) (hS : va_S A H0 H locs) (t0 : Nat) {E : String} {cA : ClassId} {n v : Nat} {f : Nat → Option Nat} (ha : M a = some (.inl (cA, n, .inr (.inr (.inr (.inr f)))))) (ht : tys[t0]? = some (cA, .object E)) (hr : va_Any E s H v) {i : Int32} (hin : vp_in i n) (hdg : decode cc pc = .ok (.aastore, 1))
    (kk : ∀ (H1 : Heap) (locs1 : List Loc), mP D (mu M a (.inl (cA, n, .inr (.inr (.inr (.inr (va_up f i.toNatClampNeg (some v)))))))) H1 → mI A (mu M a (.inl (cA, n, .inr (.inr (.inr (.inr (va_up f i.toNatClampNeg (some v)))))))) → va_S A H0 H1 locs1 → W p l e R s m args below meth c H1 locs1 cells slots Q (F0 m (pc + 1) ls rest)) : W p l e R s m args below meth c H locs cells slots Q (F0 m pc ls (.ref v :: .int i :: .ref a :: rest)) := by
  obtain ⟨ws, hL, hPw, hDw⟩ := mL_ex hP
  obtain ⟨q0, hq0⟩ := hL.1 a _ ha
  exact va_astqM hexec hb hK hPw (hDw A hI) hS q0 t0 hq0 ht hr hin hdg (fun H1 locs1 h1 _ h3 => kk H1 locs1 (hL.set hq0 h1) (hI.mu (hI a _ ha)) h3)
theorem m_copyq (hexec : p.tables.exec = Jvm.exec) (hb : c.code = cc) (hml : c.maxLocals = ls.size) {own : String} {index : Nat} (hown : s.vm.findClass own = some m.cls) (hlink : (Cond.methodLink own index arraycopyName).before args s = true) (hnat : (Cond.native arraycopyName).before args s = true) (hstat : (Cond.static arraycopyName).before args s = true) (hini : (Cond.initialized "java/lang/System").before args s = true)
    (hK : va_K D vwCl tys s) (hP : mP D M H) (hI : mI A M) (hS : va_S A H0 H locs) (t0 : Nat) {c0 : ClassId} {n0 : Nat} {f : Nat → Option Nat} {E1 : String} (ha : M a = some (.inl (c0, n0, .inr (.inr (.inr (.inr f)))))) (ht0 : tys[t0]? = some (c0, .object E1))
    {sp dp n : Int32} (h1 : ¬ sp < 0) (h2 : ¬ dp < 0) (h3 : ¬ n < 0) (h4 : sp.toNatClampNeg + n.toNatClampNeg ≤ n0) (h5 : dp.toNatClampNeg + n.toNatClampNeg ≤ n0) {r : vw_C} {ci : Nat} (hr : vwCl[ci]? = some r) (hel : ∀ i y : Nat, f i = some y → ∃ cell : Cell, H[y]? = some cell ∧ cell.vm.isStatics = false ∧ s.vm.findClass r.1 = some cell.cls) (hca : va_Nw (.castable r.1 E1) s)
    (hframes : 1 ≤ R.frames) (hlocals : (rest.map fun v => v.category).sum + (nativeFrameWords "java/lang/System" "arraycopy" 5 + 11) ≤ R.locals) (hdg : decode cc pc = .ok (.invokestatic index, 3))
    (kk : ∀ (H1 : Heap) (locs1 : List Loc), mP D (mu M a (.inl (c0, n0, .inr (.inr (.inr (.inr (va_cpy f f sp.toNatClampNeg dp.toNatClampNeg n.toNatClampNeg))))))) H1 → mI A (mu M a (.inl (c0, n0, .inr (.inr (.inr (.inr (va_cpy f f sp.toNatClampNeg dp.toNatClampNeg n.toNatClampNeg))))))) → va_S A H0 H1 locs1 → W p l e R s m args below meth c H1 locs1 cells slots Q (F0 m (pc + 3) ls rest)) : W p l e R s m args below meth c H locs cells slots Q (F0 m pc ls (.int n :: .int dp :: .ref a :: .int sp :: .ref a :: rest)) := by
  obtain ⟨ws, hL, hPw, hDw⟩ := mL_ex hP
  obtain ⟨q0, hq0⟩ := hL.1 a _ ha
  refine va_copyq (C := r.1) hexec hb hml hown hlink hnat hstat hini hK hPw (hDw A hI) hS q0 q0 t0 t0 hq0 hq0 ht0 ht0 h1 h2 h3 h4 h5 (fun i _ y hy => ?_) (fun comp c0 z1 z2 => ?_) hframes hlocals hdg (fun H1 locs1 h1 _ h3 => kk H1 locs1 (hL.set hq0 h1) (hI.mu (hI a _ ha)) h3)
  · exact hel _ y hy
  · obtain ⟨c3, c4, h3, h4, h5⟩ := Cond.castable_spec (va_Nw.use (A := #[]) rfl hca)
    cases Option.some.inj (h4.symm.trans z1)
    cases Option.some.inj (h3.symm.trans z2)
    exact h5
end MW
theorem or_mu {M C : mw} {v a : Nat} {e x : va_E} (h : M v = some e ∨ C v = some e) (hn : v ≠ a) : mu M a x v = some e ∨ C v = some e := h.imp (fun q => mu_k hn q) id
theorem or_x {M C : mw} {v a : Nat} {e x : va_E} (h : M v = some e ∨ C v = some e) (hn : M a = none) : mu M a x v = some e ∨ C v = some e := h.imp (fun q => mu_x q hn) id
theorem or_ne {M C : mw} {A : Nat → Prop} {P : Nat → va_E → Prop} {v q : Nat} {e : va_E} (hc : ∀ a e, C a = some e → P a e ∧ ¬ A a) (h : M v = some e ∨ C v = some e) (hn : M q = none) (hq : A q) : v ≠ q := h.elim (fun z => ne_none z hn) (fun z w => (hc v e z).2 (by rw [w]; exact hq))
theorem or_recv {G : mg} {A : Nat → Prop} {s : State} {H : Heap} {locs : List Loc} {M : mw} {a ci : Nat} {vs : List Value} {rv : vw_C} (hG : GK G A s) (hS : va_S A s.heap H locs) (hP : mP G.1 M H) (h : M a = some (.inr (ci, vs)) ∨ G.2.2.1 a = some (.inr (ci, vs))) (hc : vwCl[ci]? = some rv) : ∃ cell : Cell, H[a]? = some cell ∧ cell.vm.isStatics = false ∧ s.vm.findClass rv.1 = some cell.cls := by
  rcases h with h | h
  · exact va_recv hG.K (hP _ _ h).one hc (q0 := 0) rfl
  · obtain ⟨v, h1, h2, -⟩ := ((GKh.kept hG.2.2 hS.2.1).2.2.2.2.2 a _ h).1
    cases h1
    have e : rv = (RJ6, TJ6, 1) := (Option.some.inj hc).symm
    subst e
    obtain ⟨cell, q1, q2, q3, -⟩ := h2
    exact ⟨cell, q1, q2, q3⟩
section MW
variable {p : Program} {l : Launch} {e : Env} {R : Room} {s : State} {m : MethodId} {args : Array Value} {below : List Frame} {meth : Method} {c : Code} {H : Heap} {locs : List Loc} {cells slots : Nat} {Q : State → Prop}
variable {cc : ByteArray} {pc : Nat} {ls : Array Slot} {rest : List Value} {A : Nat → Prop} {M : mw} {G : mg}
theorem or_get (hexec : p.tables.exec = Jvm.exec) (hb : c.code = cc) {own : String} {index : Nat} {Ts : List Cond} (hts : ∀ w ∈ Ts, w.before args s = true) (hin : ∀ w ∈ u_ws RJ6 TJ6 1, w ∈ Ts) (hown : s.vm.findClass own = some m.cls) (hG : GK G A s) (hS : va_S A s.heap H locs) (hP : mP G.1 M H) {v : Nat} {x : Int32} (h : M v = some (.inr (0, [.int x])) ∨ G.2.2.1 v = some (.inr (0, [.int x]))) (hlink : (Cond.fieldLink own index "java/lang/Integer" "value" "I").before args s = true) (hdg : decode cc pc = .ok (.getfield index, 3))
    (kk : W p l e R s m args below meth c H locs cells slots Q (F0 m (pc + 3) ls (.int x :: rest))) : W p l e R s m args below meth c H locs cells slots Q (F0 m pc ls (.ref v :: rest)) := by
  rcases h with h | h
  · exact m_get (ci := 0) (v := .int x) (C := RJ6) (T := TJ6) (N := 1) hexec hb hts hin hown hG.K (hP _ _ h) rfl 0 (by decide) hlink (fun _ h9 => h9) rfl hdg kk
  · obtain ⟨w, h1, -, h3⟩ := (hG.2.2.2.2.2.2.2 v _ h).1
    cases h1
    exact vk_getf hexec hb h3 hS hown hlink (fun _ h9 => h9) hdg kk
end MW
set_option maxHeartbeats 4000000 in
set_option maxRecDepth 100000 in
theorem c_J6_intValue_8abf5 (l : Launch) (G : mg) (A : Nat → Prop) (Mw : mw) {v0 : Nat} {x0 : Int32} (h_V : Mw v0 = some (.inr (0, [.int x0])) ∨ G.2.2.1 v0 = some (.inr (0, [.int x0]))) : Met l yJ6_intValue_8abf5 wsJ6_intValue_8abf5 ({ frames := 0, cells := 0, slots := 0, locals := 0 }) (va_Pc [.ref v0] (mB G A Mw)) (va_Qi (fun r Mw1 => r = (x0) ∧ Mw1 = Mw) (mE G A) A) 0 0 A := by
  refine Met.ofW (cc := cJ6_intValue_8abf5) (maxL := 1) (ret := (some .int)) (by decide) rfl ?_
  intro p e s m args below meth c s₁ B hml hv
  obtain ⟨rfl, hG, hP, hI, hA⟩ := hv
  have hx := B.exec
  have hb := B.bytes
  have hr := B.returns
  have hts := atoms_spec (ws := wsJ6_intValue_8abf5) B.pre
  have hown : s.vm.findClass RJ6 = some m.cls := findClass_of_methodNamed B.named
  have hlocks := B.notSynchronized
  have hK := hG.K
  have i_J6 : ∀ w ∈ wsJ60, w ∈ wsJ6_intValue_8abf5 := by decide +kernel
  have hS : va_S A s.heap s.heap [] := va_S.rf
  have hl := lv_entry ([.ref v0]) (n := 1) (Nat.le_of_ble_eq_true rfl)
  rw [lg_entry_eq]
  generalize (lg_sl ([.ref v0]) ++ List.replicate (1 - (lg_sl ([.ref v0])).length) Slot.unset).toArray = ls at hl ⊢
  have hl : lv_has ls 1 [(0, .ref v0)] := hl
  have hP : mP G.1 Mw s.heap := hP
  refine lv_aload_n hx hb dJ6_intValue_8abf5_0 rfl (lv_at hl 0 rfl) ?_
  refine or_get hx hb hts i_J6 hown hG hS hP h_V (hts (.fieldLink RJ6 205 "java/lang/Integer" "value" "I") (by decide +kernel)) dJ6_intValue_8abf5_1 ?_
  refine W.widen (k := 0) (n := 0) (Nat.le_of_ble_eq_true rfl) (Nat.le_of_ble_eq_true rfl) ?_
  exact W.iret (v := x0) hx hb hr (fun t99 ht99 hW99 => ⟨⟨x0, Mw, rfl, ⟨rfl, rfl⟩, by rw [ht99]; exact hP, hI⟩, hS.F ht99⟩) hS.2.2 dJ6_intValue_8abf5_4

set_option maxHeartbeats 4000000 in
set_option maxRecDepth 100000 in
theorem c_Jxd2413_init_da8c8 (l : Launch) (G : mg) (A : Nat → Prop) (Mw : mw) (a0 : Nat) : Met l yJxd2413_init_da8c8 wsJxd2413_init_da8c8 ({ frames := 1, cells := 0, slots := 0, locals := 20 }) (va_Pc [.ref a0] (mB G A Mw)) (va_Qv (fun Mw1 => Mw1 = Mw) (mE G A) A) 0 0 A := by
  refine Met.ofW (cc := cJxd2413_init_da8c8) (maxL := 1) (ret := none) (by decide) rfl ?_
  intro p e s m args below meth c s₁ B hml hv
  obtain ⟨rfl, hG, hP, hI, hA⟩ := hv
  have hx := B.exec
  have hb := B.bytes
  have hr := B.returns
  have hts := atoms_spec (ws := wsJxd2413_init_da8c8) B.pre
  have hown : s.vm.findClass RJxd2413 = some m.cls := findClass_of_methodNamed B.named
  have hlocks := B.notSynchronized
  have hK := hG.K
  have hin : meth.name = "<init>" := (name_of_methodNamed B.named B.method).1
  have hS : va_S A s.heap s.heap [] := va_S.rf
  have hl := lv_entry ([.ref a0]) (n := 1) (Nat.le_of_ble_eq_true rfl)
  rw [lg_entry_eq]
  generalize (lg_sl ([.ref a0]) ++ List.replicate (1 - (lg_sl ([.ref a0])).length) Slot.unset).toArray = ls at hl ⊢
  have hl : lv_has ls 1 [(0, .ref a0)] := hl
  have hP : mP G.1 Mw s.heap := hP
  refine lv_aload_n hx hb dJxd2413_init_da8c8_0 rfl (lv_at hl 0 rfl) ?_
  refine W.objInit hx hb hown (hts (.methodLink RJxd2413 1 objectInit) (by decide +kernel)) (hts (.instanceMethod objectInit) (by decide +kernel)) (hts (.code objectInit ⟨#[0xb1]⟩ 1 none) (by decide +kernel)) rfl (by rw [hml]; exact hl.1) rfl dJxd2413_init_da8c8_1 (Nat.le_of_ble_eq_true rfl) (Nat.le_of_ble_eq_true rfl) ?_
  refine W.eq (g2 := F0 m 4 ls []) rfl ?_
  refine W.widen (k := 0) (n := 0) (Nat.le_of_ble_eq_true rfl) (Nat.le_of_ble_eq_true rfl) ?_
  exact W.vret hx hb hr (fun t99 ht99 hW99 => ⟨⟨Mw, rfl, rfl, by rw [ht99]; exact hP, hI⟩, hS.F ht99⟩) hS.2.2 dJxd2413_init_da8c8_4

set_option maxHeartbeats 4000000 in
set_option maxRecDepth 100000 in
theorem c_Jxa1e45_init_da8c8 (l : Launch) (G : mg) (A : Nat → Prop) (Mw : mw) (a0 : Nat) : Met l yJxa1e45_init_da8c8 wsJxa1e45_init_da8c8 ({ frames := 1, cells := 0, slots := 0, locals := 20 }) (va_Pc [.ref a0] (mB G A Mw)) (va_Qv (fun Mw1 => Mw1 = Mw) (mE G A) A) 0 0 A := by
  refine Met.ofW (cc := cJxa1e45_init_da8c8) (maxL := 1) (ret := none) (by decide) rfl ?_
  intro p e s m args below meth c s₁ B hml hv
  obtain ⟨rfl, hG, hP, hI, hA⟩ := hv
  have hx := B.exec
  have hb := B.bytes
  have hr := B.returns
  have hts := atoms_spec (ws := wsJxa1e45_init_da8c8) B.pre
  have hown : s.vm.findClass RJxa1e45 = some m.cls := findClass_of_methodNamed B.named
  have hlocks := B.notSynchronized
  have hK := hG.K
  have hin : meth.name = "<init>" := (name_of_methodNamed B.named B.method).1
  have hS : va_S A s.heap s.heap [] := va_S.rf
  have hl := lv_entry ([.ref a0]) (n := 1) (Nat.le_of_ble_eq_true rfl)
  rw [lg_entry_eq]
  generalize (lg_sl ([.ref a0]) ++ List.replicate (1 - (lg_sl ([.ref a0])).length) Slot.unset).toArray = ls at hl ⊢
  have hl : lv_has ls 1 [(0, .ref a0)] := hl
  have hP : mP G.1 Mw s.heap := hP
  refine lv_aload_n hx hb dJxa1e45_init_da8c8_0 rfl (lv_at hl 0 rfl) ?_
  refine W.objInit hx hb hown (hts (.methodLink RJxa1e45 1 objectInit) (by decide +kernel)) (hts (.instanceMethod objectInit) (by decide +kernel)) (hts (.code objectInit ⟨#[0xb1]⟩ 1 none) (by decide +kernel)) rfl (by rw [hml]; exact hl.1) rfl dJxa1e45_init_da8c8_1 (Nat.le_of_ble_eq_true rfl) (Nat.le_of_ble_eq_true rfl) ?_
  refine W.eq (g2 := F0 m 4 ls []) rfl ?_
  refine W.widen (k := 0) (n := 0) (Nat.le_of_ble_eq_true rfl) (Nat.le_of_ble_eq_true rfl) ?_
  exact W.vret hx hb hr (fun t99 ht99 hW99 => ⟨⟨Mw, rfl, rfl, by rw [ht99]; exact hP, hI⟩, hS.F ht99⟩) hS.2.2 dJxa1e45_init_da8c8_4

set_option maxHeartbeats 4000000 in
set_option maxRecDepth 100000 in
theorem c_Jxc12de_init_da8c8 (l : Launch) (G : mg) (A : Nat → Prop) (Mw : mw) {a0 : Nat} {m0 : Int32} (h_L : Mw a0 = some (.inr (2, [.int m0, .null, .int 0]))) : Met l yJxc12de_init_da8c8 wsJxc12de_init_da8c8 ({ frames := 2, cells := 0, slots := 0, locals := 40 }) (va_Pc [.ref a0] (mB G A Mw)) (va_Qv (fun Mw1 => Mw1 = mu Mw a0 (.inr (2, [.int 0, .null, .int 0]))) (mE G A) A) 0 0 A := by
  refine Met.ofW (cc := cJxc12de_init_da8c8) (maxL := 1) (ret := none) (by decide) rfl ?_
  intro p e s m args below meth c s₁ B hml hv
  obtain ⟨rfl, hG, hP, hI, hA⟩ := hv
  have hx := B.exec
  have hb := B.bytes
  have hr := B.returns
  have hts := atoms_spec (ws := wsJxc12de_init_da8c8) B.pre
  have hown : s.vm.findClass RJxc12de = some m.cls := findClass_of_methodNamed B.named
  have hlocks := B.notSynchronized
  have hK := hG.K
  have hin : meth.name = "<init>" := (name_of_methodNamed B.named B.method).1
  have i_Jx4a65c : ∀ w ∈ wsJx4a65c0, w ∈ wsJxc12de_init_da8c8 := by decide +kernel
  have hS : va_S A s.heap s.heap [] := va_S.rf
  have hl := lv_entry ([.ref a0]) (n := 1) (Nat.le_of_ble_eq_true rfl)
  rw [lg_entry_eq]
  generalize (lg_sl ([.ref a0]) ++ List.replicate (1 - (lg_sl ([.ref a0])).length) Slot.unset).toArray = ls at hl ⊢
  have hl : lv_has ls 1 [(0, .ref a0)] := hl
  have hP : mP G.1 Mw s.heap := hP
  refine lv_aload_n hx hb dJxc12de_init_da8c8_0 rfl (lv_at hl 0 rfl) ?_
  refine m_callv (va_runI (As := []) (rest := []) ⟨hx, hb, hml, hown, hts⟩ (c_Jxa1e45_init_da8c8 l G A Mw  a0) (cwI 0 hts gJxc12de_init_da8c8_Jxa1e45_init_da8c8 rfl rfl rfl (hts (.initialized RJxa1e45) (by decide +kernel)) (hts (.methodLink RJxc12de 1 yJxa1e45_init_da8c8) (by decide +kernel)) (hts (.instanceMethod yJxa1e45_init_da8c8) (by decide +kernel)) rfl (by decide +kernel) ⟨Nat.le_of_ble_eq_true rfl, Nat.le_of_ble_eq_true rfl⟩) (mPreS hG hS hP hI hA) rfl rfl hl.1 rfl (lv_room (Nat.le_of_ble_eq_true rfl)) dJxc12de_init_da8c8_1 ⟨Nat.le_of_ble_eq_true rfl, Nat.le_of_ble_eq_true rfl⟩) hS (fun Mw1 H locs hp_r1 hP hI hS => ?_)
  subst Mw1
  refine lv_aload_n hx hb dJxc12de_init_da8c8_4 rfl (lv_at hl 0 rfl) ?_
  refine lv_iconst (v := 0) hx hb dJxc12de_init_da8c8_5 (by decide) ?_
  refine m_put (ci := 2) (v := .int 0) (ty := .int) (C := RJx4a65c) (T := TJx4a65c) (N := 3) hx hb hts i_Jx4a65c tyJx4a65c tyJx4a65c_ok nmJx4a65c hown hK hP hI hS h_L rfl 0 (by decide) (hts (.fieldLink RJxc12de 7 "java/util/AbstractList" "modCount" "I") (by decide +kernel)) (fun _ h9 => h9) rfl (by decide +kernel) rfl rfl (Nat.le_of_ble_eq_true rfl) dJxc12de_init_da8c8_6 (fun H locs hP hI hS => ?_)
  have hP : mP G.1 (mu Mw a0 (.inr (2, [.int 0, .null, .int 0]))) H := hP
  have hI : mI A (mu Mw a0 (.inr (2, [.int 0, .null, .int 0]))) := hI
  have h_L : (mu Mw a0 (.inr (2, [.int 0, .null, .int 0]))) a0 = some (.inr (2, [.int 0, .null, .int 0])) := mu_s
  refine W.widen (k := 0) (n := 0) (Nat.le_of_ble_eq_true rfl) (Nat.le_of_ble_eq_true rfl) ?_
  exact W.vret hx hb hr (fun t99 ht99 hW99 => ⟨⟨(mu Mw a0 (.inr (2, [.int 0, .null, .int 0]))), rfl, rfl, by rw [ht99]; exact hP, hI⟩, hS.F ht99⟩) hS.2.2 dJxc12de_init_da8c8_9

set_option maxHeartbeats 4000000 in
set_option maxRecDepth 100000 in
theorem c_Jx4a65c_init_da8c8 (l : Launch) (G : mg) (A : Nat → Prop) (Mw : mw) {a0 : Nat} {m0 : Int32} (h_L : Mw a0 = some (.inr (2, [.int m0, .null, .int 0]))) : Met l yJx4a65c_init_da8c8 wsJx4a65c_init_da8c8 ({ frames := 3, cells := 0, slots := 0, locals := 60 }) (va_Pc [.ref a0] (mB G A Mw)) (va_Qv (fun Mw1 => Mw1 = mu Mw a0 (.inr (2, [.int 0, .ref (G.2.2.2 1), .int 0]))) (mE G A) A) 0 0 A := by
  refine Met.ofW (cc := cJx4a65c_init_da8c8) (maxL := 1) (ret := none) (by decide) rfl ?_
  intro p e s m args below meth c s₁ B hml hv
  obtain ⟨rfl, hG, hP, hI, hA⟩ := hv
  have hx := B.exec
  have hb := B.bytes
  have hr := B.returns
  have hts := atoms_spec (ws := wsJx4a65c_init_da8c8) B.pre
  have hown : s.vm.findClass RJx4a65c = some m.cls := findClass_of_methodNamed B.named
  have hlocks := B.notSynchronized
  have hK := hG.K
  have hin : meth.name = "<init>" := (name_of_methodNamed B.named B.method).1
  have i_Jx4a65c : ∀ w ∈ wsJx4a65c0, w ∈ wsJx4a65c_init_da8c8 := by decide +kernel
  have hS : va_S A s.heap s.heap [] := va_S.rf
  have hl := lv_entry ([.ref a0]) (n := 1) (Nat.le_of_ble_eq_true rfl)
  rw [lg_entry_eq]
  generalize (lg_sl ([.ref a0]) ++ List.replicate (1 - (lg_sl ([.ref a0])).length) Slot.unset).toArray = ls at hl ⊢
  have hl : lv_has ls 1 [(0, .ref a0)] := hl
  have hP : mP G.1 Mw s.heap := hP
  refine lv_aload_n hx hb dJx4a65c_init_da8c8_0 rfl (lv_at hl 0 rfl) ?_
  refine m_callv (va_runI (As := []) (rest := []) ⟨hx, hb, hml, hown, hts⟩ (c_Jxc12de_init_da8c8 l G A Mw  h_L) (cwI 0 hts gJx4a65c_init_da8c8_Jxc12de_init_da8c8 rfl rfl rfl (hts (.initialized RJxc12de) (by decide +kernel)) (hts (.methodLink RJx4a65c 1 yJxc12de_init_da8c8) (by decide +kernel)) (hts (.instanceMethod yJxc12de_init_da8c8) (by decide +kernel)) rfl (by decide +kernel) ⟨Nat.le_of_ble_eq_true rfl, Nat.le_of_ble_eq_true rfl⟩) (mPreS hG hS hP hI hA) rfl rfl hl.1 rfl (lv_room (Nat.le_of_ble_eq_true rfl)) dJx4a65c_init_da8c8_1 ⟨Nat.le_of_ble_eq_true rfl, Nat.le_of_ble_eq_true rfl⟩) hS (fun Mw1 H locs hp_r1 hP hI hS => ?_)
  subst Mw1
  have h_L : (mu Mw a0 (.inr (2, [.int 0, .null, .int 0]))) a0 = some (.inr (2, [.int 0, .null, .int 0])) := mu_s
  refine lv_aload_n hx hb dJx4a65c_init_da8c8_4 rfl (lv_at hl 0 rfl) ?_
  refine va_gets (C := "java/util/ArrayList") (v := .ref (G.2.2.2 1)) hx hb hG.2.2.2.2.2.2.1.1 hS hown (hts (.fieldLink RJx4a65c 39 "java/util/ArrayList" "DEFAULTCAPACITY_EMPTY_ELEMENTDATA" "[Ljava/lang/Object;") (by decide +kernel)) (fun _ h9 => h9) dJx4a65c_init_da8c8_5 ?_
  refine m_put (ci := 2) (v := .ref (G.2.2.2 1)) (ty := .array (.object "java/lang/Object")) (C := RJx4a65c) (T := TJx4a65c) (N := 3) hx hb hts i_Jx4a65c tyJx4a65c tyJx4a65c_ok nmJx4a65c hown hK hP hI hS h_L rfl 1 (by decide) (hts (.fieldLink RJx4a65c 9 "java/util/ArrayList" "elementData" "[Ljava/lang/Object;") (by decide +kernel)) (fun _ h9 => h9) rfl (by decide +kernel) rfl rfl (Nat.le_of_ble_eq_true rfl) dJx4a65c_init_da8c8_8 (fun H locs hP hI hS => ?_)
  have hP : mP G.1 (mu (mu Mw a0 (.inr (2, [.int 0, .null, .int 0]))) a0 (.inr (2, [.int 0, .ref (G.2.2.2 1), .int 0]))) H := hP
  have hI : mI A (mu (mu Mw a0 (.inr (2, [.int 0, .null, .int 0]))) a0 (.inr (2, [.int 0, .ref (G.2.2.2 1), .int 0]))) := hI
  rw [mu_uu] at hP hI 
  have h_L : (mu Mw a0 (.inr (2, [.int 0, .ref (G.2.2.2 1), .int 0]))) a0 = some (.inr (2, [.int 0, .ref (G.2.2.2 1), .int 0])) := mu_s
  refine W.widen (k := 0) (n := 0) (Nat.le_of_ble_eq_true rfl) (Nat.le_of_ble_eq_true rfl) ?_
  exact W.vret hx hb hr (fun t99 ht99 hW99 => ⟨⟨(mu Mw a0 (.inr (2, [.int 0, .ref (G.2.2.2 1), .int 0]))), rfl, rfl, by rw [ht99]; exact hP, hI⟩, hS.F ht99⟩) hS.2.2 dJx4a65c_init_da8c8_11

set_option maxHeartbeats 4000000 in
set_option maxRecDepth 100000 in
theorem c_Jx4a65c_size_8abf5 (l : Launch) (G : mg) (A : Nat → Prop) (Mw : mw) {a0 d0 n0 : Nat} {m0 : Int32} (h_L : Mw a0 = some (.inr (2, [.int m0, .ref d0, .int ((nI n0))]))) : Met l yJx4a65c_size_8abf5 wsJx4a65c_size_8abf5 ({ frames := 0, cells := 0, slots := 0, locals := 0 }) (va_Pc [.ref a0] (mB G A Mw)) (va_Qi (fun r Mw1 => r = (nI n0) ∧ Mw1 = Mw) (mE G A) A) 0 0 A := by
  refine Met.ofW (cc := cJx4a65c_size_8abf5) (maxL := 1) (ret := (some .int)) (by decide) rfl ?_
  intro p e s m args below meth c s₁ B hml hv
  obtain ⟨rfl, hG, hP, hI, hA⟩ := hv
  have hx := B.exec
  have hb := B.bytes
  have hr := B.returns
  have hts := atoms_spec (ws := wsJx4a65c_size_8abf5) B.pre
  have hown : s.vm.findClass RJx4a65c = some m.cls := findClass_of_methodNamed B.named
  have hlocks := B.notSynchronized
  have hK := hG.K
  have i_Jx4a65c : ∀ w ∈ wsJx4a65c0, w ∈ wsJx4a65c_size_8abf5 := by decide +kernel
  have hS : va_S A s.heap s.heap [] := va_S.rf
  have hl := lv_entry ([.ref a0]) (n := 1) (Nat.le_of_ble_eq_true rfl)
  rw [lg_entry_eq]
  generalize (lg_sl ([.ref a0]) ++ List.replicate (1 - (lg_sl ([.ref a0])).length) Slot.unset).toArray = ls at hl ⊢
  have hl : lv_has ls 1 [(0, .ref a0)] := hl
  have hP : mP G.1 Mw s.heap := hP
  refine lv_aload_n hx hb dJx4a65c_size_8abf5_0 rfl (lv_at hl 0 rfl) ?_
  refine m_get (ci := 2) (v := .int ((nI n0))) (C := RJx4a65c) (T := TJx4a65c) (N := 3) hx hb hts i_Jx4a65c hown hK (hP _ _ h_L) rfl 2 (by decide) (hts (.fieldLink RJx4a65c 48 "java/util/ArrayList" "size" "I") (by decide +kernel)) (fun _ h9 => h9) rfl dJx4a65c_size_8abf5_1 ?_
  refine W.widen (k := 0) (n := 0) (Nat.le_of_ble_eq_true rfl) (Nat.le_of_ble_eq_true rfl) ?_
  exact W.iret (v := (nI n0)) hx hb hr (fun t99 ht99 hW99 => ⟨⟨(nI n0), Mw, rfl, ⟨rfl, rfl⟩, by rw [ht99]; exact hP, hI⟩, hS.F ht99⟩) hS.2.2 dJx4a65c_size_8abf5_4

set_option maxHeartbeats 4000000 in
set_option maxRecDepth 100000 in
theorem c_Jx4a65c_isEmpty_aae02 (l : Launch) (G : mg) (A : Nat → Prop) (Mw : mw) {a0 d0 n0 : Nat} {m0 : Int32} (h_L : Mw a0 = some (.inr (2, [.int m0, .ref d0, .int ((nI n0))]))) : Met l yJx4a65c_isEmpty_aae02 wsJx4a65c_isEmpty_aae02 ({ frames := 0, cells := 0, slots := 0, locals := 0 }) (va_Pc [.ref a0] (mB G A Mw)) (va_Qi (fun r Mw1 => r = (if nI n0 = 0 then 1 else 0) ∧ Mw1 = Mw) (mE G A) A) 0 0 A := by
  refine Met.ofW (cc := cJx4a65c_isEmpty_aae02) (maxL := 1) (ret := (some .boolean)) (by decide) rfl ?_
  intro p e s m args below meth c s₁ B hml hv
  obtain ⟨rfl, hG, hP, hI, hA⟩ := hv
  have hx := B.exec
  have hb := B.bytes
  have hr := B.returns
  have hts := atoms_spec (ws := wsJx4a65c_isEmpty_aae02) B.pre
  have hown : s.vm.findClass RJx4a65c = some m.cls := findClass_of_methodNamed B.named
  have hlocks := B.notSynchronized
  have hK := hG.K
  have i_Jx4a65c : ∀ w ∈ wsJx4a65c0, w ∈ wsJx4a65c_isEmpty_aae02 := by decide +kernel
  have hS : va_S A s.heap s.heap [] := va_S.rf
  have hl := lv_entry ([.ref a0]) (n := 1) (Nat.le_of_ble_eq_true rfl)
  rw [lg_entry_eq]
  generalize (lg_sl ([.ref a0]) ++ List.replicate (1 - (lg_sl ([.ref a0])).length) Slot.unset).toArray = ls at hl ⊢
  have hl : lv_has ls 1 [(0, .ref a0)] := hl
  have hP : mP G.1 Mw s.heap := hP
  refine lv_aload_n hx hb dJx4a65c_isEmpty_aae02_0 rfl (lv_at hl 0 rfl) ?_
  refine m_get (ci := 2) (v := .int ((nI n0))) (C := RJx4a65c) (T := TJx4a65c) (N := 3) hx hb hts i_Jx4a65c hown hK (hP _ _ h_L) rfl 2 (by decide) (hts (.fieldLink RJx4a65c 48 "java/util/ArrayList" "size" "I") (by decide +kernel)) (fun _ h9 => h9) rfl dJx4a65c_isEmpty_aae02_1 ?_
  refine lv_if_ne (tgt := 11) hx hb dJx4a65c_isEmpty_aae02_4 (by decide) (fun c1 => ?_) (fun c1 => ?_)
  · skip
    refine lv_iconst (v := 0) hx hb dJx4a65c_isEmpty_aae02_11 (by decide) ?_
    refine W.widen (k := 0) (n := 0) (Nat.le_of_ble_eq_true rfl) (Nat.le_of_ble_eq_true rfl) ?_
    exact W.zret (v := 0) hx hb hr rfl (fun t99 ht99 hW99 => ⟨⟨0, Mw, rfl, ⟨(if_neg c1).symm, rfl⟩, by rw [ht99]; exact hP, hI⟩, hS.F ht99⟩) hS.2.2 dJx4a65c_isEmpty_aae02_12
  · skip
    refine lv_iconst (v := 1) hx hb dJx4a65c_isEmpty_aae02_7 (by decide) ?_
    refine lv_goto (tgt := 12) hx hb dJx4a65c_isEmpty_aae02_8 (by decide) ?_
    refine W.widen (k := 0) (n := 0) (Nat.le_of_ble_eq_true rfl) (Nat.le_of_ble_eq_true rfl) ?_
    exact W.zret (v := 1) hx hb hr rfl (fun t99 ht99 hW99 => ⟨⟨1, Mw, rfl, ⟨(if_pos c1).symm, rfl⟩, by rw [ht99]; exact hP, hI⟩, hS.F ht99⟩) hS.2.2 dJx4a65c_isEmpty_aae02_12

set_option maxHeartbeats 4000000 in
set_option maxRecDepth 100000 in
theorem c_J3_checkIndex_8e157 (l : Launch) (G : mg) (A : Nat → Prop) (Mw : mw) (p0 p1 : Int32) (h0 : ¬ p0 < 0) (h1 : p0 < p1) : Met l yJ3_checkIndex_8e157 wsJ3_checkIndex_8e157 ({ frames := 0, cells := 0, slots := 0, locals := 0 }) (va_Pc [.int p0, .int p1, .null] (mB G A Mw)) (va_Qi (fun r Mw1 => r = (p0) ∧ Mw1 = Mw) (mE G A) A) 0 0 A := by
  refine Met.ofW (cc := cJ3_checkIndex_8e157) (maxL := 3) (ret := (some .int)) (by decide) rfl ?_
  intro p e s m args below meth c s₁ B hml hv
  obtain ⟨rfl, hG, hP, hI, hA⟩ := hv
  have hx := B.exec
  have hb := B.bytes
  have hr := B.returns
  have hts := atoms_spec (ws := wsJ3_checkIndex_8e157) B.pre
  have hown : s.vm.findClass RJ3 = some m.cls := findClass_of_methodNamed B.named
  have hlocks := B.notSynchronized
  have hK := hG.K
  have hS : va_S A s.heap s.heap [] := va_S.rf
  have hl := lv_entry ([.int p0, .int p1, .null]) (n := 3) (Nat.le_of_ble_eq_true rfl)
  rw [lg_entry_eq]
  generalize (lg_sl ([.int p0, .int p1, .null]) ++ List.replicate (3 - (lg_sl ([.int p0, .int p1, .null])).length) Slot.unset).toArray = ls at hl ⊢
  have hl : lv_has ls 3 [(0, .int p0), (1, .int p1), (2, .null)] := hl
  have hP : mP G.1 Mw s.heap := hP
  refine lv_iload_n hx hb dJ3_checkIndex_8e157_0 rfl (lv_at hl 0 rfl) ?_
  refine lv_if_lt (tgt := 9) hx hb dJ3_checkIndex_8e157_1 (by decide) (fun c1 => absurd c1 h0) (fun c1 => ?_)
  refine lv_iload_n hx hb dJ3_checkIndex_8e157_4 rfl (lv_at hl 0 rfl) ?_
  refine lv_iload_n hx hb dJ3_checkIndex_8e157_5 rfl (lv_at hl 1 rfl) ?_
  refine lv_icmp_lt (tgt := 16) hx hb dJ3_checkIndex_8e157_6 (by decide) (fun c2 => ?_) (fun c2 => absurd c2 (fun q9 => q9 h1))
  refine lv_iload_n hx hb dJ3_checkIndex_8e157_16 rfl (lv_at hl 0 rfl) ?_
  refine W.widen (k := 0) (n := 0) (Nat.le_of_ble_eq_true rfl) (Nat.le_of_ble_eq_true rfl) ?_
  exact W.iret (v := p0) hx hb hr (fun t99 ht99 hW99 => ⟨⟨p0, Mw, rfl, ⟨rfl, rfl⟩, by rw [ht99]; exact hP, hI⟩, hS.F ht99⟩) hS.2.2 dJ3_checkIndex_8e157_17

set_option maxHeartbeats 4000000 in
set_option maxRecDepth 100000 in
theorem c_J15_checkIndex_7cf53 (l : Launch) (G : mg) (A : Nat → Prop) (Mw : mw) (p0 p1 : Int32) (h0 : ¬ p0 < 0) (h1 : p0 < p1) : Met l yJ15_checkIndex_7cf53 wsJ15_checkIndex_7cf53 ({ frames := 1, cells := 0, slots := 0, locals := 22 }) (va_Pc [.int p0, .int p1] (mB G A Mw)) (va_Qi (fun r Mw1 => r = (p0) ∧ Mw1 = Mw) (mE G A) A) 0 0 A := by
  refine Met.ofW (cc := cJ15_checkIndex_7cf53) (maxL := 2) (ret := (some .int)) (by decide) rfl ?_
  intro p e s m args below meth c s₁ B hml hv
  obtain ⟨rfl, hG, hP, hI, hA⟩ := hv
  have hx := B.exec
  have hb := B.bytes
  have hr := B.returns
  have hts := atoms_spec (ws := wsJ15_checkIndex_7cf53) B.pre
  have hown : s.vm.findClass RJ15 = some m.cls := findClass_of_methodNamed B.named
  have hlocks := B.notSynchronized
  have hK := hG.K
  have hS : va_S A s.heap s.heap [] := va_S.rf
  have hl := lv_entry ([.int p0, .int p1]) (n := 2) (Nat.le_of_ble_eq_true rfl)
  rw [lg_entry_eq]
  generalize (lg_sl ([.int p0, .int p1]) ++ List.replicate (2 - (lg_sl ([.int p0, .int p1])).length) Slot.unset).toArray = ls at hl ⊢
  have hl : lv_has ls 2 [(0, .int p0), (1, .int p1)] := hl
  have hP : mP G.1 Mw s.heap := hP
  refine lv_iload_n hx hb dJ15_checkIndex_7cf53_0 rfl (lv_at hl 0 rfl) ?_
  refine lv_iload_n hx hb dJ15_checkIndex_7cf53_1 rfl (lv_at hl 1 rfl) ?_
  refine lv_null hx hb dJ15_checkIndex_7cf53_2 ?_
  refine m_calli (va_runS (As := [.int p0, .int p1, .null]) (rest := []) ⟨hx, hb, hml, hown, hts⟩ (c_J3_checkIndex_8e157 l G A Mw  p0 p1 h0 h1) (va_cwS 3 hts gJ15_checkIndex_7cf53_J3_checkIndex_8e157 rfl rfl rfl (by decide +kernel) ⟨Nat.le_of_ble_eq_true rfl, Nat.le_of_ble_eq_true rfl⟩) (mPreS hG hS hP hI hA) rfl rfl hl.1 rfl (lv_room (Nat.le_of_ble_eq_true rfl)) dJ15_checkIndex_7cf53_3 ⟨Nat.le_of_ble_eq_true rfl, Nat.le_of_ble_eq_true rfl⟩) hS (fun r1 Mw1 H locs hp_r1 hP hI hS => ?_)
  obtain ⟨hp_r1, hm9⟩ := hp_r1
  subst Mw1
  refine W.widen (k := 0) (n := 0) (Nat.le_of_ble_eq_true rfl) (Nat.le_of_ble_eq_true rfl) ?_
  exact W.iret (v := r1) hx hb hr (fun t99 ht99 hW99 => ⟨⟨r1, Mw, rfl, ⟨hp_r1, rfl⟩, by rw [ht99]; exact hP, hI⟩, hS.F ht99⟩) hS.2.2 dJ15_checkIndex_7cf53_6

set_option maxHeartbeats 4000000 in
set_option maxRecDepth 100000 in
theorem c_Jx4a65c_elementData_915e3 (l : Launch) (G : mg) (A : Nat → Prop) (Mw : mw) {a0 d0 n0 : Nat} {m0 : Int32} (h_L : Mw a0 = some (.inr (2, [.int m0, .ref d0, .int ((nI n0))]))) {g0 : Nat → Option Nat} (h_D : Mw d0 = some (.inl (G.2.1 5, 10, .inr (.inr (.inr (.inr g0)))))) (i0 x0 : Nat) (hi0 : i0 < n0) (hn0 : n0 ≤ 8) (hx0 : g0 i0 = some x0) : Met l yJx4a65c_elementData_915e3 wsJx4a65c_elementData_915e3 ({ frames := 0, cells := 0, slots := 0, locals := 0 }) (va_Pc [.ref a0, .int (nI i0)] (mB G A Mw)) (va_Qq (fun r Mw1 => r = some x0 ∧ Mw1 = Mw) (mE G A) A) 0 0 A := by
  refine Met.ofW (cc := cJx4a65c_elementData_915e3) (maxL := 2) (ret := (some (.object "java/lang/Object"))) (by decide) rfl ?_
  intro p e s m args below meth c s₁ B hml hv
  obtain ⟨rfl, hG, hP, hI, hA⟩ := hv
  have hx := B.exec
  have hb := B.bytes
  have hr := B.returns
  have hts := atoms_spec (ws := wsJx4a65c_elementData_915e3) B.pre
  have hown : s.vm.findClass RJx4a65c = some m.cls := findClass_of_methodNamed B.named
  have hlocks := B.notSynchronized
  have hK := hG.K
  have i_Jx4a65c : ∀ w ∈ wsJx4a65c0, w ∈ wsJx4a65c_elementData_915e3 := by decide +kernel
  have hS : va_S A s.heap s.heap [] := va_S.rf
  have hl := lv_entry ([.ref a0, .int (nI i0)]) (n := 2) (Nat.le_of_ble_eq_true rfl)
  rw [lg_entry_eq]
  generalize (lg_sl ([.ref a0, .int (nI i0)]) ++ List.replicate (2 - (lg_sl ([.ref a0, .int (nI i0)])).length) Slot.unset).toArray = ls at hl ⊢
  have hl : lv_has ls 2 [(0, .ref a0), (1, .int (nI i0))] := hl
  have hP : mP G.1 Mw s.heap := hP
  refine lv_aload_n hx hb dJx4a65c_elementData_915e3_0 rfl (lv_at hl 0 rfl) ?_
  refine m_get (ci := 2) (v := .ref d0) (C := RJx4a65c) (T := TJx4a65c) (N := 3) hx hb hts i_Jx4a65c hown hK (hP _ _ h_L) rfl 1 (by decide) (hts (.fieldLink RJx4a65c 9 "java/util/ArrayList" "elementData" "[Ljava/lang/Object;") (by decide +kernel)) (fun _ h9 => h9) rfl dJx4a65c_elementData_915e3_1 ?_
  refine lv_iload_n hx hb dJx4a65c_elementData_915e3_4 rfl (lv_at hl 1 rfl) ?_
  refine m_aldq hx hb hK 5 (hP _ _ h_D) rfl (vp_in_nI (by omega) (by omega)) dJx4a65c_elementData_915e3_5 ?_
  rw [nI_clamp (show i0 < 2 ^ 31 by omega), hx0]
  refine W.widen (k := 0) (n := 0) (Nat.le_of_ble_eq_true rfl) (Nat.le_of_ble_eq_true rfl) ?_
  exact W.aret (v := .ref x0) hx hb hr (Or.inl ⟨_, rfl⟩) (Or.inr ⟨_, rfl⟩) (fun t99 ht99 hW99 => ⟨⟨some x0, Mw, rfl, ⟨rfl, rfl⟩, by rw [ht99]; exact hP, hI⟩, hS.F ht99⟩) hS.2.2 dJx4a65c_elementData_915e3_6

set_option maxHeartbeats 4000000 in
set_option maxRecDepth 100000 in
theorem c_Jx4a65c_get_915e3 (l : Launch) (G : mg) (A : Nat → Prop) (Mw : mw) {a0 d0 n0 : Nat} {m0 : Int32} (h_L : Mw a0 = some (.inr (2, [.int m0, .ref d0, .int ((nI n0))]))) {g0 : Nat → Option Nat} (h_D : Mw d0 = some (.inl (G.2.1 5, 10, .inr (.inr (.inr (.inr g0)))))) (i0 x0 : Nat) (hi0 : i0 < n0) (hn0 : n0 ≤ 8) (hx0 : g0 i0 = some x0) : Met l yJx4a65c_get_915e3 wsJx4a65c_get_915e3 ({ frames := 2, cells := 0, slots := 0, locals := 43 }) (va_Pc [.ref a0, .int (nI i0)] (mB G A Mw)) (va_Qq (fun r Mw1 => r = some x0 ∧ Mw1 = Mw) (mE G A) A) 0 0 A := by
  refine Met.ofW (cc := cJx4a65c_get_915e3) (maxL := 2) (ret := (some (.object "java/lang/Object"))) (by decide) rfl ?_
  intro p e s m args below meth c s₁ B hml hv
  obtain ⟨rfl, hG, hP, hI, hA⟩ := hv
  have hx := B.exec
  have hb := B.bytes
  have hr := B.returns
  have hts := atoms_spec (ws := wsJx4a65c_get_915e3) B.pre
  have hown : s.vm.findClass RJx4a65c = some m.cls := findClass_of_methodNamed B.named
  have hlocks := B.notSynchronized
  have hK := hG.K
  have i_Jx4a65c : ∀ w ∈ wsJx4a65c0, w ∈ wsJx4a65c_get_915e3 := by decide +kernel
  have hS : va_S A s.heap s.heap [] := va_S.rf
  have hl := lv_entry ([.ref a0, .int (nI i0)]) (n := 2) (Nat.le_of_ble_eq_true rfl)
  rw [lg_entry_eq]
  generalize (lg_sl ([.ref a0, .int (nI i0)]) ++ List.replicate (2 - (lg_sl ([.ref a0, .int (nI i0)])).length) Slot.unset).toArray = ls at hl ⊢
  have hl : lv_has ls 2 [(0, .ref a0), (1, .int (nI i0))] := hl
  have hP : mP G.1 Mw s.heap := hP
  refine lv_iload_n hx hb dJx4a65c_get_915e3_0 rfl (lv_at hl 1 rfl) ?_
  refine lv_aload_n hx hb dJx4a65c_get_915e3_1 rfl (lv_at hl 0 rfl) ?_
  refine m_get (ci := 2) (v := .int ((nI n0))) (C := RJx4a65c) (T := TJx4a65c) (N := 3) hx hb hts i_Jx4a65c hown hK (hP _ _ h_L) rfl 2 (by decide) (hts (.fieldLink RJx4a65c 48 "java/util/ArrayList" "size" "I") (by decide +kernel)) (fun _ h9 => h9) rfl dJx4a65c_get_915e3_2 ?_
  refine m_calli (va_runS (As := [.int (nI i0), .int ((nI n0))]) (rest := []) ⟨hx, hb, hml, hown, hts⟩ (c_J15_checkIndex_7cf53 l G A Mw  (nI i0) (nI n0) (nI_pos (by omega)) (nI_lt (by omega) (by omega))) (va_cwS 2 hts gJx4a65c_get_915e3_J15_checkIndex_7cf53 rfl rfl rfl (by decide +kernel) ⟨Nat.le_of_ble_eq_true rfl, Nat.le_of_ble_eq_true rfl⟩) (mPreS hG hS hP hI hA) rfl rfl hl.1 rfl (lv_room (Nat.le_of_ble_eq_true rfl)) dJx4a65c_get_915e3_5 ⟨Nat.le_of_ble_eq_true rfl, Nat.le_of_ble_eq_true rfl⟩) hS (fun r1 Mw1 H locs hp_r1 hP hI hS => ?_)
  obtain ⟨hp_r1, hm9⟩ := hp_r1
  subst Mw1
  refine lv_pop hx hb dJx4a65c_get_915e3_8 rfl ?_
  refine lv_aload_n hx hb dJx4a65c_get_915e3_9 rfl (lv_at hl 0 rfl) ?_
  refine lv_iload_n hx hb dJx4a65c_get_915e3_10 rfl (lv_at hl 1 rfl) ?_
  refine m_callq (va_runV (As := [.int (nI i0)]) (rest := []) ⟨hx, hb, hml, hown, hts⟩ (c_Jx4a65c_elementData_915e3 l G A Mw  h_L h_D i0 x0 hi0 hn0 hx0) (cwV 1 hts gJx4a65c_get_915e3_Jx4a65c_elementData_915e3 rfl rfl rfl (by decide +kernel) ⟨Nat.le_of_ble_eq_true rfl, Nat.le_of_ble_eq_true rfl⟩) (mPreV hG hS hP hI hA (hP _ _ h_L) (r := (RJx4a65c, TJx4a65c, 3)) rfl) rfl rfl hl.1 rfl (lv_room (Nat.le_of_ble_eq_true rfl)) dJx4a65c_get_915e3_11 ⟨Nat.le_of_ble_eq_true rfl, Nat.le_of_ble_eq_true rfl⟩) hS (fun r2 Mw1 H locs hp_r2 hP hI hS => ?_)
  obtain ⟨hp_r2, hm9⟩ := hp_r2
  subst Mw1
  subst hp_r2
  refine W.widen (k := 0) (n := 0) (Nat.le_of_ble_eq_true rfl) (Nat.le_of_ble_eq_true rfl) ?_
  exact W.aret (v := .ref x0) hx hb hr (Or.inl ⟨_, rfl⟩) (Or.inr ⟨_, rfl⟩) (fun t99 ht99 hW99 => ⟨⟨some x0, Mw, rfl, ⟨rfl, rfl⟩, by rw [ht99]; exact hP, hI⟩, hS.F ht99⟩) hS.2.2 dJx4a65c_get_915e3_14

set_option maxHeartbeats 4000000 in
set_option maxRecDepth 100000 in
theorem c_J6_init_d00df (l : Launch) (G : mg) (A : Nat → Prop) (Mw : mw) (p0 : Int32) {v0 : Nat} (h_V : Mw v0 = some (.inr (0, [.int 0]))) : Met l yJ6_init_d00df wsJ6_init_d00df ({ frames := 2, cells := 0, slots := 0, locals := 40 }) (va_Pc [.ref v0, .int p0] (mB G A Mw)) (va_Qv (fun Mw1 => Mw1 = mu Mw v0 (.inr (0, [.int p0]))) (mE G A) A) 0 0 A := by
  refine Met.ofW (cc := cJ6_init_d00df) (maxL := 2) (ret := none) (by decide) rfl ?_
  intro p e s m args below meth c s₁ B hml hv
  obtain ⟨rfl, hG, hP, hI, hA⟩ := hv
  have hx := B.exec
  have hb := B.bytes
  have hr := B.returns
  have hts := atoms_spec (ws := wsJ6_init_d00df) B.pre
  have hown : s.vm.findClass RJ6 = some m.cls := findClass_of_methodNamed B.named
  have hlocks := B.notSynchronized
  have hK := hG.K
  have hin : meth.name = "<init>" := (name_of_methodNamed B.named B.method).1
  have i_J6 : ∀ w ∈ wsJ60, w ∈ wsJ6_init_d00df := by decide +kernel
  have hS : va_S A s.heap s.heap [] := va_S.rf
  have hl := lv_entry ([.ref v0, .int p0]) (n := 2) (Nat.le_of_ble_eq_true rfl)
  rw [lg_entry_eq]
  generalize (lg_sl ([.ref v0, .int p0]) ++ List.replicate (2 - (lg_sl ([.ref v0, .int p0])).length) Slot.unset).toArray = ls at hl ⊢
  have hl : lv_has ls 2 [(0, .ref v0), (1, .int p0)] := hl
  have hP : mP G.1 Mw s.heap := hP
  refine lv_aload_n hx hb dJ6_init_d00df_0 rfl (lv_at hl 0 rfl) ?_
  refine m_callv (va_runI (As := []) (rest := []) ⟨hx, hb, hml, hown, hts⟩ (c_Jxd2413_init_da8c8 l G A Mw  v0) (cwI 0 hts gJ6_init_d00df_Jxd2413_init_da8c8 rfl rfl rfl (hts (.initialized RJxd2413) (by decide +kernel)) (hts (.methodLink RJ6 202 yJxd2413_init_da8c8) (by decide +kernel)) (hts (.instanceMethod yJxd2413_init_da8c8) (by decide +kernel)) rfl (by decide +kernel) ⟨Nat.le_of_ble_eq_true rfl, Nat.le_of_ble_eq_true rfl⟩) (mPreS hG hS hP hI hA) rfl rfl hl.1 rfl (lv_room (Nat.le_of_ble_eq_true rfl)) dJ6_init_d00df_1 ⟨Nat.le_of_ble_eq_true rfl, Nat.le_of_ble_eq_true rfl⟩) hS (fun Mw1 H locs hp_r1 hP hI hS => ?_)
  subst Mw1
  refine lv_aload_n hx hb dJ6_init_d00df_4 rfl (lv_at hl 0 rfl) ?_
  refine lv_iload_n hx hb dJ6_init_d00df_5 rfl (lv_at hl 1 rfl) ?_
  refine m_putF (ci := 0) (v := .int p0) (ty := .int) (C := RJ6) (T := TJ6) (N := 1) hx hb hts i_J6 tyJ6 tyJ6_ok nmJ6 hown hK hP hI hS h_V rfl 0 (by decide) (hts (.fieldLink RJ6 205 "java/lang/Integer" "value" "I") (by decide +kernel)) (fun _ h9 => h9) rfl hin rfl (by decide +kernel) rfl rfl (Nat.le_of_ble_eq_true rfl) dJ6_init_d00df_6 (fun H locs hP hI hS => ?_)
  have hP : mP G.1 (mu Mw v0 (.inr (0, [.int p0]))) H := hP
  have hI : mI A (mu Mw v0 (.inr (0, [.int p0]))) := hI
  have h_V : (mu Mw v0 (.inr (0, [.int p0]))) v0 = some (.inr (0, [.int p0])) := mu_s
  refine W.widen (k := 0) (n := 0) (Nat.le_of_ble_eq_true rfl) (Nat.le_of_ble_eq_true rfl) ?_
  exact W.vret hx hb hr (fun t99 ht99 hW99 => ⟨⟨(mu Mw v0 (.inr (0, [.int p0]))), rfl, rfl, by rw [ht99]; exact hP, hI⟩, hS.F ht99⟩) hS.2.2 dJ6_init_d00df_9

set_option maxHeartbeats 4000000 in
set_option maxRecDepth 100000 in
theorem c_J6_valueOf_2dffe (l : Launch) (G : mg) (A : Nat → Prop) (Mw : mw) (p0 : Int32) : Met l yJ6_valueOf_2dffe wsJ6_valueOf_2dffe ({ frames := 3, cells := 1, slots := 1, locals := 61 }) (va_Pc [.int p0] (mB G A Mw)) (va_Qq (fun r Mw1 => ∃ q9 : Nat, r = some q9 ∧ ((Mw1 = Mw ∧ G.2.2.1 q9 = some (.inr (0, [.int p0]))) ∨ (Mw q9 = none ∧ Mw1 = mu Mw q9 (.inr (0, [.int p0]))))) (mE G A) A) 1 1 A := by
  refine Met.ofW (cc := cJ6_valueOf_2dffe) (maxL := 1) (ret := (some (.object "java/lang/Integer"))) (by decide) rfl ?_
  intro p e s m args below meth c s₁ B hml hv
  obtain ⟨rfl, hG, hP, hI, hA⟩ := hv
  have hx := B.exec
  have hb := B.bytes
  have hr := B.returns
  have hts := atoms_spec (ws := wsJ6_valueOf_2dffe) B.pre
  have hown : s.vm.findClass RJ6 = some m.cls := findClass_of_methodNamed B.named
  have hlocks := B.notSynchronized
  have hK := hG.K
  have i_J6 : ∀ w ∈ wsJ60, w ∈ wsJ6_valueOf_2dffe := by decide +kernel
  have hS : va_S A s.heap s.heap [] := va_S.rf
  have hl := lv_entry ([.int p0]) (n := 1) (Nat.le_of_ble_eq_true rfl)
  rw [lg_entry_eq]
  generalize (lg_sl ([.int p0]) ++ List.replicate (1 - (lg_sl ([.int p0])).length) Slot.unset).toArray = ls at hl ⊢
  have hl : lv_has ls 1 [(0, .int p0)] := hl
  have hP : mP G.1 Mw s.heap := hP
  refine lv_iload_n hx hb dJ6_valueOf_2dffe_0 rfl (lv_at hl 0 rfl) ?_
  refine lv_bipush (v := (-128)) hx hb dJ6_valueOf_2dffe_1 (by decide) ?_
  refine lv_icmp_lt (tgt := 23) hx hb dJ6_valueOf_2dffe_3 (by decide) (fun c1 => ?_) (fun c1 => ?_)
  · skip
    refine m_new (ci := 0) (fs := [.int 0]) (C := RJ6) (T := TJ6) (N := 1) hx hb hts i_J6 tyJ6 tyJ6_ok hown (hts (.classLink RJ6 1 RJ6) (by decide +kernel)) (hts (.instantiable RJ6 1) (by decide +kernel)) (hts (.initialized RJ6) (by decide +kernel)) hK hP hI hS hA rfl (fun j hj => by rcases (show j = 0 by omega) with rfl <;> rfl) (Nat.le_of_ble_eq_true rfl) (Nat.le_of_ble_eq_true rfl) dJ6_valueOf_2dffe_23 (fun q2 H hn_q2 hP hI hS => ?_)
    have h_q2 : (mu Mw q2 (.inr (0, [.int 0]))) q2 = some (.inr (0, [.int 0])) := mu_s
    refine lv_dup hx hb dJ6_valueOf_2dffe_26 rfl ?_
    refine lv_iload_n hx hb dJ6_valueOf_2dffe_27 rfl (lv_at hl 0 rfl) ?_
    refine m_callv (va_runI (As := [.int p0]) (rest := [.ref q2]) ⟨hx, hb, hml, hown, hts⟩ (c_J6_init_d00df l G A (mu Mw q2 (.inr (0, [.int 0])))  p0 h_q2) (cwI 1 hts gJ6_valueOf_2dffe_J6_init_d00df rfl rfl rfl (hts (.initialized RJ6) (by decide +kernel)) (hts (.methodLink RJ6 199 yJ6_init_d00df) (by decide +kernel)) (hts (.instanceMethod yJ6_init_d00df) (by decide +kernel)) rfl (by decide +kernel) ⟨Nat.le_of_ble_eq_true rfl, Nat.le_of_ble_eq_true rfl⟩) (mPreS hG hS hP hI hA) rfl rfl hl.1 rfl (lv_room (Nat.le_of_ble_eq_true rfl)) dJ6_valueOf_2dffe_28 ⟨Nat.le_of_ble_eq_true rfl, Nat.le_of_ble_eq_true rfl⟩) hS (fun Mw1 H locs hp_r3 hP hI hS => ?_)
    subst Mw1
    have h_q2 : (mu (mu Mw q2 (.inr (0, [.int 0]))) q2 (.inr (0, [.int p0]))) q2 = some (.inr (0, [.int p0])) := mu_s
    refine W.widen (k := 1) (n := 1) (Nat.le_of_ble_eq_true rfl) (Nat.le_of_ble_eq_true rfl) ?_
    exact W.aret (v := .ref q2) hx hb hr (Or.inl ⟨_, rfl⟩) (Or.inr ⟨_, rfl⟩) (fun t99 ht99 hW99 => ⟨⟨some q2, (mu (mu Mw q2 (.inr (0, [.int 0]))) q2 (.inr (0, [.int p0]))), rfl, ⟨q2, rfl, Or.inr ⟨hn_q2, mu_uu⟩⟩, by rw [ht99]; exact hP, hI⟩, hS.F ht99⟩) hS.2.2 dJ6_valueOf_2dffe_31
  · skip
    refine lv_iload_n hx hb dJ6_valueOf_2dffe_6 rfl (lv_at hl 0 rfl) ?_
    refine va_gets (C := "java/lang/Integer$IntegerCache") (v := .int 127) hx hb hG.2.2.2.2.1 hS hown (hts (.fieldLink RJ6 191 "java/lang/Integer$IntegerCache" "high" "I") (by decide +kernel)) (fun _ h9 => h9) dJ6_valueOf_2dffe_7 ?_
    refine lv_icmp_gt (tgt := 23) hx hb dJ6_valueOf_2dffe_10 (by decide) (fun c4 => ?_) (fun c4 => ?_)
    · skip
      refine m_new (ci := 0) (fs := [.int 0]) (C := RJ6) (T := TJ6) (N := 1) hx hb hts i_J6 tyJ6 tyJ6_ok hown (hts (.classLink RJ6 1 RJ6) (by decide +kernel)) (hts (.instantiable RJ6 1) (by decide +kernel)) (hts (.initialized RJ6) (by decide +kernel)) hK hP hI hS hA rfl (fun j hj => by rcases (show j = 0 by omega) with rfl <;> rfl) (Nat.le_of_ble_eq_true rfl) (Nat.le_of_ble_eq_true rfl) dJ6_valueOf_2dffe_23 (fun q5 H hn_q5 hP hI hS => ?_)
      have h_q5 : (mu Mw q5 (.inr (0, [.int 0]))) q5 = some (.inr (0, [.int 0])) := mu_s
      refine lv_dup hx hb dJ6_valueOf_2dffe_26 rfl ?_
      refine lv_iload_n hx hb dJ6_valueOf_2dffe_27 rfl (lv_at hl 0 rfl) ?_
      refine m_callv (va_runI (As := [.int p0]) (rest := [.ref q5]) ⟨hx, hb, hml, hown, hts⟩ (c_J6_init_d00df l G A (mu Mw q5 (.inr (0, [.int 0])))  p0 h_q5) (cwI 1 hts gJ6_valueOf_2dffe_J6_init_d00df rfl rfl rfl (hts (.initialized RJ6) (by decide +kernel)) (hts (.methodLink RJ6 199 yJ6_init_d00df) (by decide +kernel)) (hts (.instanceMethod yJ6_init_d00df) (by decide +kernel)) rfl (by decide +kernel) ⟨Nat.le_of_ble_eq_true rfl, Nat.le_of_ble_eq_true rfl⟩) (mPreS hG hS hP hI hA) rfl rfl hl.1 rfl (lv_room (Nat.le_of_ble_eq_true rfl)) dJ6_valueOf_2dffe_28 ⟨Nat.le_of_ble_eq_true rfl, Nat.le_of_ble_eq_true rfl⟩) hS (fun Mw1 H locs hp_r6 hP hI hS => ?_)
      subst Mw1
      have h_q5 : (mu (mu Mw q5 (.inr (0, [.int 0]))) q5 (.inr (0, [.int p0]))) q5 = some (.inr (0, [.int p0])) := mu_s
      refine W.widen (k := 1) (n := 1) (Nat.le_of_ble_eq_true rfl) (Nat.le_of_ble_eq_true rfl) ?_
      exact W.aret (v := .ref q5) hx hb hr (Or.inl ⟨_, rfl⟩) (Or.inr ⟨_, rfl⟩) (fun t99 ht99 hW99 => ⟨⟨some q5, (mu (mu Mw q5 (.inr (0, [.int 0]))) q5 (.inr (0, [.int p0]))), rfl, ⟨q5, rfl, Or.inr ⟨hn_q5, mu_uu⟩⟩, by rw [ht99]; exact hP, hI⟩, hS.F ht99⟩) hS.2.2 dJ6_valueOf_2dffe_31
    · skip
      refine va_gets (C := "java/lang/Integer$IntegerCache") (v := .ref (G.2.2.2 0)) hx hb hG.2.2.2.2.2.1.1 hS hown (hts (.fieldLink RJ6 195 "java/lang/Integer$IntegerCache" "cache" "[Ljava/lang/Integer;") (by decide +kernel)) (fun _ h9 => h9) dJ6_valueOf_2dffe_13 ?_
      refine lv_iload_n hx hb dJ6_valueOf_2dffe_16 rfl (lv_at hl 0 rfl) ?_
      refine lv_sipush (v := (128)) hx hb dJ6_valueOf_2dffe_17 (by decide) ?_
      refine lv_iadd hx hb dJ6_valueOf_2dffe_20 ?_
      obtain ⟨j9, hj9, hx9, hv9⟩ := bx_small c1 c4
      rw [hx9]
      refine vb_tq (v := .ref (G.2.2.2 (j9 + 2))) hx hb hG.2.2.2.2.2.1.2 hS (vp_in_nI (by omega) (by omega)) (by show Value.ref (G.2.2.2 ((nI j9).toNatClampNeg + 2)) = _; rw [nI_clamp (show j9 < 2 ^ 31 by omega)]) dJ6_valueOf_2dffe_21 ?_
      refine W.widen (k := 1) (n := 1) (Nat.le_of_ble_eq_true rfl) (Nat.le_of_ble_eq_true rfl) ?_
      exact W.aret (v := .ref (G.2.2.2 (j9 + 2))) hx hb hr (Or.inl ⟨_, rfl⟩) (Or.inr ⟨_, rfl⟩) (fun t99 ht99 hW99 => ⟨⟨some (G.2.2.2 (j9 + 2)), Mw, rfl, ⟨G.2.2.2 (j9 + 2), rfl, Or.inl ⟨rfl, by rw [hv9]; exact hG.1 j9 hj9⟩⟩, by rw [ht99]; exact hP, hI⟩, hS.F ht99⟩) hS.2.2 dJ6_valueOf_2dffe_22

set_option maxHeartbeats 4000000 in
set_option maxRecDepth 100000 in
theorem c_Jx4a65c_grow_92f84 (l : Launch) (G : mg) (A : Nat → Prop) (Mw : mw) {a0 : Nat} {m0 : Int32} (h_L : Mw a0 = some (.inr (2, [.int m0, .ref (G.2.2.2 1), .int 0]))) : Met l yJx4a65c_grow_92f84 wsJx4a65c_grow_92f84 ({ frames := 1, cells := 1, slots := 10, locals := 21 }) (va_Pc [.ref a0, .int 1] (mB G A Mw)) (va_Qq (fun r Mw1 => ∃ q9 : Nat, r = some q9 ∧ Mw q9 = none ∧ Mw1 = mu (mu Mw q9 (.inl (G.2.1 5, 10, .inr (.inr (.inr (.inr (fun _ => none))))))) a0 (.inr (2, [.int m0, .ref q9, .int 0]))) (mE G A) A) 1 10 A := by
  refine Met.ofW (cc := cJx4a65c_grow_92f84) (maxL := 4) (ret := (some (.array (.object "java/lang/Object")))) (by decide) rfl ?_
  intro p e s m args below meth c s₁ B hml hv
  obtain ⟨rfl, hG, hP, hI, hA⟩ := hv
  have hx := B.exec
  have hb := B.bytes
  have hr := B.returns
  have hts := atoms_spec (ws := wsJx4a65c_grow_92f84) B.pre
  have hown : s.vm.findClass RJx4a65c = some m.cls := findClass_of_methodNamed B.named
  have hlocks := B.notSynchronized
  have hK := hG.K
  have i_Jx4a65c : ∀ w ∈ wsJx4a65c0, w ∈ wsJx4a65c_grow_92f84 := by decide +kernel
  have hS : va_S A s.heap s.heap [] := va_S.rf
  have hl := lv_entry ([.ref a0, .int 1]) (n := 4) (Nat.le_of_ble_eq_true rfl)
  rw [lg_entry_eq]
  generalize (lg_sl ([.ref a0, .int 1]) ++ List.replicate (4 - (lg_sl ([.ref a0, .int 1])).length) Slot.unset).toArray = ls at hl ⊢
  have hl : lv_has ls 4 [(0, .ref a0), (1, .int 1)] := hl
  have hP : mP G.1 Mw s.heap := hP
  refine lv_aload_n hx hb dJx4a65c_grow_92f84_0 rfl (lv_at hl 0 rfl) ?_
  refine m_get (ci := 2) (v := .ref (G.2.2.2 1)) (C := RJx4a65c) (T := TJx4a65c) (N := 3) hx hb hts i_Jx4a65c hown hK (hP _ _ h_L) rfl 1 (by decide) (hts (.fieldLink RJx4a65c 9 "java/util/ArrayList" "elementData" "[Ljava/lang/Object;") (by decide +kernel)) (fun _ h9 => h9) rfl dJx4a65c_grow_92f84_1 ?_
  refine va_tlen (v := 0) hx hb hG.2.2.2.2.2.2.1.2 hS rfl dJx4a65c_grow_92f84_4 ?_
  refine lv_istore_n (lv' := [(2, .int 0), (0, .ref a0), (1, .int 1)]) hx hb dJx4a65c_grow_92f84_5 rfl hl (by decide) rfl (fun ls hl => ?_)
  refine lv_iload_n hx hb dJx4a65c_grow_92f84_6 rfl (lv_at hl 0 rfl) ?_
  refine lv_if_gt (tgt := 20) hx hb dJx4a65c_grow_92f84_7 (by decide) (fun h9 => absurd h9 (by decide)) (fun _ => ?_)
  refine lv_aload_n hx hb dJx4a65c_grow_92f84_10 rfl (lv_at hl 1 rfl) ?_
  refine m_get (ci := 2) (v := .ref (G.2.2.2 1)) (C := RJx4a65c) (T := TJx4a65c) (N := 3) hx hb hts i_Jx4a65c hown hK (hP _ _ h_L) rfl 1 (by decide) (hts (.fieldLink RJx4a65c 9 "java/util/ArrayList" "elementData" "[Ljava/lang/Object;") (by decide +kernel)) (fun _ h9 => h9) rfl dJx4a65c_grow_92f84_11 ?_
  refine va_gets (C := "java/util/ArrayList") (v := .ref (G.2.2.2 1)) hx hb hG.2.2.2.2.2.2.1.1 hS hown (hts (.fieldLink RJx4a65c 39 "java/util/ArrayList" "DEFAULTCAPACITY_EMPTY_ELEMENTDATA" "[Ljava/lang/Object;") (by decide +kernel)) (fun _ h9 => h9) dJx4a65c_grow_92f84_14 ?_
  refine lv_acmp_eq (rx := (some (G.2.2.2 1))) (ry := (some (G.2.2.2 1))) (tgt := 45) hx hb dJx4a65c_grow_92f84_17 (by decide) (fun _ => ?_) (fun h9 => absurd rfl h9)
  refine lv_aload_n hx hb dJx4a65c_grow_92f84_45 rfl (lv_at hl 1 rfl) ?_
  refine lv_bipush (v := (10)) hx hb dJx4a65c_grow_92f84_46 (by decide) ?_
  refine lv_iload_n hx hb dJx4a65c_grow_92f84_48 rfl (lv_at hl 2 rfl) ?_
  refine va_mmax hx hb (hml.trans hl.1.symm) hown (hts (.methodLink RJx4a65c 79 Lib.Math.max.name) (by decide +kernel)) (hts (.static Lib.Math.max.name) (by decide +kernel)) (hts (.initialized "java/lang/Math") (by decide +kernel)) (hts (.code Lib.Math.max.name Lib.Math.max.code 2 (some .int)) (by decide +kernel)) (Nat.le_of_ble_eq_true rfl) (Nat.le_of_ble_eq_true rfl) (Nat.le_of_ble_eq_true rfl) (Nat.le_of_ble_eq_true rfl) dJx4a65c_grow_92f84_49 ?_
  rw [show (if (10 : Int32) < 1 then (1 : Int32) else 10) = 10 from rfl]
  refine m_newq (C := "java/lang/Object") (N' := 10) hx hb hown (hts (.classLink RJx4a65c 7 "java/lang/Object") (by decide +kernel)) hG.2.1.2.2.2.2.2.2.1 hK hP hI hS hA 5 rfl (by decide) (by decide) (by decide) (Nat.le_of_ble_eq_true rfl) (Nat.le_of_ble_eq_true rfl) dJx4a65c_grow_92f84_52 (fun q2 H hn_q2 hP hI hS => ?_)
  have h_L := mu_x (e := .inl (G.2.1 5, 10, .inr (.inr (.inr (.inr (fun _ => none)))))) h_L hn_q2
  have h_q2 : (mu Mw q2 (.inl (G.2.1 5, 10, .inr (.inr (.inr (.inr (fun _ => none))))))) q2 = some (.inl (G.2.1 5, 10, .inr (.inr (.inr (.inr (fun _ => none)))))) := mu_s
  refine lv_dup_x1 hx hb dJx4a65c_grow_92f84_55 rfl rfl ?_
  refine m_put (ci := 2) (v := .ref q2) (ty := .array (.object "java/lang/Object")) (C := RJx4a65c) (T := TJx4a65c) (N := 3) hx hb hts i_Jx4a65c tyJx4a65c tyJx4a65c_ok nmJx4a65c hown hK hP hI hS h_L rfl 1 (by decide) (hts (.fieldLink RJx4a65c 9 "java/util/ArrayList" "elementData" "[Ljava/lang/Object;") (by decide +kernel)) (fun _ h9 => h9) rfl (by decide +kernel) rfl rfl (Nat.le_of_ble_eq_true rfl) dJx4a65c_grow_92f84_56 (fun H locs hP hI hS => ?_)
  have hP : mP G.1 (mu (mu Mw q2 (.inl (G.2.1 5, 10, .inr (.inr (.inr (.inr (fun _ => none))))))) a0 (.inr (2, [.int m0, .ref q2, .int 0]))) H := hP
  have hI : mI A (mu (mu Mw q2 (.inl (G.2.1 5, 10, .inr (.inr (.inr (.inr (fun _ => none))))))) a0 (.inr (2, [.int m0, .ref q2, .int 0]))) := hI
  have h_q2 := mu_k (e := .inr (2, [.int m0, .ref q2, .int 0])) (kd_ne h_q2 h_L rfl) h_q2
  have h_L : (mu (mu Mw q2 (.inl (G.2.1 5, 10, .inr (.inr (.inr (.inr (fun _ => none))))))) a0 (.inr (2, [.int m0, .ref q2, .int 0]))) a0 = some (.inr (2, [.int m0, .ref q2, .int 0])) := mu_s
  refine W.widen (k := 1) (n := 10) (Nat.le_of_ble_eq_true rfl) (Nat.le_of_ble_eq_true rfl) ?_
  exact W.aret (v := .ref q2) hx hb hr (Or.inr ⟨_, rfl⟩) (Or.inr ⟨_, rfl⟩) (fun t99 ht99 hW99 => ⟨⟨some q2, (mu (mu Mw q2 (.inl (G.2.1 5, 10, .inr (.inr (.inr (.inr (fun _ => none))))))) a0 (.inr (2, [.int m0, .ref q2, .int 0]))), rfl, ⟨q2, rfl, hn_q2, rfl⟩, by rw [ht99]; exact hP, hI⟩, hS.F ht99⟩) hS.2.2 dJx4a65c_grow_92f84_59

set_option maxHeartbeats 4000000 in
set_option maxRecDepth 100000 in
theorem c_Jx4a65c_grow_d5877 (l : Launch) (G : mg) (A : Nat → Prop) (Mw : mw) {a0 : Nat} {m0 : Int32} (h_L : Mw a0 = some (.inr (2, [.int m0, .ref (G.2.2.2 1), .int 0]))) : Met l yJx4a65c_grow_d5877 wsJx4a65c_grow_d5877 ({ frames := 2, cells := 1, slots := 10, locals := 44 }) (va_Pc [.ref a0] (mB G A Mw)) (va_Qq (fun r Mw1 => ∃ q9 : Nat, r = some q9 ∧ Mw q9 = none ∧ Mw1 = mu (mu Mw q9 (.inl (G.2.1 5, 10, .inr (.inr (.inr (.inr (fun _ => none))))))) a0 (.inr (2, [.int m0, .ref q9, .int 0]))) (mE G A) A) 1 10 A := by
  refine Met.ofW (cc := cJx4a65c_grow_d5877) (maxL := 1) (ret := (some (.array (.object "java/lang/Object")))) (by decide) rfl ?_
  intro p e s m args below meth c s₁ B hml hv
  obtain ⟨rfl, hG, hP, hI, hA⟩ := hv
  have hx := B.exec
  have hb := B.bytes
  have hr := B.returns
  have hts := atoms_spec (ws := wsJx4a65c_grow_d5877) B.pre
  have hown : s.vm.findClass RJx4a65c = some m.cls := findClass_of_methodNamed B.named
  have hlocks := B.notSynchronized
  have hK := hG.K
  have i_Jx4a65c : ∀ w ∈ wsJx4a65c0, w ∈ wsJx4a65c_grow_d5877 := by decide +kernel
  have hS : va_S A s.heap s.heap [] := va_S.rf
  have hl := lv_entry ([.ref a0]) (n := 1) (Nat.le_of_ble_eq_true rfl)
  rw [lg_entry_eq]
  generalize (lg_sl ([.ref a0]) ++ List.replicate (1 - (lg_sl ([.ref a0])).length) Slot.unset).toArray = ls at hl ⊢
  have hl : lv_has ls 1 [(0, .ref a0)] := hl
  have hP : mP G.1 Mw s.heap := hP
  refine lv_aload_n hx hb dJx4a65c_grow_d5877_0 rfl (lv_at hl 0 rfl) ?_
  refine lv_aload_n hx hb dJx4a65c_grow_d5877_1 rfl (lv_at hl 0 rfl) ?_
  refine m_get (ci := 2) (v := .int 0) (C := RJx4a65c) (T := TJx4a65c) (N := 3) hx hb hts i_Jx4a65c hown hK (hP _ _ h_L) rfl 2 (by decide) (hts (.fieldLink RJx4a65c 48 "java/util/ArrayList" "size" "I") (by decide +kernel)) (fun _ h9 => h9) rfl dJx4a65c_grow_d5877_2 ?_
  refine lv_iconst (v := 1) hx hb dJx4a65c_grow_d5877_5 (by decide) ?_
  refine lv_iadd hx hb dJx4a65c_grow_d5877_6 ?_
  refine m_callq (va_runV (As := [.int (0 + 1)]) (rest := []) ⟨hx, hb, hml, hown, hts⟩ (c_Jx4a65c_grow_92f84 l G A Mw  h_L) (cwV 1 hts gJx4a65c_grow_d5877_Jx4a65c_grow_92f84 rfl rfl rfl (by decide +kernel) ⟨Nat.le_of_ble_eq_true rfl, Nat.le_of_ble_eq_true rfl⟩) (mPreV hG hS hP hI hA (hP _ _ h_L) (r := (RJx4a65c, TJx4a65c, 3)) rfl) rfl rfl hl.1 rfl (lv_room (Nat.le_of_ble_eq_true rfl)) dJx4a65c_grow_d5877_7 ⟨Nat.le_of_ble_eq_true rfl, Nat.le_of_ble_eq_true rfl⟩) hS (fun r1 Mw1 H locs hp_r1 hP hI hS => ?_)
  obtain ⟨qr1, hp_r1, hn_qr1, hm9⟩ := hp_r1
  subst Mw1
  subst hp_r1
  have h_L := mu_k (e := .inl (G.2.1 5, 10, .inr (.inr (.inr (.inr (fun _ => none)))))) (ne_none h_L hn_qr1) h_L
  have h_Q : (mu Mw qr1 (.inl (G.2.1 5, 10, .inr (.inr (.inr (.inr (fun _ => none))))))) qr1 = some (.inl (G.2.1 5, 10, .inr (.inr (.inr (.inr (fun _ => none)))))) := mu_s
  have h_Q := mu_k (e := .inr (2, [.int m0, .ref qr1, .int 0])) (kd_ne h_Q h_L rfl) h_Q
  have h_L : (mu (mu Mw qr1 (.inl (G.2.1 5, 10, .inr (.inr (.inr (.inr (fun _ => none))))))) a0 (.inr (2, [.int m0, .ref qr1, .int 0]))) a0 = some (.inr (2, [.int m0, .ref qr1, .int 0])) := mu_s
  refine W.widen (k := 1) (n := 10) (Nat.le_of_ble_eq_true rfl) (Nat.le_of_ble_eq_true rfl) ?_
  exact W.aret (v := .ref qr1) hx hb hr (Or.inr ⟨_, rfl⟩) (Or.inr ⟨_, rfl⟩) (fun t99 ht99 hW99 => ⟨⟨some qr1, (mu (mu Mw qr1 (.inl (G.2.1 5, 10, .inr (.inr (.inr (.inr (fun _ => none))))))) a0 (.inr (2, [.int m0, .ref qr1, .int 0]))), rfl, ⟨qr1, rfl, hn_qr1, rfl⟩, by rw [ht99]; exact hP, hI⟩, hS.F ht99⟩) hS.2.2 dJx4a65c_grow_d5877_10

set_option maxHeartbeats 4000000 in
set_option maxRecDepth 100000 in
theorem c_Jx4a65c_add3E (l : Launch) (G : mg) (A : Nat → Prop) (Mw : mw) {a0 : Nat} {m0 : Int32} (h_L : Mw a0 = some (.inr (2, [.int m0, .ref (G.2.2.2 1), .int 0]))) {cv v0 : Nat} {fv : List Value} (rv : vw_C) (hcv : vwCl[cv]? = some rv) (hcc : (rv.1, "java/lang/Object") ∈ gcast) (h_v : Mw v0 = some (.inr (cv, fv)) ∨ G.2.2.1 v0 = some (.inr (cv, fv))) (hva : v0 ≠ a0) : Met l yJx4a65c_add_72be8 wsJx4a65c_add_72be8 ({ frames := 3, cells := 1, slots := 10, locals := 64 }) (va_Pc [.ref a0, .ref v0, .ref (G.2.2.2 1), .int 0] (mB G A Mw)) (va_Qv (fun Mw1 => ∃ q9 : Nat, Mw q9 = none ∧ Mw1 = mu (mu Mw q9 (.inl (G.2.1 5, 10, .inr (.inr (.inr (.inr (va_up (fun _ => none) 0 (some v0)))))))) a0 (.inr (2, [.int m0, .ref q9, .int (0 + 1)]))) (mE G A) A) 1 10 A := by
  refine Met.ofW (cc := cJx4a65c_add_72be8) (maxL := 4) (ret := none) (by decide) rfl ?_
  intro p e s m args below meth c s₁ B hml hv
  obtain ⟨rfl, hG, hP, hI, hA⟩ := hv
  have hx := B.exec
  have hb := B.bytes
  have hr := B.returns
  have hts := atoms_spec (ws := wsJx4a65c_add_72be8) B.pre
  have hown : s.vm.findClass RJx4a65c = some m.cls := findClass_of_methodNamed B.named
  have hlocks := B.notSynchronized
  have hK := hG.K
  have i_Jx4a65c : ∀ w ∈ wsJx4a65c0, w ∈ wsJx4a65c_add_72be8 := by decide +kernel
  have hS : va_S A s.heap s.heap [] := va_S.rf
  have hl := lv_entry ([.ref a0, .ref v0, .ref (G.2.2.2 1), .int 0]) (n := 4) (Nat.le_of_ble_eq_true rfl)
  rw [lg_entry_eq]
  generalize (lg_sl ([.ref a0, .ref v0, .ref (G.2.2.2 1), .int 0]) ++ List.replicate (4 - (lg_sl ([.ref a0, .ref v0, .ref (G.2.2.2 1), .int 0])).length) Slot.unset).toArray = ls at hl ⊢
  have hl : lv_has ls 4 [(0, .ref a0), (1, .ref v0), (2, .ref (G.2.2.2 1)), (3, .int 0)] := hl
  have hP : mP G.1 Mw s.heap := hP
  refine lv_iload_n hx hb dJx4a65c_add_72be8_0 rfl (lv_at hl 3 rfl) ?_
  refine lv_aload_n hx hb dJx4a65c_add_72be8_1 rfl (lv_at hl 2 rfl) ?_
  refine va_tlen (v := 0) hx hb hG.2.2.2.2.2.2.1.2 hS rfl dJx4a65c_add_72be8_2 ?_
  refine lv_icmp_ne (tgt := 11) hx hb dJx4a65c_add_72be8_3 (by decide) (fun h9 => absurd h9 (by decide)) (fun _ => ?_)
  refine lv_aload_n hx hb dJx4a65c_add_72be8_6 rfl (lv_at hl 0 rfl) ?_
  refine m_callq (va_runV (As := []) (rest := []) ⟨hx, hb, hml, hown, hts⟩ (c_Jx4a65c_grow_d5877 l G A Mw  h_L) (cwV 0 hts gJx4a65c_add_72be8_Jx4a65c_grow_d5877 rfl rfl rfl (by decide +kernel) ⟨Nat.le_of_ble_eq_true rfl, Nat.le_of_ble_eq_true rfl⟩) (mPreV hG hS hP hI hA (hP _ _ h_L) (r := (RJx4a65c, TJx4a65c, 3)) rfl) rfl rfl hl.1 rfl (lv_room (Nat.le_of_ble_eq_true rfl)) dJx4a65c_add_72be8_7 ⟨Nat.le_of_ble_eq_true rfl, Nat.le_of_ble_eq_true rfl⟩) hS (fun r1 Mw1 H locs hp_r1 hP hI hS => ?_)
  obtain ⟨qr1, hp_r1, hn_qr1, hm9⟩ := hp_r1
  subst Mw1
  subst hp_r1
  have h_v9 := h_v
  have h_L := mu_k (e := .inl (G.2.1 5, 10, .inr (.inr (.inr (.inr (fun _ => none)))))) (ne_none h_L hn_qr1) h_L
  have h_v := or_x (x := .inl (G.2.1 5, 10, .inr (.inr (.inr (.inr (fun _ => none)))))) h_v hn_qr1
  have h_Q : (mu Mw qr1 (.inl (G.2.1 5, 10, .inr (.inr (.inr (.inr (fun _ => none))))))) qr1 = some (.inl (G.2.1 5, 10, .inr (.inr (.inr (.inr (fun _ => none)))))) := mu_s
  have h_v := or_mu (x := .inr (2, [.int m0, .ref qr1, .int 0])) h_v hva
  have h_Q := mu_k (e := .inr (2, [.int m0, .ref qr1, .int 0])) (kd_ne h_Q h_L rfl) h_Q
  have h_L : (mu (mu Mw qr1 (.inl (G.2.1 5, 10, .inr (.inr (.inr (.inr (fun _ => none))))))) a0 (.inr (2, [.int m0, .ref qr1, .int 0]))) a0 = some (.inr (2, [.int m0, .ref qr1, .int 0])) := mu_s
  have hvq := or_ne hG.2.2.2.2.2.2.2 h_v9 hn_qr1 (hI _ _ h_Q)
  refine lv_astore_n (lv' := [(2, .ref qr1), (0, .ref a0), (1, .ref v0), (3, .int 0)]) hx hb dJx4a65c_add_72be8_10 rfl hl (by decide) rfl (fun ls hl => ?_)
  refine lv_aload_n hx hb dJx4a65c_add_72be8_11 rfl (lv_at hl 0 rfl) ?_
  refine lv_iload_n hx hb dJx4a65c_add_72be8_12 rfl (lv_at hl 3 rfl) ?_
  refine lv_aload_n hx hb dJx4a65c_add_72be8_13 rfl (lv_at hl 2 rfl) ?_
  refine m_astqM hx hb hK hP hI hS 5 (E := "java/lang/Object") h_Q rfl (m_any (or_recv hG hS hP h_v hcv) (hG.2.1.2.2.2.1 _ hcc)) (show vp_in 0 10 by unfold vp_in; decide) dJx4a65c_add_72be8_14 (fun H locs hP hI hS => ?_)
  have h_v := or_mu (x := .inl (G.2.1 5, 10, .inr (.inr (.inr (.inr (va_up (fun _ => none) ((0 : Int32).toNatClampNeg) (some v0))))))) h_v hvq
  have h_L := mu_k (e := .inl (G.2.1 5, 10, .inr (.inr (.inr (.inr (va_up (fun _ => none) ((0 : Int32).toNatClampNeg) (some v0))))))) (kd_ne h_L h_Q rfl) h_L
  have h_Q : (mu (mu (mu Mw qr1 (.inl (G.2.1 5, 10, .inr (.inr (.inr (.inr (fun _ => none))))))) a0 (.inr (2, [.int m0, .ref qr1, .int 0]))) qr1 (.inl (G.2.1 5, 10, .inr (.inr (.inr (.inr (va_up (fun _ => none) ((0 : Int32).toNatClampNeg) (some v0)))))))) qr1 = some (.inl (G.2.1 5, 10, .inr (.inr (.inr (.inr (va_up (fun _ => none) ((0 : Int32).toNatClampNeg) (some v0))))))) := mu_s
  refine lv_aload_n hx hb dJx4a65c_add_72be8_15 rfl (lv_at hl 1 rfl) ?_
  refine lv_iload_n hx hb dJx4a65c_add_72be8_16 rfl (lv_at hl 3 rfl) ?_
  refine lv_iconst (v := 1) hx hb dJx4a65c_add_72be8_17 (by decide) ?_
  refine lv_iadd hx hb dJx4a65c_add_72be8_18 ?_
  refine m_put (ci := 2) (v := .int (0 + 1)) (ty := .int) (C := RJx4a65c) (T := TJx4a65c) (N := 3) hx hb hts i_Jx4a65c tyJx4a65c tyJx4a65c_ok nmJx4a65c hown hK hP hI hS h_L rfl 2 (by decide) (hts (.fieldLink RJx4a65c 48 "java/util/ArrayList" "size" "I") (by decide +kernel)) (fun _ h9 => h9) rfl (by decide +kernel) rfl rfl (Nat.le_of_ble_eq_true rfl) dJx4a65c_add_72be8_19 (fun H locs hP hI hS => ?_)
  have hP : mP G.1 (mu (mu (mu (mu Mw qr1 (.inl (G.2.1 5, 10, .inr (.inr (.inr (.inr (fun _ => none))))))) a0 (.inr (2, [.int m0, .ref qr1, .int 0]))) qr1 (.inl (G.2.1 5, 10, .inr (.inr (.inr (.inr (va_up (fun _ => none) ((0 : Int32).toNatClampNeg) (some v0)))))))) a0 (.inr (2, [.int m0, .ref qr1, .int (0 + 1)]))) H := hP
  have hI : mI A (mu (mu (mu (mu Mw qr1 (.inl (G.2.1 5, 10, .inr (.inr (.inr (.inr (fun _ => none))))))) a0 (.inr (2, [.int m0, .ref qr1, .int 0]))) qr1 (.inl (G.2.1 5, 10, .inr (.inr (.inr (.inr (va_up (fun _ => none) ((0 : Int32).toNatClampNeg) (some v0)))))))) a0 (.inr (2, [.int m0, .ref qr1, .int (0 + 1)]))) := hI
  have h_v := or_mu (x := .inr (2, [.int m0, .ref qr1, .int (0 + 1)])) h_v hva
  have h_Q := mu_k (e := .inr (2, [.int m0, .ref qr1, .int (0 + 1)])) (kd_ne h_Q h_L rfl) h_Q
  have h_L : (mu (mu (mu (mu Mw qr1 (.inl (G.2.1 5, 10, .inr (.inr (.inr (.inr (fun _ => none))))))) a0 (.inr (2, [.int m0, .ref qr1, .int 0]))) qr1 (.inl (G.2.1 5, 10, .inr (.inr (.inr (.inr (va_up (fun _ => none) ((0 : Int32).toNatClampNeg) (some v0)))))))) a0 (.inr (2, [.int m0, .ref qr1, .int (0 + 1)]))) a0 = some (.inr (2, [.int m0, .ref qr1, .int (0 + 1)])) := mu_s
  refine W.widen (k := 1) (n := 10) (Nat.le_of_ble_eq_true rfl) (Nat.le_of_ble_eq_true rfl) ?_
  exact W.vret hx hb hr (fun t99 ht99 hW99 => ⟨⟨(mu (mu (mu (mu Mw qr1 (.inl (G.2.1 5, 10, .inr (.inr (.inr (.inr (fun _ => none))))))) a0 (.inr (2, [.int m0, .ref qr1, .int 0]))) qr1 (.inl (G.2.1 5, 10, .inr (.inr (.inr (.inr (va_up (fun _ => none) ((0 : Int32).toNatClampNeg) (some v0)))))))) a0 (.inr (2, [.int m0, .ref qr1, .int (0 + 1)]))), rfl, ⟨qr1, hn_qr1, mw_ext2 h_Q h_L (fun z h1 h2 => (mu_n h2).trans ((mu_n h1).trans ((mu_n h2).trans ((mu_n h1).trans (rfl)))))⟩, by rw [ht99]; exact hP, hI⟩, hS.F ht99⟩) hS.2.2 dJx4a65c_add_72be8_22

set_option maxHeartbeats 4000000 in
set_option maxRecDepth 100000 in
theorem c_Jx4a65c_add2E (l : Launch) (G : mg) (A : Nat → Prop) (Mw : mw) {a0 : Nat} {m0 : Int32} (h_L : Mw a0 = some (.inr (2, [.int m0, .ref (G.2.2.2 1), .int 0]))) {cv v0 : Nat} {fv : List Value} (rv : vw_C) (hcv : vwCl[cv]? = some rv) (hcc : (rv.1, "java/lang/Object") ∈ gcast) (h_v : Mw v0 = some (.inr (cv, fv)) ∨ G.2.2.1 v0 = some (.inr (cv, fv))) (hva : v0 ≠ a0) : Met l yJx4a65c_add_9ea2d wsJx4a65c_add_9ea2d ({ frames := 4, cells := 1, slots := 10, locals := 87 }) (va_Pc [.ref a0, .ref v0] (mB G A Mw)) (va_Qi (fun r Mw1 => r = 1 ∧ ∃ q9 : Nat, Mw q9 = none ∧ Mw1 = mu (mu Mw q9 (.inl (G.2.1 5, 10, .inr (.inr (.inr (.inr (va_up (fun _ => none) 0 (some v0)))))))) a0 (.inr (2, [.int (m0 + 1), .ref q9, .int (0 + 1)]))) (mE G A) A) 1 10 A := by
  refine Met.ofW (cc := cJx4a65c_add_9ea2d) (maxL := 2) (ret := (some .boolean)) (by decide) rfl ?_
  intro p e s m args below meth c s₁ B hml hv
  obtain ⟨rfl, hG, hP, hI, hA⟩ := hv
  have hx := B.exec
  have hb := B.bytes
  have hr := B.returns
  have hts := atoms_spec (ws := wsJx4a65c_add_9ea2d) B.pre
  have hown : s.vm.findClass RJx4a65c = some m.cls := findClass_of_methodNamed B.named
  have hlocks := B.notSynchronized
  have hK := hG.K
  have i_Jx4a65c : ∀ w ∈ wsJx4a65c0, w ∈ wsJx4a65c_add_9ea2d := by decide +kernel
  have hS : va_S A s.heap s.heap [] := va_S.rf
  have hl := lv_entry ([.ref a0, .ref v0]) (n := 2) (Nat.le_of_ble_eq_true rfl)
  rw [lg_entry_eq]
  generalize (lg_sl ([.ref a0, .ref v0]) ++ List.replicate (2 - (lg_sl ([.ref a0, .ref v0])).length) Slot.unset).toArray = ls at hl ⊢
  have hl : lv_has ls 2 [(0, .ref a0), (1, .ref v0)] := hl
  have hP : mP G.1 Mw s.heap := hP
  refine lv_aload_n hx hb dJx4a65c_add_9ea2d_0 rfl (lv_at hl 0 rfl) ?_
  refine lv_dup hx hb dJx4a65c_add_9ea2d_1 rfl ?_
  refine m_get (ci := 2) (v := .int m0) (C := RJx4a65c) (T := TJx4a65c) (N := 3) hx hb hts i_Jx4a65c hown hK (hP _ _ h_L) rfl 0 (by decide) (hts (.fieldLink RJx4a65c 63 "java/util/ArrayList" "modCount" "I") (by decide +kernel)) (fun x9 h9 => u_same (hts (.sameField "java/util/ArrayList" "java/util/AbstractList" "modCount" "I") (by decide +kernel)) x9 h9) rfl dJx4a65c_add_9ea2d_2 ?_
  refine lv_iconst (v := 1) hx hb dJx4a65c_add_9ea2d_5 (by decide) ?_
  refine lv_iadd hx hb dJx4a65c_add_9ea2d_6 ?_
  refine m_put (ci := 2) (v := .int (m0 + 1)) (ty := .int) (C := RJx4a65c) (T := TJx4a65c) (N := 3) hx hb hts i_Jx4a65c tyJx4a65c tyJx4a65c_ok nmJx4a65c hown hK hP hI hS h_L rfl 0 (by decide) (hts (.fieldLink RJx4a65c 63 "java/util/ArrayList" "modCount" "I") (by decide +kernel)) (fun x9 h9 => u_same (hts (.sameField "java/util/ArrayList" "java/util/AbstractList" "modCount" "I") (by decide +kernel)) x9 h9) rfl (by decide +kernel) rfl rfl (Nat.le_of_ble_eq_true rfl) dJx4a65c_add_9ea2d_7 (fun H locs hP hI hS => ?_)
  have hP : mP G.1 (mu Mw a0 (.inr (2, [.int (m0 + 1), .ref (G.2.2.2 1), .int 0]))) H := hP
  have hI : mI A (mu Mw a0 (.inr (2, [.int (m0 + 1), .ref (G.2.2.2 1), .int 0]))) := hI
  have h_v := or_mu (x := .inr (2, [.int (m0 + 1), .ref (G.2.2.2 1), .int 0])) h_v hva
  have h_L : (mu Mw a0 (.inr (2, [.int (m0 + 1), .ref (G.2.2.2 1), .int 0]))) a0 = some (.inr (2, [.int (m0 + 1), .ref (G.2.2.2 1), .int 0])) := mu_s
  refine lv_aload_n hx hb dJx4a65c_add_9ea2d_10 rfl (lv_at hl 0 rfl) ?_
  refine lv_aload_n hx hb dJx4a65c_add_9ea2d_11 rfl (lv_at hl 1 rfl) ?_
  refine lv_aload_n hx hb dJx4a65c_add_9ea2d_12 rfl (lv_at hl 0 rfl) ?_
  refine m_get (ci := 2) (v := .ref (G.2.2.2 1)) (C := RJx4a65c) (T := TJx4a65c) (N := 3) hx hb hts i_Jx4a65c hown hK (hP _ _ h_L) rfl 1 (by decide) (hts (.fieldLink RJx4a65c 9 "java/util/ArrayList" "elementData" "[Ljava/lang/Object;") (by decide +kernel)) (fun _ h9 => h9) rfl dJx4a65c_add_9ea2d_13 ?_
  refine lv_aload_n hx hb dJx4a65c_add_9ea2d_16 rfl (lv_at hl 0 rfl) ?_
  refine m_get (ci := 2) (v := .int 0) (C := RJx4a65c) (T := TJx4a65c) (N := 3) hx hb hts i_Jx4a65c hown hK (hP _ _ h_L) rfl 2 (by decide) (hts (.fieldLink RJx4a65c 48 "java/util/ArrayList" "size" "I") (by decide +kernel)) (fun _ h9 => h9) rfl dJx4a65c_add_9ea2d_17 ?_
  refine m_callv (va_runV (As := [.ref v0, .ref (G.2.2.2 1), .int 0]) (rest := []) ⟨hx, hb, hml, hown, hts⟩ (c_Jx4a65c_add3E l G A (mu Mw a0 (.inr (2, [.int (m0 + 1), .ref (G.2.2.2 1), .int 0])))  h_L rv hcv hcc h_v hva) (cwV 3 hts gJx4a65c_add_9ea2d_Jx4a65c_add_72be8 rfl rfl rfl (by decide +kernel) ⟨Nat.le_of_ble_eq_true rfl, Nat.le_of_ble_eq_true rfl⟩) (mPreV hG hS hP hI hA (hP _ _ h_L) (r := (RJx4a65c, TJx4a65c, 3)) rfl) rfl rfl hl.1 rfl (lv_room (Nat.le_of_ble_eq_true rfl)) dJx4a65c_add_9ea2d_20 ⟨Nat.le_of_ble_eq_true rfl, Nat.le_of_ble_eq_true rfl⟩) hS (fun Mw1 H locs hp_r1 hP hI hS => ?_)
  obtain ⟨qa2, hn_qa2, hm9⟩ := hp_r1
  subst Mw1
  have h_v9 := h_v
  have h_L := mu_k (e := .inl (G.2.1 5, 10, .inr (.inr (.inr (.inr (va_up (fun _ => none) 0 (some v0))))))) (ne_none h_L hn_qa2) h_L
  have h_v := or_x (x := .inl (G.2.1 5, 10, .inr (.inr (.inr (.inr (va_up (fun _ => none) 0 (some v0))))))) h_v hn_qa2
  have h_Q : (mu (mu Mw a0 (.inr (2, [.int (m0 + 1), .ref (G.2.2.2 1), .int 0]))) qa2 (.inl (G.2.1 5, 10, .inr (.inr (.inr (.inr (va_up (fun _ => none) 0 (some v0)))))))) qa2 = some (.inl (G.2.1 5, 10, .inr (.inr (.inr (.inr (va_up (fun _ => none) 0 (some v0))))))) := mu_s
  have h_v := or_mu (x := .inr (2, [.int (m0 + 1), .ref qa2, .int (0 + 1)])) h_v hva
  have h_Q := mu_k (e := .inr (2, [.int (m0 + 1), .ref qa2, .int (0 + 1)])) (kd_ne h_Q h_L rfl) h_Q
  have h_L : (mu (mu (mu Mw a0 (.inr (2, [.int (m0 + 1), .ref (G.2.2.2 1), .int 0]))) qa2 (.inl (G.2.1 5, 10, .inr (.inr (.inr (.inr (va_up (fun _ => none) 0 (some v0)))))))) a0 (.inr (2, [.int (m0 + 1), .ref qa2, .int (0 + 1)]))) a0 = some (.inr (2, [.int (m0 + 1), .ref qa2, .int (0 + 1)])) := mu_s
  refine lv_iconst (v := 1) hx hb dJx4a65c_add_9ea2d_23 (by decide) ?_
  refine W.widen (k := 1) (n := 10) (Nat.le_of_ble_eq_true rfl) (Nat.le_of_ble_eq_true rfl) ?_
  exact W.zret (v := 1) hx hb hr rfl (fun t99 ht99 hW99 => ⟨⟨1, (mu (mu (mu Mw a0 (.inr (2, [.int (m0 + 1), .ref (G.2.2.2 1), .int 0]))) qa2 (.inl (G.2.1 5, 10, .inr (.inr (.inr (.inr (va_up (fun _ => none) 0 (some v0)))))))) a0 (.inr (2, [.int (m0 + 1), .ref qa2, .int (0 + 1)]))), rfl, ⟨rfl, qa2, (mu_none hn_qa2).1, mw_ext2 h_Q h_L (fun z h1 h2 => (mu_n h2).trans ((mu_n h1).trans ((mu_n h2).trans (rfl))))⟩, by rw [ht99]; exact hP, hI⟩, hS.F ht99⟩) hS.2.2 dJx4a65c_add_9ea2d_24

set_option maxHeartbeats 4000000 in
set_option maxRecDepth 100000 in
theorem c_Jx4a65c_add3F (l : Launch) (G : mg) (A : Nat → Prop) (Mw : mw) {a0 d0 n0 : Nat} {m0 : Int32} (h_L : Mw a0 = some (.inr (2, [.int m0, .ref d0, .int ((nI n0))]))) {g0 : Nat → Option Nat} (h_D : Mw d0 = some (.inl (G.2.1 5, 10, .inr (.inr (.inr (.inr g0)))))) (hn0 : n0 ≤ 8) {cv v0 : Nat} {fv : List Value} (rv : vw_C) (hcv : vwCl[cv]? = some rv) (hcc : (rv.1, "java/lang/Object") ∈ gcast) (h_v : Mw v0 = some (.inr (cv, fv)) ∨ G.2.2.1 v0 = some (.inr (cv, fv))) (hva : v0 ≠ a0) (hvd : v0 ≠ d0) : Met l yJx4a65c_add_72be8 wsJx4a65c_add_72be8 ({ frames := 0, cells := 0, slots := 0, locals := 0 }) (va_Pc [.ref a0, .ref v0, .ref d0, .int (nI n0)] (mB G A Mw)) (va_Qv (fun Mw1 => Mw1 = mu (mu Mw d0 (.inl (G.2.1 5, 10, .inr (.inr (.inr (.inr (va_up g0 n0 (some v0)))))))) a0 (.inr (2, [.int m0, .ref d0, .int (nI (n0 + 1))]))) (mE G A) A) 0 0 A := by
  refine Met.ofW (cc := cJx4a65c_add_72be8) (maxL := 4) (ret := none) (by decide) rfl ?_
  intro p e s m args below meth c s₁ B hml hv
  obtain ⟨rfl, hG, hP, hI, hA⟩ := hv
  have hx := B.exec
  have hb := B.bytes
  have hr := B.returns
  have hts := atoms_spec (ws := wsJx4a65c_add_72be8) B.pre
  have hown : s.vm.findClass RJx4a65c = some m.cls := findClass_of_methodNamed B.named
  have hlocks := B.notSynchronized
  have hK := hG.K
  have i_Jx4a65c : ∀ w ∈ wsJx4a65c0, w ∈ wsJx4a65c_add_72be8 := by decide +kernel
  have hS : va_S A s.heap s.heap [] := va_S.rf
  have hl := lv_entry ([.ref a0, .ref v0, .ref d0, .int (nI n0)]) (n := 4) (Nat.le_of_ble_eq_true rfl)
  rw [lg_entry_eq]
  generalize (lg_sl ([.ref a0, .ref v0, .ref d0, .int (nI n0)]) ++ List.replicate (4 - (lg_sl ([.ref a0, .ref v0, .ref d0, .int (nI n0)])).length) Slot.unset).toArray = ls at hl ⊢
  have hl : lv_has ls 4 [(0, .ref a0), (1, .ref v0), (2, .ref d0), (3, .int (nI n0))] := hl
  have hP : mP G.1 Mw s.heap := hP
  refine lv_iload_n hx hb dJx4a65c_add_72be8_0 rfl (lv_at hl 3 rfl) ?_
  refine lv_aload_n hx hb dJx4a65c_add_72be8_1 rfl (lv_at hl 2 rfl) ?_
  refine m_alen (v := 10) hx hb hK 5 (hP _ _ h_D) rfl rfl dJx4a65c_add_72be8_2 ?_
  refine lv_icmp_ne (tgt := 11) hx hb dJx4a65c_add_72be8_3 (by decide) (fun c1 => ?_) (fun c1 => absurd c1 (fun q9 => by have h8 := congrArg Int32.toNatClampNeg q9; rw [nI_clamp (show n0 < 2 ^ 31 by omega)] at h8; have h7 : (10 : Int32).toNatClampNeg = 10 := rfl; omega))
  refine lv_aload_n hx hb dJx4a65c_add_72be8_11 rfl (lv_at hl 2 rfl) ?_
  refine lv_iload_n hx hb dJx4a65c_add_72be8_12 rfl (lv_at hl 3 rfl) ?_
  refine lv_aload_n hx hb dJx4a65c_add_72be8_13 rfl (lv_at hl 1 rfl) ?_
  refine m_astqM hx hb hK hP hI hS 5 (E := "java/lang/Object") h_D rfl (m_any (or_recv hG hS hP h_v hcv) (hG.2.1.2.2.2.1 _ hcc)) (vp_in_nI (by omega) (by omega)) dJx4a65c_add_72be8_14 (fun H locs hP hI hS => ?_)
  have h_v := or_mu (x := .inl (G.2.1 5, 10, .inr (.inr (.inr (.inr (va_up g0 ((nI n0).toNatClampNeg) (some v0))))))) h_v hvd
  have h_L := mu_k (e := .inl (G.2.1 5, 10, .inr (.inr (.inr (.inr (va_up g0 ((nI n0).toNatClampNeg) (some v0))))))) (kd_ne h_L h_D rfl) h_L
  have h_D : (mu Mw d0 (.inl (G.2.1 5, 10, .inr (.inr (.inr (.inr (va_up g0 ((nI n0).toNatClampNeg) (some v0)))))))) d0 = some (.inl (G.2.1 5, 10, .inr (.inr (.inr (.inr (va_up g0 ((nI n0).toNatClampNeg) (some v0))))))) := mu_s
  refine lv_aload_n hx hb dJx4a65c_add_72be8_15 rfl (lv_at hl 0 rfl) ?_
  refine lv_iload_n hx hb dJx4a65c_add_72be8_16 rfl (lv_at hl 3 rfl) ?_
  refine lv_iconst (v := 1) hx hb dJx4a65c_add_72be8_17 (by decide) ?_
  refine lv_iadd hx hb dJx4a65c_add_72be8_18 ?_
  refine m_put (ci := 2) (v := .int ((nI n0) + 1)) (ty := .int) (C := RJx4a65c) (T := TJx4a65c) (N := 3) hx hb hts i_Jx4a65c tyJx4a65c tyJx4a65c_ok nmJx4a65c hown hK hP hI hS h_L rfl 2 (by decide) (hts (.fieldLink RJx4a65c 48 "java/util/ArrayList" "size" "I") (by decide +kernel)) (fun _ h9 => h9) rfl (by decide +kernel) rfl rfl (Nat.le_of_ble_eq_true rfl) dJx4a65c_add_72be8_19 (fun H locs hP hI hS => ?_)
  have hP : mP G.1 (mu (mu Mw d0 (.inl (G.2.1 5, 10, .inr (.inr (.inr (.inr (va_up g0 ((nI n0).toNatClampNeg) (some v0)))))))) a0 (.inr (2, [.int m0, .ref d0, .int ((nI n0) + 1)]))) H := hP
  have hI : mI A (mu (mu Mw d0 (.inl (G.2.1 5, 10, .inr (.inr (.inr (.inr (va_up g0 ((nI n0).toNatClampNeg) (some v0)))))))) a0 (.inr (2, [.int m0, .ref d0, .int ((nI n0) + 1)]))) := hI
  have h_v := or_mu (x := .inr (2, [.int m0, .ref d0, .int ((nI n0) + 1)])) h_v hva
  have h_D := mu_k (e := .inr (2, [.int m0, .ref d0, .int ((nI n0) + 1)])) (kd_ne h_D h_L rfl) h_D
  have h_L : (mu (mu Mw d0 (.inl (G.2.1 5, 10, .inr (.inr (.inr (.inr (va_up g0 ((nI n0).toNatClampNeg) (some v0)))))))) a0 (.inr (2, [.int m0, .ref d0, .int ((nI n0) + 1)]))) a0 = some (.inr (2, [.int m0, .ref d0, .int ((nI n0) + 1)])) := mu_s
  refine W.widen (k := 0) (n := 0) (Nat.le_of_ble_eq_true rfl) (Nat.le_of_ble_eq_true rfl) ?_
  exact W.vret hx hb hr (fun t99 ht99 hW99 => ⟨⟨(mu (mu Mw d0 (.inl (G.2.1 5, 10, .inr (.inr (.inr (.inr (va_up g0 ((nI n0).toNatClampNeg) (some v0)))))))) a0 (.inr (2, [.int m0, .ref d0, .int ((nI n0) + 1)]))), rfl, mw_ext2 (h_D.trans (congrArg some (by rw [nI_clamp (show n0 < 2 ^ 31 by omega)]))) (h_L.trans (congrArg some (by rw [nI_1]))) (fun z h1 h2 => (mu_n h2).trans ((mu_n h1).trans (rfl))), by rw [ht99]; exact hP, hI⟩, hS.F ht99⟩) hS.2.2 dJx4a65c_add_72be8_22

set_option maxHeartbeats 4000000 in
set_option maxRecDepth 100000 in
theorem c_Jx4a65c_add2F (l : Launch) (G : mg) (A : Nat → Prop) (Mw : mw) {a0 d0 n0 : Nat} {m0 : Int32} (h_L : Mw a0 = some (.inr (2, [.int m0, .ref d0, .int ((nI n0))]))) {g0 : Nat → Option Nat} (h_D : Mw d0 = some (.inl (G.2.1 5, 10, .inr (.inr (.inr (.inr g0)))))) (hn0 : n0 ≤ 8) {cv v0 : Nat} {fv : List Value} (rv : vw_C) (hcv : vwCl[cv]? = some rv) (hcc : (rv.1, "java/lang/Object") ∈ gcast) (h_v : Mw v0 = some (.inr (cv, fv)) ∨ G.2.2.1 v0 = some (.inr (cv, fv))) (hva : v0 ≠ a0) (hvd : v0 ≠ d0) : Met l yJx4a65c_add_9ea2d wsJx4a65c_add_9ea2d ({ frames := 1, cells := 0, slots := 0, locals := 23 }) (va_Pc [.ref a0, .ref v0] (mB G A Mw)) (va_Qi (fun r Mw1 => r = 1 ∧ Mw1 = mu (mu Mw d0 (.inl (G.2.1 5, 10, .inr (.inr (.inr (.inr (va_up g0 n0 (some v0)))))))) a0 (.inr (2, [.int (m0 + 1), .ref d0, .int (nI (n0 + 1))]))) (mE G A) A) 0 0 A := by
  refine Met.ofW (cc := cJx4a65c_add_9ea2d) (maxL := 2) (ret := (some .boolean)) (by decide) rfl ?_
  intro p e s m args below meth c s₁ B hml hv
  obtain ⟨rfl, hG, hP, hI, hA⟩ := hv
  have hx := B.exec
  have hb := B.bytes
  have hr := B.returns
  have hts := atoms_spec (ws := wsJx4a65c_add_9ea2d) B.pre
  have hown : s.vm.findClass RJx4a65c = some m.cls := findClass_of_methodNamed B.named
  have hlocks := B.notSynchronized
  have hK := hG.K
  have i_Jx4a65c : ∀ w ∈ wsJx4a65c0, w ∈ wsJx4a65c_add_9ea2d := by decide +kernel
  have hS : va_S A s.heap s.heap [] := va_S.rf
  have hl := lv_entry ([.ref a0, .ref v0]) (n := 2) (Nat.le_of_ble_eq_true rfl)
  rw [lg_entry_eq]
  generalize (lg_sl ([.ref a0, .ref v0]) ++ List.replicate (2 - (lg_sl ([.ref a0, .ref v0])).length) Slot.unset).toArray = ls at hl ⊢
  have hl : lv_has ls 2 [(0, .ref a0), (1, .ref v0)] := hl
  have hP : mP G.1 Mw s.heap := hP
  refine lv_aload_n hx hb dJx4a65c_add_9ea2d_0 rfl (lv_at hl 0 rfl) ?_
  refine lv_dup hx hb dJx4a65c_add_9ea2d_1 rfl ?_
  refine m_get (ci := 2) (v := .int m0) (C := RJx4a65c) (T := TJx4a65c) (N := 3) hx hb hts i_Jx4a65c hown hK (hP _ _ h_L) rfl 0 (by decide) (hts (.fieldLink RJx4a65c 63 "java/util/ArrayList" "modCount" "I") (by decide +kernel)) (fun x9 h9 => u_same (hts (.sameField "java/util/ArrayList" "java/util/AbstractList" "modCount" "I") (by decide +kernel)) x9 h9) rfl dJx4a65c_add_9ea2d_2 ?_
  refine lv_iconst (v := 1) hx hb dJx4a65c_add_9ea2d_5 (by decide) ?_
  refine lv_iadd hx hb dJx4a65c_add_9ea2d_6 ?_
  refine m_put (ci := 2) (v := .int (m0 + 1)) (ty := .int) (C := RJx4a65c) (T := TJx4a65c) (N := 3) hx hb hts i_Jx4a65c tyJx4a65c tyJx4a65c_ok nmJx4a65c hown hK hP hI hS h_L rfl 0 (by decide) (hts (.fieldLink RJx4a65c 63 "java/util/ArrayList" "modCount" "I") (by decide +kernel)) (fun x9 h9 => u_same (hts (.sameField "java/util/ArrayList" "java/util/AbstractList" "modCount" "I") (by decide +kernel)) x9 h9) rfl (by decide +kernel) rfl rfl (Nat.le_of_ble_eq_true rfl) dJx4a65c_add_9ea2d_7 (fun H locs hP hI hS => ?_)
  have hP : mP G.1 (mu Mw a0 (.inr (2, [.int (m0 + 1), .ref d0, .int ((nI n0))]))) H := hP
  have hI : mI A (mu Mw a0 (.inr (2, [.int (m0 + 1), .ref d0, .int ((nI n0))]))) := hI
  have h_v := or_mu (x := .inr (2, [.int (m0 + 1), .ref d0, .int ((nI n0))])) h_v hva
  have h_D := mu_k (e := .inr (2, [.int (m0 + 1), .ref d0, .int ((nI n0))])) (kd_ne h_D h_L rfl) h_D
  have h_L : (mu Mw a0 (.inr (2, [.int (m0 + 1), .ref d0, .int ((nI n0))]))) a0 = some (.inr (2, [.int (m0 + 1), .ref d0, .int ((nI n0))])) := mu_s
  refine lv_aload_n hx hb dJx4a65c_add_9ea2d_10 rfl (lv_at hl 0 rfl) ?_
  refine lv_aload_n hx hb dJx4a65c_add_9ea2d_11 rfl (lv_at hl 1 rfl) ?_
  refine lv_aload_n hx hb dJx4a65c_add_9ea2d_12 rfl (lv_at hl 0 rfl) ?_
  refine m_get (ci := 2) (v := .ref d0) (C := RJx4a65c) (T := TJx4a65c) (N := 3) hx hb hts i_Jx4a65c hown hK (hP _ _ h_L) rfl 1 (by decide) (hts (.fieldLink RJx4a65c 9 "java/util/ArrayList" "elementData" "[Ljava/lang/Object;") (by decide +kernel)) (fun _ h9 => h9) rfl dJx4a65c_add_9ea2d_13 ?_
  refine lv_aload_n hx hb dJx4a65c_add_9ea2d_16 rfl (lv_at hl 0 rfl) ?_
  refine m_get (ci := 2) (v := .int ((nI n0))) (C := RJx4a65c) (T := TJx4a65c) (N := 3) hx hb hts i_Jx4a65c hown hK (hP _ _ h_L) rfl 2 (by decide) (hts (.fieldLink RJx4a65c 48 "java/util/ArrayList" "size" "I") (by decide +kernel)) (fun _ h9 => h9) rfl dJx4a65c_add_9ea2d_17 ?_
  refine m_callv (va_runV (As := [.ref v0, .ref d0, .int ((nI n0))]) (rest := []) ⟨hx, hb, hml, hown, hts⟩ (c_Jx4a65c_add3F l G A (mu Mw a0 (.inr (2, [.int (m0 + 1), .ref d0, .int ((nI n0))])))  h_L h_D hn0 rv hcv hcc h_v hva hvd) (cwV 3 hts gJx4a65c_add_9ea2d_Jx4a65c_add_72be8 rfl rfl rfl (by decide +kernel) ⟨Nat.le_of_ble_eq_true rfl, Nat.le_of_ble_eq_true rfl⟩) (mPreV hG hS hP hI hA (hP _ _ h_L) (r := (RJx4a65c, TJx4a65c, 3)) rfl) rfl rfl hl.1 rfl (lv_room (Nat.le_of_ble_eq_true rfl)) dJx4a65c_add_9ea2d_20 ⟨Nat.le_of_ble_eq_true rfl, Nat.le_of_ble_eq_true rfl⟩) hS (fun Mw1 H locs hp_r1 hP hI hS => ?_)
  subst Mw1
  have h_L := mu_k (e := .inl (G.2.1 5, 10, .inr (.inr (.inr (.inr (va_up g0 n0 (some v0))))))) (kd_ne h_L h_D rfl) h_L
  have h_v := or_mu (x := .inl (G.2.1 5, 10, .inr (.inr (.inr (.inr (va_up g0 n0 (some v0))))))) h_v hvd
  have h_D : (mu (mu Mw a0 (.inr (2, [.int (m0 + 1), .ref d0, .int ((nI n0))]))) d0 (.inl (G.2.1 5, 10, .inr (.inr (.inr (.inr (va_up g0 n0 (some v0)))))))) d0 = some (.inl (G.2.1 5, 10, .inr (.inr (.inr (.inr (va_up g0 n0 (some v0))))))) := mu_s
  have h_D := mu_k (e := .inr (2, [.int (m0 + 1), .ref d0, .int (nI (n0 + 1))])) (kd_ne h_D h_L rfl) h_D
  have h_v := or_mu (x := .inr (2, [.int (m0 + 1), .ref d0, .int (nI (n0 + 1))])) h_v hva
  have h_L : (mu (mu (mu Mw a0 (.inr (2, [.int (m0 + 1), .ref d0, .int ((nI n0))]))) d0 (.inl (G.2.1 5, 10, .inr (.inr (.inr (.inr (va_up g0 n0 (some v0)))))))) a0 (.inr (2, [.int (m0 + 1), .ref d0, .int (nI (n0 + 1))]))) a0 = some (.inr (2, [.int (m0 + 1), .ref d0, .int (nI (n0 + 1))])) := mu_s
  refine lv_iconst (v := 1) hx hb dJx4a65c_add_9ea2d_23 (by decide) ?_
  refine W.widen (k := 0) (n := 0) (Nat.le_of_ble_eq_true rfl) (Nat.le_of_ble_eq_true rfl) ?_
  exact W.zret (v := 1) hx hb hr rfl (fun t99 ht99 hW99 => ⟨⟨1, (mu (mu (mu Mw a0 (.inr (2, [.int (m0 + 1), .ref d0, .int ((nI n0))]))) d0 (.inl (G.2.1 5, 10, .inr (.inr (.inr (.inr (va_up g0 n0 (some v0)))))))) a0 (.inr (2, [.int (m0 + 1), .ref d0, .int (nI (n0 + 1))]))), rfl, ⟨rfl, mw_ext2 h_D h_L (fun z h1 h2 => (mu_n h2).trans ((mu_n h1).trans ((mu_n h2).trans (rfl))))⟩, by rw [ht99]; exact hP, hI⟩, hS.F ht99⟩) hS.2.2 dJx4a65c_add_9ea2d_24

set_option maxHeartbeats 4000000 in
set_option maxRecDepth 100000 in
theorem c_Jx35411_init_45d68 (l : Launch) (G : mg) (A : Nat → Prop) (Mw : mw) {i0 : Nat} (h_I : Mw i0 = some (.inr (1, [.int 0, .int 0, .int 0, .null]))) {a0 d0 n0 : Nat} {m0 : Int32} (h_L : Mw a0 = some (.inr (2, [.int m0, .ref d0, .int ((nI n0))]))) : Met l yJx35411_init_45d68 wsJx35411_init_45d68 ({ frames := 1, cells := 0, slots := 0, locals := 20 }) (va_Pc [.ref i0, .ref a0] (mB G A Mw)) (va_Qv (fun Mw1 => Mw1 = mu Mw i0 (.inr (1, [.int 0, .int ((-1)), .int m0, .ref a0]))) (mE G A) A) 0 0 A := by
  refine Met.ofW (cc := cJx35411_init_45d68) (maxL := 2) (ret := none) (by decide) rfl ?_
  intro p e s m args below meth c s₁ B hml hv
  obtain ⟨rfl, hG, hP, hI, hA⟩ := hv
  have hx := B.exec
  have hb := B.bytes
  have hr := B.returns
  have hts := atoms_spec (ws := wsJx35411_init_45d68) B.pre
  have hown : s.vm.findClass RJx35411 = some m.cls := findClass_of_methodNamed B.named
  have hlocks := B.notSynchronized
  have hK := hG.K
  have hin : meth.name = "<init>" := (name_of_methodNamed B.named B.method).1
  have i_Jx35411 : ∀ w ∈ wsJx354110, w ∈ wsJx35411_init_45d68 := by decide +kernel
  have i_Jx4a65c : ∀ w ∈ wsJx4a65c0, w ∈ wsJx35411_init_45d68 := by decide +kernel
  have hS : va_S A s.heap s.heap [] := va_S.rf
  have hl := lv_entry ([.ref i0, .ref a0]) (n := 2) (Nat.le_of_ble_eq_true rfl)
  rw [lg_entry_eq]
  generalize (lg_sl ([.ref i0, .ref a0]) ++ List.replicate (2 - (lg_sl ([.ref i0, .ref a0])).length) Slot.unset).toArray = ls at hl ⊢
  have hl : lv_has ls 2 [(0, .ref i0), (1, .ref a0)] := hl
  have hP : mP G.1 Mw s.heap := hP
  refine lv_aload_n hx hb dJx35411_init_45d68_0 rfl (lv_at hl 0 rfl) ?_
  refine lv_aload_n hx hb dJx35411_init_45d68_1 rfl (lv_at hl 1 rfl) ?_
  refine m_putF (ci := 1) (v := .ref a0) (ty := .object "java/util/ArrayList") (C := RJx35411) (T := TJx35411) (N := 4) hx hb hts i_Jx35411 tyJx35411 tyJx35411_ok nmJx35411 hown hK hP hI hS h_I rfl 3 (by decide) (hts (.fieldLink RJx35411 1 "java/util/ArrayList$Itr" "this$0" "Ljava/util/ArrayList;") (by decide +kernel)) (fun _ h9 => h9) rfl hin rfl (by decide +kernel) rfl rfl (Nat.le_of_ble_eq_true rfl) dJx35411_init_45d68_2 (fun H locs hP hI hS => ?_)
  have hP : mP G.1 (mu Mw i0 (.inr (1, [.int 0, .int 0, .int 0, .ref a0]))) H := hP
  have hI : mI A (mu Mw i0 (.inr (1, [.int 0, .int 0, .int 0, .ref a0]))) := hI
  have h_L := mu_k (e := .inr (1, [.int 0, .int 0, .int 0, .ref a0])) (kd_ne h_L h_I rfl) h_L
  have h_I : (mu Mw i0 (.inr (1, [.int 0, .int 0, .int 0, .ref a0]))) i0 = some (.inr (1, [.int 0, .int 0, .int 0, .ref a0])) := mu_s
  refine lv_aload_n hx hb dJx35411_init_45d68_5 rfl (lv_at hl 0 rfl) ?_
  refine W.objInit hx hb hown (hts (.methodLink RJx35411 7 objectInit) (by decide +kernel)) (hts (.instanceMethod objectInit) (by decide +kernel)) (hts (.code objectInit ⟨#[0xb1]⟩ 1 none) (by decide +kernel)) rfl (by rw [hml]; exact hl.1) rfl dJx35411_init_45d68_6 (Nat.le_of_ble_eq_true rfl) (Nat.le_of_ble_eq_true rfl) ?_
  refine W.eq (g2 := F0 m 9 ls []) rfl ?_
  refine lv_aload_n hx hb dJx35411_init_45d68_9 rfl (lv_at hl 0 rfl) ?_
  refine lv_iconst (v := (-1)) hx hb dJx35411_init_45d68_10 (by decide) ?_
  refine m_put (ci := 1) (v := .int ((-1))) (ty := .int) (C := RJx35411) (T := TJx35411) (N := 4) hx hb hts i_Jx35411 tyJx35411 tyJx35411_ok nmJx35411 hown hK hP hI hS h_I rfl 1 (by decide) (hts (.fieldLink RJx35411 13 "java/util/ArrayList$Itr" "lastRet" "I") (by decide +kernel)) (fun _ h9 => h9) rfl (by decide +kernel) rfl rfl (Nat.le_of_ble_eq_true rfl) dJx35411_init_45d68_11 (fun H locs hP hI hS => ?_)
  have hP : mP G.1 (mu (mu Mw i0 (.inr (1, [.int 0, .int 0, .int 0, .ref a0]))) i0 (.inr (1, [.int 0, .int ((-1)), .int 0, .ref a0]))) H := hP
  have hI : mI A (mu (mu Mw i0 (.inr (1, [.int 0, .int 0, .int 0, .ref a0]))) i0 (.inr (1, [.int 0, .int ((-1)), .int 0, .ref a0]))) := hI
  have h_L := mu_k (e := .inr (1, [.int 0, .int ((-1)), .int 0, .ref a0])) (kd_ne h_L h_I rfl) h_L
  rw [mu_uu] at hP hI h_L
  have h_I : (mu Mw i0 (.inr (1, [.int 0, .int ((-1)), .int 0, .ref a0]))) i0 = some (.inr (1, [.int 0, .int ((-1)), .int 0, .ref a0])) := mu_s
  refine lv_aload_n hx hb dJx35411_init_45d68_14 rfl (lv_at hl 0 rfl) ?_
  refine lv_aload_n hx hb dJx35411_init_45d68_15 rfl (lv_at hl 0 rfl) ?_
  refine m_get (ci := 1) (v := .ref a0) (C := RJx35411) (T := TJx35411) (N := 4) hx hb hts i_Jx35411 hown hK (hP _ _ h_I) rfl 3 (by decide) (hts (.fieldLink RJx35411 1 "java/util/ArrayList$Itr" "this$0" "Ljava/util/ArrayList;") (by decide +kernel)) (fun _ h9 => h9) rfl dJx35411_init_45d68_16 ?_
  refine m_get (ci := 2) (v := .int m0) (C := RJx4a65c) (T := TJx4a65c) (N := 3) hx hb hts i_Jx4a65c hown hK (hP _ _ h_L) rfl 0 (by decide) (hts (.fieldLink RJx35411 17 "java/util/ArrayList" "modCount" "I") (by decide +kernel)) (fun x9 h9 => u_same (hts (.sameField "java/util/ArrayList" "java/util/AbstractList" "modCount" "I") (by decide +kernel)) x9 h9) rfl dJx35411_init_45d68_19 ?_
  refine m_put (ci := 1) (v := .int m0) (ty := .int) (C := RJx35411) (T := TJx35411) (N := 4) hx hb hts i_Jx35411 tyJx35411 tyJx35411_ok nmJx35411 hown hK hP hI hS h_I rfl 2 (by decide) (hts (.fieldLink RJx35411 22 "java/util/ArrayList$Itr" "expectedModCount" "I") (by decide +kernel)) (fun _ h9 => h9) rfl (by decide +kernel) rfl rfl (Nat.le_of_ble_eq_true rfl) dJx35411_init_45d68_22 (fun H locs hP hI hS => ?_)
  have hP : mP G.1 (mu (mu Mw i0 (.inr (1, [.int 0, .int ((-1)), .int 0, .ref a0]))) i0 (.inr (1, [.int 0, .int ((-1)), .int m0, .ref a0]))) H := hP
  have hI : mI A (mu (mu Mw i0 (.inr (1, [.int 0, .int ((-1)), .int 0, .ref a0]))) i0 (.inr (1, [.int 0, .int ((-1)), .int m0, .ref a0]))) := hI
  have h_L := mu_k (e := .inr (1, [.int 0, .int ((-1)), .int m0, .ref a0])) (kd_ne h_L h_I rfl) h_L
  rw [mu_uu] at hP hI h_L
  have h_I : (mu Mw i0 (.inr (1, [.int 0, .int ((-1)), .int m0, .ref a0]))) i0 = some (.inr (1, [.int 0, .int ((-1)), .int m0, .ref a0])) := mu_s
  refine W.widen (k := 0) (n := 0) (Nat.le_of_ble_eq_true rfl) (Nat.le_of_ble_eq_true rfl) ?_
  exact W.vret hx hb hr (fun t99 ht99 hW99 => ⟨⟨(mu Mw i0 (.inr (1, [.int 0, .int ((-1)), .int m0, .ref a0]))), rfl, mw_ext1 h_I (fun z h1 => (mu_n h1).trans (rfl)), by rw [ht99]; exact hP, hI⟩, hS.F ht99⟩) hS.2.2 dJx35411_init_45d68_25

set_option maxHeartbeats 4000000 in
set_option maxRecDepth 100000 in
theorem c_Jx4a65c_iterator_32c93 (l : Launch) (G : mg) (A : Nat → Prop) (Mw : mw) {a0 d0 n0 : Nat} {m0 : Int32} (h_L : Mw a0 = some (.inr (2, [.int m0, .ref d0, .int ((nI n0))]))) : Met l yJx4a65c_iterator_32c93 wsJx4a65c_iterator_32c93 ({ frames := 2, cells := 1, slots := 4, locals := 41 }) (va_Pc [.ref a0] (mB G A Mw)) (va_Qq (fun r Mw1 => ∃ q9 : Nat, r = some q9 ∧ Mw q9 = none ∧ Mw1 = mu Mw q9 (.inr (1, [.int 0, .int ((-1)), .int m0, .ref a0]))) (mE G A) A) 1 4 A := by
  refine Met.ofW (cc := cJx4a65c_iterator_32c93) (maxL := 1) (ret := (some (.object "java/util/Iterator"))) (by decide) rfl ?_
  intro p e s m args below meth c s₁ B hml hv
  obtain ⟨rfl, hG, hP, hI, hA⟩ := hv
  have hx := B.exec
  have hb := B.bytes
  have hr := B.returns
  have hts := atoms_spec (ws := wsJx4a65c_iterator_32c93) B.pre
  have hown : s.vm.findClass RJx4a65c = some m.cls := findClass_of_methodNamed B.named
  have hlocks := B.notSynchronized
  have hK := hG.K
  have i_Jx35411 : ∀ w ∈ wsJx354110, w ∈ wsJx4a65c_iterator_32c93 := by decide +kernel
  have hS : va_S A s.heap s.heap [] := va_S.rf
  have hl := lv_entry ([.ref a0]) (n := 1) (Nat.le_of_ble_eq_true rfl)
  rw [lg_entry_eq]
  generalize (lg_sl ([.ref a0]) ++ List.replicate (1 - (lg_sl ([.ref a0])).length) Slot.unset).toArray = ls at hl ⊢
  have hl : lv_has ls 1 [(0, .ref a0)] := hl
  have hP : mP G.1 Mw s.heap := hP
  refine m_new (ci := 1) (fs := [.int 0, .int 0, .int 0, .null]) (C := RJx35411) (T := TJx35411) (N := 4) hx hb hts i_Jx35411 tyJx35411 tyJx35411_ok hown (hts (.classLink RJx4a65c 267 RJx35411) (by decide +kernel)) (hts (.instantiable RJx35411 4) (by decide +kernel)) (hts (.initialized RJx35411) (by decide +kernel)) hK hP hI hS hA rfl (fun j hj => by rcases (show j = 0 ∨ j = 1 ∨ j = 2 ∨ j = 3 by omega) with rfl | rfl | rfl | rfl <;> rfl) (Nat.le_of_ble_eq_true rfl) (Nat.le_of_ble_eq_true rfl) dJx4a65c_iterator_32c93_0 (fun q1 H hn_q1 hP hI hS => ?_)
  have h_L := mu_x (e := .inr (1, [.int 0, .int 0, .int 0, .null])) h_L hn_q1
  have h_q1 : (mu Mw q1 (.inr (1, [.int 0, .int 0, .int 0, .null]))) q1 = some (.inr (1, [.int 0, .int 0, .int 0, .null])) := mu_s
  refine lv_dup hx hb dJx4a65c_iterator_32c93_3 rfl ?_
  refine lv_aload_n hx hb dJx4a65c_iterator_32c93_4 rfl (lv_at hl 0 rfl) ?_
  refine m_callv (va_runI (As := [.ref a0]) (rest := [.ref q1]) ⟨hx, hb, hml, hown, hts⟩ (c_Jx35411_init_45d68 l G A (mu Mw q1 (.inr (1, [.int 0, .int 0, .int 0, .null])))  h_q1 h_L) (cwI 1 hts gJx4a65c_iterator_32c93_Jx35411_init_45d68 rfl rfl rfl (hts (.initialized RJx35411) (by decide +kernel)) (hts (.methodLink RJx4a65c 269 yJx35411_init_45d68) (by decide +kernel)) (hts (.instanceMethod yJx35411_init_45d68) (by decide +kernel)) rfl (by decide +kernel) ⟨Nat.le_of_ble_eq_true rfl, Nat.le_of_ble_eq_true rfl⟩) (mPreS hG hS hP hI hA) rfl rfl hl.1 rfl (lv_room (Nat.le_of_ble_eq_true rfl)) dJx4a65c_iterator_32c93_5 ⟨Nat.le_of_ble_eq_true rfl, Nat.le_of_ble_eq_true rfl⟩) hS (fun Mw1 H locs hp_r2 hP hI hS => ?_)
  subst Mw1
  have h_L := mu_k (e := .inr (1, [.int 0, .int ((-1)), .int m0, .ref a0])) (kd_ne h_L h_q1 rfl) h_L
  have h_q1 : (mu (mu Mw q1 (.inr (1, [.int 0, .int 0, .int 0, .null]))) q1 (.inr (1, [.int 0, .int ((-1)), .int m0, .ref a0]))) q1 = some (.inr (1, [.int 0, .int ((-1)), .int m0, .ref a0])) := mu_s
  refine W.widen (k := 1) (n := 4) (Nat.le_of_ble_eq_true rfl) (Nat.le_of_ble_eq_true rfl) ?_
  exact W.aret (v := .ref q1) hx hb hr (Or.inl ⟨_, rfl⟩) (Or.inr ⟨_, rfl⟩) (fun t99 ht99 hW99 => ⟨⟨some q1, (mu (mu Mw q1 (.inr (1, [.int 0, .int 0, .int 0, .null]))) q1 (.inr (1, [.int 0, .int ((-1)), .int m0, .ref a0]))), rfl, ⟨q1, rfl, hn_q1, mu_uu⟩, by rw [ht99]; exact hP, hI⟩, hS.F ht99⟩) hS.2.2 dJx4a65c_iterator_32c93_8

set_option maxHeartbeats 4000000 in
set_option maxRecDepth 100000 in
theorem c_Jx35411_checkForComodification_da8c8 (l : Launch) (G : mg) (A : Nat → Prop) (Mw : mw) {a0 d0 n0 : Nat} {m0 : Int32} (h_L : Mw a0 = some (.inr (2, [.int m0, .ref d0, .int ((nI n0))]))) {i0 c0 : Nat} {l0 : Int32} (h_I : Mw i0 = some (.inr (1, [.int ((nI c0)), .int l0, .int m0, .ref a0])))  : Met l yJx35411_checkForComodification_da8c8 wsJx35411_checkForComodification_da8c8 ({ frames := 0, cells := 0, slots := 0, locals := 0 }) (va_Pc [.ref i0] (mB G A Mw)) (va_Qv (fun Mw1 => Mw1 = Mw) (mE G A) A) 0 0 A := by
  refine Met.ofW (cc := cJx35411_checkForComodification_da8c8) (maxL := 1) (ret := none) (by decide) rfl ?_
  intro p e s m args below meth c s₁ B hml hv
  obtain ⟨rfl, hG, hP, hI, hA⟩ := hv
  have hx := B.exec
  have hb := B.bytes
  have hr := B.returns
  have hts := atoms_spec (ws := wsJx35411_checkForComodification_da8c8) B.pre
  have hown : s.vm.findClass RJx35411 = some m.cls := findClass_of_methodNamed B.named
  have hlocks := B.notSynchronized
  have hK := hG.K
  have i_Jx35411 : ∀ w ∈ wsJx354110, w ∈ wsJx35411_checkForComodification_da8c8 := by decide +kernel
  have i_Jx4a65c : ∀ w ∈ wsJx4a65c0, w ∈ wsJx35411_checkForComodification_da8c8 := by decide +kernel
  have hS : va_S A s.heap s.heap [] := va_S.rf
  have hl := lv_entry ([.ref i0]) (n := 1) (Nat.le_of_ble_eq_true rfl)
  rw [lg_entry_eq]
  generalize (lg_sl ([.ref i0]) ++ List.replicate (1 - (lg_sl ([.ref i0])).length) Slot.unset).toArray = ls at hl ⊢
  have hl : lv_has ls 1 [(0, .ref i0)] := hl
  have hP : mP G.1 Mw s.heap := hP
  refine lv_aload_n hx hb dJx35411_checkForComodification_da8c8_0 rfl (lv_at hl 0 rfl) ?_
  refine m_get (ci := 1) (v := .ref a0) (C := RJx35411) (T := TJx35411) (N := 4) hx hb hts i_Jx35411 hown hK (hP _ _ h_I) rfl 3 (by decide) (hts (.fieldLink RJx35411 1 "java/util/ArrayList$Itr" "this$0" "Ljava/util/ArrayList;") (by decide +kernel)) (fun _ h9 => h9) rfl dJx35411_checkForComodification_da8c8_1 ?_
  refine m_get (ci := 2) (v := .int m0) (C := RJx4a65c) (T := TJx4a65c) (N := 3) hx hb hts i_Jx4a65c hown hK (hP _ _ h_L) rfl 0 (by decide) (hts (.fieldLink RJx35411 17 "java/util/ArrayList" "modCount" "I") (by decide +kernel)) (fun x9 h9 => u_same (hts (.sameField "java/util/ArrayList" "java/util/AbstractList" "modCount" "I") (by decide +kernel)) x9 h9) rfl dJx35411_checkForComodification_da8c8_4 ?_
  refine lv_aload_n hx hb dJx35411_checkForComodification_da8c8_7 rfl (lv_at hl 0 rfl) ?_
  refine m_get (ci := 1) (v := .int m0) (C := RJx35411) (T := TJx35411) (N := 4) hx hb hts i_Jx35411 hown hK (hP _ _ h_I) rfl 2 (by decide) (hts (.fieldLink RJx35411 22 "java/util/ArrayList$Itr" "expectedModCount" "I") (by decide +kernel)) (fun _ h9 => h9) rfl dJx35411_checkForComodification_da8c8_8 ?_
  refine lv_icmp_eq (tgt := 22) hx hb dJx35411_checkForComodification_da8c8_11 (by decide) (fun c1 => ?_) (fun c1 => absurd c1 (fun q9 => q9 rfl))
  refine W.widen (k := 0) (n := 0) (Nat.le_of_ble_eq_true rfl) (Nat.le_of_ble_eq_true rfl) ?_
  exact W.vret hx hb hr (fun t99 ht99 hW99 => ⟨⟨Mw, rfl, rfl, by rw [ht99]; exact hP, hI⟩, hS.F ht99⟩) hS.2.2 dJx35411_checkForComodification_da8c8_22

set_option maxHeartbeats 4000000 in
set_option maxRecDepth 100000 in
theorem c_Jx35411_hasNext_aae02 (l : Launch) (G : mg) (A : Nat → Prop) (Mw : mw) {a0 d0 n0 : Nat} {m0 : Int32} (h_L : Mw a0 = some (.inr (2, [.int m0, .ref d0, .int ((nI n0))]))) {i0 c0 : Nat} {l0 : Int32} (h_I : Mw i0 = some (.inr (1, [.int ((nI c0)), .int l0, .int m0, .ref a0])))  : Met l yJx35411_hasNext_aae02 wsJx35411_hasNext_aae02 ({ frames := 0, cells := 0, slots := 0, locals := 0 }) (va_Pc [.ref i0] (mB G A Mw)) (va_Qi (fun r Mw1 => r = (if nI c0 = nI n0 then 0 else 1) ∧ Mw1 = Mw) (mE G A) A) 0 0 A := by
  refine Met.ofW (cc := cJx35411_hasNext_aae02) (maxL := 1) (ret := (some .boolean)) (by decide) rfl ?_
  intro p e s m args below meth c s₁ B hml hv
  obtain ⟨rfl, hG, hP, hI, hA⟩ := hv
  have hx := B.exec
  have hb := B.bytes
  have hr := B.returns
  have hts := atoms_spec (ws := wsJx35411_hasNext_aae02) B.pre
  have hown : s.vm.findClass RJx35411 = some m.cls := findClass_of_methodNamed B.named
  have hlocks := B.notSynchronized
  have hK := hG.K
  have i_Jx35411 : ∀ w ∈ wsJx354110, w ∈ wsJx35411_hasNext_aae02 := by decide +kernel
  have i_Jx4a65c : ∀ w ∈ wsJx4a65c0, w ∈ wsJx35411_hasNext_aae02 := by decide +kernel
  have hS : va_S A s.heap s.heap [] := va_S.rf
  have hl := lv_entry ([.ref i0]) (n := 1) (Nat.le_of_ble_eq_true rfl)
  rw [lg_entry_eq]
  generalize (lg_sl ([.ref i0]) ++ List.replicate (1 - (lg_sl ([.ref i0])).length) Slot.unset).toArray = ls at hl ⊢
  have hl : lv_has ls 1 [(0, .ref i0)] := hl
  have hP : mP G.1 Mw s.heap := hP
  refine lv_aload_n hx hb dJx35411_hasNext_aae02_0 rfl (lv_at hl 0 rfl) ?_
  refine m_get (ci := 1) (v := .int ((nI c0))) (C := RJx35411) (T := TJx35411) (N := 4) hx hb hts i_Jx35411 hown hK (hP _ _ h_I) rfl 0 (by decide) (hts (.fieldLink RJx35411 25 "java/util/ArrayList$Itr" "cursor" "I") (by decide +kernel)) (fun _ h9 => h9) rfl dJx35411_hasNext_aae02_1 ?_
  refine lv_aload_n hx hb dJx35411_hasNext_aae02_4 rfl (lv_at hl 0 rfl) ?_
  refine m_get (ci := 1) (v := .ref a0) (C := RJx35411) (T := TJx35411) (N := 4) hx hb hts i_Jx35411 hown hK (hP _ _ h_I) rfl 3 (by decide) (hts (.fieldLink RJx35411 1 "java/util/ArrayList$Itr" "this$0" "Ljava/util/ArrayList;") (by decide +kernel)) (fun _ h9 => h9) rfl dJx35411_hasNext_aae02_5 ?_
  refine m_getN (ci := 2) (v := .int ((nI n0))) (C := RJx4a65c) (T := TJx4a65c) (N := 3) hx hb hts i_Jx4a65c hown hK (hP _ _ h_L) rfl 2 (by decide) (va_Nw.use rfl (hG.2.1.2.1 ("java/util/ArrayList$Itr", 28, "java/util/ArrayList", "size", "I", "java/util/ArrayList") (by decide +kernel))) (fun _ h9 => h9) rfl dJx35411_hasNext_aae02_8 ?_
  refine lv_icmp_eq (tgt := 18) hx hb dJx35411_hasNext_aae02_11 (by decide) (fun c1 => ?_) (fun c1 => ?_)
  · skip
    refine lv_iconst (v := 0) hx hb dJx35411_hasNext_aae02_18 (by decide) ?_
    refine W.widen (k := 0) (n := 0) (Nat.le_of_ble_eq_true rfl) (Nat.le_of_ble_eq_true rfl) ?_
    exact W.zret (v := 0) hx hb hr rfl (fun t99 ht99 hW99 => ⟨⟨0, Mw, rfl, ⟨(if_pos c1).symm, rfl⟩, by rw [ht99]; exact hP, hI⟩, hS.F ht99⟩) hS.2.2 dJx35411_hasNext_aae02_19
  · skip
    refine lv_iconst (v := 1) hx hb dJx35411_hasNext_aae02_14 (by decide) ?_
    refine lv_goto (tgt := 19) hx hb dJx35411_hasNext_aae02_15 (by decide) ?_
    refine W.widen (k := 0) (n := 0) (Nat.le_of_ble_eq_true rfl) (Nat.le_of_ble_eq_true rfl) ?_
    exact W.zret (v := 1) hx hb hr rfl (fun t99 ht99 hW99 => ⟨⟨1, Mw, rfl, ⟨(if_neg c1).symm, rfl⟩, by rw [ht99]; exact hP, hI⟩, hS.F ht99⟩) hS.2.2 dJx35411_hasNext_aae02_19

set_option maxHeartbeats 4000000 in
set_option maxRecDepth 100000 in
theorem c_Jx35411_next_0502b (l : Launch) (G : mg) (A : Nat → Prop) (Mw : mw) {a0 d0 n0 : Nat} {m0 : Int32} (h_L : Mw a0 = some (.inr (2, [.int m0, .ref d0, .int ((nI n0))]))) {i0 c0 : Nat} {l0 : Int32} (h_I : Mw i0 = some (.inr (1, [.int ((nI c0)), .int l0, .int m0, .ref a0]))) {g0 : Nat → Option Nat} (h_D : Mw d0 = some (.inl (G.2.1 5, 10, .inr (.inr (.inr (.inr g0)))))) (x0 : Nat) (hc0 : c0 < n0) (hn0 : n0 ≤ 8) (hx0 : g0 c0 = some x0) : Met l yJx35411_next_0502b wsJx35411_next_0502b ({ frames := 1, cells := 0, slots := 0, locals := 20 }) (va_Pc [.ref i0] (mB G A Mw)) (va_Qq (fun r Mw1 => r = some x0 ∧ Mw1 = mu Mw i0 (.inr (1, [.int ((nI (c0 + 1))), .int ((nI c0)), .int m0, .ref a0]))) (mE G A) A) 0 0 A := by
  refine Met.ofW (cc := cJx35411_next_0502b) (maxL := 3) (ret := (some (.object "java/lang/Object"))) (by decide) rfl ?_
  intro p e s m args below meth c s₁ B hml hv
  obtain ⟨rfl, hG, hP, hI, hA⟩ := hv
  have hx := B.exec
  have hb := B.bytes
  have hr := B.returns
  have hts := atoms_spec (ws := wsJx35411_next_0502b) B.pre
  have hown : s.vm.findClass RJx35411 = some m.cls := findClass_of_methodNamed B.named
  have hlocks := B.notSynchronized
  have hK := hG.K
  have i_Jx35411 : ∀ w ∈ wsJx354110, w ∈ wsJx35411_next_0502b := by decide +kernel
  have i_Jx4a65c : ∀ w ∈ wsJx4a65c0, w ∈ wsJx35411_next_0502b := by decide +kernel
  have hS : va_S A s.heap s.heap [] := va_S.rf
  have hl := lv_entry ([.ref i0]) (n := 3) (Nat.le_of_ble_eq_true rfl)
  rw [lg_entry_eq]
  generalize (lg_sl ([.ref i0]) ++ List.replicate (3 - (lg_sl ([.ref i0])).length) Slot.unset).toArray = ls at hl ⊢
  have hl : lv_has ls 3 [(0, .ref i0)] := hl
  have hP : mP G.1 Mw s.heap := hP
  refine lv_aload_n hx hb dJx35411_next_0502b_0 rfl (lv_at hl 0 rfl) ?_
  refine m_callv (va_runV (As := []) (rest := []) ⟨hx, hb, hml, hown, hts⟩ (c_Jx35411_checkForComodification_da8c8 l G A Mw  h_L h_I) (cwV 0 hts gJx35411_next_0502b_Jx35411_checkForComodification_da8c8 rfl rfl rfl (by decide +kernel) ⟨Nat.le_of_ble_eq_true rfl, Nat.le_of_ble_eq_true rfl⟩) (mPreV hG hS hP hI hA (hP _ _ h_I) (r := (RJx35411, TJx35411, 4)) rfl) rfl rfl hl.1 rfl (lv_room (Nat.le_of_ble_eq_true rfl)) dJx35411_next_0502b_1 ⟨Nat.le_of_ble_eq_true rfl, Nat.le_of_ble_eq_true rfl⟩) hS (fun Mw1 H locs hp_r1 hP hI hS => ?_)
  subst Mw1
  refine lv_aload_n hx hb dJx35411_next_0502b_4 rfl (lv_at hl 0 rfl) ?_
  refine m_get (ci := 1) (v := .int ((nI c0))) (C := RJx35411) (T := TJx35411) (N := 4) hx hb hts i_Jx35411 hown hK (hP _ _ h_I) rfl 0 (by decide) (hts (.fieldLink RJx35411 25 "java/util/ArrayList$Itr" "cursor" "I") (by decide +kernel)) (fun _ h9 => h9) rfl dJx35411_next_0502b_5 ?_
  refine lv_istore_n (lv' := [(1, .int ((nI c0))), (0, .ref i0)]) hx hb dJx35411_next_0502b_8 rfl hl (by decide) rfl (fun ls hl => ?_)
  refine lv_iload_n hx hb dJx35411_next_0502b_9 rfl (lv_at hl 0 rfl) ?_
  refine lv_aload_n hx hb dJx35411_next_0502b_10 rfl (lv_at hl 1 rfl) ?_
  refine m_get (ci := 1) (v := .ref a0) (C := RJx35411) (T := TJx35411) (N := 4) hx hb hts i_Jx35411 hown hK (hP _ _ h_I) rfl 3 (by decide) (hts (.fieldLink RJx35411 1 "java/util/ArrayList$Itr" "this$0" "Ljava/util/ArrayList;") (by decide +kernel)) (fun _ h9 => h9) rfl dJx35411_next_0502b_11 ?_
  refine m_getN (ci := 2) (v := .int ((nI n0))) (C := RJx4a65c) (T := TJx4a65c) (N := 3) hx hb hts i_Jx4a65c hown hK (hP _ _ h_L) rfl 2 (by decide) (va_Nw.use rfl (hG.2.1.2.1 ("java/util/ArrayList$Itr", 28, "java/util/ArrayList", "size", "I", "java/util/ArrayList") (by decide +kernel))) (fun _ h9 => h9) rfl dJx35411_next_0502b_14 ?_
  refine lv_icmp_lt (tgt := 28) hx hb dJx35411_next_0502b_17 (by decide) (fun c2 => ?_) (fun c2 => absurd c2 (fun q9 => q9 (nI_lt (by omega) (by omega))))
  refine lv_aload_n hx hb dJx35411_next_0502b_28 rfl (lv_at hl 1 rfl) ?_
  refine m_get (ci := 1) (v := .ref a0) (C := RJx35411) (T := TJx35411) (N := 4) hx hb hts i_Jx35411 hown hK (hP _ _ h_I) rfl 3 (by decide) (hts (.fieldLink RJx35411 1 "java/util/ArrayList$Itr" "this$0" "Ljava/util/ArrayList;") (by decide +kernel)) (fun _ h9 => h9) rfl dJx35411_next_0502b_29 ?_
  refine m_get (ci := 2) (v := .ref d0) (C := RJx4a65c) (T := TJx4a65c) (N := 3) hx hb hts i_Jx4a65c hown hK (hP _ _ h_L) rfl 1 (by decide) (hts (.fieldLink RJx35411 37 "java/util/ArrayList" "elementData" "[Ljava/lang/Object;") (by decide +kernel)) (fun _ h9 => h9) rfl dJx35411_next_0502b_32 ?_
  refine lv_astore_n (lv' := [(2, .ref d0), (1, .int ((nI c0))), (0, .ref i0)]) hx hb dJx35411_next_0502b_35 rfl hl (by decide) rfl (fun ls hl => ?_)
  refine lv_iload_n hx hb dJx35411_next_0502b_36 rfl (lv_at hl 1 rfl) ?_
  refine lv_aload_n hx hb dJx35411_next_0502b_37 rfl (lv_at hl 0 rfl) ?_
  refine m_alen (v := 10) hx hb hK 5 (hP _ _ h_D) rfl rfl dJx35411_next_0502b_38 ?_
  refine lv_icmp_lt (tgt := 50) hx hb dJx35411_next_0502b_39 (by decide) (fun c3 => ?_) (fun c3 => absurd c3 (fun q9 => q9 (show nI c0 < nI 10 from nI_lt (by omega) (by omega))))
  refine lv_aload_n hx hb dJx35411_next_0502b_50 rfl (lv_at hl 2 rfl) ?_
  refine lv_iload_n hx hb dJx35411_next_0502b_51 rfl (lv_at hl 1 rfl) ?_
  refine lv_iconst (v := 1) hx hb dJx35411_next_0502b_52 (by decide) ?_
  refine lv_iadd hx hb dJx35411_next_0502b_53 ?_
  refine m_put (ci := 1) (v := .int ((nI c0) + 1)) (ty := .int) (C := RJx35411) (T := TJx35411) (N := 4) hx hb hts i_Jx35411 tyJx35411 tyJx35411_ok nmJx35411 hown hK hP hI hS h_I rfl 0 (by decide) (hts (.fieldLink RJx35411 25 "java/util/ArrayList$Itr" "cursor" "I") (by decide +kernel)) (fun _ h9 => h9) rfl (by decide +kernel) rfl rfl (Nat.le_of_ble_eq_true rfl) dJx35411_next_0502b_54 (fun H locs hP hI hS => ?_)
  have hP : mP G.1 (mu Mw i0 (.inr (1, [.int ((nI c0) + 1), .int l0, .int m0, .ref a0]))) H := hP
  have hI : mI A (mu Mw i0 (.inr (1, [.int ((nI c0) + 1), .int l0, .int m0, .ref a0]))) := hI
  have h_L := mu_k (e := .inr (1, [.int ((nI c0) + 1), .int l0, .int m0, .ref a0])) (kd_ne h_L h_I rfl) h_L
  have h_D := mu_k (e := .inr (1, [.int ((nI c0) + 1), .int l0, .int m0, .ref a0])) (kd_ne h_D h_I rfl) h_D
  have h_I : (mu Mw i0 (.inr (1, [.int ((nI c0) + 1), .int l0, .int m0, .ref a0]))) i0 = some (.inr (1, [.int ((nI c0) + 1), .int l0, .int m0, .ref a0])) := mu_s
  refine lv_aload_n hx hb dJx35411_next_0502b_57 rfl (lv_at hl 0 rfl) ?_
  refine lv_aload_n hx hb dJx35411_next_0502b_58 rfl (lv_at hl 2 rfl) ?_
  refine lv_iload_n hx hb dJx35411_next_0502b_59 rfl (lv_at hl 1 rfl) ?_
  refine lv_dup_x1 hx hb dJx35411_next_0502b_60 rfl rfl ?_
  refine m_put (ci := 1) (v := .int ((nI c0))) (ty := .int) (C := RJx35411) (T := TJx35411) (N := 4) hx hb hts i_Jx35411 tyJx35411 tyJx35411_ok nmJx35411 hown hK hP hI hS h_I rfl 1 (by decide) (hts (.fieldLink RJx35411 13 "java/util/ArrayList$Itr" "lastRet" "I") (by decide +kernel)) (fun _ h9 => h9) rfl (by decide +kernel) rfl rfl (Nat.le_of_ble_eq_true rfl) dJx35411_next_0502b_61 (fun H locs hP hI hS => ?_)
  have hP : mP G.1 (mu (mu Mw i0 (.inr (1, [.int ((nI c0) + 1), .int l0, .int m0, .ref a0]))) i0 (.inr (1, [.int ((nI c0) + 1), .int ((nI c0)), .int m0, .ref a0]))) H := hP
  have hI : mI A (mu (mu Mw i0 (.inr (1, [.int ((nI c0) + 1), .int l0, .int m0, .ref a0]))) i0 (.inr (1, [.int ((nI c0) + 1), .int ((nI c0)), .int m0, .ref a0]))) := hI
  have h_L := mu_k (e := .inr (1, [.int ((nI c0) + 1), .int ((nI c0)), .int m0, .ref a0])) (kd_ne h_L h_I rfl) h_L
  have h_D := mu_k (e := .inr (1, [.int ((nI c0) + 1), .int ((nI c0)), .int m0, .ref a0])) (kd_ne h_D h_I rfl) h_D
  rw [mu_uu] at hP hI h_L h_D
  have h_I : (mu Mw i0 (.inr (1, [.int ((nI c0) + 1), .int ((nI c0)), .int m0, .ref a0]))) i0 = some (.inr (1, [.int ((nI c0) + 1), .int ((nI c0)), .int m0, .ref a0])) := mu_s
  refine m_aldq hx hb hK 5 (hP _ _ h_D) rfl (vp_in_nI (by omega) (by omega)) dJx35411_next_0502b_64 ?_
  rw [nI_clamp (show c0 < 2 ^ 31 by omega), hx0]
  refine W.widen (k := 0) (n := 0) (Nat.le_of_ble_eq_true rfl) (Nat.le_of_ble_eq_true rfl) ?_
  exact W.aret (v := .ref x0) hx hb hr (Or.inl ⟨_, rfl⟩) (Or.inr ⟨_, rfl⟩) (fun t99 ht99 hW99 => ⟨⟨some x0, (mu Mw i0 (.inr (1, [.int ((nI c0) + 1), .int ((nI c0)), .int m0, .ref a0]))), rfl, ⟨rfl, mw_ext1 (h_I.trans (congrArg some (by rw [nI_1]))) (fun z h1 => (mu_n h1).trans (rfl))⟩, by rw [ht99]; exact hP, hI⟩, hS.F ht99⟩) hS.2.2 dJx35411_next_0502b_65

def clq (g : Nat → Option Nat) (k : Nat) : Nat → Option Nat := fun j => if j < k then none else g j
theorem clq_0 (g : Nat → Option Nat) : g = clq g 0 := by
  funext j
  unfold clq
  rw [if_neg (Nat.not_lt_zero j)]
theorem clq_s (g : Nat → Option Nat) (k : Nat) : va_up (clq g k) k none = clq g (k + 1) := by
  funext j
  unfold va_up clq
  by_cases h : j = k
  · subst h
    rw [if_pos rfl, if_pos (Nat.lt_succ_self _)]
  · rw [if_neg h]
    by_cases h2 : j < k
    · rw [if_pos h2, if_pos (by omega)]
    · rw [if_neg h2, if_neg (by omega)]
set_option maxHeartbeats 4000000 in
set_option maxRecDepth 100000 in
theorem c_Jx4a65c_clear_da8c8 (l : Launch) (G : mg) (A : Nat → Prop) (Mw : mw) {a0 d0 n0 : Nat} {m0 : Int32} (h_L : Mw a0 = some (.inr (2, [.int m0, .ref d0, .int ((nI n0))]))) {g0 : Nat → Option Nat} (h_D : Mw d0 = some (.inl (G.2.1 5, 10, .inr (.inr (.inr (.inr g0)))))) (hn0 : n0 ≤ 8) : Met l yJx4a65c_clear_da8c8 wsJx4a65c_clear_da8c8 ({ frames := 0, cells := 0, slots := 0, locals := 0 }) (va_Pc [.ref a0] (mB G A Mw)) (va_Qv (fun Mw1 => Mw1 = mu (mu Mw d0 (.inl (G.2.1 5, 10, .inr (.inr (.inr (.inr (clq g0 n0))))))) a0 (.inr (2, [.int (m0 + 1), .ref d0, .int 0]))) (mE G A) A) 0 0 A := by
  refine Met.ofW (cc := cJx4a65c_clear_da8c8) (maxL := 4) (ret := none) (by decide) rfl ?_
  intro p e s m args below meth c s₁ B hml hv
  obtain ⟨rfl, hG, hP, hI, hA⟩ := hv
  have hx := B.exec
  have hb := B.bytes
  have hr := B.returns
  have hts := atoms_spec (ws := wsJx4a65c_clear_da8c8) B.pre
  have hown : s.vm.findClass RJx4a65c = some m.cls := findClass_of_methodNamed B.named
  have hlocks := B.notSynchronized
  have hK := hG.K
  have i_Jx4a65c : ∀ w ∈ wsJx4a65c0, w ∈ wsJx4a65c_clear_da8c8 := by decide +kernel
  have hS : va_S A s.heap s.heap [] := va_S.rf
  have hl := lv_entry ([.ref a0]) (n := 4) (Nat.le_of_ble_eq_true rfl)
  rw [lg_entry_eq]
  generalize (lg_sl ([.ref a0]) ++ List.replicate (4 - (lg_sl ([.ref a0])).length) Slot.unset).toArray = ls at hl ⊢
  have hl : lv_has ls 4 [(0, .ref a0)] := hl
  have hP : mP G.1 Mw s.heap := hP
  refine lv_aload_n hx hb dJx4a65c_clear_da8c8_0 rfl (lv_at hl 0 rfl) ?_
  refine lv_dup hx hb dJx4a65c_clear_da8c8_1 rfl ?_
  refine m_get (ci := 2) (v := .int m0) (C := RJx4a65c) (T := TJx4a65c) (N := 3) hx hb hts i_Jx4a65c hown hK (hP _ _ h_L) rfl 0 (by decide) (hts (.fieldLink RJx4a65c 63 "java/util/ArrayList" "modCount" "I") (by decide +kernel)) (fun x9 h9 => u_same (hts (.sameField "java/util/ArrayList" "java/util/AbstractList" "modCount" "I") (by decide +kernel)) x9 h9) rfl dJx4a65c_clear_da8c8_2 ?_
  refine lv_iconst (v := 1) hx hb dJx4a65c_clear_da8c8_5 (by decide) ?_
  refine lv_iadd hx hb dJx4a65c_clear_da8c8_6 ?_
  refine m_put (ci := 2) (v := .int (m0 + 1)) (ty := .int) (C := RJx4a65c) (T := TJx4a65c) (N := 3) hx hb hts i_Jx4a65c tyJx4a65c tyJx4a65c_ok nmJx4a65c hown hK hP hI hS h_L rfl 0 (by decide) (hts (.fieldLink RJx4a65c 63 "java/util/ArrayList" "modCount" "I") (by decide +kernel)) (fun x9 h9 => u_same (hts (.sameField "java/util/ArrayList" "java/util/AbstractList" "modCount" "I") (by decide +kernel)) x9 h9) rfl (by decide +kernel) rfl rfl (Nat.le_of_ble_eq_true rfl) dJx4a65c_clear_da8c8_7 (fun H locs hP hI hS => ?_)
  have hP : mP G.1 (mu Mw a0 (.inr (2, [.int (m0 + 1), .ref d0, .int ((nI n0))]))) H := hP
  have hI : mI A (mu Mw a0 (.inr (2, [.int (m0 + 1), .ref d0, .int ((nI n0))]))) := hI
  have h_D := mu_k (e := .inr (2, [.int (m0 + 1), .ref d0, .int ((nI n0))])) (kd_ne h_D h_L rfl) h_D
  have h_L : (mu Mw a0 (.inr (2, [.int (m0 + 1), .ref d0, .int ((nI n0))]))) a0 = some (.inr (2, [.int (m0 + 1), .ref d0, .int ((nI n0))])) := mu_s
  refine lv_aload_n hx hb dJx4a65c_clear_da8c8_10 rfl (lv_at hl 0 rfl) ?_
  refine m_get (ci := 2) (v := .ref d0) (C := RJx4a65c) (T := TJx4a65c) (N := 3) hx hb hts i_Jx4a65c hown hK (hP _ _ h_L) rfl 1 (by decide) (hts (.fieldLink RJx4a65c 9 "java/util/ArrayList" "elementData" "[Ljava/lang/Object;") (by decide +kernel)) (fun _ h9 => h9) rfl dJx4a65c_clear_da8c8_11 ?_
  refine lv_astore_n (lv' := [(1, .ref d0), (0, .ref a0)]) hx hb dJx4a65c_clear_da8c8_14 rfl hl (by decide) rfl (fun ls hl => ?_)
  refine lv_aload_n hx hb dJx4a65c_clear_da8c8_15 rfl (lv_at hl 1 rfl) ?_
  refine m_get (ci := 2) (v := .int ((nI n0))) (C := RJx4a65c) (T := TJx4a65c) (N := 3) hx hb hts i_Jx4a65c hown hK (hP _ _ h_L) rfl 2 (by decide) (hts (.fieldLink RJx4a65c 48 "java/util/ArrayList" "size" "I") (by decide +kernel)) (fun _ h9 => h9) rfl dJx4a65c_clear_da8c8_16 ?_
  refine lv_istore_n (lv' := [(2, .int ((nI n0))), (1, .ref d0), (0, .ref a0)]) hx hb dJx4a65c_clear_da8c8_19 rfl hl (by decide) rfl (fun ls hl => ?_)
  refine lv_aload_n hx hb dJx4a65c_clear_da8c8_20 rfl (lv_at hl 2 rfl) ?_
  refine lv_iconst (v := 0) hx hb dJx4a65c_clear_da8c8_21 (by decide) ?_
  refine lv_dup_x1 hx hb dJx4a65c_clear_da8c8_22 rfl rfl ?_
  refine m_put (ci := 2) (v := .int 0) (ty := .int) (C := RJx4a65c) (T := TJx4a65c) (N := 3) hx hb hts i_Jx4a65c tyJx4a65c tyJx4a65c_ok nmJx4a65c hown hK hP hI hS h_L rfl 2 (by decide) (hts (.fieldLink RJx4a65c 48 "java/util/ArrayList" "size" "I") (by decide +kernel)) (fun _ h9 => h9) rfl (by decide +kernel) rfl rfl (Nat.le_of_ble_eq_true rfl) dJx4a65c_clear_da8c8_23 (fun H locs hP hI hS => ?_)
  have hP : mP G.1 (mu (mu Mw a0 (.inr (2, [.int (m0 + 1), .ref d0, .int ((nI n0))]))) a0 (.inr (2, [.int (m0 + 1), .ref d0, .int 0]))) H := hP
  have hI : mI A (mu (mu Mw a0 (.inr (2, [.int (m0 + 1), .ref d0, .int ((nI n0))]))) a0 (.inr (2, [.int (m0 + 1), .ref d0, .int 0]))) := hI
  have h_D := mu_k (e := .inr (2, [.int (m0 + 1), .ref d0, .int 0])) (kd_ne h_D h_L rfl) h_D
  rw [mu_uu] at hP hI h_D
  have h_L : (mu Mw a0 (.inr (2, [.int (m0 + 1), .ref d0, .int 0]))) a0 = some (.inr (2, [.int (m0 + 1), .ref d0, .int 0])) := mu_s
  refine lv_istore_n (lv' := [(3, .int 0), (2, .int ((nI n0))), (1, .ref d0), (0, .ref a0)]) hx hb dJx4a65c_clear_da8c8_26 rfl hl (by decide) rfl (fun ls hl => ?_)
  have ne_h_L_h_D := (kd_ne h_L h_D rfl)
  have loop : ∀ (n k : Nat), k ≤ n0 → k + n = n0 + 1 → ∀ (Mv_loop : mw) (H : Heap) (locs : List Loc) (ls : Array Slot), Mv_loop d0 = some (.inl (G.2.1 5, 10, .inr (.inr (.inr (.inr (clq g0 k)))))) → (∀ x : Nat, x ≠ d0 → Mv_loop x = (mu Mw a0 (.inr (2, [.int (m0 + 1), .ref d0, .int 0]))) x) → mP G.1 Mv_loop H → mI A Mv_loop → va_S A s.heap H locs → lv_has ls 4 [(0, .ref a0), (1, .ref d0), (2, .int (nI n0)), (3, .int (nI k))] → W p l e ({ frames := 0, cells := 0, slots := 0, locals := 0 }) s m ([.ref a0] : List Value).toArray below meth c H locs 0 0 (MQ below (va_Qv (fun Mw1 => Mw1 = mu (mu Mw d0 (.inl (G.2.1 5, 10, .inr (.inr (.inr (.inr (clq g0 n0))))))) a0 (.inr (2, [.int (m0 + 1), .ref d0, .int 0]))) (mE G A) A) ([.ref a0] : List Value).toArray s 0 0 A) (F0 m 27 ls []) := by
    intro n
    induction n with
    | zero => intro k hk1 hk2; omega
    | succ n ih_loop =>
      intro k hk1 hk2 Mv_loop H locs ls h_D hfr_loop hP hI hS hl
      have h_L := (hfr_loop _ ne_h_L_h_D).trans h_L
      refine lv_iload_n hx hb dJx4a65c_clear_da8c8_27 rfl (lv_at hl 3 rfl) ?_
      refine lv_iload_n hx hb dJx4a65c_clear_da8c8_28 rfl (lv_at hl 2 rfl) ?_
      refine lv_icmp_ge (tgt := 42) hx hb dJx4a65c_clear_da8c8_29 (by decide) (fun c1 => ?_) (fun c1 => ?_)
      · skip
        have hk9 : k = n0 := by rcases Nat.lt_or_ge k n0 with q | q; exact absurd (nI_lt q (by omega)) (i_nlt c1); omega
        refine W.widen (k := 0) (n := 0) (Nat.le_of_ble_eq_true rfl) (Nat.le_of_ble_eq_true rfl) ?_
        exact W.vret hx hb hr (fun t99 ht99 hW99 => ⟨⟨Mv_loop, rfl, mw_ext2 (h_D.trans (congrArg some (by rw [hk9]))) h_L (fun z h1 h2 => (hfr_loop z h1).trans (mu_n h2)), by rw [ht99]; exact hP, hI⟩, hS.F ht99⟩) hS.2.2 dJx4a65c_clear_da8c8_42
      · skip
        have hk9 : k < n0 := by rcases Nat.lt_or_ge k n0 with q | q; exact q; exact absurd (show nI n0 ≤ nI k from nI_le q (by omega)) c1
        refine lv_aload_n hx hb dJx4a65c_clear_da8c8_32 rfl (lv_at hl 1 rfl) ?_
        refine lv_iload_n hx hb dJx4a65c_clear_da8c8_33 rfl (lv_at hl 3 rfl) ?_
        refine lv_null hx hb dJx4a65c_clear_da8c8_34 ?_
        refine m_astqN hx hb hK hP hI hS 5 h_D rfl (vp_in_nI (by omega) (by omega)) dJx4a65c_clear_da8c8_35 (fun H locs hP hI hS => ?_)
        have h_L := mu_k (e := .inl (G.2.1 5, 10, .inr (.inr (.inr (.inr (va_up (clq g0 k) ((nI k).toNatClampNeg) none)))))) (kd_ne h_L h_D rfl) h_L
        have h_D : (mu Mv_loop d0 (.inl (G.2.1 5, 10, .inr (.inr (.inr (.inr (va_up (clq g0 k) ((nI k).toNatClampNeg) none))))))) d0 = some (.inl (G.2.1 5, 10, .inr (.inr (.inr (.inr (va_up (clq g0 k) ((nI k).toNatClampNeg) none)))))) := mu_s
        refine lv_iinc (v := (nI k) + 1) (lv' := [(3, .int ((nI k) + 1)), (0, .ref a0), (1, .ref d0), (2, .int (nI n0))]) hx hb dJx4a65c_clear_da8c8_36 hl (k := 3) rfl rfl (by decide) rfl (fun ls hl => ?_)
        refine lv_goto (tgt := 27) hx hb dJx4a65c_clear_da8c8_39 (by decide) ?_
        have e_3 : (nI k) + 1 = nI (k + 1) := nI_1 k
        rw [e_3] at hl
        have e_h_D : (.inl (G.2.1 5, 10, .inr (.inr (.inr (.inr (va_up (clq g0 k) ((nI k).toNatClampNeg) none))))) : va_E) = .inl (G.2.1 5, 10, .inr (.inr (.inr (.inr (clq g0 (k + 1)))))) := by rw [nI_clamp (show k < 2 ^ 31 by omega), clq_s]
        exact ih_loop (k + 1) (by omega) (by omega) _ H locs ls (h_D.trans (congrArg some e_h_D)) (fun x h90 => (mu_n h90).trans (hfr_loop x h90)) hP hI hS (lv_sub hl [1, 2, 3, 0] rfl)
  exact loop (n0 + 1 - 0) 0 (by omega) (by omega) _ _ _ _ (h_D.trans (congrArg some (by rw [← clq_0]))) (fun _ _ => rfl) hP hI hS (lv_sub hl [3, 2, 1, 0] rfl)

set_option maxHeartbeats 4000000 in
set_option maxRecDepth 100000 in
theorem c_Jx4a65c_clearE (l : Launch) (G : mg) (A : Nat → Prop) (Mw : mw) {a0 : Nat} {m0 : Int32} (h_L : Mw a0 = some (.inr (2, [.int m0, .ref (G.2.2.2 1), .int 0]))) : Met l yJx4a65c_clear_da8c8 wsJx4a65c_clear_da8c8 ({ frames := 0, cells := 0, slots := 0, locals := 0 }) (va_Pc [.ref a0] (mB G A Mw)) (va_Qv (fun Mw1 => Mw1 = mu Mw a0 (.inr (2, [.int (m0 + 1), .ref (G.2.2.2 1), .int 0]))) (mE G A) A) 0 0 A := by
  refine Met.ofW (cc := cJx4a65c_clear_da8c8) (maxL := 4) (ret := none) (by decide) rfl ?_
  intro p e s m args below meth c s₁ B hml hv
  obtain ⟨rfl, hG, hP, hI, hA⟩ := hv
  have hx := B.exec
  have hb := B.bytes
  have hr := B.returns
  have hts := atoms_spec (ws := wsJx4a65c_clear_da8c8) B.pre
  have hown : s.vm.findClass RJx4a65c = some m.cls := findClass_of_methodNamed B.named
  have hlocks := B.notSynchronized
  have hK := hG.K
  have i_Jx4a65c : ∀ w ∈ wsJx4a65c0, w ∈ wsJx4a65c_clear_da8c8 := by decide +kernel
  have hS : va_S A s.heap s.heap [] := va_S.rf
  have hl := lv_entry ([.ref a0]) (n := 4) (Nat.le_of_ble_eq_true rfl)
  rw [lg_entry_eq]
  generalize (lg_sl ([.ref a0]) ++ List.replicate (4 - (lg_sl ([.ref a0])).length) Slot.unset).toArray = ls at hl ⊢
  have hl : lv_has ls 4 [(0, .ref a0)] := hl
  have hP : mP G.1 Mw s.heap := hP
  refine lv_aload_n hx hb dJx4a65c_clear_da8c8_0 rfl (lv_at hl 0 rfl) ?_
  refine lv_dup hx hb dJx4a65c_clear_da8c8_1 rfl ?_
  refine m_get (ci := 2) (v := .int m0) (C := RJx4a65c) (T := TJx4a65c) (N := 3) hx hb hts i_Jx4a65c hown hK (hP _ _ h_L) rfl 0 (by decide) (hts (.fieldLink RJx4a65c 63 "java/util/ArrayList" "modCount" "I") (by decide +kernel)) (fun x9 h9 => u_same (hts (.sameField "java/util/ArrayList" "java/util/AbstractList" "modCount" "I") (by decide +kernel)) x9 h9) rfl dJx4a65c_clear_da8c8_2 ?_
  refine lv_iconst (v := 1) hx hb dJx4a65c_clear_da8c8_5 (by decide) ?_
  refine lv_iadd hx hb dJx4a65c_clear_da8c8_6 ?_
  refine m_put (ci := 2) (v := .int (m0 + 1)) (ty := .int) (C := RJx4a65c) (T := TJx4a65c) (N := 3) hx hb hts i_Jx4a65c tyJx4a65c tyJx4a65c_ok nmJx4a65c hown hK hP hI hS h_L rfl 0 (by decide) (hts (.fieldLink RJx4a65c 63 "java/util/ArrayList" "modCount" "I") (by decide +kernel)) (fun x9 h9 => u_same (hts (.sameField "java/util/ArrayList" "java/util/AbstractList" "modCount" "I") (by decide +kernel)) x9 h9) rfl (by decide +kernel) rfl rfl (Nat.le_of_ble_eq_true rfl) dJx4a65c_clear_da8c8_7 (fun H locs hP hI hS => ?_)
  have hP : mP G.1 (mu Mw a0 (.inr (2, [.int (m0 + 1), .ref (G.2.2.2 1), .int 0]))) H := hP
  have hI : mI A (mu Mw a0 (.inr (2, [.int (m0 + 1), .ref (G.2.2.2 1), .int 0]))) := hI
  have h_L : (mu Mw a0 (.inr (2, [.int (m0 + 1), .ref (G.2.2.2 1), .int 0]))) a0 = some (.inr (2, [.int (m0 + 1), .ref (G.2.2.2 1), .int 0])) := mu_s
  refine lv_aload_n hx hb dJx4a65c_clear_da8c8_10 rfl (lv_at hl 0 rfl) ?_
  refine m_get (ci := 2) (v := .ref (G.2.2.2 1)) (C := RJx4a65c) (T := TJx4a65c) (N := 3) hx hb hts i_Jx4a65c hown hK (hP _ _ h_L) rfl 1 (by decide) (hts (.fieldLink RJx4a65c 9 "java/util/ArrayList" "elementData" "[Ljava/lang/Object;") (by decide +kernel)) (fun _ h9 => h9) rfl dJx4a65c_clear_da8c8_11 ?_
  refine lv_astore_n (lv' := [(1, .ref (G.2.2.2 1)), (0, .ref a0)]) hx hb dJx4a65c_clear_da8c8_14 rfl hl (by decide) rfl (fun ls hl => ?_)
  refine lv_aload_n hx hb dJx4a65c_clear_da8c8_15 rfl (lv_at hl 1 rfl) ?_
  refine m_get (ci := 2) (v := .int 0) (C := RJx4a65c) (T := TJx4a65c) (N := 3) hx hb hts i_Jx4a65c hown hK (hP _ _ h_L) rfl 2 (by decide) (hts (.fieldLink RJx4a65c 48 "java/util/ArrayList" "size" "I") (by decide +kernel)) (fun _ h9 => h9) rfl dJx4a65c_clear_da8c8_16 ?_
  refine lv_istore_n (lv' := [(2, .int 0), (1, .ref (G.2.2.2 1)), (0, .ref a0)]) hx hb dJx4a65c_clear_da8c8_19 rfl hl (by decide) rfl (fun ls hl => ?_)
  refine lv_aload_n hx hb dJx4a65c_clear_da8c8_20 rfl (lv_at hl 2 rfl) ?_
  refine lv_iconst (v := 0) hx hb dJx4a65c_clear_da8c8_21 (by decide) ?_
  refine lv_dup_x1 hx hb dJx4a65c_clear_da8c8_22 rfl rfl ?_
  refine m_put (ci := 2) (v := .int 0) (ty := .int) (C := RJx4a65c) (T := TJx4a65c) (N := 3) hx hb hts i_Jx4a65c tyJx4a65c tyJx4a65c_ok nmJx4a65c hown hK hP hI hS h_L rfl 2 (by decide) (hts (.fieldLink RJx4a65c 48 "java/util/ArrayList" "size" "I") (by decide +kernel)) (fun _ h9 => h9) rfl (by decide +kernel) rfl rfl (Nat.le_of_ble_eq_true rfl) dJx4a65c_clear_da8c8_23 (fun H locs hP hI hS => ?_)
  have hP : mP G.1 (mu (mu Mw a0 (.inr (2, [.int (m0 + 1), .ref (G.2.2.2 1), .int 0]))) a0 (.inr (2, [.int (m0 + 1), .ref (G.2.2.2 1), .int 0]))) H := hP
  have hI : mI A (mu (mu Mw a0 (.inr (2, [.int (m0 + 1), .ref (G.2.2.2 1), .int 0]))) a0 (.inr (2, [.int (m0 + 1), .ref (G.2.2.2 1), .int 0]))) := hI
  rw [mu_uu] at hP hI 
  have h_L : (mu Mw a0 (.inr (2, [.int (m0 + 1), .ref (G.2.2.2 1), .int 0]))) a0 = some (.inr (2, [.int (m0 + 1), .ref (G.2.2.2 1), .int 0])) := mu_s
  refine lv_istore_n (lv' := [(3, .int 0), (2, .int 0), (1, .ref (G.2.2.2 1)), (0, .ref a0)]) hx hb dJx4a65c_clear_da8c8_26 rfl hl (by decide) rfl (fun ls hl => ?_)
  refine lv_iload_n hx hb dJx4a65c_clear_da8c8_27 rfl (lv_at hl 0 rfl) ?_
  refine lv_iload_n hx hb dJx4a65c_clear_da8c8_28 rfl (lv_at hl 1 rfl) ?_
  refine lv_icmp_ge (tgt := 42) hx hb dJx4a65c_clear_da8c8_29 (by decide) (fun _ => ?_) (fun h9 => absurd h9 (by decide))
  refine W.widen (k := 0) (n := 0) (Nat.le_of_ble_eq_true rfl) (Nat.le_of_ble_eq_true rfl) ?_
  exact W.vret hx hb hr (fun t99 ht99 hW99 => ⟨⟨(mu Mw a0 (.inr (2, [.int (m0 + 1), .ref (G.2.2.2 1), .int 0]))), rfl, mw_ext1 h_L (fun z h1 => (mu_n h1).trans (rfl)), by rw [ht99]; exact hP, hI⟩, hS.F ht99⟩) hS.2.2 dJx4a65c_clear_da8c8_42

set_option maxHeartbeats 4000000 in
set_option maxRecDepth 100000 in
theorem c_Jx4a65c_fastRemove_b59b0 (l : Launch) (G : mg) (A : Nat → Prop) (Mw : mw) {a0 d0 : Nat} {m0 : Int32} (h_L : Mw a0 = some (.inr (2, [.int m0, .ref d0, .int 8]))) {g0 : Nat → Option Nat} (h_D : Mw d0 = some (.inl (G.2.1 5, 10, .inr (.inr (.inr (.inr g0)))))) (hel : ∀ i y : Nat, g0 i = some y → ∃ x : Int32, Mw y = some (.inr (0, [.int x])) ∨ G.2.2.1 y = some (.inr (0, [.int x]))) : Met l yJx4a65c_fastRemove_b59b0 wsJx4a65c_fastRemove_b59b0 ({ frames := 1, cells := 0, slots := 0, locals := 40 }) (va_Pc [.ref a0, .ref d0, .int 0] (mB G A Mw)) (va_Qv (fun Mw1 => Mw1 = mu (mu Mw d0 (.inl (G.2.1 5, 10, .inr (.inr (.inr (.inr (va_up (va_cpy g0 g0 1 0 7) 7 none))))))) a0 (.inr (2, [.int (m0 + 1), .ref d0, .int (8 - 1)]))) (mE G A) A) 0 0 A := by
  refine Met.ofW (cc := cJx4a65c_fastRemove_b59b0) (maxL := 4) (ret := none) (by decide) rfl ?_
  intro p e s m args below meth c s₁ B hml hv
  obtain ⟨rfl, hG, hP, hI, hA⟩ := hv
  have hx := B.exec
  have hb := B.bytes
  have hr := B.returns
  have hts := atoms_spec (ws := wsJx4a65c_fastRemove_b59b0) B.pre
  have hown : s.vm.findClass RJx4a65c = some m.cls := findClass_of_methodNamed B.named
  have hlocks := B.notSynchronized
  have hK := hG.K
  have i_Jx4a65c : ∀ w ∈ wsJx4a65c0, w ∈ wsJx4a65c_fastRemove_b59b0 := by decide +kernel
  have hS : va_S A s.heap s.heap [] := va_S.rf
  have hl := lv_entry ([.ref a0, .ref d0, .int 0]) (n := 4) (Nat.le_of_ble_eq_true rfl)
  rw [lg_entry_eq]
  generalize (lg_sl ([.ref a0, .ref d0, .int 0]) ++ List.replicate (4 - (lg_sl ([.ref a0, .ref d0, .int 0])).length) Slot.unset).toArray = ls at hl ⊢
  have hl : lv_has ls 4 [(0, .ref a0), (1, .ref d0), (2, .int 0)] := hl
  have hP : mP G.1 Mw s.heap := hP
  have h_L0 := h_L
  refine lv_aload_n hx hb dJx4a65c_fastRemove_b59b0_0 rfl (lv_at hl 0 rfl) ?_
  refine lv_dup hx hb dJx4a65c_fastRemove_b59b0_1 rfl ?_
  refine m_get (ci := 2) (v := .int m0) (C := RJx4a65c) (T := TJx4a65c) (N := 3) hx hb hts i_Jx4a65c hown hK (hP _ _ h_L) rfl 0 (by decide) (hts (.fieldLink RJx4a65c 63 "java/util/ArrayList" "modCount" "I") (by decide +kernel)) (fun x9 h9 => u_same (hts (.sameField "java/util/ArrayList" "java/util/AbstractList" "modCount" "I") (by decide +kernel)) x9 h9) rfl dJx4a65c_fastRemove_b59b0_2 ?_
  refine lv_iconst (v := 1) hx hb dJx4a65c_fastRemove_b59b0_5 (by decide) ?_
  refine lv_iadd hx hb dJx4a65c_fastRemove_b59b0_6 ?_
  refine m_put (ci := 2) (v := .int (m0 + 1)) (ty := .int) (C := RJx4a65c) (T := TJx4a65c) (N := 3) hx hb hts i_Jx4a65c tyJx4a65c tyJx4a65c_ok nmJx4a65c hown hK hP hI hS h_L rfl 0 (by decide) (hts (.fieldLink RJx4a65c 63 "java/util/ArrayList" "modCount" "I") (by decide +kernel)) (fun x9 h9 => u_same (hts (.sameField "java/util/ArrayList" "java/util/AbstractList" "modCount" "I") (by decide +kernel)) x9 h9) rfl (by decide +kernel) rfl rfl (Nat.le_of_ble_eq_true rfl) dJx4a65c_fastRemove_b59b0_7 (fun H locs hP hI hS => ?_)
  have hP : mP G.1 (mu Mw a0 (.inr (2, [.int (m0 + 1), .ref d0, .int 8]))) H := hP
  have hI : mI A (mu Mw a0 (.inr (2, [.int (m0 + 1), .ref d0, .int 8]))) := hI
  have h_D := mu_k (e := .inr (2, [.int (m0 + 1), .ref d0, .int 8])) (kd_ne h_D h_L rfl) h_D
  have h_L : (mu Mw a0 (.inr (2, [.int (m0 + 1), .ref d0, .int 8]))) a0 = some (.inr (2, [.int (m0 + 1), .ref d0, .int 8])) := mu_s
  refine lv_aload_n hx hb dJx4a65c_fastRemove_b59b0_10 rfl (lv_at hl 0 rfl) ?_
  refine m_get (ci := 2) (v := .int 8) (C := RJx4a65c) (T := TJx4a65c) (N := 3) hx hb hts i_Jx4a65c hown hK (hP _ _ h_L) rfl 2 (by decide) (hts (.fieldLink RJx4a65c 48 "java/util/ArrayList" "size" "I") (by decide +kernel)) (fun _ h9 => h9) rfl dJx4a65c_fastRemove_b59b0_11 ?_
  refine lv_iconst (v := 1) hx hb dJx4a65c_fastRemove_b59b0_14 (by decide) ?_
  refine lv_isub hx hb dJx4a65c_fastRemove_b59b0_15 ?_
  refine lv_dup hx hb dJx4a65c_fastRemove_b59b0_16 rfl ?_
  refine lv_istore_n (lv' := [(3, .int (8 - 1)), (0, .ref a0), (1, .ref d0), (2, .int 0)]) hx hb dJx4a65c_fastRemove_b59b0_17 rfl hl (by decide) rfl (fun ls hl => ?_)
  refine lv_iload_n hx hb dJx4a65c_fastRemove_b59b0_18 rfl (lv_at hl 3 rfl) ?_
  refine lv_icmp_le (tgt := 34) hx hb dJx4a65c_fastRemove_b59b0_19 (by decide) (fun c1 => absurd c1 (by decide)) (fun c1 => ?_)
  refine lv_aload_n hx hb dJx4a65c_fastRemove_b59b0_22 rfl (lv_at hl 2 rfl) ?_
  refine lv_iload_n hx hb dJx4a65c_fastRemove_b59b0_23 rfl (lv_at hl 3 rfl) ?_
  refine lv_iconst (v := 1) hx hb dJx4a65c_fastRemove_b59b0_24 (by decide) ?_
  refine lv_iadd hx hb dJx4a65c_fastRemove_b59b0_25 ?_
  refine lv_aload_n hx hb dJx4a65c_fastRemove_b59b0_26 rfl (lv_at hl 2 rfl) ?_
  refine lv_iload_n hx hb dJx4a65c_fastRemove_b59b0_27 rfl (lv_at hl 3 rfl) ?_
  refine lv_iload_n hx hb dJx4a65c_fastRemove_b59b0_28 rfl (lv_at hl 0 rfl) ?_
  refine lv_iload_n hx hb dJx4a65c_fastRemove_b59b0_29 rfl (lv_at hl 3 rfl) ?_
  refine lv_isub hx hb dJx4a65c_fastRemove_b59b0_30 ?_
  refine m_copyq hx hb (hml.trans hl.1.symm) hown (hts (.methodLink RJx4a65c 112 arraycopyName) (by decide +kernel)) (hts (.native arraycopyName) (by decide +kernel)) (hts (.static arraycopyName) (by decide +kernel)) (hts (.initialized "java/lang/System") (by decide +kernel)) hK hP hI hS 5 (r := (RJ6, TJ6, 1)) (ci := 0) h_D rfl (by decide) (by decide) (by decide) (by decide) (by decide) rfl (fun i y hy => by obtain ⟨x, hx9⟩ := hel i y hy; exact or_recv (rv := (RJ6, TJ6, 1)) hG hS hP (hx9.imp (fun z => mu_k (kd_ne z h_L0 rfl) z) id) rfl) (hG.2.1.2.2.2.1 ("java/lang/Integer", "java/lang/Object") (by decide +kernel)) (Nat.le_of_ble_eq_true rfl) (Nat.le_of_ble_eq_true rfl) dJx4a65c_fastRemove_b59b0_31 (fun H locs hP hI hS => ?_)
  have h_L := mu_k (e := .inl (G.2.1 5, 10, .inr (.inr (.inr (.inr (va_cpy g0 g0 (0 + 1 : Int32).toNatClampNeg (0 : Int32).toNatClampNeg ((8 - 1) - 0 : Int32).toNatClampNeg)))))) (kd_ne h_L h_D rfl) h_L
  have h_D : (mu (mu Mw a0 (.inr (2, [.int (m0 + 1), .ref d0, .int 8]))) d0 (.inl (G.2.1 5, 10, .inr (.inr (.inr (.inr (va_cpy g0 g0 (0 + 1 : Int32).toNatClampNeg (0 : Int32).toNatClampNeg ((8 - 1) - 0 : Int32).toNatClampNeg))))))) d0 = some (.inl (G.2.1 5, 10, .inr (.inr (.inr (.inr (va_cpy g0 g0 (0 + 1 : Int32).toNatClampNeg (0 : Int32).toNatClampNeg ((8 - 1) - 0 : Int32).toNatClampNeg)))))) := mu_s
  refine lv_aload_n hx hb dJx4a65c_fastRemove_b59b0_34 rfl (lv_at hl 2 rfl) ?_
  refine lv_aload_n hx hb dJx4a65c_fastRemove_b59b0_35 rfl (lv_at hl 1 rfl) ?_
  refine lv_iload_n hx hb dJx4a65c_fastRemove_b59b0_36 rfl (lv_at hl 0 rfl) ?_
  refine lv_dup_x1 hx hb dJx4a65c_fastRemove_b59b0_37 rfl rfl ?_
  refine m_put (ci := 2) (v := .int (8 - 1)) (ty := .int) (C := RJx4a65c) (T := TJx4a65c) (N := 3) hx hb hts i_Jx4a65c tyJx4a65c tyJx4a65c_ok nmJx4a65c hown hK hP hI hS h_L rfl 2 (by decide) (hts (.fieldLink RJx4a65c 48 "java/util/ArrayList" "size" "I") (by decide +kernel)) (fun _ h9 => h9) rfl (by decide +kernel) rfl rfl (Nat.le_of_ble_eq_true rfl) dJx4a65c_fastRemove_b59b0_38 (fun H locs hP hI hS => ?_)
  have hP : mP G.1 (mu (mu (mu Mw a0 (.inr (2, [.int (m0 + 1), .ref d0, .int 8]))) d0 (.inl (G.2.1 5, 10, .inr (.inr (.inr (.inr (va_cpy g0 g0 (0 + 1 : Int32).toNatClampNeg (0 : Int32).toNatClampNeg ((8 - 1) - 0 : Int32).toNatClampNeg))))))) a0 (.inr (2, [.int (m0 + 1), .ref d0, .int (8 - 1)]))) H := hP
  have hI : mI A (mu (mu (mu Mw a0 (.inr (2, [.int (m0 + 1), .ref d0, .int 8]))) d0 (.inl (G.2.1 5, 10, .inr (.inr (.inr (.inr (va_cpy g0 g0 (0 + 1 : Int32).toNatClampNeg (0 : Int32).toNatClampNeg ((8 - 1) - 0 : Int32).toNatClampNeg))))))) a0 (.inr (2, [.int (m0 + 1), .ref d0, .int (8 - 1)]))) := hI
  have h_D := mu_k (e := .inr (2, [.int (m0 + 1), .ref d0, .int (8 - 1)])) (kd_ne h_D h_L rfl) h_D
  have h_L : (mu (mu (mu Mw a0 (.inr (2, [.int (m0 + 1), .ref d0, .int 8]))) d0 (.inl (G.2.1 5, 10, .inr (.inr (.inr (.inr (va_cpy g0 g0 (0 + 1 : Int32).toNatClampNeg (0 : Int32).toNatClampNeg ((8 - 1) - 0 : Int32).toNatClampNeg))))))) a0 (.inr (2, [.int (m0 + 1), .ref d0, .int (8 - 1)]))) a0 = some (.inr (2, [.int (m0 + 1), .ref d0, .int (8 - 1)])) := mu_s
  refine lv_null hx hb dJx4a65c_fastRemove_b59b0_41 ?_
  refine m_astqN hx hb hK hP hI hS 5 h_D rfl (show vp_in (8 - 1) 10 by unfold vp_in; decide) dJx4a65c_fastRemove_b59b0_42 (fun H locs hP hI hS => ?_)
  have h_L := mu_k (e := .inl (G.2.1 5, 10, .inr (.inr (.inr (.inr (va_up (va_cpy g0 g0 (0 + 1 : Int32).toNatClampNeg (0 : Int32).toNatClampNeg ((8 - 1) - 0 : Int32).toNatClampNeg) ((8 - 1 : Int32).toNatClampNeg) none)))))) (kd_ne h_L h_D rfl) h_L
  have h_D : (mu (mu (mu (mu Mw a0 (.inr (2, [.int (m0 + 1), .ref d0, .int 8]))) d0 (.inl (G.2.1 5, 10, .inr (.inr (.inr (.inr (va_cpy g0 g0 (0 + 1 : Int32).toNatClampNeg (0 : Int32).toNatClampNeg ((8 - 1) - 0 : Int32).toNatClampNeg))))))) a0 (.inr (2, [.int (m0 + 1), .ref d0, .int (8 - 1)]))) d0 (.inl (G.2.1 5, 10, .inr (.inr (.inr (.inr (va_up (va_cpy g0 g0 (0 + 1 : Int32).toNatClampNeg (0 : Int32).toNatClampNeg ((8 - 1) - 0 : Int32).toNatClampNeg) ((8 - 1 : Int32).toNatClampNeg) none))))))) d0 = some (.inl (G.2.1 5, 10, .inr (.inr (.inr (.inr (va_up (va_cpy g0 g0 (0 + 1 : Int32).toNatClampNeg (0 : Int32).toNatClampNeg ((8 - 1) - 0 : Int32).toNatClampNeg) ((8 - 1 : Int32).toNatClampNeg) none)))))) := mu_s
  refine W.widen (k := 0) (n := 0) (Nat.le_of_ble_eq_true rfl) (Nat.le_of_ble_eq_true rfl) ?_
  exact W.vret hx hb hr (fun t99 ht99 hW99 => ⟨⟨(mu (mu (mu (mu Mw a0 (.inr (2, [.int (m0 + 1), .ref d0, .int 8]))) d0 (.inl (G.2.1 5, 10, .inr (.inr (.inr (.inr (va_cpy g0 g0 (0 + 1 : Int32).toNatClampNeg (0 : Int32).toNatClampNeg ((8 - 1) - 0 : Int32).toNatClampNeg))))))) a0 (.inr (2, [.int (m0 + 1), .ref d0, .int (8 - 1)]))) d0 (.inl (G.2.1 5, 10, .inr (.inr (.inr (.inr (va_up (va_cpy g0 g0 (0 + 1 : Int32).toNatClampNeg (0 : Int32).toNatClampNeg ((8 - 1) - 0 : Int32).toNatClampNeg) ((8 - 1 : Int32).toNatClampNeg) none))))))), rfl, mw_ext2 (h_D.trans (congrArg some (by rfl))) h_L (fun z h1 h2 => (mu_n h1).trans ((mu_n h2).trans ((mu_n h1).trans ((mu_n h2).trans (rfl))))), by rw [ht99]; exact hP, hI⟩, hS.F ht99⟩) hS.2.2 dJx4a65c_fastRemove_b59b0_43

set_option maxHeartbeats 4000000 in
set_option maxRecDepth 100000 in
theorem c_Jx4a65c_remove_915e3 (l : Launch) (G : mg) (A : Nat → Prop) (Mw : mw) {a0 d0 : Nat} {m0 : Int32} (h_L : Mw a0 = some (.inr (2, [.int m0, .ref d0, .int 8]))) {g0 : Nat → Option Nat} (h_D : Mw d0 = some (.inl (G.2.1 5, 10, .inr (.inr (.inr (.inr g0)))))) (hel : ∀ i y : Nat, g0 i = some y → ∃ x : Int32, Mw y = some (.inr (0, [.int x])) ∨ G.2.2.1 y = some (.inr (0, [.int x]))) {x0 : Nat} (hx0 : g0 0 = some x0) : Met l yJx4a65c_remove_915e3 wsJx4a65c_remove_915e3 ({ frames := 2, cells := 0, slots := 0, locals := 63 }) (va_Pc [.ref a0, .int 0] (mB G A Mw)) (va_Qq (fun r Mw1 => r = some x0 ∧ Mw1 = mu (mu Mw d0 (.inl (G.2.1 5, 10, .inr (.inr (.inr (.inr (va_up (va_cpy g0 g0 1 0 7) 7 none))))))) a0 (.inr (2, [.int (m0 + 1), .ref d0, .int (8 - 1)]))) (mE G A) A) 0 0 A := by
  refine Met.ofW (cc := cJx4a65c_remove_915e3) (maxL := 4) (ret := (some (.object "java/lang/Object"))) (by decide) rfl ?_
  intro p e s m args below meth c s₁ B hml hv
  obtain ⟨rfl, hG, hP, hI, hA⟩ := hv
  have hx := B.exec
  have hb := B.bytes
  have hr := B.returns
  have hts := atoms_spec (ws := wsJx4a65c_remove_915e3) B.pre
  have hown : s.vm.findClass RJx4a65c = some m.cls := findClass_of_methodNamed B.named
  have hlocks := B.notSynchronized
  have hK := hG.K
  have i_Jx4a65c : ∀ w ∈ wsJx4a65c0, w ∈ wsJx4a65c_remove_915e3 := by decide +kernel
  have hS : va_S A s.heap s.heap [] := va_S.rf
  have hl := lv_entry ([.ref a0, .int 0]) (n := 4) (Nat.le_of_ble_eq_true rfl)
  rw [lg_entry_eq]
  generalize (lg_sl ([.ref a0, .int 0]) ++ List.replicate (4 - (lg_sl ([.ref a0, .int 0])).length) Slot.unset).toArray = ls at hl ⊢
  have hl : lv_has ls 4 [(0, .ref a0), (1, .int 0)] := hl
  have hP : mP G.1 Mw s.heap := hP
  refine lv_iload_n hx hb dJx4a65c_remove_915e3_0 rfl (lv_at hl 1 rfl) ?_
  refine lv_aload_n hx hb dJx4a65c_remove_915e3_1 rfl (lv_at hl 0 rfl) ?_
  refine m_get (ci := 2) (v := .int 8) (C := RJx4a65c) (T := TJx4a65c) (N := 3) hx hb hts i_Jx4a65c hown hK (hP _ _ h_L) rfl 2 (by decide) (hts (.fieldLink RJx4a65c 48 "java/util/ArrayList" "size" "I") (by decide +kernel)) (fun _ h9 => h9) rfl dJx4a65c_remove_915e3_2 ?_
  refine m_calli (va_runS (As := [.int 0, .int 8]) (rest := []) ⟨hx, hb, hml, hown, hts⟩ (c_J15_checkIndex_7cf53 l G A Mw  0 8 (by decide) (by decide)) (va_cwS 2 hts gJx4a65c_remove_915e3_J15_checkIndex_7cf53 rfl rfl rfl (by decide +kernel) ⟨Nat.le_of_ble_eq_true rfl, Nat.le_of_ble_eq_true rfl⟩) (mPreS hG hS hP hI hA) rfl rfl hl.1 rfl (lv_room (Nat.le_of_ble_eq_true rfl)) dJx4a65c_remove_915e3_5 ⟨Nat.le_of_ble_eq_true rfl, Nat.le_of_ble_eq_true rfl⟩) hS (fun r1 Mw1 H locs hp_r1 hP hI hS => ?_)
  obtain ⟨hp_r1, hm9⟩ := hp_r1
  subst Mw1
  refine lv_pop hx hb dJx4a65c_remove_915e3_8 rfl ?_
  refine lv_aload_n hx hb dJx4a65c_remove_915e3_9 rfl (lv_at hl 0 rfl) ?_
  refine m_get (ci := 2) (v := .ref d0) (C := RJx4a65c) (T := TJx4a65c) (N := 3) hx hb hts i_Jx4a65c hown hK (hP _ _ h_L) rfl 1 (by decide) (hts (.fieldLink RJx4a65c 9 "java/util/ArrayList" "elementData" "[Ljava/lang/Object;") (by decide +kernel)) (fun _ h9 => h9) rfl dJx4a65c_remove_915e3_10 ?_
  refine lv_astore_n (lv' := [(2, .ref d0), (0, .ref a0), (1, .int 0)]) hx hb dJx4a65c_remove_915e3_13 rfl hl (by decide) rfl (fun ls hl => ?_)
  refine lv_aload_n hx hb dJx4a65c_remove_915e3_14 rfl (lv_at hl 0 rfl) ?_
  refine lv_iload_n hx hb dJx4a65c_remove_915e3_15 rfl (lv_at hl 2 rfl) ?_
  refine m_aldq hx hb hK 5 (hP _ _ h_D) rfl (show vp_in 0 10 by unfold vp_in; decide) dJx4a65c_remove_915e3_16 ?_
  rw [show g0 (0 : Int32).toNatClampNeg = some x0 from hx0]
  refine lv_astore_n (lv' := [(3, .ref x0), (2, .ref d0), (0, .ref a0), (1, .int 0)]) hx hb dJx4a65c_remove_915e3_17 rfl hl (by decide) rfl (fun ls hl => ?_)
  refine lv_aload_n hx hb dJx4a65c_remove_915e3_18 rfl (lv_at hl 2 rfl) ?_
  refine lv_aload_n hx hb dJx4a65c_remove_915e3_19 rfl (lv_at hl 1 rfl) ?_
  refine lv_iload_n hx hb dJx4a65c_remove_915e3_20 rfl (lv_at hl 3 rfl) ?_
  refine m_callv (va_runV (As := [.ref d0, .int 0]) (rest := []) ⟨hx, hb, hml, hown, hts⟩ (c_Jx4a65c_fastRemove_b59b0 l G A Mw  h_L h_D hel) (cwV 2 hts gJx4a65c_remove_915e3_Jx4a65c_fastRemove_b59b0 rfl rfl rfl (by decide +kernel) ⟨Nat.le_of_ble_eq_true rfl, Nat.le_of_ble_eq_true rfl⟩) (mPreV hG hS hP hI hA (hP _ _ h_L) (r := (RJx4a65c, TJx4a65c, 3)) rfl) rfl rfl hl.1 rfl (lv_room (Nat.le_of_ble_eq_true rfl)) dJx4a65c_remove_915e3_21 ⟨Nat.le_of_ble_eq_true rfl, Nat.le_of_ble_eq_true rfl⟩) hS (fun Mw1 H locs hp_r2 hP hI hS => ?_)
  subst Mw1
  have h_L := mu_k (e := .inl (G.2.1 5, 10, .inr (.inr (.inr (.inr (va_up (va_cpy g0 g0 1 0 7) 7 none)))))) (kd_ne h_L h_D rfl) h_L
  have h_D : (mu Mw d0 (.inl (G.2.1 5, 10, .inr (.inr (.inr (.inr (va_up (va_cpy g0 g0 1 0 7) 7 none))))))) d0 = some (.inl (G.2.1 5, 10, .inr (.inr (.inr (.inr (va_up (va_cpy g0 g0 1 0 7) 7 none)))))) := mu_s
  have h_D := mu_k (e := .inr (2, [.int (m0 + 1), .ref d0, .int (8 - 1)])) (kd_ne h_D h_L rfl) h_D
  have h_L : (mu (mu Mw d0 (.inl (G.2.1 5, 10, .inr (.inr (.inr (.inr (va_up (va_cpy g0 g0 1 0 7) 7 none))))))) a0 (.inr (2, [.int (m0 + 1), .ref d0, .int (8 - 1)]))) a0 = some (.inr (2, [.int (m0 + 1), .ref d0, .int (8 - 1)])) := mu_s
  refine lv_aload_n hx hb dJx4a65c_remove_915e3_24 rfl (lv_at hl 0 rfl) ?_
  refine W.widen (k := 0) (n := 0) (Nat.le_of_ble_eq_true rfl) (Nat.le_of_ble_eq_true rfl) ?_
  exact W.aret (v := .ref x0) hx hb hr (Or.inl ⟨_, rfl⟩) (Or.inr ⟨_, rfl⟩) (fun t99 ht99 hW99 => ⟨⟨some x0, (mu (mu Mw d0 (.inl (G.2.1 5, 10, .inr (.inr (.inr (.inr (va_up (va_cpy g0 g0 1 0 7) 7 none))))))) a0 (.inr (2, [.int (m0 + 1), .ref d0, .int (8 - 1)]))), rfl, ⟨rfl, rfl⟩, by rw [ht99]; exact hP, hI⟩, hS.F ht99⟩) hS.2.2 dJx4a65c_remove_915e3_25
