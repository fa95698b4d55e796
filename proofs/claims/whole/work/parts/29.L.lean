theorem vf_0 {f : Nat → Int64} {x : Int64} : vf_upd f (0 : Int32).toNatClampNeg x 0 = x := if_pos rfl
theorem vf_0d {f : Nat → UInt64} {x : UInt64} : vf_upd f (0 : Int32).toNatClampNeg x 0 = x := if_pos rfl
theorem chk_01 {P : Prop} {k : Nat} {s : St} {r : Nat × Int32 × St} (h : r.2.1 = 0 ∨ r.2.1 = 1) : (chk P k s r).2.1 = 0 ∨ (chk P k s r).2.1 = 1 := by
  by_cases q : P
  · rw [chk_p q]
    exact h
  · rw [chk_n q]
    exact Or.inl rfl
theorem b01_isCertified (st : St) (p0 : Int32) : (m_isCertified st p0).2.1 = 0 ∨ (m_isCertified st p0).2.1 = 1 := chk_01 (crtO01 _ _ _)
theorem b01_isBroken (st : St) (p0 : Int32) : (m_isBroken st p0).2.1 = 0 ∨ (m_isBroken st p0).2.1 = 1 := chk_01 (by show (if _ then (0 : Int32) else 1) = 0 ∨ (if _ then (0 : Int32) else 1) = 1; split; exact Or.inl rfl; exact Or.inr rfl)
theorem b01_keep {st : St} (hV : Inv st) (p0 p1 : Int32) : (m_keep st p0 p1).2.1 = 0 ∨ (m_keep st p0 p1).2.1 = 1 := by
  by_cases q : iok st p0
  · have e : (m_keep st p0 p1).2.1 = itS st (ix p0) 9 := by unfold m_keep; rw [chk_p q]
    rw [e]
    exact (ivG_of (hV.2.2.1 _ q.2)).2.2.2.2.2.2.2.2.2.2.1
  · left
    unfold m_keep
    rw [chk_n q]
theorem rf_draw (st : St) (p0 p1 : Int32) : (m_draw st p0 p1).1 ≠ 0 → (m_draw st p0 p1).2.2 = st := by
  unfold m_draw
  first | exact chk_ref (ref_0) | exact chk_ref (chk_ref (ref_0)) | exact chk_ref (chk_ref (chk_ref (ref_0))) | exact chk_ref (chk_ref (chk_ref (chk_ref (ref_0)))) | exact chk_ref (chk_ref (chk_ref (chk_ref (chk_ref (ref_0))))) | exact chk_ref (chk_ref (chk_ref (chk_ref (chk_ref (chk_ref (ref_0)))))) | exact chk_ref (chk_ref (chk_ref (chk_ref (chk_ref (chk_ref (chk_ref (ref_0)))))))
set_option maxHeartbeats 4000000 in
set_option maxRecDepth 100000 in
theorem c_L_draw (l : Launch) (G : mg) (A : Nat → Prop) (Mc : mw) (hl9 : l.stackTraces = false) (st : St) (ad : adr) (p0 p1 : Int32) (o0 : Nat) {f0 : Nat → Int64} (hMo : Mc o0 = none) (hC : CS G st ad Mc) (hV : Inv st) : vx_Met l yL_draw wsL_draw ({ frames := 8, cells := 4, slots := 34, locals := 127 }) (va_Pc [.ref (ad 0 0), .int p0, .int p1, .ref o0] (mB G A (mu Mc o0 (.inl (G.2.1 1, 1, .inr (.inl f0)))))) (va_Qi (fun r Mw1 => ∃ (ad1 : adr) (Mc1 : mw) (f1 : Nat → Int64), r = nI (m_draw st p0 p1).1 ∧ Mc1 o0 = none ∧ Mw1 = mu Mc1 o0 (.inl (G.2.1 1, 1, .inr (.inl f1))) ∧ CS G (m_draw st p0 p1).2.2 ad1 Mc1 ∧ ad1 0 0 = ad 0 0 ∧ ((m_draw st p0 p1).1 = 0 → f1 0 = (m_draw st p0 p1).2.1.toInt64)) (mE G A) A) (xX (fun _ => False) G A (mu Mc o0 (.inl (G.2.1 1, 1, .inr (.inl f0))))) 4 34 A := by
  refine vx_ofWH (cc := cL_draw) (maxL := 5) (ret := (some .int)) (by decide) rfl ?_
  intro p e s m args below meth c s₁ B hml hv
  obtain ⟨rfl, hG, hP, hI, hA⟩ := hv
  have hx := B.exec
  have hb := B.bytes
  have hr := B.returns
  have hts := atoms_spec (ws := wsL_draw) B.pre
  have hown : s.vm.findClass RL = some m.cls := findClass_of_methodNamed B.named
  have hlocks := B.notSynchronized
  have hK := hG.K
  have hS : va_S A s.heap s.heap [] := va_S.rf
  have hl := lv_entry ([.ref (ad 0 0), .int p0, .int p1, .ref o0]) (n := 5) (Nat.le_of_ble_eq_true rfl)
  rw [lg_entry_eq]
  generalize (lg_sl ([.ref (ad 0 0), .int p0, .int p1, .ref o0]) ++ List.replicate (5 - (lg_sl ([.ref (ad 0 0), .int p0, .int p1, .ref o0])).length) Slot.unset).toArray = ls at hl ⊢
  have hl : lv_has ls 5 [(0, .ref (ad 0 0)), (1, .int p0), (2, .int p1), (3, .ref o0)] := hl
  have hP : mP G.1 (mu Mc o0 (.inl (G.2.1 1, 1, .inr (.inl f0)))) s.heap := hP
  refine lv_aload_n hx hb dL_draw_0 rfl (lv_at hl 3 rfl) ?_
  refine lv_iconst (v := 0) hx hb dL_draw_1 (by decide) ?_
  refine lv_aload_n hx hb dL_draw_2 rfl (lv_at hl 0 rfl) ?_
  refine lv_iload_n hx hb dL_draw_3 rfl (lv_at hl 1 rfl) ?_
  refine lv_iload_n hx hb dL_draw_4 rfl (lv_at hl 2 rfl) ?_
  have hPd := mP_dn hMo hP
  have hId := mI_dn hMo hI
  have ho9 : o0 < s.heap.size := mP.lt hP (mu_s (M := Mc) (a := o0))
  have hAd : ∀ q : Nat, s.heap.size ≤ q → aN A o0 q := fun q hq => ⟨hA q hq, fun z => by omega⟩
  have hSd : va_S (aN A o0) s.heap s.heap [] := va_S.rf
  refine mn_calli (vx_runV (As := [.int p0, .int p1]) (rest := [.int 0, .ref o0]) ⟨hx, hb, hml, hown, hts⟩ (c_X4_draw l G (aN A o0) Mc hl9 st ad p0 p1 hC hV) (cwV 2 hts gL_draw_X4_draw rfl rfl rfl (by decide +kernel) ⟨Nat.le_of_ble_eq_true rfl, Nat.le_of_ble_eq_true rfl⟩) (mPreV (GK_aN hG) hSd hPd hId hAd (hPd (ad 0 0) _ (hC.1 0 0 (ok0 st))) (r := (RX4, TX4, 9)) rfl) rfl rfl hl.1 rfl (lv_room (Nat.le_of_ble_eq_true rfl)) dL_draw_5 ⟨Nat.le_of_ble_eq_true rfl, Nat.le_of_ble_eq_true rfl⟩) hP hI hS (fun E9 ce9 q9 H locs hpx9 hP hS hc9 hv9 hcl9 => ?_) (fun r9 Mw1 H locs hp9 hn9 hP hI hS => ?_)
  · obtain ⟨k9, hk9, hnm9⟩ := hpx9
    have hT : c.exceptionTable.toList = tableOf [(0, 10, 13, 13), (0, 10, 17, 15)] := vx_table B (hts _ List.mem_cons_self)
    have hrf : (m_draw st p0 p1).2.2 = st := rf_draw st p0 p1 (by rw [hk9]; omega)
    match k9, hk9, hnm9 with
    | 0, hk9, hnm9 =>
      cases hnm9
      refine vx_catch (E := "java/lang/IllegalArgumentException") (name := "java/lang/IllegalArgumentException") hown [] ⟨0, 10, 13, 13⟩ [⟨0, 10, 17, 15⟩] hT (fun z hz => by cases hz) rfl (by decide) (hts (.classLink RL 13 "java/lang/IllegalArgumentException") (by decide +kernel)) (va_Nw.use rfl (hG.2.1.2.2.2.1 ("java/lang/IllegalArgumentException", "java/lang/IllegalArgumentException") (by decide +kernel))) hc9 hv9 hcl9 ?_
      refine lv_astore (lv' := [(4, .ref q9), (0, .ref (ad 0 0)), (1, .int p0), (2, .int p1), (3, .ref o0)]) hx hb dL_draw_13 hl (by decide) rfl (fun ls hl => ?_)
      refine lv_iconst (v := 1) hx hb dL_draw_15 (by decide) ?_
      refine W.widen (k := 4) (n := 34) (Nat.le_of_ble_eq_true rfl) (Nat.le_of_ble_eq_true rfl) ?_
      refine vx_ret ?_
      exact W.iret (v := 1) hx hb hr (fun t99 ht99 hW99 => ⟨⟨1, (mu Mc o0 (.inl (G.2.1 1, 1, .inr (.inl f0)))), rfl, ⟨ad, Mc, f0, by rw [hk9]; rfl, hMo, rfl, by rw [hrf]; exact hC, rfl, fun z => absurd (hk9.symm.trans z) (by omega)⟩, by rw [ht99]; exact hP, hI⟩, hS.F ht99⟩) hS.2.2 dL_draw_16
    | 1, hk9, hnm9 =>
      cases hnm9
      refine vx_catch (E := "java/lang/IllegalStateException") (name := "java/lang/IllegalStateException") hown [⟨0, 10, 13, 13⟩] ⟨0, 10, 17, 15⟩ [] hT (fun z hz => by simp only [List.mem_cons, List.not_mem_nil, or_false] at hz
          rcases hz with rfl
          · exact Or.inr ⟨by decide, "java/lang/IllegalArgumentException", hts (.classLink RL 13 "java/lang/IllegalArgumentException") (by decide +kernel), hG.2.1.2.2.2.2.1 ("java/lang/IllegalStateException", "java/lang/IllegalArgumentException") (by decide +kernel)⟩) rfl (by decide) (hts (.classLink RL 15 "java/lang/IllegalStateException") (by decide +kernel)) (va_Nw.use rfl (hG.2.1.2.2.2.1 ("java/lang/IllegalStateException", "java/lang/IllegalStateException") (by decide +kernel))) hc9 hv9 hcl9 ?_
      refine lv_astore (lv' := [(4, .ref q9), (0, .ref (ad 0 0)), (1, .int p0), (2, .int p1), (3, .ref o0)]) hx hb dL_draw_17 hl (by decide) rfl (fun ls hl => ?_)
      refine lv_iconst (v := 2) hx hb dL_draw_19 (by decide) ?_
      refine W.widen (k := 4) (n := 34) (Nat.le_of_ble_eq_true rfl) (Nat.le_of_ble_eq_true rfl) ?_
      refine vx_ret ?_
      exact W.iret (v := 2) hx hb hr (fun t99 ht99 hW99 => ⟨⟨2, (mu Mc o0 (.inl (G.2.1 1, 1, .inr (.inl f0)))), rfl, ⟨ad, Mc, f0, by rw [hk9]; rfl, hMo, rfl, by rw [hrf]; exact hC, rfl, fun z => absurd (hk9.symm.trans z) (by omega)⟩, by rw [ht99]; exact hP, hI⟩, hS.F ht99⟩) hS.2.2 dL_draw_20
    | (k9 + 2), hk9, hnm9 => cases hnm9
  obtain ⟨s9, ad9, hop, hC9, ha9⟩ := hp9
  have h_O : (mu Mw1 o0 (.inl (G.2.1 1, 1, .inr (.inl f0)))) o0 = some (.inl (G.2.1 1, 1, .inr (.inl f0))) := mu_s
  refine lv_i2l (v := r9.toInt64) hx hb dL_draw_8 rfl ?_
  refine m_last hx hb hK hP hI hS 1 h_O rfl (by decide) dL_draw_9 (fun H locs hP hI hS => ?_)
  rw [mu_uu] at hP hI
  have h_O : (mu Mw1 o0 (.inl (G.2.1 1, 1, .inr (.inl (vf_upd f0 ((0 : Int32).toNatClampNeg) r9.toInt64))))) o0 = some (.inl (G.2.1 1, 1, .inr (.inl (vf_upd f0 ((0 : Int32).toNatClampNeg) r9.toInt64)))) := mu_s
  refine lv_goto (tgt := 21) hx hb dL_draw_10 (by decide) ?_
  refine lv_iconst (v := 0) hx hb dL_draw_21 (by decide) ?_
  refine W.widen (k := 4) (n := 34) (Nat.le_of_ble_eq_true rfl) (Nat.le_of_ble_eq_true rfl) ?_
  refine vx_ret ?_
  exact W.iret (v := 0) hx hb hr (fun t99 ht99 hW99 => ⟨⟨0, (mu Mw1 o0 (.inl (G.2.1 1, 1, .inr (.inl (vf_upd f0 ((0 : Int32).toNatClampNeg) r9.toInt64))))), rfl, ⟨ad9, Mw1, _, by rw [hop]; rfl, hn9, rfl, by rw [hop]; exact hC9, ha9, fun _ => vf_0.trans (by rw [hop])⟩, by rw [ht99]; exact hP, hI⟩, hS.F ht99⟩) hS.2.2 dL_draw_22

theorem rf_isBroken (st : St) (p0 : Int32) : (m_isBroken st p0).1 ≠ 0 → (m_isBroken st p0).2.2 = st := by
  unfold m_isBroken
  first | exact chk_ref (ref_0) | exact chk_ref (chk_ref (ref_0)) | exact chk_ref (chk_ref (chk_ref (ref_0))) | exact chk_ref (chk_ref (chk_ref (chk_ref (ref_0)))) | exact chk_ref (chk_ref (chk_ref (chk_ref (chk_ref (ref_0))))) | exact chk_ref (chk_ref (chk_ref (chk_ref (chk_ref (chk_ref (ref_0)))))) | exact chk_ref (chk_ref (chk_ref (chk_ref (chk_ref (chk_ref (chk_ref (ref_0)))))))
set_option maxHeartbeats 4000000 in
set_option maxRecDepth 100000 in
theorem c_L_isBroken (l : Launch) (G : mg) (A : Nat → Prop) (Mc : mw) (hl9 : l.stackTraces = false) (st : St) (ad : adr) (p0 : Int32) (o0 : Nat) {f0 : Nat → Int64} (hMo : Mc o0 = none) (hC : CS G st ad Mc) (hV : Inv st) : vx_Met l yL_isBroken wsL_isBroken ({ frames := 8, cells := 1, slots := 6, locals := 124 }) (va_Pc [.ref (ad 0 0), .int p0, .ref o0] (mB G A (mu Mc o0 (.inl (G.2.1 1, 1, .inr (.inl f0)))))) (va_Qi (fun r Mw1 => ∃ (ad1 : adr) (Mc1 : mw) (f1 : Nat → Int64), r = nI (m_isBroken st p0).1 ∧ Mc1 o0 = none ∧ Mw1 = mu Mc1 o0 (.inl (G.2.1 1, 1, .inr (.inl f1))) ∧ CS G (m_isBroken st p0).2.2 ad1 Mc1 ∧ ad1 0 0 = ad 0 0 ∧ ((m_isBroken st p0).1 = 0 → f1 0 = (m_isBroken st p0).2.1.toInt64)) (mE G A) A) (xX (fun _ => False) G A (mu Mc o0 (.inl (G.2.1 1, 1, .inr (.inl f0))))) 1 6 A := by
  refine vx_ofWH (cc := cL_isBroken) (maxL := 4) (ret := (some .int)) (by decide) rfl ?_
  intro p e s m args below meth c s₁ B hml hv
  obtain ⟨rfl, hG, hP, hI, hA⟩ := hv
  have hx := B.exec
  have hb := B.bytes
  have hr := B.returns
  have hts := atoms_spec (ws := wsL_isBroken) B.pre
  have hown : s.vm.findClass RL = some m.cls := findClass_of_methodNamed B.named
  have hlocks := B.notSynchronized
  have hK := hG.K
  have hS : va_S A s.heap s.heap [] := va_S.rf
  have hl := lv_entry ([.ref (ad 0 0), .int p0, .ref o0]) (n := 4) (Nat.le_of_ble_eq_true rfl)
  rw [lg_entry_eq]
  generalize (lg_sl ([.ref (ad 0 0), .int p0, .ref o0]) ++ List.replicate (4 - (lg_sl ([.ref (ad 0 0), .int p0, .ref o0])).length) Slot.unset).toArray = ls at hl ⊢
  have hl : lv_has ls 4 [(0, .ref (ad 0 0)), (1, .int p0), (2, .ref o0)] := hl
  have hP : mP G.1 (mu Mc o0 (.inl (G.2.1 1, 1, .inr (.inl f0)))) s.heap := hP
  refine lv_aload_n hx hb dL_isBroken_0 rfl (lv_at hl 2 rfl) ?_
  refine lv_iconst (v := 0) hx hb dL_isBroken_1 (by decide) ?_
  refine lv_aload_n hx hb dL_isBroken_2 rfl (lv_at hl 0 rfl) ?_
  refine lv_iload_n hx hb dL_isBroken_3 rfl (lv_at hl 1 rfl) ?_
  have hPd := mP_dn hMo hP
  have hId := mI_dn hMo hI
  have ho9 : o0 < s.heap.size := mP.lt hP (mu_s (M := Mc) (a := o0))
  have hAd : ∀ q : Nat, s.heap.size ≤ q → aN A o0 q := fun q hq => ⟨hA q hq, fun z => by omega⟩
  have hSd : va_S (aN A o0) s.heap s.heap [] := va_S.rf
  refine mn_calli (vx_runV (As := [.int p0]) (rest := [.int 0, .ref o0]) ⟨hx, hb, hml, hown, hts⟩ (c_X4_isBroken l G (aN A o0) Mc hl9 st ad p0 hC hV) (cwV 1 hts gL_isBroken_X4_isBroken rfl rfl rfl (by decide +kernel) ⟨Nat.le_of_ble_eq_true rfl, Nat.le_of_ble_eq_true rfl⟩) (mPreV (GK_aN hG) hSd hPd hId hAd (hPd (ad 0 0) _ (hC.1 0 0 (ok0 st))) (r := (RX4, TX4, 9)) rfl) rfl rfl hl.1 rfl (lv_room (Nat.le_of_ble_eq_true rfl)) dL_isBroken_4 ⟨Nat.le_of_ble_eq_true rfl, Nat.le_of_ble_eq_true rfl⟩) hP hI hS (fun E9 ce9 q9 H locs hpx9 hP hS hc9 hv9 hcl9 => ?_) (fun r9 Mw1 H locs hp9 hn9 hP hI hS => ?_)
  · obtain ⟨k9, hk9, hnm9⟩ := hpx9
    have hT : c.exceptionTable.toList = tableOf [(0, 16, 19, 21)] := vx_table B (hts _ List.mem_cons_self)
    have hrf : (m_isBroken st p0).2.2 = st := rf_isBroken st p0 (by rw [hk9]; omega)
    match k9, hk9, hnm9 with
    | 0, hk9, hnm9 =>
      cases hnm9
      refine vx_catch (E := "java/lang/IndexOutOfBoundsException") (name := "java/lang/IndexOutOfBoundsException") hown [] ⟨0, 16, 19, 21⟩ [] hT (fun z hz => by cases hz) rfl (by decide) (hts (.classLink RL 21 "java/lang/IndexOutOfBoundsException") (by decide +kernel)) (va_Nw.use rfl (hG.2.1.2.2.2.1 ("java/lang/IndexOutOfBoundsException", "java/lang/IndexOutOfBoundsException") (by decide +kernel))) hc9 hv9 hcl9 ?_
      refine lv_astore_n (lv' := [(3, .ref q9), (0, .ref (ad 0 0)), (1, .int p0), (2, .ref o0)]) hx hb dL_isBroken_19 rfl hl (by decide) rfl (fun ls hl => ?_)
      refine lv_iconst (v := 1) hx hb dL_isBroken_20 (by decide) ?_
      refine W.widen (k := 1) (n := 6) (Nat.le_of_ble_eq_true rfl) (Nat.le_of_ble_eq_true rfl) ?_
      refine vx_ret ?_
      exact W.iret (v := 1) hx hb hr (fun t99 ht99 hW99 => ⟨⟨1, (mu Mc o0 (.inl (G.2.1 1, 1, .inr (.inl f0)))), rfl, ⟨ad, Mc, f0, by rw [hk9]; rfl, hMo, rfl, by rw [hrf]; exact hC, rfl, fun z => absurd (hk9.symm.trans z) (by omega)⟩, by rw [ht99]; exact hP, hI⟩, hS.F ht99⟩) hS.2.2 dL_isBroken_21
    | (k9 + 1), hk9, hnm9 => cases hnm9
  obtain ⟨s9, ad9, hop, hC9, ha9⟩ := hp9
  have h_O : (mu Mw1 o0 (.inl (G.2.1 1, 1, .inr (.inl f0)))) o0 = some (.inl (G.2.1 1, 1, .inr (.inl f0))) := mu_s
  refine lv_if_eq (tgt := 14) hx hb dL_isBroken_7 (by decide) (fun c1 => ?_) (fun c1 => ?_)
  · skip
    refine lv_lconst (v := 0) hx hb dL_isBroken_14 (by decide) ?_
    refine m_last hx hb hK hP hI hS 1 h_O rfl (by decide) dL_isBroken_15 (fun H locs hP hI hS => ?_)
    rw [mu_uu] at hP hI
    have h_O : (mu Mw1 o0 (.inl (G.2.1 1, 1, .inr (.inl (vf_upd f0 ((0 : Int32).toNatClampNeg) 0))))) o0 = some (.inl (G.2.1 1, 1, .inr (.inl (vf_upd f0 ((0 : Int32).toNatClampNeg) 0)))) := mu_s
    refine lv_goto (tgt := 22) hx hb dL_isBroken_16 (by decide) ?_
    refine lv_iconst (v := 0) hx hb dL_isBroken_22 (by decide) ?_
    refine W.widen (k := 1) (n := 6) (Nat.le_of_ble_eq_true rfl) (Nat.le_of_ble_eq_true rfl) ?_
    refine vx_ret ?_
    exact W.iret (v := 0) hx hb hr (fun t99 ht99 hW99 => ⟨⟨0, (mu Mw1 o0 (.inl (G.2.1 1, 1, .inr (.inl (vf_upd f0 ((0 : Int32).toNatClampNeg) 0))))), rfl, ⟨ad9, Mw1, _, by rw [hop]; rfl, hn9, rfl, by rw [hop]; exact hC9, ha9, fun _ => vf_0.trans (by rw [hop]; show _ = r9.toInt64; rw [c1]; rfl)⟩, by rw [ht99]; exact hP, hI⟩, hS.F ht99⟩) hS.2.2 dL_isBroken_23
  · skip
    have hone : r9 = 1 := by have h8 := b01_isBroken st p0; rw [hop] at h8; exact h8.resolve_left c1
    refine lv_lconst (v := 1) hx hb dL_isBroken_10 (by decide) ?_
    refine lv_goto (tgt := 15) hx hb dL_isBroken_11 (by decide) ?_
    refine m_last hx hb hK hP hI hS 1 h_O rfl (by decide) dL_isBroken_15 (fun H locs hP hI hS => ?_)
    rw [mu_uu] at hP hI
    have h_O : (mu Mw1 o0 (.inl (G.2.1 1, 1, .inr (.inl (vf_upd f0 ((0 : Int32).toNatClampNeg) 1))))) o0 = some (.inl (G.2.1 1, 1, .inr (.inl (vf_upd f0 ((0 : Int32).toNatClampNeg) 1)))) := mu_s
    refine lv_goto (tgt := 22) hx hb dL_isBroken_16 (by decide) ?_
    refine lv_iconst (v := 0) hx hb dL_isBroken_22 (by decide) ?_
    refine W.widen (k := 1) (n := 6) (Nat.le_of_ble_eq_true rfl) (Nat.le_of_ble_eq_true rfl) ?_
    refine vx_ret ?_
    exact W.iret (v := 0) hx hb hr (fun t99 ht99 hW99 => ⟨⟨0, (mu Mw1 o0 (.inl (G.2.1 1, 1, .inr (.inl (vf_upd f0 ((0 : Int32).toNatClampNeg) 1))))), rfl, ⟨ad9, Mw1, _, by rw [hop]; rfl, hn9, rfl, by rw [hop]; exact hC9, ha9, fun _ => vf_0.trans (by rw [hop]; show _ = r9.toInt64; rw [hone]; rfl)⟩, by rw [ht99]; exact hP, hI⟩, hS.F ht99⟩) hS.2.2 dL_isBroken_23

theorem rf_meanError (st : St) (p0 : Int32) : (m_meanError st p0).1 ≠ 0 → (m_meanError st p0).2.2 = st := by
  unfold m_meanError
  first | exact chk_ref (ref_0) | exact chk_ref (chk_ref (ref_0)) | exact chk_ref (chk_ref (chk_ref (ref_0))) | exact chk_ref (chk_ref (chk_ref (chk_ref (ref_0)))) | exact chk_ref (chk_ref (chk_ref (chk_ref (chk_ref (ref_0))))) | exact chk_ref (chk_ref (chk_ref (chk_ref (chk_ref (chk_ref (ref_0)))))) | exact chk_ref (chk_ref (chk_ref (chk_ref (chk_ref (chk_ref (chk_ref (ref_0)))))))
set_option maxHeartbeats 4000000 in
set_option maxRecDepth 100000 in
theorem c_L_meanError (l : Launch) (G : mg) (A : Nat → Prop) (Mc : mw) (hl9 : l.stackTraces = false) (st : St) (ad : adr) (p0 : Int32) (o0 : Nat) {f0 : Nat → UInt64} (hMo : Mc o0 = none) (hC : CS G st ad Mc) (hV : Inv st) : vx_Met l yL_meanError wsL_meanError ({ frames := 8, cells := 2, slots := 12, locals := 125 }) (va_Pc [.ref (ad 0 0), .int p0, .ref o0] (mB G A (mu Mc o0 (.inl (G.2.1 2, 1, .inr (.inr (.inr (.inl f0)))))))) (va_Qi (fun r Mw1 => ∃ (ad1 : adr) (Mc1 : mw) (f1 : Nat → UInt64), r = nI (m_meanError st p0).1 ∧ Mc1 o0 = none ∧ Mw1 = mu Mc1 o0 (.inl (G.2.1 2, 1, .inr (.inr (.inr (.inl f1))))) ∧ CS G (m_meanError st p0).2.2 ad1 Mc1 ∧ ad1 0 0 = ad 0 0 ∧ ((m_meanError st p0).1 = 0 → f1 0 = FP.ddiv (FP.i2d (m_meanError st p0).2.1) (FP.i2d (nI (rnS st (ix p0)))))) (mE G A) A) (xX (fun _ => False) G A (mu Mc o0 (.inl (G.2.1 2, 1, .inr (.inr (.inr (.inl f0))))))) 2 12 A := by
  refine vx_ofWH (cc := cL_meanError) (maxL := 4) (ret := (some .int)) (by decide) rfl ?_
  intro p e s m args below meth c s₁ B hml hv
  obtain ⟨rfl, hG, hP, hI, hA⟩ := hv
  have hx := B.exec
  have hb := B.bytes
  have hr := B.returns
  have hts := atoms_spec (ws := wsL_meanError) B.pre
  have hown : s.vm.findClass RL = some m.cls := findClass_of_methodNamed B.named
  have hlocks := B.notSynchronized
  have hK := hG.K
  have hS : va_S A s.heap s.heap [] := va_S.rf
  have hl := lv_entry ([.ref (ad 0 0), .int p0, .ref o0]) (n := 4) (Nat.le_of_ble_eq_true rfl)
  rw [lg_entry_eq]
  generalize (lg_sl ([.ref (ad 0 0), .int p0, .ref o0]) ++ List.replicate (4 - (lg_sl ([.ref (ad 0 0), .int p0, .ref o0])).length) Slot.unset).toArray = ls at hl ⊢
  have hl : lv_has ls 4 [(0, .ref (ad 0 0)), (1, .int p0), (2, .ref o0)] := hl
  have hP : mP G.1 (mu Mc o0 (.inl (G.2.1 2, 1, .inr (.inr (.inr (.inl f0)))))) s.heap := hP
  refine lv_aload_n hx hb dL_meanError_0 rfl (lv_at hl 2 rfl) ?_
  refine lv_iconst (v := 0) hx hb dL_meanError_1 (by decide) ?_
  refine lv_aload_n hx hb dL_meanError_2 rfl (lv_at hl 0 rfl) ?_
  refine lv_iload_n hx hb dL_meanError_3 rfl (lv_at hl 1 rfl) ?_
  have hPd := mP_dn hMo hP
  have hId := mI_dn hMo hI
  have ho9 : o0 < s.heap.size := mP.lt hP (mu_s (M := Mc) (a := o0))
  have hAd : ∀ q : Nat, s.heap.size ≤ q → aN A o0 q := fun q hq => ⟨hA q hq, fun z => by omega⟩
  have hSd : va_S (aN A o0) s.heap s.heap [] := va_S.rf
  refine mn_calld (vx_runV (As := [.int p0]) (rest := [.int 0, .ref o0]) ⟨hx, hb, hml, hown, hts⟩ (c_X4_meanError l G (aN A o0) Mc hl9 st ad p0 hC hV) (cwV 1 hts gL_meanError_X4_meanError rfl rfl rfl (by decide +kernel) ⟨Nat.le_of_ble_eq_true rfl, Nat.le_of_ble_eq_true rfl⟩) (mPreV (GK_aN hG) hSd hPd hId hAd (hPd (ad 0 0) _ (hC.1 0 0 (ok0 st))) (r := (RX4, TX4, 9)) rfl) rfl rfl hl.1 rfl (lv_room (Nat.le_of_ble_eq_true rfl)) dL_meanError_4 ⟨Nat.le_of_ble_eq_true rfl, Nat.le_of_ble_eq_true rfl⟩) hP hI hS (fun E9 ce9 q9 H locs hpx9 hP hS hc9 hv9 hcl9 => ?_) (fun r9 Mw1 H locs hp9 hn9 hP hI hS => ?_)
  · obtain ⟨k9, hk9, hnm9⟩ := hpx9
    have hT : c.exceptionTable.toList = tableOf [(0, 8, 11, 21), (0, 8, 14, 34)] := vx_table B (hts _ List.mem_cons_self)
    have hrf : (m_meanError st p0).2.2 = st := rf_meanError st p0 (by rw [hk9]; omega)
    match k9, hk9, hnm9 with
    | 0, hk9, hnm9 =>
      cases hnm9
      refine vx_catch (E := "java/lang/IndexOutOfBoundsException") (name := "java/lang/IndexOutOfBoundsException") hown [] ⟨0, 8, 11, 21⟩ [⟨0, 8, 14, 34⟩] hT (fun z hz => by cases hz) rfl (by decide) (hts (.classLink RL 21 "java/lang/IndexOutOfBoundsException") (by decide +kernel)) (va_Nw.use rfl (hG.2.1.2.2.2.1 ("java/lang/IndexOutOfBoundsException", "java/lang/IndexOutOfBoundsException") (by decide +kernel))) hc9 hv9 hcl9 ?_
      refine lv_astore_n (lv' := [(3, .ref q9), (0, .ref (ad 0 0)), (1, .int p0), (2, .ref o0)]) hx hb dL_meanError_11 rfl hl (by decide) rfl (fun ls hl => ?_)
      refine lv_iconst (v := 1) hx hb dL_meanError_12 (by decide) ?_
      refine W.widen (k := 2) (n := 12) (Nat.le_of_ble_eq_true rfl) (Nat.le_of_ble_eq_true rfl) ?_
      refine vx_ret ?_
      exact W.iret (v := 1) hx hb hr (fun t99 ht99 hW99 => ⟨⟨1, (mu Mc o0 (.inl (G.2.1 2, 1, .inr (.inr (.inr (.inl f0)))))), rfl, ⟨ad, Mc, f0, by rw [hk9]; rfl, hMo, rfl, by rw [hrf]; exact hC, rfl, fun z => absurd (hk9.symm.trans z) (by omega)⟩, by rw [ht99]; exact hP, hI⟩, hS.F ht99⟩) hS.2.2 dL_meanError_13
    | 1, hk9, hnm9 =>
      cases hnm9
      refine vx_catch (E := "java/util/NoSuchElementException") (name := "java/util/NoSuchElementException") hown [⟨0, 8, 11, 21⟩] ⟨0, 8, 14, 34⟩ [] hT (fun z hz => by simp only [List.mem_cons, List.not_mem_nil, or_false] at hz
          rcases hz with rfl
          · exact Or.inr ⟨by decide, "java/lang/IndexOutOfBoundsException", hts (.classLink RL 21 "java/lang/IndexOutOfBoundsException") (by decide +kernel), hG.2.1.2.2.2.2.1 ("java/util/NoSuchElementException", "java/lang/IndexOutOfBoundsException") (by decide +kernel)⟩) rfl (by decide) (hts (.classLink RL 34 "java/util/NoSuchElementException") (by decide +kernel)) (va_Nw.use rfl (hG.2.1.2.2.2.1 ("java/util/NoSuchElementException", "java/util/NoSuchElementException") (by decide +kernel))) hc9 hv9 hcl9 ?_
      refine lv_astore_n (lv' := [(3, .ref q9), (0, .ref (ad 0 0)), (1, .int p0), (2, .ref o0)]) hx hb dL_meanError_14 rfl hl (by decide) rfl (fun ls hl => ?_)
      refine lv_iconst (v := 2) hx hb dL_meanError_15 (by decide) ?_
      refine W.widen (k := 2) (n := 12) (Nat.le_of_ble_eq_true rfl) (Nat.le_of_ble_eq_true rfl) ?_
      refine vx_ret ?_
      exact W.iret (v := 2) hx hb hr (fun t99 ht99 hW99 => ⟨⟨2, (mu Mc o0 (.inl (G.2.1 2, 1, .inr (.inr (.inr (.inl f0)))))), rfl, ⟨ad, Mc, f0, by rw [hk9]; rfl, hMo, rfl, by rw [hrf]; exact hC, rfl, fun z => absurd (hk9.symm.trans z) (by omega)⟩, by rw [ht99]; exact hP, hI⟩, hS.F ht99⟩) hS.2.2 dL_meanError_16
    | (k9 + 2), hk9, hnm9 => cases hnm9
  obtain ⟨x9, s9, ad9, hop, hr9, hC9, ha9⟩ := hp9
  have h_O : (mu Mw1 o0 (.inl (G.2.1 2, 1, .inr (.inr (.inr (.inl f0)))))) o0 = some (.inl (G.2.1 2, 1, .inr (.inr (.inr (.inl f0))))) := mu_s
  refine m_dast hx hb hK hP hI hS 2 h_O rfl (by decide) dL_meanError_7 (fun H locs hP hI hS => ?_)
  rw [mu_uu] at hP hI
  have h_O : (mu Mw1 o0 (.inl (G.2.1 2, 1, .inr (.inr (.inr (.inl (vf_upd f0 ((0 : Int32).toNatClampNeg) r9))))))) o0 = some (.inl (G.2.1 2, 1, .inr (.inr (.inr (.inl (vf_upd f0 ((0 : Int32).toNatClampNeg) r9)))))) := mu_s
  refine lv_goto (tgt := 17) hx hb dL_meanError_8 (by decide) ?_
  refine lv_iconst (v := 0) hx hb dL_meanError_17 (by decide) ?_
  refine W.widen (k := 2) (n := 12) (Nat.le_of_ble_eq_true rfl) (Nat.le_of_ble_eq_true rfl) ?_
  refine vx_ret ?_
  exact W.iret (v := 0) hx hb hr (fun t99 ht99 hW99 => ⟨⟨0, (mu Mw1 o0 (.inl (G.2.1 2, 1, .inr (.inr (.inr (.inl (vf_upd f0 ((0 : Int32).toNatClampNeg) r9))))))), rfl, ⟨ad9, Mw1, _, by rw [hop]; rfl, hn9, rfl, by rw [hop]; exact hC9, ha9, fun _ => vf_0d.trans (by rw [hop, hr9])⟩, by rw [ht99]; exact hP, hI⟩, hS.F ht99⟩) hS.2.2 dL_meanError_18
