theorem vf_0 {f : Nat → Int64} {x : Int64} : vf_upd f (0 : Int32).toNatClampNeg x 0 = x := if_pos rfl
theorem vf_0d {f : Nat → UInt64} {x : UInt64} : vf_upd f (0 : Int32).toNatClampNeg x 0 = x := if_pos rfl
theorem chk_01 {P : Prop} {k : Nat} {s : St} {r : Nat × Int32 × St} (h : r.2.1 = 0 ∨ r.2.1 = 1) : (chk P k s r).2.1 = 0 ∨ (chk P k s r).2.1 = 1 := by
  by_cases q : P
  · rw [chk_p q]
    exact h
  · rw [chk_n q]
    exact Or.inl rfl
theorem b01_isCertified (st : St) (p0 : Int32) : (m_isCertified st p0).2.1 = 0 ∨ (m_isCertified st p0).2.1 = 1 := chk_01 (crtO01 _ _ _)
theorem b01_isBroken (st : St) (p0 : Int32) : (m_isBroken st p0).2.1 = 0 ∨ (m_isBroken st p0).2.1 = 1 := chk_01 (by show (if _ then (0 : Int32) else 1) = 0 ∨ (if _ then (0 : Int32) else 1) = 1; split; exact Or.inl rfl; exact Or.inr rfl)
theorem b01_keep {st : St} (hV : Inv st) (p0 p1 : Int32) : (m_keep st p0 p1).2.1 = 0 ∨ (m_keep st p0 p1).2.1 = 1 := by
  by_cases q : iok st p0
  · have e : (m_keep st p0 p1).2.1 = itS st (ix p0) 9 := by unfold m_keep; rw [chk_p q]
    rw [e]
    exact (ivG_of (hV.2.2.1 _ q.2)).2.2.2.2.2.2.2.2.2.2.1
  · left
    unfold m_keep
    rw [chk_n q]
theorem sh3_n (a b : Nat) (ha : a ≤ 6) (hb : b ≤ 6) (h0 : b ≠ 0) : vf_n64 (FP.f2d (FP.fdiv (FP.i2f (nI a)) (FP.i2f (nI b)))) := by
  have key : ∀ a, a < 7 → ∀ b, b < 7 → b ≠ 0 → vf_n64 (FP.f2d (FP.fdiv (FP.i2f (nI a)) (FP.i2f (nI b)))) := by unfold vf_n64; decide +kernel
  exact key a (by omega) b (by omega) h0
theorem sh2_n {st : St} (hV : Inv st) {x : Int32} {s1 : St} (h : m_certifiedShare st = (0, x, s1)) : vf_n64 (FP.f2d (FP.fdiv (FP.i2f x) (FP.i2f (nI (nN st))))) := by
  unfold m_certifiedShare at h
  by_cases q : ¬ nN st = 0
  · rw [chk_p q] at h
    have e : x = hoS st := (congrArg (fun z => z.2.1) h).symm
    obtain ⟨a, ha, hb⟩ := ho_n st (nN st)
    have e2 : hoS st = nI a := hb
    rw [e, e2]
    exact sh3_n a (nN st) (Nat.le_trans ha hV.1.2) hV.1.2 q
  · rw [chk_n q] at h
    exact absurd (show (1 : Nat) = 0 from congrArg (fun z => z.1) h) (by decide)
theorem rf_draw (st : St) (p0 p1 : Int32) : (m_draw st p0 p1).1 ≠ 0 → (m_draw st p0 p1).2.2 = st := by
  unfold m_draw
  first | exact chk_ref (ref_0) | exact chk_ref (chk_ref (ref_0)) | exact chk_ref (chk_ref (chk_ref (ref_0))) | exact chk_ref (chk_ref (chk_ref (chk_ref (ref_0)))) | exact chk_ref (chk_ref (chk_ref (chk_ref (chk_ref (ref_0))))) | exact chk_ref (chk_ref (chk_ref (chk_ref (chk_ref (chk_ref (ref_0)))))) | exact chk_ref (chk_ref (chk_ref (chk_ref (chk_ref (chk_ref (chk_ref (ref_0)))))))
set_option maxHeartbeats 4000000 in
set_option maxRecDepth 100000 in
theorem c_L_draw (l : Launch) (G : mg) (A : Nat → Prop) (Mc : mw) (hl9 : l.stackTraces = false) (st : St) (ad : adr) (p0 p1 : Int32) (o0 : Nat) {f0 : Nat → Int64} (hMo : Mc o0 = none) (hC : CS G st ad Mc) (hV : Inv st) : vx_Met l yL_draw wsL_draw ({ frames := 8, cells := 4, slots := 34, locals := 127 }) (va_Pc [.ref (ad 0 0), .int p0, .int p1, .ref o0] (mB G A (mu Mc o0 (.inl (G.2.1 1, 1, .inr (.inl f0)))))) (va_Qi (fun r Mw1 => ∃ (ad1 : adr) (Mc1 : mw) (f1 : Nat → Int64), r = nI (m_draw st p0 p1).1 ∧ Mc1 o0 = none ∧ Mw1 = mu Mc1 o0 (.inl (G.2.1 1, 1, .inr (.inl f1))) ∧ CS G (m_draw st p0 p1).2.2 ad1 Mc1 ∧ ad1 0 0 = ad 0 0 ∧ ((m_draw st p0 p1).1 = 0 → f1 0 = (m_draw st p0 p1).2.1.toInt64)) (mE G A) A) (xX (fun _ => False) G A (mu Mc o0 (.inl (G.2.1 1, 1, .inr (.inl f0))))) 4 34 A := by
  refine vx_ofWH (cc := cL_draw) (maxL := 5) (ret := (some .int)) (by decide) rfl ?_
  intro p e s m args below meth c s₁ B hml hv
  obtain ⟨rfl, hG, hP, hI, hA⟩ := hv
  have hx := B.exec
  have hb := B.bytes
  have hr := B.returns
  have hts := atoms_spec (ws := wsL_draw) B.pre
  have hown : s.vm.findClass RL = some m.cls := findClass_of_methodNamed B.named
  have hlocks := B.notSynchronized
  have hK := hG.K
  have hS : va_S A s.heap s.heap [] := va_S.rf
  have hl := lv_entry ([.ref (ad 0 0), .int p0, .int p1, .ref o0]) (n := 5) (Nat.le_of_ble_eq_true rfl)
  rw [lg_entry_eq]
  generalize (lg_sl ([.ref (ad 0 0), .int p0, .int p1, .ref o0]) ++ List.replicate (5 - (lg_sl ([.ref (ad 0 0), .int p0, .int p1, .ref o0])).length) Slot.unset).toArray = ls at hl ⊢
  have hl : lv_has ls 5 [(0, .ref (ad 0 0)), (1, .int p0), (2, .int p1), (3, .ref o0)] := hl
  have hP : mP G.1 (mu Mc o0 (.inl (G.2.1 1, 1, .inr (.inl f0)))) s.heap := hP
  refine lv_aload_n hx hb dL_draw_0 rfl (lv_at hl 3 rfl) ?_
  refine lv_iconst (v := 0) hx hb dL_draw_1 (by decide) ?_
  refine lv_aload_n hx hb dL_draw_2 rfl (lv_at hl 0 rfl) ?_
  refine lv_iload_n hx hb dL_draw_3 rfl (lv_at hl 1 rfl) ?_
  refine lv_iload_n hx hb dL_draw_4 rfl (lv_at hl 2 rfl) ?_
  have hPd := mP_dn hMo hP
  have hId := mI_dn hMo hI
  have ho9 : o0 < s.heap.size := mP.lt hP (mu_s (M := Mc) (a := o0))
  have hAd : ∀ q : Nat, s.heap.size ≤ q → aN A o0 q := fun q hq => ⟨hA q hq, fun z => by omega⟩
  have hSd : va_S (aN A o0) s.heap s.heap [] := va_S.rf
  refine mn_calli (vx_runV (As := [.int p0, .int p1]) (rest := [.int 0, .ref o0]) ⟨hx, hb, hml, hown, hts⟩ (c_X4_draw l G (aN A o0) Mc hl9 st ad p0 p1 hC hV) (cwV 2 hts gL_draw_X4_draw rfl rfl rfl (by decide +kernel) ⟨Nat.le_of_ble_eq_true rfl, Nat.le_of_ble_eq_true rfl⟩) (mPreV (GK_aN hG) hSd hPd hId hAd (hPd (ad 0 0) _ (hC.1 0 0 (ok0 st))) (r := (RX4, TX4, 9)) rfl) rfl rfl hl.1 rfl (lv_room (Nat.le_of_ble_eq_true rfl)) dL_draw_5 ⟨Nat.le_of_ble_eq_true rfl, Nat.le_of_ble_eq_true rfl⟩) hP hI hS (fun E9 ce9 q9 H locs hpx9 hP hS hc9 hv9 hcl9 => ?_) (fun r9 Mw1 H locs hp9 hn9 hP hI hS => ?_)
  · obtain ⟨k9, hk9, hnm9⟩ := hpx9
    have hT : c.exceptionTable.toList = tableOf [(0, 10, 13, 13), (0, 10, 17, 15)] := vx_table (x := yL_draw) B (hts _ List.mem_cons_self)
    have hrf : (m_draw st p0 p1).2.2 = st := rf_draw st p0 p1 (by rw [hk9]; omega)
    match k9, hk9, hnm9 with
    | 0, hk9, hnm9 =>
      cases hnm9
      refine vx_catch (E := "java/lang/IllegalArgumentException") (name := "java/lang/IllegalArgumentException") hown [] ⟨0, 10, 13, 13⟩ [⟨0, 10, 17, 15⟩] hT (fun z hz => by cases hz) rfl (by decide) (hts (.classLink RL 13 "java/lang/IllegalArgumentException") (by decide +kernel)) (va_Nw.use rfl (hG.2.1.2.2.2.1 ("java/lang/IllegalArgumentException", "java/lang/IllegalArgumentException") (by decide +kernel))) hc9 hv9 hcl9 ?_
      refine lv_astore (lv' := [(4, .ref q9), (0, .ref (ad 0 0)), (1, .int p0), (2, .int p1), (3, .ref o0)]) hx hb dL_draw_13 hl (by decide) rfl (fun ls hl => ?_)
      refine lv_iconst (v := 1) hx hb dL_draw_15 (by decide) ?_
      refine W.widen (k := 4) (n := 34) (Nat.le_of_ble_eq_true rfl) (Nat.le_of_ble_eq_true rfl) ?_
      refine vx_ret ?_
      exact W.iret (v := 1) hx hb hr (fun t99 ht99 hW99 => ⟨⟨1, (mu Mc o0 (.inl (G.2.1 1, 1, .inr (.inl f0)))), rfl, ⟨ad, Mc, f0, by rw [hk9]; rfl, hMo, rfl, by rw [hrf]; exact hC, rfl, fun z => absurd (hk9.symm.trans z) (by omega)⟩, by rw [ht99]; exact hP, hI⟩, hS.F ht99⟩) hS.2.2 dL_draw_16
    | 1, hk9, hnm9 =>
      cases hnm9
      refine vx_catch (E := "java/lang/IllegalStateException") (name := "java/lang/IllegalStateException") hown [⟨0, 10, 13, 13⟩] ⟨0, 10, 17, 15⟩ [] hT (List.forall_mem_cons.mpr ⟨Or.inr ⟨by decide, "java/lang/IllegalArgumentException", hts (.classLink RL 13 "java/lang/IllegalArgumentException") (by decide +kernel), hG.2.1.2.2.2.2.1 ("java/lang/IllegalStateException", "java/lang/IllegalArgumentException") (by decide +kernel)⟩, (fun z hz => by cases hz)⟩) rfl (by decide) (hts (.classLink RL 15 "java/lang/IllegalStateException") (by decide +kernel)) (va_Nw.use rfl (hG.2.1.2.2.2.1 ("java/lang/IllegalStateException", "java/lang/IllegalStateException") (by decide +kernel))) hc9 hv9 hcl9 ?_
      refine lv_astore (lv' := [(4, .ref q9), (0, .ref (ad 0 0)), (1, .int p0), (2, .int p1), (3, .ref o0)]) hx hb dL_draw_17 hl (by decide) rfl (fun ls hl => ?_)
      refine lv_iconst (v := 2) hx hb dL_draw_19 (by decide) ?_
      refine W.widen (k := 4) (n := 34) (Nat.le_of_ble_eq_true rfl) (Nat.le_of_ble_eq_true rfl) ?_
      refine vx_ret ?_
      exact W.iret (v := 2) hx hb hr (fun t99 ht99 hW99 => ⟨⟨2, (mu Mc o0 (.inl (G.2.1 1, 1, .inr (.inl f0)))), rfl, ⟨ad, Mc, f0, by rw [hk9]; rfl, hMo, rfl, by rw [hrf]; exact hC, rfl, fun z => absurd (hk9.symm.trans z) (by omega)⟩, by rw [ht99]; exact hP, hI⟩, hS.F ht99⟩) hS.2.2 dL_draw_20
    | (k9 + 2), hk9, hnm9 => cases hnm9
  obtain ⟨s9, ad9, hop, hC9, ha9⟩ := hp9
  have h_O : (mu Mw1 o0 (.inl (G.2.1 1, 1, .inr (.inl f0)))) o0 = some (.inl (G.2.1 1, 1, .inr (.inl f0))) := mu_s
  refine lv_i2l (v := r9.toInt64) hx hb dL_draw_8 rfl ?_
  refine m_last hx hb hK hP hI hS 1 h_O rfl (show vp_in 0 1 by unfold vp_in; decide) dL_draw_9 (fun H locs hP hI hS => ?_)
  rw [mu_uu] at hP hI 
  have h_O : (mu Mw1 o0 (.inl (G.2.1 1, 1, .inr (.inl (vf_upd f0 ((0 : Int32).toNatClampNeg) r9.toInt64))))) o0 = some (.inl (G.2.1 1, 1, .inr (.inl (vf_upd f0 ((0 : Int32).toNatClampNeg) r9.toInt64)))) := mu_s
  refine lv_goto (tgt := 21) hx hb dL_draw_10 (by decide) ?_
  refine lv_iconst (v := 0) hx hb dL_draw_21 (by decide) ?_
  refine W.widen (k := 4) (n := 34) (Nat.le_of_ble_eq_true rfl) (Nat.le_of_ble_eq_true rfl) ?_
  refine vx_ret ?_
  exact W.iret (v := 0) hx hb hr (fun t99 ht99 hW99 => ⟨⟨0, (mu Mw1 o0 (.inl (G.2.1 1, 1, .inr (.inl (vf_upd f0 ((0 : Int32).toNatClampNeg) r9.toInt64))))), rfl, ⟨ad9, Mw1, _, by rw [hop]; rfl, hn9, rfl, by rw [hop]; exact hC9, ha9, fun _ => vf_0.trans (by rw [hop])⟩, by rw [ht99]; exact hP, hI⟩, hS.F ht99⟩) hS.2.2 dL_draw_22

theorem rf_section (st : St) (p0 p1 p2 : Int32) : (m_section st p0 p1 p2).1 ≠ 0 → (m_section st p0 p1 p2).2.2 = st := by
  unfold m_section
  first | exact chk_ref (ref_0) | exact chk_ref (chk_ref (ref_0)) | exact chk_ref (chk_ref (chk_ref (ref_0))) | exact chk_ref (chk_ref (chk_ref (chk_ref (ref_0)))) | exact chk_ref (chk_ref (chk_ref (chk_ref (chk_ref (ref_0))))) | exact chk_ref (chk_ref (chk_ref (chk_ref (chk_ref (chk_ref (ref_0)))))) | exact chk_ref (chk_ref (chk_ref (chk_ref (chk_ref (chk_ref (chk_ref (ref_0)))))))
set_option maxHeartbeats 4000000 in
set_option maxRecDepth 100000 in
theorem c_L_section (l : Launch) (G : mg) (A : Nat → Prop) (Mc : mw) (hl9 : l.stackTraces = false) (st : St) (ad : adr) (p0 p1 p2 : Int32) (o0 : Nat) {f0 : Nat → Int64} (hMo : Mc o0 = none) (hC : CS G st ad Mc) (hV : Inv st) : vx_Met l yL_section wsL_section ({ frames := 8, cells := 4, slots := 24, locals := 129 }) (va_Pc [.ref (ad 0 0), .int p0, .int p1, .int p2, .ref o0] (mB G A (mu Mc o0 (.inl (G.2.1 1, 1, .inr (.inl f0)))))) (va_Qi (fun r Mw1 => ∃ (ad1 : adr) (Mc1 : mw) (f1 : Nat → Int64), r = nI (m_section st p0 p1 p2).1 ∧ Mc1 o0 = none ∧ Mw1 = mu Mc1 o0 (.inl (G.2.1 1, 1, .inr (.inl f1))) ∧ CS G (m_section st p0 p1 p2).2.2 ad1 Mc1 ∧ ad1 0 0 = ad 0 0 ∧ ((m_section st p0 p1 p2).1 = 0 → f1 0 = (m_section st p0 p1 p2).2.1.toInt64)) (mE G A) A) (xX (fun _ => False) G A (mu Mc o0 (.inl (G.2.1 1, 1, .inr (.inl f0))))) 4 24 A := by
  refine vx_ofWH (cc := cL_section) (maxL := 6) (ret := (some .int)) (by decide) rfl ?_
  intro p e s m args below meth c s₁ B hml hv
  obtain ⟨rfl, hG, hP, hI, hA⟩ := hv
  have hx := B.exec
  have hb := B.bytes
  have hr := B.returns
  have hts := atoms_spec (ws := wsL_section) B.pre
  have hown : s.vm.findClass RL = some m.cls := findClass_of_methodNamed B.named
  have hlocks := B.notSynchronized
  have hK := hG.K
  have hS : va_S A s.heap s.heap [] := va_S.rf
  have hl := lv_entry ([.ref (ad 0 0), .int p0, .int p1, .int p2, .ref o0]) (n := 6) (Nat.le_of_ble_eq_true rfl)
  rw [lg_entry_eq]
  generalize (lg_sl ([.ref (ad 0 0), .int p0, .int p1, .int p2, .ref o0]) ++ List.replicate (6 - (lg_sl ([.ref (ad 0 0), .int p0, .int p1, .int p2, .ref o0])).length) Slot.unset).toArray = ls at hl ⊢
  have hl : lv_has ls 6 [(0, .ref (ad 0 0)), (1, .int p0), (2, .int p1), (3, .int p2), (4, .ref o0)] := hl
  have hP : mP G.1 (mu Mc o0 (.inl (G.2.1 1, 1, .inr (.inl f0)))) s.heap := hP
  refine lv_aload hx hb dL_section_0 (lv_at hl 4 rfl) ?_
  refine lv_iconst (v := 0) hx hb dL_section_2 (by decide) ?_
  refine lv_aload_n hx hb dL_section_3 rfl (lv_at hl 0 rfl) ?_
  refine lv_iload_n hx hb dL_section_4 rfl (lv_at hl 1 rfl) ?_
  refine lv_iload_n hx hb dL_section_5 rfl (lv_at hl 2 rfl) ?_
  refine lv_iload_n hx hb dL_section_6 rfl (lv_at hl 3 rfl) ?_
  have hPd := mP_dn hMo hP
  have hId := mI_dn hMo hI
  have ho9 : o0 < s.heap.size := mP.lt hP (mu_s (M := Mc) (a := o0))
  have hAd : ∀ q : Nat, s.heap.size ≤ q → aN A o0 q := fun q hq => ⟨hA q hq, fun z => by omega⟩
  have hSd : va_S (aN A o0) s.heap s.heap [] := va_S.rf
  refine mn_calli (vx_runV (As := [.int p0, .int p1, .int p2]) (rest := [.int 0, .ref o0]) ⟨hx, hb, hml, hown, hts⟩ (c_X4_section l G (aN A o0) Mc hl9 st ad p0 p1 p2 hC hV) (cwV 3 hts gL_section_X4_section rfl rfl rfl (by decide +kernel) ⟨Nat.le_of_ble_eq_true rfl, Nat.le_of_ble_eq_true rfl⟩) (mPreV (GK_aN hG) hSd hPd hId hAd (hPd (ad 0 0) _ (hC.1 0 0 (ok0 st))) (r := (RX4, TX4, 9)) rfl) rfl rfl hl.1 rfl (lv_room (Nat.le_of_ble_eq_true rfl)) dL_section_7 ⟨Nat.le_of_ble_eq_true rfl, Nat.le_of_ble_eq_true rfl⟩) hP hI hS (fun E9 ce9 q9 H locs hpx9 hP hS hc9 hv9 hcl9 => ?_) (fun r9 Mw1 H locs hp9 hn9 hP hI hS => ?_)
  · obtain ⟨k9, hk9, hnm9⟩ := hpx9
    have hT : c.exceptionTable.toList = tableOf [(0, 12, 15, 21), (0, 12, 19, 13), (0, 12, 23, 23)] := vx_table (x := yL_section) B (hts _ List.mem_cons_self)
    have hrf : (m_section st p0 p1 p2).2.2 = st := rf_section st p0 p1 p2 (by rw [hk9]; omega)
    match k9, hk9, hnm9 with
    | 0, hk9, hnm9 =>
      cases hnm9
      refine vx_catch (E := "java/lang/IndexOutOfBoundsException") (name := "java/lang/IndexOutOfBoundsException") hown [] ⟨0, 12, 15, 21⟩ [⟨0, 12, 19, 13⟩, ⟨0, 12, 23, 23⟩] hT (fun z hz => by cases hz) rfl (by decide) (hts (.classLink RL 21 "java/lang/IndexOutOfBoundsException") (by decide +kernel)) (va_Nw.use rfl (hG.2.1.2.2.2.1 ("java/lang/IndexOutOfBoundsException", "java/lang/IndexOutOfBoundsException") (by decide +kernel))) hc9 hv9 hcl9 ?_
      refine lv_astore (lv' := [(5, .ref q9), (0, .ref (ad 0 0)), (1, .int p0), (2, .int p1), (3, .int p2), (4, .ref o0)]) hx hb dL_section_15 hl (by decide) rfl (fun ls hl => ?_)
      refine lv_iconst (v := 1) hx hb dL_section_17 (by decide) ?_
      refine W.widen (k := 4) (n := 24) (Nat.le_of_ble_eq_true rfl) (Nat.le_of_ble_eq_true rfl) ?_
      refine vx_ret ?_
      exact W.iret (v := 1) hx hb hr (fun t99 ht99 hW99 => ⟨⟨1, (mu Mc o0 (.inl (G.2.1 1, 1, .inr (.inl f0)))), rfl, ⟨ad, Mc, f0, by rw [hk9]; rfl, hMo, rfl, by rw [hrf]; exact hC, rfl, fun z => absurd (hk9.symm.trans z) (by omega)⟩, by rw [ht99]; exact hP, hI⟩, hS.F ht99⟩) hS.2.2 dL_section_18
    | 1, hk9, hnm9 =>
      cases hnm9
      refine vx_catch (E := "java/lang/IllegalArgumentException") (name := "java/lang/IllegalArgumentException") hown [⟨0, 12, 15, 21⟩] ⟨0, 12, 19, 13⟩ [⟨0, 12, 23, 23⟩] hT (List.forall_mem_cons.mpr ⟨Or.inr ⟨by decide, "java/lang/IndexOutOfBoundsException", hts (.classLink RL 21 "java/lang/IndexOutOfBoundsException") (by decide +kernel), hG.2.1.2.2.2.2.1 ("java/lang/IllegalArgumentException", "java/lang/IndexOutOfBoundsException") (by decide +kernel)⟩, (fun z hz => by cases hz)⟩) rfl (by decide) (hts (.classLink RL 13 "java/lang/IllegalArgumentException") (by decide +kernel)) (va_Nw.use rfl (hG.2.1.2.2.2.1 ("java/lang/IllegalArgumentException", "java/lang/IllegalArgumentException") (by decide +kernel))) hc9 hv9 hcl9 ?_
      refine lv_astore (lv' := [(5, .ref q9), (0, .ref (ad 0 0)), (1, .int p0), (2, .int p1), (3, .int p2), (4, .ref o0)]) hx hb dL_section_19 hl (by decide) rfl (fun ls hl => ?_)
      refine lv_iconst (v := 2) hx hb dL_section_21 (by decide) ?_
      refine W.widen (k := 4) (n := 24) (Nat.le_of_ble_eq_true rfl) (Nat.le_of_ble_eq_true rfl) ?_
      refine vx_ret ?_
      exact W.iret (v := 2) hx hb hr (fun t99 ht99 hW99 => ⟨⟨2, (mu Mc o0 (.inl (G.2.1 1, 1, .inr (.inl f0)))), rfl, ⟨ad, Mc, f0, by rw [hk9]; rfl, hMo, rfl, by rw [hrf]; exact hC, rfl, fun z => absurd (hk9.symm.trans z) (by omega)⟩, by rw [ht99]; exact hP, hI⟩, hS.F ht99⟩) hS.2.2 dL_section_22
    | 2, hk9, hnm9 =>
      cases hnm9
      refine vx_catch (E := "java/lang/UnsupportedOperationException") (name := "java/lang/UnsupportedOperationException") hown [⟨0, 12, 15, 21⟩, ⟨0, 12, 19, 13⟩] ⟨0, 12, 23, 23⟩ [] hT (List.forall_mem_cons.mpr ⟨Or.inr ⟨by decide, "java/lang/IndexOutOfBoundsException", hts (.classLink RL 21 "java/lang/IndexOutOfBoundsException") (by decide +kernel), hG.2.1.2.2.2.2.1 ("java/lang/UnsupportedOperationException", "java/lang/IndexOutOfBoundsException") (by decide +kernel)⟩, (List.forall_mem_cons.mpr ⟨Or.inr ⟨by decide, "java/lang/IllegalArgumentException", hts (.classLink RL 13 "java/lang/IllegalArgumentException") (by decide +kernel), hG.2.1.2.2.2.2.1 ("java/lang/UnsupportedOperationException", "java/lang/IllegalArgumentException") (by decide +kernel)⟩, (fun z hz => by cases hz)⟩)⟩) rfl (by decide) (hts (.classLink RL 23 "java/lang/UnsupportedOperationException") (by decide +kernel)) (va_Nw.use rfl (hG.2.1.2.2.2.1 ("java/lang/UnsupportedOperationException", "java/lang/UnsupportedOperationException") (by decide +kernel))) hc9 hv9 hcl9 ?_
      refine lv_astore (lv' := [(5, .ref q9), (0, .ref (ad 0 0)), (1, .int p0), (2, .int p1), (3, .int p2), (4, .ref o0)]) hx hb dL_section_23 hl (by decide) rfl (fun ls hl => ?_)
      refine lv_iconst (v := 3) hx hb dL_section_25 (by decide) ?_
      refine W.widen (k := 4) (n := 24) (Nat.le_of_ble_eq_true rfl) (Nat.le_of_ble_eq_true rfl) ?_
      refine vx_ret ?_
      exact W.iret (v := 3) hx hb hr (fun t99 ht99 hW99 => ⟨⟨3, (mu Mc o0 (.inl (G.2.1 1, 1, .inr (.inl f0)))), rfl, ⟨ad, Mc, f0, by rw [hk9]; rfl, hMo, rfl, by rw [hrf]; exact hC, rfl, fun z => absurd (hk9.symm.trans z) (by omega)⟩, by rw [ht99]; exact hP, hI⟩, hS.F ht99⟩) hS.2.2 dL_section_26
    | (k9 + 3), hk9, hnm9 => cases hnm9
  obtain ⟨s9, ad9, hop, hC9, ha9⟩ := hp9
  have h_O : (mu Mw1 o0 (.inl (G.2.1 1, 1, .inr (.inl f0)))) o0 = some (.inl (G.2.1 1, 1, .inr (.inl f0))) := mu_s
  refine lv_i2l (v := r9.toInt64) hx hb dL_section_10 rfl ?_
  refine m_last hx hb hK hP hI hS 1 h_O rfl (show vp_in 0 1 by unfold vp_in; decide) dL_section_11 (fun H locs hP hI hS => ?_)
  rw [mu_uu] at hP hI 
  have h_O : (mu Mw1 o0 (.inl (G.2.1 1, 1, .inr (.inl (vf_upd f0 ((0 : Int32).toNatClampNeg) r9.toInt64))))) o0 = some (.inl (G.2.1 1, 1, .inr (.inl (vf_upd f0 ((0 : Int32).toNatClampNeg) r9.toInt64)))) := mu_s
  refine lv_goto (tgt := 27) hx hb dL_section_12 (by decide) ?_
  refine lv_iconst (v := 0) hx hb dL_section_27 (by decide) ?_
  refine W.widen (k := 4) (n := 24) (Nat.le_of_ble_eq_true rfl) (Nat.le_of_ble_eq_true rfl) ?_
  refine vx_ret ?_
  exact W.iret (v := 0) hx hb hr (fun t99 ht99 hW99 => ⟨⟨0, (mu Mw1 o0 (.inl (G.2.1 1, 1, .inr (.inl (vf_upd f0 ((0 : Int32).toNatClampNeg) r9.toInt64))))), rfl, ⟨ad9, Mw1, _, by rw [hop]; rfl, hn9, rfl, by rw [hop]; exact hC9, ha9, fun _ => vf_0.trans (by rw [hop])⟩, by rw [ht99]; exact hP, hI⟩, hS.F ht99⟩) hS.2.2 dL_section_28

theorem rf_bore (st : St) (p0 p1 : Int32) : (m_bore st p0 p1).1 ≠ 0 → (m_bore st p0 p1).2.2 = st := by
  unfold m_bore
  first | exact chk_ref (ref_0) | exact chk_ref (chk_ref (ref_0)) | exact chk_ref (chk_ref (chk_ref (ref_0))) | exact chk_ref (chk_ref (chk_ref (chk_ref (ref_0)))) | exact chk_ref (chk_ref (chk_ref (chk_ref (chk_ref (ref_0))))) | exact chk_ref (chk_ref (chk_ref (chk_ref (chk_ref (chk_ref (ref_0)))))) | exact chk_ref (chk_ref (chk_ref (chk_ref (chk_ref (chk_ref (chk_ref (ref_0)))))))
set_option maxHeartbeats 4000000 in
set_option maxRecDepth 100000 in
theorem c_L_bore (l : Launch) (G : mg) (A : Nat → Prop) (Mc : mw) (hl9 : l.stackTraces = false) (st : St) (ad : adr) (p0 p1 : Int32) (o0 : Nat) {f0 : Nat → Int64} (hMo : Mc o0 = none) (hC : CS G st ad Mc) (hV : Inv st) : vx_Met l yL_bore wsL_bore ({ frames := 8, cells := 2, slots := 12, locals := 127 }) (va_Pc [.ref (ad 0 0), .int p0, .int p1, .ref o0] (mB G A (mu Mc o0 (.inl (G.2.1 1, 1, .inr (.inl f0)))))) (va_Qi (fun r Mw1 => ∃ (ad1 : adr) (Mc1 : mw) (f1 : Nat → Int64), r = nI (m_bore st p0 p1).1 ∧ Mc1 o0 = none ∧ Mw1 = mu Mc1 o0 (.inl (G.2.1 1, 1, .inr (.inl f1))) ∧ CS G (m_bore st p0 p1).2.2 ad1 Mc1 ∧ ad1 0 0 = ad 0 0 ∧ ((m_bore st p0 p1).1 = 0 → f1 0 = (m_bore st p0 p1).2.1.toInt64)) (mE G A) A) (xX (fun _ => False) G A (mu Mc o0 (.inl (G.2.1 1, 1, .inr (.inl f0))))) 2 12 A := by
  refine vx_ofWH (cc := cL_bore) (maxL := 5) (ret := (some .int)) (by decide) rfl ?_
  intro p e s m args below meth c s₁ B hml hv
  obtain ⟨rfl, hG, hP, hI, hA⟩ := hv
  have hx := B.exec
  have hb := B.bytes
  have hr := B.returns
  have hts := atoms_spec (ws := wsL_bore) B.pre
  have hown : s.vm.findClass RL = some m.cls := findClass_of_methodNamed B.named
  have hlocks := B.notSynchronized
  have hK := hG.K
  have hS : va_S A s.heap s.heap [] := va_S.rf
  have hl := lv_entry ([.ref (ad 0 0), .int p0, .int p1, .ref o0]) (n := 5) (Nat.le_of_ble_eq_true rfl)
  rw [lg_entry_eq]
  generalize (lg_sl ([.ref (ad 0 0), .int p0, .int p1, .ref o0]) ++ List.replicate (5 - (lg_sl ([.ref (ad 0 0), .int p0, .int p1, .ref o0])).length) Slot.unset).toArray = ls at hl ⊢
  have hl : lv_has ls 5 [(0, .ref (ad 0 0)), (1, .int p0), (2, .int p1), (3, .ref o0)] := hl
  have hP : mP G.1 (mu Mc o0 (.inl (G.2.1 1, 1, .inr (.inl f0)))) s.heap := hP
  refine lv_aload_n hx hb dL_bore_0 rfl (lv_at hl 3 rfl) ?_
  refine lv_iconst (v := 0) hx hb dL_bore_1 (by decide) ?_
  refine lv_aload_n hx hb dL_bore_2 rfl (lv_at hl 0 rfl) ?_
  refine lv_iload_n hx hb dL_bore_3 rfl (lv_at hl 1 rfl) ?_
  refine lv_iload_n hx hb dL_bore_4 rfl (lv_at hl 2 rfl) ?_
  have hPd := mP_dn hMo hP
  have hId := mI_dn hMo hI
  have ho9 : o0 < s.heap.size := mP.lt hP (mu_s (M := Mc) (a := o0))
  have hAd : ∀ q : Nat, s.heap.size ≤ q → aN A o0 q := fun q hq => ⟨hA q hq, fun z => by omega⟩
  have hSd : va_S (aN A o0) s.heap s.heap [] := va_S.rf
  refine mn_calli (vx_runV (As := [.int p0, .int p1]) (rest := [.int 0, .ref o0]) ⟨hx, hb, hml, hown, hts⟩ (c_X4_bore l G (aN A o0) Mc hl9 st ad p0 p1 hC hV) (cwV 2 hts gL_bore_X4_bore rfl rfl rfl (by decide +kernel) ⟨Nat.le_of_ble_eq_true rfl, Nat.le_of_ble_eq_true rfl⟩) (mPreV (GK_aN hG) hSd hPd hId hAd (hPd (ad 0 0) _ (hC.1 0 0 (ok0 st))) (r := (RX4, TX4, 9)) rfl) rfl rfl hl.1 rfl (lv_room (Nat.le_of_ble_eq_true rfl)) dL_bore_5 ⟨Nat.le_of_ble_eq_true rfl, Nat.le_of_ble_eq_true rfl⟩) hP hI hS (fun E9 ce9 q9 H locs hpx9 hP hS hc9 hv9 hcl9 => ?_) (fun r9 Mw1 H locs hp9 hn9 hP hI hS => ?_)
  · obtain ⟨k9, hk9, hnm9⟩ := hpx9
    have hT : c.exceptionTable.toList = tableOf [(0, 10, 13, 21), (0, 10, 17, 13)] := vx_table (x := yL_bore) B (hts _ List.mem_cons_self)
    have hrf : (m_bore st p0 p1).2.2 = st := rf_bore st p0 p1 (by rw [hk9]; omega)
    match k9, hk9, hnm9 with
    | 0, hk9, hnm9 =>
      cases hnm9
      refine vx_catch (E := "java/lang/IndexOutOfBoundsException") (name := "java/lang/IndexOutOfBoundsException") hown [] ⟨0, 10, 13, 21⟩ [⟨0, 10, 17, 13⟩] hT (fun z hz => by cases hz) rfl (by decide) (hts (.classLink RL 21 "java/lang/IndexOutOfBoundsException") (by decide +kernel)) (va_Nw.use rfl (hG.2.1.2.2.2.1 ("java/lang/IndexOutOfBoundsException", "java/lang/IndexOutOfBoundsException") (by decide +kernel))) hc9 hv9 hcl9 ?_
      refine lv_astore (lv' := [(4, .ref q9), (0, .ref (ad 0 0)), (1, .int p0), (2, .int p1), (3, .ref o0)]) hx hb dL_bore_13 hl (by decide) rfl (fun ls hl => ?_)
      refine lv_iconst (v := 1) hx hb dL_bore_15 (by decide) ?_
      refine W.widen (k := 2) (n := 12) (Nat.le_of_ble_eq_true rfl) (Nat.le_of_ble_eq_true rfl) ?_
      refine vx_ret ?_
      exact W.iret (v := 1) hx hb hr (fun t99 ht99 hW99 => ⟨⟨1, (mu Mc o0 (.inl (G.2.1 1, 1, .inr (.inl f0)))), rfl, ⟨ad, Mc, f0, by rw [hk9]; rfl, hMo, rfl, by rw [hrf]; exact hC, rfl, fun z => absurd (hk9.symm.trans z) (by omega)⟩, by rw [ht99]; exact hP, hI⟩, hS.F ht99⟩) hS.2.2 dL_bore_16
    | 1, hk9, hnm9 =>
      cases hnm9
      refine vx_catch (E := "java/lang/IllegalArgumentException") (name := "java/lang/IllegalArgumentException") hown [⟨0, 10, 13, 21⟩] ⟨0, 10, 17, 13⟩ [] hT (List.forall_mem_cons.mpr ⟨Or.inr ⟨by decide, "java/lang/IndexOutOfBoundsException", hts (.classLink RL 21 "java/lang/IndexOutOfBoundsException") (by decide +kernel), hG.2.1.2.2.2.2.1 ("java/lang/IllegalArgumentException", "java/lang/IndexOutOfBoundsException") (by decide +kernel)⟩, (fun z hz => by cases hz)⟩) rfl (by decide) (hts (.classLink RL 13 "java/lang/IllegalArgumentException") (by decide +kernel)) (va_Nw.use rfl (hG.2.1.2.2.2.1 ("java/lang/IllegalArgumentException", "java/lang/IllegalArgumentException") (by decide +kernel))) hc9 hv9 hcl9 ?_
      refine lv_astore (lv' := [(4, .ref q9), (0, .ref (ad 0 0)), (1, .int p0), (2, .int p1), (3, .ref o0)]) hx hb dL_bore_17 hl (by decide) rfl (fun ls hl => ?_)
      refine lv_iconst (v := 2) hx hb dL_bore_19 (by decide) ?_
      refine W.widen (k := 2) (n := 12) (Nat.le_of_ble_eq_true rfl) (Nat.le_of_ble_eq_true rfl) ?_
      refine vx_ret ?_
      exact W.iret (v := 2) hx hb hr (fun t99 ht99 hW99 => ⟨⟨2, (mu Mc o0 (.inl (G.2.1 1, 1, .inr (.inl f0)))), rfl, ⟨ad, Mc, f0, by rw [hk9]; rfl, hMo, rfl, by rw [hrf]; exact hC, rfl, fun z => absurd (hk9.symm.trans z) (by omega)⟩, by rw [ht99]; exact hP, hI⟩, hS.F ht99⟩) hS.2.2 dL_bore_20
    | (k9 + 2), hk9, hnm9 => cases hnm9
  obtain ⟨s9, ad9, hop, hC9, ha9⟩ := hp9
  have h_O : (mu Mw1 o0 (.inl (G.2.1 1, 1, .inr (.inl f0)))) o0 = some (.inl (G.2.1 1, 1, .inr (.inl f0))) := mu_s
  refine lv_i2l (v := r9.toInt64) hx hb dL_bore_8 rfl ?_
  refine m_last hx hb hK hP hI hS 1 h_O rfl (show vp_in 0 1 by unfold vp_in; decide) dL_bore_9 (fun H locs hP hI hS => ?_)
  rw [mu_uu] at hP hI 
  have h_O : (mu Mw1 o0 (.inl (G.2.1 1, 1, .inr (.inl (vf_upd f0 ((0 : Int32).toNatClampNeg) r9.toInt64))))) o0 = some (.inl (G.2.1 1, 1, .inr (.inl (vf_upd f0 ((0 : Int32).toNatClampNeg) r9.toInt64)))) := mu_s
  refine lv_goto (tgt := 21) hx hb dL_bore_10 (by decide) ?_
  refine lv_iconst (v := 0) hx hb dL_bore_21 (by decide) ?_
  refine W.widen (k := 2) (n := 12) (Nat.le_of_ble_eq_true rfl) (Nat.le_of_ble_eq_true rfl) ?_
  refine vx_ret ?_
  exact W.iret (v := 0) hx hb hr (fun t99 ht99 hW99 => ⟨⟨0, (mu Mw1 o0 (.inl (G.2.1 1, 1, .inr (.inl (vf_upd f0 ((0 : Int32).toNatClampNeg) r9.toInt64))))), rfl, ⟨ad9, Mw1, _, by rw [hop]; rfl, hn9, rfl, by rw [hop]; exact hC9, ha9, fun _ => vf_0.trans (by rw [hop])⟩, by rw [ht99]; exact hP, hI⟩, hS.F ht99⟩) hS.2.2 dL_bore_22

theorem rf_volume (st : St) (p0 p1 : Int32) : (m_volume st p0 p1).1 ≠ 0 → (m_volume st p0 p1).2.2 = st := by
  unfold m_volume
  first | exact chk_ref (ref_0) | exact chk_ref (chk_ref (ref_0)) | exact chk_ref (chk_ref (chk_ref (ref_0))) | exact chk_ref (chk_ref (chk_ref (chk_ref (ref_0)))) | exact chk_ref (chk_ref (chk_ref (chk_ref (chk_ref (ref_0))))) | exact chk_ref (chk_ref (chk_ref (chk_ref (chk_ref (chk_ref (ref_0)))))) | exact chk_ref (chk_ref (chk_ref (chk_ref (chk_ref (chk_ref (chk_ref (ref_0)))))))
set_option maxHeartbeats 4000000 in
set_option maxRecDepth 100000 in
theorem c_L_volume (l : Launch) (G : mg) (A : Nat → Prop) (Mc : mw) (hl9 : l.stackTraces = false) (st : St) (ad : adr) (p0 p1 : Int32) (o0 : Nat) {f0 : Nat → Int64} (hMo : Mc o0 = none) (hC : CS G st ad Mc) (hV : Inv st) : vx_Met l yL_volume wsL_volume ({ frames := 9, cells := 2, slots := 12, locals := 147 }) (va_Pc [.ref (ad 0 0), .int p0, .int p1, .ref o0] (mB G A (mu Mc o0 (.inl (G.2.1 1, 1, .inr (.inl f0)))))) (va_Qi (fun r Mw1 => ∃ (ad1 : adr) (Mc1 : mw) (f1 : Nat → Int64), r = nI (m_volume st p0 p1).1 ∧ Mc1 o0 = none ∧ Mw1 = mu Mc1 o0 (.inl (G.2.1 1, 1, .inr (.inl f1))) ∧ CS G (m_volume st p0 p1).2.2 ad1 Mc1 ∧ ad1 0 0 = ad 0 0 ∧ ((m_volume st p0 p1).1 = 0 → f1 0 = (m_volume st p0 p1).2.1.toInt64)) (mE G A) A) (xX (fun _ => False) G A (mu Mc o0 (.inl (G.2.1 1, 1, .inr (.inl f0))))) 2 12 A := by
  refine vx_ofWH (cc := cL_volume) (maxL := 5) (ret := (some .int)) (by decide) rfl ?_
  intro p e s m args below meth c s₁ B hml hv
  obtain ⟨rfl, hG, hP, hI, hA⟩ := hv
  have hx := B.exec
  have hb := B.bytes
  have hr := B.returns
  have hts := atoms_spec (ws := wsL_volume) B.pre
  have hown : s.vm.findClass RL = some m.cls := findClass_of_methodNamed B.named
  have hlocks := B.notSynchronized
  have hK := hG.K
  have hS : va_S A s.heap s.heap [] := va_S.rf
  have hl := lv_entry ([.ref (ad 0 0), .int p0, .int p1, .ref o0]) (n := 5) (Nat.le_of_ble_eq_true rfl)
  rw [lg_entry_eq]
  generalize (lg_sl ([.ref (ad 0 0), .int p0, .int p1, .ref o0]) ++ List.replicate (5 - (lg_sl ([.ref (ad 0 0), .int p0, .int p1, .ref o0])).length) Slot.unset).toArray = ls at hl ⊢
  have hl : lv_has ls 5 [(0, .ref (ad 0 0)), (1, .int p0), (2, .int p1), (3, .ref o0)] := hl
  have hP : mP G.1 (mu Mc o0 (.inl (G.2.1 1, 1, .inr (.inl f0)))) s.heap := hP
  refine lv_aload_n hx hb dL_volume_0 rfl (lv_at hl 3 rfl) ?_
  refine lv_iconst (v := 0) hx hb dL_volume_1 (by decide) ?_
  refine lv_aload_n hx hb dL_volume_2 rfl (lv_at hl 0 rfl) ?_
  refine lv_iload_n hx hb dL_volume_3 rfl (lv_at hl 1 rfl) ?_
  refine lv_iload_n hx hb dL_volume_4 rfl (lv_at hl 2 rfl) ?_
  have hPd := mP_dn hMo hP
  have hId := mI_dn hMo hI
  have ho9 : o0 < s.heap.size := mP.lt hP (mu_s (M := Mc) (a := o0))
  have hAd : ∀ q : Nat, s.heap.size ≤ q → aN A o0 q := fun q hq => ⟨hA q hq, fun z => by omega⟩
  have hSd : va_S (aN A o0) s.heap s.heap [] := va_S.rf
  refine mn_calli (vx_runV (As := [.int p0, .int p1]) (rest := [.int 0, .ref o0]) ⟨hx, hb, hml, hown, hts⟩ (c_X4_volume l G (aN A o0) Mc hl9 st ad p0 p1 hC hV) (cwV 2 hts gL_volume_X4_volume rfl rfl rfl (by decide +kernel) ⟨Nat.le_of_ble_eq_true rfl, Nat.le_of_ble_eq_true rfl⟩) (mPreV (GK_aN hG) hSd hPd hId hAd (hPd (ad 0 0) _ (hC.1 0 0 (ok0 st))) (r := (RX4, TX4, 9)) rfl) rfl rfl hl.1 rfl (lv_room (Nat.le_of_ble_eq_true rfl)) dL_volume_5 ⟨Nat.le_of_ble_eq_true rfl, Nat.le_of_ble_eq_true rfl⟩) hP hI hS (fun E9 ce9 q9 H locs hpx9 hP hS hc9 hv9 hcl9 => ?_) (fun r9 Mw1 H locs hp9 hn9 hP hI hS => ?_)
  · obtain ⟨k9, hk9, hnm9⟩ := hpx9
    have hT : c.exceptionTable.toList = tableOf [(0, 10, 13, 21), (0, 10, 17, 13)] := vx_table (x := yL_volume) B (hts _ List.mem_cons_self)
    have hrf : (m_volume st p0 p1).2.2 = st := rf_volume st p0 p1 (by rw [hk9]; omega)
    match k9, hk9, hnm9 with
    | 0, hk9, hnm9 =>
      cases hnm9
      refine vx_catch (E := "java/lang/IndexOutOfBoundsException") (name := "java/lang/IndexOutOfBoundsException") hown [] ⟨0, 10, 13, 21⟩ [⟨0, 10, 17, 13⟩] hT (fun z hz => by cases hz) rfl (by decide) (hts (.classLink RL 21 "java/lang/IndexOutOfBoundsException") (by decide +kernel)) (va_Nw.use rfl (hG.2.1.2.2.2.1 ("java/lang/IndexOutOfBoundsException", "java/lang/IndexOutOfBoundsException") (by decide +kernel))) hc9 hv9 hcl9 ?_
      refine lv_astore (lv' := [(4, .ref q9), (0, .ref (ad 0 0)), (1, .int p0), (2, .int p1), (3, .ref o0)]) hx hb dL_volume_13 hl (by decide) rfl (fun ls hl => ?_)
      refine lv_iconst (v := 1) hx hb dL_volume_15 (by decide) ?_
      refine W.widen (k := 2) (n := 12) (Nat.le_of_ble_eq_true rfl) (Nat.le_of_ble_eq_true rfl) ?_
      refine vx_ret ?_
      exact W.iret (v := 1) hx hb hr (fun t99 ht99 hW99 => ⟨⟨1, (mu Mc o0 (.inl (G.2.1 1, 1, .inr (.inl f0)))), rfl, ⟨ad, Mc, f0, by rw [hk9]; rfl, hMo, rfl, by rw [hrf]; exact hC, rfl, fun z => absurd (hk9.symm.trans z) (by omega)⟩, by rw [ht99]; exact hP, hI⟩, hS.F ht99⟩) hS.2.2 dL_volume_16
    | 1, hk9, hnm9 =>
      cases hnm9
      refine vx_catch (E := "java/lang/IllegalArgumentException") (name := "java/lang/IllegalArgumentException") hown [⟨0, 10, 13, 21⟩] ⟨0, 10, 17, 13⟩ [] hT (List.forall_mem_cons.mpr ⟨Or.inr ⟨by decide, "java/lang/IndexOutOfBoundsException", hts (.classLink RL 21 "java/lang/IndexOutOfBoundsException") (by decide +kernel), hG.2.1.2.2.2.2.1 ("java/lang/IllegalArgumentException", "java/lang/IndexOutOfBoundsException") (by decide +kernel)⟩, (fun z hz => by cases hz)⟩) rfl (by decide) (hts (.classLink RL 13 "java/lang/IllegalArgumentException") (by decide +kernel)) (va_Nw.use rfl (hG.2.1.2.2.2.1 ("java/lang/IllegalArgumentException", "java/lang/IllegalArgumentException") (by decide +kernel))) hc9 hv9 hcl9 ?_
      refine lv_astore (lv' := [(4, .ref q9), (0, .ref (ad 0 0)), (1, .int p0), (2, .int p1), (3, .ref o0)]) hx hb dL_volume_17 hl (by decide) rfl (fun ls hl => ?_)
      refine lv_iconst (v := 2) hx hb dL_volume_19 (by decide) ?_
      refine W.widen (k := 2) (n := 12) (Nat.le_of_ble_eq_true rfl) (Nat.le_of_ble_eq_true rfl) ?_
      refine vx_ret ?_
      exact W.iret (v := 2) hx hb hr (fun t99 ht99 hW99 => ⟨⟨2, (mu Mc o0 (.inl (G.2.1 1, 1, .inr (.inl f0)))), rfl, ⟨ad, Mc, f0, by rw [hk9]; rfl, hMo, rfl, by rw [hrf]; exact hC, rfl, fun z => absurd (hk9.symm.trans z) (by omega)⟩, by rw [ht99]; exact hP, hI⟩, hS.F ht99⟩) hS.2.2 dL_volume_20
    | (k9 + 2), hk9, hnm9 => cases hnm9
  obtain ⟨s9, ad9, hop, hC9, ha9⟩ := hp9
  have h_O : (mu Mw1 o0 (.inl (G.2.1 1, 1, .inr (.inl f0)))) o0 = some (.inl (G.2.1 1, 1, .inr (.inl f0))) := mu_s
  refine lv_i2l (v := r9.toInt64) hx hb dL_volume_8 rfl ?_
  refine m_last hx hb hK hP hI hS 1 h_O rfl (show vp_in 0 1 by unfold vp_in; decide) dL_volume_9 (fun H locs hP hI hS => ?_)
  rw [mu_uu] at hP hI 
  have h_O : (mu Mw1 o0 (.inl (G.2.1 1, 1, .inr (.inl (vf_upd f0 ((0 : Int32).toNatClampNeg) r9.toInt64))))) o0 = some (.inl (G.2.1 1, 1, .inr (.inl (vf_upd f0 ((0 : Int32).toNatClampNeg) r9.toInt64)))) := mu_s
  refine lv_goto (tgt := 21) hx hb dL_volume_10 (by decide) ?_
  refine lv_iconst (v := 0) hx hb dL_volume_21 (by decide) ?_
  refine W.widen (k := 2) (n := 12) (Nat.le_of_ble_eq_true rfl) (Nat.le_of_ble_eq_true rfl) ?_
  refine vx_ret ?_
  exact W.iret (v := 0) hx hb hr (fun t99 ht99 hW99 => ⟨⟨0, (mu Mw1 o0 (.inl (G.2.1 1, 1, .inr (.inl (vf_upd f0 ((0 : Int32).toNatClampNeg) r9.toInt64))))), rfl, ⟨ad9, Mw1, _, by rw [hop]; rfl, hn9, rfl, by rw [hop]; exact hC9, ha9, fun _ => vf_0.trans (by rw [hop])⟩, by rw [ht99]; exact hP, hI⟩, hS.F ht99⟩) hS.2.2 dL_volume_22

theorem rf_thread (st : St) (p0 p1 p2 : Int32) : (m_thread st p0 p1 p2).1 ≠ 0 → (m_thread st p0 p1 p2).2.2 = st := by
  unfold m_thread
  first | exact chk_ref (ref_0) | exact chk_ref (chk_ref (ref_0)) | exact chk_ref (chk_ref (chk_ref (ref_0))) | exact chk_ref (chk_ref (chk_ref (chk_ref (ref_0)))) | exact chk_ref (chk_ref (chk_ref (chk_ref (chk_ref (ref_0))))) | exact chk_ref (chk_ref (chk_ref (chk_ref (chk_ref (chk_ref (ref_0)))))) | exact chk_ref (chk_ref (chk_ref (chk_ref (chk_ref (chk_ref (chk_ref (ref_0)))))))
set_option maxHeartbeats 4000000 in
set_option maxRecDepth 100000 in
theorem c_L_thread (l : Launch) (G : mg) (A : Nat → Prop) (Mc : mw) (hl9 : l.stackTraces = false) (st : St) (ad : adr) (p0 p1 p2 : Int32) (o0 : Nat) {f0 : Nat → Int64} (hMo : Mc o0 = none) (hC : CS G st ad Mc) (hV : Inv st) : vx_Met l yL_thread wsL_thread ({ frames := 9, cells := 4, slots := 24, locals := 149 }) (va_Pc [.ref (ad 0 0), .int p0, .int p1, .int p2, .ref o0] (mB G A (mu Mc o0 (.inl (G.2.1 1, 1, .inr (.inl f0)))))) (va_Qi (fun r Mw1 => ∃ (ad1 : adr) (Mc1 : mw) (f1 : Nat → Int64), r = nI (m_thread st p0 p1 p2).1 ∧ Mc1 o0 = none ∧ Mw1 = mu Mc1 o0 (.inl (G.2.1 1, 1, .inr (.inl f1))) ∧ CS G (m_thread st p0 p1 p2).2.2 ad1 Mc1 ∧ ad1 0 0 = ad 0 0 ∧ ((m_thread st p0 p1 p2).1 = 0 → f1 0 = (m_thread st p0 p1 p2).2.1.toInt64)) (mE G A) A) (xX (fun _ => False) G A (mu Mc o0 (.inl (G.2.1 1, 1, .inr (.inl f0))))) 4 24 A := by
  refine vx_ofWH (cc := cL_thread) (maxL := 6) (ret := (some .int)) (by decide) rfl ?_
  intro p e s m args below meth c s₁ B hml hv
  obtain ⟨rfl, hG, hP, hI, hA⟩ := hv
  have hx := B.exec
  have hb := B.bytes
  have hr := B.returns
  have hts := atoms_spec (ws := wsL_thread) B.pre
  have hown : s.vm.findClass RL = some m.cls := findClass_of_methodNamed B.named
  have hlocks := B.notSynchronized
  have hK := hG.K
  have hS : va_S A s.heap s.heap [] := va_S.rf
  have hl := lv_entry ([.ref (ad 0 0), .int p0, .int p1, .int p2, .ref o0]) (n := 6) (Nat.le_of_ble_eq_true rfl)
  rw [lg_entry_eq]
  generalize (lg_sl ([.ref (ad 0 0), .int p0, .int p1, .int p2, .ref o0]) ++ List.replicate (6 - (lg_sl ([.ref (ad 0 0), .int p0, .int p1, .int p2, .ref o0])).length) Slot.unset).toArray = ls at hl ⊢
  have hl : lv_has ls 6 [(0, .ref (ad 0 0)), (1, .int p0), (2, .int p1), (3, .int p2), (4, .ref o0)] := hl
  have hP : mP G.1 (mu Mc o0 (.inl (G.2.1 1, 1, .inr (.inl f0)))) s.heap := hP
  refine lv_aload hx hb dL_thread_0 (lv_at hl 4 rfl) ?_
  refine lv_iconst (v := 0) hx hb dL_thread_2 (by decide) ?_
  refine lv_aload_n hx hb dL_thread_3 rfl (lv_at hl 0 rfl) ?_
  refine lv_iload_n hx hb dL_thread_4 rfl (lv_at hl 1 rfl) ?_
  refine lv_iload_n hx hb dL_thread_5 rfl (lv_at hl 2 rfl) ?_
  refine lv_iload_n hx hb dL_thread_6 rfl (lv_at hl 3 rfl) ?_
  have hPd := mP_dn hMo hP
  have hId := mI_dn hMo hI
  have ho9 : o0 < s.heap.size := mP.lt hP (mu_s (M := Mc) (a := o0))
  have hAd : ∀ q : Nat, s.heap.size ≤ q → aN A o0 q := fun q hq => ⟨hA q hq, fun z => by omega⟩
  have hSd : va_S (aN A o0) s.heap s.heap [] := va_S.rf
  refine mn_calli (vx_runV (As := [.int p0, .int p1, .int p2]) (rest := [.int 0, .ref o0]) ⟨hx, hb, hml, hown, hts⟩ (c_X4_thread l G (aN A o0) Mc hl9 st ad p0 p1 p2 hC hV) (cwV 3 hts gL_thread_X4_thread rfl rfl rfl (by decide +kernel) ⟨Nat.le_of_ble_eq_true rfl, Nat.le_of_ble_eq_true rfl⟩) (mPreV (GK_aN hG) hSd hPd hId hAd (hPd (ad 0 0) _ (hC.1 0 0 (ok0 st))) (r := (RX4, TX4, 9)) rfl) rfl rfl hl.1 rfl (lv_room (Nat.le_of_ble_eq_true rfl)) dL_thread_7 ⟨Nat.le_of_ble_eq_true rfl, Nat.le_of_ble_eq_true rfl⟩) hP hI hS (fun E9 ce9 q9 H locs hpx9 hP hS hc9 hv9 hcl9 => ?_) (fun r9 Mw1 H locs hp9 hn9 hP hI hS => ?_)
  · obtain ⟨k9, hk9, hnm9⟩ := hpx9
    have hT : c.exceptionTable.toList = tableOf [(0, 12, 15, 21), (0, 12, 19, 13), (0, 12, 23, 34)] := vx_table (x := yL_thread) B (hts _ List.mem_cons_self)
    have hrf : (m_thread st p0 p1 p2).2.2 = st := rf_thread st p0 p1 p2 (by rw [hk9]; omega)
    match k9, hk9, hnm9 with
    | 0, hk9, hnm9 =>
      cases hnm9
      refine vx_catch (E := "java/lang/IndexOutOfBoundsException") (name := "java/lang/IndexOutOfBoundsException") hown [] ⟨0, 12, 15, 21⟩ [⟨0, 12, 19, 13⟩, ⟨0, 12, 23, 34⟩] hT (fun z hz => by cases hz) rfl (by decide) (hts (.classLink RL 21 "java/lang/IndexOutOfBoundsException") (by decide +kernel)) (va_Nw.use rfl (hG.2.1.2.2.2.1 ("java/lang/IndexOutOfBoundsException", "java/lang/IndexOutOfBoundsException") (by decide +kernel))) hc9 hv9 hcl9 ?_
      refine lv_astore (lv' := [(5, .ref q9), (0, .ref (ad 0 0)), (1, .int p0), (2, .int p1), (3, .int p2), (4, .ref o0)]) hx hb dL_thread_15 hl (by decide) rfl (fun ls hl => ?_)
      refine lv_iconst (v := 1) hx hb dL_thread_17 (by decide) ?_
      refine W.widen (k := 4) (n := 24) (Nat.le_of_ble_eq_true rfl) (Nat.le_of_ble_eq_true rfl) ?_
      refine vx_ret ?_
      exact W.iret (v := 1) hx hb hr (fun t99 ht99 hW99 => ⟨⟨1, (mu Mc o0 (.inl (G.2.1 1, 1, .inr (.inl f0)))), rfl, ⟨ad, Mc, f0, by rw [hk9]; rfl, hMo, rfl, by rw [hrf]; exact hC, rfl, fun z => absurd (hk9.symm.trans z) (by omega)⟩, by rw [ht99]; exact hP, hI⟩, hS.F ht99⟩) hS.2.2 dL_thread_18
    | 1, hk9, hnm9 =>
      cases hnm9
      refine vx_catch (E := "java/lang/IllegalArgumentException") (name := "java/lang/IllegalArgumentException") hown [⟨0, 12, 15, 21⟩] ⟨0, 12, 19, 13⟩ [⟨0, 12, 23, 34⟩] hT (List.forall_mem_cons.mpr ⟨Or.inr ⟨by decide, "java/lang/IndexOutOfBoundsException", hts (.classLink RL 21 "java/lang/IndexOutOfBoundsException") (by decide +kernel), hG.2.1.2.2.2.2.1 ("java/lang/IllegalArgumentException", "java/lang/IndexOutOfBoundsException") (by decide +kernel)⟩, (fun z hz => by cases hz)⟩) rfl (by decide) (hts (.classLink RL 13 "java/lang/IllegalArgumentException") (by decide +kernel)) (va_Nw.use rfl (hG.2.1.2.2.2.1 ("java/lang/IllegalArgumentException", "java/lang/IllegalArgumentException") (by decide +kernel))) hc9 hv9 hcl9 ?_
      refine lv_astore (lv' := [(5, .ref q9), (0, .ref (ad 0 0)), (1, .int p0), (2, .int p1), (3, .int p2), (4, .ref o0)]) hx hb dL_thread_19 hl (by decide) rfl (fun ls hl => ?_)
      refine lv_iconst (v := 2) hx hb dL_thread_21 (by decide) ?_
      refine W.widen (k := 4) (n := 24) (Nat.le_of_ble_eq_true rfl) (Nat.le_of_ble_eq_true rfl) ?_
      refine vx_ret ?_
      exact W.iret (v := 2) hx hb hr (fun t99 ht99 hW99 => ⟨⟨2, (mu Mc o0 (.inl (G.2.1 1, 1, .inr (.inl f0)))), rfl, ⟨ad, Mc, f0, by rw [hk9]; rfl, hMo, rfl, by rw [hrf]; exact hC, rfl, fun z => absurd (hk9.symm.trans z) (by omega)⟩, by rw [ht99]; exact hP, hI⟩, hS.F ht99⟩) hS.2.2 dL_thread_22
    | 2, hk9, hnm9 =>
      cases hnm9
      refine vx_catch (E := "java/util/NoSuchElementException") (name := "java/util/NoSuchElementException") hown [⟨0, 12, 15, 21⟩, ⟨0, 12, 19, 13⟩] ⟨0, 12, 23, 34⟩ [] hT (List.forall_mem_cons.mpr ⟨Or.inr ⟨by decide, "java/lang/IndexOutOfBoundsException", hts (.classLink RL 21 "java/lang/IndexOutOfBoundsException") (by decide +kernel), hG.2.1.2.2.2.2.1 ("java/util/NoSuchElementException", "java/lang/IndexOutOfBoundsException") (by decide +kernel)⟩, (List.forall_mem_cons.mpr ⟨Or.inr ⟨by decide, "java/lang/IllegalArgumentException", hts (.classLink RL 13 "java/lang/IllegalArgumentException") (by decide +kernel), hG.2.1.2.2.2.2.1 ("java/util/NoSuchElementException", "java/lang/IllegalArgumentException") (by decide +kernel)⟩, (fun z hz => by cases hz)⟩)⟩) rfl (by decide) (hts (.classLink RL 34 "java/util/NoSuchElementException") (by decide +kernel)) (va_Nw.use rfl (hG.2.1.2.2.2.1 ("java/util/NoSuchElementException", "java/util/NoSuchElementException") (by decide +kernel))) hc9 hv9 hcl9 ?_
      refine lv_astore (lv' := [(5, .ref q9), (0, .ref (ad 0 0)), (1, .int p0), (2, .int p1), (3, .int p2), (4, .ref o0)]) hx hb dL_thread_23 hl (by decide) rfl (fun ls hl => ?_)
      refine lv_iconst (v := 3) hx hb dL_thread_25 (by decide) ?_
      refine W.widen (k := 4) (n := 24) (Nat.le_of_ble_eq_true rfl) (Nat.le_of_ble_eq_true rfl) ?_
      refine vx_ret ?_
      exact W.iret (v := 3) hx hb hr (fun t99 ht99 hW99 => ⟨⟨3, (mu Mc o0 (.inl (G.2.1 1, 1, .inr (.inl f0)))), rfl, ⟨ad, Mc, f0, by rw [hk9]; rfl, hMo, rfl, by rw [hrf]; exact hC, rfl, fun z => absurd (hk9.symm.trans z) (by omega)⟩, by rw [ht99]; exact hP, hI⟩, hS.F ht99⟩) hS.2.2 dL_thread_26
    | (k9 + 3), hk9, hnm9 => cases hnm9
  obtain ⟨s9, ad9, hop, hC9, ha9⟩ := hp9
  have h_O : (mu Mw1 o0 (.inl (G.2.1 1, 1, .inr (.inl f0)))) o0 = some (.inl (G.2.1 1, 1, .inr (.inl f0))) := mu_s
  refine lv_i2l (v := r9.toInt64) hx hb dL_thread_10 rfl ?_
  refine m_last hx hb hK hP hI hS 1 h_O rfl (show vp_in 0 1 by unfold vp_in; decide) dL_thread_11 (fun H locs hP hI hS => ?_)
  rw [mu_uu] at hP hI 
  have h_O : (mu Mw1 o0 (.inl (G.2.1 1, 1, .inr (.inl (vf_upd f0 ((0 : Int32).toNatClampNeg) r9.toInt64))))) o0 = some (.inl (G.2.1 1, 1, .inr (.inl (vf_upd f0 ((0 : Int32).toNatClampNeg) r9.toInt64)))) := mu_s
  refine lv_goto (tgt := 27) hx hb dL_thread_12 (by decide) ?_
  refine lv_iconst (v := 0) hx hb dL_thread_27 (by decide) ?_
  refine W.widen (k := 4) (n := 24) (Nat.le_of_ble_eq_true rfl) (Nat.le_of_ble_eq_true rfl) ?_
  refine vx_ret ?_
  exact W.iret (v := 0) hx hb hr (fun t99 ht99 hW99 => ⟨⟨0, (mu Mw1 o0 (.inl (G.2.1 1, 1, .inr (.inl (vf_upd f0 ((0 : Int32).toNatClampNeg) r9.toInt64))))), rfl, ⟨ad9, Mw1, _, by rw [hop]; rfl, hn9, rfl, by rw [hop]; exact hC9, ha9, fun _ => vf_0.trans (by rw [hop])⟩, by rw [ht99]; exact hP, hI⟩, hS.F ht99⟩) hS.2.2 dL_thread_28

theorem rf_widest (st : St) (p0 : Int32) : (m_widest st p0).1 ≠ 0 → (m_widest st p0).2.2 = st := by
  unfold m_widest
  first | exact chk_ref (ref_0) | exact chk_ref (chk_ref (ref_0)) | exact chk_ref (chk_ref (chk_ref (ref_0))) | exact chk_ref (chk_ref (chk_ref (chk_ref (ref_0)))) | exact chk_ref (chk_ref (chk_ref (chk_ref (chk_ref (ref_0))))) | exact chk_ref (chk_ref (chk_ref (chk_ref (chk_ref (chk_ref (ref_0)))))) | exact chk_ref (chk_ref (chk_ref (chk_ref (chk_ref (chk_ref (chk_ref (ref_0)))))))
set_option maxHeartbeats 4000000 in
set_option maxRecDepth 100000 in
theorem c_L_widest (l : Launch) (G : mg) (A : Nat → Prop) (Mc : mw) (hl9 : l.stackTraces = false) (st : St) (ad : adr) (p0 : Int32) (o0 : Nat) {f0 : Nat → Int64} (hMo : Mc o0 = none) (hC : CS G st ad Mc) (hV : Inv st) : vx_Met l yL_widest wsL_widest ({ frames := 8, cells := 1, slots := 6, locals := 124 }) (va_Pc [.ref (ad 0 0), .int p0, .ref o0] (mB G A (mu Mc o0 (.inl (G.2.1 1, 1, .inr (.inl f0)))))) (va_Qi (fun r Mw1 => ∃ (ad1 : adr) (Mc1 : mw) (f1 : Nat → Int64), r = nI (m_widest st p0).1 ∧ Mc1 o0 = none ∧ Mw1 = mu Mc1 o0 (.inl (G.2.1 1, 1, .inr (.inl f1))) ∧ CS G (m_widest st p0).2.2 ad1 Mc1 ∧ ad1 0 0 = ad 0 0 ∧ ((m_widest st p0).1 = 0 → f1 0 = (m_widest st p0).2.1.toInt64)) (mE G A) A) (xX (fun _ => False) G A (mu Mc o0 (.inl (G.2.1 1, 1, .inr (.inl f0))))) 1 6 A := by
  refine vx_ofWH (cc := cL_widest) (maxL := 4) (ret := (some .int)) (by decide) rfl ?_
  intro p e s m args below meth c s₁ B hml hv
  obtain ⟨rfl, hG, hP, hI, hA⟩ := hv
  have hx := B.exec
  have hb := B.bytes
  have hr := B.returns
  have hts := atoms_spec (ws := wsL_widest) B.pre
  have hown : s.vm.findClass RL = some m.cls := findClass_of_methodNamed B.named
  have hlocks := B.notSynchronized
  have hK := hG.K
  have hS : va_S A s.heap s.heap [] := va_S.rf
  have hl := lv_entry ([.ref (ad 0 0), .int p0, .ref o0]) (n := 4) (Nat.le_of_ble_eq_true rfl)
  rw [lg_entry_eq]
  generalize (lg_sl ([.ref (ad 0 0), .int p0, .ref o0]) ++ List.replicate (4 - (lg_sl ([.ref (ad 0 0), .int p0, .ref o0])).length) Slot.unset).toArray = ls at hl ⊢
  have hl : lv_has ls 4 [(0, .ref (ad 0 0)), (1, .int p0), (2, .ref o0)] := hl
  have hP : mP G.1 (mu Mc o0 (.inl (G.2.1 1, 1, .inr (.inl f0)))) s.heap := hP
  refine lv_aload_n hx hb dL_widest_0 rfl (lv_at hl 2 rfl) ?_
  refine lv_iconst (v := 0) hx hb dL_widest_1 (by decide) ?_
  refine lv_aload_n hx hb dL_widest_2 rfl (lv_at hl 0 rfl) ?_
  refine lv_iload_n hx hb dL_widest_3 rfl (lv_at hl 1 rfl) ?_
  have hPd := mP_dn hMo hP
  have hId := mI_dn hMo hI
  have ho9 : o0 < s.heap.size := mP.lt hP (mu_s (M := Mc) (a := o0))
  have hAd : ∀ q : Nat, s.heap.size ≤ q → aN A o0 q := fun q hq => ⟨hA q hq, fun z => by omega⟩
  have hSd : va_S (aN A o0) s.heap s.heap [] := va_S.rf
  refine mn_calli (vx_runV (As := [.int p0]) (rest := [.int 0, .ref o0]) ⟨hx, hb, hml, hown, hts⟩ (c_X4_widest l G (aN A o0) Mc hl9 st ad p0 hC hV) (cwV 1 hts gL_widest_X4_widest rfl rfl rfl (by decide +kernel) ⟨Nat.le_of_ble_eq_true rfl, Nat.le_of_ble_eq_true rfl⟩) (mPreV (GK_aN hG) hSd hPd hId hAd (hPd (ad 0 0) _ (hC.1 0 0 (ok0 st))) (r := (RX4, TX4, 9)) rfl) rfl rfl hl.1 rfl (lv_room (Nat.le_of_ble_eq_true rfl)) dL_widest_4 ⟨Nat.le_of_ble_eq_true rfl, Nat.le_of_ble_eq_true rfl⟩) hP hI hS (fun E9 ce9 q9 H locs hpx9 hP hS hc9 hv9 hcl9 => ?_) (fun r9 Mw1 H locs hp9 hn9 hP hI hS => ?_)
  · obtain ⟨k9, hk9, hnm9⟩ := hpx9
    have hT : c.exceptionTable.toList = tableOf [(0, 9, 12, 21)] := vx_table (x := yL_widest) B (hts _ List.mem_cons_self)
    have hrf : (m_widest st p0).2.2 = st := rf_widest st p0 (by rw [hk9]; omega)
    match k9, hk9, hnm9 with
    | 0, hk9, hnm9 =>
      cases hnm9
      refine vx_catch (E := "java/lang/IndexOutOfBoundsException") (name := "java/lang/IndexOutOfBoundsException") hown [] ⟨0, 9, 12, 21⟩ [] hT (fun z hz => by cases hz) rfl (by decide) (hts (.classLink RL 21 "java/lang/IndexOutOfBoundsException") (by decide +kernel)) (va_Nw.use rfl (hG.2.1.2.2.2.1 ("java/lang/IndexOutOfBoundsException", "java/lang/IndexOutOfBoundsException") (by decide +kernel))) hc9 hv9 hcl9 ?_
      refine lv_astore_n (lv' := [(3, .ref q9), (0, .ref (ad 0 0)), (1, .int p0), (2, .ref o0)]) hx hb dL_widest_12 rfl hl (by decide) rfl (fun ls hl => ?_)
      refine lv_iconst (v := 1) hx hb dL_widest_13 (by decide) ?_
      refine W.widen (k := 1) (n := 6) (Nat.le_of_ble_eq_true rfl) (Nat.le_of_ble_eq_true rfl) ?_
      refine vx_ret ?_
      exact W.iret (v := 1) hx hb hr (fun t99 ht99 hW99 => ⟨⟨1, (mu Mc o0 (.inl (G.2.1 1, 1, .inr (.inl f0)))), rfl, ⟨ad, Mc, f0, by rw [hk9]; rfl, hMo, rfl, by rw [hrf]; exact hC, rfl, fun z => absurd (hk9.symm.trans z) (by omega)⟩, by rw [ht99]; exact hP, hI⟩, hS.F ht99⟩) hS.2.2 dL_widest_14
    | (k9 + 1), hk9, hnm9 => cases hnm9
  obtain ⟨s9, ad9, hop, hC9, ha9⟩ := hp9
  have h_O : (mu Mw1 o0 (.inl (G.2.1 1, 1, .inr (.inl f0)))) o0 = some (.inl (G.2.1 1, 1, .inr (.inl f0))) := mu_s
  refine lv_i2l (v := r9.toInt64) hx hb dL_widest_7 rfl ?_
  refine m_last hx hb hK hP hI hS 1 h_O rfl (show vp_in 0 1 by unfold vp_in; decide) dL_widest_8 (fun H locs hP hI hS => ?_)
  rw [mu_uu] at hP hI 
  have h_O : (mu Mw1 o0 (.inl (G.2.1 1, 1, .inr (.inl (vf_upd f0 ((0 : Int32).toNatClampNeg) r9.toInt64))))) o0 = some (.inl (G.2.1 1, 1, .inr (.inl (vf_upd f0 ((0 : Int32).toNatClampNeg) r9.toInt64)))) := mu_s
  refine lv_goto (tgt := 15) hx hb dL_widest_9 (by decide) ?_
  refine lv_iconst (v := 0) hx hb dL_widest_15 (by decide) ?_
  refine W.widen (k := 1) (n := 6) (Nat.le_of_ble_eq_true rfl) (Nat.le_of_ble_eq_true rfl) ?_
  refine vx_ret ?_
  exact W.iret (v := 0) hx hb hr (fun t99 ht99 hW99 => ⟨⟨0, (mu Mw1 o0 (.inl (G.2.1 1, 1, .inr (.inl (vf_upd f0 ((0 : Int32).toNatClampNeg) r9.toInt64))))), rfl, ⟨ad9, Mw1, _, by rw [hop]; rfl, hn9, rfl, by rw [hop]; exact hC9, ha9, fun _ => vf_0.trans (by rw [hop])⟩, by rw [ht99]; exact hP, hI⟩, hS.F ht99⟩) hS.2.2 dL_widest_16

theorem rf_deliver (st : St) (p0 p1 p2 p3 : Int32) : (m_deliver st p0 p1 p2 p3).1 ≠ 0 → (m_deliver st p0 p1 p2 p3).2.2 = st := by
  unfold m_deliver
  first | exact chk_ref (ref_0) | exact chk_ref (chk_ref (ref_0)) | exact chk_ref (chk_ref (chk_ref (ref_0))) | exact chk_ref (chk_ref (chk_ref (chk_ref (ref_0)))) | exact chk_ref (chk_ref (chk_ref (chk_ref (chk_ref (ref_0))))) | exact chk_ref (chk_ref (chk_ref (chk_ref (chk_ref (chk_ref (ref_0)))))) | exact chk_ref (chk_ref (chk_ref (chk_ref (chk_ref (chk_ref (chk_ref (ref_0)))))))
set_option maxHeartbeats 4000000 in
set_option maxRecDepth 100000 in
theorem c_L_deliver (l : Launch) (G : mg) (A : Nat → Prop) (Mc : mw) (hl9 : l.stackTraces = false) (st : St) (ad : adr) (p0 p1 p2 p3 : Int32) (o0 : Nat) {f0 : Nat → Int64} (hMo : Mc o0 = none) (hC : CS G st ad Mc) (hV : Inv st) : vx_Met l yL_deliver wsL_deliver ({ frames := 9, cells := 5, slots := 30, locals := 150 }) (va_Pc [.ref (ad 0 0), .int p0, .int p1, .int p2, .int p3, .ref o0] (mB G A (mu Mc o0 (.inl (G.2.1 1, 1, .inr (.inl f0)))))) (va_Qi (fun r Mw1 => ∃ (ad1 : adr) (Mc1 : mw) (f1 : Nat → Int64), r = nI (m_deliver st p0 p1 p2 p3).1 ∧ Mc1 o0 = none ∧ Mw1 = mu Mc1 o0 (.inl (G.2.1 1, 1, .inr (.inl f1))) ∧ CS G (m_deliver st p0 p1 p2 p3).2.2 ad1 Mc1 ∧ ad1 0 0 = ad 0 0 ∧ ((m_deliver st p0 p1 p2 p3).1 = 0 → f1 0 = (m_deliver st p0 p1 p2 p3).2.1.toInt64)) (mE G A) A) (xX (fun _ => False) G A (mu Mc o0 (.inl (G.2.1 1, 1, .inr (.inl f0))))) 5 30 A := by
  refine vx_ofWH (cc := cL_deliver) (maxL := 7) (ret := (some .int)) (by decide) rfl ?_
  intro p e s m args below meth c s₁ B hml hv
  obtain ⟨rfl, hG, hP, hI, hA⟩ := hv
  have hx := B.exec
  have hb := B.bytes
  have hr := B.returns
  have hts := atoms_spec (ws := wsL_deliver) B.pre
  have hown : s.vm.findClass RL = some m.cls := findClass_of_methodNamed B.named
  have hlocks := B.notSynchronized
  have hK := hG.K
  have hS : va_S A s.heap s.heap [] := va_S.rf
  have hl := lv_entry ([.ref (ad 0 0), .int p0, .int p1, .int p2, .int p3, .ref o0]) (n := 7) (Nat.le_of_ble_eq_true rfl)
  rw [lg_entry_eq]
  generalize (lg_sl ([.ref (ad 0 0), .int p0, .int p1, .int p2, .int p3, .ref o0]) ++ List.replicate (7 - (lg_sl ([.ref (ad 0 0), .int p0, .int p1, .int p2, .int p3, .ref o0])).length) Slot.unset).toArray = ls at hl ⊢
  have hl : lv_has ls 7 [(0, .ref (ad 0 0)), (1, .int p0), (2, .int p1), (3, .int p2), (4, .int p3), (5, .ref o0)] := hl
  have hP : mP G.1 (mu Mc o0 (.inl (G.2.1 1, 1, .inr (.inl f0)))) s.heap := hP
  refine lv_aload hx hb dL_deliver_0 (lv_at hl 5 rfl) ?_
  refine lv_iconst (v := 0) hx hb dL_deliver_2 (by decide) ?_
  refine lv_aload_n hx hb dL_deliver_3 rfl (lv_at hl 0 rfl) ?_
  refine lv_iload_n hx hb dL_deliver_4 rfl (lv_at hl 1 rfl) ?_
  refine lv_iload_n hx hb dL_deliver_5 rfl (lv_at hl 2 rfl) ?_
  refine lv_iload_n hx hb dL_deliver_6 rfl (lv_at hl 3 rfl) ?_
  refine lv_iload hx hb dL_deliver_7 (lv_at hl 4 rfl) ?_
  have hPd := mP_dn hMo hP
  have hId := mI_dn hMo hI
  have ho9 : o0 < s.heap.size := mP.lt hP (mu_s (M := Mc) (a := o0))
  have hAd : ∀ q : Nat, s.heap.size ≤ q → aN A o0 q := fun q hq => ⟨hA q hq, fun z => by omega⟩
  have hSd : va_S (aN A o0) s.heap s.heap [] := va_S.rf
  refine mn_calli (vx_runV (As := [.int p0, .int p1, .int p2, .int p3]) (rest := [.int 0, .ref o0]) ⟨hx, hb, hml, hown, hts⟩ (c_X4_deliver l G (aN A o0) Mc hl9 st ad p0 p1 p2 p3 hC hV) (cwV 4 hts gL_deliver_X4_deliver rfl rfl rfl (by decide +kernel) ⟨Nat.le_of_ble_eq_true rfl, Nat.le_of_ble_eq_true rfl⟩) (mPreV (GK_aN hG) hSd hPd hId hAd (hPd (ad 0 0) _ (hC.1 0 0 (ok0 st))) (r := (RX4, TX4, 9)) rfl) rfl rfl hl.1 rfl (lv_room (Nat.le_of_ble_eq_true rfl)) dL_deliver_9 ⟨Nat.le_of_ble_eq_true rfl, Nat.le_of_ble_eq_true rfl⟩) hP hI hS (fun E9 ce9 q9 H locs hpx9 hP hS hc9 hv9 hcl9 => ?_) (fun r9 Mw1 H locs hp9 hn9 hP hI hS => ?_)
  · obtain ⟨k9, hk9, hnm9⟩ := hpx9
    have hT : c.exceptionTable.toList = tableOf [(0, 14, 17, 21), (0, 14, 21, 13)] := vx_table (x := yL_deliver) B (hts _ List.mem_cons_self)
    have hrf : (m_deliver st p0 p1 p2 p3).2.2 = st := rf_deliver st p0 p1 p2 p3 (by rw [hk9]; omega)
    match k9, hk9, hnm9 with
    | 0, hk9, hnm9 =>
      cases hnm9
      refine vx_catch (E := "java/lang/IndexOutOfBoundsException") (name := "java/lang/IndexOutOfBoundsException") hown [] ⟨0, 14, 17, 21⟩ [⟨0, 14, 21, 13⟩] hT (fun z hz => by cases hz) rfl (by decide) (hts (.classLink RL 21 "java/lang/IndexOutOfBoundsException") (by decide +kernel)) (va_Nw.use rfl (hG.2.1.2.2.2.1 ("java/lang/IndexOutOfBoundsException", "java/lang/IndexOutOfBoundsException") (by decide +kernel))) hc9 hv9 hcl9 ?_
      refine lv_astore (lv' := [(6, .ref q9), (0, .ref (ad 0 0)), (1, .int p0), (2, .int p1), (3, .int p2), (4, .int p3), (5, .ref o0)]) hx hb dL_deliver_17 hl (by decide) rfl (fun ls hl => ?_)
      refine lv_iconst (v := 1) hx hb dL_deliver_19 (by decide) ?_
      refine W.widen (k := 5) (n := 30) (Nat.le_of_ble_eq_true rfl) (Nat.le_of_ble_eq_true rfl) ?_
      refine vx_ret ?_
      exact W.iret (v := 1) hx hb hr (fun t99 ht99 hW99 => ⟨⟨1, (mu Mc o0 (.inl (G.2.1 1, 1, .inr (.inl f0)))), rfl, ⟨ad, Mc, f0, by rw [hk9]; rfl, hMo, rfl, by rw [hrf]; exact hC, rfl, fun z => absurd (hk9.symm.trans z) (by omega)⟩, by rw [ht99]; exact hP, hI⟩, hS.F ht99⟩) hS.2.2 dL_deliver_20
    | 1, hk9, hnm9 =>
      cases hnm9
      refine vx_catch (E := "java/lang/IllegalArgumentException") (name := "java/lang/IllegalArgumentException") hown [⟨0, 14, 17, 21⟩] ⟨0, 14, 21, 13⟩ [] hT (List.forall_mem_cons.mpr ⟨Or.inr ⟨by decide, "java/lang/IndexOutOfBoundsException", hts (.classLink RL 21 "java/lang/IndexOutOfBoundsException") (by decide +kernel), hG.2.1.2.2.2.2.1 ("java/lang/IllegalArgumentException", "java/lang/IndexOutOfBoundsException") (by decide +kernel)⟩, (fun z hz => by cases hz)⟩) rfl (by decide) (hts (.classLink RL 13 "java/lang/IllegalArgumentException") (by decide +kernel)) (va_Nw.use rfl (hG.2.1.2.2.2.1 ("java/lang/IllegalArgumentException", "java/lang/IllegalArgumentException") (by decide +kernel))) hc9 hv9 hcl9 ?_
      refine lv_astore (lv' := [(6, .ref q9), (0, .ref (ad 0 0)), (1, .int p0), (2, .int p1), (3, .int p2), (4, .int p3), (5, .ref o0)]) hx hb dL_deliver_21 hl (by decide) rfl (fun ls hl => ?_)
      refine lv_iconst (v := 2) hx hb dL_deliver_23 (by decide) ?_
      refine W.widen (k := 5) (n := 30) (Nat.le_of_ble_eq_true rfl) (Nat.le_of_ble_eq_true rfl) ?_
      refine vx_ret ?_
      exact W.iret (v := 2) hx hb hr (fun t99 ht99 hW99 => ⟨⟨2, (mu Mc o0 (.inl (G.2.1 1, 1, .inr (.inl f0)))), rfl, ⟨ad, Mc, f0, by rw [hk9]; rfl, hMo, rfl, by rw [hrf]; exact hC, rfl, fun z => absurd (hk9.symm.trans z) (by omega)⟩, by rw [ht99]; exact hP, hI⟩, hS.F ht99⟩) hS.2.2 dL_deliver_24
    | (k9 + 2), hk9, hnm9 => cases hnm9
  obtain ⟨s9, ad9, hop, hC9, ha9⟩ := hp9
  have h_O : (mu Mw1 o0 (.inl (G.2.1 1, 1, .inr (.inl f0)))) o0 = some (.inl (G.2.1 1, 1, .inr (.inl f0))) := mu_s
  refine lv_i2l (v := r9.toInt64) hx hb dL_deliver_12 rfl ?_
  refine m_last hx hb hK hP hI hS 1 h_O rfl (show vp_in 0 1 by unfold vp_in; decide) dL_deliver_13 (fun H locs hP hI hS => ?_)
  rw [mu_uu] at hP hI 
  have h_O : (mu Mw1 o0 (.inl (G.2.1 1, 1, .inr (.inl (vf_upd f0 ((0 : Int32).toNatClampNeg) r9.toInt64))))) o0 = some (.inl (G.2.1 1, 1, .inr (.inl (vf_upd f0 ((0 : Int32).toNatClampNeg) r9.toInt64)))) := mu_s
  refine lv_goto (tgt := 25) hx hb dL_deliver_14 (by decide) ?_
  refine lv_iconst (v := 0) hx hb dL_deliver_25 (by decide) ?_
  refine W.widen (k := 5) (n := 30) (Nat.le_of_ble_eq_true rfl) (Nat.le_of_ble_eq_true rfl) ?_
  refine vx_ret ?_
  exact W.iret (v := 0) hx hb hr (fun t99 ht99 hW99 => ⟨⟨0, (mu Mw1 o0 (.inl (G.2.1 1, 1, .inr (.inl (vf_upd f0 ((0 : Int32).toNatClampNeg) r9.toInt64))))), rfl, ⟨ad9, Mw1, _, by rw [hop]; rfl, hn9, rfl, by rw [hop]; exact hC9, ha9, fun _ => vf_0.trans (by rw [hop])⟩, by rw [ht99]; exact hP, hI⟩, hS.F ht99⟩) hS.2.2 dL_deliver_26

theorem rf_make (st : St) (p0 p1 p2 : Int32) : (m_make st p0 p1 p2).1 ≠ 0 → (m_make st p0 p1 p2).2.2 = st := by
  unfold m_make
  first | exact chk_ref (ref_0) | exact chk_ref (chk_ref (ref_0)) | exact chk_ref (chk_ref (chk_ref (ref_0))) | exact chk_ref (chk_ref (chk_ref (chk_ref (ref_0)))) | exact chk_ref (chk_ref (chk_ref (chk_ref (chk_ref (ref_0))))) | exact chk_ref (chk_ref (chk_ref (chk_ref (chk_ref (chk_ref (ref_0)))))) | exact chk_ref (chk_ref (chk_ref (chk_ref (chk_ref (chk_ref (chk_ref (ref_0)))))))
set_option maxHeartbeats 4000000 in
set_option maxRecDepth 100000 in
theorem c_L_make (l : Launch) (G : mg) (A : Nat → Prop) (Mc : mw) (hl9 : l.stackTraces = false) (st : St) (ad : adr) (p0 p1 p2 : Int32) (o0 : Nat) {f0 : Nat → Int64} (hMo : Mc o0 = none) (hC : CS G st ad Mc) (hV : Inv st) : vx_Met l yL_make wsL_make ({ frames := 8, cells := 9, slots := 63, locals := 129 }) (va_Pc [.ref (ad 0 0), .int p0, .int p1, .int p2, .ref o0] (mB G A (mu Mc o0 (.inl (G.2.1 1, 1, .inr (.inl f0)))))) (va_Qi (fun r Mw1 => ∃ (ad1 : adr) (Mc1 : mw) (f1 : Nat → Int64), r = nI (m_make st p0 p1 p2).1 ∧ Mc1 o0 = none ∧ Mw1 = mu Mc1 o0 (.inl (G.2.1 1, 1, .inr (.inl f1))) ∧ CS G (m_make st p0 p1 p2).2.2 ad1 Mc1 ∧ ad1 0 0 = ad 0 0 ∧ ((m_make st p0 p1 p2).1 = 0 → f1 0 = (m_make st p0 p1 p2).2.1.toInt64)) (mE G A) A) (xX (fun _ => False) G A (mu Mc o0 (.inl (G.2.1 1, 1, .inr (.inl f0))))) 9 63 A := by
  refine vx_ofWH (cc := cL_make) (maxL := 6) (ret := (some .int)) (by decide) rfl ?_
  intro p e s m args below meth c s₁ B hml hv
  obtain ⟨rfl, hG, hP, hI, hA⟩ := hv
  have hx := B.exec
  have hb := B.bytes
  have hr := B.returns
  have hts := atoms_spec (ws := wsL_make) B.pre
  have hown : s.vm.findClass RL = some m.cls := findClass_of_methodNamed B.named
  have hlocks := B.notSynchronized
  have hK := hG.K
  have hS : va_S A s.heap s.heap [] := va_S.rf
  have hl := lv_entry ([.ref (ad 0 0), .int p0, .int p1, .int p2, .ref o0]) (n := 6) (Nat.le_of_ble_eq_true rfl)
  rw [lg_entry_eq]
  generalize (lg_sl ([.ref (ad 0 0), .int p0, .int p1, .int p2, .ref o0]) ++ List.replicate (6 - (lg_sl ([.ref (ad 0 0), .int p0, .int p1, .int p2, .ref o0])).length) Slot.unset).toArray = ls at hl ⊢
  have hl : lv_has ls 6 [(0, .ref (ad 0 0)), (1, .int p0), (2, .int p1), (3, .int p2), (4, .ref o0)] := hl
  have hP : mP G.1 (mu Mc o0 (.inl (G.2.1 1, 1, .inr (.inl f0)))) s.heap := hP
  refine lv_aload hx hb dL_make_0 (lv_at hl 4 rfl) ?_
  refine lv_iconst (v := 0) hx hb dL_make_2 (by decide) ?_
  refine lv_aload_n hx hb dL_make_3 rfl (lv_at hl 0 rfl) ?_
  refine lv_iload_n hx hb dL_make_4 rfl (lv_at hl 1 rfl) ?_
  refine lv_iload_n hx hb dL_make_5 rfl (lv_at hl 2 rfl) ?_
  refine lv_iload_n hx hb dL_make_6 rfl (lv_at hl 3 rfl) ?_
  have hPd := mP_dn hMo hP
  have hId := mI_dn hMo hI
  have ho9 : o0 < s.heap.size := mP.lt hP (mu_s (M := Mc) (a := o0))
  have hAd : ∀ q : Nat, s.heap.size ≤ q → aN A o0 q := fun q hq => ⟨hA q hq, fun z => by omega⟩
  have hSd : va_S (aN A o0) s.heap s.heap [] := va_S.rf
  refine mn_calli (vx_runV (As := [.int p0, .int p1, .int p2]) (rest := [.int 0, .ref o0]) ⟨hx, hb, hml, hown, hts⟩ (c_X4_make l G (aN A o0) Mc hl9 st ad p0 p1 p2 hC hV) (cwV 3 hts gL_make_X4_make rfl rfl rfl (by decide +kernel) ⟨Nat.le_of_ble_eq_true rfl, Nat.le_of_ble_eq_true rfl⟩) (mPreV (GK_aN hG) hSd hPd hId hAd (hPd (ad 0 0) _ (hC.1 0 0 (ok0 st))) (r := (RX4, TX4, 9)) rfl) rfl rfl hl.1 rfl (lv_room (Nat.le_of_ble_eq_true rfl)) dL_make_7 ⟨Nat.le_of_ble_eq_true rfl, Nat.le_of_ble_eq_true rfl⟩) hP hI hS (fun E9 ce9 q9 H locs hpx9 hP hS hc9 hv9 hcl9 => ?_) (fun r9 Mw1 H locs hp9 hn9 hP hI hS => ?_)
  · obtain ⟨k9, hk9, hnm9⟩ := hpx9
    have hT : c.exceptionTable.toList = tableOf [(0, 12, 15, 21), (0, 12, 19, 13), (0, 12, 23, 23), (0, 12, 27, 15)] := vx_table (x := yL_make) B (hts _ List.mem_cons_self)
    have hrf : (m_make st p0 p1 p2).2.2 = st := rf_make st p0 p1 p2 (by rw [hk9]; omega)
    match k9, hk9, hnm9 with
    | 0, hk9, hnm9 =>
      cases hnm9
      refine vx_catch (E := "java/lang/IndexOutOfBoundsException") (name := "java/lang/IndexOutOfBoundsException") hown [] ⟨0, 12, 15, 21⟩ [⟨0, 12, 19, 13⟩, ⟨0, 12, 23, 23⟩, ⟨0, 12, 27, 15⟩] hT (fun z hz => by cases hz) rfl (by decide) (hts (.classLink RL 21 "java/lang/IndexOutOfBoundsException") (by decide +kernel)) (va_Nw.use rfl (hG.2.1.2.2.2.1 ("java/lang/IndexOutOfBoundsException", "java/lang/IndexOutOfBoundsException") (by decide +kernel))) hc9 hv9 hcl9 ?_
      refine lv_astore (lv' := [(5, .ref q9), (0, .ref (ad 0 0)), (1, .int p0), (2, .int p1), (3, .int p2), (4, .ref o0)]) hx hb dL_make_15 hl (by decide) rfl (fun ls hl => ?_)
      refine lv_iconst (v := 1) hx hb dL_make_17 (by decide) ?_
      refine W.widen (k := 9) (n := 63) (Nat.le_of_ble_eq_true rfl) (Nat.le_of_ble_eq_true rfl) ?_
      refine vx_ret ?_
      exact W.iret (v := 1) hx hb hr (fun t99 ht99 hW99 => ⟨⟨1, (mu Mc o0 (.inl (G.2.1 1, 1, .inr (.inl f0)))), rfl, ⟨ad, Mc, f0, by rw [hk9]; rfl, hMo, rfl, by rw [hrf]; exact hC, rfl, fun z => absurd (hk9.symm.trans z) (by omega)⟩, by rw [ht99]; exact hP, hI⟩, hS.F ht99⟩) hS.2.2 dL_make_18
    | 1, hk9, hnm9 =>
      cases hnm9
      refine vx_catch (E := "java/lang/IllegalArgumentException") (name := "java/lang/IllegalArgumentException") hown [⟨0, 12, 15, 21⟩] ⟨0, 12, 19, 13⟩ [⟨0, 12, 23, 23⟩, ⟨0, 12, 27, 15⟩] hT (List.forall_mem_cons.mpr ⟨Or.inr ⟨by decide, "java/lang/IndexOutOfBoundsException", hts (.classLink RL 21 "java/lang/IndexOutOfBoundsException") (by decide +kernel), hG.2.1.2.2.2.2.1 ("java/lang/IllegalArgumentException", "java/lang/IndexOutOfBoundsException") (by decide +kernel)⟩, (fun z hz => by cases hz)⟩) rfl (by decide) (hts (.classLink RL 13 "java/lang/IllegalArgumentException") (by decide +kernel)) (va_Nw.use rfl (hG.2.1.2.2.2.1 ("java/lang/IllegalArgumentException", "java/lang/IllegalArgumentException") (by decide +kernel))) hc9 hv9 hcl9 ?_
      refine lv_astore (lv' := [(5, .ref q9), (0, .ref (ad 0 0)), (1, .int p0), (2, .int p1), (3, .int p2), (4, .ref o0)]) hx hb dL_make_19 hl (by decide) rfl (fun ls hl => ?_)
      refine lv_iconst (v := 2) hx hb dL_make_21 (by decide) ?_
      refine W.widen (k := 9) (n := 63) (Nat.le_of_ble_eq_true rfl) (Nat.le_of_ble_eq_true rfl) ?_
      refine vx_ret ?_
      exact W.iret (v := 2) hx hb hr (fun t99 ht99 hW99 => ⟨⟨2, (mu Mc o0 (.inl (G.2.1 1, 1, .inr (.inl f0)))), rfl, ⟨ad, Mc, f0, by rw [hk9]; rfl, hMo, rfl, by rw [hrf]; exact hC, rfl, fun z => absurd (hk9.symm.trans z) (by omega)⟩, by rw [ht99]; exact hP, hI⟩, hS.F ht99⟩) hS.2.2 dL_make_22
    | 2, hk9, hnm9 =>
      cases hnm9
      refine vx_catch (E := "java/lang/UnsupportedOperationException") (name := "java/lang/UnsupportedOperationException") hown [⟨0, 12, 15, 21⟩, ⟨0, 12, 19, 13⟩] ⟨0, 12, 23, 23⟩ [⟨0, 12, 27, 15⟩] hT (List.forall_mem_cons.mpr ⟨Or.inr ⟨by decide, "java/lang/IndexOutOfBoundsException", hts (.classLink RL 21 "java/lang/IndexOutOfBoundsException") (by decide +kernel), hG.2.1.2.2.2.2.1 ("java/lang/UnsupportedOperationException", "java/lang/IndexOutOfBoundsException") (by decide +kernel)⟩, (List.forall_mem_cons.mpr ⟨Or.inr ⟨by decide, "java/lang/IllegalArgumentException", hts (.classLink RL 13 "java/lang/IllegalArgumentException") (by decide +kernel), hG.2.1.2.2.2.2.1 ("java/lang/UnsupportedOperationException", "java/lang/IllegalArgumentException") (by decide +kernel)⟩, (fun z hz => by cases hz)⟩)⟩) rfl (by decide) (hts (.classLink RL 23 "java/lang/UnsupportedOperationException") (by decide +kernel)) (va_Nw.use rfl (hG.2.1.2.2.2.1 ("java/lang/UnsupportedOperationException", "java/lang/UnsupportedOperationException") (by decide +kernel))) hc9 hv9 hcl9 ?_
      refine lv_astore (lv' := [(5, .ref q9), (0, .ref (ad 0 0)), (1, .int p0), (2, .int p1), (3, .int p2), (4, .ref o0)]) hx hb dL_make_23 hl (by decide) rfl (fun ls hl => ?_)
      refine lv_iconst (v := 3) hx hb dL_make_25 (by decide) ?_
      refine W.widen (k := 9) (n := 63) (Nat.le_of_ble_eq_true rfl) (Nat.le_of_ble_eq_true rfl) ?_
      refine vx_ret ?_
      exact W.iret (v := 3) hx hb hr (fun t99 ht99 hW99 => ⟨⟨3, (mu Mc o0 (.inl (G.2.1 1, 1, .inr (.inl f0)))), rfl, ⟨ad, Mc, f0, by rw [hk9]; rfl, hMo, rfl, by rw [hrf]; exact hC, rfl, fun z => absurd (hk9.symm.trans z) (by omega)⟩, by rw [ht99]; exact hP, hI⟩, hS.F ht99⟩) hS.2.2 dL_make_26
    | 3, hk9, hnm9 =>
      cases hnm9
      refine vx_catch (E := "java/lang/IllegalStateException") (name := "java/lang/IllegalStateException") hown [⟨0, 12, 15, 21⟩, ⟨0, 12, 19, 13⟩, ⟨0, 12, 23, 23⟩] ⟨0, 12, 27, 15⟩ [] hT (List.forall_mem_cons.mpr ⟨Or.inr ⟨by decide, "java/lang/IndexOutOfBoundsException", hts (.classLink RL 21 "java/lang/IndexOutOfBoundsException") (by decide +kernel), hG.2.1.2.2.2.2.1 ("java/lang/IllegalStateException", "java/lang/IndexOutOfBoundsException") (by decide +kernel)⟩, (List.forall_mem_cons.mpr ⟨Or.inr ⟨by decide, "java/lang/IllegalArgumentException", hts (.classLink RL 13 "java/lang/IllegalArgumentException") (by decide +kernel), hG.2.1.2.2.2.2.1 ("java/lang/IllegalStateException", "java/lang/IllegalArgumentException") (by decide +kernel)⟩, (List.forall_mem_cons.mpr ⟨Or.inr ⟨by decide, "java/lang/UnsupportedOperationException", hts (.classLink RL 23 "java/lang/UnsupportedOperationException") (by decide +kernel), hG.2.1.2.2.2.2.1 ("java/lang/IllegalStateException", "java/lang/UnsupportedOperationException") (by decide +kernel)⟩, (fun z hz => by cases hz)⟩)⟩)⟩) rfl (by decide) (hts (.classLink RL 15 "java/lang/IllegalStateException") (by decide +kernel)) (va_Nw.use rfl (hG.2.1.2.2.2.1 ("java/lang/IllegalStateException", "java/lang/IllegalStateException") (by decide +kernel))) hc9 hv9 hcl9 ?_
      refine lv_astore (lv' := [(5, .ref q9), (0, .ref (ad 0 0)), (1, .int p0), (2, .int p1), (3, .int p2), (4, .ref o0)]) hx hb dL_make_27 hl (by decide) rfl (fun ls hl => ?_)
      refine lv_iconst (v := 4) hx hb dL_make_29 (by decide) ?_
      refine W.widen (k := 9) (n := 63) (Nat.le_of_ble_eq_true rfl) (Nat.le_of_ble_eq_true rfl) ?_
      refine vx_ret ?_
      exact W.iret (v := 4) hx hb hr (fun t99 ht99 hW99 => ⟨⟨4, (mu Mc o0 (.inl (G.2.1 1, 1, .inr (.inl f0)))), rfl, ⟨ad, Mc, f0, by rw [hk9]; rfl, hMo, rfl, by rw [hrf]; exact hC, rfl, fun z => absurd (hk9.symm.trans z) (by omega)⟩, by rw [ht99]; exact hP, hI⟩, hS.F ht99⟩) hS.2.2 dL_make_30
    | (k9 + 4), hk9, hnm9 => cases hnm9
  obtain ⟨s9, ad9, hop, hC9, ha9⟩ := hp9
  have h_O : (mu Mw1 o0 (.inl (G.2.1 1, 1, .inr (.inl f0)))) o0 = some (.inl (G.2.1 1, 1, .inr (.inl f0))) := mu_s
  refine lv_i2l (v := r9.toInt64) hx hb dL_make_10 rfl ?_
  refine m_last hx hb hK hP hI hS 1 h_O rfl (show vp_in 0 1 by unfold vp_in; decide) dL_make_11 (fun H locs hP hI hS => ?_)
  rw [mu_uu] at hP hI 
  have h_O : (mu Mw1 o0 (.inl (G.2.1 1, 1, .inr (.inl (vf_upd f0 ((0 : Int32).toNatClampNeg) r9.toInt64))))) o0 = some (.inl (G.2.1 1, 1, .inr (.inl (vf_upd f0 ((0 : Int32).toNatClampNeg) r9.toInt64)))) := mu_s
  refine lv_goto (tgt := 31) hx hb dL_make_12 (by decide) ?_
  refine lv_iconst (v := 0) hx hb dL_make_31 (by decide) ?_
  refine W.widen (k := 9) (n := 63) (Nat.le_of_ble_eq_true rfl) (Nat.le_of_ble_eq_true rfl) ?_
  refine vx_ret ?_
  exact W.iret (v := 0) hx hb hr (fun t99 ht99 hW99 => ⟨⟨0, (mu Mw1 o0 (.inl (G.2.1 1, 1, .inr (.inl (vf_upd f0 ((0 : Int32).toNatClampNeg) r9.toInt64))))), rfl, ⟨ad9, Mw1, _, by rw [hop]; rfl, hn9, rfl, by rw [hop]; exact hC9, ha9, fun _ => vf_0.trans (by rw [hop])⟩, by rw [ht99]; exact hP, hI⟩, hS.F ht99⟩) hS.2.2 dL_make_32

theorem rf_buy (st : St) (p0 : Int32) : (m_buy st p0).1 ≠ 0 → (m_buy st p0).2.2 = st := by
  unfold m_buy
  first | exact chk_ref (ref_0) | exact chk_ref (chk_ref (ref_0)) | exact chk_ref (chk_ref (chk_ref (ref_0))) | exact chk_ref (chk_ref (chk_ref (chk_ref (ref_0)))) | exact chk_ref (chk_ref (chk_ref (chk_ref (chk_ref (ref_0))))) | exact chk_ref (chk_ref (chk_ref (chk_ref (chk_ref (chk_ref (ref_0)))))) | exact chk_ref (chk_ref (chk_ref (chk_ref (chk_ref (chk_ref (chk_ref (ref_0)))))))
set_option maxHeartbeats 4000000 in
set_option maxRecDepth 100000 in
theorem c_L_buy (l : Launch) (G : mg) (A : Nat → Prop) (Mc : mw) (hl9 : l.stackTraces = false) (st : St) (ad : adr) (p0 : Int32) (o0 : Nat) {f0 : Nat → Int64} (hMo : Mc o0 = none) (hC : CS G st ad Mc) (hV : Inv st) : vx_Met l yL_buy wsL_buy ({ frames := 8, cells := 1, slots := 6, locals := 125 }) (va_Pc [.ref (ad 0 0), .int p0, .ref o0] (mB G A (mu Mc o0 (.inl (G.2.1 1, 1, .inr (.inl f0)))))) (va_Qi (fun r Mw1 => ∃ (ad1 : adr) (Mc1 : mw) (f1 : Nat → Int64), r = nI (m_buy st p0).1 ∧ Mc1 o0 = none ∧ Mw1 = mu Mc1 o0 (.inl (G.2.1 1, 1, .inr (.inl f1))) ∧ CS G (m_buy st p0).2.2 ad1 Mc1 ∧ ad1 0 0 = ad 0 0 ∧ ((m_buy st p0).1 = 0 → f1 0 = (m_buy st p0).2.1.toInt64)) (mE G A) A) (xX (fun _ => False) G A (mu Mc o0 (.inl (G.2.1 1, 1, .inr (.inl f0))))) 1 6 A := by
  refine vx_ofWH (cc := cL_buy) (maxL := 4) (ret := (some .int)) (by decide) rfl ?_
  intro p e s m args below meth c s₁ B hml hv
  obtain ⟨rfl, hG, hP, hI, hA⟩ := hv
  have hx := B.exec
  have hb := B.bytes
  have hr := B.returns
  have hts := atoms_spec (ws := wsL_buy) B.pre
  have hown : s.vm.findClass RL = some m.cls := findClass_of_methodNamed B.named
  have hlocks := B.notSynchronized
  have hK := hG.K
  have hS : va_S A s.heap s.heap [] := va_S.rf
  have hl := lv_entry ([.ref (ad 0 0), .int p0, .ref o0]) (n := 4) (Nat.le_of_ble_eq_true rfl)
  rw [lg_entry_eq]
  generalize (lg_sl ([.ref (ad 0 0), .int p0, .ref o0]) ++ List.replicate (4 - (lg_sl ([.ref (ad 0 0), .int p0, .ref o0])).length) Slot.unset).toArray = ls at hl ⊢
  have hl : lv_has ls 4 [(0, .ref (ad 0 0)), (1, .int p0), (2, .ref o0)] := hl
  have hP : mP G.1 (mu Mc o0 (.inl (G.2.1 1, 1, .inr (.inl f0)))) s.heap := hP
  refine lv_aload_n hx hb dL_buy_0 rfl (lv_at hl 2 rfl) ?_
  refine lv_iconst (v := 0) hx hb dL_buy_1 (by decide) ?_
  refine lv_aload_n hx hb dL_buy_2 rfl (lv_at hl 0 rfl) ?_
  refine lv_iload_n hx hb dL_buy_3 rfl (lv_at hl 1 rfl) ?_
  have hPd := mP_dn hMo hP
  have hId := mI_dn hMo hI
  have ho9 : o0 < s.heap.size := mP.lt hP (mu_s (M := Mc) (a := o0))
  have hAd : ∀ q : Nat, s.heap.size ≤ q → aN A o0 q := fun q hq => ⟨hA q hq, fun z => by omega⟩
  have hSd : va_S (aN A o0) s.heap s.heap [] := va_S.rf
  refine mn_calli (vx_runV (As := [.int p0]) (rest := [.int 0, .ref o0]) ⟨hx, hb, hml, hown, hts⟩ (c_X4_buy l G (aN A o0) Mc hl9 st ad p0 hC hV) (cwV 1 hts gL_buy_X4_buy rfl rfl rfl (by decide +kernel) ⟨Nat.le_of_ble_eq_true rfl, Nat.le_of_ble_eq_true rfl⟩) (mPreV (GK_aN hG) hSd hPd hId hAd (hPd (ad 0 0) _ (hC.1 0 0 (ok0 st))) (r := (RX4, TX4, 9)) rfl) rfl rfl hl.1 rfl (lv_room (Nat.le_of_ble_eq_true rfl)) dL_buy_4 ⟨Nat.le_of_ble_eq_true rfl, Nat.le_of_ble_eq_true rfl⟩) hP hI hS (fun E9 ce9 q9 H locs hpx9 hP hS hc9 hv9 hcl9 => ?_) (fun r9 Mw1 H locs hp9 hn9 hP hI hS => ?_)
  · obtain ⟨k9, hk9, hnm9⟩ := hpx9
    have hT : c.exceptionTable.toList = tableOf [(0, 9, 12, 13)] := vx_table (x := yL_buy) B (hts _ List.mem_cons_self)
    have hrf : (m_buy st p0).2.2 = st := rf_buy st p0 (by rw [hk9]; omega)
    match k9, hk9, hnm9 with
    | 0, hk9, hnm9 =>
      cases hnm9
      refine vx_catch (E := "java/lang/IllegalArgumentException") (name := "java/lang/IllegalArgumentException") hown [] ⟨0, 9, 12, 13⟩ [] hT (fun z hz => by cases hz) rfl (by decide) (hts (.classLink RL 13 "java/lang/IllegalArgumentException") (by decide +kernel)) (va_Nw.use rfl (hG.2.1.2.2.2.1 ("java/lang/IllegalArgumentException", "java/lang/IllegalArgumentException") (by decide +kernel))) hc9 hv9 hcl9 ?_
      refine lv_astore_n (lv' := [(3, .ref q9), (0, .ref (ad 0 0)), (1, .int p0), (2, .ref o0)]) hx hb dL_buy_12 rfl hl (by decide) rfl (fun ls hl => ?_)
      refine lv_iconst (v := 1) hx hb dL_buy_13 (by decide) ?_
      refine W.widen (k := 1) (n := 6) (Nat.le_of_ble_eq_true rfl) (Nat.le_of_ble_eq_true rfl) ?_
      refine vx_ret ?_
      exact W.iret (v := 1) hx hb hr (fun t99 ht99 hW99 => ⟨⟨1, (mu Mc o0 (.inl (G.2.1 1, 1, .inr (.inl f0)))), rfl, ⟨ad, Mc, f0, by rw [hk9]; rfl, hMo, rfl, by rw [hrf]; exact hC, rfl, fun z => absurd (hk9.symm.trans z) (by omega)⟩, by rw [ht99]; exact hP, hI⟩, hS.F ht99⟩) hS.2.2 dL_buy_14
    | (k9 + 1), hk9, hnm9 => cases hnm9
  obtain ⟨s9, ad9, hop, hC9, ha9⟩ := hp9
  have h_O : (mu Mw1 o0 (.inl (G.2.1 1, 1, .inr (.inl f0)))) o0 = some (.inl (G.2.1 1, 1, .inr (.inl f0))) := mu_s
  refine lv_i2l (v := r9.toInt64) hx hb dL_buy_7 rfl ?_
  refine m_last hx hb hK hP hI hS 1 h_O rfl (show vp_in 0 1 by unfold vp_in; decide) dL_buy_8 (fun H locs hP hI hS => ?_)
  rw [mu_uu] at hP hI 
  have h_O : (mu Mw1 o0 (.inl (G.2.1 1, 1, .inr (.inl (vf_upd f0 ((0 : Int32).toNatClampNeg) r9.toInt64))))) o0 = some (.inl (G.2.1 1, 1, .inr (.inl (vf_upd f0 ((0 : Int32).toNatClampNeg) r9.toInt64)))) := mu_s
  refine lv_goto (tgt := 15) hx hb dL_buy_9 (by decide) ?_
  refine lv_iconst (v := 0) hx hb dL_buy_15 (by decide) ?_
  refine W.widen (k := 1) (n := 6) (Nat.le_of_ble_eq_true rfl) (Nat.le_of_ble_eq_true rfl) ?_
  refine vx_ret ?_
  exact W.iret (v := 0) hx hb hr (fun t99 ht99 hW99 => ⟨⟨0, (mu Mw1 o0 (.inl (G.2.1 1, 1, .inr (.inl (vf_upd f0 ((0 : Int32).toNatClampNeg) r9.toInt64))))), rfl, ⟨ad9, Mw1, _, by rw [hop]; rfl, hn9, rfl, by rw [hop]; exact hC9, ha9, fun _ => vf_0.trans (by rw [hop])⟩, by rw [ht99]; exact hP, hI⟩, hS.F ht99⟩) hS.2.2 dL_buy_16

theorem rf_fill (st : St) (p0 p1 p2 : Int32) : (m_fill st p0 p1 p2).1 ≠ 0 → (m_fill st p0 p1 p2).2.2 = st := by
  unfold m_fill
  first | exact chk_ref (ref_0) | exact chk_ref (chk_ref (ref_0)) | exact chk_ref (chk_ref (chk_ref (ref_0))) | exact chk_ref (chk_ref (chk_ref (chk_ref (ref_0)))) | exact chk_ref (chk_ref (chk_ref (chk_ref (chk_ref (ref_0))))) | exact chk_ref (chk_ref (chk_ref (chk_ref (chk_ref (chk_ref (ref_0)))))) | exact chk_ref (chk_ref (chk_ref (chk_ref (chk_ref (chk_ref (chk_ref (ref_0)))))))
set_option maxHeartbeats 4000000 in
set_option maxRecDepth 100000 in
theorem c_L_fill (l : Launch) (G : mg) (A : Nat → Prop) (Mc : mw) (hl9 : l.stackTraces = false) (st : St) (ad : adr) (p0 p1 p2 : Int32) (o0 : Nat) {f0 : Nat → Int64} (hMo : Mc o0 = none) (hC : CS G st ad Mc) (hV : Inv st) : vx_Met l yL_fill wsL_fill ({ frames := 9, cells := 4, slots := 24, locals := 149 }) (va_Pc [.ref (ad 0 0), .int p0, .int p1, .int p2, .ref o0] (mB G A (mu Mc o0 (.inl (G.2.1 1, 1, .inr (.inl f0)))))) (va_Qi (fun r Mw1 => ∃ (ad1 : adr) (Mc1 : mw) (f1 : Nat → Int64), r = nI (m_fill st p0 p1 p2).1 ∧ Mc1 o0 = none ∧ Mw1 = mu Mc1 o0 (.inl (G.2.1 1, 1, .inr (.inl f1))) ∧ CS G (m_fill st p0 p1 p2).2.2 ad1 Mc1 ∧ ad1 0 0 = ad 0 0 ∧ ((m_fill st p0 p1 p2).1 = 0 → f1 0 = (m_fill st p0 p1 p2).2.1.toInt64)) (mE G A) A) (xX (fun _ => False) G A (mu Mc o0 (.inl (G.2.1 1, 1, .inr (.inl f0))))) 4 24 A := by
  refine vx_ofWH (cc := cL_fill) (maxL := 6) (ret := (some .int)) (by decide) rfl ?_
  intro p e s m args below meth c s₁ B hml hv
  obtain ⟨rfl, hG, hP, hI, hA⟩ := hv
  have hx := B.exec
  have hb := B.bytes
  have hr := B.returns
  have hts := atoms_spec (ws := wsL_fill) B.pre
  have hown : s.vm.findClass RL = some m.cls := findClass_of_methodNamed B.named
  have hlocks := B.notSynchronized
  have hK := hG.K
  have hS : va_S A s.heap s.heap [] := va_S.rf
  have hl := lv_entry ([.ref (ad 0 0), .int p0, .int p1, .int p2, .ref o0]) (n := 6) (Nat.le_of_ble_eq_true rfl)
  rw [lg_entry_eq]
  generalize (lg_sl ([.ref (ad 0 0), .int p0, .int p1, .int p2, .ref o0]) ++ List.replicate (6 - (lg_sl ([.ref (ad 0 0), .int p0, .int p1, .int p2, .ref o0])).length) Slot.unset).toArray = ls at hl ⊢
  have hl : lv_has ls 6 [(0, .ref (ad 0 0)), (1, .int p0), (2, .int p1), (3, .int p2), (4, .ref o0)] := hl
  have hP : mP G.1 (mu Mc o0 (.inl (G.2.1 1, 1, .inr (.inl f0)))) s.heap := hP
  refine lv_aload hx hb dL_fill_0 (lv_at hl 4 rfl) ?_
  refine lv_iconst (v := 0) hx hb dL_fill_2 (by decide) ?_
  refine lv_aload_n hx hb dL_fill_3 rfl (lv_at hl 0 rfl) ?_
  refine lv_iload_n hx hb dL_fill_4 rfl (lv_at hl 1 rfl) ?_
  refine lv_iload_n hx hb dL_fill_5 rfl (lv_at hl 2 rfl) ?_
  refine lv_iload_n hx hb dL_fill_6 rfl (lv_at hl 3 rfl) ?_
  have hPd := mP_dn hMo hP
  have hId := mI_dn hMo hI
  have ho9 : o0 < s.heap.size := mP.lt hP (mu_s (M := Mc) (a := o0))
  have hAd : ∀ q : Nat, s.heap.size ≤ q → aN A o0 q := fun q hq => ⟨hA q hq, fun z => by omega⟩
  have hSd : va_S (aN A o0) s.heap s.heap [] := va_S.rf
  refine mn_calli (vx_runV (As := [.int p0, .int p1, .int p2]) (rest := [.int 0, .ref o0]) ⟨hx, hb, hml, hown, hts⟩ (c_X4_fill l G (aN A o0) Mc hl9 st ad p0 p1 p2 hC hV) (cwV 3 hts gL_fill_X4_fill rfl rfl rfl (by decide +kernel) ⟨Nat.le_of_ble_eq_true rfl, Nat.le_of_ble_eq_true rfl⟩) (mPreV (GK_aN hG) hSd hPd hId hAd (hPd (ad 0 0) _ (hC.1 0 0 (ok0 st))) (r := (RX4, TX4, 9)) rfl) rfl rfl hl.1 rfl (lv_room (Nat.le_of_ble_eq_true rfl)) dL_fill_7 ⟨Nat.le_of_ble_eq_true rfl, Nat.le_of_ble_eq_true rfl⟩) hP hI hS (fun E9 ce9 q9 H locs hpx9 hP hS hc9 hv9 hcl9 => ?_) (fun r9 Mw1 H locs hp9 hn9 hP hI hS => ?_)
  · obtain ⟨k9, hk9, hnm9⟩ := hpx9
    have hT : c.exceptionTable.toList = tableOf [(0, 12, 15, 21), (0, 12, 19, 13), (0, 12, 23, 23)] := vx_table (x := yL_fill) B (hts _ List.mem_cons_self)
    have hrf : (m_fill st p0 p1 p2).2.2 = st := rf_fill st p0 p1 p2 (by rw [hk9]; omega)
    match k9, hk9, hnm9 with
    | 0, hk9, hnm9 =>
      cases hnm9
      refine vx_catch (E := "java/lang/IndexOutOfBoundsException") (name := "java/lang/IndexOutOfBoundsException") hown [] ⟨0, 12, 15, 21⟩ [⟨0, 12, 19, 13⟩, ⟨0, 12, 23, 23⟩] hT (fun z hz => by cases hz) rfl (by decide) (hts (.classLink RL 21 "java/lang/IndexOutOfBoundsException") (by decide +kernel)) (va_Nw.use rfl (hG.2.1.2.2.2.1 ("java/lang/IndexOutOfBoundsException", "java/lang/IndexOutOfBoundsException") (by decide +kernel))) hc9 hv9 hcl9 ?_
      refine lv_astore (lv' := [(5, .ref q9), (0, .ref (ad 0 0)), (1, .int p0), (2, .int p1), (3, .int p2), (4, .ref o0)]) hx hb dL_fill_15 hl (by decide) rfl (fun ls hl => ?_)
      refine lv_iconst (v := 1) hx hb dL_fill_17 (by decide) ?_
      refine W.widen (k := 4) (n := 24) (Nat.le_of_ble_eq_true rfl) (Nat.le_of_ble_eq_true rfl) ?_
      refine vx_ret ?_
      exact W.iret (v := 1) hx hb hr (fun t99 ht99 hW99 => ⟨⟨1, (mu Mc o0 (.inl (G.2.1 1, 1, .inr (.inl f0)))), rfl, ⟨ad, Mc, f0, by rw [hk9]; rfl, hMo, rfl, by rw [hrf]; exact hC, rfl, fun z => absurd (hk9.symm.trans z) (by omega)⟩, by rw [ht99]; exact hP, hI⟩, hS.F ht99⟩) hS.2.2 dL_fill_18
    | 1, hk9, hnm9 =>
      cases hnm9
      refine vx_catch (E := "java/lang/IllegalArgumentException") (name := "java/lang/IllegalArgumentException") hown [⟨0, 12, 15, 21⟩] ⟨0, 12, 19, 13⟩ [⟨0, 12, 23, 23⟩] hT (List.forall_mem_cons.mpr ⟨Or.inr ⟨by decide, "java/lang/IndexOutOfBoundsException", hts (.classLink RL 21 "java/lang/IndexOutOfBoundsException") (by decide +kernel), hG.2.1.2.2.2.2.1 ("java/lang/IllegalArgumentException", "java/lang/IndexOutOfBoundsException") (by decide +kernel)⟩, (fun z hz => by cases hz)⟩) rfl (by decide) (hts (.classLink RL 13 "java/lang/IllegalArgumentException") (by decide +kernel)) (va_Nw.use rfl (hG.2.1.2.2.2.1 ("java/lang/IllegalArgumentException", "java/lang/IllegalArgumentException") (by decide +kernel))) hc9 hv9 hcl9 ?_
      refine lv_astore (lv' := [(5, .ref q9), (0, .ref (ad 0 0)), (1, .int p0), (2, .int p1), (3, .int p2), (4, .ref o0)]) hx hb dL_fill_19 hl (by decide) rfl (fun ls hl => ?_)
      refine lv_iconst (v := 2) hx hb dL_fill_21 (by decide) ?_
      refine W.widen (k := 4) (n := 24) (Nat.le_of_ble_eq_true rfl) (Nat.le_of_ble_eq_true rfl) ?_
      refine vx_ret ?_
      exact W.iret (v := 2) hx hb hr (fun t99 ht99 hW99 => ⟨⟨2, (mu Mc o0 (.inl (G.2.1 1, 1, .inr (.inl f0)))), rfl, ⟨ad, Mc, f0, by rw [hk9]; rfl, hMo, rfl, by rw [hrf]; exact hC, rfl, fun z => absurd (hk9.symm.trans z) (by omega)⟩, by rw [ht99]; exact hP, hI⟩, hS.F ht99⟩) hS.2.2 dL_fill_22
    | 2, hk9, hnm9 =>
      cases hnm9
      refine vx_catch (E := "java/lang/UnsupportedOperationException") (name := "java/lang/UnsupportedOperationException") hown [⟨0, 12, 15, 21⟩, ⟨0, 12, 19, 13⟩] ⟨0, 12, 23, 23⟩ [] hT (List.forall_mem_cons.mpr ⟨Or.inr ⟨by decide, "java/lang/IndexOutOfBoundsException", hts (.classLink RL 21 "java/lang/IndexOutOfBoundsException") (by decide +kernel), hG.2.1.2.2.2.2.1 ("java/lang/UnsupportedOperationException", "java/lang/IndexOutOfBoundsException") (by decide +kernel)⟩, (List.forall_mem_cons.mpr ⟨Or.inr ⟨by decide, "java/lang/IllegalArgumentException", hts (.classLink RL 13 "java/lang/IllegalArgumentException") (by decide +kernel), hG.2.1.2.2.2.2.1 ("java/lang/UnsupportedOperationException", "java/lang/IllegalArgumentException") (by decide +kernel)⟩, (fun z hz => by cases hz)⟩)⟩) rfl (by decide) (hts (.classLink RL 23 "java/lang/UnsupportedOperationException") (by decide +kernel)) (va_Nw.use rfl (hG.2.1.2.2.2.1 ("java/lang/UnsupportedOperationException", "java/lang/UnsupportedOperationException") (by decide +kernel))) hc9 hv9 hcl9 ?_
      refine lv_astore (lv' := [(5, .ref q9), (0, .ref (ad 0 0)), (1, .int p0), (2, .int p1), (3, .int p2), (4, .ref o0)]) hx hb dL_fill_23 hl (by decide) rfl (fun ls hl => ?_)
      refine lv_iconst (v := 3) hx hb dL_fill_25 (by decide) ?_
      refine W.widen (k := 4) (n := 24) (Nat.le_of_ble_eq_true rfl) (Nat.le_of_ble_eq_true rfl) ?_
      refine vx_ret ?_
      exact W.iret (v := 3) hx hb hr (fun t99 ht99 hW99 => ⟨⟨3, (mu Mc o0 (.inl (G.2.1 1, 1, .inr (.inl f0)))), rfl, ⟨ad, Mc, f0, by rw [hk9]; rfl, hMo, rfl, by rw [hrf]; exact hC, rfl, fun z => absurd (hk9.symm.trans z) (by omega)⟩, by rw [ht99]; exact hP, hI⟩, hS.F ht99⟩) hS.2.2 dL_fill_26
    | (k9 + 3), hk9, hnm9 => cases hnm9
  obtain ⟨s9, ad9, hop, hC9, ha9⟩ := hp9
  have h_O : (mu Mw1 o0 (.inl (G.2.1 1, 1, .inr (.inl f0)))) o0 = some (.inl (G.2.1 1, 1, .inr (.inl f0))) := mu_s
  refine lv_i2l (v := r9.toInt64) hx hb dL_fill_10 rfl ?_
  refine m_last hx hb hK hP hI hS 1 h_O rfl (show vp_in 0 1 by unfold vp_in; decide) dL_fill_11 (fun H locs hP hI hS => ?_)
  rw [mu_uu] at hP hI 
  have h_O : (mu Mw1 o0 (.inl (G.2.1 1, 1, .inr (.inl (vf_upd f0 ((0 : Int32).toNatClampNeg) r9.toInt64))))) o0 = some (.inl (G.2.1 1, 1, .inr (.inl (vf_upd f0 ((0 : Int32).toNatClampNeg) r9.toInt64)))) := mu_s
  refine lv_goto (tgt := 27) hx hb dL_fill_12 (by decide) ?_
  refine lv_iconst (v := 0) hx hb dL_fill_27 (by decide) ?_
  refine W.widen (k := 4) (n := 24) (Nat.le_of_ble_eq_true rfl) (Nat.le_of_ble_eq_true rfl) ?_
  refine vx_ret ?_
  exact W.iret (v := 0) hx hb hr (fun t99 ht99 hW99 => ⟨⟨0, (mu Mw1 o0 (.inl (G.2.1 1, 1, .inr (.inl (vf_upd f0 ((0 : Int32).toNatClampNeg) r9.toInt64))))), rfl, ⟨ad9, Mw1, _, by rw [hop]; rfl, hn9, rfl, by rw [hop]; exact hC9, ha9, fun _ => vf_0.trans (by rw [hop])⟩, by rw [ht99]; exact hP, hI⟩, hS.F ht99⟩) hS.2.2 dL_fill_28

theorem rf_smash (st : St) (p0 : Int32) : (m_smash st p0).1 ≠ 0 → (m_smash st p0).2.2 = st := by
  unfold m_smash
  first | exact chk_ref (ref_0) | exact chk_ref (chk_ref (ref_0)) | exact chk_ref (chk_ref (chk_ref (ref_0))) | exact chk_ref (chk_ref (chk_ref (chk_ref (ref_0)))) | exact chk_ref (chk_ref (chk_ref (chk_ref (chk_ref (ref_0))))) | exact chk_ref (chk_ref (chk_ref (chk_ref (chk_ref (chk_ref (ref_0)))))) | exact chk_ref (chk_ref (chk_ref (chk_ref (chk_ref (chk_ref (chk_ref (ref_0)))))))
set_option maxHeartbeats 4000000 in
set_option maxRecDepth 100000 in
theorem c_L_smash (l : Launch) (G : mg) (A : Nat → Prop) (Mc : mw) (hl9 : l.stackTraces = false) (st : St) (ad : adr) (p0 : Int32) (o0 : Nat) {f0 : Nat → Int64} (hMo : Mc o0 = none) (hC : CS G st ad Mc) (hV : Inv st) : vx_Met l yL_smash wsL_smash ({ frames := 8, cells := 2, slots := 12, locals := 126 }) (va_Pc [.ref (ad 0 0), .int p0, .ref o0] (mB G A (mu Mc o0 (.inl (G.2.1 1, 1, .inr (.inl f0)))))) (va_Qi (fun r Mw1 => ∃ (ad1 : adr) (Mc1 : mw) (f1 : Nat → Int64), r = nI (m_smash st p0).1 ∧ Mc1 o0 = none ∧ Mw1 = mu Mc1 o0 (.inl (G.2.1 1, 1, .inr (.inl f1))) ∧ CS G (m_smash st p0).2.2 ad1 Mc1 ∧ ad1 0 0 = ad 0 0 ∧ ((m_smash st p0).1 = 0 → f1 0 = (m_smash st p0).2.1.toInt64)) (mE G A) A) (xX (fun _ => False) G A (mu Mc o0 (.inl (G.2.1 1, 1, .inr (.inl f0))))) 2 12 A := by
  refine vx_ofWH (cc := cL_smash) (maxL := 4) (ret := (some .int)) (by decide) rfl ?_
  intro p e s m args below meth c s₁ B hml hv
  obtain ⟨rfl, hG, hP, hI, hA⟩ := hv
  have hx := B.exec
  have hb := B.bytes
  have hr := B.returns
  have hts := atoms_spec (ws := wsL_smash) B.pre
  have hown : s.vm.findClass RL = some m.cls := findClass_of_methodNamed B.named
  have hlocks := B.notSynchronized
  have hK := hG.K
  have hS : va_S A s.heap s.heap [] := va_S.rf
  have hl := lv_entry ([.ref (ad 0 0), .int p0, .ref o0]) (n := 4) (Nat.le_of_ble_eq_true rfl)
  rw [lg_entry_eq]
  generalize (lg_sl ([.ref (ad 0 0), .int p0, .ref o0]) ++ List.replicate (4 - (lg_sl ([.ref (ad 0 0), .int p0, .ref o0])).length) Slot.unset).toArray = ls at hl ⊢
  have hl : lv_has ls 4 [(0, .ref (ad 0 0)), (1, .int p0), (2, .ref o0)] := hl
  have hP : mP G.1 (mu Mc o0 (.inl (G.2.1 1, 1, .inr (.inl f0)))) s.heap := hP
  refine lv_aload_n hx hb dL_smash_0 rfl (lv_at hl 2 rfl) ?_
  refine lv_iconst (v := 0) hx hb dL_smash_1 (by decide) ?_
  refine lv_aload_n hx hb dL_smash_2 rfl (lv_at hl 0 rfl) ?_
  refine lv_iload_n hx hb dL_smash_3 rfl (lv_at hl 1 rfl) ?_
  have hPd := mP_dn hMo hP
  have hId := mI_dn hMo hI
  have ho9 : o0 < s.heap.size := mP.lt hP (mu_s (M := Mc) (a := o0))
  have hAd : ∀ q : Nat, s.heap.size ≤ q → aN A o0 q := fun q hq => ⟨hA q hq, fun z => by omega⟩
  have hSd : va_S (aN A o0) s.heap s.heap [] := va_S.rf
  refine mn_calli (vx_runV (As := [.int p0]) (rest := [.int 0, .ref o0]) ⟨hx, hb, hml, hown, hts⟩ (c_X4_smash l G (aN A o0) Mc hl9 st ad p0 hC hV) (cwV 1 hts gL_smash_X4_smash rfl rfl rfl (by decide +kernel) ⟨Nat.le_of_ble_eq_true rfl, Nat.le_of_ble_eq_true rfl⟩) (mPreV (GK_aN hG) hSd hPd hId hAd (hPd (ad 0 0) _ (hC.1 0 0 (ok0 st))) (r := (RX4, TX4, 9)) rfl) rfl rfl hl.1 rfl (lv_room (Nat.le_of_ble_eq_true rfl)) dL_smash_4 ⟨Nat.le_of_ble_eq_true rfl, Nat.le_of_ble_eq_true rfl⟩) hP hI hS (fun E9 ce9 q9 H locs hpx9 hP hS hc9 hv9 hcl9 => ?_) (fun r9 Mw1 H locs hp9 hn9 hP hI hS => ?_)
  · obtain ⟨k9, hk9, hnm9⟩ := hpx9
    have hT : c.exceptionTable.toList = tableOf [(0, 9, 12, 21), (0, 9, 15, 23)] := vx_table (x := yL_smash) B (hts _ List.mem_cons_self)
    have hrf : (m_smash st p0).2.2 = st := rf_smash st p0 (by rw [hk9]; omega)
    match k9, hk9, hnm9 with
    | 0, hk9, hnm9 =>
      cases hnm9
      refine vx_catch (E := "java/lang/IndexOutOfBoundsException") (name := "java/lang/IndexOutOfBoundsException") hown [] ⟨0, 9, 12, 21⟩ [⟨0, 9, 15, 23⟩] hT (fun z hz => by cases hz) rfl (by decide) (hts (.classLink RL 21 "java/lang/IndexOutOfBoundsException") (by decide +kernel)) (va_Nw.use rfl (hG.2.1.2.2.2.1 ("java/lang/IndexOutOfBoundsException", "java/lang/IndexOutOfBoundsException") (by decide +kernel))) hc9 hv9 hcl9 ?_
      refine lv_astore_n (lv' := [(3, .ref q9), (0, .ref (ad 0 0)), (1, .int p0), (2, .ref o0)]) hx hb dL_smash_12 rfl hl (by decide) rfl (fun ls hl => ?_)
      refine lv_iconst (v := 1) hx hb dL_smash_13 (by decide) ?_
      refine W.widen (k := 2) (n := 12) (Nat.le_of_ble_eq_true rfl) (Nat.le_of_ble_eq_true rfl) ?_
      refine vx_ret ?_
      exact W.iret (v := 1) hx hb hr (fun t99 ht99 hW99 => ⟨⟨1, (mu Mc o0 (.inl (G.2.1 1, 1, .inr (.inl f0)))), rfl, ⟨ad, Mc, f0, by rw [hk9]; rfl, hMo, rfl, by rw [hrf]; exact hC, rfl, fun z => absurd (hk9.symm.trans z) (by omega)⟩, by rw [ht99]; exact hP, hI⟩, hS.F ht99⟩) hS.2.2 dL_smash_14
    | 1, hk9, hnm9 =>
      cases hnm9
      refine vx_catch (E := "java/lang/UnsupportedOperationException") (name := "java/lang/UnsupportedOperationException") hown [⟨0, 9, 12, 21⟩] ⟨0, 9, 15, 23⟩ [] hT (List.forall_mem_cons.mpr ⟨Or.inr ⟨by decide, "java/lang/IndexOutOfBoundsException", hts (.classLink RL 21 "java/lang/IndexOutOfBoundsException") (by decide +kernel), hG.2.1.2.2.2.2.1 ("java/lang/UnsupportedOperationException", "java/lang/IndexOutOfBoundsException") (by decide +kernel)⟩, (fun z hz => by cases hz)⟩) rfl (by decide) (hts (.classLink RL 23 "java/lang/UnsupportedOperationException") (by decide +kernel)) (va_Nw.use rfl (hG.2.1.2.2.2.1 ("java/lang/UnsupportedOperationException", "java/lang/UnsupportedOperationException") (by decide +kernel))) hc9 hv9 hcl9 ?_
      refine lv_astore_n (lv' := [(3, .ref q9), (0, .ref (ad 0 0)), (1, .int p0), (2, .ref o0)]) hx hb dL_smash_15 rfl hl (by decide) rfl (fun ls hl => ?_)
      refine lv_iconst (v := 2) hx hb dL_smash_16 (by decide) ?_
      refine W.widen (k := 2) (n := 12) (Nat.le_of_ble_eq_true rfl) (Nat.le_of_ble_eq_true rfl) ?_
      refine vx_ret ?_
      exact W.iret (v := 2) hx hb hr (fun t99 ht99 hW99 => ⟨⟨2, (mu Mc o0 (.inl (G.2.1 1, 1, .inr (.inl f0)))), rfl, ⟨ad, Mc, f0, by rw [hk9]; rfl, hMo, rfl, by rw [hrf]; exact hC, rfl, fun z => absurd (hk9.symm.trans z) (by omega)⟩, by rw [ht99]; exact hP, hI⟩, hS.F ht99⟩) hS.2.2 dL_smash_17
    | (k9 + 2), hk9, hnm9 => cases hnm9
  obtain ⟨s9, ad9, hop, hC9, ha9⟩ := hp9
  have h_O : (mu Mw1 o0 (.inl (G.2.1 1, 1, .inr (.inl f0)))) o0 = some (.inl (G.2.1 1, 1, .inr (.inl f0))) := mu_s
  refine lv_i2l (v := r9.toInt64) hx hb dL_smash_7 rfl ?_
  refine m_last hx hb hK hP hI hS 1 h_O rfl (show vp_in 0 1 by unfold vp_in; decide) dL_smash_8 (fun H locs hP hI hS => ?_)
  rw [mu_uu] at hP hI 
  have h_O : (mu Mw1 o0 (.inl (G.2.1 1, 1, .inr (.inl (vf_upd f0 ((0 : Int32).toNatClampNeg) r9.toInt64))))) o0 = some (.inl (G.2.1 1, 1, .inr (.inl (vf_upd f0 ((0 : Int32).toNatClampNeg) r9.toInt64)))) := mu_s
  refine lv_goto (tgt := 18) hx hb dL_smash_9 (by decide) ?_
  refine lv_iconst (v := 0) hx hb dL_smash_18 (by decide) ?_
  refine W.widen (k := 2) (n := 12) (Nat.le_of_ble_eq_true rfl) (Nat.le_of_ble_eq_true rfl) ?_
  refine vx_ret ?_
  exact W.iret (v := 0) hx hb hr (fun t99 ht99 hW99 => ⟨⟨0, (mu Mw1 o0 (.inl (G.2.1 1, 1, .inr (.inl (vf_upd f0 ((0 : Int32).toNatClampNeg) r9.toInt64))))), rfl, ⟨ad9, Mw1, _, by rw [hop]; rfl, hn9, rfl, by rw [hop]; exact hC9, ha9, fun _ => vf_0.trans (by rw [hop])⟩, by rw [ht99]; exact hP, hI⟩, hS.F ht99⟩) hS.2.2 dL_smash_19

theorem rf_inside (st : St) (p0 : Int32) : (m_inside st p0).1 ≠ 0 → (m_inside st p0).2.2 = st := by
  unfold m_inside
  first | exact chk_ref (ref_0) | exact chk_ref (chk_ref (ref_0)) | exact chk_ref (chk_ref (chk_ref (ref_0))) | exact chk_ref (chk_ref (chk_ref (chk_ref (ref_0)))) | exact chk_ref (chk_ref (chk_ref (chk_ref (chk_ref (ref_0))))) | exact chk_ref (chk_ref (chk_ref (chk_ref (chk_ref (chk_ref (ref_0)))))) | exact chk_ref (chk_ref (chk_ref (chk_ref (chk_ref (chk_ref (chk_ref (ref_0)))))))
set_option maxHeartbeats 4000000 in
set_option maxRecDepth 100000 in
theorem c_L_inside (l : Launch) (G : mg) (A : Nat → Prop) (Mc : mw) (hl9 : l.stackTraces = false) (st : St) (ad : adr) (p0 : Int32) (o0 : Nat) {f0 : Nat → Int64} (hMo : Mc o0 = none) (hC : CS G st ad Mc) (hV : Inv st) : vx_Met l yL_inside wsL_inside ({ frames := 8, cells := 1, slots := 6, locals := 124 }) (va_Pc [.ref (ad 0 0), .int p0, .ref o0] (mB G A (mu Mc o0 (.inl (G.2.1 1, 1, .inr (.inl f0)))))) (va_Qi (fun r Mw1 => ∃ (ad1 : adr) (Mc1 : mw) (f1 : Nat → Int64), r = nI (m_inside st p0).1 ∧ Mc1 o0 = none ∧ Mw1 = mu Mc1 o0 (.inl (G.2.1 1, 1, .inr (.inl f1))) ∧ CS G (m_inside st p0).2.2 ad1 Mc1 ∧ ad1 0 0 = ad 0 0 ∧ ((m_inside st p0).1 = 0 → f1 0 = (m_inside st p0).2.1.toInt64)) (mE G A) A) (xX (fun _ => False) G A (mu Mc o0 (.inl (G.2.1 1, 1, .inr (.inl f0))))) 1 6 A := by
  refine vx_ofWH (cc := cL_inside) (maxL := 4) (ret := (some .int)) (by decide) rfl ?_
  intro p e s m args below meth c s₁ B hml hv
  obtain ⟨rfl, hG, hP, hI, hA⟩ := hv
  have hx := B.exec
  have hb := B.bytes
  have hr := B.returns
  have hts := atoms_spec (ws := wsL_inside) B.pre
  have hown : s.vm.findClass RL = some m.cls := findClass_of_methodNamed B.named
  have hlocks := B.notSynchronized
  have hK := hG.K
  have hS : va_S A s.heap s.heap [] := va_S.rf
  have hl := lv_entry ([.ref (ad 0 0), .int p0, .ref o0]) (n := 4) (Nat.le_of_ble_eq_true rfl)
  rw [lg_entry_eq]
  generalize (lg_sl ([.ref (ad 0 0), .int p0, .ref o0]) ++ List.replicate (4 - (lg_sl ([.ref (ad 0 0), .int p0, .ref o0])).length) Slot.unset).toArray = ls at hl ⊢
  have hl : lv_has ls 4 [(0, .ref (ad 0 0)), (1, .int p0), (2, .ref o0)] := hl
  have hP : mP G.1 (mu Mc o0 (.inl (G.2.1 1, 1, .inr (.inl f0)))) s.heap := hP
  refine lv_aload_n hx hb dL_inside_0 rfl (lv_at hl 2 rfl) ?_
  refine lv_iconst (v := 0) hx hb dL_inside_1 (by decide) ?_
  refine lv_aload_n hx hb dL_inside_2 rfl (lv_at hl 0 rfl) ?_
  refine lv_iload_n hx hb dL_inside_3 rfl (lv_at hl 1 rfl) ?_
  have hPd := mP_dn hMo hP
  have hId := mI_dn hMo hI
  have ho9 : o0 < s.heap.size := mP.lt hP (mu_s (M := Mc) (a := o0))
  have hAd : ∀ q : Nat, s.heap.size ≤ q → aN A o0 q := fun q hq => ⟨hA q hq, fun z => by omega⟩
  have hSd : va_S (aN A o0) s.heap s.heap [] := va_S.rf
  refine mn_calli (vx_runV (As := [.int p0]) (rest := [.int 0, .ref o0]) ⟨hx, hb, hml, hown, hts⟩ (c_X4_inside l G (aN A o0) Mc hl9 st ad p0 hC hV) (cwV 1 hts gL_inside_X4_inside rfl rfl rfl (by decide +kernel) ⟨Nat.le_of_ble_eq_true rfl, Nat.le_of_ble_eq_true rfl⟩) (mPreV (GK_aN hG) hSd hPd hId hAd (hPd (ad 0 0) _ (hC.1 0 0 (ok0 st))) (r := (RX4, TX4, 9)) rfl) rfl rfl hl.1 rfl (lv_room (Nat.le_of_ble_eq_true rfl)) dL_inside_4 ⟨Nat.le_of_ble_eq_true rfl, Nat.le_of_ble_eq_true rfl⟩) hP hI hS (fun E9 ce9 q9 H locs hpx9 hP hS hc9 hv9 hcl9 => ?_) (fun r9 Mw1 H locs hp9 hn9 hP hI hS => ?_)
  · obtain ⟨k9, hk9, hnm9⟩ := hpx9
    have hT : c.exceptionTable.toList = tableOf [(0, 9, 12, 21)] := vx_table (x := yL_inside) B (hts _ List.mem_cons_self)
    have hrf : (m_inside st p0).2.2 = st := rf_inside st p0 (by rw [hk9]; omega)
    match k9, hk9, hnm9 with
    | 0, hk9, hnm9 =>
      cases hnm9
      refine vx_catch (E := "java/lang/IndexOutOfBoundsException") (name := "java/lang/IndexOutOfBoundsException") hown [] ⟨0, 9, 12, 21⟩ [] hT (fun z hz => by cases hz) rfl (by decide) (hts (.classLink RL 21 "java/lang/IndexOutOfBoundsException") (by decide +kernel)) (va_Nw.use rfl (hG.2.1.2.2.2.1 ("java/lang/IndexOutOfBoundsException", "java/lang/IndexOutOfBoundsException") (by decide +kernel))) hc9 hv9 hcl9 ?_
      refine lv_astore_n (lv' := [(3, .ref q9), (0, .ref (ad 0 0)), (1, .int p0), (2, .ref o0)]) hx hb dL_inside_12 rfl hl (by decide) rfl (fun ls hl => ?_)
      refine lv_iconst (v := 1) hx hb dL_inside_13 (by decide) ?_
      refine W.widen (k := 1) (n := 6) (Nat.le_of_ble_eq_true rfl) (Nat.le_of_ble_eq_true rfl) ?_
      refine vx_ret ?_
      exact W.iret (v := 1) hx hb hr (fun t99 ht99 hW99 => ⟨⟨1, (mu Mc o0 (.inl (G.2.1 1, 1, .inr (.inl f0)))), rfl, ⟨ad, Mc, f0, by rw [hk9]; rfl, hMo, rfl, by rw [hrf]; exact hC, rfl, fun z => absurd (hk9.symm.trans z) (by omega)⟩, by rw [ht99]; exact hP, hI⟩, hS.F ht99⟩) hS.2.2 dL_inside_14
    | (k9 + 1), hk9, hnm9 => cases hnm9
  obtain ⟨s9, ad9, hop, hC9, ha9⟩ := hp9
  have h_O : (mu Mw1 o0 (.inl (G.2.1 1, 1, .inr (.inl f0)))) o0 = some (.inl (G.2.1 1, 1, .inr (.inl f0))) := mu_s
  refine lv_i2l (v := r9.toInt64) hx hb dL_inside_7 rfl ?_
  refine m_last hx hb hK hP hI hS 1 h_O rfl (show vp_in 0 1 by unfold vp_in; decide) dL_inside_8 (fun H locs hP hI hS => ?_)
  rw [mu_uu] at hP hI 
  have h_O : (mu Mw1 o0 (.inl (G.2.1 1, 1, .inr (.inl (vf_upd f0 ((0 : Int32).toNatClampNeg) r9.toInt64))))) o0 = some (.inl (G.2.1 1, 1, .inr (.inl (vf_upd f0 ((0 : Int32).toNatClampNeg) r9.toInt64)))) := mu_s
  refine lv_goto (tgt := 15) hx hb dL_inside_9 (by decide) ?_
  refine lv_iconst (v := 0) hx hb dL_inside_15 (by decide) ?_
  refine W.widen (k := 1) (n := 6) (Nat.le_of_ble_eq_true rfl) (Nat.le_of_ble_eq_true rfl) ?_
  refine vx_ret ?_
  exact W.iret (v := 0) hx hb hr (fun t99 ht99 hW99 => ⟨⟨0, (mu Mw1 o0 (.inl (G.2.1 1, 1, .inr (.inl (vf_upd f0 ((0 : Int32).toNatClampNeg) r9.toInt64))))), rfl, ⟨ad9, Mw1, _, by rw [hop]; rfl, hn9, rfl, by rw [hop]; exact hC9, ha9, fun _ => vf_0.trans (by rw [hop])⟩, by rw [ht99]; exact hP, hI⟩, hS.F ht99⟩) hS.2.2 dL_inside_16

theorem rf_crept (st : St) (p0 : Int32) : (m_crept st p0).1 ≠ 0 → (m_crept st p0).2.2 = st := by
  unfold m_crept
  first | exact chk_ref (ref_0) | exact chk_ref (chk_ref (ref_0)) | exact chk_ref (chk_ref (chk_ref (ref_0))) | exact chk_ref (chk_ref (chk_ref (chk_ref (ref_0)))) | exact chk_ref (chk_ref (chk_ref (chk_ref (chk_ref (ref_0))))) | exact chk_ref (chk_ref (chk_ref (chk_ref (chk_ref (chk_ref (ref_0)))))) | exact chk_ref (chk_ref (chk_ref (chk_ref (chk_ref (chk_ref (chk_ref (ref_0)))))))
set_option maxHeartbeats 4000000 in
set_option maxRecDepth 100000 in
theorem c_L_crept (l : Launch) (G : mg) (A : Nat → Prop) (Mc : mw) (hl9 : l.stackTraces = false) (st : St) (ad : adr) (p0 : Int32) (o0 : Nat) {f0 : Nat → Int64} (hMo : Mc o0 = none) (hC : CS G st ad Mc) (hV : Inv st) : vx_Met l yL_crept wsL_crept ({ frames := 8, cells := 1, slots := 6, locals := 124 }) (va_Pc [.ref (ad 0 0), .int p0, .ref o0] (mB G A (mu Mc o0 (.inl (G.2.1 1, 1, .inr (.inl f0)))))) (va_Qi (fun r Mw1 => ∃ (ad1 : adr) (Mc1 : mw) (f1 : Nat → Int64), r = nI (m_crept st p0).1 ∧ Mc1 o0 = none ∧ Mw1 = mu Mc1 o0 (.inl (G.2.1 1, 1, .inr (.inl f1))) ∧ CS G (m_crept st p0).2.2 ad1 Mc1 ∧ ad1 0 0 = ad 0 0 ∧ ((m_crept st p0).1 = 0 → f1 0 = (m_crept st p0).2.1.toInt64)) (mE G A) A) (xX (fun _ => False) G A (mu Mc o0 (.inl (G.2.1 1, 1, .inr (.inl f0))))) 1 6 A := by
  refine vx_ofWH (cc := cL_crept) (maxL := 4) (ret := (some .int)) (by decide) rfl ?_
  intro p e s m args below meth c s₁ B hml hv
  obtain ⟨rfl, hG, hP, hI, hA⟩ := hv
  have hx := B.exec
  have hb := B.bytes
  have hr := B.returns
  have hts := atoms_spec (ws := wsL_crept) B.pre
  have hown : s.vm.findClass RL = some m.cls := findClass_of_methodNamed B.named
  have hlocks := B.notSynchronized
  have hK := hG.K
  have hS : va_S A s.heap s.heap [] := va_S.rf
  have hl := lv_entry ([.ref (ad 0 0), .int p0, .ref o0]) (n := 4) (Nat.le_of_ble_eq_true rfl)
  rw [lg_entry_eq]
  generalize (lg_sl ([.ref (ad 0 0), .int p0, .ref o0]) ++ List.replicate (4 - (lg_sl ([.ref (ad 0 0), .int p0, .ref o0])).length) Slot.unset).toArray = ls at hl ⊢
  have hl : lv_has ls 4 [(0, .ref (ad 0 0)), (1, .int p0), (2, .ref o0)] := hl
  have hP : mP G.1 (mu Mc o0 (.inl (G.2.1 1, 1, .inr (.inl f0)))) s.heap := hP
  refine lv_aload_n hx hb dL_crept_0 rfl (lv_at hl 2 rfl) ?_
  refine lv_iconst (v := 0) hx hb dL_crept_1 (by decide) ?_
  refine lv_aload_n hx hb dL_crept_2 rfl (lv_at hl 0 rfl) ?_
  refine lv_iload_n hx hb dL_crept_3 rfl (lv_at hl 1 rfl) ?_
  have hPd := mP_dn hMo hP
  have hId := mI_dn hMo hI
  have ho9 : o0 < s.heap.size := mP.lt hP (mu_s (M := Mc) (a := o0))
  have hAd : ∀ q : Nat, s.heap.size ≤ q → aN A o0 q := fun q hq => ⟨hA q hq, fun z => by omega⟩
  have hSd : va_S (aN A o0) s.heap s.heap [] := va_S.rf
  refine mn_calli (vx_runV (As := [.int p0]) (rest := [.int 0, .ref o0]) ⟨hx, hb, hml, hown, hts⟩ (c_X4_crept l G (aN A o0) Mc hl9 st ad p0 hC hV) (cwV 1 hts gL_crept_X4_crept rfl rfl rfl (by decide +kernel) ⟨Nat.le_of_ble_eq_true rfl, Nat.le_of_ble_eq_true rfl⟩) (mPreV (GK_aN hG) hSd hPd hId hAd (hPd (ad 0 0) _ (hC.1 0 0 (ok0 st))) (r := (RX4, TX4, 9)) rfl) rfl rfl hl.1 rfl (lv_room (Nat.le_of_ble_eq_true rfl)) dL_crept_4 ⟨Nat.le_of_ble_eq_true rfl, Nat.le_of_ble_eq_true rfl⟩) hP hI hS (fun E9 ce9 q9 H locs hpx9 hP hS hc9 hv9 hcl9 => ?_) (fun r9 Mw1 H locs hp9 hn9 hP hI hS => ?_)
  · obtain ⟨k9, hk9, hnm9⟩ := hpx9
    have hT : c.exceptionTable.toList = tableOf [(0, 9, 12, 21)] := vx_table (x := yL_crept) B (hts _ List.mem_cons_self)
    have hrf : (m_crept st p0).2.2 = st := rf_crept st p0 (by rw [hk9]; omega)
    match k9, hk9, hnm9 with
    | 0, hk9, hnm9 =>
      cases hnm9
      refine vx_catch (E := "java/lang/IndexOutOfBoundsException") (name := "java/lang/IndexOutOfBoundsException") hown [] ⟨0, 9, 12, 21⟩ [] hT (fun z hz => by cases hz) rfl (by decide) (hts (.classLink RL 21 "java/lang/IndexOutOfBoundsException") (by decide +kernel)) (va_Nw.use rfl (hG.2.1.2.2.2.1 ("java/lang/IndexOutOfBoundsException", "java/lang/IndexOutOfBoundsException") (by decide +kernel))) hc9 hv9 hcl9 ?_
      refine lv_astore_n (lv' := [(3, .ref q9), (0, .ref (ad 0 0)), (1, .int p0), (2, .ref o0)]) hx hb dL_crept_12 rfl hl (by decide) rfl (fun ls hl => ?_)
      refine lv_iconst (v := 1) hx hb dL_crept_13 (by decide) ?_
      refine W.widen (k := 1) (n := 6) (Nat.le_of_ble_eq_true rfl) (Nat.le_of_ble_eq_true rfl) ?_
      refine vx_ret ?_
      exact W.iret (v := 1) hx hb hr (fun t99 ht99 hW99 => ⟨⟨1, (mu Mc o0 (.inl (G.2.1 1, 1, .inr (.inl f0)))), rfl, ⟨ad, Mc, f0, by rw [hk9]; rfl, hMo, rfl, by rw [hrf]; exact hC, rfl, fun z => absurd (hk9.symm.trans z) (by omega)⟩, by rw [ht99]; exact hP, hI⟩, hS.F ht99⟩) hS.2.2 dL_crept_14
    | (k9 + 1), hk9, hnm9 => cases hnm9
  obtain ⟨s9, ad9, hop, hC9, ha9⟩ := hp9
  have h_O : (mu Mw1 o0 (.inl (G.2.1 1, 1, .inr (.inl f0)))) o0 = some (.inl (G.2.1 1, 1, .inr (.inl f0))) := mu_s
  refine lv_i2l (v := r9.toInt64) hx hb dL_crept_7 rfl ?_
  refine m_last hx hb hK hP hI hS 1 h_O rfl (show vp_in 0 1 by unfold vp_in; decide) dL_crept_8 (fun H locs hP hI hS => ?_)
  rw [mu_uu] at hP hI 
  have h_O : (mu Mw1 o0 (.inl (G.2.1 1, 1, .inr (.inl (vf_upd f0 ((0 : Int32).toNatClampNeg) r9.toInt64))))) o0 = some (.inl (G.2.1 1, 1, .inr (.inl (vf_upd f0 ((0 : Int32).toNatClampNeg) r9.toInt64)))) := mu_s
  refine lv_goto (tgt := 15) hx hb dL_crept_9 (by decide) ?_
  refine lv_iconst (v := 0) hx hb dL_crept_15 (by decide) ?_
  refine W.widen (k := 1) (n := 6) (Nat.le_of_ble_eq_true rfl) (Nat.le_of_ble_eq_true rfl) ?_
  refine vx_ret ?_
  exact W.iret (v := 0) hx hb hr (fun t99 ht99 hW99 => ⟨⟨0, (mu Mw1 o0 (.inl (G.2.1 1, 1, .inr (.inl (vf_upd f0 ((0 : Int32).toNatClampNeg) r9.toInt64))))), rfl, ⟨ad9, Mw1, _, by rw [hop]; rfl, hn9, rfl, by rw [hop]; exact hC9, ha9, fun _ => vf_0.trans (by rw [hop])⟩, by rw [ht99]; exact hP, hI⟩, hS.F ht99⟩) hS.2.2 dL_crept_16

theorem rf_days (st : St) (p0 : Int32) : (m_days st p0).1 ≠ 0 → (m_days st p0).2.2 = st := by
  unfold m_days
  first | exact chk_ref (ref_0) | exact chk_ref (chk_ref (ref_0)) | exact chk_ref (chk_ref (chk_ref (ref_0))) | exact chk_ref (chk_ref (chk_ref (chk_ref (ref_0)))) | exact chk_ref (chk_ref (chk_ref (chk_ref (chk_ref (ref_0))))) | exact chk_ref (chk_ref (chk_ref (chk_ref (chk_ref (chk_ref (ref_0)))))) | exact chk_ref (chk_ref (chk_ref (chk_ref (chk_ref (chk_ref (chk_ref (ref_0)))))))
set_option maxHeartbeats 4000000 in
set_option maxRecDepth 100000 in
theorem c_L_days (l : Launch) (G : mg) (A : Nat → Prop) (Mc : mw) (hl9 : l.stackTraces = false) (st : St) (ad : adr) (p0 : Int32) (o0 : Nat) {f0 : Nat → Int64} (hMo : Mc o0 = none) (hC : CS G st ad Mc) (hV : Inv st) : vx_Met l yL_days wsL_days ({ frames := 8, cells := 2, slots := 12, locals := 129 }) (va_Pc [.ref (ad 0 0), .int p0, .ref o0] (mB G A (mu Mc o0 (.inl (G.2.1 1, 1, .inr (.inl f0)))))) (va_Qi (fun r Mw1 => ∃ (ad1 : adr) (Mc1 : mw) (f1 : Nat → Int64), r = nI (m_days st p0).1 ∧ Mc1 o0 = none ∧ Mw1 = mu Mc1 o0 (.inl (G.2.1 1, 1, .inr (.inl f1))) ∧ CS G (m_days st p0).2.2 ad1 Mc1 ∧ ad1 0 0 = ad 0 0 ∧ ((m_days st p0).1 = 0 → f1 0 = (m_days st p0).2.1.toInt64)) (mE G A) A) (xX (fun _ => False) G A (mu Mc o0 (.inl (G.2.1 1, 1, .inr (.inl f0))))) 2 12 A := by
  refine vx_ofWH (cc := cL_days) (maxL := 4) (ret := (some .int)) (by decide) rfl ?_
  intro p e s m args below meth c s₁ B hml hv
  obtain ⟨rfl, hG, hP, hI, hA⟩ := hv
  have hx := B.exec
  have hb := B.bytes
  have hr := B.returns
  have hts := atoms_spec (ws := wsL_days) B.pre
  have hown : s.vm.findClass RL = some m.cls := findClass_of_methodNamed B.named
  have hlocks := B.notSynchronized
  have hK := hG.K
  have hS : va_S A s.heap s.heap [] := va_S.rf
  have hl := lv_entry ([.ref (ad 0 0), .int p0, .ref o0]) (n := 4) (Nat.le_of_ble_eq_true rfl)
  rw [lg_entry_eq]
  generalize (lg_sl ([.ref (ad 0 0), .int p0, .ref o0]) ++ List.replicate (4 - (lg_sl ([.ref (ad 0 0), .int p0, .ref o0])).length) Slot.unset).toArray = ls at hl ⊢
  have hl : lv_has ls 4 [(0, .ref (ad 0 0)), (1, .int p0), (2, .ref o0)] := hl
  have hP : mP G.1 (mu Mc o0 (.inl (G.2.1 1, 1, .inr (.inl f0)))) s.heap := hP
  refine lv_aload_n hx hb dL_days_0 rfl (lv_at hl 2 rfl) ?_
  refine lv_iconst (v := 0) hx hb dL_days_1 (by decide) ?_
  refine lv_aload_n hx hb dL_days_2 rfl (lv_at hl 0 rfl) ?_
  refine lv_iload_n hx hb dL_days_3 rfl (lv_at hl 1 rfl) ?_
  have hPd := mP_dn hMo hP
  have hId := mI_dn hMo hI
  have ho9 : o0 < s.heap.size := mP.lt hP (mu_s (M := Mc) (a := o0))
  have hAd : ∀ q : Nat, s.heap.size ≤ q → aN A o0 q := fun q hq => ⟨hA q hq, fun z => by omega⟩
  have hSd : va_S (aN A o0) s.heap s.heap [] := va_S.rf
  refine mn_calli (vx_runV (As := [.int p0]) (rest := [.int 0, .ref o0]) ⟨hx, hb, hml, hown, hts⟩ (c_X4_days l G (aN A o0) Mc hl9 p0 st ad hC hV) (cwV 1 hts gL_days_X4_days rfl rfl rfl (by decide +kernel) ⟨Nat.le_of_ble_eq_true rfl, Nat.le_of_ble_eq_true rfl⟩) (mPreV (GK_aN hG) hSd hPd hId hAd (hPd (ad 0 0) _ (hC.1 0 0 (ok0 st))) (r := (RX4, TX4, 9)) rfl) rfl rfl hl.1 rfl (lv_room (Nat.le_of_ble_eq_true rfl)) dL_days_4 ⟨Nat.le_of_ble_eq_true rfl, Nat.le_of_ble_eq_true rfl⟩) hP hI hS (fun E9 ce9 q9 H locs hpx9 hP hS hc9 hv9 hcl9 => ?_) (fun r9 Mw1 H locs hp9 hn9 hP hI hS => ?_)
  · obtain ⟨k9, hk9, hnm9⟩ := hpx9
    have hT : c.exceptionTable.toList = tableOf [(0, 9, 12, 13), (0, 9, 15, 15)] := vx_table (x := yL_days) B (hts _ List.mem_cons_self)
    have hrf : (m_days st p0).2.2 = st := rf_days st p0 (by rw [hk9]; omega)
    match k9, hk9, hnm9 with
    | 0, hk9, hnm9 =>
      cases hnm9
      refine vx_catch (E := "java/lang/IllegalArgumentException") (name := "java/lang/IllegalArgumentException") hown [] ⟨0, 9, 12, 13⟩ [⟨0, 9, 15, 15⟩] hT (fun z hz => by cases hz) rfl (by decide) (hts (.classLink RL 13 "java/lang/IllegalArgumentException") (by decide +kernel)) (va_Nw.use rfl (hG.2.1.2.2.2.1 ("java/lang/IllegalArgumentException", "java/lang/IllegalArgumentException") (by decide +kernel))) hc9 hv9 hcl9 ?_
      refine lv_astore_n (lv' := [(3, .ref q9), (0, .ref (ad 0 0)), (1, .int p0), (2, .ref o0)]) hx hb dL_days_12 rfl hl (by decide) rfl (fun ls hl => ?_)
      refine lv_iconst (v := 1) hx hb dL_days_13 (by decide) ?_
      refine W.widen (k := 2) (n := 12) (Nat.le_of_ble_eq_true rfl) (Nat.le_of_ble_eq_true rfl) ?_
      refine vx_ret ?_
      exact W.iret (v := 1) hx hb hr (fun t99 ht99 hW99 => ⟨⟨1, (mu Mc o0 (.inl (G.2.1 1, 1, .inr (.inl f0)))), rfl, ⟨ad, Mc, f0, by rw [hk9]; rfl, hMo, rfl, by rw [hrf]; exact hC, rfl, fun z => absurd (hk9.symm.trans z) (by omega)⟩, by rw [ht99]; exact hP, hI⟩, hS.F ht99⟩) hS.2.2 dL_days_14
    | 1, hk9, hnm9 =>
      cases hnm9
      refine vx_catch (E := "java/lang/IllegalStateException") (name := "java/lang/IllegalStateException") hown [⟨0, 9, 12, 13⟩] ⟨0, 9, 15, 15⟩ [] hT (List.forall_mem_cons.mpr ⟨Or.inr ⟨by decide, "java/lang/IllegalArgumentException", hts (.classLink RL 13 "java/lang/IllegalArgumentException") (by decide +kernel), hG.2.1.2.2.2.2.1 ("java/lang/IllegalStateException", "java/lang/IllegalArgumentException") (by decide +kernel)⟩, (fun z hz => by cases hz)⟩) rfl (by decide) (hts (.classLink RL 15 "java/lang/IllegalStateException") (by decide +kernel)) (va_Nw.use rfl (hG.2.1.2.2.2.1 ("java/lang/IllegalStateException", "java/lang/IllegalStateException") (by decide +kernel))) hc9 hv9 hcl9 ?_
      refine lv_astore_n (lv' := [(3, .ref q9), (0, .ref (ad 0 0)), (1, .int p0), (2, .ref o0)]) hx hb dL_days_15 rfl hl (by decide) rfl (fun ls hl => ?_)
      refine lv_iconst (v := 2) hx hb dL_days_16 (by decide) ?_
      refine W.widen (k := 2) (n := 12) (Nat.le_of_ble_eq_true rfl) (Nat.le_of_ble_eq_true rfl) ?_
      refine vx_ret ?_
      exact W.iret (v := 2) hx hb hr (fun t99 ht99 hW99 => ⟨⟨2, (mu Mc o0 (.inl (G.2.1 1, 1, .inr (.inl f0)))), rfl, ⟨ad, Mc, f0, by rw [hk9]; rfl, hMo, rfl, by rw [hrf]; exact hC, rfl, fun z => absurd (hk9.symm.trans z) (by omega)⟩, by rw [ht99]; exact hP, hI⟩, hS.F ht99⟩) hS.2.2 dL_days_17
    | (k9 + 2), hk9, hnm9 => cases hnm9
  obtain ⟨s9, ad9, hop, hC9, ha9⟩ := hp9
  have h_O : (mu Mw1 o0 (.inl (G.2.1 1, 1, .inr (.inl f0)))) o0 = some (.inl (G.2.1 1, 1, .inr (.inl f0))) := mu_s
  refine lv_i2l (v := r9.toInt64) hx hb dL_days_7 rfl ?_
  refine m_last hx hb hK hP hI hS 1 h_O rfl (show vp_in 0 1 by unfold vp_in; decide) dL_days_8 (fun H locs hP hI hS => ?_)
  rw [mu_uu] at hP hI 
  have h_O : (mu Mw1 o0 (.inl (G.2.1 1, 1, .inr (.inl (vf_upd f0 ((0 : Int32).toNatClampNeg) r9.toInt64))))) o0 = some (.inl (G.2.1 1, 1, .inr (.inl (vf_upd f0 ((0 : Int32).toNatClampNeg) r9.toInt64)))) := mu_s
  refine lv_goto (tgt := 18) hx hb dL_days_9 (by decide) ?_
  refine lv_iconst (v := 0) hx hb dL_days_18 (by decide) ?_
  refine W.widen (k := 2) (n := 12) (Nat.le_of_ble_eq_true rfl) (Nat.le_of_ble_eq_true rfl) ?_
  refine vx_ret ?_
  exact W.iret (v := 0) hx hb hr (fun t99 ht99 hW99 => ⟨⟨0, (mu Mw1 o0 (.inl (G.2.1 1, 1, .inr (.inl (vf_upd f0 ((0 : Int32).toNatClampNeg) r9.toInt64))))), rfl, ⟨ad9, Mw1, _, by rw [hop]; rfl, hn9, rfl, by rw [hop]; exact hC9, ha9, fun _ => vf_0.trans (by rw [hop])⟩, by rw [ht99]; exact hP, hI⟩, hS.F ht99⟩) hS.2.2 dL_days_19

theorem rf_air (st : St) (p0 : Int32) : (m_air st p0).1 ≠ 0 → (m_air st p0).2.2 = st := by
  unfold m_air
  first | exact chk_ref (ref_0) | exact chk_ref (chk_ref (ref_0)) | exact chk_ref (chk_ref (chk_ref (ref_0))) | exact chk_ref (chk_ref (chk_ref (chk_ref (ref_0)))) | exact chk_ref (chk_ref (chk_ref (chk_ref (chk_ref (ref_0))))) | exact chk_ref (chk_ref (chk_ref (chk_ref (chk_ref (chk_ref (ref_0)))))) | exact chk_ref (chk_ref (chk_ref (chk_ref (chk_ref (chk_ref (chk_ref (ref_0)))))))
set_option maxHeartbeats 4000000 in
set_option maxRecDepth 100000 in
theorem c_L_air (l : Launch) (G : mg) (A : Nat → Prop) (Mc : mw) (hl9 : l.stackTraces = false) (st : St) (ad : adr) (p0 : Int32) (o0 : Nat) {f0 : Nat → Int64} (hMo : Mc o0 = none) (hC : CS G st ad Mc) (hV : Inv st) : vx_Met l yL_air wsL_air ({ frames := 9, cells := 1, slots := 6, locals := 146 }) (va_Pc [.ref (ad 0 0), .int p0, .ref o0] (mB G A (mu Mc o0 (.inl (G.2.1 1, 1, .inr (.inl f0)))))) (va_Qi (fun r Mw1 => ∃ (ad1 : adr) (Mc1 : mw) (f1 : Nat → Int64), r = nI (m_air st p0).1 ∧ Mc1 o0 = none ∧ Mw1 = mu Mc1 o0 (.inl (G.2.1 1, 1, .inr (.inl f1))) ∧ CS G (m_air st p0).2.2 ad1 Mc1 ∧ ad1 0 0 = ad 0 0 ∧ ((m_air st p0).1 = 0 → f1 0 = (m_air st p0).2.1.toInt64)) (mE G A) A) (xX (fun _ => False) G A (mu Mc o0 (.inl (G.2.1 1, 1, .inr (.inl f0))))) 1 6 A := by
  refine vx_ofWH (cc := cL_air) (maxL := 4) (ret := (some .int)) (by decide) rfl ?_
  intro p e s m args below meth c s₁ B hml hv
  obtain ⟨rfl, hG, hP, hI, hA⟩ := hv
  have hx := B.exec
  have hb := B.bytes
  have hr := B.returns
  have hts := atoms_spec (ws := wsL_air) B.pre
  have hown : s.vm.findClass RL = some m.cls := findClass_of_methodNamed B.named
  have hlocks := B.notSynchronized
  have hK := hG.K
  have hS : va_S A s.heap s.heap [] := va_S.rf
  have hl := lv_entry ([.ref (ad 0 0), .int p0, .ref o0]) (n := 4) (Nat.le_of_ble_eq_true rfl)
  rw [lg_entry_eq]
  generalize (lg_sl ([.ref (ad 0 0), .int p0, .ref o0]) ++ List.replicate (4 - (lg_sl ([.ref (ad 0 0), .int p0, .ref o0])).length) Slot.unset).toArray = ls at hl ⊢
  have hl : lv_has ls 4 [(0, .ref (ad 0 0)), (1, .int p0), (2, .ref o0)] := hl
  have hP : mP G.1 (mu Mc o0 (.inl (G.2.1 1, 1, .inr (.inl f0)))) s.heap := hP
  refine lv_aload_n hx hb dL_air_0 rfl (lv_at hl 2 rfl) ?_
  refine lv_iconst (v := 0) hx hb dL_air_1 (by decide) ?_
  refine lv_aload_n hx hb dL_air_2 rfl (lv_at hl 0 rfl) ?_
  refine lv_iload_n hx hb dL_air_3 rfl (lv_at hl 1 rfl) ?_
  have hPd := mP_dn hMo hP
  have hId := mI_dn hMo hI
  have ho9 : o0 < s.heap.size := mP.lt hP (mu_s (M := Mc) (a := o0))
  have hAd : ∀ q : Nat, s.heap.size ≤ q → aN A o0 q := fun q hq => ⟨hA q hq, fun z => by omega⟩
  have hSd : va_S (aN A o0) s.heap s.heap [] := va_S.rf
  refine mn_calli (vx_runV (As := [.int p0]) (rest := [.int 0, .ref o0]) ⟨hx, hb, hml, hown, hts⟩ (c_X4_air l G (aN A o0) Mc hl9 st ad p0 hC hV) (cwV 1 hts gL_air_X4_air rfl rfl rfl (by decide +kernel) ⟨Nat.le_of_ble_eq_true rfl, Nat.le_of_ble_eq_true rfl⟩) (mPreV (GK_aN hG) hSd hPd hId hAd (hPd (ad 0 0) _ (hC.1 0 0 (ok0 st))) (r := (RX4, TX4, 9)) rfl) rfl rfl hl.1 rfl (lv_room (Nat.le_of_ble_eq_true rfl)) dL_air_4 ⟨Nat.le_of_ble_eq_true rfl, Nat.le_of_ble_eq_true rfl⟩) hP hI hS (fun E9 ce9 q9 H locs hpx9 hP hS hc9 hv9 hcl9 => ?_) (fun r9 Mw1 H locs hp9 hn9 hP hI hS => ?_)
  · obtain ⟨k9, hk9, hnm9⟩ := hpx9
    have hT : c.exceptionTable.toList = tableOf [(0, 9, 12, 13)] := vx_table (x := yL_air) B (hts _ List.mem_cons_self)
    have hrf : (m_air st p0).2.2 = st := rf_air st p0 (by rw [hk9]; omega)
    match k9, hk9, hnm9 with
    | 0, hk9, hnm9 =>
      cases hnm9
      refine vx_catch (E := "java/lang/IllegalArgumentException") (name := "java/lang/IllegalArgumentException") hown [] ⟨0, 9, 12, 13⟩ [] hT (fun z hz => by cases hz) rfl (by decide) (hts (.classLink RL 13 "java/lang/IllegalArgumentException") (by decide +kernel)) (va_Nw.use rfl (hG.2.1.2.2.2.1 ("java/lang/IllegalArgumentException", "java/lang/IllegalArgumentException") (by decide +kernel))) hc9 hv9 hcl9 ?_
      refine lv_astore_n (lv' := [(3, .ref q9), (0, .ref (ad 0 0)), (1, .int p0), (2, .ref o0)]) hx hb dL_air_12 rfl hl (by decide) rfl (fun ls hl => ?_)
      refine lv_iconst (v := 1) hx hb dL_air_13 (by decide) ?_
      refine W.widen (k := 1) (n := 6) (Nat.le_of_ble_eq_true rfl) (Nat.le_of_ble_eq_true rfl) ?_
      refine vx_ret ?_
      exact W.iret (v := 1) hx hb hr (fun t99 ht99 hW99 => ⟨⟨1, (mu Mc o0 (.inl (G.2.1 1, 1, .inr (.inl f0)))), rfl, ⟨ad, Mc, f0, by rw [hk9]; rfl, hMo, rfl, by rw [hrf]; exact hC, rfl, fun z => absurd (hk9.symm.trans z) (by omega)⟩, by rw [ht99]; exact hP, hI⟩, hS.F ht99⟩) hS.2.2 dL_air_14
    | (k9 + 1), hk9, hnm9 => cases hnm9
  obtain ⟨s9, ad9, hop, hC9, ha9⟩ := hp9
  have h_O : (mu Mw1 o0 (.inl (G.2.1 1, 1, .inr (.inl f0)))) o0 = some (.inl (G.2.1 1, 1, .inr (.inl f0))) := mu_s
  refine lv_i2l (v := r9.toInt64) hx hb dL_air_7 rfl ?_
  refine m_last hx hb hK hP hI hS 1 h_O rfl (show vp_in 0 1 by unfold vp_in; decide) dL_air_8 (fun H locs hP hI hS => ?_)
  rw [mu_uu] at hP hI 
  have h_O : (mu Mw1 o0 (.inl (G.2.1 1, 1, .inr (.inl (vf_upd f0 ((0 : Int32).toNatClampNeg) r9.toInt64))))) o0 = some (.inl (G.2.1 1, 1, .inr (.inl (vf_upd f0 ((0 : Int32).toNatClampNeg) r9.toInt64)))) := mu_s
  refine lv_goto (tgt := 15) hx hb dL_air_9 (by decide) ?_
  refine lv_iconst (v := 0) hx hb dL_air_15 (by decide) ?_
  refine W.widen (k := 1) (n := 6) (Nat.le_of_ble_eq_true rfl) (Nat.le_of_ble_eq_true rfl) ?_
  refine vx_ret ?_
  exact W.iret (v := 0) hx hb hr (fun t99 ht99 hW99 => ⟨⟨0, (mu Mw1 o0 (.inl (G.2.1 1, 1, .inr (.inl (vf_upd f0 ((0 : Int32).toNatClampNeg) r9.toInt64))))), rfl, ⟨ad9, Mw1, _, by rw [hop]; rfl, hn9, rfl, by rw [hop]; exact hC9, ha9, fun _ => vf_0.trans (by rw [hop])⟩, by rw [ht99]; exact hP, hI⟩, hS.F ht99⟩) hS.2.2 dL_air_16

theorem rf_level (st : St) (p0 p1 p2 : Int32) : (m_level st p0 p1 p2).1 ≠ 0 → (m_level st p0 p1 p2).2.2 = st := by
  unfold m_level
  first | exact chk_ref (ref_0) | exact chk_ref (chk_ref (ref_0)) | exact chk_ref (chk_ref (chk_ref (ref_0))) | exact chk_ref (chk_ref (chk_ref (chk_ref (ref_0)))) | exact chk_ref (chk_ref (chk_ref (chk_ref (chk_ref (ref_0))))) | exact chk_ref (chk_ref (chk_ref (chk_ref (chk_ref (chk_ref (ref_0)))))) | exact chk_ref (chk_ref (chk_ref (chk_ref (chk_ref (chk_ref (chk_ref (ref_0)))))))
set_option maxHeartbeats 4000000 in
set_option maxRecDepth 100000 in
theorem c_L_level (l : Launch) (G : mg) (A : Nat → Prop) (Mc : mw) (hl9 : l.stackTraces = false) (st : St) (ad : adr) (p0 p1 p2 : Int32) (o0 : Nat) {f0 : Nat → Int64} (hMo : Mc o0 = none) (hC : CS G st ad Mc) (hV : Inv st) : vx_Met l yL_level wsL_level ({ frames := 9, cells := 5, slots := 30, locals := 164 }) (va_Pc [.ref (ad 0 0), .int p0, .int p1, .int p2, .ref o0] (mB G A (mu Mc o0 (.inl (G.2.1 1, 1, .inr (.inl f0)))))) (va_Qi (fun r Mw1 => ∃ (ad1 : adr) (Mc1 : mw) (f1 : Nat → Int64), r = nI (m_level st p0 p1 p2).1 ∧ Mc1 o0 = none ∧ Mw1 = mu Mc1 o0 (.inl (G.2.1 1, 1, .inr (.inl f1))) ∧ CS G (m_level st p0 p1 p2).2.2 ad1 Mc1 ∧ ad1 0 0 = ad 0 0 ∧ ((m_level st p0 p1 p2).1 = 0 → f1 0 = (m_level st p0 p1 p2).2.1.toInt64)) (mE G A) A) (xX (fun _ => False) G A (mu Mc o0 (.inl (G.2.1 1, 1, .inr (.inl f0))))) 5 30 A := by
  refine vx_ofWH (cc := cL_level) (maxL := 6) (ret := (some .int)) (by decide) rfl ?_
  intro p e s m args below meth c s₁ B hml hv
  obtain ⟨rfl, hG, hP, hI, hA⟩ := hv
  have hx := B.exec
  have hb := B.bytes
  have hr := B.returns
  have hts := atoms_spec (ws := wsL_level) B.pre
  have hown : s.vm.findClass RL = some m.cls := findClass_of_methodNamed B.named
  have hlocks := B.notSynchronized
  have hK := hG.K
  have hS : va_S A s.heap s.heap [] := va_S.rf
  have hl := lv_entry ([.ref (ad 0 0), .int p0, .int p1, .int p2, .ref o0]) (n := 6) (Nat.le_of_ble_eq_true rfl)
  rw [lg_entry_eq]
  generalize (lg_sl ([.ref (ad 0 0), .int p0, .int p1, .int p2, .ref o0]) ++ List.replicate (6 - (lg_sl ([.ref (ad 0 0), .int p0, .int p1, .int p2, .ref o0])).length) Slot.unset).toArray = ls at hl ⊢
  have hl : lv_has ls 6 [(0, .ref (ad 0 0)), (1, .int p0), (2, .int p1), (3, .int p2), (4, .ref o0)] := hl
  have hP : mP G.1 (mu Mc o0 (.inl (G.2.1 1, 1, .inr (.inl f0)))) s.heap := hP
  refine lv_aload hx hb dL_level_0 (lv_at hl 4 rfl) ?_
  refine lv_iconst (v := 0) hx hb dL_level_2 (by decide) ?_
  refine lv_aload_n hx hb dL_level_3 rfl (lv_at hl 0 rfl) ?_
  refine lv_iload_n hx hb dL_level_4 rfl (lv_at hl 1 rfl) ?_
  refine lv_iload_n hx hb dL_level_5 rfl (lv_at hl 2 rfl) ?_
  refine lv_iload_n hx hb dL_level_6 rfl (lv_at hl 3 rfl) ?_
  have hPd := mP_dn hMo hP
  have hId := mI_dn hMo hI
  have ho9 : o0 < s.heap.size := mP.lt hP (mu_s (M := Mc) (a := o0))
  have hAd : ∀ q : Nat, s.heap.size ≤ q → aN A o0 q := fun q hq => ⟨hA q hq, fun z => by omega⟩
  have hSd : va_S (aN A o0) s.heap s.heap [] := va_S.rf
  refine mn_calli (vx_runV (As := [.int p0, .int p1, .int p2]) (rest := [.int 0, .ref o0]) ⟨hx, hb, hml, hown, hts⟩ (c_X4_level l G (aN A o0) Mc hl9 st ad p0 p1 p2 hC hV) (cwV 3 hts gL_level_X4_level rfl rfl rfl (by decide +kernel) ⟨Nat.le_of_ble_eq_true rfl, Nat.le_of_ble_eq_true rfl⟩) (mPreV (GK_aN hG) hSd hPd hId hAd (hPd (ad 0 0) _ (hC.1 0 0 (ok0 st))) (r := (RX4, TX4, 9)) rfl) rfl rfl hl.1 rfl (lv_room (Nat.le_of_ble_eq_true rfl)) dL_level_7 ⟨Nat.le_of_ble_eq_true rfl, Nat.le_of_ble_eq_true rfl⟩) hP hI hS (fun E9 ce9 q9 H locs hpx9 hP hS hc9 hv9 hcl9 => ?_) (fun r9 Mw1 H locs hp9 hn9 hP hI hS => ?_)
  · obtain ⟨k9, hk9, hnm9⟩ := hpx9
    have hT : c.exceptionTable.toList = tableOf [(0, 12, 15, 21), (0, 12, 19, 13), (0, 12, 23, 23), (0, 12, 27, 34)] := vx_table (x := yL_level) B (hts _ List.mem_cons_self)
    have hrf : (m_level st p0 p1 p2).2.2 = st := rf_level st p0 p1 p2 (by rw [hk9]; omega)
    match k9, hk9, hnm9 with
    | 0, hk9, hnm9 =>
      cases hnm9
      refine vx_catch (E := "java/lang/IndexOutOfBoundsException") (name := "java/lang/IndexOutOfBoundsException") hown [] ⟨0, 12, 15, 21⟩ [⟨0, 12, 19, 13⟩, ⟨0, 12, 23, 23⟩, ⟨0, 12, 27, 34⟩] hT (fun z hz => by cases hz) rfl (by decide) (hts (.classLink RL 21 "java/lang/IndexOutOfBoundsException") (by decide +kernel)) (va_Nw.use rfl (hG.2.1.2.2.2.1 ("java/lang/IndexOutOfBoundsException", "java/lang/IndexOutOfBoundsException") (by decide +kernel))) hc9 hv9 hcl9 ?_
      refine lv_astore (lv' := [(5, .ref q9), (0, .ref (ad 0 0)), (1, .int p0), (2, .int p1), (3, .int p2), (4, .ref o0)]) hx hb dL_level_15 hl (by decide) rfl (fun ls hl => ?_)
      refine lv_iconst (v := 1) hx hb dL_level_17 (by decide) ?_
      refine W.widen (k := 5) (n := 30) (Nat.le_of_ble_eq_true rfl) (Nat.le_of_ble_eq_true rfl) ?_
      refine vx_ret ?_
      exact W.iret (v := 1) hx hb hr (fun t99 ht99 hW99 => ⟨⟨1, (mu Mc o0 (.inl (G.2.1 1, 1, .inr (.inl f0)))), rfl, ⟨ad, Mc, f0, by rw [hk9]; rfl, hMo, rfl, by rw [hrf]; exact hC, rfl, fun z => absurd (hk9.symm.trans z) (by omega)⟩, by rw [ht99]; exact hP, hI⟩, hS.F ht99⟩) hS.2.2 dL_level_18
    | 1, hk9, hnm9 =>
      cases hnm9
      refine vx_catch (E := "java/lang/IllegalArgumentException") (name := "java/lang/IllegalArgumentException") hown [⟨0, 12, 15, 21⟩] ⟨0, 12, 19, 13⟩ [⟨0, 12, 23, 23⟩, ⟨0, 12, 27, 34⟩] hT (List.forall_mem_cons.mpr ⟨Or.inr ⟨by decide, "java/lang/IndexOutOfBoundsException", hts (.classLink RL 21 "java/lang/IndexOutOfBoundsException") (by decide +kernel), hG.2.1.2.2.2.2.1 ("java/lang/IllegalArgumentException", "java/lang/IndexOutOfBoundsException") (by decide +kernel)⟩, (fun z hz => by cases hz)⟩) rfl (by decide) (hts (.classLink RL 13 "java/lang/IllegalArgumentException") (by decide +kernel)) (va_Nw.use rfl (hG.2.1.2.2.2.1 ("java/lang/IllegalArgumentException", "java/lang/IllegalArgumentException") (by decide +kernel))) hc9 hv9 hcl9 ?_
      refine lv_astore (lv' := [(5, .ref q9), (0, .ref (ad 0 0)), (1, .int p0), (2, .int p1), (3, .int p2), (4, .ref o0)]) hx hb dL_level_19 hl (by decide) rfl (fun ls hl => ?_)
      refine lv_iconst (v := 2) hx hb dL_level_21 (by decide) ?_
      refine W.widen (k := 5) (n := 30) (Nat.le_of_ble_eq_true rfl) (Nat.le_of_ble_eq_true rfl) ?_
      refine vx_ret ?_
      exact W.iret (v := 2) hx hb hr (fun t99 ht99 hW99 => ⟨⟨2, (mu Mc o0 (.inl (G.2.1 1, 1, .inr (.inl f0)))), rfl, ⟨ad, Mc, f0, by rw [hk9]; rfl, hMo, rfl, by rw [hrf]; exact hC, rfl, fun z => absurd (hk9.symm.trans z) (by omega)⟩, by rw [ht99]; exact hP, hI⟩, hS.F ht99⟩) hS.2.2 dL_level_22
    | 2, hk9, hnm9 =>
      cases hnm9
      refine vx_catch (E := "java/lang/UnsupportedOperationException") (name := "java/lang/UnsupportedOperationException") hown [⟨0, 12, 15, 21⟩, ⟨0, 12, 19, 13⟩] ⟨0, 12, 23, 23⟩ [⟨0, 12, 27, 34⟩] hT (List.forall_mem_cons.mpr ⟨Or.inr ⟨by decide, "java/lang/IndexOutOfBoundsException", hts (.classLink RL 21 "java/lang/IndexOutOfBoundsException") (by decide +kernel), hG.2.1.2.2.2.2.1 ("java/lang/UnsupportedOperationException", "java/lang/IndexOutOfBoundsException") (by decide +kernel)⟩, (List.forall_mem_cons.mpr ⟨Or.inr ⟨by decide, "java/lang/IllegalArgumentException", hts (.classLink RL 13 "java/lang/IllegalArgumentException") (by decide +kernel), hG.2.1.2.2.2.2.1 ("java/lang/UnsupportedOperationException", "java/lang/IllegalArgumentException") (by decide +kernel)⟩, (fun z hz => by cases hz)⟩)⟩) rfl (by decide) (hts (.classLink RL 23 "java/lang/UnsupportedOperationException") (by decide +kernel)) (va_Nw.use rfl (hG.2.1.2.2.2.1 ("java/lang/UnsupportedOperationException", "java/lang/UnsupportedOperationException") (by decide +kernel))) hc9 hv9 hcl9 ?_
      refine lv_astore (lv' := [(5, .ref q9), (0, .ref (ad 0 0)), (1, .int p0), (2, .int p1), (3, .int p2), (4, .ref o0)]) hx hb dL_level_23 hl (by decide) rfl (fun ls hl => ?_)
      refine lv_iconst (v := 3) hx hb dL_level_25 (by decide) ?_
      refine W.widen (k := 5) (n := 30) (Nat.le_of_ble_eq_true rfl) (Nat.le_of_ble_eq_true rfl) ?_
      refine vx_ret ?_
      exact W.iret (v := 3) hx hb hr (fun t99 ht99 hW99 => ⟨⟨3, (mu Mc o0 (.inl (G.2.1 1, 1, .inr (.inl f0)))), rfl, ⟨ad, Mc, f0, by rw [hk9]; rfl, hMo, rfl, by rw [hrf]; exact hC, rfl, fun z => absurd (hk9.symm.trans z) (by omega)⟩, by rw [ht99]; exact hP, hI⟩, hS.F ht99⟩) hS.2.2 dL_level_26
    | 3, hk9, hnm9 =>
      cases hnm9
      refine vx_catch (E := "java/util/NoSuchElementException") (name := "java/util/NoSuchElementException") hown [⟨0, 12, 15, 21⟩, ⟨0, 12, 19, 13⟩, ⟨0, 12, 23, 23⟩] ⟨0, 12, 27, 34⟩ [] hT (List.forall_mem_cons.mpr ⟨Or.inr ⟨by decide, "java/lang/IndexOutOfBoundsException", hts (.classLink RL 21 "java/lang/IndexOutOfBoundsException") (by decide +kernel), hG.2.1.2.2.2.2.1 ("java/util/NoSuchElementException", "java/lang/IndexOutOfBoundsException") (by decide +kernel)⟩, (List.forall_mem_cons.mpr ⟨Or.inr ⟨by decide, "java/lang/IllegalArgumentException", hts (.classLink RL 13 "java/lang/IllegalArgumentException") (by decide +kernel), hG.2.1.2.2.2.2.1 ("java/util/NoSuchElementException", "java/lang/IllegalArgumentException") (by decide +kernel)⟩, (List.forall_mem_cons.mpr ⟨Or.inr ⟨by decide, "java/lang/UnsupportedOperationException", hts (.classLink RL 23 "java/lang/UnsupportedOperationException") (by decide +kernel), hG.2.1.2.2.2.2.1 ("java/util/NoSuchElementException", "java/lang/UnsupportedOperationException") (by decide +kernel)⟩, (fun z hz => by cases hz)⟩)⟩)⟩) rfl (by decide) (hts (.classLink RL 34 "java/util/NoSuchElementException") (by decide +kernel)) (va_Nw.use rfl (hG.2.1.2.2.2.1 ("java/util/NoSuchElementException", "java/util/NoSuchElementException") (by decide +kernel))) hc9 hv9 hcl9 ?_
      refine lv_astore (lv' := [(5, .ref q9), (0, .ref (ad 0 0)), (1, .int p0), (2, .int p1), (3, .int p2), (4, .ref o0)]) hx hb dL_level_27 hl (by decide) rfl (fun ls hl => ?_)
      refine lv_iconst (v := 4) hx hb dL_level_29 (by decide) ?_
      refine W.widen (k := 5) (n := 30) (Nat.le_of_ble_eq_true rfl) (Nat.le_of_ble_eq_true rfl) ?_
      refine vx_ret ?_
      exact W.iret (v := 4) hx hb hr (fun t99 ht99 hW99 => ⟨⟨4, (mu Mc o0 (.inl (G.2.1 1, 1, .inr (.inl f0)))), rfl, ⟨ad, Mc, f0, by rw [hk9]; rfl, hMo, rfl, by rw [hrf]; exact hC, rfl, fun z => absurd (hk9.symm.trans z) (by omega)⟩, by rw [ht99]; exact hP, hI⟩, hS.F ht99⟩) hS.2.2 dL_level_30
    | (k9 + 4), hk9, hnm9 => cases hnm9
  obtain ⟨s9, ad9, hop, hC9, ha9⟩ := hp9
  have h_O : (mu Mw1 o0 (.inl (G.2.1 1, 1, .inr (.inl f0)))) o0 = some (.inl (G.2.1 1, 1, .inr (.inl f0))) := mu_s
  refine lv_i2l (v := r9.toInt64) hx hb dL_level_10 rfl ?_
  refine m_last hx hb hK hP hI hS 1 h_O rfl (show vp_in 0 1 by unfold vp_in; decide) dL_level_11 (fun H locs hP hI hS => ?_)
  rw [mu_uu] at hP hI 
  have h_O : (mu Mw1 o0 (.inl (G.2.1 1, 1, .inr (.inl (vf_upd f0 ((0 : Int32).toNatClampNeg) r9.toInt64))))) o0 = some (.inl (G.2.1 1, 1, .inr (.inl (vf_upd f0 ((0 : Int32).toNatClampNeg) r9.toInt64)))) := mu_s
  refine lv_goto (tgt := 31) hx hb dL_level_12 (by decide) ?_
  refine lv_iconst (v := 0) hx hb dL_level_31 (by decide) ?_
  refine W.widen (k := 5) (n := 30) (Nat.le_of_ble_eq_true rfl) (Nat.le_of_ble_eq_true rfl) ?_
  refine vx_ret ?_
  exact W.iret (v := 0) hx hb hr (fun t99 ht99 hW99 => ⟨⟨0, (mu Mw1 o0 (.inl (G.2.1 1, 1, .inr (.inl (vf_upd f0 ((0 : Int32).toNatClampNeg) r9.toInt64))))), rfl, ⟨ad9, Mw1, _, by rw [hop]; rfl, hn9, rfl, by rw [hop]; exact hC9, ha9, fun _ => vf_0.trans (by rw [hop])⟩, by rw [ht99]; exact hP, hI⟩, hS.F ht99⟩) hS.2.2 dL_level_32

theorem rf_ice (st : St) (p0 : Int32) : (m_ice st p0).1 ≠ 0 → (m_ice st p0).2.2 = st := by
  unfold m_ice
  first | exact chk_ref (ref_0) | exact chk_ref (chk_ref (ref_0)) | exact chk_ref (chk_ref (chk_ref (ref_0))) | exact chk_ref (chk_ref (chk_ref (chk_ref (ref_0)))) | exact chk_ref (chk_ref (chk_ref (chk_ref (chk_ref (ref_0))))) | exact chk_ref (chk_ref (chk_ref (chk_ref (chk_ref (chk_ref (ref_0)))))) | exact chk_ref (chk_ref (chk_ref (chk_ref (chk_ref (chk_ref (chk_ref (ref_0)))))))
set_option maxHeartbeats 4000000 in
set_option maxRecDepth 100000 in
theorem c_L_ice (l : Launch) (G : mg) (A : Nat → Prop) (Mc : mw) (hl9 : l.stackTraces = false) (st : St) (ad : adr) (p0 : Int32) (o0 : Nat) {f0 : Nat → Int64} (hMo : Mc o0 = none) (hC : CS G st ad Mc) (hV : Inv st) : vx_Met l yL_ice wsL_ice ({ frames := 8, cells := 3, slots := 18, locals := 163 }) (va_Pc [.ref (ad 0 0), .int p0, .ref o0] (mB G A (mu Mc o0 (.inl (G.2.1 1, 1, .inr (.inl f0)))))) (va_Qi (fun r Mw1 => ∃ (ad1 : adr) (Mc1 : mw) (f1 : Nat → Int64), r = nI (m_ice st p0).1 ∧ Mc1 o0 = none ∧ Mw1 = mu Mc1 o0 (.inl (G.2.1 1, 1, .inr (.inl f1))) ∧ CS G (m_ice st p0).2.2 ad1 Mc1 ∧ ad1 0 0 = ad 0 0 ∧ ((m_ice st p0).1 = 0 → f1 0 = (m_ice st p0).2.1.toInt64)) (mE G A) A) (xX (fun _ => False) G A (mu Mc o0 (.inl (G.2.1 1, 1, .inr (.inl f0))))) 3 18 A := by
  refine vx_ofWH (cc := cL_ice) (maxL := 4) (ret := (some .int)) (by decide) rfl ?_
  intro p e s m args below meth c s₁ B hml hv
  obtain ⟨rfl, hG, hP, hI, hA⟩ := hv
  have hx := B.exec
  have hb := B.bytes
  have hr := B.returns
  have hts := atoms_spec (ws := wsL_ice) B.pre
  have hown : s.vm.findClass RL = some m.cls := findClass_of_methodNamed B.named
  have hlocks := B.notSynchronized
  have hK := hG.K
  have hS : va_S A s.heap s.heap [] := va_S.rf
  have hl := lv_entry ([.ref (ad 0 0), .int p0, .ref o0]) (n := 4) (Nat.le_of_ble_eq_true rfl)
  rw [lg_entry_eq]
  generalize (lg_sl ([.ref (ad 0 0), .int p0, .ref o0]) ++ List.replicate (4 - (lg_sl ([.ref (ad 0 0), .int p0, .ref o0])).length) Slot.unset).toArray = ls at hl ⊢
  have hl : lv_has ls 4 [(0, .ref (ad 0 0)), (1, .int p0), (2, .ref o0)] := hl
  have hP : mP G.1 (mu Mc o0 (.inl (G.2.1 1, 1, .inr (.inl f0)))) s.heap := hP
  refine lv_aload_n hx hb dL_ice_0 rfl (lv_at hl 2 rfl) ?_
  refine lv_iconst (v := 0) hx hb dL_ice_1 (by decide) ?_
  refine lv_aload_n hx hb dL_ice_2 rfl (lv_at hl 0 rfl) ?_
  refine lv_iload_n hx hb dL_ice_3 rfl (lv_at hl 1 rfl) ?_
  have hPd := mP_dn hMo hP
  have hId := mI_dn hMo hI
  have ho9 : o0 < s.heap.size := mP.lt hP (mu_s (M := Mc) (a := o0))
  have hAd : ∀ q : Nat, s.heap.size ≤ q → aN A o0 q := fun q hq => ⟨hA q hq, fun z => by omega⟩
  have hSd : va_S (aN A o0) s.heap s.heap [] := va_S.rf
  refine mn_calli (vx_runV (As := [.int p0]) (rest := [.int 0, .ref o0]) ⟨hx, hb, hml, hown, hts⟩ (c_X4_ice l G (aN A o0) Mc hl9 st ad p0 hC hV) (cwV 1 hts gL_ice_X4_ice rfl rfl rfl (by decide +kernel) ⟨Nat.le_of_ble_eq_true rfl, Nat.le_of_ble_eq_true rfl⟩) (mPreV (GK_aN hG) hSd hPd hId hAd (hPd (ad 0 0) _ (hC.1 0 0 (ok0 st))) (r := (RX4, TX4, 9)) rfl) rfl rfl hl.1 rfl (lv_room (Nat.le_of_ble_eq_true rfl)) dL_ice_4 ⟨Nat.le_of_ble_eq_true rfl, Nat.le_of_ble_eq_true rfl⟩) hP hI hS (fun E9 ce9 q9 H locs hpx9 hP hS hc9 hv9 hcl9 => ?_) (fun r9 Mw1 H locs hp9 hn9 hP hI hS => ?_)
  · obtain ⟨k9, hk9, hnm9⟩ := hpx9
    have hT : c.exceptionTable.toList = tableOf [(0, 9, 12, 21), (0, 9, 15, 23), (0, 9, 18, 34)] := vx_table (x := yL_ice) B (hts _ List.mem_cons_self)
    have hrf : (m_ice st p0).2.2 = st := rf_ice st p0 (by rw [hk9]; omega)
    match k9, hk9, hnm9 with
    | 0, hk9, hnm9 =>
      cases hnm9
      refine vx_catch (E := "java/lang/IndexOutOfBoundsException") (name := "java/lang/IndexOutOfBoundsException") hown [] ⟨0, 9, 12, 21⟩ [⟨0, 9, 15, 23⟩, ⟨0, 9, 18, 34⟩] hT (fun z hz => by cases hz) rfl (by decide) (hts (.classLink RL 21 "java/lang/IndexOutOfBoundsException") (by decide +kernel)) (va_Nw.use rfl (hG.2.1.2.2.2.1 ("java/lang/IndexOutOfBoundsException", "java/lang/IndexOutOfBoundsException") (by decide +kernel))) hc9 hv9 hcl9 ?_
      refine lv_astore_n (lv' := [(3, .ref q9), (0, .ref (ad 0 0)), (1, .int p0), (2, .ref o0)]) hx hb dL_ice_12 rfl hl (by decide) rfl (fun ls hl => ?_)
      refine lv_iconst (v := 1) hx hb dL_ice_13 (by decide) ?_
      refine W.widen (k := 3) (n := 18) (Nat.le_of_ble_eq_true rfl) (Nat.le_of_ble_eq_true rfl) ?_
      refine vx_ret ?_
      exact W.iret (v := 1) hx hb hr (fun t99 ht99 hW99 => ⟨⟨1, (mu Mc o0 (.inl (G.2.1 1, 1, .inr (.inl f0)))), rfl, ⟨ad, Mc, f0, by rw [hk9]; rfl, hMo, rfl, by rw [hrf]; exact hC, rfl, fun z => absurd (hk9.symm.trans z) (by omega)⟩, by rw [ht99]; exact hP, hI⟩, hS.F ht99⟩) hS.2.2 dL_ice_14
    | 1, hk9, hnm9 =>
      cases hnm9
      refine vx_catch (E := "java/lang/UnsupportedOperationException") (name := "java/lang/UnsupportedOperationException") hown [⟨0, 9, 12, 21⟩] ⟨0, 9, 15, 23⟩ [⟨0, 9, 18, 34⟩] hT (List.forall_mem_cons.mpr ⟨Or.inr ⟨by decide, "java/lang/IndexOutOfBoundsException", hts (.classLink RL 21 "java/lang/IndexOutOfBoundsException") (by decide +kernel), hG.2.1.2.2.2.2.1 ("java/lang/UnsupportedOperationException", "java/lang/IndexOutOfBoundsException") (by decide +kernel)⟩, (fun z hz => by cases hz)⟩) rfl (by decide) (hts (.classLink RL 23 "java/lang/UnsupportedOperationException") (by decide +kernel)) (va_Nw.use rfl (hG.2.1.2.2.2.1 ("java/lang/UnsupportedOperationException", "java/lang/UnsupportedOperationException") (by decide +kernel))) hc9 hv9 hcl9 ?_
      refine lv_astore_n (lv' := [(3, .ref q9), (0, .ref (ad 0 0)), (1, .int p0), (2, .ref o0)]) hx hb dL_ice_15 rfl hl (by decide) rfl (fun ls hl => ?_)
      refine lv_iconst (v := 2) hx hb dL_ice_16 (by decide) ?_
      refine W.widen (k := 3) (n := 18) (Nat.le_of_ble_eq_true rfl) (Nat.le_of_ble_eq_true rfl) ?_
      refine vx_ret ?_
      exact W.iret (v := 2) hx hb hr (fun t99 ht99 hW99 => ⟨⟨2, (mu Mc o0 (.inl (G.2.1 1, 1, .inr (.inl f0)))), rfl, ⟨ad, Mc, f0, by rw [hk9]; rfl, hMo, rfl, by rw [hrf]; exact hC, rfl, fun z => absurd (hk9.symm.trans z) (by omega)⟩, by rw [ht99]; exact hP, hI⟩, hS.F ht99⟩) hS.2.2 dL_ice_17
    | 2, hk9, hnm9 =>
      cases hnm9
      refine vx_catch (E := "java/util/NoSuchElementException") (name := "java/util/NoSuchElementException") hown [⟨0, 9, 12, 21⟩, ⟨0, 9, 15, 23⟩] ⟨0, 9, 18, 34⟩ [] hT (List.forall_mem_cons.mpr ⟨Or.inr ⟨by decide, "java/lang/IndexOutOfBoundsException", hts (.classLink RL 21 "java/lang/IndexOutOfBoundsException") (by decide +kernel), hG.2.1.2.2.2.2.1 ("java/util/NoSuchElementException", "java/lang/IndexOutOfBoundsException") (by decide +kernel)⟩, (List.forall_mem_cons.mpr ⟨Or.inr ⟨by decide, "java/lang/UnsupportedOperationException", hts (.classLink RL 23 "java/lang/UnsupportedOperationException") (by decide +kernel), hG.2.1.2.2.2.2.1 ("java/util/NoSuchElementException", "java/lang/UnsupportedOperationException") (by decide +kernel)⟩, (fun z hz => by cases hz)⟩)⟩) rfl (by decide) (hts (.classLink RL 34 "java/util/NoSuchElementException") (by decide +kernel)) (va_Nw.use rfl (hG.2.1.2.2.2.1 ("java/util/NoSuchElementException", "java/util/NoSuchElementException") (by decide +kernel))) hc9 hv9 hcl9 ?_
      refine lv_astore_n (lv' := [(3, .ref q9), (0, .ref (ad 0 0)), (1, .int p0), (2, .ref o0)]) hx hb dL_ice_18 rfl hl (by decide) rfl (fun ls hl => ?_)
      refine lv_iconst (v := 3) hx hb dL_ice_19 (by decide) ?_
      refine W.widen (k := 3) (n := 18) (Nat.le_of_ble_eq_true rfl) (Nat.le_of_ble_eq_true rfl) ?_
      refine vx_ret ?_
      exact W.iret (v := 3) hx hb hr (fun t99 ht99 hW99 => ⟨⟨3, (mu Mc o0 (.inl (G.2.1 1, 1, .inr (.inl f0)))), rfl, ⟨ad, Mc, f0, by rw [hk9]; rfl, hMo, rfl, by rw [hrf]; exact hC, rfl, fun z => absurd (hk9.symm.trans z) (by omega)⟩, by rw [ht99]; exact hP, hI⟩, hS.F ht99⟩) hS.2.2 dL_ice_20
    | (k9 + 3), hk9, hnm9 => cases hnm9
  obtain ⟨s9, ad9, hop, hC9, ha9⟩ := hp9
  have h_O : (mu Mw1 o0 (.inl (G.2.1 1, 1, .inr (.inl f0)))) o0 = some (.inl (G.2.1 1, 1, .inr (.inl f0))) := mu_s
  refine lv_i2l (v := r9.toInt64) hx hb dL_ice_7 rfl ?_
  refine m_last hx hb hK hP hI hS 1 h_O rfl (show vp_in 0 1 by unfold vp_in; decide) dL_ice_8 (fun H locs hP hI hS => ?_)
  rw [mu_uu] at hP hI 
  have h_O : (mu Mw1 o0 (.inl (G.2.1 1, 1, .inr (.inl (vf_upd f0 ((0 : Int32).toNatClampNeg) r9.toInt64))))) o0 = some (.inl (G.2.1 1, 1, .inr (.inl (vf_upd f0 ((0 : Int32).toNatClampNeg) r9.toInt64)))) := mu_s
  refine lv_goto (tgt := 21) hx hb dL_ice_9 (by decide) ?_
  refine lv_iconst (v := 0) hx hb dL_ice_21 (by decide) ?_
  refine W.widen (k := 3) (n := 18) (Nat.le_of_ble_eq_true rfl) (Nat.le_of_ble_eq_true rfl) ?_
  refine vx_ret ?_
  exact W.iret (v := 0) hx hb hr (fun t99 ht99 hW99 => ⟨⟨0, (mu Mw1 o0 (.inl (G.2.1 1, 1, .inr (.inl (vf_upd f0 ((0 : Int32).toNatClampNeg) r9.toInt64))))), rfl, ⟨ad9, Mw1, _, by rw [hop]; rfl, hn9, rfl, by rw [hop]; exact hC9, ha9, fun _ => vf_0.trans (by rw [hop])⟩, by rw [ht99]; exact hP, hI⟩, hS.F ht99⟩) hS.2.2 dL_ice_22

theorem rf_steam (st : St) (p0 p1 : Int32) : (m_steam st p0 p1).1 ≠ 0 → (m_steam st p0 p1).2.2 = st := by
  unfold m_steam
  first | exact chk_ref (ref_0) | exact chk_ref (chk_ref (ref_0)) | exact chk_ref (chk_ref (chk_ref (ref_0))) | exact chk_ref (chk_ref (chk_ref (chk_ref (ref_0)))) | exact chk_ref (chk_ref (chk_ref (chk_ref (chk_ref (ref_0))))) | exact chk_ref (chk_ref (chk_ref (chk_ref (chk_ref (chk_ref (ref_0)))))) | exact chk_ref (chk_ref (chk_ref (chk_ref (chk_ref (chk_ref (chk_ref (ref_0)))))))
set_option maxHeartbeats 4000000 in
set_option maxRecDepth 100000 in
theorem c_L_steam (l : Launch) (G : mg) (A : Nat → Prop) (Mc : mw) (hl9 : l.stackTraces = false) (st : St) (ad : adr) (p0 p1 : Int32) (o0 : Nat) {f0 : Nat → Int64} (hMo : Mc o0 = none) (hC : CS G st ad Mc) (hV : Inv st) : vx_Met l yL_steam wsL_steam ({ frames := 9, cells := 4, slots := 24, locals := 164 }) (va_Pc [.ref (ad 0 0), .int p0, .int p1, .ref o0] (mB G A (mu Mc o0 (.inl (G.2.1 1, 1, .inr (.inl f0)))))) (va_Qi (fun r Mw1 => ∃ (ad1 : adr) (Mc1 : mw) (f1 : Nat → Int64), r = nI (m_steam st p0 p1).1 ∧ Mc1 o0 = none ∧ Mw1 = mu Mc1 o0 (.inl (G.2.1 1, 1, .inr (.inl f1))) ∧ CS G (m_steam st p0 p1).2.2 ad1 Mc1 ∧ ad1 0 0 = ad 0 0 ∧ ((m_steam st p0 p1).1 = 0 → f1 0 = (m_steam st p0 p1).2.1.toInt64)) (mE G A) A) (xX (fun _ => False) G A (mu Mc o0 (.inl (G.2.1 1, 1, .inr (.inl f0))))) 4 24 A := by
  refine vx_ofWH (cc := cL_steam) (maxL := 5) (ret := (some .int)) (by decide) rfl ?_
  intro p e s m args below meth c s₁ B hml hv
  obtain ⟨rfl, hG, hP, hI, hA⟩ := hv
  have hx := B.exec
  have hb := B.bytes
  have hr := B.returns
  have hts := atoms_spec (ws := wsL_steam) B.pre
  have hown : s.vm.findClass RL = some m.cls := findClass_of_methodNamed B.named
  have hlocks := B.notSynchronized
  have hK := hG.K
  have hS : va_S A s.heap s.heap [] := va_S.rf
  have hl := lv_entry ([.ref (ad 0 0), .int p0, .int p1, .ref o0]) (n := 5) (Nat.le_of_ble_eq_true rfl)
  rw [lg_entry_eq]
  generalize (lg_sl ([.ref (ad 0 0), .int p0, .int p1, .ref o0]) ++ List.replicate (5 - (lg_sl ([.ref (ad 0 0), .int p0, .int p1, .ref o0])).length) Slot.unset).toArray = ls at hl ⊢
  have hl : lv_has ls 5 [(0, .ref (ad 0 0)), (1, .int p0), (2, .int p1), (3, .ref o0)] := hl
  have hP : mP G.1 (mu Mc o0 (.inl (G.2.1 1, 1, .inr (.inl f0)))) s.heap := hP
  refine lv_aload_n hx hb dL_steam_0 rfl (lv_at hl 3 rfl) ?_
  refine lv_iconst (v := 0) hx hb dL_steam_1 (by decide) ?_
  refine lv_aload_n hx hb dL_steam_2 rfl (lv_at hl 0 rfl) ?_
  refine lv_iload_n hx hb dL_steam_3 rfl (lv_at hl 1 rfl) ?_
  refine lv_iload_n hx hb dL_steam_4 rfl (lv_at hl 2 rfl) ?_
  have hPd := mP_dn hMo hP
  have hId := mI_dn hMo hI
  have ho9 : o0 < s.heap.size := mP.lt hP (mu_s (M := Mc) (a := o0))
  have hAd : ∀ q : Nat, s.heap.size ≤ q → aN A o0 q := fun q hq => ⟨hA q hq, fun z => by omega⟩
  have hSd : va_S (aN A o0) s.heap s.heap [] := va_S.rf
  refine mn_calli (vx_runV (As := [.int p0, .int p1]) (rest := [.int 0, .ref o0]) ⟨hx, hb, hml, hown, hts⟩ (c_X4_steam l G (aN A o0) Mc hl9 st ad p0 p1 hC hV) (cwV 2 hts gL_steam_X4_steam rfl rfl rfl (by decide +kernel) ⟨Nat.le_of_ble_eq_true rfl, Nat.le_of_ble_eq_true rfl⟩) (mPreV (GK_aN hG) hSd hPd hId hAd (hPd (ad 0 0) _ (hC.1 0 0 (ok0 st))) (r := (RX4, TX4, 9)) rfl) rfl rfl hl.1 rfl (lv_room (Nat.le_of_ble_eq_true rfl)) dL_steam_5 ⟨Nat.le_of_ble_eq_true rfl, Nat.le_of_ble_eq_true rfl⟩) hP hI hS (fun E9 ce9 q9 H locs hpx9 hP hS hc9 hv9 hcl9 => ?_) (fun r9 Mw1 H locs hp9 hn9 hP hI hS => ?_)
  · obtain ⟨k9, hk9, hnm9⟩ := hpx9
    have hT : c.exceptionTable.toList = tableOf [(0, 10, 13, 21), (0, 10, 17, 13), (0, 10, 21, 23), (0, 10, 25, 34)] := vx_table (x := yL_steam) B (hts _ List.mem_cons_self)
    have hrf : (m_steam st p0 p1).2.2 = st := rf_steam st p0 p1 (by rw [hk9]; omega)
    match k9, hk9, hnm9 with
    | 0, hk9, hnm9 =>
      cases hnm9
      refine vx_catch (E := "java/lang/IndexOutOfBoundsException") (name := "java/lang/IndexOutOfBoundsException") hown [] ⟨0, 10, 13, 21⟩ [⟨0, 10, 17, 13⟩, ⟨0, 10, 21, 23⟩, ⟨0, 10, 25, 34⟩] hT (fun z hz => by cases hz) rfl (by decide) (hts (.classLink RL 21 "java/lang/IndexOutOfBoundsException") (by decide +kernel)) (va_Nw.use rfl (hG.2.1.2.2.2.1 ("java/lang/IndexOutOfBoundsException", "java/lang/IndexOutOfBoundsException") (by decide +kernel))) hc9 hv9 hcl9 ?_
      refine lv_astore (lv' := [(4, .ref q9), (0, .ref (ad 0 0)), (1, .int p0), (2, .int p1), (3, .ref o0)]) hx hb dL_steam_13 hl (by decide) rfl (fun ls hl => ?_)
      refine lv_iconst (v := 1) hx hb dL_steam_15 (by decide) ?_
      refine W.widen (k := 4) (n := 24) (Nat.le_of_ble_eq_true rfl) (Nat.le_of_ble_eq_true rfl) ?_
      refine vx_ret ?_
      exact W.iret (v := 1) hx hb hr (fun t99 ht99 hW99 => ⟨⟨1, (mu Mc o0 (.inl (G.2.1 1, 1, .inr (.inl f0)))), rfl, ⟨ad, Mc, f0, by rw [hk9]; rfl, hMo, rfl, by rw [hrf]; exact hC, rfl, fun z => absurd (hk9.symm.trans z) (by omega)⟩, by rw [ht99]; exact hP, hI⟩, hS.F ht99⟩) hS.2.2 dL_steam_16
    | 1, hk9, hnm9 =>
      cases hnm9
      refine vx_catch (E := "java/lang/IllegalArgumentException") (name := "java/lang/IllegalArgumentException") hown [⟨0, 10, 13, 21⟩] ⟨0, 10, 17, 13⟩ [⟨0, 10, 21, 23⟩, ⟨0, 10, 25, 34⟩] hT (List.forall_mem_cons.mpr ⟨Or.inr ⟨by decide, "java/lang/IndexOutOfBoundsException", hts (.classLink RL 21 "java/lang/IndexOutOfBoundsException") (by decide +kernel), hG.2.1.2.2.2.2.1 ("java/lang/IllegalArgumentException", "java/lang/IndexOutOfBoundsException") (by decide +kernel)⟩, (fun z hz => by cases hz)⟩) rfl (by decide) (hts (.classLink RL 13 "java/lang/IllegalArgumentException") (by decide +kernel)) (va_Nw.use rfl (hG.2.1.2.2.2.1 ("java/lang/IllegalArgumentException", "java/lang/IllegalArgumentException") (by decide +kernel))) hc9 hv9 hcl9 ?_
      refine lv_astore (lv' := [(4, .ref q9), (0, .ref (ad 0 0)), (1, .int p0), (2, .int p1), (3, .ref o0)]) hx hb dL_steam_17 hl (by decide) rfl (fun ls hl => ?_)
      refine lv_iconst (v := 2) hx hb dL_steam_19 (by decide) ?_
      refine W.widen (k := 4) (n := 24) (Nat.le_of_ble_eq_true rfl) (Nat.le_of_ble_eq_true rfl) ?_
      refine vx_ret ?_
      exact W.iret (v := 2) hx hb hr (fun t99 ht99 hW99 => ⟨⟨2, (mu Mc o0 (.inl (G.2.1 1, 1, .inr (.inl f0)))), rfl, ⟨ad, Mc, f0, by rw [hk9]; rfl, hMo, rfl, by rw [hrf]; exact hC, rfl, fun z => absurd (hk9.symm.trans z) (by omega)⟩, by rw [ht99]; exact hP, hI⟩, hS.F ht99⟩) hS.2.2 dL_steam_20
    | 2, hk9, hnm9 =>
      cases hnm9
      refine vx_catch (E := "java/lang/UnsupportedOperationException") (name := "java/lang/UnsupportedOperationException") hown [⟨0, 10, 13, 21⟩, ⟨0, 10, 17, 13⟩] ⟨0, 10, 21, 23⟩ [⟨0, 10, 25, 34⟩] hT (List.forall_mem_cons.mpr ⟨Or.inr ⟨by decide, "java/lang/IndexOutOfBoundsException", hts (.classLink RL 21 "java/lang/IndexOutOfBoundsException") (by decide +kernel), hG.2.1.2.2.2.2.1 ("java/lang/UnsupportedOperationException", "java/lang/IndexOutOfBoundsException") (by decide +kernel)⟩, (List.forall_mem_cons.mpr ⟨Or.inr ⟨by decide, "java/lang/IllegalArgumentException", hts (.classLink RL 13 "java/lang/IllegalArgumentException") (by decide +kernel), hG.2.1.2.2.2.2.1 ("java/lang/UnsupportedOperationException", "java/lang/IllegalArgumentException") (by decide +kernel)⟩, (fun z hz => by cases hz)⟩)⟩) rfl (by decide) (hts (.classLink RL 23 "java/lang/UnsupportedOperationException") (by decide +kernel)) (va_Nw.use rfl (hG.2.1.2.2.2.1 ("java/lang/UnsupportedOperationException", "java/lang/UnsupportedOperationException") (by decide +kernel))) hc9 hv9 hcl9 ?_
      refine lv_astore (lv' := [(4, .ref q9), (0, .ref (ad 0 0)), (1, .int p0), (2, .int p1), (3, .ref o0)]) hx hb dL_steam_21 hl (by decide) rfl (fun ls hl => ?_)
      refine lv_iconst (v := 3) hx hb dL_steam_23 (by decide) ?_
      refine W.widen (k := 4) (n := 24) (Nat.le_of_ble_eq_true rfl) (Nat.le_of_ble_eq_true rfl) ?_
      refine vx_ret ?_
      exact W.iret (v := 3) hx hb hr (fun t99 ht99 hW99 => ⟨⟨3, (mu Mc o0 (.inl (G.2.1 1, 1, .inr (.inl f0)))), rfl, ⟨ad, Mc, f0, by rw [hk9]; rfl, hMo, rfl, by rw [hrf]; exact hC, rfl, fun z => absurd (hk9.symm.trans z) (by omega)⟩, by rw [ht99]; exact hP, hI⟩, hS.F ht99⟩) hS.2.2 dL_steam_24
    | 3, hk9, hnm9 =>
      cases hnm9
      refine vx_catch (E := "java/util/NoSuchElementException") (name := "java/util/NoSuchElementException") hown [⟨0, 10, 13, 21⟩, ⟨0, 10, 17, 13⟩, ⟨0, 10, 21, 23⟩] ⟨0, 10, 25, 34⟩ [] hT (List.forall_mem_cons.mpr ⟨Or.inr ⟨by decide, "java/lang/IndexOutOfBoundsException", hts (.classLink RL 21 "java/lang/IndexOutOfBoundsException") (by decide +kernel), hG.2.1.2.2.2.2.1 ("java/util/NoSuchElementException", "java/lang/IndexOutOfBoundsException") (by decide +kernel)⟩, (List.forall_mem_cons.mpr ⟨Or.inr ⟨by decide, "java/lang/IllegalArgumentException", hts (.classLink RL 13 "java/lang/IllegalArgumentException") (by decide +kernel), hG.2.1.2.2.2.2.1 ("java/util/NoSuchElementException", "java/lang/IllegalArgumentException") (by decide +kernel)⟩, (List.forall_mem_cons.mpr ⟨Or.inr ⟨by decide, "java/lang/UnsupportedOperationException", hts (.classLink RL 23 "java/lang/UnsupportedOperationException") (by decide +kernel), hG.2.1.2.2.2.2.1 ("java/util/NoSuchElementException", "java/lang/UnsupportedOperationException") (by decide +kernel)⟩, (fun z hz => by cases hz)⟩)⟩)⟩) rfl (by decide) (hts (.classLink RL 34 "java/util/NoSuchElementException") (by decide +kernel)) (va_Nw.use rfl (hG.2.1.2.2.2.1 ("java/util/NoSuchElementException", "java/util/NoSuchElementException") (by decide +kernel))) hc9 hv9 hcl9 ?_
      refine lv_astore (lv' := [(4, .ref q9), (0, .ref (ad 0 0)), (1, .int p0), (2, .int p1), (3, .ref o0)]) hx hb dL_steam_25 hl (by decide) rfl (fun ls hl => ?_)
      refine lv_iconst (v := 4) hx hb dL_steam_27 (by decide) ?_
      refine W.widen (k := 4) (n := 24) (Nat.le_of_ble_eq_true rfl) (Nat.le_of_ble_eq_true rfl) ?_
      refine vx_ret ?_
      exact W.iret (v := 4) hx hb hr (fun t99 ht99 hW99 => ⟨⟨4, (mu Mc o0 (.inl (G.2.1 1, 1, .inr (.inl f0)))), rfl, ⟨ad, Mc, f0, by rw [hk9]; rfl, hMo, rfl, by rw [hrf]; exact hC, rfl, fun z => absurd (hk9.symm.trans z) (by omega)⟩, by rw [ht99]; exact hP, hI⟩, hS.F ht99⟩) hS.2.2 dL_steam_28
    | (k9 + 4), hk9, hnm9 => cases hnm9
  obtain ⟨s9, ad9, hop, hC9, ha9⟩ := hp9
  have h_O : (mu Mw1 o0 (.inl (G.2.1 1, 1, .inr (.inl f0)))) o0 = some (.inl (G.2.1 1, 1, .inr (.inl f0))) := mu_s
  refine lv_i2l (v := r9.toInt64) hx hb dL_steam_8 rfl ?_
  refine m_last hx hb hK hP hI hS 1 h_O rfl (show vp_in 0 1 by unfold vp_in; decide) dL_steam_9 (fun H locs hP hI hS => ?_)
  rw [mu_uu] at hP hI 
  have h_O : (mu Mw1 o0 (.inl (G.2.1 1, 1, .inr (.inl (vf_upd f0 ((0 : Int32).toNatClampNeg) r9.toInt64))))) o0 = some (.inl (G.2.1 1, 1, .inr (.inl (vf_upd f0 ((0 : Int32).toNatClampNeg) r9.toInt64)))) := mu_s
  refine lv_goto (tgt := 29) hx hb dL_steam_10 (by decide) ?_
  refine lv_iconst (v := 0) hx hb dL_steam_29 (by decide) ?_
  refine W.widen (k := 4) (n := 24) (Nat.le_of_ble_eq_true rfl) (Nat.le_of_ble_eq_true rfl) ?_
  refine vx_ret ?_
  exact W.iret (v := 0) hx hb hr (fun t99 ht99 hW99 => ⟨⟨0, (mu Mw1 o0 (.inl (G.2.1 1, 1, .inr (.inl (vf_upd f0 ((0 : Int32).toNatClampNeg) r9.toInt64))))), rfl, ⟨ad9, Mw1, _, by rw [hop]; rfl, hn9, rfl, by rw [hop]; exact hC9, ha9, fun _ => vf_0.trans (by rw [hop])⟩, by rw [ht99]; exact hP, hI⟩, hS.F ht99⟩) hS.2.2 dL_steam_30

theorem rf_boiling (st : St) (p0 : Int32) : (m_boiling st p0).1 ≠ 0 → (m_boiling st p0).2.2 = st := by
  unfold m_boiling
  first | exact chk_ref (ref_0) | exact chk_ref (chk_ref (ref_0)) | exact chk_ref (chk_ref (chk_ref (ref_0))) | exact chk_ref (chk_ref (chk_ref (chk_ref (ref_0)))) | exact chk_ref (chk_ref (chk_ref (chk_ref (chk_ref (ref_0))))) | exact chk_ref (chk_ref (chk_ref (chk_ref (chk_ref (chk_ref (ref_0)))))) | exact chk_ref (chk_ref (chk_ref (chk_ref (chk_ref (chk_ref (chk_ref (ref_0)))))))
set_option maxHeartbeats 4000000 in
set_option maxRecDepth 100000 in
theorem c_L_boiling (l : Launch) (G : mg) (A : Nat → Prop) (Mc : mw) (hl9 : l.stackTraces = false) (st : St) (ad : adr) (p0 : Int32) (o0 : Nat) {f0 : Nat → Int64} (hMo : Mc o0 = none) (hC : CS G st ad Mc) (hV : Inv st) : vx_Met l yL_boiling wsL_boiling ({ frames := 9, cells := 1, slots := 6, locals := 145 }) (va_Pc [.ref (ad 0 0), .int p0, .ref o0] (mB G A (mu Mc o0 (.inl (G.2.1 1, 1, .inr (.inl f0)))))) (va_Qi (fun r Mw1 => ∃ (ad1 : adr) (Mc1 : mw) (f1 : Nat → Int64), r = nI (m_boiling st p0).1 ∧ Mc1 o0 = none ∧ Mw1 = mu Mc1 o0 (.inl (G.2.1 1, 1, .inr (.inl f1))) ∧ CS G (m_boiling st p0).2.2 ad1 Mc1 ∧ ad1 0 0 = ad 0 0 ∧ ((m_boiling st p0).1 = 0 → f1 0 = (m_boiling st p0).2.1.toInt64)) (mE G A) A) (xX (fun _ => False) G A (mu Mc o0 (.inl (G.2.1 1, 1, .inr (.inl f0))))) 1 6 A := by
  refine vx_ofWH (cc := cL_boiling) (maxL := 4) (ret := (some .int)) (by decide) rfl ?_
  intro p e s m args below meth c s₁ B hml hv
  obtain ⟨rfl, hG, hP, hI, hA⟩ := hv
  have hx := B.exec
  have hb := B.bytes
  have hr := B.returns
  have hts := atoms_spec (ws := wsL_boiling) B.pre
  have hown : s.vm.findClass RL = some m.cls := findClass_of_methodNamed B.named
  have hlocks := B.notSynchronized
  have hK := hG.K
  have hS : va_S A s.heap s.heap [] := va_S.rf
  have hl := lv_entry ([.ref (ad 0 0), .int p0, .ref o0]) (n := 4) (Nat.le_of_ble_eq_true rfl)
  rw [lg_entry_eq]
  generalize (lg_sl ([.ref (ad 0 0), .int p0, .ref o0]) ++ List.replicate (4 - (lg_sl ([.ref (ad 0 0), .int p0, .ref o0])).length) Slot.unset).toArray = ls at hl ⊢
  have hl : lv_has ls 4 [(0, .ref (ad 0 0)), (1, .int p0), (2, .ref o0)] := hl
  have hP : mP G.1 (mu Mc o0 (.inl (G.2.1 1, 1, .inr (.inl f0)))) s.heap := hP
  refine lv_aload_n hx hb dL_boiling_0 rfl (lv_at hl 2 rfl) ?_
  refine lv_iconst (v := 0) hx hb dL_boiling_1 (by decide) ?_
  refine lv_aload_n hx hb dL_boiling_2 rfl (lv_at hl 0 rfl) ?_
  refine lv_iload_n hx hb dL_boiling_3 rfl (lv_at hl 1 rfl) ?_
  have hPd := mP_dn hMo hP
  have hId := mI_dn hMo hI
  have ho9 : o0 < s.heap.size := mP.lt hP (mu_s (M := Mc) (a := o0))
  have hAd : ∀ q : Nat, s.heap.size ≤ q → aN A o0 q := fun q hq => ⟨hA q hq, fun z => by omega⟩
  have hSd : va_S (aN A o0) s.heap s.heap [] := va_S.rf
  refine mn_calli (vx_runV (As := [.int p0]) (rest := [.int 0, .ref o0]) ⟨hx, hb, hml, hown, hts⟩ (c_X4_boiling l G (aN A o0) Mc hl9 st ad p0 hC hV) (cwV 1 hts gL_boiling_X4_boiling rfl rfl rfl (by decide +kernel) ⟨Nat.le_of_ble_eq_true rfl, Nat.le_of_ble_eq_true rfl⟩) (mPreV (GK_aN hG) hSd hPd hId hAd (hPd (ad 0 0) _ (hC.1 0 0 (ok0 st))) (r := (RX4, TX4, 9)) rfl) rfl rfl hl.1 rfl (lv_room (Nat.le_of_ble_eq_true rfl)) dL_boiling_4 ⟨Nat.le_of_ble_eq_true rfl, Nat.le_of_ble_eq_true rfl⟩) hP hI hS (fun E9 ce9 q9 H locs hpx9 hP hS hc9 hv9 hcl9 => ?_) (fun r9 Mw1 H locs hp9 hn9 hP hI hS => ?_)
  · obtain ⟨k9, hk9, hnm9⟩ := hpx9
    have hT : c.exceptionTable.toList = tableOf [(0, 9, 12, 13)] := vx_table (x := yL_boiling) B (hts _ List.mem_cons_self)
    have hrf : (m_boiling st p0).2.2 = st := rf_boiling st p0 (by rw [hk9]; omega)
    match k9, hk9, hnm9 with
    | 0, hk9, hnm9 =>
      cases hnm9
      refine vx_catch (E := "java/lang/IllegalArgumentException") (name := "java/lang/IllegalArgumentException") hown [] ⟨0, 9, 12, 13⟩ [] hT (fun z hz => by cases hz) rfl (by decide) (hts (.classLink RL 13 "java/lang/IllegalArgumentException") (by decide +kernel)) (va_Nw.use rfl (hG.2.1.2.2.2.1 ("java/lang/IllegalArgumentException", "java/lang/IllegalArgumentException") (by decide +kernel))) hc9 hv9 hcl9 ?_
      refine lv_astore_n (lv' := [(3, .ref q9), (0, .ref (ad 0 0)), (1, .int p0), (2, .ref o0)]) hx hb dL_boiling_12 rfl hl (by decide) rfl (fun ls hl => ?_)
      refine lv_iconst (v := 1) hx hb dL_boiling_13 (by decide) ?_
      refine W.widen (k := 1) (n := 6) (Nat.le_of_ble_eq_true rfl) (Nat.le_of_ble_eq_true rfl) ?_
      refine vx_ret ?_
      exact W.iret (v := 1) hx hb hr (fun t99 ht99 hW99 => ⟨⟨1, (mu Mc o0 (.inl (G.2.1 1, 1, .inr (.inl f0)))), rfl, ⟨ad, Mc, f0, by rw [hk9]; rfl, hMo, rfl, by rw [hrf]; exact hC, rfl, fun z => absurd (hk9.symm.trans z) (by omega)⟩, by rw [ht99]; exact hP, hI⟩, hS.F ht99⟩) hS.2.2 dL_boiling_14
    | (k9 + 1), hk9, hnm9 => cases hnm9
  obtain ⟨s9, ad9, hop, hC9, ha9⟩ := hp9
  have h_O : (mu Mw1 o0 (.inl (G.2.1 1, 1, .inr (.inl f0)))) o0 = some (.inl (G.2.1 1, 1, .inr (.inl f0))) := mu_s
  refine lv_i2l (v := r9.toInt64) hx hb dL_boiling_7 rfl ?_
  refine m_last hx hb hK hP hI hS 1 h_O rfl (show vp_in 0 1 by unfold vp_in; decide) dL_boiling_8 (fun H locs hP hI hS => ?_)
  rw [mu_uu] at hP hI 
  have h_O : (mu Mw1 o0 (.inl (G.2.1 1, 1, .inr (.inl (vf_upd f0 ((0 : Int32).toNatClampNeg) r9.toInt64))))) o0 = some (.inl (G.2.1 1, 1, .inr (.inl (vf_upd f0 ((0 : Int32).toNatClampNeg) r9.toInt64)))) := mu_s
  refine lv_goto (tgt := 15) hx hb dL_boiling_9 (by decide) ?_
  refine lv_iconst (v := 0) hx hb dL_boiling_15 (by decide) ?_
  refine W.widen (k := 1) (n := 6) (Nat.le_of_ble_eq_true rfl) (Nat.le_of_ble_eq_true rfl) ?_
  refine vx_ret ?_
  exact W.iret (v := 0) hx hb hr (fun t99 ht99 hW99 => ⟨⟨0, (mu Mw1 o0 (.inl (G.2.1 1, 1, .inr (.inl (vf_upd f0 ((0 : Int32).toNatClampNeg) r9.toInt64))))), rfl, ⟨ad9, Mw1, _, by rw [hop]; rfl, hn9, rfl, by rw [hop]; exact hC9, ha9, fun _ => vf_0.trans (by rw [hop])⟩, by rw [ht99]; exact hP, hI⟩, hS.F ht99⟩) hS.2.2 dL_boiling_16

theorem rf_divide (st : St) (p0 p1 : Int32) : (m_divide st p0 p1).1 ≠ 0 → (m_divide st p0 p1).2.2 = st := by
  unfold m_divide
  first | exact chk_ref (ref_0) | exact chk_ref (chk_ref (ref_0)) | exact chk_ref (chk_ref (chk_ref (ref_0))) | exact chk_ref (chk_ref (chk_ref (chk_ref (ref_0)))) | exact chk_ref (chk_ref (chk_ref (chk_ref (chk_ref (ref_0))))) | exact chk_ref (chk_ref (chk_ref (chk_ref (chk_ref (chk_ref (ref_0)))))) | exact chk_ref (chk_ref (chk_ref (chk_ref (chk_ref (chk_ref (chk_ref (ref_0)))))))
set_option maxHeartbeats 4000000 in
set_option maxRecDepth 100000 in
theorem c_L_divide (l : Launch) (G : mg) (A : Nat → Prop) (Mc : mw) (hl9 : l.stackTraces = false) (st : St) (ad : adr) (p0 p1 : Int32) (o0 : Nat) {f0 : Nat → Int64} (hMo : Mc o0 = none) (hC : CS G st ad Mc) (hV : Inv st) : vx_Met l yL_divide wsL_divide ({ frames := 8, cells := 4, slots := 24, locals := 127 }) (va_Pc [.ref (ad 0 0), .int p0, .int p1, .ref o0] (mB G A (mu Mc o0 (.inl (G.2.1 1, 1, .inr (.inl f0)))))) (va_Qi (fun r Mw1 => ∃ (ad1 : adr) (Mc1 : mw) (f1 : Nat → Int64), r = nI (m_divide st p0 p1).1 ∧ Mc1 o0 = none ∧ Mw1 = mu Mc1 o0 (.inl (G.2.1 1, 1, .inr (.inl f1))) ∧ CS G (m_divide st p0 p1).2.2 ad1 Mc1 ∧ ad1 0 0 = ad 0 0 ∧ ((m_divide st p0 p1).1 = 0 → f1 0 = (m_divide st p0 p1).2.1.toInt64)) (mE G A) A) (xX (fun _ => False) G A (mu Mc o0 (.inl (G.2.1 1, 1, .inr (.inl f0))))) 4 24 A := by
  refine vx_ofWH (cc := cL_divide) (maxL := 5) (ret := (some .int)) (by decide) rfl ?_
  intro p e s m args below meth c s₁ B hml hv
  obtain ⟨rfl, hG, hP, hI, hA⟩ := hv
  have hx := B.exec
  have hb := B.bytes
  have hr := B.returns
  have hts := atoms_spec (ws := wsL_divide) B.pre
  have hown : s.vm.findClass RL = some m.cls := findClass_of_methodNamed B.named
  have hlocks := B.notSynchronized
  have hK := hG.K
  have hS : va_S A s.heap s.heap [] := va_S.rf
  have hl := lv_entry ([.ref (ad 0 0), .int p0, .int p1, .ref o0]) (n := 5) (Nat.le_of_ble_eq_true rfl)
  rw [lg_entry_eq]
  generalize (lg_sl ([.ref (ad 0 0), .int p0, .int p1, .ref o0]) ++ List.replicate (5 - (lg_sl ([.ref (ad 0 0), .int p0, .int p1, .ref o0])).length) Slot.unset).toArray = ls at hl ⊢
  have hl : lv_has ls 5 [(0, .ref (ad 0 0)), (1, .int p0), (2, .int p1), (3, .ref o0)] := hl
  have hP : mP G.1 (mu Mc o0 (.inl (G.2.1 1, 1, .inr (.inl f0)))) s.heap := hP
  refine lv_aload_n hx hb dL_divide_0 rfl (lv_at hl 3 rfl) ?_
  refine lv_iconst (v := 0) hx hb dL_divide_1 (by decide) ?_
  refine lv_aload_n hx hb dL_divide_2 rfl (lv_at hl 0 rfl) ?_
  refine lv_iload_n hx hb dL_divide_3 rfl (lv_at hl 1 rfl) ?_
  refine lv_iload_n hx hb dL_divide_4 rfl (lv_at hl 2 rfl) ?_
  have hPd := mP_dn hMo hP
  have hId := mI_dn hMo hI
  have ho9 : o0 < s.heap.size := mP.lt hP (mu_s (M := Mc) (a := o0))
  have hAd : ∀ q : Nat, s.heap.size ≤ q → aN A o0 q := fun q hq => ⟨hA q hq, fun z => by omega⟩
  have hSd : va_S (aN A o0) s.heap s.heap [] := va_S.rf
  refine mn_calli (vx_runV (As := [.int p0, .int p1]) (rest := [.int 0, .ref o0]) ⟨hx, hb, hml, hown, hts⟩ (c_X4_divide l G (aN A o0) Mc hl9 st ad p0 p1 hC hV) (cwV 2 hts gL_divide_X4_divide rfl rfl rfl (by decide +kernel) ⟨Nat.le_of_ble_eq_true rfl, Nat.le_of_ble_eq_true rfl⟩) (mPreV (GK_aN hG) hSd hPd hId hAd (hPd (ad 0 0) _ (hC.1 0 0 (ok0 st))) (r := (RX4, TX4, 9)) rfl) rfl rfl hl.1 rfl (lv_room (Nat.le_of_ble_eq_true rfl)) dL_divide_5 ⟨Nat.le_of_ble_eq_true rfl, Nat.le_of_ble_eq_true rfl⟩) hP hI hS (fun E9 ce9 q9 H locs hpx9 hP hS hc9 hv9 hcl9 => ?_) (fun r9 Mw1 H locs hp9 hn9 hP hI hS => ?_)
  · obtain ⟨k9, hk9, hnm9⟩ := hpx9
    have hT : c.exceptionTable.toList = tableOf [(0, 10, 13, 21), (0, 10, 17, 13), (0, 10, 21, 23)] := vx_table (x := yL_divide) B (hts _ List.mem_cons_self)
    have hrf : (m_divide st p0 p1).2.2 = st := rf_divide st p0 p1 (by rw [hk9]; omega)
    match k9, hk9, hnm9 with
    | 0, hk9, hnm9 =>
      cases hnm9
      refine vx_catch (E := "java/lang/IndexOutOfBoundsException") (name := "java/lang/IndexOutOfBoundsException") hown [] ⟨0, 10, 13, 21⟩ [⟨0, 10, 17, 13⟩, ⟨0, 10, 21, 23⟩] hT (fun z hz => by cases hz) rfl (by decide) (hts (.classLink RL 21 "java/lang/IndexOutOfBoundsException") (by decide +kernel)) (va_Nw.use rfl (hG.2.1.2.2.2.1 ("java/lang/IndexOutOfBoundsException", "java/lang/IndexOutOfBoundsException") (by decide +kernel))) hc9 hv9 hcl9 ?_
      refine lv_astore (lv' := [(4, .ref q9), (0, .ref (ad 0 0)), (1, .int p0), (2, .int p1), (3, .ref o0)]) hx hb dL_divide_13 hl (by decide) rfl (fun ls hl => ?_)
      refine lv_iconst (v := 1) hx hb dL_divide_15 (by decide) ?_
      refine W.widen (k := 4) (n := 24) (Nat.le_of_ble_eq_true rfl) (Nat.le_of_ble_eq_true rfl) ?_
      refine vx_ret ?_
      exact W.iret (v := 1) hx hb hr (fun t99 ht99 hW99 => ⟨⟨1, (mu Mc o0 (.inl (G.2.1 1, 1, .inr (.inl f0)))), rfl, ⟨ad, Mc, f0, by rw [hk9]; rfl, hMo, rfl, by rw [hrf]; exact hC, rfl, fun z => absurd (hk9.symm.trans z) (by omega)⟩, by rw [ht99]; exact hP, hI⟩, hS.F ht99⟩) hS.2.2 dL_divide_16
    | 1, hk9, hnm9 =>
      cases hnm9
      refine vx_catch (E := "java/lang/IllegalArgumentException") (name := "java/lang/IllegalArgumentException") hown [⟨0, 10, 13, 21⟩] ⟨0, 10, 17, 13⟩ [⟨0, 10, 21, 23⟩] hT (List.forall_mem_cons.mpr ⟨Or.inr ⟨by decide, "java/lang/IndexOutOfBoundsException", hts (.classLink RL 21 "java/lang/IndexOutOfBoundsException") (by decide +kernel), hG.2.1.2.2.2.2.1 ("java/lang/IllegalArgumentException", "java/lang/IndexOutOfBoundsException") (by decide +kernel)⟩, (fun z hz => by cases hz)⟩) rfl (by decide) (hts (.classLink RL 13 "java/lang/IllegalArgumentException") (by decide +kernel)) (va_Nw.use rfl (hG.2.1.2.2.2.1 ("java/lang/IllegalArgumentException", "java/lang/IllegalArgumentException") (by decide +kernel))) hc9 hv9 hcl9 ?_
      refine lv_astore (lv' := [(4, .ref q9), (0, .ref (ad 0 0)), (1, .int p0), (2, .int p1), (3, .ref o0)]) hx hb dL_divide_17 hl (by decide) rfl (fun ls hl => ?_)
      refine lv_iconst (v := 2) hx hb dL_divide_19 (by decide) ?_
      refine W.widen (k := 4) (n := 24) (Nat.le_of_ble_eq_true rfl) (Nat.le_of_ble_eq_true rfl) ?_
      refine vx_ret ?_
      exact W.iret (v := 2) hx hb hr (fun t99 ht99 hW99 => ⟨⟨2, (mu Mc o0 (.inl (G.2.1 1, 1, .inr (.inl f0)))), rfl, ⟨ad, Mc, f0, by rw [hk9]; rfl, hMo, rfl, by rw [hrf]; exact hC, rfl, fun z => absurd (hk9.symm.trans z) (by omega)⟩, by rw [ht99]; exact hP, hI⟩, hS.F ht99⟩) hS.2.2 dL_divide_20
    | 2, hk9, hnm9 =>
      cases hnm9
      refine vx_catch (E := "java/lang/UnsupportedOperationException") (name := "java/lang/UnsupportedOperationException") hown [⟨0, 10, 13, 21⟩, ⟨0, 10, 17, 13⟩] ⟨0, 10, 21, 23⟩ [] hT (List.forall_mem_cons.mpr ⟨Or.inr ⟨by decide, "java/lang/IndexOutOfBoundsException", hts (.classLink RL 21 "java/lang/IndexOutOfBoundsException") (by decide +kernel), hG.2.1.2.2.2.2.1 ("java/lang/UnsupportedOperationException", "java/lang/IndexOutOfBoundsException") (by decide +kernel)⟩, (List.forall_mem_cons.mpr ⟨Or.inr ⟨by decide, "java/lang/IllegalArgumentException", hts (.classLink RL 13 "java/lang/IllegalArgumentException") (by decide +kernel), hG.2.1.2.2.2.2.1 ("java/lang/UnsupportedOperationException", "java/lang/IllegalArgumentException") (by decide +kernel)⟩, (fun z hz => by cases hz)⟩)⟩) rfl (by decide) (hts (.classLink RL 23 "java/lang/UnsupportedOperationException") (by decide +kernel)) (va_Nw.use rfl (hG.2.1.2.2.2.1 ("java/lang/UnsupportedOperationException", "java/lang/UnsupportedOperationException") (by decide +kernel))) hc9 hv9 hcl9 ?_
      refine lv_astore (lv' := [(4, .ref q9), (0, .ref (ad 0 0)), (1, .int p0), (2, .int p1), (3, .ref o0)]) hx hb dL_divide_21 hl (by decide) rfl (fun ls hl => ?_)
      refine lv_iconst (v := 3) hx hb dL_divide_23 (by decide) ?_
      refine W.widen (k := 4) (n := 24) (Nat.le_of_ble_eq_true rfl) (Nat.le_of_ble_eq_true rfl) ?_
      refine vx_ret ?_
      exact W.iret (v := 3) hx hb hr (fun t99 ht99 hW99 => ⟨⟨3, (mu Mc o0 (.inl (G.2.1 1, 1, .inr (.inl f0)))), rfl, ⟨ad, Mc, f0, by rw [hk9]; rfl, hMo, rfl, by rw [hrf]; exact hC, rfl, fun z => absurd (hk9.symm.trans z) (by omega)⟩, by rw [ht99]; exact hP, hI⟩, hS.F ht99⟩) hS.2.2 dL_divide_24
    | (k9 + 3), hk9, hnm9 => cases hnm9
  obtain ⟨s9, ad9, hop, hC9, ha9⟩ := hp9
  have h_O : (mu Mw1 o0 (.inl (G.2.1 1, 1, .inr (.inl f0)))) o0 = some (.inl (G.2.1 1, 1, .inr (.inl f0))) := mu_s
  refine lv_i2l (v := r9.toInt64) hx hb dL_divide_8 rfl ?_
  refine m_last hx hb hK hP hI hS 1 h_O rfl (show vp_in 0 1 by unfold vp_in; decide) dL_divide_9 (fun H locs hP hI hS => ?_)
  rw [mu_uu] at hP hI 
  have h_O : (mu Mw1 o0 (.inl (G.2.1 1, 1, .inr (.inl (vf_upd f0 ((0 : Int32).toNatClampNeg) r9.toInt64))))) o0 = some (.inl (G.2.1 1, 1, .inr (.inl (vf_upd f0 ((0 : Int32).toNatClampNeg) r9.toInt64)))) := mu_s
  refine lv_goto (tgt := 25) hx hb dL_divide_10 (by decide) ?_
  refine lv_iconst (v := 0) hx hb dL_divide_25 (by decide) ?_
  refine W.widen (k := 4) (n := 24) (Nat.le_of_ble_eq_true rfl) (Nat.le_of_ble_eq_true rfl) ?_
  refine vx_ret ?_
  exact W.iret (v := 0) hx hb hr (fun t99 ht99 hW99 => ⟨⟨0, (mu Mw1 o0 (.inl (G.2.1 1, 1, .inr (.inl (vf_upd f0 ((0 : Int32).toNatClampNeg) r9.toInt64))))), rfl, ⟨ad9, Mw1, _, by rw [hop]; rfl, hn9, rfl, by rw [hop]; exact hC9, ha9, fun _ => vf_0.trans (by rw [hop])⟩, by rw [ht99]; exact hP, hI⟩, hS.F ht99⟩) hS.2.2 dL_divide_26

theorem rf_readsAt (st : St) (p0 p1 : Int32) : (m_readsAt st p0 p1).1 ≠ 0 → (m_readsAt st p0 p1).2.2 = st := by
  unfold m_readsAt
  first | exact chk_ref (ref_0) | exact chk_ref (chk_ref (ref_0)) | exact chk_ref (chk_ref (chk_ref (ref_0))) | exact chk_ref (chk_ref (chk_ref (chk_ref (ref_0)))) | exact chk_ref (chk_ref (chk_ref (chk_ref (chk_ref (ref_0))))) | exact chk_ref (chk_ref (chk_ref (chk_ref (chk_ref (chk_ref (ref_0)))))) | exact chk_ref (chk_ref (chk_ref (chk_ref (chk_ref (chk_ref (chk_ref (ref_0)))))))
set_option maxHeartbeats 4000000 in
set_option maxRecDepth 100000 in
theorem c_L_readsAt (l : Launch) (G : mg) (A : Nat → Prop) (Mc : mw) (hl9 : l.stackTraces = false) (st : St) (ad : adr) (p0 p1 : Int32) (o0 : Nat) {f0 : Nat → Int64} (hMo : Mc o0 = none) (hC : CS G st ad Mc) (hV : Inv st) : vx_Met l yL_readsAt wsL_readsAt ({ frames := 9, cells := 3, slots := 18, locals := 147 }) (va_Pc [.ref (ad 0 0), .int p0, .int p1, .ref o0] (mB G A (mu Mc o0 (.inl (G.2.1 1, 1, .inr (.inl f0)))))) (va_Qi (fun r Mw1 => ∃ (ad1 : adr) (Mc1 : mw) (f1 : Nat → Int64), r = nI (m_readsAt st p0 p1).1 ∧ Mc1 o0 = none ∧ Mw1 = mu Mc1 o0 (.inl (G.2.1 1, 1, .inr (.inl f1))) ∧ CS G (m_readsAt st p0 p1).2.2 ad1 Mc1 ∧ ad1 0 0 = ad 0 0 ∧ ((m_readsAt st p0 p1).1 = 0 → f1 0 = (m_readsAt st p0 p1).2.1.toInt64)) (mE G A) A) (xX (fun _ => False) G A (mu Mc o0 (.inl (G.2.1 1, 1, .inr (.inl f0))))) 3 18 A := by
  refine vx_ofWH (cc := cL_readsAt) (maxL := 5) (ret := (some .int)) (by decide) rfl ?_
  intro p e s m args below meth c s₁ B hml hv
  obtain ⟨rfl, hG, hP, hI, hA⟩ := hv
  have hx := B.exec
  have hb := B.bytes
  have hr := B.returns
  have hts := atoms_spec (ws := wsL_readsAt) B.pre
  have hown : s.vm.findClass RL = some m.cls := findClass_of_methodNamed B.named
  have hlocks := B.notSynchronized
  have hK := hG.K
  have hS : va_S A s.heap s.heap [] := va_S.rf
  have hl := lv_entry ([.ref (ad 0 0), .int p0, .int p1, .ref o0]) (n := 5) (Nat.le_of_ble_eq_true rfl)
  rw [lg_entry_eq]
  generalize (lg_sl ([.ref (ad 0 0), .int p0, .int p1, .ref o0]) ++ List.replicate (5 - (lg_sl ([.ref (ad 0 0), .int p0, .int p1, .ref o0])).length) Slot.unset).toArray = ls at hl ⊢
  have hl : lv_has ls 5 [(0, .ref (ad 0 0)), (1, .int p0), (2, .int p1), (3, .ref o0)] := hl
  have hP : mP G.1 (mu Mc o0 (.inl (G.2.1 1, 1, .inr (.inl f0)))) s.heap := hP
  refine lv_aload_n hx hb dL_readsAt_0 rfl (lv_at hl 3 rfl) ?_
  refine lv_iconst (v := 0) hx hb dL_readsAt_1 (by decide) ?_
  refine lv_aload_n hx hb dL_readsAt_2 rfl (lv_at hl 0 rfl) ?_
  refine lv_iload_n hx hb dL_readsAt_3 rfl (lv_at hl 1 rfl) ?_
  refine lv_iload_n hx hb dL_readsAt_4 rfl (lv_at hl 2 rfl) ?_
  have hPd := mP_dn hMo hP
  have hId := mI_dn hMo hI
  have ho9 : o0 < s.heap.size := mP.lt hP (mu_s (M := Mc) (a := o0))
  have hAd : ∀ q : Nat, s.heap.size ≤ q → aN A o0 q := fun q hq => ⟨hA q hq, fun z => by omega⟩
  have hSd : va_S (aN A o0) s.heap s.heap [] := va_S.rf
  refine mn_calli (vx_runV (As := [.int p0, .int p1]) (rest := [.int 0, .ref o0]) ⟨hx, hb, hml, hown, hts⟩ (c_X4_readsAt l G (aN A o0) Mc hl9 st ad p0 p1 hC hV) (cwV 2 hts gL_readsAt_X4_readsAt rfl rfl rfl (by decide +kernel) ⟨Nat.le_of_ble_eq_true rfl, Nat.le_of_ble_eq_true rfl⟩) (mPreV (GK_aN hG) hSd hPd hId hAd (hPd (ad 0 0) _ (hC.1 0 0 (ok0 st))) (r := (RX4, TX4, 9)) rfl) rfl rfl hl.1 rfl (lv_room (Nat.le_of_ble_eq_true rfl)) dL_readsAt_5 ⟨Nat.le_of_ble_eq_true rfl, Nat.le_of_ble_eq_true rfl⟩) hP hI hS (fun E9 ce9 q9 H locs hpx9 hP hS hc9 hv9 hcl9 => ?_) (fun r9 Mw1 H locs hp9 hn9 hP hI hS => ?_)
  · obtain ⟨k9, hk9, hnm9⟩ := hpx9
    have hT : c.exceptionTable.toList = tableOf [(0, 10, 13, 21), (0, 10, 17, 13), (0, 10, 21, 23)] := vx_table (x := yL_readsAt) B (hts _ List.mem_cons_self)
    have hrf : (m_readsAt st p0 p1).2.2 = st := rf_readsAt st p0 p1 (by rw [hk9]; omega)
    match k9, hk9, hnm9 with
    | 0, hk9, hnm9 =>
      cases hnm9
      refine vx_catch (E := "java/lang/IndexOutOfBoundsException") (name := "java/lang/IndexOutOfBoundsException") hown [] ⟨0, 10, 13, 21⟩ [⟨0, 10, 17, 13⟩, ⟨0, 10, 21, 23⟩] hT (fun z hz => by cases hz) rfl (by decide) (hts (.classLink RL 21 "java/lang/IndexOutOfBoundsException") (by decide +kernel)) (va_Nw.use rfl (hG.2.1.2.2.2.1 ("java/lang/IndexOutOfBoundsException", "java/lang/IndexOutOfBoundsException") (by decide +kernel))) hc9 hv9 hcl9 ?_
      refine lv_astore (lv' := [(4, .ref q9), (0, .ref (ad 0 0)), (1, .int p0), (2, .int p1), (3, .ref o0)]) hx hb dL_readsAt_13 hl (by decide) rfl (fun ls hl => ?_)
      refine lv_iconst (v := 1) hx hb dL_readsAt_15 (by decide) ?_
      refine W.widen (k := 3) (n := 18) (Nat.le_of_ble_eq_true rfl) (Nat.le_of_ble_eq_true rfl) ?_
      refine vx_ret ?_
      exact W.iret (v := 1) hx hb hr (fun t99 ht99 hW99 => ⟨⟨1, (mu Mc o0 (.inl (G.2.1 1, 1, .inr (.inl f0)))), rfl, ⟨ad, Mc, f0, by rw [hk9]; rfl, hMo, rfl, by rw [hrf]; exact hC, rfl, fun z => absurd (hk9.symm.trans z) (by omega)⟩, by rw [ht99]; exact hP, hI⟩, hS.F ht99⟩) hS.2.2 dL_readsAt_16
    | 1, hk9, hnm9 =>
      cases hnm9
      refine vx_catch (E := "java/lang/IllegalArgumentException") (name := "java/lang/IllegalArgumentException") hown [⟨0, 10, 13, 21⟩] ⟨0, 10, 17, 13⟩ [⟨0, 10, 21, 23⟩] hT (List.forall_mem_cons.mpr ⟨Or.inr ⟨by decide, "java/lang/IndexOutOfBoundsException", hts (.classLink RL 21 "java/lang/IndexOutOfBoundsException") (by decide +kernel), hG.2.1.2.2.2.2.1 ("java/lang/IllegalArgumentException", "java/lang/IndexOutOfBoundsException") (by decide +kernel)⟩, (fun z hz => by cases hz)⟩) rfl (by decide) (hts (.classLink RL 13 "java/lang/IllegalArgumentException") (by decide +kernel)) (va_Nw.use rfl (hG.2.1.2.2.2.1 ("java/lang/IllegalArgumentException", "java/lang/IllegalArgumentException") (by decide +kernel))) hc9 hv9 hcl9 ?_
      refine lv_astore (lv' := [(4, .ref q9), (0, .ref (ad 0 0)), (1, .int p0), (2, .int p1), (3, .ref o0)]) hx hb dL_readsAt_17 hl (by decide) rfl (fun ls hl => ?_)
      refine lv_iconst (v := 2) hx hb dL_readsAt_19 (by decide) ?_
      refine W.widen (k := 3) (n := 18) (Nat.le_of_ble_eq_true rfl) (Nat.le_of_ble_eq_true rfl) ?_
      refine vx_ret ?_
      exact W.iret (v := 2) hx hb hr (fun t99 ht99 hW99 => ⟨⟨2, (mu Mc o0 (.inl (G.2.1 1, 1, .inr (.inl f0)))), rfl, ⟨ad, Mc, f0, by rw [hk9]; rfl, hMo, rfl, by rw [hrf]; exact hC, rfl, fun z => absurd (hk9.symm.trans z) (by omega)⟩, by rw [ht99]; exact hP, hI⟩, hS.F ht99⟩) hS.2.2 dL_readsAt_20
    | 2, hk9, hnm9 =>
      cases hnm9
      refine vx_catch (E := "java/lang/UnsupportedOperationException") (name := "java/lang/UnsupportedOperationException") hown [⟨0, 10, 13, 21⟩, ⟨0, 10, 17, 13⟩] ⟨0, 10, 21, 23⟩ [] hT (List.forall_mem_cons.mpr ⟨Or.inr ⟨by decide, "java/lang/IndexOutOfBoundsException", hts (.classLink RL 21 "java/lang/IndexOutOfBoundsException") (by decide +kernel), hG.2.1.2.2.2.2.1 ("java/lang/UnsupportedOperationException", "java/lang/IndexOutOfBoundsException") (by decide +kernel)⟩, (List.forall_mem_cons.mpr ⟨Or.inr ⟨by decide, "java/lang/IllegalArgumentException", hts (.classLink RL 13 "java/lang/IllegalArgumentException") (by decide +kernel), hG.2.1.2.2.2.2.1 ("java/lang/UnsupportedOperationException", "java/lang/IllegalArgumentException") (by decide +kernel)⟩, (fun z hz => by cases hz)⟩)⟩) rfl (by decide) (hts (.classLink RL 23 "java/lang/UnsupportedOperationException") (by decide +kernel)) (va_Nw.use rfl (hG.2.1.2.2.2.1 ("java/lang/UnsupportedOperationException", "java/lang/UnsupportedOperationException") (by decide +kernel))) hc9 hv9 hcl9 ?_
      refine lv_astore (lv' := [(4, .ref q9), (0, .ref (ad 0 0)), (1, .int p0), (2, .int p1), (3, .ref o0)]) hx hb dL_readsAt_21 hl (by decide) rfl (fun ls hl => ?_)
      refine lv_iconst (v := 3) hx hb dL_readsAt_23 (by decide) ?_
      refine W.widen (k := 3) (n := 18) (Nat.le_of_ble_eq_true rfl) (Nat.le_of_ble_eq_true rfl) ?_
      refine vx_ret ?_
      exact W.iret (v := 3) hx hb hr (fun t99 ht99 hW99 => ⟨⟨3, (mu Mc o0 (.inl (G.2.1 1, 1, .inr (.inl f0)))), rfl, ⟨ad, Mc, f0, by rw [hk9]; rfl, hMo, rfl, by rw [hrf]; exact hC, rfl, fun z => absurd (hk9.symm.trans z) (by omega)⟩, by rw [ht99]; exact hP, hI⟩, hS.F ht99⟩) hS.2.2 dL_readsAt_24
    | (k9 + 3), hk9, hnm9 => cases hnm9
  obtain ⟨s9, ad9, hop, hC9, ha9⟩ := hp9
  have h_O : (mu Mw1 o0 (.inl (G.2.1 1, 1, .inr (.inl f0)))) o0 = some (.inl (G.2.1 1, 1, .inr (.inl f0))) := mu_s
  refine lv_i2l (v := r9.toInt64) hx hb dL_readsAt_8 rfl ?_
  refine m_last hx hb hK hP hI hS 1 h_O rfl (show vp_in 0 1 by unfold vp_in; decide) dL_readsAt_9 (fun H locs hP hI hS => ?_)
  rw [mu_uu] at hP hI 
  have h_O : (mu Mw1 o0 (.inl (G.2.1 1, 1, .inr (.inl (vf_upd f0 ((0 : Int32).toNatClampNeg) r9.toInt64))))) o0 = some (.inl (G.2.1 1, 1, .inr (.inl (vf_upd f0 ((0 : Int32).toNatClampNeg) r9.toInt64)))) := mu_s
  refine lv_goto (tgt := 25) hx hb dL_readsAt_10 (by decide) ?_
  refine lv_iconst (v := 0) hx hb dL_readsAt_25 (by decide) ?_
  refine W.widen (k := 3) (n := 18) (Nat.le_of_ble_eq_true rfl) (Nat.le_of_ble_eq_true rfl) ?_
  refine vx_ret ?_
  exact W.iret (v := 0) hx hb hr (fun t99 ht99 hW99 => ⟨⟨0, (mu Mw1 o0 (.inl (G.2.1 1, 1, .inr (.inl (vf_upd f0 ((0 : Int32).toNatClampNeg) r9.toInt64))))), rfl, ⟨ad9, Mw1, _, by rw [hop]; rfl, hn9, rfl, by rw [hop]; exact hC9, ha9, fun _ => vf_0.trans (by rw [hop])⟩, by rw [ht99]; exact hP, hI⟩, hS.F ht99⟩) hS.2.2 dL_readsAt_26

theorem rf_bath (st : St) (p0 p1 p2 : Int32) : (m_bath st p0 p1 p2).1 ≠ 0 → (m_bath st p0 p1 p2).2.2 = st := by
  unfold m_bath
  first | exact chk_ref (ref_0) | exact chk_ref (chk_ref (ref_0)) | exact chk_ref (chk_ref (chk_ref (ref_0))) | exact chk_ref (chk_ref (chk_ref (chk_ref (ref_0)))) | exact chk_ref (chk_ref (chk_ref (chk_ref (chk_ref (ref_0))))) | exact chk_ref (chk_ref (chk_ref (chk_ref (chk_ref (chk_ref (ref_0)))))) | exact chk_ref (chk_ref (chk_ref (chk_ref (chk_ref (chk_ref (chk_ref (ref_0)))))))
set_option maxHeartbeats 4000000 in
set_option maxRecDepth 100000 in
theorem c_L_bath (l : Launch) (G : mg) (A : Nat → Prop) (Mc : mw) (hl9 : l.stackTraces = false) (st : St) (ad : adr) (p0 p1 p2 : Int32) (o0 : Nat) {f0 : Nat → Int64} (hMo : Mc o0 = none) (hC : CS G st ad Mc) (hV : Inv st) : vx_Met l yL_bath wsL_bath ({ frames := 9, cells := 6, slots := 36, locals := 164 }) (va_Pc [.ref (ad 0 0), .int p0, .int p1, .int p2, .ref o0] (mB G A (mu Mc o0 (.inl (G.2.1 1, 1, .inr (.inl f0)))))) (va_Qi (fun r Mw1 => ∃ (ad1 : adr) (Mc1 : mw) (f1 : Nat → Int64), r = nI (m_bath st p0 p1 p2).1 ∧ Mc1 o0 = none ∧ Mw1 = mu Mc1 o0 (.inl (G.2.1 1, 1, .inr (.inl f1))) ∧ CS G (m_bath st p0 p1 p2).2.2 ad1 Mc1 ∧ ad1 0 0 = ad 0 0 ∧ ((m_bath st p0 p1 p2).1 = 0 → f1 0 = (m_bath st p0 p1 p2).2.1.toInt64)) (mE G A) A) (xX (fun _ => False) G A (mu Mc o0 (.inl (G.2.1 1, 1, .inr (.inl f0))))) 6 36 A := by
  refine vx_ofWH (cc := cL_bath) (maxL := 6) (ret := (some .int)) (by decide) rfl ?_
  intro p e s m args below meth c s₁ B hml hv
  obtain ⟨rfl, hG, hP, hI, hA⟩ := hv
  have hx := B.exec
  have hb := B.bytes
  have hr := B.returns
  have hts := atoms_spec (ws := wsL_bath) B.pre
  have hown : s.vm.findClass RL = some m.cls := findClass_of_methodNamed B.named
  have hlocks := B.notSynchronized
  have hK := hG.K
  have hS : va_S A s.heap s.heap [] := va_S.rf
  have hl := lv_entry ([.ref (ad 0 0), .int p0, .int p1, .int p2, .ref o0]) (n := 6) (Nat.le_of_ble_eq_true rfl)
  rw [lg_entry_eq]
  generalize (lg_sl ([.ref (ad 0 0), .int p0, .int p1, .int p2, .ref o0]) ++ List.replicate (6 - (lg_sl ([.ref (ad 0 0), .int p0, .int p1, .int p2, .ref o0])).length) Slot.unset).toArray = ls at hl ⊢
  have hl : lv_has ls 6 [(0, .ref (ad 0 0)), (1, .int p0), (2, .int p1), (3, .int p2), (4, .ref o0)] := hl
  have hP : mP G.1 (mu Mc o0 (.inl (G.2.1 1, 1, .inr (.inl f0)))) s.heap := hP
  refine lv_aload hx hb dL_bath_0 (lv_at hl 4 rfl) ?_
  refine lv_iconst (v := 0) hx hb dL_bath_2 (by decide) ?_
  refine lv_aload_n hx hb dL_bath_3 rfl (lv_at hl 0 rfl) ?_
  refine lv_iload_n hx hb dL_bath_4 rfl (lv_at hl 1 rfl) ?_
  refine lv_iload_n hx hb dL_bath_5 rfl (lv_at hl 2 rfl) ?_
  refine lv_iload_n hx hb dL_bath_6 rfl (lv_at hl 3 rfl) ?_
  have hPd := mP_dn hMo hP
  have hId := mI_dn hMo hI
  have ho9 : o0 < s.heap.size := mP.lt hP (mu_s (M := Mc) (a := o0))
  have hAd : ∀ q : Nat, s.heap.size ≤ q → aN A o0 q := fun q hq => ⟨hA q hq, fun z => by omega⟩
  have hSd : va_S (aN A o0) s.heap s.heap [] := va_S.rf
  refine mn_calli (vx_runV (As := [.int p0, .int p1, .int p2]) (rest := [.int 0, .ref o0]) ⟨hx, hb, hml, hown, hts⟩ (c_X4_bath l G (aN A o0) Mc hl9 st ad p0 p1 p2 hC hV) (cwV 3 hts gL_bath_X4_bath rfl rfl rfl (by decide +kernel) ⟨Nat.le_of_ble_eq_true rfl, Nat.le_of_ble_eq_true rfl⟩) (mPreV (GK_aN hG) hSd hPd hId hAd (hPd (ad 0 0) _ (hC.1 0 0 (ok0 st))) (r := (RX4, TX4, 9)) rfl) rfl rfl hl.1 rfl (lv_room (Nat.le_of_ble_eq_true rfl)) dL_bath_7 ⟨Nat.le_of_ble_eq_true rfl, Nat.le_of_ble_eq_true rfl⟩) hP hI hS (fun E9 ce9 q9 H locs hpx9 hP hS hc9 hv9 hcl9 => ?_) (fun r9 Mw1 H locs hp9 hn9 hP hI hS => ?_)
  · obtain ⟨k9, hk9, hnm9⟩ := hpx9
    have hT : c.exceptionTable.toList = tableOf [(0, 12, 15, 21), (0, 12, 19, 13), (0, 12, 23, 23), (0, 12, 27, 34)] := vx_table (x := yL_bath) B (hts _ List.mem_cons_self)
    have hrf : (m_bath st p0 p1 p2).2.2 = st := rf_bath st p0 p1 p2 (by rw [hk9]; omega)
    match k9, hk9, hnm9 with
    | 0, hk9, hnm9 =>
      cases hnm9
      refine vx_catch (E := "java/lang/IndexOutOfBoundsException") (name := "java/lang/IndexOutOfBoundsException") hown [] ⟨0, 12, 15, 21⟩ [⟨0, 12, 19, 13⟩, ⟨0, 12, 23, 23⟩, ⟨0, 12, 27, 34⟩] hT (fun z hz => by cases hz) rfl (by decide) (hts (.classLink RL 21 "java/lang/IndexOutOfBoundsException") (by decide +kernel)) (va_Nw.use rfl (hG.2.1.2.2.2.1 ("java/lang/IndexOutOfBoundsException", "java/lang/IndexOutOfBoundsException") (by decide +kernel))) hc9 hv9 hcl9 ?_
      refine lv_astore (lv' := [(5, .ref q9), (0, .ref (ad 0 0)), (1, .int p0), (2, .int p1), (3, .int p2), (4, .ref o0)]) hx hb dL_bath_15 hl (by decide) rfl (fun ls hl => ?_)
      refine lv_iconst (v := 1) hx hb dL_bath_17 (by decide) ?_
      refine W.widen (k := 6) (n := 36) (Nat.le_of_ble_eq_true rfl) (Nat.le_of_ble_eq_true rfl) ?_
      refine vx_ret ?_
      exact W.iret (v := 1) hx hb hr (fun t99 ht99 hW99 => ⟨⟨1, (mu Mc o0 (.inl (G.2.1 1, 1, .inr (.inl f0)))), rfl, ⟨ad, Mc, f0, by rw [hk9]; rfl, hMo, rfl, by rw [hrf]; exact hC, rfl, fun z => absurd (hk9.symm.trans z) (by omega)⟩, by rw [ht99]; exact hP, hI⟩, hS.F ht99⟩) hS.2.2 dL_bath_18
    | 1, hk9, hnm9 =>
      cases hnm9
      refine vx_catch (E := "java/lang/IllegalArgumentException") (name := "java/lang/IllegalArgumentException") hown [⟨0, 12, 15, 21⟩] ⟨0, 12, 19, 13⟩ [⟨0, 12, 23, 23⟩, ⟨0, 12, 27, 34⟩] hT (List.forall_mem_cons.mpr ⟨Or.inr ⟨by decide, "java/lang/IndexOutOfBoundsException", hts (.classLink RL 21 "java/lang/IndexOutOfBoundsException") (by decide +kernel), hG.2.1.2.2.2.2.1 ("java/lang/IllegalArgumentException", "java/lang/IndexOutOfBoundsException") (by decide +kernel)⟩, (fun z hz => by cases hz)⟩) rfl (by decide) (hts (.classLink RL 13 "java/lang/IllegalArgumentException") (by decide +kernel)) (va_Nw.use rfl (hG.2.1.2.2.2.1 ("java/lang/IllegalArgumentException", "java/lang/IllegalArgumentException") (by decide +kernel))) hc9 hv9 hcl9 ?_
      refine lv_astore (lv' := [(5, .ref q9), (0, .ref (ad 0 0)), (1, .int p0), (2, .int p1), (3, .int p2), (4, .ref o0)]) hx hb dL_bath_19 hl (by decide) rfl (fun ls hl => ?_)
      refine lv_iconst (v := 2) hx hb dL_bath_21 (by decide) ?_
      refine W.widen (k := 6) (n := 36) (Nat.le_of_ble_eq_true rfl) (Nat.le_of_ble_eq_true rfl) ?_
      refine vx_ret ?_
      exact W.iret (v := 2) hx hb hr (fun t99 ht99 hW99 => ⟨⟨2, (mu Mc o0 (.inl (G.2.1 1, 1, .inr (.inl f0)))), rfl, ⟨ad, Mc, f0, by rw [hk9]; rfl, hMo, rfl, by rw [hrf]; exact hC, rfl, fun z => absurd (hk9.symm.trans z) (by omega)⟩, by rw [ht99]; exact hP, hI⟩, hS.F ht99⟩) hS.2.2 dL_bath_22
    | 2, hk9, hnm9 =>
      cases hnm9
      refine vx_catch (E := "java/lang/UnsupportedOperationException") (name := "java/lang/UnsupportedOperationException") hown [⟨0, 12, 15, 21⟩, ⟨0, 12, 19, 13⟩] ⟨0, 12, 23, 23⟩ [⟨0, 12, 27, 34⟩] hT (List.forall_mem_cons.mpr ⟨Or.inr ⟨by decide, "java/lang/IndexOutOfBoundsException", hts (.classLink RL 21 "java/lang/IndexOutOfBoundsException") (by decide +kernel), hG.2.1.2.2.2.2.1 ("java/lang/UnsupportedOperationException", "java/lang/IndexOutOfBoundsException") (by decide +kernel)⟩, (List.forall_mem_cons.mpr ⟨Or.inr ⟨by decide, "java/lang/IllegalArgumentException", hts (.classLink RL 13 "java/lang/IllegalArgumentException") (by decide +kernel), hG.2.1.2.2.2.2.1 ("java/lang/UnsupportedOperationException", "java/lang/IllegalArgumentException") (by decide +kernel)⟩, (fun z hz => by cases hz)⟩)⟩) rfl (by decide) (hts (.classLink RL 23 "java/lang/UnsupportedOperationException") (by decide +kernel)) (va_Nw.use rfl (hG.2.1.2.2.2.1 ("java/lang/UnsupportedOperationException", "java/lang/UnsupportedOperationException") (by decide +kernel))) hc9 hv9 hcl9 ?_
      refine lv_astore (lv' := [(5, .ref q9), (0, .ref (ad 0 0)), (1, .int p0), (2, .int p1), (3, .int p2), (4, .ref o0)]) hx hb dL_bath_23 hl (by decide) rfl (fun ls hl => ?_)
      refine lv_iconst (v := 3) hx hb dL_bath_25 (by decide) ?_
      refine W.widen (k := 6) (n := 36) (Nat.le_of_ble_eq_true rfl) (Nat.le_of_ble_eq_true rfl) ?_
      refine vx_ret ?_
      exact W.iret (v := 3) hx hb hr (fun t99 ht99 hW99 => ⟨⟨3, (mu Mc o0 (.inl (G.2.1 1, 1, .inr (.inl f0)))), rfl, ⟨ad, Mc, f0, by rw [hk9]; rfl, hMo, rfl, by rw [hrf]; exact hC, rfl, fun z => absurd (hk9.symm.trans z) (by omega)⟩, by rw [ht99]; exact hP, hI⟩, hS.F ht99⟩) hS.2.2 dL_bath_26
    | 3, hk9, hnm9 =>
      cases hnm9
      refine vx_catch (E := "java/util/NoSuchElementException") (name := "java/util/NoSuchElementException") hown [⟨0, 12, 15, 21⟩, ⟨0, 12, 19, 13⟩, ⟨0, 12, 23, 23⟩] ⟨0, 12, 27, 34⟩ [] hT (List.forall_mem_cons.mpr ⟨Or.inr ⟨by decide, "java/lang/IndexOutOfBoundsException", hts (.classLink RL 21 "java/lang/IndexOutOfBoundsException") (by decide +kernel), hG.2.1.2.2.2.2.1 ("java/util/NoSuchElementException", "java/lang/IndexOutOfBoundsException") (by decide +kernel)⟩, (List.forall_mem_cons.mpr ⟨Or.inr ⟨by decide, "java/lang/IllegalArgumentException", hts (.classLink RL 13 "java/lang/IllegalArgumentException") (by decide +kernel), hG.2.1.2.2.2.2.1 ("java/util/NoSuchElementException", "java/lang/IllegalArgumentException") (by decide +kernel)⟩, (List.forall_mem_cons.mpr ⟨Or.inr ⟨by decide, "java/lang/UnsupportedOperationException", hts (.classLink RL 23 "java/lang/UnsupportedOperationException") (by decide +kernel), hG.2.1.2.2.2.2.1 ("java/util/NoSuchElementException", "java/lang/UnsupportedOperationException") (by decide +kernel)⟩, (fun z hz => by cases hz)⟩)⟩)⟩) rfl (by decide) (hts (.classLink RL 34 "java/util/NoSuchElementException") (by decide +kernel)) (va_Nw.use rfl (hG.2.1.2.2.2.1 ("java/util/NoSuchElementException", "java/util/NoSuchElementException") (by decide +kernel))) hc9 hv9 hcl9 ?_
      refine lv_astore (lv' := [(5, .ref q9), (0, .ref (ad 0 0)), (1, .int p0), (2, .int p1), (3, .int p2), (4, .ref o0)]) hx hb dL_bath_27 hl (by decide) rfl (fun ls hl => ?_)
      refine lv_iconst (v := 4) hx hb dL_bath_29 (by decide) ?_
      refine W.widen (k := 6) (n := 36) (Nat.le_of_ble_eq_true rfl) (Nat.le_of_ble_eq_true rfl) ?_
      refine vx_ret ?_
      exact W.iret (v := 4) hx hb hr (fun t99 ht99 hW99 => ⟨⟨4, (mu Mc o0 (.inl (G.2.1 1, 1, .inr (.inl f0)))), rfl, ⟨ad, Mc, f0, by rw [hk9]; rfl, hMo, rfl, by rw [hrf]; exact hC, rfl, fun z => absurd (hk9.symm.trans z) (by omega)⟩, by rw [ht99]; exact hP, hI⟩, hS.F ht99⟩) hS.2.2 dL_bath_30
    | (k9 + 4), hk9, hnm9 => cases hnm9
  obtain ⟨s9, ad9, hop, hC9, ha9⟩ := hp9
  have h_O : (mu Mw1 o0 (.inl (G.2.1 1, 1, .inr (.inl f0)))) o0 = some (.inl (G.2.1 1, 1, .inr (.inl f0))) := mu_s
  refine lv_i2l (v := r9.toInt64) hx hb dL_bath_10 rfl ?_
  refine m_last hx hb hK hP hI hS 1 h_O rfl (show vp_in 0 1 by unfold vp_in; decide) dL_bath_11 (fun H locs hP hI hS => ?_)
  rw [mu_uu] at hP hI 
  have h_O : (mu Mw1 o0 (.inl (G.2.1 1, 1, .inr (.inl (vf_upd f0 ((0 : Int32).toNatClampNeg) r9.toInt64))))) o0 = some (.inl (G.2.1 1, 1, .inr (.inl (vf_upd f0 ((0 : Int32).toNatClampNeg) r9.toInt64)))) := mu_s
  refine lv_goto (tgt := 31) hx hb dL_bath_12 (by decide) ?_
  refine lv_iconst (v := 0) hx hb dL_bath_31 (by decide) ?_
  refine W.widen (k := 6) (n := 36) (Nat.le_of_ble_eq_true rfl) (Nat.le_of_ble_eq_true rfl) ?_
  refine vx_ret ?_
  exact W.iret (v := 0) hx hb hr (fun t99 ht99 hW99 => ⟨⟨0, (mu Mw1 o0 (.inl (G.2.1 1, 1, .inr (.inl (vf_upd f0 ((0 : Int32).toNatClampNeg) r9.toInt64))))), rfl, ⟨ad9, Mw1, _, by rw [hop]; rfl, hn9, rfl, by rw [hop]; exact hC9, ha9, fun _ => vf_0.trans (by rw [hop])⟩, by rw [ht99]; exact hP, hI⟩, hS.F ht99⟩) hS.2.2 dL_bath_32

theorem rf_error (st : St) (p0 : Int32) : (m_error st p0).1 ≠ 0 → (m_error st p0).2.2 = st := by
  unfold m_error
  first | exact chk_ref (ref_0) | exact chk_ref (chk_ref (ref_0)) | exact chk_ref (chk_ref (chk_ref (ref_0))) | exact chk_ref (chk_ref (chk_ref (chk_ref (ref_0)))) | exact chk_ref (chk_ref (chk_ref (chk_ref (chk_ref (ref_0))))) | exact chk_ref (chk_ref (chk_ref (chk_ref (chk_ref (chk_ref (ref_0)))))) | exact chk_ref (chk_ref (chk_ref (chk_ref (chk_ref (chk_ref (chk_ref (ref_0)))))))
set_option maxHeartbeats 4000000 in
set_option maxRecDepth 100000 in
theorem c_L_error (l : Launch) (G : mg) (A : Nat → Prop) (Mc : mw) (hl9 : l.stackTraces = false) (st : St) (ad : adr) (p0 : Int32) (o0 : Nat) {f0 : Nat → Int64} (hMo : Mc o0 = none) (hC : CS G st ad Mc) (hV : Inv st) : vx_Met l yL_error wsL_error ({ frames := 8, cells := 2, slots := 12, locals := 125 }) (va_Pc [.ref (ad 0 0), .int p0, .ref o0] (mB G A (mu Mc o0 (.inl (G.2.1 1, 1, .inr (.inl f0)))))) (va_Qi (fun r Mw1 => ∃ (ad1 : adr) (Mc1 : mw) (f1 : Nat → Int64), r = nI (m_error st p0).1 ∧ Mc1 o0 = none ∧ Mw1 = mu Mc1 o0 (.inl (G.2.1 1, 1, .inr (.inl f1))) ∧ CS G (m_error st p0).2.2 ad1 Mc1 ∧ ad1 0 0 = ad 0 0 ∧ ((m_error st p0).1 = 0 → f1 0 = (m_error st p0).2.1.toInt64)) (mE G A) A) (xX (fun _ => False) G A (mu Mc o0 (.inl (G.2.1 1, 1, .inr (.inl f0))))) 2 12 A := by
  refine vx_ofWH (cc := cL_error) (maxL := 4) (ret := (some .int)) (by decide) rfl ?_
  intro p e s m args below meth c s₁ B hml hv
  obtain ⟨rfl, hG, hP, hI, hA⟩ := hv
  have hx := B.exec
  have hb := B.bytes
  have hr := B.returns
  have hts := atoms_spec (ws := wsL_error) B.pre
  have hown : s.vm.findClass RL = some m.cls := findClass_of_methodNamed B.named
  have hlocks := B.notSynchronized
  have hK := hG.K
  have hS : va_S A s.heap s.heap [] := va_S.rf
  have hl := lv_entry ([.ref (ad 0 0), .int p0, .ref o0]) (n := 4) (Nat.le_of_ble_eq_true rfl)
  rw [lg_entry_eq]
  generalize (lg_sl ([.ref (ad 0 0), .int p0, .ref o0]) ++ List.replicate (4 - (lg_sl ([.ref (ad 0 0), .int p0, .ref o0])).length) Slot.unset).toArray = ls at hl ⊢
  have hl : lv_has ls 4 [(0, .ref (ad 0 0)), (1, .int p0), (2, .ref o0)] := hl
  have hP : mP G.1 (mu Mc o0 (.inl (G.2.1 1, 1, .inr (.inl f0)))) s.heap := hP
  refine lv_aload_n hx hb dL_error_0 rfl (lv_at hl 2 rfl) ?_
  refine lv_iconst (v := 0) hx hb dL_error_1 (by decide) ?_
  refine lv_aload_n hx hb dL_error_2 rfl (lv_at hl 0 rfl) ?_
  refine lv_iload_n hx hb dL_error_3 rfl (lv_at hl 1 rfl) ?_
  have hPd := mP_dn hMo hP
  have hId := mI_dn hMo hI
  have ho9 : o0 < s.heap.size := mP.lt hP (mu_s (M := Mc) (a := o0))
  have hAd : ∀ q : Nat, s.heap.size ≤ q → aN A o0 q := fun q hq => ⟨hA q hq, fun z => by omega⟩
  have hSd : va_S (aN A o0) s.heap s.heap [] := va_S.rf
  refine mn_calli (vx_runV (As := [.int p0]) (rest := [.int 0, .ref o0]) ⟨hx, hb, hml, hown, hts⟩ (c_X4_error l G (aN A o0) Mc hl9 st ad p0 hC hV) (cwV 1 hts gL_error_X4_error rfl rfl rfl (by decide +kernel) ⟨Nat.le_of_ble_eq_true rfl, Nat.le_of_ble_eq_true rfl⟩) (mPreV (GK_aN hG) hSd hPd hId hAd (hPd (ad 0 0) _ (hC.1 0 0 (ok0 st))) (r := (RX4, TX4, 9)) rfl) rfl rfl hl.1 rfl (lv_room (Nat.le_of_ble_eq_true rfl)) dL_error_4 ⟨Nat.le_of_ble_eq_true rfl, Nat.le_of_ble_eq_true rfl⟩) hP hI hS (fun E9 ce9 q9 H locs hpx9 hP hS hc9 hv9 hcl9 => ?_) (fun r9 Mw1 H locs hp9 hn9 hP hI hS => ?_)
  · obtain ⟨k9, hk9, hnm9⟩ := hpx9
    have hT : c.exceptionTable.toList = tableOf [(0, 9, 12, 21), (0, 9, 15, 34)] := vx_table (x := yL_error) B (hts _ List.mem_cons_self)
    have hrf : (m_error st p0).2.2 = st := rf_error st p0 (by rw [hk9]; omega)
    match k9, hk9, hnm9 with
    | 0, hk9, hnm9 =>
      cases hnm9
      refine vx_catch (E := "java/lang/IndexOutOfBoundsException") (name := "java/lang/IndexOutOfBoundsException") hown [] ⟨0, 9, 12, 21⟩ [⟨0, 9, 15, 34⟩] hT (fun z hz => by cases hz) rfl (by decide) (hts (.classLink RL 21 "java/lang/IndexOutOfBoundsException") (by decide +kernel)) (va_Nw.use rfl (hG.2.1.2.2.2.1 ("java/lang/IndexOutOfBoundsException", "java/lang/IndexOutOfBoundsException") (by decide +kernel))) hc9 hv9 hcl9 ?_
      refine lv_astore_n (lv' := [(3, .ref q9), (0, .ref (ad 0 0)), (1, .int p0), (2, .ref o0)]) hx hb dL_error_12 rfl hl (by decide) rfl (fun ls hl => ?_)
      refine lv_iconst (v := 1) hx hb dL_error_13 (by decide) ?_
      refine W.widen (k := 2) (n := 12) (Nat.le_of_ble_eq_true rfl) (Nat.le_of_ble_eq_true rfl) ?_
      refine vx_ret ?_
      exact W.iret (v := 1) hx hb hr (fun t99 ht99 hW99 => ⟨⟨1, (mu Mc o0 (.inl (G.2.1 1, 1, .inr (.inl f0)))), rfl, ⟨ad, Mc, f0, by rw [hk9]; rfl, hMo, rfl, by rw [hrf]; exact hC, rfl, fun z => absurd (hk9.symm.trans z) (by omega)⟩, by rw [ht99]; exact hP, hI⟩, hS.F ht99⟩) hS.2.2 dL_error_14
    | 1, hk9, hnm9 =>
      cases hnm9
      refine vx_catch (E := "java/util/NoSuchElementException") (name := "java/util/NoSuchElementException") hown [⟨0, 9, 12, 21⟩] ⟨0, 9, 15, 34⟩ [] hT (List.forall_mem_cons.mpr ⟨Or.inr ⟨by decide, "java/lang/IndexOutOfBoundsException", hts (.classLink RL 21 "java/lang/IndexOutOfBoundsException") (by decide +kernel), hG.2.1.2.2.2.2.1 ("java/util/NoSuchElementException", "java/lang/IndexOutOfBoundsException") (by decide +kernel)⟩, (fun z hz => by cases hz)⟩) rfl (by decide) (hts (.classLink RL 34 "java/util/NoSuchElementException") (by decide +kernel)) (va_Nw.use rfl (hG.2.1.2.2.2.1 ("java/util/NoSuchElementException", "java/util/NoSuchElementException") (by decide +kernel))) hc9 hv9 hcl9 ?_
      refine lv_astore_n (lv' := [(3, .ref q9), (0, .ref (ad 0 0)), (1, .int p0), (2, .ref o0)]) hx hb dL_error_15 rfl hl (by decide) rfl (fun ls hl => ?_)
      refine lv_iconst (v := 2) hx hb dL_error_16 (by decide) ?_
      refine W.widen (k := 2) (n := 12) (Nat.le_of_ble_eq_true rfl) (Nat.le_of_ble_eq_true rfl) ?_
      refine vx_ret ?_
      exact W.iret (v := 2) hx hb hr (fun t99 ht99 hW99 => ⟨⟨2, (mu Mc o0 (.inl (G.2.1 1, 1, .inr (.inl f0)))), rfl, ⟨ad, Mc, f0, by rw [hk9]; rfl, hMo, rfl, by rw [hrf]; exact hC, rfl, fun z => absurd (hk9.symm.trans z) (by omega)⟩, by rw [ht99]; exact hP, hI⟩, hS.F ht99⟩) hS.2.2 dL_error_17
    | (k9 + 2), hk9, hnm9 => cases hnm9
  obtain ⟨s9, ad9, hop, hC9, ha9⟩ := hp9
  have h_O : (mu Mw1 o0 (.inl (G.2.1 1, 1, .inr (.inl f0)))) o0 = some (.inl (G.2.1 1, 1, .inr (.inl f0))) := mu_s
  refine lv_i2l (v := r9.toInt64) hx hb dL_error_7 rfl ?_
  refine m_last hx hb hK hP hI hS 1 h_O rfl (show vp_in 0 1 by unfold vp_in; decide) dL_error_8 (fun H locs hP hI hS => ?_)
  rw [mu_uu] at hP hI 
  have h_O : (mu Mw1 o0 (.inl (G.2.1 1, 1, .inr (.inl (vf_upd f0 ((0 : Int32).toNatClampNeg) r9.toInt64))))) o0 = some (.inl (G.2.1 1, 1, .inr (.inl (vf_upd f0 ((0 : Int32).toNatClampNeg) r9.toInt64)))) := mu_s
  refine lv_goto (tgt := 18) hx hb dL_error_9 (by decide) ?_
  refine lv_iconst (v := 0) hx hb dL_error_18 (by decide) ?_
  refine W.widen (k := 2) (n := 12) (Nat.le_of_ble_eq_true rfl) (Nat.le_of_ble_eq_true rfl) ?_
  refine vx_ret ?_
  exact W.iret (v := 0) hx hb hr (fun t99 ht99 hW99 => ⟨⟨0, (mu Mw1 o0 (.inl (G.2.1 1, 1, .inr (.inl (vf_upd f0 ((0 : Int32).toNatClampNeg) r9.toInt64))))), rfl, ⟨ad9, Mw1, _, by rw [hop]; rfl, hn9, rfl, by rw [hop]; exact hC9, ha9, fun _ => vf_0.trans (by rw [hop])⟩, by rw [ht99]; exact hP, hI⟩, hS.F ht99⟩) hS.2.2 dL_error_19

theorem rf_tests (st : St) (p0 : Int32) : (m_tests st p0).1 ≠ 0 → (m_tests st p0).2.2 = st := by
  unfold m_tests
  first | exact chk_ref (ref_0) | exact chk_ref (chk_ref (ref_0)) | exact chk_ref (chk_ref (chk_ref (ref_0))) | exact chk_ref (chk_ref (chk_ref (chk_ref (ref_0)))) | exact chk_ref (chk_ref (chk_ref (chk_ref (chk_ref (ref_0))))) | exact chk_ref (chk_ref (chk_ref (chk_ref (chk_ref (chk_ref (ref_0)))))) | exact chk_ref (chk_ref (chk_ref (chk_ref (chk_ref (chk_ref (chk_ref (ref_0)))))))
set_option maxHeartbeats 4000000 in
set_option maxRecDepth 100000 in
theorem c_L_tests (l : Launch) (G : mg) (A : Nat → Prop) (Mc : mw) (hl9 : l.stackTraces = false) (st : St) (ad : adr) (p0 : Int32) (o0 : Nat) {f0 : Nat → Int64} (hMo : Mc o0 = none) (hC : CS G st ad Mc) (hV : Inv st) : vx_Met l yL_tests wsL_tests ({ frames := 8, cells := 1, slots := 6, locals := 124 }) (va_Pc [.ref (ad 0 0), .int p0, .ref o0] (mB G A (mu Mc o0 (.inl (G.2.1 1, 1, .inr (.inl f0)))))) (va_Qi (fun r Mw1 => ∃ (ad1 : adr) (Mc1 : mw) (f1 : Nat → Int64), r = nI (m_tests st p0).1 ∧ Mc1 o0 = none ∧ Mw1 = mu Mc1 o0 (.inl (G.2.1 1, 1, .inr (.inl f1))) ∧ CS G (m_tests st p0).2.2 ad1 Mc1 ∧ ad1 0 0 = ad 0 0 ∧ ((m_tests st p0).1 = 0 → f1 0 = (m_tests st p0).2.1.toInt64)) (mE G A) A) (xX (fun _ => False) G A (mu Mc o0 (.inl (G.2.1 1, 1, .inr (.inl f0))))) 1 6 A := by
  refine vx_ofWH (cc := cL_tests) (maxL := 4) (ret := (some .int)) (by decide) rfl ?_
  intro p e s m args below meth c s₁ B hml hv
  obtain ⟨rfl, hG, hP, hI, hA⟩ := hv
  have hx := B.exec
  have hb := B.bytes
  have hr := B.returns
  have hts := atoms_spec (ws := wsL_tests) B.pre
  have hown : s.vm.findClass RL = some m.cls := findClass_of_methodNamed B.named
  have hlocks := B.notSynchronized
  have hK := hG.K
  have hS : va_S A s.heap s.heap [] := va_S.rf
  have hl := lv_entry ([.ref (ad 0 0), .int p0, .ref o0]) (n := 4) (Nat.le_of_ble_eq_true rfl)
  rw [lg_entry_eq]
  generalize (lg_sl ([.ref (ad 0 0), .int p0, .ref o0]) ++ List.replicate (4 - (lg_sl ([.ref (ad 0 0), .int p0, .ref o0])).length) Slot.unset).toArray = ls at hl ⊢
  have hl : lv_has ls 4 [(0, .ref (ad 0 0)), (1, .int p0), (2, .ref o0)] := hl
  have hP : mP G.1 (mu Mc o0 (.inl (G.2.1 1, 1, .inr (.inl f0)))) s.heap := hP
  refine lv_aload_n hx hb dL_tests_0 rfl (lv_at hl 2 rfl) ?_
  refine lv_iconst (v := 0) hx hb dL_tests_1 (by decide) ?_
  refine lv_aload_n hx hb dL_tests_2 rfl (lv_at hl 0 rfl) ?_
  refine lv_iload_n hx hb dL_tests_3 rfl (lv_at hl 1 rfl) ?_
  have hPd := mP_dn hMo hP
  have hId := mI_dn hMo hI
  have ho9 : o0 < s.heap.size := mP.lt hP (mu_s (M := Mc) (a := o0))
  have hAd : ∀ q : Nat, s.heap.size ≤ q → aN A o0 q := fun q hq => ⟨hA q hq, fun z => by omega⟩
  have hSd : va_S (aN A o0) s.heap s.heap [] := va_S.rf
  refine mn_calli (vx_runV (As := [.int p0]) (rest := [.int 0, .ref o0]) ⟨hx, hb, hml, hown, hts⟩ (c_X4_tests l G (aN A o0) Mc hl9 st ad p0 hC hV) (cwV 1 hts gL_tests_X4_tests rfl rfl rfl (by decide +kernel) ⟨Nat.le_of_ble_eq_true rfl, Nat.le_of_ble_eq_true rfl⟩) (mPreV (GK_aN hG) hSd hPd hId hAd (hPd (ad 0 0) _ (hC.1 0 0 (ok0 st))) (r := (RX4, TX4, 9)) rfl) rfl rfl hl.1 rfl (lv_room (Nat.le_of_ble_eq_true rfl)) dL_tests_4 ⟨Nat.le_of_ble_eq_true rfl, Nat.le_of_ble_eq_true rfl⟩) hP hI hS (fun E9 ce9 q9 H locs hpx9 hP hS hc9 hv9 hcl9 => ?_) (fun r9 Mw1 H locs hp9 hn9 hP hI hS => ?_)
  · obtain ⟨k9, hk9, hnm9⟩ := hpx9
    have hT : c.exceptionTable.toList = tableOf [(0, 9, 12, 21)] := vx_table (x := yL_tests) B (hts _ List.mem_cons_self)
    have hrf : (m_tests st p0).2.2 = st := rf_tests st p0 (by rw [hk9]; omega)
    match k9, hk9, hnm9 with
    | 0, hk9, hnm9 =>
      cases hnm9
      refine vx_catch (E := "java/lang/IndexOutOfBoundsException") (name := "java/lang/IndexOutOfBoundsException") hown [] ⟨0, 9, 12, 21⟩ [] hT (fun z hz => by cases hz) rfl (by decide) (hts (.classLink RL 21 "java/lang/IndexOutOfBoundsException") (by decide +kernel)) (va_Nw.use rfl (hG.2.1.2.2.2.1 ("java/lang/IndexOutOfBoundsException", "java/lang/IndexOutOfBoundsException") (by decide +kernel))) hc9 hv9 hcl9 ?_
      refine lv_astore_n (lv' := [(3, .ref q9), (0, .ref (ad 0 0)), (1, .int p0), (2, .ref o0)]) hx hb dL_tests_12 rfl hl (by decide) rfl (fun ls hl => ?_)
      refine lv_iconst (v := 1) hx hb dL_tests_13 (by decide) ?_
      refine W.widen (k := 1) (n := 6) (Nat.le_of_ble_eq_true rfl) (Nat.le_of_ble_eq_true rfl) ?_
      refine vx_ret ?_
      exact W.iret (v := 1) hx hb hr (fun t99 ht99 hW99 => ⟨⟨1, (mu Mc o0 (.inl (G.2.1 1, 1, .inr (.inl f0)))), rfl, ⟨ad, Mc, f0, by rw [hk9]; rfl, hMo, rfl, by rw [hrf]; exact hC, rfl, fun z => absurd (hk9.symm.trans z) (by omega)⟩, by rw [ht99]; exact hP, hI⟩, hS.F ht99⟩) hS.2.2 dL_tests_14
    | (k9 + 1), hk9, hnm9 => cases hnm9
  obtain ⟨s9, ad9, hop, hC9, ha9⟩ := hp9
  have h_O : (mu Mw1 o0 (.inl (G.2.1 1, 1, .inr (.inl f0)))) o0 = some (.inl (G.2.1 1, 1, .inr (.inl f0))) := mu_s
  refine lv_i2l (v := r9.toInt64) hx hb dL_tests_7 rfl ?_
  refine m_last hx hb hK hP hI hS 1 h_O rfl (show vp_in 0 1 by unfold vp_in; decide) dL_tests_8 (fun H locs hP hI hS => ?_)
  rw [mu_uu] at hP hI 
  have h_O : (mu Mw1 o0 (.inl (G.2.1 1, 1, .inr (.inl (vf_upd f0 ((0 : Int32).toNatClampNeg) r9.toInt64))))) o0 = some (.inl (G.2.1 1, 1, .inr (.inl (vf_upd f0 ((0 : Int32).toNatClampNeg) r9.toInt64)))) := mu_s
  refine lv_goto (tgt := 15) hx hb dL_tests_9 (by decide) ?_
  refine lv_iconst (v := 0) hx hb dL_tests_15 (by decide) ?_
  refine W.widen (k := 1) (n := 6) (Nat.le_of_ble_eq_true rfl) (Nat.le_of_ble_eq_true rfl) ?_
  refine vx_ret ?_
  exact W.iret (v := 0) hx hb hr (fun t99 ht99 hW99 => ⟨⟨0, (mu Mw1 o0 (.inl (G.2.1 1, 1, .inr (.inl (vf_upd f0 ((0 : Int32).toNatClampNeg) r9.toInt64))))), rfl, ⟨ad9, Mw1, _, by rw [hop]; rfl, hn9, rfl, by rw [hop]; exact hC9, ha9, fun _ => vf_0.trans (by rw [hop])⟩, by rw [ht99]; exact hP, hI⟩, hS.F ht99⟩) hS.2.2 dL_tests_16

theorem rf_begin (st : St) (p0 : Int32) : (m_begin st p0).1 ≠ 0 → (m_begin st p0).2.2 = st := by
  unfold m_begin
  first | exact chk_ref (ref_0) | exact chk_ref (chk_ref (ref_0)) | exact chk_ref (chk_ref (chk_ref (ref_0))) | exact chk_ref (chk_ref (chk_ref (chk_ref (ref_0)))) | exact chk_ref (chk_ref (chk_ref (chk_ref (chk_ref (ref_0))))) | exact chk_ref (chk_ref (chk_ref (chk_ref (chk_ref (chk_ref (ref_0)))))) | exact chk_ref (chk_ref (chk_ref (chk_ref (chk_ref (chk_ref (chk_ref (ref_0)))))))
set_option maxHeartbeats 4000000 in
set_option maxRecDepth 100000 in
theorem c_L_begin (l : Launch) (G : mg) (A : Nat → Prop) (Mc : mw) (hl9 : l.stackTraces = false) (st : St) (ad : adr) (p0 : Int32) (o0 : Nat) {f0 : Nat → Int64} (hMo : Mc o0 = none) (hC : CS G st ad Mc) (hV : Inv st) : vx_Met l yL_begin wsL_begin ({ frames := 8, cells := 1, slots := 6, locals := 126 }) (va_Pc [.ref (ad 0 0), .int p0, .ref o0] (mB G A (mu Mc o0 (.inl (G.2.1 1, 1, .inr (.inl f0)))))) (va_Qi (fun r Mw1 => ∃ (ad1 : adr) (Mc1 : mw) (f1 : Nat → Int64), r = nI (m_begin st p0).1 ∧ Mc1 o0 = none ∧ Mw1 = mu Mc1 o0 (.inl (G.2.1 1, 1, .inr (.inl f1))) ∧ CS G (m_begin st p0).2.2 ad1 Mc1 ∧ ad1 0 0 = ad 0 0 ∧ ((m_begin st p0).1 = 0 → f1 0 = (m_begin st p0).2.1.toInt64)) (mE G A) A) (xX (fun _ => False) G A (mu Mc o0 (.inl (G.2.1 1, 1, .inr (.inl f0))))) 1 6 A := by
  refine vx_ofWH (cc := cL_begin) (maxL := 4) (ret := (some .int)) (by decide) rfl ?_
  intro p e s m args below meth c s₁ B hml hv
  obtain ⟨rfl, hG, hP, hI, hA⟩ := hv
  have hx := B.exec
  have hb := B.bytes
  have hr := B.returns
  have hts := atoms_spec (ws := wsL_begin) B.pre
  have hown : s.vm.findClass RL = some m.cls := findClass_of_methodNamed B.named
  have hlocks := B.notSynchronized
  have hK := hG.K
  have hS : va_S A s.heap s.heap [] := va_S.rf
  have hl := lv_entry ([.ref (ad 0 0), .int p0, .ref o0]) (n := 4) (Nat.le_of_ble_eq_true rfl)
  rw [lg_entry_eq]
  generalize (lg_sl ([.ref (ad 0 0), .int p0, .ref o0]) ++ List.replicate (4 - (lg_sl ([.ref (ad 0 0), .int p0, .ref o0])).length) Slot.unset).toArray = ls at hl ⊢
  have hl : lv_has ls 4 [(0, .ref (ad 0 0)), (1, .int p0), (2, .ref o0)] := hl
  have hP : mP G.1 (mu Mc o0 (.inl (G.2.1 1, 1, .inr (.inl f0)))) s.heap := hP
  refine lv_aload_n hx hb dL_begin_0 rfl (lv_at hl 2 rfl) ?_
  refine lv_iconst (v := 0) hx hb dL_begin_1 (by decide) ?_
  refine lv_aload_n hx hb dL_begin_2 rfl (lv_at hl 0 rfl) ?_
  refine lv_iload_n hx hb dL_begin_3 rfl (lv_at hl 1 rfl) ?_
  have hPd := mP_dn hMo hP
  have hId := mI_dn hMo hI
  have ho9 : o0 < s.heap.size := mP.lt hP (mu_s (M := Mc) (a := o0))
  have hAd : ∀ q : Nat, s.heap.size ≤ q → aN A o0 q := fun q hq => ⟨hA q hq, fun z => by omega⟩
  have hSd : va_S (aN A o0) s.heap s.heap [] := va_S.rf
  refine mn_calli (vx_runV (As := [.int p0]) (rest := [.int 0, .ref o0]) ⟨hx, hb, hml, hown, hts⟩ (c_X4_begin l G (aN A o0) Mc hl9 st ad p0 hC hV) (cwV 1 hts gL_begin_X4_begin rfl rfl rfl (by decide +kernel) ⟨Nat.le_of_ble_eq_true rfl, Nat.le_of_ble_eq_true rfl⟩) (mPreV (GK_aN hG) hSd hPd hId hAd (hPd (ad 0 0) _ (hC.1 0 0 (ok0 st))) (r := (RX4, TX4, 9)) rfl) rfl rfl hl.1 rfl (lv_room (Nat.le_of_ble_eq_true rfl)) dL_begin_4 ⟨Nat.le_of_ble_eq_true rfl, Nat.le_of_ble_eq_true rfl⟩) hP hI hS (fun E9 ce9 q9 H locs hpx9 hP hS hc9 hv9 hcl9 => ?_) (fun r9 Mw1 H locs hp9 hn9 hP hI hS => ?_)
  · obtain ⟨k9, hk9, hnm9⟩ := hpx9
    have hT : c.exceptionTable.toList = tableOf [(0, 9, 12, 21)] := vx_table (x := yL_begin) B (hts _ List.mem_cons_self)
    have hrf : (m_begin st p0).2.2 = st := rf_begin st p0 (by rw [hk9]; omega)
    match k9, hk9, hnm9 with
    | 0, hk9, hnm9 =>
      cases hnm9
      refine vx_catch (E := "java/lang/IndexOutOfBoundsException") (name := "java/lang/IndexOutOfBoundsException") hown [] ⟨0, 9, 12, 21⟩ [] hT (fun z hz => by cases hz) rfl (by decide) (hts (.classLink RL 21 "java/lang/IndexOutOfBoundsException") (by decide +kernel)) (va_Nw.use rfl (hG.2.1.2.2.2.1 ("java/lang/IndexOutOfBoundsException", "java/lang/IndexOutOfBoundsException") (by decide +kernel))) hc9 hv9 hcl9 ?_
      refine lv_astore_n (lv' := [(3, .ref q9), (0, .ref (ad 0 0)), (1, .int p0), (2, .ref o0)]) hx hb dL_begin_12 rfl hl (by decide) rfl (fun ls hl => ?_)
      refine lv_iconst (v := 1) hx hb dL_begin_13 (by decide) ?_
      refine W.widen (k := 1) (n := 6) (Nat.le_of_ble_eq_true rfl) (Nat.le_of_ble_eq_true rfl) ?_
      refine vx_ret ?_
      exact W.iret (v := 1) hx hb hr (fun t99 ht99 hW99 => ⟨⟨1, (mu Mc o0 (.inl (G.2.1 1, 1, .inr (.inl f0)))), rfl, ⟨ad, Mc, f0, by rw [hk9]; rfl, hMo, rfl, by rw [hrf]; exact hC, rfl, fun z => absurd (hk9.symm.trans z) (by omega)⟩, by rw [ht99]; exact hP, hI⟩, hS.F ht99⟩) hS.2.2 dL_begin_14
    | (k9 + 1), hk9, hnm9 => cases hnm9
  obtain ⟨s9, ad9, hop, hC9, ha9⟩ := hp9
  have h_O : (mu Mw1 o0 (.inl (G.2.1 1, 1, .inr (.inl f0)))) o0 = some (.inl (G.2.1 1, 1, .inr (.inl f0))) := mu_s
  refine lv_i2l (v := r9.toInt64) hx hb dL_begin_7 rfl ?_
  refine m_last hx hb hK hP hI hS 1 h_O rfl (show vp_in 0 1 by unfold vp_in; decide) dL_begin_8 (fun H locs hP hI hS => ?_)
  rw [mu_uu] at hP hI 
  have h_O : (mu Mw1 o0 (.inl (G.2.1 1, 1, .inr (.inl (vf_upd f0 ((0 : Int32).toNatClampNeg) r9.toInt64))))) o0 = some (.inl (G.2.1 1, 1, .inr (.inl (vf_upd f0 ((0 : Int32).toNatClampNeg) r9.toInt64)))) := mu_s
  refine lv_goto (tgt := 15) hx hb dL_begin_9 (by decide) ?_
  refine lv_iconst (v := 0) hx hb dL_begin_15 (by decide) ?_
  refine W.widen (k := 1) (n := 6) (Nat.le_of_ble_eq_true rfl) (Nat.le_of_ble_eq_true rfl) ?_
  refine vx_ret ?_
  exact W.iret (v := 0) hx hb hr (fun t99 ht99 hW99 => ⟨⟨0, (mu Mw1 o0 (.inl (G.2.1 1, 1, .inr (.inl (vf_upd f0 ((0 : Int32).toNatClampNeg) r9.toInt64))))), rfl, ⟨ad9, Mw1, _, by rw [hop]; rfl, hn9, rfl, by rw [hop]; exact hC9, ha9, fun _ => vf_0.trans (by rw [hop])⟩, by rw [ht99]; exact hP, hI⟩, hS.F ht99⟩) hS.2.2 dL_begin_16

theorem rf_worst (st : St) (p0 : Int32) : (m_worst st p0).1 ≠ 0 → (m_worst st p0).2.2 = st := by
  unfold m_worst
  first | exact chk_ref (ref_0) | exact chk_ref (chk_ref (ref_0)) | exact chk_ref (chk_ref (chk_ref (ref_0))) | exact chk_ref (chk_ref (chk_ref (chk_ref (ref_0)))) | exact chk_ref (chk_ref (chk_ref (chk_ref (chk_ref (ref_0))))) | exact chk_ref (chk_ref (chk_ref (chk_ref (chk_ref (chk_ref (ref_0)))))) | exact chk_ref (chk_ref (chk_ref (chk_ref (chk_ref (chk_ref (chk_ref (ref_0)))))))
set_option maxHeartbeats 4000000 in
set_option maxRecDepth 100000 in
theorem c_L_worst (l : Launch) (G : mg) (A : Nat → Prop) (Mc : mw) (hl9 : l.stackTraces = false) (st : St) (ad : adr) (p0 : Int32) (o0 : Nat) {f0 : Nat → Int64} (hMo : Mc o0 = none) (hC : CS G st ad Mc) (hV : Inv st) : vx_Met l yL_worst wsL_worst ({ frames := 8, cells := 2, slots := 12, locals := 125 }) (va_Pc [.ref (ad 0 0), .int p0, .ref o0] (mB G A (mu Mc o0 (.inl (G.2.1 1, 1, .inr (.inl f0)))))) (va_Qi (fun r Mw1 => ∃ (ad1 : adr) (Mc1 : mw) (f1 : Nat → Int64), r = nI (m_worst st p0).1 ∧ Mc1 o0 = none ∧ Mw1 = mu Mc1 o0 (.inl (G.2.1 1, 1, .inr (.inl f1))) ∧ CS G (m_worst st p0).2.2 ad1 Mc1 ∧ ad1 0 0 = ad 0 0 ∧ ((m_worst st p0).1 = 0 → f1 0 = (m_worst st p0).2.1.toInt64)) (mE G A) A) (xX (fun _ => False) G A (mu Mc o0 (.inl (G.2.1 1, 1, .inr (.inl f0))))) 2 12 A := by
  refine vx_ofWH (cc := cL_worst) (maxL := 4) (ret := (some .int)) (by decide) rfl ?_
  intro p e s m args below meth c s₁ B hml hv
  obtain ⟨rfl, hG, hP, hI, hA⟩ := hv
  have hx := B.exec
  have hb := B.bytes
  have hr := B.returns
  have hts := atoms_spec (ws := wsL_worst) B.pre
  have hown : s.vm.findClass RL = some m.cls := findClass_of_methodNamed B.named
  have hlocks := B.notSynchronized
  have hK := hG.K
  have hS : va_S A s.heap s.heap [] := va_S.rf
  have hl := lv_entry ([.ref (ad 0 0), .int p0, .ref o0]) (n := 4) (Nat.le_of_ble_eq_true rfl)
  rw [lg_entry_eq]
  generalize (lg_sl ([.ref (ad 0 0), .int p0, .ref o0]) ++ List.replicate (4 - (lg_sl ([.ref (ad 0 0), .int p0, .ref o0])).length) Slot.unset).toArray = ls at hl ⊢
  have hl : lv_has ls 4 [(0, .ref (ad 0 0)), (1, .int p0), (2, .ref o0)] := hl
  have hP : mP G.1 (mu Mc o0 (.inl (G.2.1 1, 1, .inr (.inl f0)))) s.heap := hP
  refine lv_aload_n hx hb dL_worst_0 rfl (lv_at hl 2 rfl) ?_
  refine lv_iconst (v := 0) hx hb dL_worst_1 (by decide) ?_
  refine lv_aload_n hx hb dL_worst_2 rfl (lv_at hl 0 rfl) ?_
  refine lv_iload_n hx hb dL_worst_3 rfl (lv_at hl 1 rfl) ?_
  have hPd := mP_dn hMo hP
  have hId := mI_dn hMo hI
  have ho9 : o0 < s.heap.size := mP.lt hP (mu_s (M := Mc) (a := o0))
  have hAd : ∀ q : Nat, s.heap.size ≤ q → aN A o0 q := fun q hq => ⟨hA q hq, fun z => by omega⟩
  have hSd : va_S (aN A o0) s.heap s.heap [] := va_S.rf
  refine mn_calli (vx_runV (As := [.int p0]) (rest := [.int 0, .ref o0]) ⟨hx, hb, hml, hown, hts⟩ (c_X4_worst l G (aN A o0) Mc hl9 st ad p0 hC hV) (cwV 1 hts gL_worst_X4_worst rfl rfl rfl (by decide +kernel) ⟨Nat.le_of_ble_eq_true rfl, Nat.le_of_ble_eq_true rfl⟩) (mPreV (GK_aN hG) hSd hPd hId hAd (hPd (ad 0 0) _ (hC.1 0 0 (ok0 st))) (r := (RX4, TX4, 9)) rfl) rfl rfl hl.1 rfl (lv_room (Nat.le_of_ble_eq_true rfl)) dL_worst_4 ⟨Nat.le_of_ble_eq_true rfl, Nat.le_of_ble_eq_true rfl⟩) hP hI hS (fun E9 ce9 q9 H locs hpx9 hP hS hc9 hv9 hcl9 => ?_) (fun r9 Mw1 H locs hp9 hn9 hP hI hS => ?_)
  · obtain ⟨k9, hk9, hnm9⟩ := hpx9
    have hT : c.exceptionTable.toList = tableOf [(0, 9, 12, 21), (0, 9, 15, 34)] := vx_table (x := yL_worst) B (hts _ List.mem_cons_self)
    have hrf : (m_worst st p0).2.2 = st := rf_worst st p0 (by rw [hk9]; omega)
    match k9, hk9, hnm9 with
    | 0, hk9, hnm9 =>
      cases hnm9
      refine vx_catch (E := "java/lang/IndexOutOfBoundsException") (name := "java/lang/IndexOutOfBoundsException") hown [] ⟨0, 9, 12, 21⟩ [⟨0, 9, 15, 34⟩] hT (fun z hz => by cases hz) rfl (by decide) (hts (.classLink RL 21 "java/lang/IndexOutOfBoundsException") (by decide +kernel)) (va_Nw.use rfl (hG.2.1.2.2.2.1 ("java/lang/IndexOutOfBoundsException", "java/lang/IndexOutOfBoundsException") (by decide +kernel))) hc9 hv9 hcl9 ?_
      refine lv_astore_n (lv' := [(3, .ref q9), (0, .ref (ad 0 0)), (1, .int p0), (2, .ref o0)]) hx hb dL_worst_12 rfl hl (by decide) rfl (fun ls hl => ?_)
      refine lv_iconst (v := 1) hx hb dL_worst_13 (by decide) ?_
      refine W.widen (k := 2) (n := 12) (Nat.le_of_ble_eq_true rfl) (Nat.le_of_ble_eq_true rfl) ?_
      refine vx_ret ?_
      exact W.iret (v := 1) hx hb hr (fun t99 ht99 hW99 => ⟨⟨1, (mu Mc o0 (.inl (G.2.1 1, 1, .inr (.inl f0)))), rfl, ⟨ad, Mc, f0, by rw [hk9]; rfl, hMo, rfl, by rw [hrf]; exact hC, rfl, fun z => absurd (hk9.symm.trans z) (by omega)⟩, by rw [ht99]; exact hP, hI⟩, hS.F ht99⟩) hS.2.2 dL_worst_14
    | 1, hk9, hnm9 =>
      cases hnm9
      refine vx_catch (E := "java/util/NoSuchElementException") (name := "java/util/NoSuchElementException") hown [⟨0, 9, 12, 21⟩] ⟨0, 9, 15, 34⟩ [] hT (List.forall_mem_cons.mpr ⟨Or.inr ⟨by decide, "java/lang/IndexOutOfBoundsException", hts (.classLink RL 21 "java/lang/IndexOutOfBoundsException") (by decide +kernel), hG.2.1.2.2.2.2.1 ("java/util/NoSuchElementException", "java/lang/IndexOutOfBoundsException") (by decide +kernel)⟩, (fun z hz => by cases hz)⟩) rfl (by decide) (hts (.classLink RL 34 "java/util/NoSuchElementException") (by decide +kernel)) (va_Nw.use rfl (hG.2.1.2.2.2.1 ("java/util/NoSuchElementException", "java/util/NoSuchElementException") (by decide +kernel))) hc9 hv9 hcl9 ?_
      refine lv_astore_n (lv' := [(3, .ref q9), (0, .ref (ad 0 0)), (1, .int p0), (2, .ref o0)]) hx hb dL_worst_15 rfl hl (by decide) rfl (fun ls hl => ?_)
      refine lv_iconst (v := 2) hx hb dL_worst_16 (by decide) ?_
      refine W.widen (k := 2) (n := 12) (Nat.le_of_ble_eq_true rfl) (Nat.le_of_ble_eq_true rfl) ?_
      refine vx_ret ?_
      exact W.iret (v := 2) hx hb hr (fun t99 ht99 hW99 => ⟨⟨2, (mu Mc o0 (.inl (G.2.1 1, 1, .inr (.inl f0)))), rfl, ⟨ad, Mc, f0, by rw [hk9]; rfl, hMo, rfl, by rw [hrf]; exact hC, rfl, fun z => absurd (hk9.symm.trans z) (by omega)⟩, by rw [ht99]; exact hP, hI⟩, hS.F ht99⟩) hS.2.2 dL_worst_17
    | (k9 + 2), hk9, hnm9 => cases hnm9
  obtain ⟨s9, ad9, hop, hC9, ha9⟩ := hp9
  have h_O : (mu Mw1 o0 (.inl (G.2.1 1, 1, .inr (.inl f0)))) o0 = some (.inl (G.2.1 1, 1, .inr (.inl f0))) := mu_s
  refine lv_i2l (v := r9.toInt64) hx hb dL_worst_7 rfl ?_
  refine m_last hx hb hK hP hI hS 1 h_O rfl (show vp_in 0 1 by unfold vp_in; decide) dL_worst_8 (fun H locs hP hI hS => ?_)
  rw [mu_uu] at hP hI 
  have h_O : (mu Mw1 o0 (.inl (G.2.1 1, 1, .inr (.inl (vf_upd f0 ((0 : Int32).toNatClampNeg) r9.toInt64))))) o0 = some (.inl (G.2.1 1, 1, .inr (.inl (vf_upd f0 ((0 : Int32).toNatClampNeg) r9.toInt64)))) := mu_s
  refine lv_goto (tgt := 18) hx hb dL_worst_9 (by decide) ?_
  refine lv_iconst (v := 0) hx hb dL_worst_18 (by decide) ?_
  refine W.widen (k := 2) (n := 12) (Nat.le_of_ble_eq_true rfl) (Nat.le_of_ble_eq_true rfl) ?_
  refine vx_ret ?_
  exact W.iret (v := 0) hx hb hr (fun t99 ht99 hW99 => ⟨⟨0, (mu Mw1 o0 (.inl (G.2.1 1, 1, .inr (.inl (vf_upd f0 ((0 : Int32).toNatClampNeg) r9.toInt64))))), rfl, ⟨ad9, Mw1, _, by rw [hop]; rfl, hn9, rfl, by rw [hop]; exact hC9, ha9, fun _ => vf_0.trans (by rw [hop])⟩, by rw [ht99]; exact hP, hI⟩, hS.F ht99⟩) hS.2.2 dL_worst_19

theorem rf_grade (st : St) (p0 : Int32) : (m_grade st p0).1 ≠ 0 → (m_grade st p0).2.2 = st := by
  unfold m_grade
  first | exact chk_ref (ref_0) | exact chk_ref (chk_ref (ref_0)) | exact chk_ref (chk_ref (chk_ref (ref_0))) | exact chk_ref (chk_ref (chk_ref (chk_ref (ref_0)))) | exact chk_ref (chk_ref (chk_ref (chk_ref (chk_ref (ref_0))))) | exact chk_ref (chk_ref (chk_ref (chk_ref (chk_ref (chk_ref (ref_0)))))) | exact chk_ref (chk_ref (chk_ref (chk_ref (chk_ref (chk_ref (chk_ref (ref_0)))))))
set_option maxHeartbeats 4000000 in
set_option maxRecDepth 100000 in
theorem c_L_grade (l : Launch) (G : mg) (A : Nat → Prop) (Mc : mw) (hl9 : l.stackTraces = false) (st : St) (ad : adr) (p0 : Int32) (o0 : Nat) {f0 : Nat → Int64} (hMo : Mc o0 = none) (hC : CS G st ad Mc) (hV : Inv st) : vx_Met l yL_grade wsL_grade ({ frames := 8, cells := 2, slots := 12, locals := 125 }) (va_Pc [.ref (ad 0 0), .int p0, .ref o0] (mB G A (mu Mc o0 (.inl (G.2.1 1, 1, .inr (.inl f0)))))) (va_Qi (fun r Mw1 => ∃ (ad1 : adr) (Mc1 : mw) (f1 : Nat → Int64), r = nI (m_grade st p0).1 ∧ Mc1 o0 = none ∧ Mw1 = mu Mc1 o0 (.inl (G.2.1 1, 1, .inr (.inl f1))) ∧ CS G (m_grade st p0).2.2 ad1 Mc1 ∧ ad1 0 0 = ad 0 0 ∧ ((m_grade st p0).1 = 0 → f1 0 = (m_grade st p0).2.1.toInt64)) (mE G A) A) (xX (fun _ => False) G A (mu Mc o0 (.inl (G.2.1 1, 1, .inr (.inl f0))))) 2 12 A := by
  refine vx_ofWH (cc := cL_grade) (maxL := 4) (ret := (some .int)) (by decide) rfl ?_
  intro p e s m args below meth c s₁ B hml hv
  obtain ⟨rfl, hG, hP, hI, hA⟩ := hv
  have hx := B.exec
  have hb := B.bytes
  have hr := B.returns
  have hts := atoms_spec (ws := wsL_grade) B.pre
  have hown : s.vm.findClass RL = some m.cls := findClass_of_methodNamed B.named
  have hlocks := B.notSynchronized
  have hK := hG.K
  have hS : va_S A s.heap s.heap [] := va_S.rf
  have hl := lv_entry ([.ref (ad 0 0), .int p0, .ref o0]) (n := 4) (Nat.le_of_ble_eq_true rfl)
  rw [lg_entry_eq]
  generalize (lg_sl ([.ref (ad 0 0), .int p0, .ref o0]) ++ List.replicate (4 - (lg_sl ([.ref (ad 0 0), .int p0, .ref o0])).length) Slot.unset).toArray = ls at hl ⊢
  have hl : lv_has ls 4 [(0, .ref (ad 0 0)), (1, .int p0), (2, .ref o0)] := hl
  have hP : mP G.1 (mu Mc o0 (.inl (G.2.1 1, 1, .inr (.inl f0)))) s.heap := hP
  refine lv_aload_n hx hb dL_grade_0 rfl (lv_at hl 2 rfl) ?_
  refine lv_iconst (v := 0) hx hb dL_grade_1 (by decide) ?_
  refine lv_aload_n hx hb dL_grade_2 rfl (lv_at hl 0 rfl) ?_
  refine lv_iload_n hx hb dL_grade_3 rfl (lv_at hl 1 rfl) ?_
  have hPd := mP_dn hMo hP
  have hId := mI_dn hMo hI
  have ho9 : o0 < s.heap.size := mP.lt hP (mu_s (M := Mc) (a := o0))
  have hAd : ∀ q : Nat, s.heap.size ≤ q → aN A o0 q := fun q hq => ⟨hA q hq, fun z => by omega⟩
  have hSd : va_S (aN A o0) s.heap s.heap [] := va_S.rf
  refine mn_calli (vx_runV (As := [.int p0]) (rest := [.int 0, .ref o0]) ⟨hx, hb, hml, hown, hts⟩ (c_X4_grade l G (aN A o0) Mc hl9 st ad p0 hC hV) (cwV 1 hts gL_grade_X4_grade rfl rfl rfl (by decide +kernel) ⟨Nat.le_of_ble_eq_true rfl, Nat.le_of_ble_eq_true rfl⟩) (mPreV (GK_aN hG) hSd hPd hId hAd (hPd (ad 0 0) _ (hC.1 0 0 (ok0 st))) (r := (RX4, TX4, 9)) rfl) rfl rfl hl.1 rfl (lv_room (Nat.le_of_ble_eq_true rfl)) dL_grade_4 ⟨Nat.le_of_ble_eq_true rfl, Nat.le_of_ble_eq_true rfl⟩) hP hI hS (fun E9 ce9 q9 H locs hpx9 hP hS hc9 hv9 hcl9 => ?_) (fun r9 Mw1 H locs hp9 hn9 hP hI hS => ?_)
  · obtain ⟨k9, hk9, hnm9⟩ := hpx9
    have hT : c.exceptionTable.toList = tableOf [(0, 9, 12, 21), (0, 9, 15, 23)] := vx_table (x := yL_grade) B (hts _ List.mem_cons_self)
    have hrf : (m_grade st p0).2.2 = st := rf_grade st p0 (by rw [hk9]; omega)
    match k9, hk9, hnm9 with
    | 0, hk9, hnm9 =>
      cases hnm9
      refine vx_catch (E := "java/lang/IndexOutOfBoundsException") (name := "java/lang/IndexOutOfBoundsException") hown [] ⟨0, 9, 12, 21⟩ [⟨0, 9, 15, 23⟩] hT (fun z hz => by cases hz) rfl (by decide) (hts (.classLink RL 21 "java/lang/IndexOutOfBoundsException") (by decide +kernel)) (va_Nw.use rfl (hG.2.1.2.2.2.1 ("java/lang/IndexOutOfBoundsException", "java/lang/IndexOutOfBoundsException") (by decide +kernel))) hc9 hv9 hcl9 ?_
      refine lv_astore_n (lv' := [(3, .ref q9), (0, .ref (ad 0 0)), (1, .int p0), (2, .ref o0)]) hx hb dL_grade_12 rfl hl (by decide) rfl (fun ls hl => ?_)
      refine lv_iconst (v := 1) hx hb dL_grade_13 (by decide) ?_
      refine W.widen (k := 2) (n := 12) (Nat.le_of_ble_eq_true rfl) (Nat.le_of_ble_eq_true rfl) ?_
      refine vx_ret ?_
      exact W.iret (v := 1) hx hb hr (fun t99 ht99 hW99 => ⟨⟨1, (mu Mc o0 (.inl (G.2.1 1, 1, .inr (.inl f0)))), rfl, ⟨ad, Mc, f0, by rw [hk9]; rfl, hMo, rfl, by rw [hrf]; exact hC, rfl, fun z => absurd (hk9.symm.trans z) (by omega)⟩, by rw [ht99]; exact hP, hI⟩, hS.F ht99⟩) hS.2.2 dL_grade_14
    | 1, hk9, hnm9 =>
      cases hnm9
      refine vx_catch (E := "java/lang/UnsupportedOperationException") (name := "java/lang/UnsupportedOperationException") hown [⟨0, 9, 12, 21⟩] ⟨0, 9, 15, 23⟩ [] hT (List.forall_mem_cons.mpr ⟨Or.inr ⟨by decide, "java/lang/IndexOutOfBoundsException", hts (.classLink RL 21 "java/lang/IndexOutOfBoundsException") (by decide +kernel), hG.2.1.2.2.2.2.1 ("java/lang/UnsupportedOperationException", "java/lang/IndexOutOfBoundsException") (by decide +kernel)⟩, (fun z hz => by cases hz)⟩) rfl (by decide) (hts (.classLink RL 23 "java/lang/UnsupportedOperationException") (by decide +kernel)) (va_Nw.use rfl (hG.2.1.2.2.2.1 ("java/lang/UnsupportedOperationException", "java/lang/UnsupportedOperationException") (by decide +kernel))) hc9 hv9 hcl9 ?_
      refine lv_astore_n (lv' := [(3, .ref q9), (0, .ref (ad 0 0)), (1, .int p0), (2, .ref o0)]) hx hb dL_grade_15 rfl hl (by decide) rfl (fun ls hl => ?_)
      refine lv_iconst (v := 2) hx hb dL_grade_16 (by decide) ?_
      refine W.widen (k := 2) (n := 12) (Nat.le_of_ble_eq_true rfl) (Nat.le_of_ble_eq_true rfl) ?_
      refine vx_ret ?_
      exact W.iret (v := 2) hx hb hr (fun t99 ht99 hW99 => ⟨⟨2, (mu Mc o0 (.inl (G.2.1 1, 1, .inr (.inl f0)))), rfl, ⟨ad, Mc, f0, by rw [hk9]; rfl, hMo, rfl, by rw [hrf]; exact hC, rfl, fun z => absurd (hk9.symm.trans z) (by omega)⟩, by rw [ht99]; exact hP, hI⟩, hS.F ht99⟩) hS.2.2 dL_grade_17
    | (k9 + 2), hk9, hnm9 => cases hnm9
  obtain ⟨s9, ad9, hop, hC9, ha9⟩ := hp9
  have h_O : (mu Mw1 o0 (.inl (G.2.1 1, 1, .inr (.inl f0)))) o0 = some (.inl (G.2.1 1, 1, .inr (.inl f0))) := mu_s
  refine lv_i2l (v := r9.toInt64) hx hb dL_grade_7 rfl ?_
  refine m_last hx hb hK hP hI hS 1 h_O rfl (show vp_in 0 1 by unfold vp_in; decide) dL_grade_8 (fun H locs hP hI hS => ?_)
  rw [mu_uu] at hP hI 
  have h_O : (mu Mw1 o0 (.inl (G.2.1 1, 1, .inr (.inl (vf_upd f0 ((0 : Int32).toNatClampNeg) r9.toInt64))))) o0 = some (.inl (G.2.1 1, 1, .inr (.inl (vf_upd f0 ((0 : Int32).toNatClampNeg) r9.toInt64)))) := mu_s
  refine lv_goto (tgt := 18) hx hb dL_grade_9 (by decide) ?_
  refine lv_iconst (v := 0) hx hb dL_grade_18 (by decide) ?_
  refine W.widen (k := 2) (n := 12) (Nat.le_of_ble_eq_true rfl) (Nat.le_of_ble_eq_true rfl) ?_
  refine vx_ret ?_
  exact W.iret (v := 0) hx hb hr (fun t99 ht99 hW99 => ⟨⟨0, (mu Mw1 o0 (.inl (G.2.1 1, 1, .inr (.inl (vf_upd f0 ((0 : Int32).toNatClampNeg) r9.toInt64))))), rfl, ⟨ad9, Mw1, _, by rw [hop]; rfl, hn9, rfl, by rw [hop]; exact hC9, ha9, fun _ => vf_0.trans (by rw [hop])⟩, by rw [ht99]; exact hP, hI⟩, hS.F ht99⟩) hS.2.2 dL_grade_19

theorem rf_certify (st : St) (p0 : Int32) : (m_certify st p0).1 ≠ 0 → (m_certify st p0).2.2 = st := by
  unfold m_certify
  first | exact chk_ref (ref_0) | exact chk_ref (chk_ref (ref_0)) | exact chk_ref (chk_ref (chk_ref (ref_0))) | exact chk_ref (chk_ref (chk_ref (chk_ref (ref_0)))) | exact chk_ref (chk_ref (chk_ref (chk_ref (chk_ref (ref_0))))) | exact chk_ref (chk_ref (chk_ref (chk_ref (chk_ref (chk_ref (ref_0)))))) | exact chk_ref (chk_ref (chk_ref (chk_ref (chk_ref (chk_ref (chk_ref (ref_0)))))))
set_option maxHeartbeats 4000000 in
set_option maxRecDepth 100000 in
theorem c_L_certify (l : Launch) (G : mg) (A : Nat → Prop) (Mc : mw) (hl9 : l.stackTraces = false) (st : St) (ad : adr) (p0 : Int32) (o0 : Nat) {f0 : Nat → Int64} (hMo : Mc o0 = none) (hC : CS G st ad Mc) (hV : Inv st) : vx_Met l yL_certify wsL_certify ({ frames := 8, cells := 3, slots := 18, locals := 125 }) (va_Pc [.ref (ad 0 0), .int p0, .ref o0] (mB G A (mu Mc o0 (.inl (G.2.1 1, 1, .inr (.inl f0)))))) (va_Qi (fun r Mw1 => ∃ (ad1 : adr) (Mc1 : mw) (f1 : Nat → Int64), r = nI (m_certify st p0).1 ∧ Mc1 o0 = none ∧ Mw1 = mu Mc1 o0 (.inl (G.2.1 1, 1, .inr (.inl f1))) ∧ CS G (m_certify st p0).2.2 ad1 Mc1 ∧ ad1 0 0 = ad 0 0 ∧ ((m_certify st p0).1 = 0 → f1 0 = (m_certify st p0).2.1.toInt64)) (mE G A) A) (xX (fun _ => False) G A (mu Mc o0 (.inl (G.2.1 1, 1, .inr (.inl f0))))) 3 18 A := by
  refine vx_ofWH (cc := cL_certify) (maxL := 4) (ret := (some .int)) (by decide) rfl ?_
  intro p e s m args below meth c s₁ B hml hv
  obtain ⟨rfl, hG, hP, hI, hA⟩ := hv
  have hx := B.exec
  have hb := B.bytes
  have hr := B.returns
  have hts := atoms_spec (ws := wsL_certify) B.pre
  have hown : s.vm.findClass RL = some m.cls := findClass_of_methodNamed B.named
  have hlocks := B.notSynchronized
  have hK := hG.K
  have hS : va_S A s.heap s.heap [] := va_S.rf
  have hl := lv_entry ([.ref (ad 0 0), .int p0, .ref o0]) (n := 4) (Nat.le_of_ble_eq_true rfl)
  rw [lg_entry_eq]
  generalize (lg_sl ([.ref (ad 0 0), .int p0, .ref o0]) ++ List.replicate (4 - (lg_sl ([.ref (ad 0 0), .int p0, .ref o0])).length) Slot.unset).toArray = ls at hl ⊢
  have hl : lv_has ls 4 [(0, .ref (ad 0 0)), (1, .int p0), (2, .ref o0)] := hl
  have hP : mP G.1 (mu Mc o0 (.inl (G.2.1 1, 1, .inr (.inl f0)))) s.heap := hP
  refine lv_aload_n hx hb dL_certify_0 rfl (lv_at hl 2 rfl) ?_
  refine lv_iconst (v := 0) hx hb dL_certify_1 (by decide) ?_
  refine lv_aload_n hx hb dL_certify_2 rfl (lv_at hl 0 rfl) ?_
  refine lv_iload_n hx hb dL_certify_3 rfl (lv_at hl 1 rfl) ?_
  have hPd := mP_dn hMo hP
  have hId := mI_dn hMo hI
  have ho9 : o0 < s.heap.size := mP.lt hP (mu_s (M := Mc) (a := o0))
  have hAd : ∀ q : Nat, s.heap.size ≤ q → aN A o0 q := fun q hq => ⟨hA q hq, fun z => by omega⟩
  have hSd : va_S (aN A o0) s.heap s.heap [] := va_S.rf
  refine mn_calli (vx_runV (As := [.int p0]) (rest := [.int 0, .ref o0]) ⟨hx, hb, hml, hown, hts⟩ (c_X4_certify l G (aN A o0) Mc hl9 st ad p0 hC hV) (cwV 1 hts gL_certify_X4_certify rfl rfl rfl (by decide +kernel) ⟨Nat.le_of_ble_eq_true rfl, Nat.le_of_ble_eq_true rfl⟩) (mPreV (GK_aN hG) hSd hPd hId hAd (hPd (ad 0 0) _ (hC.1 0 0 (ok0 st))) (r := (RX4, TX4, 9)) rfl) rfl rfl hl.1 rfl (lv_room (Nat.le_of_ble_eq_true rfl)) dL_certify_4 ⟨Nat.le_of_ble_eq_true rfl, Nat.le_of_ble_eq_true rfl⟩) hP hI hS (fun E9 ce9 q9 H locs hpx9 hP hS hc9 hv9 hcl9 => ?_) (fun r9 Mw1 H locs hp9 hn9 hP hI hS => ?_)
  · obtain ⟨k9, hk9, hnm9⟩ := hpx9
    have hT : c.exceptionTable.toList = tableOf [(0, 9, 12, 21), (0, 9, 15, 23)] := vx_table (x := yL_certify) B (hts _ List.mem_cons_self)
    have hrf : (m_certify st p0).2.2 = st := rf_certify st p0 (by rw [hk9]; omega)
    match k9, hk9, hnm9 with
    | 0, hk9, hnm9 =>
      cases hnm9
      refine vx_catch (E := "java/lang/IndexOutOfBoundsException") (name := "java/lang/IndexOutOfBoundsException") hown [] ⟨0, 9, 12, 21⟩ [⟨0, 9, 15, 23⟩] hT (fun z hz => by cases hz) rfl (by decide) (hts (.classLink RL 21 "java/lang/IndexOutOfBoundsException") (by decide +kernel)) (va_Nw.use rfl (hG.2.1.2.2.2.1 ("java/lang/IndexOutOfBoundsException", "java/lang/IndexOutOfBoundsException") (by decide +kernel))) hc9 hv9 hcl9 ?_
      refine lv_astore_n (lv' := [(3, .ref q9), (0, .ref (ad 0 0)), (1, .int p0), (2, .ref o0)]) hx hb dL_certify_12 rfl hl (by decide) rfl (fun ls hl => ?_)
      refine lv_iconst (v := 1) hx hb dL_certify_13 (by decide) ?_
      refine W.widen (k := 3) (n := 18) (Nat.le_of_ble_eq_true rfl) (Nat.le_of_ble_eq_true rfl) ?_
      refine vx_ret ?_
      exact W.iret (v := 1) hx hb hr (fun t99 ht99 hW99 => ⟨⟨1, (mu Mc o0 (.inl (G.2.1 1, 1, .inr (.inl f0)))), rfl, ⟨ad, Mc, f0, by rw [hk9]; rfl, hMo, rfl, by rw [hrf]; exact hC, rfl, fun z => absurd (hk9.symm.trans z) (by omega)⟩, by rw [ht99]; exact hP, hI⟩, hS.F ht99⟩) hS.2.2 dL_certify_14
    | 1, hk9, hnm9 =>
      cases hnm9
      refine vx_catch (E := "java/lang/UnsupportedOperationException") (name := "java/lang/UnsupportedOperationException") hown [⟨0, 9, 12, 21⟩] ⟨0, 9, 15, 23⟩ [] hT (List.forall_mem_cons.mpr ⟨Or.inr ⟨by decide, "java/lang/IndexOutOfBoundsException", hts (.classLink RL 21 "java/lang/IndexOutOfBoundsException") (by decide +kernel), hG.2.1.2.2.2.2.1 ("java/lang/UnsupportedOperationException", "java/lang/IndexOutOfBoundsException") (by decide +kernel)⟩, (fun z hz => by cases hz)⟩) rfl (by decide) (hts (.classLink RL 23 "java/lang/UnsupportedOperationException") (by decide +kernel)) (va_Nw.use rfl (hG.2.1.2.2.2.1 ("java/lang/UnsupportedOperationException", "java/lang/UnsupportedOperationException") (by decide +kernel))) hc9 hv9 hcl9 ?_
      refine lv_astore_n (lv' := [(3, .ref q9), (0, .ref (ad 0 0)), (1, .int p0), (2, .ref o0)]) hx hb dL_certify_15 rfl hl (by decide) rfl (fun ls hl => ?_)
      refine lv_iconst (v := 2) hx hb dL_certify_16 (by decide) ?_
      refine W.widen (k := 3) (n := 18) (Nat.le_of_ble_eq_true rfl) (Nat.le_of_ble_eq_true rfl) ?_
      refine vx_ret ?_
      exact W.iret (v := 2) hx hb hr (fun t99 ht99 hW99 => ⟨⟨2, (mu Mc o0 (.inl (G.2.1 1, 1, .inr (.inl f0)))), rfl, ⟨ad, Mc, f0, by rw [hk9]; rfl, hMo, rfl, by rw [hrf]; exact hC, rfl, fun z => absurd (hk9.symm.trans z) (by omega)⟩, by rw [ht99]; exact hP, hI⟩, hS.F ht99⟩) hS.2.2 dL_certify_17
    | (k9 + 2), hk9, hnm9 => cases hnm9
  obtain ⟨s9, ad9, hop, hC9, ha9⟩ := hp9
  have h_O : (mu Mw1 o0 (.inl (G.2.1 1, 1, .inr (.inl f0)))) o0 = some (.inl (G.2.1 1, 1, .inr (.inl f0))) := mu_s
  refine lv_i2l (v := r9.toInt64) hx hb dL_certify_7 rfl ?_
  refine m_last hx hb hK hP hI hS 1 h_O rfl (show vp_in 0 1 by unfold vp_in; decide) dL_certify_8 (fun H locs hP hI hS => ?_)
  rw [mu_uu] at hP hI 
  have h_O : (mu Mw1 o0 (.inl (G.2.1 1, 1, .inr (.inl (vf_upd f0 ((0 : Int32).toNatClampNeg) r9.toInt64))))) o0 = some (.inl (G.2.1 1, 1, .inr (.inl (vf_upd f0 ((0 : Int32).toNatClampNeg) r9.toInt64)))) := mu_s
  refine lv_goto (tgt := 18) hx hb dL_certify_9 (by decide) ?_
  refine lv_iconst (v := 0) hx hb dL_certify_18 (by decide) ?_
  refine W.widen (k := 3) (n := 18) (Nat.le_of_ble_eq_true rfl) (Nat.le_of_ble_eq_true rfl) ?_
  refine vx_ret ?_
  exact W.iret (v := 0) hx hb hr (fun t99 ht99 hW99 => ⟨⟨0, (mu Mw1 o0 (.inl (G.2.1 1, 1, .inr (.inl (vf_upd f0 ((0 : Int32).toNatClampNeg) r9.toInt64))))), rfl, ⟨ad9, Mw1, _, by rw [hop]; rfl, hn9, rfl, by rw [hop]; exact hC9, ha9, fun _ => vf_0.trans (by rw [hop])⟩, by rw [ht99]; exact hP, hI⟩, hS.F ht99⟩) hS.2.2 dL_certify_19

theorem rf_isCertified (st : St) (p0 : Int32) : (m_isCertified st p0).1 ≠ 0 → (m_isCertified st p0).2.2 = st := by
  unfold m_isCertified
  first | exact chk_ref (ref_0) | exact chk_ref (chk_ref (ref_0)) | exact chk_ref (chk_ref (chk_ref (ref_0))) | exact chk_ref (chk_ref (chk_ref (chk_ref (ref_0)))) | exact chk_ref (chk_ref (chk_ref (chk_ref (chk_ref (ref_0))))) | exact chk_ref (chk_ref (chk_ref (chk_ref (chk_ref (chk_ref (ref_0)))))) | exact chk_ref (chk_ref (chk_ref (chk_ref (chk_ref (chk_ref (chk_ref (ref_0)))))))
set_option maxHeartbeats 4000000 in
set_option maxRecDepth 100000 in
theorem c_L_isCertified (l : Launch) (G : mg) (A : Nat → Prop) (Mc : mw) (hl9 : l.stackTraces = false) (st : St) (ad : adr) (p0 : Int32) (o0 : Nat) {f0 : Nat → Int64} (hMo : Mc o0 = none) (hC : CS G st ad Mc) (hV : Inv st) : vx_Met l yL_isCertified wsL_isCertified ({ frames := 8, cells := 1, slots := 6, locals := 124 }) (va_Pc [.ref (ad 0 0), .int p0, .ref o0] (mB G A (mu Mc o0 (.inl (G.2.1 1, 1, .inr (.inl f0)))))) (va_Qi (fun r Mw1 => ∃ (ad1 : adr) (Mc1 : mw) (f1 : Nat → Int64), r = nI (m_isCertified st p0).1 ∧ Mc1 o0 = none ∧ Mw1 = mu Mc1 o0 (.inl (G.2.1 1, 1, .inr (.inl f1))) ∧ CS G (m_isCertified st p0).2.2 ad1 Mc1 ∧ ad1 0 0 = ad 0 0 ∧ ((m_isCertified st p0).1 = 0 → f1 0 = (m_isCertified st p0).2.1.toInt64)) (mE G A) A) (xX (fun _ => False) G A (mu Mc o0 (.inl (G.2.1 1, 1, .inr (.inl f0))))) 1 6 A := by
  refine vx_ofWH (cc := cL_isCertified) (maxL := 4) (ret := (some .int)) (by decide) rfl ?_
  intro p e s m args below meth c s₁ B hml hv
  obtain ⟨rfl, hG, hP, hI, hA⟩ := hv
  have hx := B.exec
  have hb := B.bytes
  have hr := B.returns
  have hts := atoms_spec (ws := wsL_isCertified) B.pre
  have hown : s.vm.findClass RL = some m.cls := findClass_of_methodNamed B.named
  have hlocks := B.notSynchronized
  have hK := hG.K
  have hS : va_S A s.heap s.heap [] := va_S.rf
  have hl := lv_entry ([.ref (ad 0 0), .int p0, .ref o0]) (n := 4) (Nat.le_of_ble_eq_true rfl)
  rw [lg_entry_eq]
  generalize (lg_sl ([.ref (ad 0 0), .int p0, .ref o0]) ++ List.replicate (4 - (lg_sl ([.ref (ad 0 0), .int p0, .ref o0])).length) Slot.unset).toArray = ls at hl ⊢
  have hl : lv_has ls 4 [(0, .ref (ad 0 0)), (1, .int p0), (2, .ref o0)] := hl
  have hP : mP G.1 (mu Mc o0 (.inl (G.2.1 1, 1, .inr (.inl f0)))) s.heap := hP
  refine lv_aload_n hx hb dL_isCertified_0 rfl (lv_at hl 2 rfl) ?_
  refine lv_iconst (v := 0) hx hb dL_isCertified_1 (by decide) ?_
  refine lv_aload_n hx hb dL_isCertified_2 rfl (lv_at hl 0 rfl) ?_
  refine lv_iload_n hx hb dL_isCertified_3 rfl (lv_at hl 1 rfl) ?_
  have hPd := mP_dn hMo hP
  have hId := mI_dn hMo hI
  have ho9 : o0 < s.heap.size := mP.lt hP (mu_s (M := Mc) (a := o0))
  have hAd : ∀ q : Nat, s.heap.size ≤ q → aN A o0 q := fun q hq => ⟨hA q hq, fun z => by omega⟩
  have hSd : va_S (aN A o0) s.heap s.heap [] := va_S.rf
  refine mn_calli (vx_runV (As := [.int p0]) (rest := [.int 0, .ref o0]) ⟨hx, hb, hml, hown, hts⟩ (c_X4_isCertified l G (aN A o0) Mc hl9 st ad p0 hC hV) (cwV 1 hts gL_isCertified_X4_isCertified rfl rfl rfl (by decide +kernel) ⟨Nat.le_of_ble_eq_true rfl, Nat.le_of_ble_eq_true rfl⟩) (mPreV (GK_aN hG) hSd hPd hId hAd (hPd (ad 0 0) _ (hC.1 0 0 (ok0 st))) (r := (RX4, TX4, 9)) rfl) rfl rfl hl.1 rfl (lv_room (Nat.le_of_ble_eq_true rfl)) dL_isCertified_4 ⟨Nat.le_of_ble_eq_true rfl, Nat.le_of_ble_eq_true rfl⟩) hP hI hS (fun E9 ce9 q9 H locs hpx9 hP hS hc9 hv9 hcl9 => ?_) (fun r9 Mw1 H locs hp9 hn9 hP hI hS => ?_)
  · obtain ⟨k9, hk9, hnm9⟩ := hpx9
    have hT : c.exceptionTable.toList = tableOf [(0, 16, 19, 21)] := vx_table (x := yL_isCertified) B (hts _ List.mem_cons_self)
    have hrf : (m_isCertified st p0).2.2 = st := rf_isCertified st p0 (by rw [hk9]; omega)
    match k9, hk9, hnm9 with
    | 0, hk9, hnm9 =>
      cases hnm9
      refine vx_catch (E := "java/lang/IndexOutOfBoundsException") (name := "java/lang/IndexOutOfBoundsException") hown [] ⟨0, 16, 19, 21⟩ [] hT (fun z hz => by cases hz) rfl (by decide) (hts (.classLink RL 21 "java/lang/IndexOutOfBoundsException") (by decide +kernel)) (va_Nw.use rfl (hG.2.1.2.2.2.1 ("java/lang/IndexOutOfBoundsException", "java/lang/IndexOutOfBoundsException") (by decide +kernel))) hc9 hv9 hcl9 ?_
      refine lv_astore_n (lv' := [(3, .ref q9), (0, .ref (ad 0 0)), (1, .int p0), (2, .ref o0)]) hx hb dL_isCertified_19 rfl hl (by decide) rfl (fun ls hl => ?_)
      refine lv_iconst (v := 1) hx hb dL_isCertified_20 (by decide) ?_
      refine W.widen (k := 1) (n := 6) (Nat.le_of_ble_eq_true rfl) (Nat.le_of_ble_eq_true rfl) ?_
      refine vx_ret ?_
      exact W.iret (v := 1) hx hb hr (fun t99 ht99 hW99 => ⟨⟨1, (mu Mc o0 (.inl (G.2.1 1, 1, .inr (.inl f0)))), rfl, ⟨ad, Mc, f0, by rw [hk9]; rfl, hMo, rfl, by rw [hrf]; exact hC, rfl, fun z => absurd (hk9.symm.trans z) (by omega)⟩, by rw [ht99]; exact hP, hI⟩, hS.F ht99⟩) hS.2.2 dL_isCertified_21
    | (k9 + 1), hk9, hnm9 => cases hnm9
  obtain ⟨s9, ad9, hop, hC9, ha9⟩ := hp9
  have h_O : (mu Mw1 o0 (.inl (G.2.1 1, 1, .inr (.inl f0)))) o0 = some (.inl (G.2.1 1, 1, .inr (.inl f0))) := mu_s
  refine lv_if_eq (tgt := 14) hx hb dL_isCertified_7 (by decide) (fun c1 => ?_) (fun c1 => ?_)
  · skip
    refine lv_lconst (v := 0) hx hb dL_isCertified_14 (by decide) ?_
    refine m_last hx hb hK hP hI hS 1 h_O rfl (show vp_in 0 1 by unfold vp_in; decide) dL_isCertified_15 (fun H locs hP hI hS => ?_)
    rw [mu_uu] at hP hI 
    have h_O : (mu Mw1 o0 (.inl (G.2.1 1, 1, .inr (.inl (vf_upd f0 ((0 : Int32).toNatClampNeg) 0))))) o0 = some (.inl (G.2.1 1, 1, .inr (.inl (vf_upd f0 ((0 : Int32).toNatClampNeg) 0)))) := mu_s
    refine lv_goto (tgt := 22) hx hb dL_isCertified_16 (by decide) ?_
    refine lv_iconst (v := 0) hx hb dL_isCertified_22 (by decide) ?_
    refine W.widen (k := 1) (n := 6) (Nat.le_of_ble_eq_true rfl) (Nat.le_of_ble_eq_true rfl) ?_
    refine vx_ret ?_
    exact W.iret (v := 0) hx hb hr (fun t99 ht99 hW99 => ⟨⟨0, (mu Mw1 o0 (.inl (G.2.1 1, 1, .inr (.inl (vf_upd f0 ((0 : Int32).toNatClampNeg) 0))))), rfl, ⟨ad9, Mw1, _, by rw [hop]; rfl, hn9, rfl, by rw [hop]; exact hC9, ha9, fun _ => vf_0.trans (by rw [hop]; show _ = r9.toInt64; rw [c1]; rfl)⟩, by rw [ht99]; exact hP, hI⟩, hS.F ht99⟩) hS.2.2 dL_isCertified_23
  · skip
    have hone : r9 = 1 := by have h8 := b01_isCertified st p0; rw [hop] at h8; exact h8.resolve_left c1
    refine lv_lconst (v := 1) hx hb dL_isCertified_10 (by decide) ?_
    refine lv_goto (tgt := 15) hx hb dL_isCertified_11 (by decide) ?_
    refine m_last hx hb hK hP hI hS 1 h_O rfl (show vp_in 0 1 by unfold vp_in; decide) dL_isCertified_15 (fun H locs hP hI hS => ?_)
    rw [mu_uu] at hP hI 
    have h_O : (mu Mw1 o0 (.inl (G.2.1 1, 1, .inr (.inl (vf_upd f0 ((0 : Int32).toNatClampNeg) 1))))) o0 = some (.inl (G.2.1 1, 1, .inr (.inl (vf_upd f0 ((0 : Int32).toNatClampNeg) 1)))) := mu_s
    refine lv_goto (tgt := 22) hx hb dL_isCertified_16 (by decide) ?_
    refine lv_iconst (v := 0) hx hb dL_isCertified_22 (by decide) ?_
    refine W.widen (k := 1) (n := 6) (Nat.le_of_ble_eq_true rfl) (Nat.le_of_ble_eq_true rfl) ?_
    refine vx_ret ?_
    exact W.iret (v := 0) hx hb hr (fun t99 ht99 hW99 => ⟨⟨0, (mu Mw1 o0 (.inl (G.2.1 1, 1, .inr (.inl (vf_upd f0 ((0 : Int32).toNatClampNeg) 1))))), rfl, ⟨ad9, Mw1, _, by rw [hop]; rfl, hn9, rfl, by rw [hop]; exact hC9, ha9, fun _ => vf_0.trans (by rw [hop]; show _ = r9.toInt64; rw [hone]; rfl)⟩, by rw [ht99]; exact hP, hI⟩, hS.F ht99⟩) hS.2.2 dL_isCertified_23

theorem rf_breakThread (st : St) (p0 p1 : Int32) : (m_breakThread st p0 p1).1 ≠ 0 → (m_breakThread st p0 p1).2.2 = st := by
  unfold m_breakThread
  first | exact chk_ref (ref_0) | exact chk_ref (chk_ref (ref_0)) | exact chk_ref (chk_ref (chk_ref (ref_0))) | exact chk_ref (chk_ref (chk_ref (chk_ref (ref_0)))) | exact chk_ref (chk_ref (chk_ref (chk_ref (chk_ref (ref_0))))) | exact chk_ref (chk_ref (chk_ref (chk_ref (chk_ref (chk_ref (ref_0)))))) | exact chk_ref (chk_ref (chk_ref (chk_ref (chk_ref (chk_ref (chk_ref (ref_0)))))))
set_option maxHeartbeats 4000000 in
set_option maxRecDepth 100000 in
theorem c_L_breakThread (l : Launch) (G : mg) (A : Nat → Prop) (Mc : mw) (hl9 : l.stackTraces = false) (st : St) (ad : adr) (p0 p1 : Int32) (o0 : Nat) {f0 : Nat → Int64} (hMo : Mc o0 = none) (hC : CS G st ad Mc) (hV : Inv st) : vx_Met l yL_breakThread wsL_breakThread ({ frames := 8, cells := 3, slots := 18, locals := 128 }) (va_Pc [.ref (ad 0 0), .int p0, .int p1, .ref o0] (mB G A (mu Mc o0 (.inl (G.2.1 1, 1, .inr (.inl f0)))))) (va_Qi (fun r Mw1 => ∃ (ad1 : adr) (Mc1 : mw) (f1 : Nat → Int64), r = nI (m_breakThread st p0 p1).1 ∧ Mc1 o0 = none ∧ Mw1 = mu Mc1 o0 (.inl (G.2.1 1, 1, .inr (.inl f1))) ∧ CS G (m_breakThread st p0 p1).2.2 ad1 Mc1 ∧ ad1 0 0 = ad 0 0 ∧ ((m_breakThread st p0 p1).1 = 0 → f1 0 = (m_breakThread st p0 p1).2.1.toInt64)) (mE G A) A) (xX (fun _ => False) G A (mu Mc o0 (.inl (G.2.1 1, 1, .inr (.inl f0))))) 3 18 A := by
  refine vx_ofWH (cc := cL_breakThread) (maxL := 5) (ret := (some .int)) (by decide) rfl ?_
  intro p e s m args below meth c s₁ B hml hv
  obtain ⟨rfl, hG, hP, hI, hA⟩ := hv
  have hx := B.exec
  have hb := B.bytes
  have hr := B.returns
  have hts := atoms_spec (ws := wsL_breakThread) B.pre
  have hown : s.vm.findClass RL = some m.cls := findClass_of_methodNamed B.named
  have hlocks := B.notSynchronized
  have hK := hG.K
  have hS : va_S A s.heap s.heap [] := va_S.rf
  have hl := lv_entry ([.ref (ad 0 0), .int p0, .int p1, .ref o0]) (n := 5) (Nat.le_of_ble_eq_true rfl)
  rw [lg_entry_eq]
  generalize (lg_sl ([.ref (ad 0 0), .int p0, .int p1, .ref o0]) ++ List.replicate (5 - (lg_sl ([.ref (ad 0 0), .int p0, .int p1, .ref o0])).length) Slot.unset).toArray = ls at hl ⊢
  have hl : lv_has ls 5 [(0, .ref (ad 0 0)), (1, .int p0), (2, .int p1), (3, .ref o0)] := hl
  have hP : mP G.1 (mu Mc o0 (.inl (G.2.1 1, 1, .inr (.inl f0)))) s.heap := hP
  refine lv_aload_n hx hb dL_breakThread_0 rfl (lv_at hl 3 rfl) ?_
  refine lv_iconst (v := 0) hx hb dL_breakThread_1 (by decide) ?_
  refine lv_aload_n hx hb dL_breakThread_2 rfl (lv_at hl 0 rfl) ?_
  refine lv_iload_n hx hb dL_breakThread_3 rfl (lv_at hl 1 rfl) ?_
  refine lv_iload_n hx hb dL_breakThread_4 rfl (lv_at hl 2 rfl) ?_
  have hPd := mP_dn hMo hP
  have hId := mI_dn hMo hI
  have ho9 : o0 < s.heap.size := mP.lt hP (mu_s (M := Mc) (a := o0))
  have hAd : ∀ q : Nat, s.heap.size ≤ q → aN A o0 q := fun q hq => ⟨hA q hq, fun z => by omega⟩
  have hSd : va_S (aN A o0) s.heap s.heap [] := va_S.rf
  refine mn_calli (vx_runV (As := [.int p0, .int p1]) (rest := [.int 0, .ref o0]) ⟨hx, hb, hml, hown, hts⟩ (c_X4_breakThread l G (aN A o0) Mc hl9 st ad p0 p1 hC hV) (cwV 2 hts gL_breakThread_X4_breakThread rfl rfl rfl (by decide +kernel) ⟨Nat.le_of_ble_eq_true rfl, Nat.le_of_ble_eq_true rfl⟩) (mPreV (GK_aN hG) hSd hPd hId hAd (hPd (ad 0 0) _ (hC.1 0 0 (ok0 st))) (r := (RX4, TX4, 9)) rfl) rfl rfl hl.1 rfl (lv_room (Nat.le_of_ble_eq_true rfl)) dL_breakThread_5 ⟨Nat.le_of_ble_eq_true rfl, Nat.le_of_ble_eq_true rfl⟩) hP hI hS (fun E9 ce9 q9 H locs hpx9 hP hS hc9 hv9 hcl9 => ?_) (fun r9 Mw1 H locs hp9 hn9 hP hI hS => ?_)
  · obtain ⟨k9, hk9, hnm9⟩ := hpx9
    have hT : c.exceptionTable.toList = tableOf [(0, 10, 13, 21), (0, 10, 17, 13), (0, 10, 21, 23)] := vx_table (x := yL_breakThread) B (hts _ List.mem_cons_self)
    have hrf : (m_breakThread st p0 p1).2.2 = st := rf_breakThread st p0 p1 (by rw [hk9]; omega)
    match k9, hk9, hnm9 with
    | 0, hk9, hnm9 =>
      cases hnm9
      refine vx_catch (E := "java/lang/IndexOutOfBoundsException") (name := "java/lang/IndexOutOfBoundsException") hown [] ⟨0, 10, 13, 21⟩ [⟨0, 10, 17, 13⟩, ⟨0, 10, 21, 23⟩] hT (fun z hz => by cases hz) rfl (by decide) (hts (.classLink RL 21 "java/lang/IndexOutOfBoundsException") (by decide +kernel)) (va_Nw.use rfl (hG.2.1.2.2.2.1 ("java/lang/IndexOutOfBoundsException", "java/lang/IndexOutOfBoundsException") (by decide +kernel))) hc9 hv9 hcl9 ?_
      refine lv_astore (lv' := [(4, .ref q9), (0, .ref (ad 0 0)), (1, .int p0), (2, .int p1), (3, .ref o0)]) hx hb dL_breakThread_13 hl (by decide) rfl (fun ls hl => ?_)
      refine lv_iconst (v := 1) hx hb dL_breakThread_15 (by decide) ?_
      refine W.widen (k := 3) (n := 18) (Nat.le_of_ble_eq_true rfl) (Nat.le_of_ble_eq_true rfl) ?_
      refine vx_ret ?_
      exact W.iret (v := 1) hx hb hr (fun t99 ht99 hW99 => ⟨⟨1, (mu Mc o0 (.inl (G.2.1 1, 1, .inr (.inl f0)))), rfl, ⟨ad, Mc, f0, by rw [hk9]; rfl, hMo, rfl, by rw [hrf]; exact hC, rfl, fun z => absurd (hk9.symm.trans z) (by omega)⟩, by rw [ht99]; exact hP, hI⟩, hS.F ht99⟩) hS.2.2 dL_breakThread_16
    | 1, hk9, hnm9 =>
      cases hnm9
      refine vx_catch (E := "java/lang/IllegalArgumentException") (name := "java/lang/IllegalArgumentException") hown [⟨0, 10, 13, 21⟩] ⟨0, 10, 17, 13⟩ [⟨0, 10, 21, 23⟩] hT (List.forall_mem_cons.mpr ⟨Or.inr ⟨by decide, "java/lang/IndexOutOfBoundsException", hts (.classLink RL 21 "java/lang/IndexOutOfBoundsException") (by decide +kernel), hG.2.1.2.2.2.2.1 ("java/lang/IllegalArgumentException", "java/lang/IndexOutOfBoundsException") (by decide +kernel)⟩, (fun z hz => by cases hz)⟩) rfl (by decide) (hts (.classLink RL 13 "java/lang/IllegalArgumentException") (by decide +kernel)) (va_Nw.use rfl (hG.2.1.2.2.2.1 ("java/lang/IllegalArgumentException", "java/lang/IllegalArgumentException") (by decide +kernel))) hc9 hv9 hcl9 ?_
      refine lv_astore (lv' := [(4, .ref q9), (0, .ref (ad 0 0)), (1, .int p0), (2, .int p1), (3, .ref o0)]) hx hb dL_breakThread_17 hl (by decide) rfl (fun ls hl => ?_)
      refine lv_iconst (v := 2) hx hb dL_breakThread_19 (by decide) ?_
      refine W.widen (k := 3) (n := 18) (Nat.le_of_ble_eq_true rfl) (Nat.le_of_ble_eq_true rfl) ?_
      refine vx_ret ?_
      exact W.iret (v := 2) hx hb hr (fun t99 ht99 hW99 => ⟨⟨2, (mu Mc o0 (.inl (G.2.1 1, 1, .inr (.inl f0)))), rfl, ⟨ad, Mc, f0, by rw [hk9]; rfl, hMo, rfl, by rw [hrf]; exact hC, rfl, fun z => absurd (hk9.symm.trans z) (by omega)⟩, by rw [ht99]; exact hP, hI⟩, hS.F ht99⟩) hS.2.2 dL_breakThread_20
    | 2, hk9, hnm9 =>
      cases hnm9
      refine vx_catch (E := "java/lang/UnsupportedOperationException") (name := "java/lang/UnsupportedOperationException") hown [⟨0, 10, 13, 21⟩, ⟨0, 10, 17, 13⟩] ⟨0, 10, 21, 23⟩ [] hT (List.forall_mem_cons.mpr ⟨Or.inr ⟨by decide, "java/lang/IndexOutOfBoundsException", hts (.classLink RL 21 "java/lang/IndexOutOfBoundsException") (by decide +kernel), hG.2.1.2.2.2.2.1 ("java/lang/UnsupportedOperationException", "java/lang/IndexOutOfBoundsException") (by decide +kernel)⟩, (List.forall_mem_cons.mpr ⟨Or.inr ⟨by decide, "java/lang/IllegalArgumentException", hts (.classLink RL 13 "java/lang/IllegalArgumentException") (by decide +kernel), hG.2.1.2.2.2.2.1 ("java/lang/UnsupportedOperationException", "java/lang/IllegalArgumentException") (by decide +kernel)⟩, (fun z hz => by cases hz)⟩)⟩) rfl (by decide) (hts (.classLink RL 23 "java/lang/UnsupportedOperationException") (by decide +kernel)) (va_Nw.use rfl (hG.2.1.2.2.2.1 ("java/lang/UnsupportedOperationException", "java/lang/UnsupportedOperationException") (by decide +kernel))) hc9 hv9 hcl9 ?_
      refine lv_astore (lv' := [(4, .ref q9), (0, .ref (ad 0 0)), (1, .int p0), (2, .int p1), (3, .ref o0)]) hx hb dL_breakThread_21 hl (by decide) rfl (fun ls hl => ?_)
      refine lv_iconst (v := 3) hx hb dL_breakThread_23 (by decide) ?_
      refine W.widen (k := 3) (n := 18) (Nat.le_of_ble_eq_true rfl) (Nat.le_of_ble_eq_true rfl) ?_
      refine vx_ret ?_
      exact W.iret (v := 3) hx hb hr (fun t99 ht99 hW99 => ⟨⟨3, (mu Mc o0 (.inl (G.2.1 1, 1, .inr (.inl f0)))), rfl, ⟨ad, Mc, f0, by rw [hk9]; rfl, hMo, rfl, by rw [hrf]; exact hC, rfl, fun z => absurd (hk9.symm.trans z) (by omega)⟩, by rw [ht99]; exact hP, hI⟩, hS.F ht99⟩) hS.2.2 dL_breakThread_24
    | (k9 + 3), hk9, hnm9 => cases hnm9
  obtain ⟨s9, ad9, hop, hC9, ha9⟩ := hp9
  have h_O : (mu Mw1 o0 (.inl (G.2.1 1, 1, .inr (.inl f0)))) o0 = some (.inl (G.2.1 1, 1, .inr (.inl f0))) := mu_s
  refine lv_i2l (v := r9.toInt64) hx hb dL_breakThread_8 rfl ?_
  refine m_last hx hb hK hP hI hS 1 h_O rfl (show vp_in 0 1 by unfold vp_in; decide) dL_breakThread_9 (fun H locs hP hI hS => ?_)
  rw [mu_uu] at hP hI 
  have h_O : (mu Mw1 o0 (.inl (G.2.1 1, 1, .inr (.inl (vf_upd f0 ((0 : Int32).toNatClampNeg) r9.toInt64))))) o0 = some (.inl (G.2.1 1, 1, .inr (.inl (vf_upd f0 ((0 : Int32).toNatClampNeg) r9.toInt64)))) := mu_s
  refine lv_goto (tgt := 25) hx hb dL_breakThread_10 (by decide) ?_
  refine lv_iconst (v := 0) hx hb dL_breakThread_25 (by decide) ?_
  refine W.widen (k := 3) (n := 18) (Nat.le_of_ble_eq_true rfl) (Nat.le_of_ble_eq_true rfl) ?_
  refine vx_ret ?_
  exact W.iret (v := 0) hx hb hr (fun t99 ht99 hW99 => ⟨⟨0, (mu Mw1 o0 (.inl (G.2.1 1, 1, .inr (.inl (vf_upd f0 ((0 : Int32).toNatClampNeg) r9.toInt64))))), rfl, ⟨ad9, Mw1, _, by rw [hop]; rfl, hn9, rfl, by rw [hop]; exact hC9, ha9, fun _ => vf_0.trans (by rw [hop])⟩, by rw [ht99]; exact hP, hI⟩, hS.F ht99⟩) hS.2.2 dL_breakThread_26

theorem rf_isBroken (st : St) (p0 : Int32) : (m_isBroken st p0).1 ≠ 0 → (m_isBroken st p0).2.2 = st := by
  unfold m_isBroken
  first | exact chk_ref (ref_0) | exact chk_ref (chk_ref (ref_0)) | exact chk_ref (chk_ref (chk_ref (ref_0))) | exact chk_ref (chk_ref (chk_ref (chk_ref (ref_0)))) | exact chk_ref (chk_ref (chk_ref (chk_ref (chk_ref (ref_0))))) | exact chk_ref (chk_ref (chk_ref (chk_ref (chk_ref (chk_ref (ref_0)))))) | exact chk_ref (chk_ref (chk_ref (chk_ref (chk_ref (chk_ref (chk_ref (ref_0)))))))
set_option maxHeartbeats 4000000 in
set_option maxRecDepth 100000 in
theorem c_L_isBroken (l : Launch) (G : mg) (A : Nat → Prop) (Mc : mw) (hl9 : l.stackTraces = false) (st : St) (ad : adr) (p0 : Int32) (o0 : Nat) {f0 : Nat → Int64} (hMo : Mc o0 = none) (hC : CS G st ad Mc) (hV : Inv st) : vx_Met l yL_isBroken wsL_isBroken ({ frames := 8, cells := 1, slots := 6, locals := 124 }) (va_Pc [.ref (ad 0 0), .int p0, .ref o0] (mB G A (mu Mc o0 (.inl (G.2.1 1, 1, .inr (.inl f0)))))) (va_Qi (fun r Mw1 => ∃ (ad1 : adr) (Mc1 : mw) (f1 : Nat → Int64), r = nI (m_isBroken st p0).1 ∧ Mc1 o0 = none ∧ Mw1 = mu Mc1 o0 (.inl (G.2.1 1, 1, .inr (.inl f1))) ∧ CS G (m_isBroken st p0).2.2 ad1 Mc1 ∧ ad1 0 0 = ad 0 0 ∧ ((m_isBroken st p0).1 = 0 → f1 0 = (m_isBroken st p0).2.1.toInt64)) (mE G A) A) (xX (fun _ => False) G A (mu Mc o0 (.inl (G.2.1 1, 1, .inr (.inl f0))))) 1 6 A := by
  refine vx_ofWH (cc := cL_isBroken) (maxL := 4) (ret := (some .int)) (by decide) rfl ?_
  intro p e s m args below meth c s₁ B hml hv
  obtain ⟨rfl, hG, hP, hI, hA⟩ := hv
  have hx := B.exec
  have hb := B.bytes
  have hr := B.returns
  have hts := atoms_spec (ws := wsL_isBroken) B.pre
  have hown : s.vm.findClass RL = some m.cls := findClass_of_methodNamed B.named
  have hlocks := B.notSynchronized
  have hK := hG.K
  have hS : va_S A s.heap s.heap [] := va_S.rf
  have hl := lv_entry ([.ref (ad 0 0), .int p0, .ref o0]) (n := 4) (Nat.le_of_ble_eq_true rfl)
  rw [lg_entry_eq]
  generalize (lg_sl ([.ref (ad 0 0), .int p0, .ref o0]) ++ List.replicate (4 - (lg_sl ([.ref (ad 0 0), .int p0, .ref o0])).length) Slot.unset).toArray = ls at hl ⊢
  have hl : lv_has ls 4 [(0, .ref (ad 0 0)), (1, .int p0), (2, .ref o0)] := hl
  have hP : mP G.1 (mu Mc o0 (.inl (G.2.1 1, 1, .inr (.inl f0)))) s.heap := hP
  refine lv_aload_n hx hb dL_isBroken_0 rfl (lv_at hl 2 rfl) ?_
  refine lv_iconst (v := 0) hx hb dL_isBroken_1 (by decide) ?_
  refine lv_aload_n hx hb dL_isBroken_2 rfl (lv_at hl 0 rfl) ?_
  refine lv_iload_n hx hb dL_isBroken_3 rfl (lv_at hl 1 rfl) ?_
  have hPd := mP_dn hMo hP
  have hId := mI_dn hMo hI
  have ho9 : o0 < s.heap.size := mP.lt hP (mu_s (M := Mc) (a := o0))
  have hAd : ∀ q : Nat, s.heap.size ≤ q → aN A o0 q := fun q hq => ⟨hA q hq, fun z => by omega⟩
  have hSd : va_S (aN A o0) s.heap s.heap [] := va_S.rf
  refine mn_calli (vx_runV (As := [.int p0]) (rest := [.int 0, .ref o0]) ⟨hx, hb, hml, hown, hts⟩ (c_X4_isBroken l G (aN A o0) Mc hl9 st ad p0 hC hV) (cwV 1 hts gL_isBroken_X4_isBroken rfl rfl rfl (by decide +kernel) ⟨Nat.le_of_ble_eq_true rfl, Nat.le_of_ble_eq_true rfl⟩) (mPreV (GK_aN hG) hSd hPd hId hAd (hPd (ad 0 0) _ (hC.1 0 0 (ok0 st))) (r := (RX4, TX4, 9)) rfl) rfl rfl hl.1 rfl (lv_room (Nat.le_of_ble_eq_true rfl)) dL_isBroken_4 ⟨Nat.le_of_ble_eq_true rfl, Nat.le_of_ble_eq_true rfl⟩) hP hI hS (fun E9 ce9 q9 H locs hpx9 hP hS hc9 hv9 hcl9 => ?_) (fun r9 Mw1 H locs hp9 hn9 hP hI hS => ?_)
  · obtain ⟨k9, hk9, hnm9⟩ := hpx9
    have hT : c.exceptionTable.toList = tableOf [(0, 16, 19, 21)] := vx_table (x := yL_isBroken) B (hts _ List.mem_cons_self)
    have hrf : (m_isBroken st p0).2.2 = st := rf_isBroken st p0 (by rw [hk9]; omega)
    match k9, hk9, hnm9 with
    | 0, hk9, hnm9 =>
      cases hnm9
      refine vx_catch (E := "java/lang/IndexOutOfBoundsException") (name := "java/lang/IndexOutOfBoundsException") hown [] ⟨0, 16, 19, 21⟩ [] hT (fun z hz => by cases hz) rfl (by decide) (hts (.classLink RL 21 "java/lang/IndexOutOfBoundsException") (by decide +kernel)) (va_Nw.use rfl (hG.2.1.2.2.2.1 ("java/lang/IndexOutOfBoundsException", "java/lang/IndexOutOfBoundsException") (by decide +kernel))) hc9 hv9 hcl9 ?_
      refine lv_astore_n (lv' := [(3, .ref q9), (0, .ref (ad 0 0)), (1, .int p0), (2, .ref o0)]) hx hb dL_isBroken_19 rfl hl (by decide) rfl (fun ls hl => ?_)
      refine lv_iconst (v := 1) hx hb dL_isBroken_20 (by decide) ?_
      refine W.widen (k := 1) (n := 6) (Nat.le_of_ble_eq_true rfl) (Nat.le_of_ble_eq_true rfl) ?_
      refine vx_ret ?_
      exact W.iret (v := 1) hx hb hr (fun t99 ht99 hW99 => ⟨⟨1, (mu Mc o0 (.inl (G.2.1 1, 1, .inr (.inl f0)))), rfl, ⟨ad, Mc, f0, by rw [hk9]; rfl, hMo, rfl, by rw [hrf]; exact hC, rfl, fun z => absurd (hk9.symm.trans z) (by omega)⟩, by rw [ht99]; exact hP, hI⟩, hS.F ht99⟩) hS.2.2 dL_isBroken_21
    | (k9 + 1), hk9, hnm9 => cases hnm9
  obtain ⟨s9, ad9, hop, hC9, ha9⟩ := hp9
  have h_O : (mu Mw1 o0 (.inl (G.2.1 1, 1, .inr (.inl f0)))) o0 = some (.inl (G.2.1 1, 1, .inr (.inl f0))) := mu_s
  refine lv_if_eq (tgt := 14) hx hb dL_isBroken_7 (by decide) (fun c1 => ?_) (fun c1 => ?_)
  · skip
    refine lv_lconst (v := 0) hx hb dL_isBroken_14 (by decide) ?_
    refine m_last hx hb hK hP hI hS 1 h_O rfl (show vp_in 0 1 by unfold vp_in; decide) dL_isBroken_15 (fun H locs hP hI hS => ?_)
    rw [mu_uu] at hP hI 
    have h_O : (mu Mw1 o0 (.inl (G.2.1 1, 1, .inr (.inl (vf_upd f0 ((0 : Int32).toNatClampNeg) 0))))) o0 = some (.inl (G.2.1 1, 1, .inr (.inl (vf_upd f0 ((0 : Int32).toNatClampNeg) 0)))) := mu_s
    refine lv_goto (tgt := 22) hx hb dL_isBroken_16 (by decide) ?_
    refine lv_iconst (v := 0) hx hb dL_isBroken_22 (by decide) ?_
    refine W.widen (k := 1) (n := 6) (Nat.le_of_ble_eq_true rfl) (Nat.le_of_ble_eq_true rfl) ?_
    refine vx_ret ?_
    exact W.iret (v := 0) hx hb hr (fun t99 ht99 hW99 => ⟨⟨0, (mu Mw1 o0 (.inl (G.2.1 1, 1, .inr (.inl (vf_upd f0 ((0 : Int32).toNatClampNeg) 0))))), rfl, ⟨ad9, Mw1, _, by rw [hop]; rfl, hn9, rfl, by rw [hop]; exact hC9, ha9, fun _ => vf_0.trans (by rw [hop]; show _ = r9.toInt64; rw [c1]; rfl)⟩, by rw [ht99]; exact hP, hI⟩, hS.F ht99⟩) hS.2.2 dL_isBroken_23
  · skip
    have hone : r9 = 1 := by have h8 := b01_isBroken st p0; rw [hop] at h8; exact h8.resolve_left c1
    refine lv_lconst (v := 1) hx hb dL_isBroken_10 (by decide) ?_
    refine lv_goto (tgt := 15) hx hb dL_isBroken_11 (by decide) ?_
    refine m_last hx hb hK hP hI hS 1 h_O rfl (show vp_in 0 1 by unfold vp_in; decide) dL_isBroken_15 (fun H locs hP hI hS => ?_)
    rw [mu_uu] at hP hI 
    have h_O : (mu Mw1 o0 (.inl (G.2.1 1, 1, .inr (.inl (vf_upd f0 ((0 : Int32).toNatClampNeg) 1))))) o0 = some (.inl (G.2.1 1, 1, .inr (.inl (vf_upd f0 ((0 : Int32).toNatClampNeg) 1)))) := mu_s
    refine lv_goto (tgt := 22) hx hb dL_isBroken_16 (by decide) ?_
    refine lv_iconst (v := 0) hx hb dL_isBroken_22 (by decide) ?_
    refine W.widen (k := 1) (n := 6) (Nat.le_of_ble_eq_true rfl) (Nat.le_of_ble_eq_true rfl) ?_
    refine vx_ret ?_
    exact W.iret (v := 0) hx hb hr (fun t99 ht99 hW99 => ⟨⟨0, (mu Mw1 o0 (.inl (G.2.1 1, 1, .inr (.inl (vf_upd f0 ((0 : Int32).toNatClampNeg) 1))))), rfl, ⟨ad9, Mw1, _, by rw [hop]; rfl, hn9, rfl, by rw [hop]; exact hC9, ha9, fun _ => vf_0.trans (by rw [hop]; show _ = r9.toInt64; rw [hone]; rfl)⟩, by rw [ht99]; exact hP, hI⟩, hS.F ht99⟩) hS.2.2 dL_isBroken_23

theorem rf_keep (st : St) (p0 p1 : Int32) : (m_keep st p0 p1).1 ≠ 0 → (m_keep st p0 p1).2.2 = st := by
  unfold m_keep
  first | exact chk_ref (ref_0) | exact chk_ref (chk_ref (ref_0)) | exact chk_ref (chk_ref (chk_ref (ref_0))) | exact chk_ref (chk_ref (chk_ref (chk_ref (ref_0)))) | exact chk_ref (chk_ref (chk_ref (chk_ref (chk_ref (ref_0))))) | exact chk_ref (chk_ref (chk_ref (chk_ref (chk_ref (chk_ref (ref_0)))))) | exact chk_ref (chk_ref (chk_ref (chk_ref (chk_ref (chk_ref (chk_ref (ref_0)))))))
set_option maxHeartbeats 4000000 in
set_option maxRecDepth 100000 in
theorem c_L_keep (l : Launch) (G : mg) (A : Nat → Prop) (Mc : mw) (hl9 : l.stackTraces = false) (st : St) (ad : adr) (p0 p1 : Int32) (o0 : Nat) {f0 : Nat → Int64} (hMo : Mc o0 = none) (hC : CS G st ad Mc) (hV : Inv st) (h01 : p1 = 0 ∨ p1 = 1) : vx_Met l yL_keep wsL_keep ({ frames := 8, cells := 1, slots := 6, locals := 127 }) (va_Pc [.ref (ad 0 0), .int p0, .int p1, .ref o0] (mB G A (mu Mc o0 (.inl (G.2.1 1, 1, .inr (.inl f0)))))) (va_Qi (fun r Mw1 => ∃ (ad1 : adr) (Mc1 : mw) (f1 : Nat → Int64), r = nI (m_keep st p0 p1).1 ∧ Mc1 o0 = none ∧ Mw1 = mu Mc1 o0 (.inl (G.2.1 1, 1, .inr (.inl f1))) ∧ CS G (m_keep st p0 p1).2.2 ad1 Mc1 ∧ ad1 0 0 = ad 0 0 ∧ ((m_keep st p0 p1).1 = 0 → f1 0 = (m_keep st p0 p1).2.1.toInt64)) (mE G A) A) (xX (fun _ => False) G A (mu Mc o0 (.inl (G.2.1 1, 1, .inr (.inl f0))))) 1 6 A := by
  refine vx_ofWH (cc := cL_keep) (maxL := 5) (ret := (some .int)) (by decide) rfl ?_
  intro p e s m args below meth c s₁ B hml hv
  obtain ⟨rfl, hG, hP, hI, hA⟩ := hv
  have hx := B.exec
  have hb := B.bytes
  have hr := B.returns
  have hts := atoms_spec (ws := wsL_keep) B.pre
  have hown : s.vm.findClass RL = some m.cls := findClass_of_methodNamed B.named
  have hlocks := B.notSynchronized
  have hK := hG.K
  have hS : va_S A s.heap s.heap [] := va_S.rf
  have hl := lv_entry ([.ref (ad 0 0), .int p0, .int p1, .ref o0]) (n := 5) (Nat.le_of_ble_eq_true rfl)
  rw [lg_entry_eq]
  generalize (lg_sl ([.ref (ad 0 0), .int p0, .int p1, .ref o0]) ++ List.replicate (5 - (lg_sl ([.ref (ad 0 0), .int p0, .int p1, .ref o0])).length) Slot.unset).toArray = ls at hl ⊢
  have hl : lv_has ls 5 [(0, .ref (ad 0 0)), (1, .int p0), (2, .int p1), (3, .ref o0)] := hl
  have hP : mP G.1 (mu Mc o0 (.inl (G.2.1 1, 1, .inr (.inl f0)))) s.heap := hP
  refine lv_aload_n hx hb dL_keep_0 rfl (lv_at hl 3 rfl) ?_
  refine lv_iconst (v := 0) hx hb dL_keep_1 (by decide) ?_
  refine lv_aload_n hx hb dL_keep_2 rfl (lv_at hl 0 rfl) ?_
  refine lv_iload_n hx hb dL_keep_3 rfl (lv_at hl 1 rfl) ?_
  refine lv_iload_n hx hb dL_keep_4 rfl (lv_at hl 2 rfl) ?_
  have hPd := mP_dn hMo hP
  have hId := mI_dn hMo hI
  have ho9 : o0 < s.heap.size := mP.lt hP (mu_s (M := Mc) (a := o0))
  have hAd : ∀ q : Nat, s.heap.size ≤ q → aN A o0 q := fun q hq => ⟨hA q hq, fun z => by omega⟩
  have hSd : va_S (aN A o0) s.heap s.heap [] := va_S.rf
  refine mn_calli (vx_runV (As := [.int p0, .int p1]) (rest := [.int 0, .ref o0]) ⟨hx, hb, hml, hown, hts⟩ (c_X4_keep l G (aN A o0) Mc hl9 st ad p0 p1 hC hV h01) (cwV 2 hts gL_keep_X4_keep rfl rfl rfl (by decide +kernel) ⟨Nat.le_of_ble_eq_true rfl, Nat.le_of_ble_eq_true rfl⟩) (mPreV (GK_aN hG) hSd hPd hId hAd (hPd (ad 0 0) _ (hC.1 0 0 (ok0 st))) (r := (RX4, TX4, 9)) rfl) rfl rfl hl.1 rfl (lv_room (Nat.le_of_ble_eq_true rfl)) dL_keep_5 ⟨Nat.le_of_ble_eq_true rfl, Nat.le_of_ble_eq_true rfl⟩) hP hI hS (fun E9 ce9 q9 H locs hpx9 hP hS hc9 hv9 hcl9 => ?_) (fun r9 Mw1 H locs hp9 hn9 hP hI hS => ?_)
  · obtain ⟨k9, hk9, hnm9⟩ := hpx9
    have hT : c.exceptionTable.toList = tableOf [(0, 17, 20, 21)] := vx_table (x := yL_keep) B (hts _ List.mem_cons_self)
    have hrf : (m_keep st p0 p1).2.2 = st := rf_keep st p0 p1 (by rw [hk9]; omega)
    match k9, hk9, hnm9 with
    | 0, hk9, hnm9 =>
      cases hnm9
      refine vx_catch (E := "java/lang/IndexOutOfBoundsException") (name := "java/lang/IndexOutOfBoundsException") hown [] ⟨0, 17, 20, 21⟩ [] hT (fun z hz => by cases hz) rfl (by decide) (hts (.classLink RL 21 "java/lang/IndexOutOfBoundsException") (by decide +kernel)) (va_Nw.use rfl (hG.2.1.2.2.2.1 ("java/lang/IndexOutOfBoundsException", "java/lang/IndexOutOfBoundsException") (by decide +kernel))) hc9 hv9 hcl9 ?_
      refine lv_astore (lv' := [(4, .ref q9), (0, .ref (ad 0 0)), (1, .int p0), (2, .int p1), (3, .ref o0)]) hx hb dL_keep_20 hl (by decide) rfl (fun ls hl => ?_)
      refine lv_iconst (v := 1) hx hb dL_keep_22 (by decide) ?_
      refine W.widen (k := 1) (n := 6) (Nat.le_of_ble_eq_true rfl) (Nat.le_of_ble_eq_true rfl) ?_
      refine vx_ret ?_
      exact W.iret (v := 1) hx hb hr (fun t99 ht99 hW99 => ⟨⟨1, (mu Mc o0 (.inl (G.2.1 1, 1, .inr (.inl f0)))), rfl, ⟨ad, Mc, f0, by rw [hk9]; rfl, hMo, rfl, by rw [hrf]; exact hC, rfl, fun z => absurd (hk9.symm.trans z) (by omega)⟩, by rw [ht99]; exact hP, hI⟩, hS.F ht99⟩) hS.2.2 dL_keep_23
    | (k9 + 1), hk9, hnm9 => cases hnm9
  obtain ⟨s9, ad9, hop, hC9, ha9⟩ := hp9
  have h_O : (mu Mw1 o0 (.inl (G.2.1 1, 1, .inr (.inl f0)))) o0 = some (.inl (G.2.1 1, 1, .inr (.inl f0))) := mu_s
  refine lv_if_eq (tgt := 15) hx hb dL_keep_8 (by decide) (fun c1 => ?_) (fun c1 => ?_)
  · skip
    refine lv_lconst (v := 0) hx hb dL_keep_15 (by decide) ?_
    refine m_last hx hb hK hP hI hS 1 h_O rfl (show vp_in 0 1 by unfold vp_in; decide) dL_keep_16 (fun H locs hP hI hS => ?_)
    rw [mu_uu] at hP hI 
    have h_O : (mu Mw1 o0 (.inl (G.2.1 1, 1, .inr (.inl (vf_upd f0 ((0 : Int32).toNatClampNeg) 0))))) o0 = some (.inl (G.2.1 1, 1, .inr (.inl (vf_upd f0 ((0 : Int32).toNatClampNeg) 0)))) := mu_s
    refine lv_goto (tgt := 24) hx hb dL_keep_17 (by decide) ?_
    refine lv_iconst (v := 0) hx hb dL_keep_24 (by decide) ?_
    refine W.widen (k := 1) (n := 6) (Nat.le_of_ble_eq_true rfl) (Nat.le_of_ble_eq_true rfl) ?_
    refine vx_ret ?_
    exact W.iret (v := 0) hx hb hr (fun t99 ht99 hW99 => ⟨⟨0, (mu Mw1 o0 (.inl (G.2.1 1, 1, .inr (.inl (vf_upd f0 ((0 : Int32).toNatClampNeg) 0))))), rfl, ⟨ad9, Mw1, _, by rw [hop]; rfl, hn9, rfl, by rw [hop]; exact hC9, ha9, fun _ => vf_0.trans (by rw [hop]; show _ = r9.toInt64; rw [c1]; rfl)⟩, by rw [ht99]; exact hP, hI⟩, hS.F ht99⟩) hS.2.2 dL_keep_25
  · skip
    have hone : r9 = 1 := by have h8 := b01_keep hV p0 p1; rw [hop] at h8; exact h8.resolve_left c1
    refine lv_lconst (v := 1) hx hb dL_keep_11 (by decide) ?_
    refine lv_goto (tgt := 16) hx hb dL_keep_12 (by decide) ?_
    refine m_last hx hb hK hP hI hS 1 h_O rfl (show vp_in 0 1 by unfold vp_in; decide) dL_keep_16 (fun H locs hP hI hS => ?_)
    rw [mu_uu] at hP hI 
    have h_O : (mu Mw1 o0 (.inl (G.2.1 1, 1, .inr (.inl (vf_upd f0 ((0 : Int32).toNatClampNeg) 1))))) o0 = some (.inl (G.2.1 1, 1, .inr (.inl (vf_upd f0 ((0 : Int32).toNatClampNeg) 1)))) := mu_s
    refine lv_goto (tgt := 24) hx hb dL_keep_17 (by decide) ?_
    refine lv_iconst (v := 0) hx hb dL_keep_24 (by decide) ?_
    refine W.widen (k := 1) (n := 6) (Nat.le_of_ble_eq_true rfl) (Nat.le_of_ble_eq_true rfl) ?_
    refine vx_ret ?_
    exact W.iret (v := 0) hx hb hr (fun t99 ht99 hW99 => ⟨⟨0, (mu Mw1 o0 (.inl (G.2.1 1, 1, .inr (.inl (vf_upd f0 ((0 : Int32).toNatClampNeg) 1))))), rfl, ⟨ad9, Mw1, _, by rw [hop]; rfl, hn9, rfl, by rw [hop]; exact hC9, ha9, fun _ => vf_0.trans (by rw [hop]; show _ = r9.toInt64; rw [hone]; rfl)⟩, by rw [ht99]; exact hP, hI⟩, hS.F ht99⟩) hS.2.2 dL_keep_25

theorem rf_shake (st : St) (p0 : Int32) : (m_shake st p0).1 ≠ 0 → (m_shake st p0).2.2 = st := by
  unfold m_shake
  first | exact chk_ref (ref_0) | exact chk_ref (chk_ref (ref_0)) | exact chk_ref (chk_ref (chk_ref (ref_0))) | exact chk_ref (chk_ref (chk_ref (chk_ref (ref_0)))) | exact chk_ref (chk_ref (chk_ref (chk_ref (chk_ref (ref_0))))) | exact chk_ref (chk_ref (chk_ref (chk_ref (chk_ref (chk_ref (ref_0)))))) | exact chk_ref (chk_ref (chk_ref (chk_ref (chk_ref (chk_ref (chk_ref (ref_0)))))))
set_option maxHeartbeats 4000000 in
set_option maxRecDepth 100000 in
theorem c_L_shake (l : Launch) (G : mg) (A : Nat → Prop) (Mc : mw) (hl9 : l.stackTraces = false) (st : St) (ad : adr) (p0 : Int32) (o0 : Nat) {f0 : Nat → Int64} (hMo : Mc o0 = none) (hC : CS G st ad Mc) (hV : Inv st) : vx_Met l yL_shake wsL_shake ({ frames := 8, cells := 2, slots := 12, locals := 126 }) (va_Pc [.ref (ad 0 0), .int p0, .ref o0] (mB G A (mu Mc o0 (.inl (G.2.1 1, 1, .inr (.inl f0)))))) (va_Qi (fun r Mw1 => ∃ (ad1 : adr) (Mc1 : mw) (f1 : Nat → Int64), r = nI (m_shake st p0).1 ∧ Mc1 o0 = none ∧ Mw1 = mu Mc1 o0 (.inl (G.2.1 1, 1, .inr (.inl f1))) ∧ CS G (m_shake st p0).2.2 ad1 Mc1 ∧ ad1 0 0 = ad 0 0 ∧ ((m_shake st p0).1 = 0 → f1 0 = (m_shake st p0).2.1.toInt64)) (mE G A) A) (xX (fun _ => False) G A (mu Mc o0 (.inl (G.2.1 1, 1, .inr (.inl f0))))) 2 12 A := by
  refine vx_ofWH (cc := cL_shake) (maxL := 4) (ret := (some .int)) (by decide) rfl ?_
  intro p e s m args below meth c s₁ B hml hv
  obtain ⟨rfl, hG, hP, hI, hA⟩ := hv
  have hx := B.exec
  have hb := B.bytes
  have hr := B.returns
  have hts := atoms_spec (ws := wsL_shake) B.pre
  have hown : s.vm.findClass RL = some m.cls := findClass_of_methodNamed B.named
  have hlocks := B.notSynchronized
  have hK := hG.K
  have hS : va_S A s.heap s.heap [] := va_S.rf
  have hl := lv_entry ([.ref (ad 0 0), .int p0, .ref o0]) (n := 4) (Nat.le_of_ble_eq_true rfl)
  rw [lg_entry_eq]
  generalize (lg_sl ([.ref (ad 0 0), .int p0, .ref o0]) ++ List.replicate (4 - (lg_sl ([.ref (ad 0 0), .int p0, .ref o0])).length) Slot.unset).toArray = ls at hl ⊢
  have hl : lv_has ls 4 [(0, .ref (ad 0 0)), (1, .int p0), (2, .ref o0)] := hl
  have hP : mP G.1 (mu Mc o0 (.inl (G.2.1 1, 1, .inr (.inl f0)))) s.heap := hP
  refine lv_aload_n hx hb dL_shake_0 rfl (lv_at hl 2 rfl) ?_
  refine lv_iconst (v := 0) hx hb dL_shake_1 (by decide) ?_
  refine lv_aload_n hx hb dL_shake_2 rfl (lv_at hl 0 rfl) ?_
  refine lv_iload_n hx hb dL_shake_3 rfl (lv_at hl 1 rfl) ?_
  have hPd := mP_dn hMo hP
  have hId := mI_dn hMo hI
  have ho9 : o0 < s.heap.size := mP.lt hP (mu_s (M := Mc) (a := o0))
  have hAd : ∀ q : Nat, s.heap.size ≤ q → aN A o0 q := fun q hq => ⟨hA q hq, fun z => by omega⟩
  have hSd : va_S (aN A o0) s.heap s.heap [] := va_S.rf
  refine mn_calli (vx_runV (As := [.int p0]) (rest := [.int 0, .ref o0]) ⟨hx, hb, hml, hown, hts⟩ (c_X4_shake l G (aN A o0) Mc hl9 st ad p0 hC hV) (cwV 1 hts gL_shake_X4_shake rfl rfl rfl (by decide +kernel) ⟨Nat.le_of_ble_eq_true rfl, Nat.le_of_ble_eq_true rfl⟩) (mPreV (GK_aN hG) hSd hPd hId hAd (hPd (ad 0 0) _ (hC.1 0 0 (ok0 st))) (r := (RX4, TX4, 9)) rfl) rfl rfl hl.1 rfl (lv_room (Nat.le_of_ble_eq_true rfl)) dL_shake_4 ⟨Nat.le_of_ble_eq_true rfl, Nat.le_of_ble_eq_true rfl⟩) hP hI hS (fun E9 ce9 q9 H locs hpx9 hP hS hc9 hv9 hcl9 => ?_) (fun r9 Mw1 H locs hp9 hn9 hP hI hS => ?_)
  · obtain ⟨k9, hk9, hnm9⟩ := hpx9
    have hT : c.exceptionTable.toList = tableOf [(0, 9, 12, 21), (0, 9, 15, 23), (0, 9, 18, 34)] := vx_table (x := yL_shake) B (hts _ List.mem_cons_self)
    have hrf : (m_shake st p0).2.2 = st := rf_shake st p0 (by rw [hk9]; omega)
    match k9, hk9, hnm9 with
    | 0, hk9, hnm9 =>
      cases hnm9
      refine vx_catch (E := "java/lang/IndexOutOfBoundsException") (name := "java/lang/IndexOutOfBoundsException") hown [] ⟨0, 9, 12, 21⟩ [⟨0, 9, 15, 23⟩, ⟨0, 9, 18, 34⟩] hT (fun z hz => by cases hz) rfl (by decide) (hts (.classLink RL 21 "java/lang/IndexOutOfBoundsException") (by decide +kernel)) (va_Nw.use rfl (hG.2.1.2.2.2.1 ("java/lang/IndexOutOfBoundsException", "java/lang/IndexOutOfBoundsException") (by decide +kernel))) hc9 hv9 hcl9 ?_
      refine lv_astore_n (lv' := [(3, .ref q9), (0, .ref (ad 0 0)), (1, .int p0), (2, .ref o0)]) hx hb dL_shake_12 rfl hl (by decide) rfl (fun ls hl => ?_)
      refine lv_iconst (v := 1) hx hb dL_shake_13 (by decide) ?_
      refine W.widen (k := 2) (n := 12) (Nat.le_of_ble_eq_true rfl) (Nat.le_of_ble_eq_true rfl) ?_
      refine vx_ret ?_
      exact W.iret (v := 1) hx hb hr (fun t99 ht99 hW99 => ⟨⟨1, (mu Mc o0 (.inl (G.2.1 1, 1, .inr (.inl f0)))), rfl, ⟨ad, Mc, f0, by rw [hk9]; rfl, hMo, rfl, by rw [hrf]; exact hC, rfl, fun z => absurd (hk9.symm.trans z) (by omega)⟩, by rw [ht99]; exact hP, hI⟩, hS.F ht99⟩) hS.2.2 dL_shake_14
    | 1, hk9, hnm9 =>
      cases hnm9
      refine vx_catch (E := "java/lang/UnsupportedOperationException") (name := "java/lang/UnsupportedOperationException") hown [⟨0, 9, 12, 21⟩] ⟨0, 9, 15, 23⟩ [⟨0, 9, 18, 34⟩] hT (List.forall_mem_cons.mpr ⟨Or.inr ⟨by decide, "java/lang/IndexOutOfBoundsException", hts (.classLink RL 21 "java/lang/IndexOutOfBoundsException") (by decide +kernel), hG.2.1.2.2.2.2.1 ("java/lang/UnsupportedOperationException", "java/lang/IndexOutOfBoundsException") (by decide +kernel)⟩, (fun z hz => by cases hz)⟩) rfl (by decide) (hts (.classLink RL 23 "java/lang/UnsupportedOperationException") (by decide +kernel)) (va_Nw.use rfl (hG.2.1.2.2.2.1 ("java/lang/UnsupportedOperationException", "java/lang/UnsupportedOperationException") (by decide +kernel))) hc9 hv9 hcl9 ?_
      refine lv_astore_n (lv' := [(3, .ref q9), (0, .ref (ad 0 0)), (1, .int p0), (2, .ref o0)]) hx hb dL_shake_15 rfl hl (by decide) rfl (fun ls hl => ?_)
      refine lv_iconst (v := 2) hx hb dL_shake_16 (by decide) ?_
      refine W.widen (k := 2) (n := 12) (Nat.le_of_ble_eq_true rfl) (Nat.le_of_ble_eq_true rfl) ?_
      refine vx_ret ?_
      exact W.iret (v := 2) hx hb hr (fun t99 ht99 hW99 => ⟨⟨2, (mu Mc o0 (.inl (G.2.1 1, 1, .inr (.inl f0)))), rfl, ⟨ad, Mc, f0, by rw [hk9]; rfl, hMo, rfl, by rw [hrf]; exact hC, rfl, fun z => absurd (hk9.symm.trans z) (by omega)⟩, by rw [ht99]; exact hP, hI⟩, hS.F ht99⟩) hS.2.2 dL_shake_17
    | 2, hk9, hnm9 =>
      cases hnm9
      refine vx_catch (E := "java/util/NoSuchElementException") (name := "java/util/NoSuchElementException") hown [⟨0, 9, 12, 21⟩, ⟨0, 9, 15, 23⟩] ⟨0, 9, 18, 34⟩ [] hT (List.forall_mem_cons.mpr ⟨Or.inr ⟨by decide, "java/lang/IndexOutOfBoundsException", hts (.classLink RL 21 "java/lang/IndexOutOfBoundsException") (by decide +kernel), hG.2.1.2.2.2.2.1 ("java/util/NoSuchElementException", "java/lang/IndexOutOfBoundsException") (by decide +kernel)⟩, (List.forall_mem_cons.mpr ⟨Or.inr ⟨by decide, "java/lang/UnsupportedOperationException", hts (.classLink RL 23 "java/lang/UnsupportedOperationException") (by decide +kernel), hG.2.1.2.2.2.2.1 ("java/util/NoSuchElementException", "java/lang/UnsupportedOperationException") (by decide +kernel)⟩, (fun z hz => by cases hz)⟩)⟩) rfl (by decide) (hts (.classLink RL 34 "java/util/NoSuchElementException") (by decide +kernel)) (va_Nw.use rfl (hG.2.1.2.2.2.1 ("java/util/NoSuchElementException", "java/util/NoSuchElementException") (by decide +kernel))) hc9 hv9 hcl9 ?_
      refine lv_astore_n (lv' := [(3, .ref q9), (0, .ref (ad 0 0)), (1, .int p0), (2, .ref o0)]) hx hb dL_shake_18 rfl hl (by decide) rfl (fun ls hl => ?_)
      refine lv_iconst (v := 3) hx hb dL_shake_19 (by decide) ?_
      refine W.widen (k := 2) (n := 12) (Nat.le_of_ble_eq_true rfl) (Nat.le_of_ble_eq_true rfl) ?_
      refine vx_ret ?_
      exact W.iret (v := 3) hx hb hr (fun t99 ht99 hW99 => ⟨⟨3, (mu Mc o0 (.inl (G.2.1 1, 1, .inr (.inl f0)))), rfl, ⟨ad, Mc, f0, by rw [hk9]; rfl, hMo, rfl, by rw [hrf]; exact hC, rfl, fun z => absurd (hk9.symm.trans z) (by omega)⟩, by rw [ht99]; exact hP, hI⟩, hS.F ht99⟩) hS.2.2 dL_shake_20
    | (k9 + 3), hk9, hnm9 => cases hnm9
  obtain ⟨s9, ad9, hop, hC9, ha9⟩ := hp9
  have h_O : (mu Mw1 o0 (.inl (G.2.1 1, 1, .inr (.inl f0)))) o0 = some (.inl (G.2.1 1, 1, .inr (.inl f0))) := mu_s
  refine lv_i2l (v := r9.toInt64) hx hb dL_shake_7 rfl ?_
  refine m_last hx hb hK hP hI hS 1 h_O rfl (show vp_in 0 1 by unfold vp_in; decide) dL_shake_8 (fun H locs hP hI hS => ?_)
  rw [mu_uu] at hP hI 
  have h_O : (mu Mw1 o0 (.inl (G.2.1 1, 1, .inr (.inl (vf_upd f0 ((0 : Int32).toNatClampNeg) r9.toInt64))))) o0 = some (.inl (G.2.1 1, 1, .inr (.inl (vf_upd f0 ((0 : Int32).toNatClampNeg) r9.toInt64)))) := mu_s
  refine lv_goto (tgt := 21) hx hb dL_shake_9 (by decide) ?_
  refine lv_iconst (v := 0) hx hb dL_shake_21 (by decide) ?_
  refine W.widen (k := 2) (n := 12) (Nat.le_of_ble_eq_true rfl) (Nat.le_of_ble_eq_true rfl) ?_
  refine vx_ret ?_
  exact W.iret (v := 0) hx hb hr (fun t99 ht99 hW99 => ⟨⟨0, (mu Mw1 o0 (.inl (G.2.1 1, 1, .inr (.inl (vf_upd f0 ((0 : Int32).toNatClampNeg) r9.toInt64))))), rfl, ⟨ad9, Mw1, _, by rw [hop]; rfl, hn9, rfl, by rw [hop]; exact hC9, ha9, fun _ => vf_0.trans (by rw [hop])⟩, by rw [ht99]; exact hP, hI⟩, hS.F ht99⟩) hS.2.2 dL_shake_22

theorem rf_barometer (st : St) (p0 p1 p2 p3 : Int32) : (m_barometer st p0 p1 p2 p3).1 ≠ 0 → (m_barometer st p0 p1 p2 p3).2.2 = st := by
  unfold m_barometer
  first | exact chk_ref (ref_0) | exact chk_ref (chk_ref (ref_0)) | exact chk_ref (chk_ref (chk_ref (ref_0))) | exact chk_ref (chk_ref (chk_ref (chk_ref (ref_0)))) | exact chk_ref (chk_ref (chk_ref (chk_ref (chk_ref (ref_0))))) | exact chk_ref (chk_ref (chk_ref (chk_ref (chk_ref (chk_ref (ref_0)))))) | exact chk_ref (chk_ref (chk_ref (chk_ref (chk_ref (chk_ref (chk_ref (ref_0)))))))
set_option maxHeartbeats 4000000 in
set_option maxRecDepth 100000 in
theorem c_L_barometer (l : Launch) (G : mg) (A : Nat → Prop) (Mc : mw) (hl9 : l.stackTraces = false) (st : St) (ad : adr) (p0 p1 p2 p3 : Int32) (o0 : Nat) {f0 : Nat → Int64} (hMo : Mc o0 = none) (hC : CS G st ad Mc) (hV : Inv st) : vx_Met l yL_barometer wsL_barometer ({ frames := 8, cells := 4, slots := 24, locals := 129 }) (va_Pc [.ref (ad 0 0), .int p0, .int p1, .int p2, .int p3, .ref o0] (mB G A (mu Mc o0 (.inl (G.2.1 1, 1, .inr (.inl f0)))))) (va_Qi (fun r Mw1 => ∃ (ad1 : adr) (Mc1 : mw) (f1 : Nat → Int64), r = nI (m_barometer st p0 p1 p2 p3).1 ∧ Mc1 o0 = none ∧ Mw1 = mu Mc1 o0 (.inl (G.2.1 1, 1, .inr (.inl f1))) ∧ CS G (m_barometer st p0 p1 p2 p3).2.2 ad1 Mc1 ∧ ad1 0 0 = ad 0 0 ∧ ((m_barometer st p0 p1 p2 p3).1 = 0 → f1 0 = (m_barometer st p0 p1 p2 p3).2.1.toInt64)) (mE G A) A) (xX (fun _ => False) G A (mu Mc o0 (.inl (G.2.1 1, 1, .inr (.inl f0))))) 4 24 A := by
  refine vx_ofWH (cc := cL_barometer) (maxL := 7) (ret := (some .int)) (by decide) rfl ?_
  intro p e s m args below meth c s₁ B hml hv
  obtain ⟨rfl, hG, hP, hI, hA⟩ := hv
  have hx := B.exec
  have hb := B.bytes
  have hr := B.returns
  have hts := atoms_spec (ws := wsL_barometer) B.pre
  have hown : s.vm.findClass RL = some m.cls := findClass_of_methodNamed B.named
  have hlocks := B.notSynchronized
  have hK := hG.K
  have hS : va_S A s.heap s.heap [] := va_S.rf
  have hl := lv_entry ([.ref (ad 0 0), .int p0, .int p1, .int p2, .int p3, .ref o0]) (n := 7) (Nat.le_of_ble_eq_true rfl)
  rw [lg_entry_eq]
  generalize (lg_sl ([.ref (ad 0 0), .int p0, .int p1, .int p2, .int p3, .ref o0]) ++ List.replicate (7 - (lg_sl ([.ref (ad 0 0), .int p0, .int p1, .int p2, .int p3, .ref o0])).length) Slot.unset).toArray = ls at hl ⊢
  have hl : lv_has ls 7 [(0, .ref (ad 0 0)), (1, .int p0), (2, .int p1), (3, .int p2), (4, .int p3), (5, .ref o0)] := hl
  have hP : mP G.1 (mu Mc o0 (.inl (G.2.1 1, 1, .inr (.inl f0)))) s.heap := hP
  refine lv_aload hx hb dL_barometer_0 (lv_at hl 5 rfl) ?_
  refine lv_iconst (v := 0) hx hb dL_barometer_2 (by decide) ?_
  refine lv_aload_n hx hb dL_barometer_3 rfl (lv_at hl 0 rfl) ?_
  refine lv_iload_n hx hb dL_barometer_4 rfl (lv_at hl 1 rfl) ?_
  refine lv_iload_n hx hb dL_barometer_5 rfl (lv_at hl 2 rfl) ?_
  refine lv_iload_n hx hb dL_barometer_6 rfl (lv_at hl 3 rfl) ?_
  refine lv_iload hx hb dL_barometer_7 (lv_at hl 4 rfl) ?_
  have hPd := mP_dn hMo hP
  have hId := mI_dn hMo hI
  have ho9 : o0 < s.heap.size := mP.lt hP (mu_s (M := Mc) (a := o0))
  have hAd : ∀ q : Nat, s.heap.size ≤ q → aN A o0 q := fun q hq => ⟨hA q hq, fun z => by omega⟩
  have hSd : va_S (aN A o0) s.heap s.heap [] := va_S.rf
  refine mn_calli (vx_runV (As := [.int p0, .int p1, .int p2, .int p3]) (rest := [.int 0, .ref o0]) ⟨hx, hb, hml, hown, hts⟩ (c_X4_barometer l G (aN A o0) Mc hl9 st ad p0 p1 p2 p3 hC hV) (cwV 4 hts gL_barometer_X4_barometer rfl rfl rfl (by decide +kernel) ⟨Nat.le_of_ble_eq_true rfl, Nat.le_of_ble_eq_true rfl⟩) (mPreV (GK_aN hG) hSd hPd hId hAd (hPd (ad 0 0) _ (hC.1 0 0 (ok0 st))) (r := (RX4, TX4, 9)) rfl) rfl rfl hl.1 rfl (lv_room (Nat.le_of_ble_eq_true rfl)) dL_barometer_9 ⟨Nat.le_of_ble_eq_true rfl, Nat.le_of_ble_eq_true rfl⟩) hP hI hS (fun E9 ce9 q9 H locs hpx9 hP hS hc9 hv9 hcl9 => ?_) (fun r9 Mw1 H locs hp9 hn9 hP hI hS => ?_)
  · obtain ⟨k9, hk9, hnm9⟩ := hpx9
    have hT : c.exceptionTable.toList = tableOf [(0, 14, 17, 13)] := vx_table (x := yL_barometer) B (hts _ List.mem_cons_self)
    have hrf : (m_barometer st p0 p1 p2 p3).2.2 = st := rf_barometer st p0 p1 p2 p3 (by rw [hk9]; omega)
    match k9, hk9, hnm9 with
    | 0, hk9, hnm9 =>
      cases hnm9
      refine vx_catch (E := "java/lang/IllegalArgumentException") (name := "java/lang/IllegalArgumentException") hown [] ⟨0, 14, 17, 13⟩ [] hT (fun z hz => by cases hz) rfl (by decide) (hts (.classLink RL 13 "java/lang/IllegalArgumentException") (by decide +kernel)) (va_Nw.use rfl (hG.2.1.2.2.2.1 ("java/lang/IllegalArgumentException", "java/lang/IllegalArgumentException") (by decide +kernel))) hc9 hv9 hcl9 ?_
      refine lv_astore (lv' := [(6, .ref q9), (0, .ref (ad 0 0)), (1, .int p0), (2, .int p1), (3, .int p2), (4, .int p3), (5, .ref o0)]) hx hb dL_barometer_17 hl (by decide) rfl (fun ls hl => ?_)
      refine lv_iconst (v := 1) hx hb dL_barometer_19 (by decide) ?_
      refine W.widen (k := 4) (n := 24) (Nat.le_of_ble_eq_true rfl) (Nat.le_of_ble_eq_true rfl) ?_
      refine vx_ret ?_
      exact W.iret (v := 1) hx hb hr (fun t99 ht99 hW99 => ⟨⟨1, (mu Mc o0 (.inl (G.2.1 1, 1, .inr (.inl f0)))), rfl, ⟨ad, Mc, f0, by rw [hk9]; rfl, hMo, rfl, by rw [hrf]; exact hC, rfl, fun z => absurd (hk9.symm.trans z) (by omega)⟩, by rw [ht99]; exact hP, hI⟩, hS.F ht99⟩) hS.2.2 dL_barometer_20
    | (k9 + 1), hk9, hnm9 => cases hnm9
  obtain ⟨s9, ad9, hop, hC9, ha9⟩ := hp9
  have h_O : (mu Mw1 o0 (.inl (G.2.1 1, 1, .inr (.inl f0)))) o0 = some (.inl (G.2.1 1, 1, .inr (.inl f0))) := mu_s
  refine lv_i2l (v := r9.toInt64) hx hb dL_barometer_12 rfl ?_
  refine m_last hx hb hK hP hI hS 1 h_O rfl (show vp_in 0 1 by unfold vp_in; decide) dL_barometer_13 (fun H locs hP hI hS => ?_)
  rw [mu_uu] at hP hI 
  have h_O : (mu Mw1 o0 (.inl (G.2.1 1, 1, .inr (.inl (vf_upd f0 ((0 : Int32).toNatClampNeg) r9.toInt64))))) o0 = some (.inl (G.2.1 1, 1, .inr (.inl (vf_upd f0 ((0 : Int32).toNatClampNeg) r9.toInt64)))) := mu_s
  refine lv_goto (tgt := 21) hx hb dL_barometer_14 (by decide) ?_
  refine lv_iconst (v := 0) hx hb dL_barometer_21 (by decide) ?_
  refine W.widen (k := 4) (n := 24) (Nat.le_of_ble_eq_true rfl) (Nat.le_of_ble_eq_true rfl) ?_
  refine vx_ret ?_
  exact W.iret (v := 0) hx hb hr (fun t99 ht99 hW99 => ⟨⟨0, (mu Mw1 o0 (.inl (G.2.1 1, 1, .inr (.inl (vf_upd f0 ((0 : Int32).toNatClampNeg) r9.toInt64))))), rfl, ⟨ad9, Mw1, _, by rw [hop]; rfl, hn9, rfl, by rw [hop]; exact hC9, ha9, fun _ => vf_0.trans (by rw [hop])⟩, by rw [ht99]; exact hP, hI⟩, hS.F ht99⟩) hS.2.2 dL_barometer_22

theorem rf_certifiedShare (st : St) : (m_certifiedShare st).1 ≠ 0 → (m_certifiedShare st).2.2 = st := by
  unfold m_certifiedShare
  first | exact chk_ref (ref_0) | exact chk_ref (chk_ref (ref_0)) | exact chk_ref (chk_ref (chk_ref (ref_0))) | exact chk_ref (chk_ref (chk_ref (chk_ref (ref_0)))) | exact chk_ref (chk_ref (chk_ref (chk_ref (chk_ref (ref_0))))) | exact chk_ref (chk_ref (chk_ref (chk_ref (chk_ref (chk_ref (ref_0)))))) | exact chk_ref (chk_ref (chk_ref (chk_ref (chk_ref (chk_ref (chk_ref (ref_0)))))))
set_option maxHeartbeats 4000000 in
set_option maxRecDepth 100000 in
theorem c_L_certifiedShare (l : Launch) (G : mg) (A : Nat → Prop) (Mc : mw) (hl9 : l.stackTraces = false) (st : St) (ad : adr) (o0 : Nat) {f0 : Nat → UInt64} (hMo : Mc o0 = none) (hC : CS G st ad Mc) (hV : Inv st) : vx_Met l yL_certifiedShare wsL_certifiedShare ({ frames := 7, cells := 1, slots := 6, locals := 107 }) (va_Pc [.ref (ad 0 0), .ref o0] (mB G A (mu Mc o0 (.inl (G.2.1 2, 1, .inr (.inr (.inr (.inl f0)))))))) (va_Qi (fun r Mw1 => ∃ (ad1 : adr) (Mc1 : mw) (f1 : Nat → UInt64), r = nI (m_certifiedShare st).1 ∧ Mc1 o0 = none ∧ Mw1 = mu Mc1 o0 (.inl (G.2.1 2, 1, .inr (.inr (.inr (.inl f1))))) ∧ CS G (m_certifiedShare st).2.2 ad1 Mc1 ∧ ad1 0 0 = ad 0 0 ∧ ((m_certifiedShare st).1 = 0 → f1 0 = FP.f2d (FP.fdiv (FP.i2f (m_certifiedShare st).2.1) (FP.i2f (nI (nN st)))))) (mE G A) A) (xX (fun _ => False) G A (mu Mc o0 (.inl (G.2.1 2, 1, .inr (.inr (.inr (.inl f0))))))) 1 6 A := by
  refine vx_ofWH (cc := cL_certifiedShare) (maxL := 3) (ret := (some .int)) (by decide) rfl ?_
  intro p e s m args below meth c s₁ B hml hv
  obtain ⟨rfl, hG, hP, hI, hA⟩ := hv
  have hx := B.exec
  have hb := B.bytes
  have hr := B.returns
  have hts := atoms_spec (ws := wsL_certifiedShare) B.pre
  have hown : s.vm.findClass RL = some m.cls := findClass_of_methodNamed B.named
  have hlocks := B.notSynchronized
  have hK := hG.K
  have hS : va_S A s.heap s.heap [] := va_S.rf
  have hl := lv_entry ([.ref (ad 0 0), .ref o0]) (n := 3) (Nat.le_of_ble_eq_true rfl)
  rw [lg_entry_eq]
  generalize (lg_sl ([.ref (ad 0 0), .ref o0]) ++ List.replicate (3 - (lg_sl ([.ref (ad 0 0), .ref o0])).length) Slot.unset).toArray = ls at hl ⊢
  have hl : lv_has ls 3 [(0, .ref (ad 0 0)), (1, .ref o0)] := hl
  have hP : mP G.1 (mu Mc o0 (.inl (G.2.1 2, 1, .inr (.inr (.inr (.inl f0)))))) s.heap := hP
  refine lv_aload_n hx hb dL_certifiedShare_0 rfl (lv_at hl 1 rfl) ?_
  refine lv_iconst (v := 0) hx hb dL_certifiedShare_1 (by decide) ?_
  refine lv_aload_n hx hb dL_certifiedShare_2 rfl (lv_at hl 0 rfl) ?_
  have hPd := mP_dn hMo hP
  have hId := mI_dn hMo hI
  have ho9 : o0 < s.heap.size := mP.lt hP (mu_s (M := Mc) (a := o0))
  have hAd : ∀ q : Nat, s.heap.size ≤ q → aN A o0 q := fun q hq => ⟨hA q hq, fun z => by omega⟩
  have hSd : va_S (aN A o0) s.heap s.heap [] := va_S.rf
  refine mn_callf (vx_runV (As := []) (rest := [.int 0, .ref o0]) ⟨hx, hb, hml, hown, hts⟩ (c_X4_certifiedShare l G (aN A o0) Mc hl9 st ad hC hV) (cwV 0 hts gL_certifiedShare_X4_certifiedShare rfl rfl rfl (by decide +kernel) ⟨Nat.le_of_ble_eq_true rfl, Nat.le_of_ble_eq_true rfl⟩) (mPreV (GK_aN hG) hSd hPd hId hAd (hPd (ad 0 0) _ (hC.1 0 0 (ok0 st))) (r := (RX4, TX4, 9)) rfl) rfl rfl hl.1 rfl (lv_room (Nat.le_of_ble_eq_true rfl)) dL_certifiedShare_3 ⟨Nat.le_of_ble_eq_true rfl, Nat.le_of_ble_eq_true rfl⟩) hP hI hS (fun E9 ce9 q9 H locs hpx9 hP hS hc9 hv9 hcl9 => ?_) (fun r9 Mw1 H locs hp9 hn9 hP hI hS => ?_)
  · obtain ⟨k9, hk9, hnm9⟩ := hpx9
    have hT : c.exceptionTable.toList = tableOf [(0, 8, 11, 34)] := vx_table (x := yL_certifiedShare) B (hts _ List.mem_cons_self)
    have hrf : (m_certifiedShare st).2.2 = st := rf_certifiedShare st (by rw [hk9]; omega)
    match k9, hk9, hnm9 with
    | 0, hk9, hnm9 =>
      cases hnm9
      refine vx_catch (E := "java/util/NoSuchElementException") (name := "java/util/NoSuchElementException") hown [] ⟨0, 8, 11, 34⟩ [] hT (fun z hz => by cases hz) rfl (by decide) (hts (.classLink RL 34 "java/util/NoSuchElementException") (by decide +kernel)) (va_Nw.use rfl (hG.2.1.2.2.2.1 ("java/util/NoSuchElementException", "java/util/NoSuchElementException") (by decide +kernel))) hc9 hv9 hcl9 ?_
      refine lv_astore_n (lv' := [(2, .ref q9), (0, .ref (ad 0 0)), (1, .ref o0)]) hx hb dL_certifiedShare_11 rfl hl (by decide) rfl (fun ls hl => ?_)
      refine lv_iconst (v := 1) hx hb dL_certifiedShare_12 (by decide) ?_
      refine W.widen (k := 1) (n := 6) (Nat.le_of_ble_eq_true rfl) (Nat.le_of_ble_eq_true rfl) ?_
      refine vx_ret ?_
      exact W.iret (v := 1) hx hb hr (fun t99 ht99 hW99 => ⟨⟨1, (mu Mc o0 (.inl (G.2.1 2, 1, .inr (.inr (.inr (.inl f0)))))), rfl, ⟨ad, Mc, f0, by rw [hk9]; rfl, hMo, rfl, by rw [hrf]; exact hC, rfl, fun z => absurd (hk9.symm.trans z) (by omega)⟩, by rw [ht99]; exact hP, hI⟩, hS.F ht99⟩) hS.2.2 dL_certifiedShare_13
    | (k9 + 1), hk9, hnm9 => cases hnm9
  obtain ⟨x9, s9, ad9, hop, hr9, hC9, ha9⟩ := hp9
  have h_O : (mu Mw1 o0 (.inl (G.2.1 2, 1, .inr (.inr (.inr (.inl f0)))))) o0 = some (.inl (G.2.1 2, 1, .inr (.inr (.inr (.inl f0))))) := mu_s
  refine lv_f2d hx hb dL_certifiedShare_6 (by rw [hr9]; exact sh2_n hV hop) ?_
  refine m_dast hx hb hK hP hI hS 2 h_O rfl (show vp_in 0 1 by unfold vp_in; decide) dL_certifiedShare_7 (fun H locs hP hI hS => ?_)
  rw [mu_uu] at hP hI 
  have h_O : (mu Mw1 o0 (.inl (G.2.1 2, 1, .inr (.inr (.inr (.inl (vf_upd f0 ((0 : Int32).toNatClampNeg) (FP.f2d r9)))))))) o0 = some (.inl (G.2.1 2, 1, .inr (.inr (.inr (.inl (vf_upd f0 ((0 : Int32).toNatClampNeg) (FP.f2d r9))))))) := mu_s
  refine lv_goto (tgt := 14) hx hb dL_certifiedShare_8 (by decide) ?_
  refine lv_iconst (v := 0) hx hb dL_certifiedShare_14 (by decide) ?_
  refine W.widen (k := 1) (n := 6) (Nat.le_of_ble_eq_true rfl) (Nat.le_of_ble_eq_true rfl) ?_
  refine vx_ret ?_
  exact W.iret (v := 0) hx hb hr (fun t99 ht99 hW99 => ⟨⟨0, (mu Mw1 o0 (.inl (G.2.1 2, 1, .inr (.inr (.inr (.inl (vf_upd f0 ((0 : Int32).toNatClampNeg) (FP.f2d r9)))))))), rfl, ⟨ad9, Mw1, _, by rw [hop]; rfl, hn9, rfl, by rw [hop]; exact hC9, ha9, fun _ => vf_0d.trans (by rw [hop, hr9])⟩, by rw [ht99]; exact hP, hI⟩, hS.F ht99⟩) hS.2.2 dL_certifiedShare_15

theorem rf_meanError (st : St) (p0 : Int32) : (m_meanError st p0).1 ≠ 0 → (m_meanError st p0).2.2 = st := by
  unfold m_meanError
  first | exact chk_ref (ref_0) | exact chk_ref (chk_ref (ref_0)) | exact chk_ref (chk_ref (chk_ref (ref_0))) | exact chk_ref (chk_ref (chk_ref (chk_ref (ref_0)))) | exact chk_ref (chk_ref (chk_ref (chk_ref (chk_ref (ref_0))))) | exact chk_ref (chk_ref (chk_ref (chk_ref (chk_ref (chk_ref (ref_0)))))) | exact chk_ref (chk_ref (chk_ref (chk_ref (chk_ref (chk_ref (chk_ref (ref_0)))))))
set_option maxHeartbeats 4000000 in
set_option maxRecDepth 100000 in
theorem c_L_meanError (l : Launch) (G : mg) (A : Nat → Prop) (Mc : mw) (hl9 : l.stackTraces = false) (st : St) (ad : adr) (p0 : Int32) (o0 : Nat) {f0 : Nat → UInt64} (hMo : Mc o0 = none) (hC : CS G st ad Mc) (hV : Inv st) : vx_Met l yL_meanError wsL_meanError ({ frames := 8, cells := 2, slots := 12, locals := 125 }) (va_Pc [.ref (ad 0 0), .int p0, .ref o0] (mB G A (mu Mc o0 (.inl (G.2.1 2, 1, .inr (.inr (.inr (.inl f0)))))))) (va_Qi (fun r Mw1 => ∃ (ad1 : adr) (Mc1 : mw) (f1 : Nat → UInt64), r = nI (m_meanError st p0).1 ∧ Mc1 o0 = none ∧ Mw1 = mu Mc1 o0 (.inl (G.2.1 2, 1, .inr (.inr (.inr (.inl f1))))) ∧ CS G (m_meanError st p0).2.2 ad1 Mc1 ∧ ad1 0 0 = ad 0 0 ∧ ((m_meanError st p0).1 = 0 → f1 0 = FP.ddiv (FP.i2d (m_meanError st p0).2.1) (FP.i2d (nI (rnS st (ix p0)))))) (mE G A) A) (xX (fun _ => False) G A (mu Mc o0 (.inl (G.2.1 2, 1, .inr (.inr (.inr (.inl f0))))))) 2 12 A := by
  refine vx_ofWH (cc := cL_meanError) (maxL := 4) (ret := (some .int)) (by decide) rfl ?_
  intro p e s m args below meth c s₁ B hml hv
  obtain ⟨rfl, hG, hP, hI, hA⟩ := hv
  have hx := B.exec
  have hb := B.bytes
  have hr := B.returns
  have hts := atoms_spec (ws := wsL_meanError) B.pre
  have hown : s.vm.findClass RL = some m.cls := findClass_of_methodNamed B.named
  have hlocks := B.notSynchronized
  have hK := hG.K
  have hS : va_S A s.heap s.heap [] := va_S.rf
  have hl := lv_entry ([.ref (ad 0 0), .int p0, .ref o0]) (n := 4) (Nat.le_of_ble_eq_true rfl)
  rw [lg_entry_eq]
  generalize (lg_sl ([.ref (ad 0 0), .int p0, .ref o0]) ++ List.replicate (4 - (lg_sl ([.ref (ad 0 0), .int p0, .ref o0])).length) Slot.unset).toArray = ls at hl ⊢
  have hl : lv_has ls 4 [(0, .ref (ad 0 0)), (1, .int p0), (2, .ref o0)] := hl
  have hP : mP G.1 (mu Mc o0 (.inl (G.2.1 2, 1, .inr (.inr (.inr (.inl f0)))))) s.heap := hP
  refine lv_aload_n hx hb dL_meanError_0 rfl (lv_at hl 2 rfl) ?_
  refine lv_iconst (v := 0) hx hb dL_meanError_1 (by decide) ?_
  refine lv_aload_n hx hb dL_meanError_2 rfl (lv_at hl 0 rfl) ?_
  refine lv_iload_n hx hb dL_meanError_3 rfl (lv_at hl 1 rfl) ?_
  have hPd := mP_dn hMo hP
  have hId := mI_dn hMo hI
  have ho9 : o0 < s.heap.size := mP.lt hP (mu_s (M := Mc) (a := o0))
  have hAd : ∀ q : Nat, s.heap.size ≤ q → aN A o0 q := fun q hq => ⟨hA q hq, fun z => by omega⟩
  have hSd : va_S (aN A o0) s.heap s.heap [] := va_S.rf
  refine mn_calld (vx_runV (As := [.int p0]) (rest := [.int 0, .ref o0]) ⟨hx, hb, hml, hown, hts⟩ (c_X4_meanError l G (aN A o0) Mc hl9 st ad p0 hC hV) (cwV 1 hts gL_meanError_X4_meanError rfl rfl rfl (by decide +kernel) ⟨Nat.le_of_ble_eq_true rfl, Nat.le_of_ble_eq_true rfl⟩) (mPreV (GK_aN hG) hSd hPd hId hAd (hPd (ad 0 0) _ (hC.1 0 0 (ok0 st))) (r := (RX4, TX4, 9)) rfl) rfl rfl hl.1 rfl (lv_room (Nat.le_of_ble_eq_true rfl)) dL_meanError_4 ⟨Nat.le_of_ble_eq_true rfl, Nat.le_of_ble_eq_true rfl⟩) hP hI hS (fun E9 ce9 q9 H locs hpx9 hP hS hc9 hv9 hcl9 => ?_) (fun r9 Mw1 H locs hp9 hn9 hP hI hS => ?_)
  · obtain ⟨k9, hk9, hnm9⟩ := hpx9
    have hT : c.exceptionTable.toList = tableOf [(0, 8, 11, 21), (0, 8, 14, 34)] := vx_table (x := yL_meanError) B (hts _ List.mem_cons_self)
    have hrf : (m_meanError st p0).2.2 = st := rf_meanError st p0 (by rw [hk9]; omega)
    match k9, hk9, hnm9 with
    | 0, hk9, hnm9 =>
      cases hnm9
      refine vx_catch (E := "java/lang/IndexOutOfBoundsException") (name := "java/lang/IndexOutOfBoundsException") hown [] ⟨0, 8, 11, 21⟩ [⟨0, 8, 14, 34⟩] hT (fun z hz => by cases hz) rfl (by decide) (hts (.classLink RL 21 "java/lang/IndexOutOfBoundsException") (by decide +kernel)) (va_Nw.use rfl (hG.2.1.2.2.2.1 ("java/lang/IndexOutOfBoundsException", "java/lang/IndexOutOfBoundsException") (by decide +kernel))) hc9 hv9 hcl9 ?_
      refine lv_astore_n (lv' := [(3, .ref q9), (0, .ref (ad 0 0)), (1, .int p0), (2, .ref o0)]) hx hb dL_meanError_11 rfl hl (by decide) rfl (fun ls hl => ?_)
      refine lv_iconst (v := 1) hx hb dL_meanError_12 (by decide) ?_
      refine W.widen (k := 2) (n := 12) (Nat.le_of_ble_eq_true rfl) (Nat.le_of_ble_eq_true rfl) ?_
      refine vx_ret ?_
      exact W.iret (v := 1) hx hb hr (fun t99 ht99 hW99 => ⟨⟨1, (mu Mc o0 (.inl (G.2.1 2, 1, .inr (.inr (.inr (.inl f0)))))), rfl, ⟨ad, Mc, f0, by rw [hk9]; rfl, hMo, rfl, by rw [hrf]; exact hC, rfl, fun z => absurd (hk9.symm.trans z) (by omega)⟩, by rw [ht99]; exact hP, hI⟩, hS.F ht99⟩) hS.2.2 dL_meanError_13
    | 1, hk9, hnm9 =>
      cases hnm9
      refine vx_catch (E := "java/util/NoSuchElementException") (name := "java/util/NoSuchElementException") hown [⟨0, 8, 11, 21⟩] ⟨0, 8, 14, 34⟩ [] hT (List.forall_mem_cons.mpr ⟨Or.inr ⟨by decide, "java/lang/IndexOutOfBoundsException", hts (.classLink RL 21 "java/lang/IndexOutOfBoundsException") (by decide +kernel), hG.2.1.2.2.2.2.1 ("java/util/NoSuchElementException", "java/lang/IndexOutOfBoundsException") (by decide +kernel)⟩, (fun z hz => by cases hz)⟩) rfl (by decide) (hts (.classLink RL 34 "java/util/NoSuchElementException") (by decide +kernel)) (va_Nw.use rfl (hG.2.1.2.2.2.1 ("java/util/NoSuchElementException", "java/util/NoSuchElementException") (by decide +kernel))) hc9 hv9 hcl9 ?_
      refine lv_astore_n (lv' := [(3, .ref q9), (0, .ref (ad 0 0)), (1, .int p0), (2, .ref o0)]) hx hb dL_meanError_14 rfl hl (by decide) rfl (fun ls hl => ?_)
      refine lv_iconst (v := 2) hx hb dL_meanError_15 (by decide) ?_
      refine W.widen (k := 2) (n := 12) (Nat.le_of_ble_eq_true rfl) (Nat.le_of_ble_eq_true rfl) ?_
      refine vx_ret ?_
      exact W.iret (v := 2) hx hb hr (fun t99 ht99 hW99 => ⟨⟨2, (mu Mc o0 (.inl (G.2.1 2, 1, .inr (.inr (.inr (.inl f0)))))), rfl, ⟨ad, Mc, f0, by rw [hk9]; rfl, hMo, rfl, by rw [hrf]; exact hC, rfl, fun z => absurd (hk9.symm.trans z) (by omega)⟩, by rw [ht99]; exact hP, hI⟩, hS.F ht99⟩) hS.2.2 dL_meanError_16
    | (k9 + 2), hk9, hnm9 => cases hnm9
  obtain ⟨x9, s9, ad9, hop, hr9, hC9, ha9⟩ := hp9
  have h_O : (mu Mw1 o0 (.inl (G.2.1 2, 1, .inr (.inr (.inr (.inl f0)))))) o0 = some (.inl (G.2.1 2, 1, .inr (.inr (.inr (.inl f0))))) := mu_s
  refine m_dast hx hb hK hP hI hS 2 h_O rfl (show vp_in 0 1 by unfold vp_in; decide) dL_meanError_7 (fun H locs hP hI hS => ?_)
  rw [mu_uu] at hP hI 
  have h_O : (mu Mw1 o0 (.inl (G.2.1 2, 1, .inr (.inr (.inr (.inl (vf_upd f0 ((0 : Int32).toNatClampNeg) r9))))))) o0 = some (.inl (G.2.1 2, 1, .inr (.inr (.inr (.inl (vf_upd f0 ((0 : Int32).toNatClampNeg) r9)))))) := mu_s
  refine lv_goto (tgt := 17) hx hb dL_meanError_8 (by decide) ?_
  refine lv_iconst (v := 0) hx hb dL_meanError_17 (by decide) ?_
  refine W.widen (k := 2) (n := 12) (Nat.le_of_ble_eq_true rfl) (Nat.le_of_ble_eq_true rfl) ?_
  refine vx_ret ?_
  exact W.iret (v := 0) hx hb hr (fun t99 ht99 hW99 => ⟨⟨0, (mu Mw1 o0 (.inl (G.2.1 2, 1, .inr (.inr (.inr (.inl (vf_upd f0 ((0 : Int32).toNatClampNeg) r9))))))), rfl, ⟨ad9, Mw1, _, by rw [hop]; rfl, hn9, rfl, by rw [hop]; exact hC9, ha9, fun _ => vf_0d.trans (by rw [hop, hr9])⟩, by rw [ht99]; exact hP, hI⟩, hS.F ht99⟩) hS.2.2 dL_meanError_18
