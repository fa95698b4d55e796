/-- what a wrapper answers -/
def wan (o : Nat × Int32 × St) : Int32 := if o.1 = 0 then o.2.1 else -900000 - nI o.1
theorem wan_0 {r : Int32} {s : St} : wan (0, r, s) = r := rfl
theorem wan_k {o : Nat × Int32 × St} {k : Nat} (h : o.1 = k + 1) : wan o = -900000 - nI (k + 1) := by
  unfold wan
  rw [if_neg (by omega), h]

theorem rf_draw (st : St) (p0 p1 : Int32) : (m_draw st p0 p1).1 ≠ 0 → (m_draw st p0 p1).2.2 = st := by
  unfold m_draw
  first | exact chk_ref (ref_0) | exact chk_ref (chk_ref (ref_0)) | exact chk_ref (chk_ref (chk_ref (ref_0))) | exact chk_ref (chk_ref (chk_ref (chk_ref (ref_0)))) | exact chk_ref (chk_ref (chk_ref (chk_ref (chk_ref (ref_0))))) | exact chk_ref (chk_ref (chk_ref (chk_ref (chk_ref (chk_ref (ref_0)))))) | exact chk_ref (chk_ref (chk_ref (chk_ref (chk_ref (chk_ref (chk_ref (ref_0)))))))
set_option maxHeartbeats 4000000 in
set_option maxRecDepth 100000 in
theorem c_L_draw (l : Launch) (G : mg) (A : Nat → Prop) (Mw : mw) (hl9 : l.stackTraces = false) (st : St) (ad : adr) (p0 p1 : Int32) (hC : CS G st ad Mw) (hV : Inv st) : vx_Met l yL_draw wsL_draw ({ frames := 8, cells := 4, slots := 34, locals := 127 }) (va_Pc [.ref (ad 0 0), .int p0, .int p1] (mB G A Mw)) (va_Qi (fun r Mw1 => ∃ ad1 : adr, r = wan (m_draw st p0 p1) ∧ CS G (m_draw st p0 p1).2.2 ad1 Mw1 ∧ ad1 0 0 = ad 0 0) (mE G A) A) (xX (fun _ => False) G A Mw) 4 34 A := by
  refine vx_ofWH (cc := cL_draw) (maxL := 4) (ret := (some .int)) (by decide) rfl ?_
  intro p e s m args below meth c s₁ B hml hv
  obtain ⟨rfl, hG, hP, hI, hA⟩ := hv
  have hx := B.exec
  have hb := B.bytes
  have hr := B.returns
  have hts := atoms_spec (ws := wsL_draw) B.pre
  have hown : s.vm.findClass RL = some m.cls := findClass_of_methodNamed B.named
  have hlocks := B.notSynchronized
  have hK := hG.K
  have hS : va_S A s.heap s.heap [] := va_S.rf
  have hl := lv_entry ([.ref (ad 0 0), .int p0, .int p1]) (n := 4) (Nat.le_of_ble_eq_true rfl)
  rw [lg_entry_eq]
  generalize (lg_sl ([.ref (ad 0 0), .int p0, .int p1]) ++ List.replicate (4 - (lg_sl ([.ref (ad 0 0), .int p0, .int p1])).length) Slot.unset).toArray = ls at hl ⊢
  have hl : lv_has ls 4 [(0, .ref (ad 0 0)), (1, .int p0), (2, .int p1)] := hl
  have hP : mP G.1 Mw s.heap := hP
  refine lv_aload_n hx hb dL_draw_0 rfl (lv_at hl 0 rfl) ?_
  refine lv_iload_n hx hb dL_draw_1 rfl (lv_at hl 1 rfl) ?_
  refine lv_iload_n hx hb dL_draw_2 rfl (lv_at hl 2 rfl) ?_
  refine mx_calli (vx_runV (As := [.int p0, .int p1]) (rest := []) ⟨hx, hb, hml, hown, hts⟩ (c_X4_draw l G A Mw hl9 st ad p0 p1 hC hV) (cwV 2 hts gL_draw_X4_draw rfl rfl rfl (by decide +kernel) ⟨Nat.le_of_ble_eq_true rfl, Nat.le_of_ble_eq_true rfl⟩) (mPreV hG hS hP hI hA (hP (ad 0 0) _ (hC.1 0 0 (ok0 st))) (r := (RX4, TX4, 9)) rfl) rfl rfl hl.1 rfl (lv_room (Nat.le_of_ble_eq_true rfl)) dL_draw_3 ⟨Nat.le_of_ble_eq_true rfl, Nat.le_of_ble_eq_true rfl⟩) hS (fun E9 ce9 q9 H locs hpx9 hP hI hS hc9 hv9 hcl9 => ?_) (fun r9 Mw1 H locs hp9 hP hI hS => ?_)
  · obtain ⟨k9, hk9, hnm9⟩ := hpx9
    have hT : c.exceptionTable.toList = tableOf [(0, 6, 7, 15), (0, 6, 11, 18)] := vx_table (x := yL_draw) B (hts _ List.mem_cons_self)
    have hrf : (m_draw st p0 p1).2.2 = st := rf_draw st p0 p1 (by rw [hk9]; omega)
    match k9, hk9, hnm9 with
    | 0, hk9, hnm9 =>
      cases hnm9
      refine vx_catch (E := "java/lang/IllegalArgumentException") (name := "java/lang/IllegalArgumentException") hown [] ⟨0, 6, 7, 15⟩ [⟨0, 6, 11, 18⟩] hT (fun z hz => by cases hz) rfl (by decide) (hts (.classLink RL 15 "java/lang/IllegalArgumentException") (by decide +kernel)) (va_Nw.use rfl (hG.2.1.2.2.2.1 ("java/lang/IllegalArgumentException", "java/lang/IllegalArgumentException") (by decide +kernel))) hc9 hv9 hcl9 ?_
      refine lv_astore_n (lv' := [(3, .ref q9), (0, .ref (ad 0 0)), (1, .int p0), (2, .int p1)]) hx hb dL_draw_7 rfl hl (by decide) rfl (fun ls hl => ?_)
      refine lv_ldc (v := (-900001)) hx hb hown (hts (.constant RL 17 (-900001)) (by decide +kernel)) dL_draw_8 ?_
      refine W.widen (k := 4) (n := 34) (Nat.le_of_ble_eq_true rfl) (Nat.le_of_ble_eq_true rfl) ?_
      refine vx_ret ?_
      exact W.iret (v := (-900001)) hx hb hr (fun t99 ht99 hW99 => ⟨⟨(-900001), Mw, rfl, ⟨ad, by rw [wan_k hk9]; rfl, by rw [hrf]; exact hC, rfl⟩, by rw [ht99]; exact hP, hI⟩, hS.F ht99⟩) hS.2.2 dL_draw_10
    | 1, hk9, hnm9 =>
      cases hnm9
      refine vx_catch (E := "java/lang/IllegalStateException") (name := "java/lang/IllegalStateException") hown [⟨0, 6, 7, 15⟩] ⟨0, 6, 11, 18⟩ [] hT (List.forall_mem_cons.mpr ⟨Or.inr ⟨by decide, "java/lang/IllegalArgumentException", hts (.classLink RL 15 "java/lang/IllegalArgumentException") (by decide +kernel), hG.2.1.2.2.2.2.1 ("java/lang/IllegalStateException", "java/lang/IllegalArgumentException") (by decide +kernel)⟩, (fun z hz => by cases hz)⟩) rfl (by decide) (hts (.classLink RL 18 "java/lang/IllegalStateException") (by decide +kernel)) (va_Nw.use rfl (hG.2.1.2.2.2.1 ("java/lang/IllegalStateException", "java/lang/IllegalStateException") (by decide +kernel))) hc9 hv9 hcl9 ?_
      refine lv_astore_n (lv' := [(3, .ref q9), (0, .ref (ad 0 0)), (1, .int p0), (2, .int p1)]) hx hb dL_draw_11 rfl hl (by decide) rfl (fun ls hl => ?_)
      refine lv_ldc (v := (-900002)) hx hb hown (hts (.constant RL 20 (-900002)) (by decide +kernel)) dL_draw_12 ?_
      refine W.widen (k := 4) (n := 34) (Nat.le_of_ble_eq_true rfl) (Nat.le_of_ble_eq_true rfl) ?_
      refine vx_ret ?_
      exact W.iret (v := (-900002)) hx hb hr (fun t99 ht99 hW99 => ⟨⟨(-900002), Mw, rfl, ⟨ad, by rw [wan_k hk9]; rfl, by rw [hrf]; exact hC, rfl⟩, by rw [ht99]; exact hP, hI⟩, hS.F ht99⟩) hS.2.2 dL_draw_14
    | (k9 + 2), hk9, hnm9 => cases hnm9
  obtain ⟨s9, ad9, hop, hC9, ha9⟩ := hp9
  refine W.widen (k := 4) (n := 34) (Nat.le_of_ble_eq_true rfl) (Nat.le_of_ble_eq_true rfl) ?_
  refine vx_ret ?_
  exact W.iret (v := r9) hx hb hr (fun t99 ht99 hW99 => ⟨⟨r9, Mw1, rfl, ⟨ad9, by rw [hop]; rfl, by rw [hop]; exact hC9, ha9⟩, by rw [ht99]; exact hP, hI⟩, hS.F ht99⟩) hS.2.2 dL_draw_6

theorem rf_section (st : St) (p0 p1 p2 : Int32) : (m_section st p0 p1 p2).1 ≠ 0 → (m_section st p0 p1 p2).2.2 = st := by
  unfold m_section
  first | exact chk_ref (ref_0) | exact chk_ref (chk_ref (ref_0)) | exact chk_ref (chk_ref (chk_ref (ref_0))) | exact chk_ref (chk_ref (chk_ref (chk_ref (ref_0)))) | exact chk_ref (chk_ref (chk_ref (chk_ref (chk_ref (ref_0))))) | exact chk_ref (chk_ref (chk_ref (chk_ref (chk_ref (chk_ref (ref_0)))))) | exact chk_ref (chk_ref (chk_ref (chk_ref (chk_ref (chk_ref (chk_ref (ref_0)))))))
set_option maxHeartbeats 4000000 in
set_option maxRecDepth 100000 in
theorem c_L_section (l : Launch) (G : mg) (A : Nat → Prop) (Mw : mw) (hl9 : l.stackTraces = false) (st : St) (ad : adr) (p0 p1 p2 : Int32) (hC : CS G st ad Mw) (hV : Inv st) : vx_Met l yL_section wsL_section ({ frames := 8, cells := 4, slots := 24, locals := 129 }) (va_Pc [.ref (ad 0 0), .int p0, .int p1, .int p2] (mB G A Mw)) (va_Qi (fun r Mw1 => ∃ ad1 : adr, r = wan (m_section st p0 p1 p2) ∧ CS G (m_section st p0 p1 p2).2.2 ad1 Mw1 ∧ ad1 0 0 = ad 0 0) (mE G A) A) (xX (fun _ => False) G A Mw) 4 24 A := by
  refine vx_ofWH (cc := cL_section) (maxL := 5) (ret := (some .int)) (by decide) rfl ?_
  intro p e s m args below meth c s₁ B hml hv
  obtain ⟨rfl, hG, hP, hI, hA⟩ := hv
  have hx := B.exec
  have hb := B.bytes
  have hr := B.returns
  have hts := atoms_spec (ws := wsL_section) B.pre
  have hown : s.vm.findClass RL = some m.cls := findClass_of_methodNamed B.named
  have hlocks := B.notSynchronized
  have hK := hG.K
  have hS : va_S A s.heap s.heap [] := va_S.rf
  have hl := lv_entry ([.ref (ad 0 0), .int p0, .int p1, .int p2]) (n := 5) (Nat.le_of_ble_eq_true rfl)
  rw [lg_entry_eq]
  generalize (lg_sl ([.ref (ad 0 0), .int p0, .int p1, .int p2]) ++ List.replicate (5 - (lg_sl ([.ref (ad 0 0), .int p0, .int p1, .int p2])).length) Slot.unset).toArray = ls at hl ⊢
  have hl : lv_has ls 5 [(0, .ref (ad 0 0)), (1, .int p0), (2, .int p1), (3, .int p2)] := hl
  have hP : mP G.1 Mw s.heap := hP
  refine lv_aload_n hx hb dL_section_0 rfl (lv_at hl 0 rfl) ?_
  refine lv_iload_n hx hb dL_section_1 rfl (lv_at hl 1 rfl) ?_
  refine lv_iload_n hx hb dL_section_2 rfl (lv_at hl 2 rfl) ?_
  refine lv_iload_n hx hb dL_section_3 rfl (lv_at hl 3 rfl) ?_
  refine mx_calli (vx_runV (As := [.int p0, .int p1, .int p2]) (rest := []) ⟨hx, hb, hml, hown, hts⟩ (c_X4_section l G A Mw hl9 st ad p0 p1 p2 hC hV) (cwV 3 hts gL_section_X4_section rfl rfl rfl (by decide +kernel) ⟨Nat.le_of_ble_eq_true rfl, Nat.le_of_ble_eq_true rfl⟩) (mPreV hG hS hP hI hA (hP (ad 0 0) _ (hC.1 0 0 (ok0 st))) (r := (RX4, TX4, 9)) rfl) rfl rfl hl.1 rfl (lv_room (Nat.le_of_ble_eq_true rfl)) dL_section_4 ⟨Nat.le_of_ble_eq_true rfl, Nat.le_of_ble_eq_true rfl⟩) hS (fun E9 ce9 q9 H locs hpx9 hP hI hS hc9 hv9 hcl9 => ?_) (fun r9 Mw1 H locs hp9 hP hI hS => ?_)
  · obtain ⟨k9, hk9, hnm9⟩ := hpx9
    have hT : c.exceptionTable.toList = tableOf [(0, 7, 8, 25), (0, 7, 13, 15), (0, 7, 18, 27)] := vx_table (x := yL_section) B (hts _ List.mem_cons_self)
    have hrf : (m_section st p0 p1 p2).2.2 = st := rf_section st p0 p1 p2 (by rw [hk9]; omega)
    match k9, hk9, hnm9 with
    | 0, hk9, hnm9 =>
      cases hnm9
      refine vx_catch (E := "java/lang/IndexOutOfBoundsException") (name := "java/lang/IndexOutOfBoundsException") hown [] ⟨0, 7, 8, 25⟩ [⟨0, 7, 13, 15⟩, ⟨0, 7, 18, 27⟩] hT (fun z hz => by cases hz) rfl (by decide) (hts (.classLink RL 25 "java/lang/IndexOutOfBoundsException") (by decide +kernel)) (va_Nw.use rfl (hG.2.1.2.2.2.1 ("java/lang/IndexOutOfBoundsException", "java/lang/IndexOutOfBoundsException") (by decide +kernel))) hc9 hv9 hcl9 ?_
      refine lv_astore (lv' := [(4, .ref q9), (0, .ref (ad 0 0)), (1, .int p0), (2, .int p1), (3, .int p2)]) hx hb dL_section_8 hl (by decide) rfl (fun ls hl => ?_)
      refine lv_ldc (v := (-900001)) hx hb hown (hts (.constant RL 17 (-900001)) (by decide +kernel)) dL_section_10 ?_
      refine W.widen (k := 4) (n := 24) (Nat.le_of_ble_eq_true rfl) (Nat.le_of_ble_eq_true rfl) ?_
      refine vx_ret ?_
      exact W.iret (v := (-900001)) hx hb hr (fun t99 ht99 hW99 => ⟨⟨(-900001), Mw, rfl, ⟨ad, by rw [wan_k hk9]; rfl, by rw [hrf]; exact hC, rfl⟩, by rw [ht99]; exact hP, hI⟩, hS.F ht99⟩) hS.2.2 dL_section_12
    | 1, hk9, hnm9 =>
      cases hnm9
      refine vx_catch (E := "java/lang/IllegalArgumentException") (name := "java/lang/IllegalArgumentException") hown [⟨0, 7, 8, 25⟩] ⟨0, 7, 13, 15⟩ [⟨0, 7, 18, 27⟩] hT (List.forall_mem_cons.mpr ⟨Or.inr ⟨by decide, "java/lang/IndexOutOfBoundsException", hts (.classLink RL 25 "java/lang/IndexOutOfBoundsException") (by decide +kernel), hG.2.1.2.2.2.2.1 ("java/lang/IllegalArgumentException", "java/lang/IndexOutOfBoundsException") (by decide +kernel)⟩, (fun z hz => by cases hz)⟩) rfl (by decide) (hts (.classLink RL 15 "java/lang/IllegalArgumentException") (by decide +kernel)) (va_Nw.use rfl (hG.2.1.2.2.2.1 ("java/lang/IllegalArgumentException", "java/lang/IllegalArgumentException") (by decide +kernel))) hc9 hv9 hcl9 ?_
      refine lv_astore (lv' := [(4, .ref q9), (0, .ref (ad 0 0)), (1, .int p0), (2, .int p1), (3, .int p2)]) hx hb dL_section_13 hl (by decide) rfl (fun ls hl => ?_)
      refine lv_ldc (v := (-900002)) hx hb hown (hts (.constant RL 20 (-900002)) (by decide +kernel)) dL_section_15 ?_
      refine W.widen (k := 4) (n := 24) (Nat.le_of_ble_eq_true rfl) (Nat.le_of_ble_eq_true rfl) ?_
      refine vx_ret ?_
      exact W.iret (v := (-900002)) hx hb hr (fun t99 ht99 hW99 => ⟨⟨(-900002), Mw, rfl, ⟨ad, by rw [wan_k hk9]; rfl, by rw [hrf]; exact hC, rfl⟩, by rw [ht99]; exact hP, hI⟩, hS.F ht99⟩) hS.2.2 dL_section_17
    | 2, hk9, hnm9 =>
      cases hnm9
      refine vx_catch (E := "java/lang/UnsupportedOperationException") (name := "java/lang/UnsupportedOperationException") hown [⟨0, 7, 8, 25⟩, ⟨0, 7, 13, 15⟩] ⟨0, 7, 18, 27⟩ [] hT (List.forall_mem_cons.mpr ⟨Or.inr ⟨by decide, "java/lang/IndexOutOfBoundsException", hts (.classLink RL 25 "java/lang/IndexOutOfBoundsException") (by decide +kernel), hG.2.1.2.2.2.2.1 ("java/lang/UnsupportedOperationException", "java/lang/IndexOutOfBoundsException") (by decide +kernel)⟩, (List.forall_mem_cons.mpr ⟨Or.inr ⟨by decide, "java/lang/IllegalArgumentException", hts (.classLink RL 15 "java/lang/IllegalArgumentException") (by decide +kernel), hG.2.1.2.2.2.2.1 ("java/lang/UnsupportedOperationException", "java/lang/IllegalArgumentException") (by decide +kernel)⟩, (fun z hz => by cases hz)⟩)⟩) rfl (by decide) (hts (.classLink RL 27 "java/lang/UnsupportedOperationException") (by decide +kernel)) (va_Nw.use rfl (hG.2.1.2.2.2.1 ("java/lang/UnsupportedOperationException", "java/lang/UnsupportedOperationException") (by decide +kernel))) hc9 hv9 hcl9 ?_
      refine lv_astore (lv' := [(4, .ref q9), (0, .ref (ad 0 0)), (1, .int p0), (2, .int p1), (3, .int p2)]) hx hb dL_section_18 hl (by decide) rfl (fun ls hl => ?_)
      refine lv_ldc (v := (-900003)) hx hb hown (hts (.constant RL 29 (-900003)) (by decide +kernel)) dL_section_20 ?_
      refine W.widen (k := 4) (n := 24) (Nat.le_of_ble_eq_true rfl) (Nat.le_of_ble_eq_true rfl) ?_
      refine vx_ret ?_
      exact W.iret (v := (-900003)) hx hb hr (fun t99 ht99 hW99 => ⟨⟨(-900003), Mw, rfl, ⟨ad, by rw [wan_k hk9]; rfl, by rw [hrf]; exact hC, rfl⟩, by rw [ht99]; exact hP, hI⟩, hS.F ht99⟩) hS.2.2 dL_section_22
    | (k9 + 3), hk9, hnm9 => cases hnm9
  obtain ⟨s9, ad9, hop, hC9, ha9⟩ := hp9
  refine W.widen (k := 4) (n := 24) (Nat.le_of_ble_eq_true rfl) (Nat.le_of_ble_eq_true rfl) ?_
  refine vx_ret ?_
  exact W.iret (v := r9) hx hb hr (fun t99 ht99 hW99 => ⟨⟨r9, Mw1, rfl, ⟨ad9, by rw [hop]; rfl, by rw [hop]; exact hC9, ha9⟩, by rw [ht99]; exact hP, hI⟩, hS.F ht99⟩) hS.2.2 dL_section_7

theorem rf_bore (st : St) (p0 p1 : Int32) : (m_bore st p0 p1).1 ≠ 0 → (m_bore st p0 p1).2.2 = st := by
  unfold m_bore
  first | exact chk_ref (ref_0) | exact chk_ref (chk_ref (ref_0)) | exact chk_ref (chk_ref (chk_ref (ref_0))) | exact chk_ref (chk_ref (chk_ref (chk_ref (ref_0)))) | exact chk_ref (chk_ref (chk_ref (chk_ref (chk_ref (ref_0))))) | exact chk_ref (chk_ref (chk_ref (chk_ref (chk_ref (chk_ref (ref_0)))))) | exact chk_ref (chk_ref (chk_ref (chk_ref (chk_ref (chk_ref (chk_ref (ref_0)))))))
set_option maxHeartbeats 4000000 in
set_option maxRecDepth 100000 in
theorem c_L_bore (l : Launch) (G : mg) (A : Nat → Prop) (Mw : mw) (hl9 : l.stackTraces = false) (st : St) (ad : adr) (p0 p1 : Int32) (hC : CS G st ad Mw) (hV : Inv st) : vx_Met l yL_bore wsL_bore ({ frames := 8, cells := 2, slots := 12, locals := 127 }) (va_Pc [.ref (ad 0 0), .int p0, .int p1] (mB G A Mw)) (va_Qi (fun r Mw1 => ∃ ad1 : adr, r = wan (m_bore st p0 p1) ∧ CS G (m_bore st p0 p1).2.2 ad1 Mw1 ∧ ad1 0 0 = ad 0 0) (mE G A) A) (xX (fun _ => False) G A Mw) 2 12 A := by
  refine vx_ofWH (cc := cL_bore) (maxL := 4) (ret := (some .int)) (by decide) rfl ?_
  intro p e s m args below meth c s₁ B hml hv
  obtain ⟨rfl, hG, hP, hI, hA⟩ := hv
  have hx := B.exec
  have hb := B.bytes
  have hr := B.returns
  have hts := atoms_spec (ws := wsL_bore) B.pre
  have hown : s.vm.findClass RL = some m.cls := findClass_of_methodNamed B.named
  have hlocks := B.notSynchronized
  have hK := hG.K
  have hS : va_S A s.heap s.heap [] := va_S.rf
  have hl := lv_entry ([.ref (ad 0 0), .int p0, .int p1]) (n := 4) (Nat.le_of_ble_eq_true rfl)
  rw [lg_entry_eq]
  generalize (lg_sl ([.ref (ad 0 0), .int p0, .int p1]) ++ List.replicate (4 - (lg_sl ([.ref (ad 0 0), .int p0, .int p1])).length) Slot.unset).toArray = ls at hl ⊢
  have hl : lv_has ls 4 [(0, .ref (ad 0 0)), (1, .int p0), (2, .int p1)] := hl
  have hP : mP G.1 Mw s.heap := hP
  refine lv_aload_n hx hb dL_bore_0 rfl (lv_at hl 0 rfl) ?_
  refine lv_iload_n hx hb dL_bore_1 rfl (lv_at hl 1 rfl) ?_
  refine lv_iload_n hx hb dL_bore_2 rfl (lv_at hl 2 rfl) ?_
  refine mx_calli (vx_runV (As := [.int p0, .int p1]) (rest := []) ⟨hx, hb, hml, hown, hts⟩ (c_X4_bore l G A Mw hl9 st ad p0 p1 hC hV) (cwV 2 hts gL_bore_X4_bore rfl rfl rfl (by decide +kernel) ⟨Nat.le_of_ble_eq_true rfl, Nat.le_of_ble_eq_true rfl⟩) (mPreV hG hS hP hI hA (hP (ad 0 0) _ (hC.1 0 0 (ok0 st))) (r := (RX4, TX4, 9)) rfl) rfl rfl hl.1 rfl (lv_room (Nat.le_of_ble_eq_true rfl)) dL_bore_3 ⟨Nat.le_of_ble_eq_true rfl, Nat.le_of_ble_eq_true rfl⟩) hS (fun E9 ce9 q9 H locs hpx9 hP hI hS hc9 hv9 hcl9 => ?_) (fun r9 Mw1 H locs hp9 hP hI hS => ?_)
  · obtain ⟨k9, hk9, hnm9⟩ := hpx9
    have hT : c.exceptionTable.toList = tableOf [(0, 6, 7, 25), (0, 6, 11, 15)] := vx_table (x := yL_bore) B (hts _ List.mem_cons_self)
    have hrf : (m_bore st p0 p1).2.2 = st := rf_bore st p0 p1 (by rw [hk9]; omega)
    match k9, hk9, hnm9 with
    | 0, hk9, hnm9 =>
      cases hnm9
      refine vx_catch (E := "java/lang/IndexOutOfBoundsException") (name := "java/lang/IndexOutOfBoundsException") hown [] ⟨0, 6, 7, 25⟩ [⟨0, 6, 11, 15⟩] hT (fun z hz => by cases hz) rfl (by decide) (hts (.classLink RL 25 "java/lang/IndexOutOfBoundsException") (by decide +kernel)) (va_Nw.use rfl (hG.2.1.2.2.2.1 ("java/lang/IndexOutOfBoundsException", "java/lang/IndexOutOfBoundsException") (by decide +kernel))) hc9 hv9 hcl9 ?_
      refine lv_astore_n (lv' := [(3, .ref q9), (0, .ref (ad 0 0)), (1, .int p0), (2, .int p1)]) hx hb dL_bore_7 rfl hl (by decide) rfl (fun ls hl => ?_)
      refine lv_ldc (v := (-900001)) hx hb hown (hts (.constant RL 17 (-900001)) (by decide +kernel)) dL_bore_8 ?_
      refine W.widen (k := 2) (n := 12) (Nat.le_of_ble_eq_true rfl) (Nat.le_of_ble_eq_true rfl) ?_
      refine vx_ret ?_
      exact W.iret (v := (-900001)) hx hb hr (fun t99 ht99 hW99 => ⟨⟨(-900001), Mw, rfl, ⟨ad, by rw [wan_k hk9]; rfl, by rw [hrf]; exact hC, rfl⟩, by rw [ht99]; exact hP, hI⟩, hS.F ht99⟩) hS.2.2 dL_bore_10
    | 1, hk9, hnm9 =>
      cases hnm9
      refine vx_catch (E := "java/lang/IllegalArgumentException") (name := "java/lang/IllegalArgumentException") hown [⟨0, 6, 7, 25⟩] ⟨0, 6, 11, 15⟩ [] hT (List.forall_mem_cons.mpr ⟨Or.inr ⟨by decide, "java/lang/IndexOutOfBoundsException", hts (.classLink RL 25 "java/lang/IndexOutOfBoundsException") (by decide +kernel), hG.2.1.2.2.2.2.1 ("java/lang/IllegalArgumentException", "java/lang/IndexOutOfBoundsException") (by decide +kernel)⟩, (fun z hz => by cases hz)⟩) rfl (by decide) (hts (.classLink RL 15 "java/lang/IllegalArgumentException") (by decide +kernel)) (va_Nw.use rfl (hG.2.1.2.2.2.1 ("java/lang/IllegalArgumentException", "java/lang/IllegalArgumentException") (by decide +kernel))) hc9 hv9 hcl9 ?_
      refine lv_astore_n (lv' := [(3, .ref q9), (0, .ref (ad 0 0)), (1, .int p0), (2, .int p1)]) hx hb dL_bore_11 rfl hl (by decide) rfl (fun ls hl => ?_)
      refine lv_ldc (v := (-900002)) hx hb hown (hts (.constant RL 20 (-900002)) (by decide +kernel)) dL_bore_12 ?_
      refine W.widen (k := 2) (n := 12) (Nat.le_of_ble_eq_true rfl) (Nat.le_of_ble_eq_true rfl) ?_
      refine vx_ret ?_
      exact W.iret (v := (-900002)) hx hb hr (fun t99 ht99 hW99 => ⟨⟨(-900002), Mw, rfl, ⟨ad, by rw [wan_k hk9]; rfl, by rw [hrf]; exact hC, rfl⟩, by rw [ht99]; exact hP, hI⟩, hS.F ht99⟩) hS.2.2 dL_bore_14
    | (k9 + 2), hk9, hnm9 => cases hnm9
  obtain ⟨s9, ad9, hop, hC9, ha9⟩ := hp9
  refine W.widen (k := 2) (n := 12) (Nat.le_of_ble_eq_true rfl) (Nat.le_of_ble_eq_true rfl) ?_
  refine vx_ret ?_
  exact W.iret (v := r9) hx hb hr (fun t99 ht99 hW99 => ⟨⟨r9, Mw1, rfl, ⟨ad9, by rw [hop]; rfl, by rw [hop]; exact hC9, ha9⟩, by rw [ht99]; exact hP, hI⟩, hS.F ht99⟩) hS.2.2 dL_bore_6

theorem rf_volume (st : St) (p0 p1 : Int32) : (m_volume st p0 p1).1 ≠ 0 → (m_volume st p0 p1).2.2 = st := by
  unfold m_volume
  first | exact chk_ref (ref_0) | exact chk_ref (chk_ref (ref_0)) | exact chk_ref (chk_ref (chk_ref (ref_0))) | exact chk_ref (chk_ref (chk_ref (chk_ref (ref_0)))) | exact chk_ref (chk_ref (chk_ref (chk_ref (chk_ref (ref_0))))) | exact chk_ref (chk_ref (chk_ref (chk_ref (chk_ref (chk_ref (ref_0)))))) | exact chk_ref (chk_ref (chk_ref (chk_ref (chk_ref (chk_ref (chk_ref (ref_0)))))))
set_option maxHeartbeats 4000000 in
set_option maxRecDepth 100000 in
theorem c_L_volume (l : Launch) (G : mg) (A : Nat → Prop) (Mw : mw) (hl9 : l.stackTraces = false) (st : St) (ad : adr) (p0 p1 : Int32) (hC : CS G st ad Mw) (hV : Inv st) : vx_Met l yL_volume wsL_volume ({ frames := 9, cells := 2, slots := 12, locals := 147 }) (va_Pc [.ref (ad 0 0), .int p0, .int p1] (mB G A Mw)) (va_Qi (fun r Mw1 => ∃ ad1 : adr, r = wan (m_volume st p0 p1) ∧ CS G (m_volume st p0 p1).2.2 ad1 Mw1 ∧ ad1 0 0 = ad 0 0) (mE G A) A) (xX (fun _ => False) G A Mw) 2 12 A := by
  refine vx_ofWH (cc := cL_volume) (maxL := 4) (ret := (some .int)) (by decide) rfl ?_
  intro p e s m args below meth c s₁ B hml hv
  obtain ⟨rfl, hG, hP, hI, hA⟩ := hv
  have hx := B.exec
  have hb := B.bytes
  have hr := B.returns
  have hts := atoms_spec (ws := wsL_volume) B.pre
  have hown : s.vm.findClass RL = some m.cls := findClass_of_methodNamed B.named
  have hlocks := B.notSynchronized
  have hK := hG.K
  have hS : va_S A s.heap s.heap [] := va_S.rf
  have hl := lv_entry ([.ref (ad 0 0), .int p0, .int p1]) (n := 4) (Nat.le_of_ble_eq_true rfl)
  rw [lg_entry_eq]
  generalize (lg_sl ([.ref (ad 0 0), .int p0, .int p1]) ++ List.replicate (4 - (lg_sl ([.ref (ad 0 0), .int p0, .int p1])).length) Slot.unset).toArray = ls at hl ⊢
  have hl : lv_has ls 4 [(0, .ref (ad 0 0)), (1, .int p0), (2, .int p1)] := hl
  have hP : mP G.1 Mw s.heap := hP
  refine lv_aload_n hx hb dL_volume_0 rfl (lv_at hl 0 rfl) ?_
  refine lv_iload_n hx hb dL_volume_1 rfl (lv_at hl 1 rfl) ?_
  refine lv_iload_n hx hb dL_volume_2 rfl (lv_at hl 2 rfl) ?_
  refine mx_calli (vx_runV (As := [.int p0, .int p1]) (rest := []) ⟨hx, hb, hml, hown, hts⟩ (c_X4_volume l G A Mw hl9 st ad p0 p1 hC hV) (cwV 2 hts gL_volume_X4_volume rfl rfl rfl (by decide +kernel) ⟨Nat.le_of_ble_eq_true rfl, Nat.le_of_ble_eq_true rfl⟩) (mPreV hG hS hP hI hA (hP (ad 0 0) _ (hC.1 0 0 (ok0 st))) (r := (RX4, TX4, 9)) rfl) rfl rfl hl.1 rfl (lv_room (Nat.le_of_ble_eq_true rfl)) dL_volume_3 ⟨Nat.le_of_ble_eq_true rfl, Nat.le_of_ble_eq_true rfl⟩) hS (fun E9 ce9 q9 H locs hpx9 hP hI hS hc9 hv9 hcl9 => ?_) (fun r9 Mw1 H locs hp9 hP hI hS => ?_)
  · obtain ⟨k9, hk9, hnm9⟩ := hpx9
    have hT : c.exceptionTable.toList = tableOf [(0, 6, 7, 25), (0, 6, 11, 15)] := vx_table (x := yL_volume) B (hts _ List.mem_cons_self)
    have hrf : (m_volume st p0 p1).2.2 = st := rf_volume st p0 p1 (by rw [hk9]; omega)
    match k9, hk9, hnm9 with
    | 0, hk9, hnm9 =>
      cases hnm9
      refine vx_catch (E := "java/lang/IndexOutOfBoundsException") (name := "java/lang/IndexOutOfBoundsException") hown [] ⟨0, 6, 7, 25⟩ [⟨0, 6, 11, 15⟩] hT (fun z hz => by cases hz) rfl (by decide) (hts (.classLink RL 25 "java/lang/IndexOutOfBoundsException") (by decide +kernel)) (va_Nw.use rfl (hG.2.1.2.2.2.1 ("java/lang/IndexOutOfBoundsException", "java/lang/IndexOutOfBoundsException") (by decide +kernel))) hc9 hv9 hcl9 ?_
      refine lv_astore_n (lv' := [(3, .ref q9), (0, .ref (ad 0 0)), (1, .int p0), (2, .int p1)]) hx hb dL_volume_7 rfl hl (by decide) rfl (fun ls hl => ?_)
      refine lv_ldc (v := (-900001)) hx hb hown (hts (.constant RL 17 (-900001)) (by decide +kernel)) dL_volume_8 ?_
      refine W.widen (k := 2) (n := 12) (Nat.le_of_ble_eq_true rfl) (Nat.le_of_ble_eq_true rfl) ?_
      refine vx_ret ?_
      exact W.iret (v := (-900001)) hx hb hr (fun t99 ht99 hW99 => ⟨⟨(-900001), Mw, rfl, ⟨ad, by rw [wan_k hk9]; rfl, by rw [hrf]; exact hC, rfl⟩, by rw [ht99]; exact hP, hI⟩, hS.F ht99⟩) hS.2.2 dL_volume_10
    | 1, hk9, hnm9 =>
      cases hnm9
      refine vx_catch (E := "java/lang/IllegalArgumentException") (name := "java/lang/IllegalArgumentException") hown [⟨0, 6, 7, 25⟩] ⟨0, 6, 11, 15⟩ [] hT (List.forall_mem_cons.mpr ⟨Or.inr ⟨by decide, "java/lang/IndexOutOfBoundsException", hts (.classLink RL 25 "java/lang/IndexOutOfBoundsException") (by decide +kernel), hG.2.1.2.2.2.2.1 ("java/lang/IllegalArgumentException", "java/lang/IndexOutOfBoundsException") (by decide +kernel)⟩, (fun z hz => by cases hz)⟩) rfl (by decide) (hts (.classLink RL 15 "java/lang/IllegalArgumentException") (by decide +kernel)) (va_Nw.use rfl (hG.2.1.2.2.2.1 ("java/lang/IllegalArgumentException", "java/lang/IllegalArgumentException") (by decide +kernel))) hc9 hv9 hcl9 ?_
      refine lv_astore_n (lv' := [(3, .ref q9), (0, .ref (ad 0 0)), (1, .int p0), (2, .int p1)]) hx hb dL_volume_11 rfl hl (by decide) rfl (fun ls hl => ?_)
      refine lv_ldc (v := (-900002)) hx hb hown (hts (.constant RL 20 (-900002)) (by decide +kernel)) dL_volume_12 ?_
      refine W.widen (k := 2) (n := 12) (Nat.le_of_ble_eq_true rfl) (Nat.le_of_ble_eq_true rfl) ?_
      refine vx_ret ?_
      exact W.iret (v := (-900002)) hx hb hr (fun t99 ht99 hW99 => ⟨⟨(-900002), Mw, rfl, ⟨ad, by rw [wan_k hk9]; rfl, by rw [hrf]; exact hC, rfl⟩, by rw [ht99]; exact hP, hI⟩, hS.F ht99⟩) hS.2.2 dL_volume_14
    | (k9 + 2), hk9, hnm9 => cases hnm9
  obtain ⟨s9, ad9, hop, hC9, ha9⟩ := hp9
  refine W.widen (k := 2) (n := 12) (Nat.le_of_ble_eq_true rfl) (Nat.le_of_ble_eq_true rfl) ?_
  refine vx_ret ?_
  exact W.iret (v := r9) hx hb hr (fun t99 ht99 hW99 => ⟨⟨r9, Mw1, rfl, ⟨ad9, by rw [hop]; rfl, by rw [hop]; exact hC9, ha9⟩, by rw [ht99]; exact hP, hI⟩, hS.F ht99⟩) hS.2.2 dL_volume_6

theorem rf_thread (st : St) (p0 p1 p2 : Int32) : (m_thread st p0 p1 p2).1 ≠ 0 → (m_thread st p0 p1 p2).2.2 = st := by
  unfold m_thread
  first | exact chk_ref (ref_0) | exact chk_ref (chk_ref (ref_0)) | exact chk_ref (chk_ref (chk_ref (ref_0))) | exact chk_ref (chk_ref (chk_ref (chk_ref (ref_0)))) | exact chk_ref (chk_ref (chk_ref (chk_ref (chk_ref (ref_0))))) | exact chk_ref (chk_ref (chk_ref (chk_ref (chk_ref (chk_ref (ref_0)))))) | exact chk_ref (chk_ref (chk_ref (chk_ref (chk_ref (chk_ref (chk_ref (ref_0)))))))
set_option maxHeartbeats 4000000 in
set_option maxRecDepth 100000 in
theorem c_L_thread (l : Launch) (G : mg) (A : Nat → Prop) (Mw : mw) (hl9 : l.stackTraces = false) (st : St) (ad : adr) (p0 p1 p2 : Int32) (hC : CS G st ad Mw) (hV : Inv st) : vx_Met l yL_thread wsL_thread ({ frames := 9, cells := 4, slots := 24, locals := 149 }) (va_Pc [.ref (ad 0 0), .int p0, .int p1, .int p2] (mB G A Mw)) (va_Qi (fun r Mw1 => ∃ ad1 : adr, r = wan (m_thread st p0 p1 p2) ∧ CS G (m_thread st p0 p1 p2).2.2 ad1 Mw1 ∧ ad1 0 0 = ad 0 0) (mE G A) A) (xX (fun _ => False) G A Mw) 4 24 A := by
  refine vx_ofWH (cc := cL_thread) (maxL := 5) (ret := (some .int)) (by decide) rfl ?_
  intro p e s m args below meth c s₁ B hml hv
  obtain ⟨rfl, hG, hP, hI, hA⟩ := hv
  have hx := B.exec
  have hb := B.bytes
  have hr := B.returns
  have hts := atoms_spec (ws := wsL_thread) B.pre
  have hown : s.vm.findClass RL = some m.cls := findClass_of_methodNamed B.named
  have hlocks := B.notSynchronized
  have hK := hG.K
  have hS : va_S A s.heap s.heap [] := va_S.rf
  have hl := lv_entry ([.ref (ad 0 0), .int p0, .int p1, .int p2]) (n := 5) (Nat.le_of_ble_eq_true rfl)
  rw [lg_entry_eq]
  generalize (lg_sl ([.ref (ad 0 0), .int p0, .int p1, .int p2]) ++ List.replicate (5 - (lg_sl ([.ref (ad 0 0), .int p0, .int p1, .int p2])).length) Slot.unset).toArray = ls at hl ⊢
  have hl : lv_has ls 5 [(0, .ref (ad 0 0)), (1, .int p0), (2, .int p1), (3, .int p2)] := hl
  have hP : mP G.1 Mw s.heap := hP
  refine lv_aload_n hx hb dL_thread_0 rfl (lv_at hl 0 rfl) ?_
  refine lv_iload_n hx hb dL_thread_1 rfl (lv_at hl 1 rfl) ?_
  refine lv_iload_n hx hb dL_thread_2 rfl (lv_at hl 2 rfl) ?_
  refine lv_iload_n hx hb dL_thread_3 rfl (lv_at hl 3 rfl) ?_
  refine mx_calli (vx_runV (As := [.int p0, .int p1, .int p2]) (rest := []) ⟨hx, hb, hml, hown, hts⟩ (c_X4_thread l G A Mw hl9 st ad p0 p1 p2 hC hV) (cwV 3 hts gL_thread_X4_thread rfl rfl rfl (by decide +kernel) ⟨Nat.le_of_ble_eq_true rfl, Nat.le_of_ble_eq_true rfl⟩) (mPreV hG hS hP hI hA (hP (ad 0 0) _ (hC.1 0 0 (ok0 st))) (r := (RX4, TX4, 9)) rfl) rfl rfl hl.1 rfl (lv_room (Nat.le_of_ble_eq_true rfl)) dL_thread_4 ⟨Nat.le_of_ble_eq_true rfl, Nat.le_of_ble_eq_true rfl⟩) hS (fun E9 ce9 q9 H locs hpx9 hP hI hS hc9 hv9 hcl9 => ?_) (fun r9 Mw1 H locs hp9 hP hI hS => ?_)
  · obtain ⟨k9, hk9, hnm9⟩ := hpx9
    have hT : c.exceptionTable.toList = tableOf [(0, 7, 8, 25), (0, 7, 13, 15), (0, 7, 18, 39)] := vx_table (x := yL_thread) B (hts _ List.mem_cons_self)
    have hrf : (m_thread st p0 p1 p2).2.2 = st := rf_thread st p0 p1 p2 (by rw [hk9]; omega)
    match k9, hk9, hnm9 with
    | 0, hk9, hnm9 =>
      cases hnm9
      refine vx_catch (E := "java/lang/IndexOutOfBoundsException") (name := "java/lang/IndexOutOfBoundsException") hown [] ⟨0, 7, 8, 25⟩ [⟨0, 7, 13, 15⟩, ⟨0, 7, 18, 39⟩] hT (fun z hz => by cases hz) rfl (by decide) (hts (.classLink RL 25 "java/lang/IndexOutOfBoundsException") (by decide +kernel)) (va_Nw.use rfl (hG.2.1.2.2.2.1 ("java/lang/IndexOutOfBoundsException", "java/lang/IndexOutOfBoundsException") (by decide +kernel))) hc9 hv9 hcl9 ?_
      refine lv_astore (lv' := [(4, .ref q9), (0, .ref (ad 0 0)), (1, .int p0), (2, .int p1), (3, .int p2)]) hx hb dL_thread_8 hl (by decide) rfl (fun ls hl => ?_)
      refine lv_ldc (v := (-900001)) hx hb hown (hts (.constant RL 17 (-900001)) (by decide +kernel)) dL_thread_10 ?_
      refine W.widen (k := 4) (n := 24) (Nat.le_of_ble_eq_true rfl) (Nat.le_of_ble_eq_true rfl) ?_
      refine vx_ret ?_
      exact W.iret (v := (-900001)) hx hb hr (fun t99 ht99 hW99 => ⟨⟨(-900001), Mw, rfl, ⟨ad, by rw [wan_k hk9]; rfl, by rw [hrf]; exact hC, rfl⟩, by rw [ht99]; exact hP, hI⟩, hS.F ht99⟩) hS.2.2 dL_thread_12
    | 1, hk9, hnm9 =>
      cases hnm9
      refine vx_catch (E := "java/lang/IllegalArgumentException") (name := "java/lang/IllegalArgumentException") hown [⟨0, 7, 8, 25⟩] ⟨0, 7, 13, 15⟩ [⟨0, 7, 18, 39⟩] hT (List.forall_mem_cons.mpr ⟨Or.inr ⟨by decide, "java/lang/IndexOutOfBoundsException", hts (.classLink RL 25 "java/lang/IndexOutOfBoundsException") (by decide +kernel), hG.2.1.2.2.2.2.1 ("java/lang/IllegalArgumentException", "java/lang/IndexOutOfBoundsException") (by decide +kernel)⟩, (fun z hz => by cases hz)⟩) rfl (by decide) (hts (.classLink RL 15 "java/lang/IllegalArgumentException") (by decide +kernel)) (va_Nw.use rfl (hG.2.1.2.2.2.1 ("java/lang/IllegalArgumentException", "java/lang/IllegalArgumentException") (by decide +kernel))) hc9 hv9 hcl9 ?_
      refine lv_astore (lv' := [(4, .ref q9), (0, .ref (ad 0 0)), (1, .int p0), (2, .int p1), (3, .int p2)]) hx hb dL_thread_13 hl (by decide) rfl (fun ls hl => ?_)
      refine lv_ldc (v := (-900002)) hx hb hown (hts (.constant RL 20 (-900002)) (by decide +kernel)) dL_thread_15 ?_
      refine W.widen (k := 4) (n := 24) (Nat.le_of_ble_eq_true rfl) (Nat.le_of_ble_eq_true rfl) ?_
      refine vx_ret ?_
      exact W.iret (v := (-900002)) hx hb hr (fun t99 ht99 hW99 => ⟨⟨(-900002), Mw, rfl, ⟨ad, by rw [wan_k hk9]; rfl, by rw [hrf]; exact hC, rfl⟩, by rw [ht99]; exact hP, hI⟩, hS.F ht99⟩) hS.2.2 dL_thread_17
    | 2, hk9, hnm9 =>
      cases hnm9
      refine vx_catch (E := "java/util/NoSuchElementException") (name := "java/util/NoSuchElementException") hown [⟨0, 7, 8, 25⟩, ⟨0, 7, 13, 15⟩] ⟨0, 7, 18, 39⟩ [] hT (List.forall_mem_cons.mpr ⟨Or.inr ⟨by decide, "java/lang/IndexOutOfBoundsException", hts (.classLink RL 25 "java/lang/IndexOutOfBoundsException") (by decide +kernel), hG.2.1.2.2.2.2.1 ("java/util/NoSuchElementException", "java/lang/IndexOutOfBoundsException") (by decide +kernel)⟩, (List.forall_mem_cons.mpr ⟨Or.inr ⟨by decide, "java/lang/IllegalArgumentException", hts (.classLink RL 15 "java/lang/IllegalArgumentException") (by decide +kernel), hG.2.1.2.2.2.2.1 ("java/util/NoSuchElementException", "java/lang/IllegalArgumentException") (by decide +kernel)⟩, (fun z hz => by cases hz)⟩)⟩) rfl (by decide) (hts (.classLink RL 39 "java/util/NoSuchElementException") (by decide +kernel)) (va_Nw.use rfl (hG.2.1.2.2.2.1 ("java/util/NoSuchElementException", "java/util/NoSuchElementException") (by decide +kernel))) hc9 hv9 hcl9 ?_
      refine lv_astore (lv' := [(4, .ref q9), (0, .ref (ad 0 0)), (1, .int p0), (2, .int p1), (3, .int p2)]) hx hb dL_thread_18 hl (by decide) rfl (fun ls hl => ?_)
      refine lv_ldc (v := (-900003)) hx hb hown (hts (.constant RL 29 (-900003)) (by decide +kernel)) dL_thread_20 ?_
      refine W.widen (k := 4) (n := 24) (Nat.le_of_ble_eq_true rfl) (Nat.le_of_ble_eq_true rfl) ?_
      refine vx_ret ?_
      exact W.iret (v := (-900003)) hx hb hr (fun t99 ht99 hW99 => ⟨⟨(-900003), Mw, rfl, ⟨ad, by rw [wan_k hk9]; rfl, by rw [hrf]; exact hC, rfl⟩, by rw [ht99]; exact hP, hI⟩, hS.F ht99⟩) hS.2.2 dL_thread_22
    | (k9 + 3), hk9, hnm9 => cases hnm9
  obtain ⟨s9, ad9, hop, hC9, ha9⟩ := hp9
  refine W.widen (k := 4) (n := 24) (Nat.le_of_ble_eq_true rfl) (Nat.le_of_ble_eq_true rfl) ?_
  refine vx_ret ?_
  exact W.iret (v := r9) hx hb hr (fun t99 ht99 hW99 => ⟨⟨r9, Mw1, rfl, ⟨ad9, by rw [hop]; rfl, by rw [hop]; exact hC9, ha9⟩, by rw [ht99]; exact hP, hI⟩, hS.F ht99⟩) hS.2.2 dL_thread_7

theorem rf_widest (st : St) (p0 : Int32) : (m_widest st p0).1 ≠ 0 → (m_widest st p0).2.2 = st := by
  unfold m_widest
  first | exact chk_ref (ref_0) | exact chk_ref (chk_ref (ref_0)) | exact chk_ref (chk_ref (chk_ref (ref_0))) | exact chk_ref (chk_ref (chk_ref (chk_ref (ref_0)))) | exact chk_ref (chk_ref (chk_ref (chk_ref (chk_ref (ref_0))))) | exact chk_ref (chk_ref (chk_ref (chk_ref (chk_ref (chk_ref (ref_0)))))) | exact chk_ref (chk_ref (chk_ref (chk_ref (chk_ref (chk_ref (chk_ref (ref_0)))))))
set_option maxHeartbeats 4000000 in
set_option maxRecDepth 100000 in
theorem c_L_widest (l : Launch) (G : mg) (A : Nat → Prop) (Mw : mw) (hl9 : l.stackTraces = false) (st : St) (ad : adr) (p0 : Int32) (hC : CS G st ad Mw) (hV : Inv st) : vx_Met l yL_widest wsL_widest ({ frames := 8, cells := 1, slots := 6, locals := 124 }) (va_Pc [.ref (ad 0 0), .int p0] (mB G A Mw)) (va_Qi (fun r Mw1 => ∃ ad1 : adr, r = wan (m_widest st p0) ∧ CS G (m_widest st p0).2.2 ad1 Mw1 ∧ ad1 0 0 = ad 0 0) (mE G A) A) (xX (fun _ => False) G A Mw) 1 6 A := by
  refine vx_ofWH (cc := cL_widest) (maxL := 3) (ret := (some .int)) (by decide) rfl ?_
  intro p e s m args below meth c s₁ B hml hv
  obtain ⟨rfl, hG, hP, hI, hA⟩ := hv
  have hx := B.exec
  have hb := B.bytes
  have hr := B.returns
  have hts := atoms_spec (ws := wsL_widest) B.pre
  have hown : s.vm.findClass RL = some m.cls := findClass_of_methodNamed B.named
  have hlocks := B.notSynchronized
  have hK := hG.K
  have hS : va_S A s.heap s.heap [] := va_S.rf
  have hl := lv_entry ([.ref (ad 0 0), .int p0]) (n := 3) (Nat.le_of_ble_eq_true rfl)
  rw [lg_entry_eq]
  generalize (lg_sl ([.ref (ad 0 0), .int p0]) ++ List.replicate (3 - (lg_sl ([.ref (ad 0 0), .int p0])).length) Slot.unset).toArray = ls at hl ⊢
  have hl : lv_has ls 3 [(0, .ref (ad 0 0)), (1, .int p0)] := hl
  have hP : mP G.1 Mw s.heap := hP
  refine lv_aload_n hx hb dL_widest_0 rfl (lv_at hl 0 rfl) ?_
  refine lv_iload_n hx hb dL_widest_1 rfl (lv_at hl 1 rfl) ?_
  refine mx_calli (vx_runV (As := [.int p0]) (rest := []) ⟨hx, hb, hml, hown, hts⟩ (c_X4_widest l G A Mw hl9 st ad p0 hC hV) (cwV 1 hts gL_widest_X4_widest rfl rfl rfl (by decide +kernel) ⟨Nat.le_of_ble_eq_true rfl, Nat.le_of_ble_eq_true rfl⟩) (mPreV hG hS hP hI hA (hP (ad 0 0) _ (hC.1 0 0 (ok0 st))) (r := (RX4, TX4, 9)) rfl) rfl rfl hl.1 rfl (lv_room (Nat.le_of_ble_eq_true rfl)) dL_widest_2 ⟨Nat.le_of_ble_eq_true rfl, Nat.le_of_ble_eq_true rfl⟩) hS (fun E9 ce9 q9 H locs hpx9 hP hI hS hc9 hv9 hcl9 => ?_) (fun r9 Mw1 H locs hp9 hP hI hS => ?_)
  · obtain ⟨k9, hk9, hnm9⟩ := hpx9
    have hT : c.exceptionTable.toList = tableOf [(0, 5, 6, 25)] := vx_table (x := yL_widest) B (hts _ List.mem_cons_self)
    have hrf : (m_widest st p0).2.2 = st := rf_widest st p0 (by rw [hk9]; omega)
    match k9, hk9, hnm9 with
    | 0, hk9, hnm9 =>
      cases hnm9
      refine vx_catch (E := "java/lang/IndexOutOfBoundsException") (name := "java/lang/IndexOutOfBoundsException") hown [] ⟨0, 5, 6, 25⟩ [] hT (fun z hz => by cases hz) rfl (by decide) (hts (.classLink RL 25 "java/lang/IndexOutOfBoundsException") (by decide +kernel)) (va_Nw.use rfl (hG.2.1.2.2.2.1 ("java/lang/IndexOutOfBoundsException", "java/lang/IndexOutOfBoundsException") (by decide +kernel))) hc9 hv9 hcl9 ?_
      refine lv_astore_n (lv' := [(2, .ref q9), (0, .ref (ad 0 0)), (1, .int p0)]) hx hb dL_widest_6 rfl hl (by decide) rfl (fun ls hl => ?_)
      refine lv_ldc (v := (-900001)) hx hb hown (hts (.constant RL 17 (-900001)) (by decide +kernel)) dL_widest_7 ?_
      refine W.widen (k := 1) (n := 6) (Nat.le_of_ble_eq_true rfl) (Nat.le_of_ble_eq_true rfl) ?_
      refine vx_ret ?_
      exact W.iret (v := (-900001)) hx hb hr (fun t99 ht99 hW99 => ⟨⟨(-900001), Mw, rfl, ⟨ad, by rw [wan_k hk9]; rfl, by rw [hrf]; exact hC, rfl⟩, by rw [ht99]; exact hP, hI⟩, hS.F ht99⟩) hS.2.2 dL_widest_9
    | (k9 + 1), hk9, hnm9 => cases hnm9
  obtain ⟨s9, ad9, hop, hC9, ha9⟩ := hp9
  refine W.widen (k := 1) (n := 6) (Nat.le_of_ble_eq_true rfl) (Nat.le_of_ble_eq_true rfl) ?_
  refine vx_ret ?_
  exact W.iret (v := r9) hx hb hr (fun t99 ht99 hW99 => ⟨⟨r9, Mw1, rfl, ⟨ad9, by rw [hop]; rfl, by rw [hop]; exact hC9, ha9⟩, by rw [ht99]; exact hP, hI⟩, hS.F ht99⟩) hS.2.2 dL_widest_5

theorem rf_deliver (st : St) (p0 p1 p2 p3 : Int32) : (m_deliver st p0 p1 p2 p3).1 ≠ 0 → (m_deliver st p0 p1 p2 p3).2.2 = st := by
  unfold m_deliver
  first | exact chk_ref (ref_0) | exact chk_ref (chk_ref (ref_0)) | exact chk_ref (chk_ref (chk_ref (ref_0))) | exact chk_ref (chk_ref (chk_ref (chk_ref (ref_0)))) | exact chk_ref (chk_ref (chk_ref (chk_ref (chk_ref (ref_0))))) | exact chk_ref (chk_ref (chk_ref (chk_ref (chk_ref (chk_ref (ref_0)))))) | exact chk_ref (chk_ref (chk_ref (chk_ref (chk_ref (chk_ref (chk_ref (ref_0)))))))
set_option maxHeartbeats 4000000 in
set_option maxRecDepth 100000 in
theorem c_L_deliver (l : Launch) (G : mg) (A : Nat → Prop) (Mw : mw) (hl9 : l.stackTraces = false) (st : St) (ad : adr) (p0 p1 p2 p3 : Int32) (hC : CS G st ad Mw) (hV : Inv st) : vx_Met l yL_deliver wsL_deliver ({ frames := 9, cells := 5, slots := 30, locals := 150 }) (va_Pc [.ref (ad 0 0), .int p0, .int p1, .int p2, .int p3] (mB G A Mw)) (va_Qi (fun r Mw1 => ∃ ad1 : adr, r = wan (m_deliver st p0 p1 p2 p3) ∧ CS G (m_deliver st p0 p1 p2 p3).2.2 ad1 Mw1 ∧ ad1 0 0 = ad 0 0) (mE G A) A) (xX (fun _ => False) G A Mw) 5 30 A := by
  refine vx_ofWH (cc := cL_deliver) (maxL := 6) (ret := (some .int)) (by decide) rfl ?_
  intro p e s m args below meth c s₁ B hml hv
  obtain ⟨rfl, hG, hP, hI, hA⟩ := hv
  have hx := B.exec
  have hb := B.bytes
  have hr := B.returns
  have hts := atoms_spec (ws := wsL_deliver) B.pre
  have hown : s.vm.findClass RL = some m.cls := findClass_of_methodNamed B.named
  have hlocks := B.notSynchronized
  have hK := hG.K
  have hS : va_S A s.heap s.heap [] := va_S.rf
  have hl := lv_entry ([.ref (ad 0 0), .int p0, .int p1, .int p2, .int p3]) (n := 6) (Nat.le_of_ble_eq_true rfl)
  rw [lg_entry_eq]
  generalize (lg_sl ([.ref (ad 0 0), .int p0, .int p1, .int p2, .int p3]) ++ List.replicate (6 - (lg_sl ([.ref (ad 0 0), .int p0, .int p1, .int p2, .int p3])).length) Slot.unset).toArray = ls at hl ⊢
  have hl : lv_has ls 6 [(0, .ref (ad 0 0)), (1, .int p0), (2, .int p1), (3, .int p2), (4, .int p3)] := hl
  have hP : mP G.1 Mw s.heap := hP
  refine lv_aload_n hx hb dL_deliver_0 rfl (lv_at hl 0 rfl) ?_
  refine lv_iload_n hx hb dL_deliver_1 rfl (lv_at hl 1 rfl) ?_
  refine lv_iload_n hx hb dL_deliver_2 rfl (lv_at hl 2 rfl) ?_
  refine lv_iload_n hx hb dL_deliver_3 rfl (lv_at hl 3 rfl) ?_
  refine lv_iload hx hb dL_deliver_4 (lv_at hl 4 rfl) ?_
  refine mx_calli (vx_runV (As := [.int p0, .int p1, .int p2, .int p3]) (rest := []) ⟨hx, hb, hml, hown, hts⟩ (c_X4_deliver l G A Mw hl9 st ad p0 p1 p2 p3 hC hV) (cwV 4 hts gL_deliver_X4_deliver rfl rfl rfl (by decide +kernel) ⟨Nat.le_of_ble_eq_true rfl, Nat.le_of_ble_eq_true rfl⟩) (mPreV hG hS hP hI hA (hP (ad 0 0) _ (hC.1 0 0 (ok0 st))) (r := (RX4, TX4, 9)) rfl) rfl rfl hl.1 rfl (lv_room (Nat.le_of_ble_eq_true rfl)) dL_deliver_6 ⟨Nat.le_of_ble_eq_true rfl, Nat.le_of_ble_eq_true rfl⟩) hS (fun E9 ce9 q9 H locs hpx9 hP hI hS hc9 hv9 hcl9 => ?_) (fun r9 Mw1 H locs hp9 hP hI hS => ?_)
  · obtain ⟨k9, hk9, hnm9⟩ := hpx9
    have hT : c.exceptionTable.toList = tableOf [(0, 9, 10, 25), (0, 9, 15, 15)] := vx_table (x := yL_deliver) B (hts _ List.mem_cons_self)
    have hrf : (m_deliver st p0 p1 p2 p3).2.2 = st := rf_deliver st p0 p1 p2 p3 (by rw [hk9]; omega)
    match k9, hk9, hnm9 with
    | 0, hk9, hnm9 =>
      cases hnm9
      refine vx_catch (E := "java/lang/IndexOutOfBoundsException") (name := "java/lang/IndexOutOfBoundsException") hown [] ⟨0, 9, 10, 25⟩ [⟨0, 9, 15, 15⟩] hT (fun z hz => by cases hz) rfl (by decide) (hts (.classLink RL 25 "java/lang/IndexOutOfBoundsException") (by decide +kernel)) (va_Nw.use rfl (hG.2.1.2.2.2.1 ("java/lang/IndexOutOfBoundsException", "java/lang/IndexOutOfBoundsException") (by decide +kernel))) hc9 hv9 hcl9 ?_
      refine lv_astore (lv' := [(5, .ref q9), (0, .ref (ad 0 0)), (1, .int p0), (2, .int p1), (3, .int p2), (4, .int p3)]) hx hb dL_deliver_10 hl (by decide) rfl (fun ls hl => ?_)
      refine lv_ldc (v := (-900001)) hx hb hown (hts (.constant RL 17 (-900001)) (by decide +kernel)) dL_deliver_12 ?_
      refine W.widen (k := 5) (n := 30) (Nat.le_of_ble_eq_true rfl) (Nat.le_of_ble_eq_true rfl) ?_
      refine vx_ret ?_
      exact W.iret (v := (-900001)) hx hb hr (fun t99 ht99 hW99 => ⟨⟨(-900001), Mw, rfl, ⟨ad, by rw [wan_k hk9]; rfl, by rw [hrf]; exact hC, rfl⟩, by rw [ht99]; exact hP, hI⟩, hS.F ht99⟩) hS.2.2 dL_deliver_14
    | 1, hk9, hnm9 =>
      cases hnm9
      refine vx_catch (E := "java/lang/IllegalArgumentException") (name := "java/lang/IllegalArgumentException") hown [⟨0, 9, 10, 25⟩] ⟨0, 9, 15, 15⟩ [] hT (List.forall_mem_cons.mpr ⟨Or.inr ⟨by decide, "java/lang/IndexOutOfBoundsException", hts (.classLink RL 25 "java/lang/IndexOutOfBoundsException") (by decide +kernel), hG.2.1.2.2.2.2.1 ("java/lang/IllegalArgumentException", "java/lang/IndexOutOfBoundsException") (by decide +kernel)⟩, (fun z hz => by cases hz)⟩) rfl (by decide) (hts (.classLink RL 15 "java/lang/IllegalArgumentException") (by decide +kernel)) (va_Nw.use rfl (hG.2.1.2.2.2.1 ("java/lang/IllegalArgumentException", "java/lang/IllegalArgumentException") (by decide +kernel))) hc9 hv9 hcl9 ?_
      refine lv_astore (lv' := [(5, .ref q9), (0, .ref (ad 0 0)), (1, .int p0), (2, .int p1), (3, .int p2), (4, .int p3)]) hx hb dL_deliver_15 hl (by decide) rfl (fun ls hl => ?_)
      refine lv_ldc (v := (-900002)) hx hb hown (hts (.constant RL 20 (-900002)) (by decide +kernel)) dL_deliver_17 ?_
      refine W.widen (k := 5) (n := 30) (Nat.le_of_ble_eq_true rfl) (Nat.le_of_ble_eq_true rfl) ?_
      refine vx_ret ?_
      exact W.iret (v := (-900002)) hx hb hr (fun t99 ht99 hW99 => ⟨⟨(-900002), Mw, rfl, ⟨ad, by rw [wan_k hk9]; rfl, by rw [hrf]; exact hC, rfl⟩, by rw [ht99]; exact hP, hI⟩, hS.F ht99⟩) hS.2.2 dL_deliver_19
    | (k9 + 2), hk9, hnm9 => cases hnm9
  obtain ⟨s9, ad9, hop, hC9, ha9⟩ := hp9
  refine W.widen (k := 5) (n := 30) (Nat.le_of_ble_eq_true rfl) (Nat.le_of_ble_eq_true rfl) ?_
  refine vx_ret ?_
  exact W.iret (v := r9) hx hb hr (fun t99 ht99 hW99 => ⟨⟨r9, Mw1, rfl, ⟨ad9, by rw [hop]; rfl, by rw [hop]; exact hC9, ha9⟩, by rw [ht99]; exact hP, hI⟩, hS.F ht99⟩) hS.2.2 dL_deliver_9

theorem rf_make (st : St) (p0 p1 p2 : Int32) : (m_make st p0 p1 p2).1 ≠ 0 → (m_make st p0 p1 p2).2.2 = st := by
  unfold m_make
  first | exact chk_ref (ref_0) | exact chk_ref (chk_ref (ref_0)) | exact chk_ref (chk_ref (chk_ref (ref_0))) | exact chk_ref (chk_ref (chk_ref (chk_ref (ref_0)))) | exact chk_ref (chk_ref (chk_ref (chk_ref (chk_ref (ref_0))))) | exact chk_ref (chk_ref (chk_ref (chk_ref (chk_ref (chk_ref (ref_0)))))) | exact chk_ref (chk_ref (chk_ref (chk_ref (chk_ref (chk_ref (chk_ref (ref_0)))))))
set_option maxHeartbeats 4000000 in
set_option maxRecDepth 100000 in
theorem c_L_make (l : Launch) (G : mg) (A : Nat → Prop) (Mw : mw) (hl9 : l.stackTraces = false) (st : St) (ad : adr) (p0 p1 p2 : Int32) (hC : CS G st ad Mw) (hV : Inv st) : vx_Met l yL_make wsL_make ({ frames := 8, cells := 9, slots := 63, locals := 129 }) (va_Pc [.ref (ad 0 0), .int p0, .int p1, .int p2] (mB G A Mw)) (va_Qi (fun r Mw1 => ∃ ad1 : adr, r = wan (m_make st p0 p1 p2) ∧ CS G (m_make st p0 p1 p2).2.2 ad1 Mw1 ∧ ad1 0 0 = ad 0 0) (mE G A) A) (xX (fun _ => False) G A Mw) 9 63 A := by
  refine vx_ofWH (cc := cL_make) (maxL := 5) (ret := (some .int)) (by decide) rfl ?_
  intro p e s m args below meth c s₁ B hml hv
  obtain ⟨rfl, hG, hP, hI, hA⟩ := hv
  have hx := B.exec
  have hb := B.bytes
  have hr := B.returns
  have hts := atoms_spec (ws := wsL_make) B.pre
  have hown : s.vm.findClass RL = some m.cls := findClass_of_methodNamed B.named
  have hlocks := B.notSynchronized
  have hK := hG.K
  have hS : va_S A s.heap s.heap [] := va_S.rf
  have hl := lv_entry ([.ref (ad 0 0), .int p0, .int p1, .int p2]) (n := 5) (Nat.le_of_ble_eq_true rfl)
  rw [lg_entry_eq]
  generalize (lg_sl ([.ref (ad 0 0), .int p0, .int p1, .int p2]) ++ List.replicate (5 - (lg_sl ([.ref (ad 0 0), .int p0, .int p1, .int p2])).length) Slot.unset).toArray = ls at hl ⊢
  have hl : lv_has ls 5 [(0, .ref (ad 0 0)), (1, .int p0), (2, .int p1), (3, .int p2)] := hl
  have hP : mP G.1 Mw s.heap := hP
  refine lv_aload_n hx hb dL_make_0 rfl (lv_at hl 0 rfl) ?_
  refine lv_iload_n hx hb dL_make_1 rfl (lv_at hl 1 rfl) ?_
  refine lv_iload_n hx hb dL_make_2 rfl (lv_at hl 2 rfl) ?_
  refine lv_iload_n hx hb dL_make_3 rfl (lv_at hl 3 rfl) ?_
  refine mx_calli (vx_runV (As := [.int p0, .int p1, .int p2]) (rest := []) ⟨hx, hb, hml, hown, hts⟩ (c_X4_make l G A Mw hl9 st ad p0 p1 p2 hC hV) (cwV 3 hts gL_make_X4_make rfl rfl rfl (by decide +kernel) ⟨Nat.le_of_ble_eq_true rfl, Nat.le_of_ble_eq_true rfl⟩) (mPreV hG hS hP hI hA (hP (ad 0 0) _ (hC.1 0 0 (ok0 st))) (r := (RX4, TX4, 9)) rfl) rfl rfl hl.1 rfl (lv_room (Nat.le_of_ble_eq_true rfl)) dL_make_4 ⟨Nat.le_of_ble_eq_true rfl, Nat.le_of_ble_eq_true rfl⟩) hS (fun E9 ce9 q9 H locs hpx9 hP hI hS hc9 hv9 hcl9 => ?_) (fun r9 Mw1 H locs hp9 hP hI hS => ?_)
  · obtain ⟨k9, hk9, hnm9⟩ := hpx9
    have hT : c.exceptionTable.toList = tableOf [(0, 7, 8, 25), (0, 7, 13, 15), (0, 7, 18, 27), (0, 7, 23, 18)] := vx_table (x := yL_make) B (hts _ List.mem_cons_self)
    have hrf : (m_make st p0 p1 p2).2.2 = st := rf_make st p0 p1 p2 (by rw [hk9]; omega)
    match k9, hk9, hnm9 with
    | 0, hk9, hnm9 =>
      cases hnm9
      refine vx_catch (E := "java/lang/IndexOutOfBoundsException") (name := "java/lang/IndexOutOfBoundsException") hown [] ⟨0, 7, 8, 25⟩ [⟨0, 7, 13, 15⟩, ⟨0, 7, 18, 27⟩, ⟨0, 7, 23, 18⟩] hT (fun z hz => by cases hz) rfl (by decide) (hts (.classLink RL 25 "java/lang/IndexOutOfBoundsException") (by decide +kernel)) (va_Nw.use rfl (hG.2.1.2.2.2.1 ("java/lang/IndexOutOfBoundsException", "java/lang/IndexOutOfBoundsException") (by decide +kernel))) hc9 hv9 hcl9 ?_
      refine lv_astore (lv' := [(4, .ref q9), (0, .ref (ad 0 0)), (1, .int p0), (2, .int p1), (3, .int p2)]) hx hb dL_make_8 hl (by decide) rfl (fun ls hl => ?_)
      refine lv_ldc (v := (-900001)) hx hb hown (hts (.constant RL 17 (-900001)) (by decide +kernel)) dL_make_10 ?_
      refine W.widen (k := 9) (n := 63) (Nat.le_of_ble_eq_true rfl) (Nat.le_of_ble_eq_true rfl) ?_
      refine vx_ret ?_
      exact W.iret (v := (-900001)) hx hb hr (fun t99 ht99 hW99 => ⟨⟨(-900001), Mw, rfl, ⟨ad, by rw [wan_k hk9]; rfl, by rw [hrf]; exact hC, rfl⟩, by rw [ht99]; exact hP, hI⟩, hS.F ht99⟩) hS.2.2 dL_make_12
    | 1, hk9, hnm9 =>
      cases hnm9
      refine vx_catch (E := "java/lang/IllegalArgumentException") (name := "java/lang/IllegalArgumentException") hown [⟨0, 7, 8, 25⟩] ⟨0, 7, 13, 15⟩ [⟨0, 7, 18, 27⟩, ⟨0, 7, 23, 18⟩] hT (List.forall_mem_cons.mpr ⟨Or.inr ⟨by decide, "java/lang/IndexOutOfBoundsException", hts (.classLink RL 25 "java/lang/IndexOutOfBoundsException") (by decide +kernel), hG.2.1.2.2.2.2.1 ("java/lang/IllegalArgumentException", "java/lang/IndexOutOfBoundsException") (by decide +kernel)⟩, (fun z hz => by cases hz)⟩) rfl (by decide) (hts (.classLink RL 15 "java/lang/IllegalArgumentException") (by decide +kernel)) (va_Nw.use rfl (hG.2.1.2.2.2.1 ("java/lang/IllegalArgumentException", "java/lang/IllegalArgumentException") (by decide +kernel))) hc9 hv9 hcl9 ?_
      refine lv_astore (lv' := [(4, .ref q9), (0, .ref (ad 0 0)), (1, .int p0), (2, .int p1), (3, .int p2)]) hx hb dL_make_13 hl (by decide) rfl (fun ls hl => ?_)
      refine lv_ldc (v := (-900002)) hx hb hown (hts (.constant RL 20 (-900002)) (by decide +kernel)) dL_make_15 ?_
      refine W.widen (k := 9) (n := 63) (Nat.le_of_ble_eq_true rfl) (Nat.le_of_ble_eq_true rfl) ?_
      refine vx_ret ?_
      exact W.iret (v := (-900002)) hx hb hr (fun t99 ht99 hW99 => ⟨⟨(-900002), Mw, rfl, ⟨ad, by rw [wan_k hk9]; rfl, by rw [hrf]; exact hC, rfl⟩, by rw [ht99]; exact hP, hI⟩, hS.F ht99⟩) hS.2.2 dL_make_17
    | 2, hk9, hnm9 =>
      cases hnm9
      refine vx_catch (E := "java/lang/UnsupportedOperationException") (name := "java/lang/UnsupportedOperationException") hown [⟨0, 7, 8, 25⟩, ⟨0, 7, 13, 15⟩] ⟨0, 7, 18, 27⟩ [⟨0, 7, 23, 18⟩] hT (List.forall_mem_cons.mpr ⟨Or.inr ⟨by decide, "java/lang/IndexOutOfBoundsException", hts (.classLink RL 25 "java/lang/IndexOutOfBoundsException") (by decide +kernel), hG.2.1.2.2.2.2.1 ("java/lang/UnsupportedOperationException", "java/lang/IndexOutOfBoundsException") (by decide +kernel)⟩, (List.forall_mem_cons.mpr ⟨Or.inr ⟨by decide, "java/lang/IllegalArgumentException", hts (.classLink RL 15 "java/lang/IllegalArgumentException") (by decide +kernel), hG.2.1.2.2.2.2.1 ("java/lang/UnsupportedOperationException", "java/lang/IllegalArgumentException") (by decide +kernel)⟩, (fun z hz => by cases hz)⟩)⟩) rfl (by decide) (hts (.classLink RL 27 "java/lang/UnsupportedOperationException") (by decide +kernel)) (va_Nw.use rfl (hG.2.1.2.2.2.1 ("java/lang/UnsupportedOperationException", "java/lang/UnsupportedOperationException") (by decide +kernel))) hc9 hv9 hcl9 ?_
      refine lv_astore (lv' := [(4, .ref q9), (0, .ref (ad 0 0)), (1, .int p0), (2, .int p1), (3, .int p2)]) hx hb dL_make_18 hl (by decide) rfl (fun ls hl => ?_)
      refine lv_ldc (v := (-900003)) hx hb hown (hts (.constant RL 29 (-900003)) (by decide +kernel)) dL_make_20 ?_
      refine W.widen (k := 9) (n := 63) (Nat.le_of_ble_eq_true rfl) (Nat.le_of_ble_eq_true rfl) ?_
      refine vx_ret ?_
      exact W.iret (v := (-900003)) hx hb hr (fun t99 ht99 hW99 => ⟨⟨(-900003), Mw, rfl, ⟨ad, by rw [wan_k hk9]; rfl, by rw [hrf]; exact hC, rfl⟩, by rw [ht99]; exact hP, hI⟩, hS.F ht99⟩) hS.2.2 dL_make_22
    | 3, hk9, hnm9 =>
      cases hnm9
      refine vx_catch (E := "java/lang/IllegalStateException") (name := "java/lang/IllegalStateException") hown [⟨0, 7, 8, 25⟩, ⟨0, 7, 13, 15⟩, ⟨0, 7, 18, 27⟩] ⟨0, 7, 23, 18⟩ [] hT (List.forall_mem_cons.mpr ⟨Or.inr ⟨by decide, "java/lang/IndexOutOfBoundsException", hts (.classLink RL 25 "java/lang/IndexOutOfBoundsException") (by decide +kernel), hG.2.1.2.2.2.2.1 ("java/lang/IllegalStateException", "java/lang/IndexOutOfBoundsException") (by decide +kernel)⟩, (List.forall_mem_cons.mpr ⟨Or.inr ⟨by decide, "java/lang/IllegalArgumentException", hts (.classLink RL 15 "java/lang/IllegalArgumentException") (by decide +kernel), hG.2.1.2.2.2.2.1 ("java/lang/IllegalStateException", "java/lang/IllegalArgumentException") (by decide +kernel)⟩, (List.forall_mem_cons.mpr ⟨Or.inr ⟨by decide, "java/lang/UnsupportedOperationException", hts (.classLink RL 27 "java/lang/UnsupportedOperationException") (by decide +kernel), hG.2.1.2.2.2.2.1 ("java/lang/IllegalStateException", "java/lang/UnsupportedOperationException") (by decide +kernel)⟩, (fun z hz => by cases hz)⟩)⟩)⟩) rfl (by decide) (hts (.classLink RL 18 "java/lang/IllegalStateException") (by decide +kernel)) (va_Nw.use rfl (hG.2.1.2.2.2.1 ("java/lang/IllegalStateException", "java/lang/IllegalStateException") (by decide +kernel))) hc9 hv9 hcl9 ?_
      refine lv_astore (lv' := [(4, .ref q9), (0, .ref (ad 0 0)), (1, .int p0), (2, .int p1), (3, .int p2)]) hx hb dL_make_23 hl (by decide) rfl (fun ls hl => ?_)
      refine lv_ldc (v := (-900004)) hx hb hown (hts (.constant RL 53 (-900004)) (by decide +kernel)) dL_make_25 ?_
      refine W.widen (k := 9) (n := 63) (Nat.le_of_ble_eq_true rfl) (Nat.le_of_ble_eq_true rfl) ?_
      refine vx_ret ?_
      exact W.iret (v := (-900004)) hx hb hr (fun t99 ht99 hW99 => ⟨⟨(-900004), Mw, rfl, ⟨ad, by rw [wan_k hk9]; rfl, by rw [hrf]; exact hC, rfl⟩, by rw [ht99]; exact hP, hI⟩, hS.F ht99⟩) hS.2.2 dL_make_27
    | (k9 + 4), hk9, hnm9 => cases hnm9
  obtain ⟨s9, ad9, hop, hC9, ha9⟩ := hp9
  refine W.widen (k := 9) (n := 63) (Nat.le_of_ble_eq_true rfl) (Nat.le_of_ble_eq_true rfl) ?_
  refine vx_ret ?_
  exact W.iret (v := r9) hx hb hr (fun t99 ht99 hW99 => ⟨⟨r9, Mw1, rfl, ⟨ad9, by rw [hop]; rfl, by rw [hop]; exact hC9, ha9⟩, by rw [ht99]; exact hP, hI⟩, hS.F ht99⟩) hS.2.2 dL_make_7

theorem rf_boiling (st : St) (p0 : Int32) : (m_boiling st p0).1 ≠ 0 → (m_boiling st p0).2.2 = st := by
  unfold m_boiling
  first | exact chk_ref (ref_0) | exact chk_ref (chk_ref (ref_0)) | exact chk_ref (chk_ref (chk_ref (ref_0))) | exact chk_ref (chk_ref (chk_ref (chk_ref (ref_0)))) | exact chk_ref (chk_ref (chk_ref (chk_ref (chk_ref (ref_0))))) | exact chk_ref (chk_ref (chk_ref (chk_ref (chk_ref (chk_ref (ref_0)))))) | exact chk_ref (chk_ref (chk_ref (chk_ref (chk_ref (chk_ref (chk_ref (ref_0)))))))
set_option maxHeartbeats 4000000 in
set_option maxRecDepth 100000 in
theorem c_L_boiling (l : Launch) (G : mg) (A : Nat → Prop) (Mw : mw) (hl9 : l.stackTraces = false) (st : St) (ad : adr) (p0 : Int32) (hC : CS G st ad Mw) (hV : Inv st) : vx_Met l yL_boiling wsL_boiling ({ frames := 9, cells := 1, slots := 6, locals := 145 }) (va_Pc [.ref (ad 0 0), .int p0] (mB G A Mw)) (va_Qi (fun r Mw1 => ∃ ad1 : adr, r = wan (m_boiling st p0) ∧ CS G (m_boiling st p0).2.2 ad1 Mw1 ∧ ad1 0 0 = ad 0 0) (mE G A) A) (xX (fun _ => False) G A Mw) 1 6 A := by
  refine vx_ofWH (cc := cL_boiling) (maxL := 3) (ret := (some .int)) (by decide) rfl ?_
  intro p e s m args below meth c s₁ B hml hv
  obtain ⟨rfl, hG, hP, hI, hA⟩ := hv
  have hx := B.exec
  have hb := B.bytes
  have hr := B.returns
  have hts := atoms_spec (ws := wsL_boiling) B.pre
  have hown : s.vm.findClass RL = some m.cls := findClass_of_methodNamed B.named
  have hlocks := B.notSynchronized
  have hK := hG.K
  have hS : va_S A s.heap s.heap [] := va_S.rf
  have hl := lv_entry ([.ref (ad 0 0), .int p0]) (n := 3) (Nat.le_of_ble_eq_true rfl)
  rw [lg_entry_eq]
  generalize (lg_sl ([.ref (ad 0 0), .int p0]) ++ List.replicate (3 - (lg_sl ([.ref (ad 0 0), .int p0])).length) Slot.unset).toArray = ls at hl ⊢
  have hl : lv_has ls 3 [(0, .ref (ad 0 0)), (1, .int p0)] := hl
  have hP : mP G.1 Mw s.heap := hP
  refine lv_aload_n hx hb dL_boiling_0 rfl (lv_at hl 0 rfl) ?_
  refine lv_iload_n hx hb dL_boiling_1 rfl (lv_at hl 1 rfl) ?_
  refine mx_calli (vx_runV (As := [.int p0]) (rest := []) ⟨hx, hb, hml, hown, hts⟩ (c_X4_boiling l G A Mw hl9 st ad p0 hC hV) (cwV 1 hts gL_boiling_X4_boiling rfl rfl rfl (by decide +kernel) ⟨Nat.le_of_ble_eq_true rfl, Nat.le_of_ble_eq_true rfl⟩) (mPreV hG hS hP hI hA (hP (ad 0 0) _ (hC.1 0 0 (ok0 st))) (r := (RX4, TX4, 9)) rfl) rfl rfl hl.1 rfl (lv_room (Nat.le_of_ble_eq_true rfl)) dL_boiling_2 ⟨Nat.le_of_ble_eq_true rfl, Nat.le_of_ble_eq_true rfl⟩) hS (fun E9 ce9 q9 H locs hpx9 hP hI hS hc9 hv9 hcl9 => ?_) (fun r9 Mw1 H locs hp9 hP hI hS => ?_)
  · obtain ⟨k9, hk9, hnm9⟩ := hpx9
    have hT : c.exceptionTable.toList = tableOf [(0, 5, 6, 15)] := vx_table (x := yL_boiling) B (hts _ List.mem_cons_self)
    have hrf : (m_boiling st p0).2.2 = st := rf_boiling st p0 (by rw [hk9]; omega)
    match k9, hk9, hnm9 with
    | 0, hk9, hnm9 =>
      cases hnm9
      refine vx_catch (E := "java/lang/IllegalArgumentException") (name := "java/lang/IllegalArgumentException") hown [] ⟨0, 5, 6, 15⟩ [] hT (fun z hz => by cases hz) rfl (by decide) (hts (.classLink RL 15 "java/lang/IllegalArgumentException") (by decide +kernel)) (va_Nw.use rfl (hG.2.1.2.2.2.1 ("java/lang/IllegalArgumentException", "java/lang/IllegalArgumentException") (by decide +kernel))) hc9 hv9 hcl9 ?_
      refine lv_astore_n (lv' := [(2, .ref q9), (0, .ref (ad 0 0)), (1, .int p0)]) hx hb dL_boiling_6 rfl hl (by decide) rfl (fun ls hl => ?_)
      refine lv_ldc (v := (-900001)) hx hb hown (hts (.constant RL 17 (-900001)) (by decide +kernel)) dL_boiling_7 ?_
      refine W.widen (k := 1) (n := 6) (Nat.le_of_ble_eq_true rfl) (Nat.le_of_ble_eq_true rfl) ?_
      refine vx_ret ?_
      exact W.iret (v := (-900001)) hx hb hr (fun t99 ht99 hW99 => ⟨⟨(-900001), Mw, rfl, ⟨ad, by rw [wan_k hk9]; rfl, by rw [hrf]; exact hC, rfl⟩, by rw [ht99]; exact hP, hI⟩, hS.F ht99⟩) hS.2.2 dL_boiling_9
    | (k9 + 1), hk9, hnm9 => cases hnm9
  obtain ⟨s9, ad9, hop, hC9, ha9⟩ := hp9
  refine W.widen (k := 1) (n := 6) (Nat.le_of_ble_eq_true rfl) (Nat.le_of_ble_eq_true rfl) ?_
  refine vx_ret ?_
  exact W.iret (v := r9) hx hb hr (fun t99 ht99 hW99 => ⟨⟨r9, Mw1, rfl, ⟨ad9, by rw [hop]; rfl, by rw [hop]; exact hC9, ha9⟩, by rw [ht99]; exact hP, hI⟩, hS.F ht99⟩) hS.2.2 dL_boiling_5

theorem rf_barometer (st : St) (p0 p1 p2 p3 : Int32) : (m_barometer st p0 p1 p2 p3).1 ≠ 0 → (m_barometer st p0 p1 p2 p3).2.2 = st := by
  unfold m_barometer
  first | exact chk_ref (ref_0) | exact chk_ref (chk_ref (ref_0)) | exact chk_ref (chk_ref (chk_ref (ref_0))) | exact chk_ref (chk_ref (chk_ref (chk_ref (ref_0)))) | exact chk_ref (chk_ref (chk_ref (chk_ref (chk_ref (ref_0))))) | exact chk_ref (chk_ref (chk_ref (chk_ref (chk_ref (chk_ref (ref_0)))))) | exact chk_ref (chk_ref (chk_ref (chk_ref (chk_ref (chk_ref (chk_ref (ref_0)))))))
set_option maxHeartbeats 4000000 in
set_option maxRecDepth 100000 in
theorem c_L_barometer (l : Launch) (G : mg) (A : Nat → Prop) (Mw : mw) (hl9 : l.stackTraces = false) (st : St) (ad : adr) (p0 p1 p2 p3 : Int32) (hC : CS G st ad Mw) (hV : Inv st) : vx_Met l yL_barometer wsL_barometer ({ frames := 8, cells := 4, slots := 24, locals := 129 }) (va_Pc [.ref (ad 0 0), .int p0, .int p1, .int p2, .int p3] (mB G A Mw)) (va_Qi (fun r Mw1 => ∃ ad1 : adr, r = wan (m_barometer st p0 p1 p2 p3) ∧ CS G (m_barometer st p0 p1 p2 p3).2.2 ad1 Mw1 ∧ ad1 0 0 = ad 0 0) (mE G A) A) (xX (fun _ => False) G A Mw) 4 24 A := by
  refine vx_ofWH (cc := cL_barometer) (maxL := 6) (ret := (some .int)) (by decide) rfl ?_
  intro p e s m args below meth c s₁ B hml hv
  obtain ⟨rfl, hG, hP, hI, hA⟩ := hv
  have hx := B.exec
  have hb := B.bytes
  have hr := B.returns
  have hts := atoms_spec (ws := wsL_barometer) B.pre
  have hown : s.vm.findClass RL = some m.cls := findClass_of_methodNamed B.named
  have hlocks := B.notSynchronized
  have hK := hG.K
  have hS : va_S A s.heap s.heap [] := va_S.rf
  have hl := lv_entry ([.ref (ad 0 0), .int p0, .int p1, .int p2, .int p3]) (n := 6) (Nat.le_of_ble_eq_true rfl)
  rw [lg_entry_eq]
  generalize (lg_sl ([.ref (ad 0 0), .int p0, .int p1, .int p2, .int p3]) ++ List.replicate (6 - (lg_sl ([.ref (ad 0 0), .int p0, .int p1, .int p2, .int p3])).length) Slot.unset).toArray = ls at hl ⊢
  have hl : lv_has ls 6 [(0, .ref (ad 0 0)), (1, .int p0), (2, .int p1), (3, .int p2), (4, .int p3)] := hl
  have hP : mP G.1 Mw s.heap := hP
  refine lv_aload_n hx hb dL_barometer_0 rfl (lv_at hl 0 rfl) ?_
  refine lv_iload_n hx hb dL_barometer_1 rfl (lv_at hl 1 rfl) ?_
  refine lv_iload_n hx hb dL_barometer_2 rfl (lv_at hl 2 rfl) ?_
  refine lv_iload_n hx hb dL_barometer_3 rfl (lv_at hl 3 rfl) ?_
  refine lv_iload hx hb dL_barometer_4 (lv_at hl 4 rfl) ?_
  refine mx_calli (vx_runV (As := [.int p0, .int p1, .int p2, .int p3]) (rest := []) ⟨hx, hb, hml, hown, hts⟩ (c_X4_barometer l G A Mw hl9 st ad p0 p1 p2 p3 hC hV) (cwV 4 hts gL_barometer_X4_barometer rfl rfl rfl (by decide +kernel) ⟨Nat.le_of_ble_eq_true rfl, Nat.le_of_ble_eq_true rfl⟩) (mPreV hG hS hP hI hA (hP (ad 0 0) _ (hC.1 0 0 (ok0 st))) (r := (RX4, TX4, 9)) rfl) rfl rfl hl.1 rfl (lv_room (Nat.le_of_ble_eq_true rfl)) dL_barometer_6 ⟨Nat.le_of_ble_eq_true rfl, Nat.le_of_ble_eq_true rfl⟩) hS (fun E9 ce9 q9 H locs hpx9 hP hI hS hc9 hv9 hcl9 => ?_) (fun r9 Mw1 H locs hp9 hP hI hS => ?_)
  · obtain ⟨k9, hk9, hnm9⟩ := hpx9
    have hT : c.exceptionTable.toList = tableOf [(0, 9, 10, 15)] := vx_table (x := yL_barometer) B (hts _ List.mem_cons_self)
    have hrf : (m_barometer st p0 p1 p2 p3).2.2 = st := rf_barometer st p0 p1 p2 p3 (by rw [hk9]; omega)
    match k9, hk9, hnm9 with
    | 0, hk9, hnm9 =>
      cases hnm9
      refine vx_catch (E := "java/lang/IllegalArgumentException") (name := "java/lang/IllegalArgumentException") hown [] ⟨0, 9, 10, 15⟩ [] hT (fun z hz => by cases hz) rfl (by decide) (hts (.classLink RL 15 "java/lang/IllegalArgumentException") (by decide +kernel)) (va_Nw.use rfl (hG.2.1.2.2.2.1 ("java/lang/IllegalArgumentException", "java/lang/IllegalArgumentException") (by decide +kernel))) hc9 hv9 hcl9 ?_
      refine lv_astore (lv' := [(5, .ref q9), (0, .ref (ad 0 0)), (1, .int p0), (2, .int p1), (3, .int p2), (4, .int p3)]) hx hb dL_barometer_10 hl (by decide) rfl (fun ls hl => ?_)
      refine lv_ldc (v := (-900001)) hx hb hown (hts (.constant RL 17 (-900001)) (by decide +kernel)) dL_barometer_12 ?_
      refine W.widen (k := 4) (n := 24) (Nat.le_of_ble_eq_true rfl) (Nat.le_of_ble_eq_true rfl) ?_
      refine vx_ret ?_
      exact W.iret (v := (-900001)) hx hb hr (fun t99 ht99 hW99 => ⟨⟨(-900001), Mw, rfl, ⟨ad, by rw [wan_k hk9]; rfl, by rw [hrf]; exact hC, rfl⟩, by rw [ht99]; exact hP, hI⟩, hS.F ht99⟩) hS.2.2 dL_barometer_14
    | (k9 + 1), hk9, hnm9 => cases hnm9
  obtain ⟨s9, ad9, hop, hC9, ha9⟩ := hp9
  refine W.widen (k := 4) (n := 24) (Nat.le_of_ble_eq_true rfl) (Nat.le_of_ble_eq_true rfl) ?_
  refine vx_ret ?_
  exact W.iret (v := r9) hx hb hr (fun t99 ht99 hW99 => ⟨⟨r9, Mw1, rfl, ⟨ad9, by rw [hop]; rfl, by rw [hop]; exact hC9, ha9⟩, by rw [ht99]; exact hP, hI⟩, hS.F ht99⟩) hS.2.2 dL_barometer_9

set_option maxHeartbeats 4000000 in
set_option maxRecDepth 100000 in
theorem c_L_cell (l : Launch) (G : mg) (A : Nat → Prop) (Mw : mw) (p0 : Int32) (hi0 : ¬ p0 < 0) : Met l yL_cell wsL_cell ({ frames := 0, cells := 0, slots := 0, locals := 0 }) (va_Pc [.ref (G.2.2.2 0), .int p0] (mB G A Mw)) (va_Qi (fun _ Mw1 => Mw1 = Mw) (mE G A) A) 0 0 A := by
  refine Met.ofW (cc := cL_cell) (maxL := 3) (ret := (some .int)) (by decide) rfl ?_
  intro p e s m args below meth c s₁ B hml hv
  obtain ⟨rfl, hG, hP, hI, hA⟩ := hv
  have hx := B.exec
  have hb := B.bytes
  have hr := B.returns
  have hts := atoms_spec (ws := wsL_cell) B.pre
  have hown : s.vm.findClass RL = some m.cls := findClass_of_methodNamed B.named
  have hlocks := B.notSynchronized
  have hK := hG.K
  have hS : va_S A s.heap s.heap [] := va_S.rf
  have hl := lv_entry ([.ref (G.2.2.2 0), .int p0]) (n := 3) (Nat.le_of_ble_eq_true rfl)
  rw [lg_entry_eq]
  generalize (lg_sl ([.ref (G.2.2.2 0), .int p0]) ++ List.replicate (3 - (lg_sl ([.ref (G.2.2.2 0), .int p0])).length) Slot.unset).toArray = ls at hl ⊢
  have hl : lv_has ls 3 [(0, .ref (G.2.2.2 0)), (1, .int p0)] := hl
  have hP : mP G.1 Mw s.heap := hP
  refine lv_ldc (v := 69069) hx hb hown (hts (.constant RL 7 (69069)) (by decide +kernel)) dL_cell_0 ?_
  refine lv_iload_n hx hb dL_cell_2 rfl (lv_at hl 1 rfl) ?_
  refine lv_aload_n hx hb dL_cell_3 rfl (lv_at hl 0 rfl) ?_
  refine va_slen hx hb hG.2.2.2.2.1 hG.2.2.2.2.1.lt hG.2.2.2.2.2 hS dL_cell_4 ?_
  refine lv_icmp_ge (tgt := 14) hx hb dL_cell_5 (by decide) (fun c1 => ?_) (fun c1 => ?_)
  · skip
    refine lv_iconst (v := 0) hx hb dL_cell_14 (by decide) ?_
    refine lv_sipush (v := (1009)) hx hb dL_cell_15 (by decide) ?_
    refine lv_iload_n hx hb dL_cell_18 rfl (lv_at hl 1 rfl) ?_
    refine lv_imul hx hb dL_cell_19 ?_
    refine lv_iadd hx hb dL_cell_20 ?_
    refine lv_imul hx hb dL_cell_21 ?_
    refine lv_sipush (v := (12345)) hx hb dL_cell_22 (by decide) ?_
    refine lv_iadd hx hb dL_cell_25 ?_
    refine lv_istore_n (lv' := [(2, .int ((69069 * (0 + (1009 * p0))) + 12345)), (0, .ref (G.2.2.2 0)), (1, .int p0)]) hx hb dL_cell_26 rfl hl (by decide) rfl (fun ls hl => ?_)
    refine lv_iload_n hx hb dL_cell_27 rfl (lv_at hl 0 rfl) ?_
    refine lv_iload_n hx hb dL_cell_28 rfl (lv_at hl 0 rfl) ?_
    refine lv_bipush (v := (13)) hx hb dL_cell_29 (by decide) ?_
    refine lv_iushr (v := (((69069 * (0 + (1009 * p0))) + 12345).toUInt32 >>> ((13 : Int32).toUInt32 &&& Int32.toUInt32 31)).toInt32) hx hb dL_cell_31 rfl ?_
    refine lv_ixor hx hb dL_cell_32 ?_
    refine lv_ldc (v := 1103515245) hx hb hown (hts (.constant RL 8 (1103515245)) (by decide +kernel)) dL_cell_33 ?_
    refine lv_imul hx hb dL_cell_35 ?_
    refine lv_istore_n (lv' := [(2, .int ((((69069 * (0 + (1009 * p0))) + 12345) ^^^ ((((69069 * (0 + (1009 * p0))) + 12345).toUInt32 >>> ((13 : Int32).toUInt32 &&& Int32.toUInt32 31)).toInt32)) * 1103515245)), (0, .ref (G.2.2.2 0)), (1, .int p0)]) hx hb dL_cell_36 rfl hl (by decide) rfl (fun ls hl => ?_)
    refine lv_iload_n hx hb dL_cell_37 rfl (lv_at hl 0 rfl) ?_
    refine lv_iload_n hx hb dL_cell_38 rfl (lv_at hl 0 rfl) ?_
    refine lv_bipush (v := (16)) hx hb dL_cell_39 (by decide) ?_
    refine lv_iushr (v := (((((69069 * (0 + (1009 * p0))) + 12345) ^^^ ((((69069 * (0 + (1009 * p0))) + 12345).toUInt32 >>> ((13 : Int32).toUInt32 &&& Int32.toUInt32 31)).toInt32)) * 1103515245).toUInt32 >>> ((16 : Int32).toUInt32 &&& Int32.toUInt32 31)).toInt32) hx hb dL_cell_41 rfl ?_
    refine lv_ixor hx hb dL_cell_42 ?_
    refine W.widen (k := 0) (n := 0) (Nat.le_of_ble_eq_true rfl) (Nat.le_of_ble_eq_true rfl) ?_
    exact W.iret (v := ((((69069 * (0 + (1009 * p0))) + 12345) ^^^ ((((69069 * (0 + (1009 * p0))) + 12345).toUInt32 >>> ((13 : Int32).toUInt32 &&& Int32.toUInt32 31)).toInt32)) * 1103515245) ^^^ ((((((69069 * (0 + (1009 * p0))) + 12345) ^^^ ((((69069 * (0 + (1009 * p0))) + 12345).toUInt32 >>> ((13 : Int32).toUInt32 &&& Int32.toUInt32 31)).toInt32)) * 1103515245).toUInt32 >>> ((16 : Int32).toUInt32 &&& Int32.toUInt32 31)).toInt32)) hx hb hr (fun t99 ht99 hW99 => ⟨⟨((((69069 * (0 + (1009 * p0))) + 12345) ^^^ ((((69069 * (0 + (1009 * p0))) + 12345).toUInt32 >>> ((13 : Int32).toUInt32 &&& Int32.toUInt32 31)).toInt32)) * 1103515245) ^^^ ((((((69069 * (0 + (1009 * p0))) + 12345) ^^^ ((((69069 * (0 + (1009 * p0))) + 12345).toUInt32 >>> ((13 : Int32).toUInt32 &&& Int32.toUInt32 31)).toInt32)) * 1103515245).toUInt32 >>> ((16 : Int32).toUInt32 &&& Int32.toUInt32 31)).toInt32), Mw, rfl, rfl, by rw [ht99]; exact hP, hI⟩, hS.F ht99⟩) hS.2.2 dL_cell_43
  · skip
    refine lv_aload_n hx hb dL_cell_8 rfl (lv_at hl 0 rfl) ?_
    refine lv_iload_n hx hb dL_cell_9 rfl (lv_at hl 1 rfl) ?_
    refine va_sld hx hb hG.2.2.2.2.1 hG.2.2.2.2.1.lt hG.2.2.2.2.2 hS (vin_of hi0 (Nat.lt_of_le_of_lt hG.1 (by decide)) c1) dL_cell_10 ?_
    refine lv_topi (fun x5 ex5 => ?_)
    refine lv_goto (tgt := 15) hx hb dL_cell_11 (by decide) ?_
    refine lv_sipush (v := (1009)) hx hb dL_cell_15 (by decide) ?_
    refine lv_iload_n hx hb dL_cell_18 rfl (lv_at hl 1 rfl) ?_
    refine lv_imul hx hb dL_cell_19 ?_
    refine lv_iadd hx hb dL_cell_20 ?_
    refine lv_imul hx hb dL_cell_21 ?_
    refine lv_sipush (v := (12345)) hx hb dL_cell_22 (by decide) ?_
    refine lv_iadd hx hb dL_cell_25 ?_
    refine lv_istore_n (lv' := [(2, .int ((69069 * (x5 + (1009 * p0))) + 12345)), (0, .ref (G.2.2.2 0)), (1, .int p0)]) hx hb dL_cell_26 rfl hl (by decide) rfl (fun ls hl => ?_)
    refine lv_iload_n hx hb dL_cell_27 rfl (lv_at hl 0 rfl) ?_
    refine lv_iload_n hx hb dL_cell_28 rfl (lv_at hl 0 rfl) ?_
    refine lv_bipush (v := (13)) hx hb dL_cell_29 (by decide) ?_
    refine lv_iushr (v := (((69069 * (x5 + (1009 * p0))) + 12345).toUInt32 >>> ((13 : Int32).toUInt32 &&& Int32.toUInt32 31)).toInt32) hx hb dL_cell_31 rfl ?_
    refine lv_ixor hx hb dL_cell_32 ?_
    refine lv_ldc (v := 1103515245) hx hb hown (hts (.constant RL 8 (1103515245)) (by decide +kernel)) dL_cell_33 ?_
    refine lv_imul hx hb dL_cell_35 ?_
    refine lv_istore_n (lv' := [(2, .int ((((69069 * (x5 + (1009 * p0))) + 12345) ^^^ ((((69069 * (x5 + (1009 * p0))) + 12345).toUInt32 >>> ((13 : Int32).toUInt32 &&& Int32.toUInt32 31)).toInt32)) * 1103515245)), (0, .ref (G.2.2.2 0)), (1, .int p0)]) hx hb dL_cell_36 rfl hl (by decide) rfl (fun ls hl => ?_)
    refine lv_iload_n hx hb dL_cell_37 rfl (lv_at hl 0 rfl) ?_
    refine lv_iload_n hx hb dL_cell_38 rfl (lv_at hl 0 rfl) ?_
    refine lv_bipush (v := (16)) hx hb dL_cell_39 (by decide) ?_
    refine lv_iushr (v := (((((69069 * (x5 + (1009 * p0))) + 12345) ^^^ ((((69069 * (x5 + (1009 * p0))) + 12345).toUInt32 >>> ((13 : Int32).toUInt32 &&& Int32.toUInt32 31)).toInt32)) * 1103515245).toUInt32 >>> ((16 : Int32).toUInt32 &&& Int32.toUInt32 31)).toInt32) hx hb dL_cell_41 rfl ?_
    refine lv_ixor hx hb dL_cell_42 ?_
    refine W.widen (k := 0) (n := 0) (Nat.le_of_ble_eq_true rfl) (Nat.le_of_ble_eq_true rfl) ?_
    exact W.iret (v := ((((69069 * (x5 + (1009 * p0))) + 12345) ^^^ ((((69069 * (x5 + (1009 * p0))) + 12345).toUInt32 >>> ((13 : Int32).toUInt32 &&& Int32.toUInt32 31)).toInt32)) * 1103515245) ^^^ ((((((69069 * (x5 + (1009 * p0))) + 12345) ^^^ ((((69069 * (x5 + (1009 * p0))) + 12345).toUInt32 >>> ((13 : Int32).toUInt32 &&& Int32.toUInt32 31)).toInt32)) * 1103515245).toUInt32 >>> ((16 : Int32).toUInt32 &&& Int32.toUInt32 31)).toInt32)) hx hb hr (fun t99 ht99 hW99 => ⟨⟨((((69069 * (x5 + (1009 * p0))) + 12345) ^^^ ((((69069 * (x5 + (1009 * p0))) + 12345).toUInt32 >>> ((13 : Int32).toUInt32 &&& Int32.toUInt32 31)).toInt32)) * 1103515245) ^^^ ((((((69069 * (x5 + (1009 * p0))) + 12345) ^^^ ((((69069 * (x5 + (1009 * p0))) + 12345).toUInt32 >>> ((13 : Int32).toUInt32 &&& Int32.toUInt32 31)).toInt32)) * 1103515245).toUInt32 >>> ((16 : Int32).toUInt32 &&& Int32.toUInt32 31)).toInt32), Mw, rfl, rfl, by rw [ht99]; exact hP, hI⟩, hS.F ht99⟩) hS.2.2 dL_cell_43

theorem mod_b {x n : Int32} (h0 : 0 ≤ x.toInt) (hn : 0 < n.toInt) : (x - x / n * n).toInt = x.toInt % n.toInt := by
  have hn1 : n ≠ -1 := fun q => by rw [q] at hn; exact absurd hn (by decide)
  have e1 : (x / n).toInt = x.toInt / n.toInt := t_div h0 hn1
  have hm := Int.mul_ediv_add_emod x.toInt n.toInt
  have h1 := Int.emod_nonneg x.toInt (show n.toInt ≠ 0 by omega)
  have h2 := Int.emod_lt_of_pos x.toInt hn
  have h3 : 0 ≤ x.toInt / n.toInt := Int.ediv_nonneg h0 (by omega)
  have h4 : x.toInt < 2147483648 := x.toInt_lt
  have hc : x.toInt / n.toInt * n.toInt = n.toInt * (x.toInt / n.toInt) := Int.mul_comm _ _
  have h5 : 0 ≤ x.toInt / n.toInt * n.toInt := Int.mul_nonneg h3 (by omega)
  have e2 : (x / n * n).toInt = x.toInt / n.toInt * n.toInt := by
    rw [t_mul (by rw [e1]; omega) (by rw [e1]; omega), e1]
  rw [t_sub (by rw [e2]; omega) (by rw [e2]; omega), e2]
  omega
theorem in_b (x : Int32) {n : Int32} (hn : 0 < n.toInt) : 0 ≤ ((x &&& 2147483647) - (x &&& 2147483647) / n * n).toInt ∧ ((x &&& 2147483647) - (x &&& 2147483647) / n * n).toInt < n.toInt := by
  have h0 : 0 ≤ (x &&& 2147483647).toInt := by
    have e : (x &&& 2147483647).toBitVec.toNat = x.toBitVec.toNat &&& (2 ^ 31 - 1) := by
      show (x.toBitVec &&& (2147483647 : Int32).toBitVec).toNat = _
      rw [BitVec.toNat_and]
      rfl
    have e2 : (x &&& 2147483647).toBitVec.toNat < 2 ^ 31 := by
      rw [e, Nat.and_two_pow_sub_one_eq_mod]
      exact Nat.mod_lt _ (by decide)
    show 0 ≤ (x &&& 2147483647).toBitVec.toInt
    rw [BitVec.toInt_eq_toNat_of_lt (by omega)]
    omega
  rw [mod_b h0 hn]
  exact ⟨Int.emod_nonneg _ (by omega), Int.emod_lt_of_pos _ hn⟩

set_option maxHeartbeats 4000000 in
set_option maxRecDepth 100000 in
theorem c_L_in (l : Launch) (G : mg) (A : Nat → Prop) (Mw : mw) (p0 p1 : Int32) (hi0 : ¬ p0 < 0) (hn0 : 0 < p1.toInt) : Met l yL_in wsL_in ({ frames := 1, cells := 0, slots := 0, locals := 22 }) (va_Pc [.ref (G.2.2.2 0), .int p0, .int p1] (mB G A Mw)) (va_Qi (fun r Mw1 => (0 ≤ r.toInt ∧ r.toInt < p1.toInt) ∧ Mw1 = Mw) (mE G A) A) 0 0 A := by
  refine Met.ofW (cc := cL_in) (maxL := 3) (ret := (some .int)) (by decide) rfl ?_
  intro p e s m args below meth c s₁ B hml hv
  obtain ⟨rfl, hG, hP, hI, hA⟩ := hv
  have hx := B.exec
  have hb := B.bytes
  have hr := B.returns
  have hts := atoms_spec (ws := wsL_in) B.pre
  have hown : s.vm.findClass RL = some m.cls := findClass_of_methodNamed B.named
  have hlocks := B.notSynchronized
  have hK := hG.K
  have hS : va_S A s.heap s.heap [] := va_S.rf
  have hl := lv_entry ([.ref (G.2.2.2 0), .int p0, .int p1]) (n := 3) (Nat.le_of_ble_eq_true rfl)
  rw [lg_entry_eq]
  generalize (lg_sl ([.ref (G.2.2.2 0), .int p0, .int p1]) ++ List.replicate (3 - (lg_sl ([.ref (G.2.2.2 0), .int p0, .int p1])).length) Slot.unset).toArray = ls at hl ⊢
  have hl : lv_has ls 3 [(0, .ref (G.2.2.2 0)), (1, .int p0), (2, .int p1)] := hl
  have hP : mP G.1 Mw s.heap := hP
  refine lv_aload_n hx hb dL_in_0 rfl (lv_at hl 0 rfl) ?_
  refine lv_iload_n hx hb dL_in_1 rfl (lv_at hl 1 rfl) ?_
  refine m_calli (va_runS (As := [.ref (G.2.2.2 0), .int p0]) (rest := []) ⟨hx, hb, hml, hown, hts⟩ (c_L_cell l G A Mw p0 hi0) (va_cwS 2 hts gL_in_L_cell rfl rfl rfl (by decide +kernel) ⟨Nat.le_of_ble_eq_true rfl, Nat.le_of_ble_eq_true rfl⟩) (mPreS hG hS hP hI hA) rfl rfl hl.1 rfl (lv_room (Nat.le_of_ble_eq_true rfl)) dL_in_2 ⟨Nat.le_of_ble_eq_true rfl, Nat.le_of_ble_eq_true rfl⟩) hS (fun r1 Mw1 H locs hp_r1 hP hI hS => ?_)
  subst Mw1
  refine lv_ldc (v := 2147483647) hx hb hown (hts (.constant RL 66 (2147483647)) (by decide +kernel)) dL_in_5 ?_
  refine lv_iand hx hb dL_in_7 ?_
  refine lv_iload_n hx hb dL_in_8 rfl (lv_at hl 2 rfl) ?_
  refine lv_irem hx hb dL_in_9 (fun q => by rw [q] at hn0; exact absurd hn0 (by decide)) ?_
  refine W.widen (k := 0) (n := 0) (Nat.le_of_ble_eq_true rfl) (Nat.le_of_ble_eq_true rfl) ?_
  exact W.iret (v := (r1 &&& 2147483647) - (r1 &&& 2147483647) / p1 * p1) hx hb hr (fun t99 ht99 hW99 => ⟨⟨(r1 &&& 2147483647) - (r1 &&& 2147483647) / p1 * p1, Mw, rfl, ⟨in_b _ hn0, rfl⟩, by rw [ht99]; exact hP, hI⟩, hS.F ht99⟩) hS.2.2 dL_in_10
