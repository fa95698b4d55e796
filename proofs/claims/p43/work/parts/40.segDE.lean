set_option maxHeartbeats 4000000 in
set_option maxRecDepth 100000 in
theorem sg_D {p : Program} {l : Launch} {e : Env} {s : State} {m : MethodId} {below : List Frame} {meth : Method} {c : Code} {Q : State → Prop} {b : Nat} {G : mg} (C0 : TwC p l s m c b G) {H : Heap} {locs : List Loc} {ls : Array Slot} {cells slots : Nat} {cw : Nat} {o1 : Nat} {bo fb : Nat → Int32} (hcs : cells + 100 ≤ 624961 ∧ slots + 1000 ≤ 7226742) (hX : LwX G s.heap.size H cw (pq bo) (mu m043 o1 (E43 G 20 fb))) (hS : va_S (aH s.heap.size) s.heap H locs) (hl : lv_has ls 22 [(0, .ref b), (1, .ref cw), (4, .int 1), (5, .ref o1)])
    (kk : ∀ (o2 : Nat) (_ : o1 ≠ o2) (H1 : Heap) (locs1 : List Loc) (ls1 : Array Slot), LwX G s.heap.size H1 cw (pq bo) (mu (mu m043 o1 (E43 G 20 fb)) o2 (E43 G 201 (fun _ => 0))) → va_S (aH s.heap.size) s.heap H1 locs1 → lv_has ls1 22 [(0, .ref b), (1, .ref cw), (4, .int 1), (5, .ref o1), (6, .ref o2), (7, .int 0), (8, .int 0)] → W p l e room_1 s m #[Value.ref b] below meth c H1 locs1 (cells + 100) (slots + 1000) Q (F0 m 264 ls1 [])) : W p l e room_1 s m #[Value.ref b] below meth c H locs cells slots Q (F0 m 251 ls []) := by
  obtain ⟨hx, hb, hml, hown, hts, hG, hb0, hl9⟩ := id C0
  refine lv_sipush (v := (201)) hx hb dL_law_251 (by decide) ?_
  refine lx_newa C0 dL_law_254 hX hS (N := 201) (by decide) (by decide) (by decide) ⟨by omega, by omega⟩ (fun o2 H hn_o2 hX hS => ?_)
  have hne : o1 ≠ o2 := fun z => by rw [← z, mu_s] at hn_o2; cases hn_o2
  refine lv_astore (lv' := [(6, .ref o2), (0, .ref b), (1, .ref cw), (4, .int 1), (5, .ref o1)]) hx hb dL_law_256 hl (by decide) rfl (fun ls hl => ?_)
  refine lv_iconst (v := 0) hx hb dL_law_258 (by decide) ?_
  refine lv_istore (lv' := [(7, .int 0), (6, .ref o2), (0, .ref b), (1, .ref cw), (4, .int 1), (5, .ref o1)]) hx hb dL_law_259 hl (by decide) rfl (fun ls hl => ?_)
  refine lv_iconst (v := 0) hx hb dL_law_261 (by decide) ?_
  refine lv_istore (lv' := [(8, .int 0), (7, .int 0), (6, .ref o2), (0, .ref b), (1, .ref cw), (4, .int 1), (5, .ref o1)]) hx hb dL_law_262 hl (by decide) rfl (fun ls hl => ?_)
  refine W.widen (k := cells + 100) (n := slots + 1000) (by omega) (by omega) ?_
  exact kk o2 hne H locs ls hX hS (lv_sub hl [3, 4, 5, 6, 2, 1, 0] rfl)
set_option maxHeartbeats 4000000 in
set_option maxRecDepth 100000 in
theorem sg_E {p : Program} {l : Launch} {e : Env} {s : State} {m : MethodId} {below : List Frame} {meth : Method} {c : Code} {Q : State → Prop} {b : Nat} {G : mg} (C0 : TwC p l s m c b G) {H : Heap} {locs : List Loc} {ls : Array Slot} {cells slots : Nat} {cw : Nat} {o1 o2 k : Nat} {bo fb fs : Nat → Int32} (hne : o1 ≠ o2) (hk : k < 200) (hfb : ∀ j, j < 20 → fb j = bo j) (hfs : ∀ j, j ≤ k → fs j = msum bo j) (hcs : cells + 0 ≤ 624961 ∧ slots + 0 ≤ 7226742) (hX : LwX G s.heap.size H cw (pq bo) (mu (mu m043 o1 (E43 G 20 fb)) o2 (E43 G 201 fs))) (hS : va_S (aH s.heap.size) s.heap H locs) (hl : lv_has ls 22 [(0, .ref b), (1, .ref cw), (4, .int 1), (5, .ref o1), (6, .ref o2), (7, .int (wid bo ((k + 9) / 10))), (8, .int (nI k))])
    (kk : ∀ (fs1 : Nat → Int32) (_ : ∀ j, j ≤ k + 1 → fs1 j = msum bo j) (H1 : Heap) (locs1 : List Loc) (ls1 : Array Slot), LwX G s.heap.size H1 cw (pq bo) (mu (mu m043 o1 (E43 G 20 fb)) o2 (E43 G 201 fs1)) → va_S (aH s.heap.size) s.heap H1 locs1 → lv_has ls1 22 [(0, .ref b), (1, .ref cw), (4, .int 1), (5, .ref o1), (6, .ref o2), (7, .int (wid bo ((k + 1 + 9) / 10))), (8, .int (nI (k + 1)))] → W p l e room_1 s m #[Value.ref b] below meth c H1 locs1 (cells + 0) (slots + 0) Q (F0 m 264 ls1 [])) : W p l e room_1 s m #[Value.ref b] below meth c H locs cells slots Q (F0 m 264 ls []) := by
  obtain ⟨hx, hb, hml, hown, hts, hG, hb0, hl9⟩ := id C0
  refine lv_iload hx hb dL_law_264 (lv_at hl 6 rfl) ?_
  refine lv_sipush (v := (200)) hx hb dL_law_266 (by decide) ?_
  refine lv_icmp_ge (tgt := 327) hx hb dL_law_269 (by decide) (fun c1 => absurd c1 (nI_ge (a := k) (b := 200) hk (by omega))) (fun c1 => ?_)
  refine lv_aload hx hb dL_law_272 (lv_at hl 4 rfl) ?_
  refine lv_iload hx hb dL_law_274 (lv_at hl 6 rfl) ?_
  refine lv_iconst (v := 1) hx hb dL_law_276 (by decide) ?_
  refine lv_iadd hx hb dL_law_277 ?_
  refine lv_aload hx hb dL_law_278 (lv_at hl 4 rfl) ?_
  refine lv_iload hx hb dL_law_280 (lv_at hl 6 rfl) ?_
  refine lx_iald C0 dL_law_282 hX mu_s (vp_in_nI (show k < 201 by omega) (by omega)) (v := msum bo k) (by rw [nI_clamp (by omega)]; exact hfs k (Nat.le_refl k)) ?_
  refine lv_aload hx hb dL_law_283 (lv_at hl 3 rfl) ?_
  refine lv_iload hx hb dL_law_285 (lv_at hl 6 rfl) ?_
  refine lv_bipush (v := (10)) hx hb dL_law_287 (by decide) ?_
  refine lv_idiv hx hb dL_law_289 (by decide) ?_
  refine lv_topi (fun y2 ey2 => ?_)
  obtain rfl : y2 = nI (k / 10) := ey2.trans (nI_d10 (by omega))
  refine lx_iald C0 dL_law_290 hX (mu_k hne mu_s) (vp_in_nI (show k / 10 < 20 by omega) (by omega)) (v := bo (k / 10)) (by rw [nI_clamp (by omega)]; exact hfb _ (by omega)) ?_
  refine lv_iadd hx hb dL_law_291 ?_
  refine lx_iast C0 dL_law_292 hX hS mu_s (by rw [← nI_succ]; exact vp_in_nI (by omega) (by omega)) (k := k + 1) (by rw [← nI_succ]; exact nI_clamp (by omega)) (fun H locs hX hS => ?_)
  rw [mu_uu] at hX
  refine lv_aload hx hb dL_law_293 (lv_at hl 3 rfl) ?_
  refine lv_iload hx hb dL_law_295 (lv_at hl 6 rfl) ?_
  refine lv_bipush (v := (10)) hx hb dL_law_297 (by decide) ?_
  refine lv_idiv hx hb dL_law_299 (by decide) ?_
  refine lv_topi (fun y3 ey3 => ?_)
  obtain rfl : y3 = nI (k / 10) := ey3.trans (nI_d10 (by omega))
  refine lx_iald C0 dL_law_300 hX (mu_k hne mu_s) (vp_in_nI (show k / 10 < 20 by omega) (by omega)) (v := bo (k / 10)) (by rw [nI_clamp (by omega)]; exact hfb _ (by omega)) ?_
  refine lv_aload hx hb dL_law_301 (lv_at hl 3 rfl) ?_
  refine lv_iload hx hb dL_law_303 (lv_at hl 5 rfl) ?_
  refine lx_iald C0 dL_law_305 hX (mu_k hne mu_s) (wd_in bo (by omega)) (v := bo ((wid bo ((k + 9) / 10)).toNatClampNeg)) (hfb _ (Nat.lt_of_not_le (fun q => (wd_in bo (k := k) (by omega)) (Or.inr q)))) ?_
  refine lv_icmp_le (tgt := 317) hx hb dL_law_306 (by decide) (fun c4 => ?_) (fun c4 => ?_)
  · skip
    refine lv_iload hx hb dL_law_317 (lv_at hl 5 rfl) ?_
    refine lv_istore (lv' := [(7, .int (wid bo ((k + 9) / 10))), (0, .ref b), (1, .ref cw), (4, .int 1), (5, .ref o1), (6, .ref o2), (8, .int (nI k))]) hx hb dL_law_319 hl (by decide) rfl (fun ls hl => ?_)
    refine lv_iinc (v := (nI k) + 1) (lv' := [(8, .int ((nI k) + 1)), (7, .int (wid bo ((k + 9) / 10))), (0, .ref b), (1, .ref cw), (4, .int 1), (5, .ref o1), (6, .ref o2)]) hx hb dL_law_321 hl (k := 6) rfl rfl (by decide) rfl (fun ls hl => ?_)
    refine lv_goto (tgt := 264) hx hb dL_law_324 (by decide) ?_
    rw [← nI_succ] at hl
    rw [← (wd_st bo hk).1 c4] at hl
    refine kk _ (fun j hj => ?_) H locs ls hX hS (lv_sub hl [2, 3, 4, 5, 6, 1, 0] rfl)
    show (if j = k + 1 then msum bo k + bo (k / 10) else fs j) = _
    by_cases z : j = k + 1
    · rw [if_pos z, z]; rfl
    · rw [if_neg z]; exact hfs j (by omega)
  · skip
    refine lv_iload hx hb dL_law_309 (lv_at hl 6 rfl) ?_
    refine lv_bipush (v := (10)) hx hb dL_law_311 (by decide) ?_
    refine lv_idiv hx hb dL_law_313 (by decide) ?_
    refine lv_topi (fun y5 ey5 => ?_)
    obtain rfl : y5 = nI (k / 10) := ey5.trans (nI_d10 (by omega))
    refine lv_goto (tgt := 319) hx hb dL_law_314 (by decide) ?_
    refine lv_istore (lv' := [(7, .int (nI (k / 10))), (0, .ref b), (1, .ref cw), (4, .int 1), (5, .ref o1), (6, .ref o2), (8, .int (nI k))]) hx hb dL_law_319 hl (by decide) rfl (fun ls hl => ?_)
    refine lv_iinc (v := (nI k) + 1) (lv' := [(8, .int ((nI k) + 1)), (7, .int (nI (k / 10))), (0, .ref b), (1, .ref cw), (4, .int 1), (5, .ref o1), (6, .ref o2)]) hx hb dL_law_321 hl (k := 6) rfl rfl (by decide) rfl (fun ls hl => ?_)
    refine lv_goto (tgt := 264) hx hb dL_law_324 (by decide) ?_
    rw [← nI_succ] at hl
    rw [← (wd_st bo hk).2 c4] at hl
    refine kk _ (fun j hj => ?_) H locs ls hX hS (lv_sub hl [2, 3, 4, 5, 6, 1, 0] rfl)
    show (if j = k + 1 then msum bo k + bo (k / 10) else fs j) = _
    by_cases z : j = k + 1
    · rw [if_pos z, z]; rfl
    · rw [if_neg z]; exact hfs j (by omega)
