set_option maxHeartbeats 4000000 in
set_option maxRecDepth 100000 in
theorem sg_F {p : Program} {l : Launch} {e : Env} {s : State} {m : MethodId} {below : List Frame} {meth : Method} {c : Code} {Q : State → Prop} {b : Nat} {G : mg} (C0 : TwC p l s m c b G) {H : Heap} {locs : List Loc} {ls : Array Slot} {cells slots : Nat} {cw : Nat} {o1 o2 : Nat} {bo fb fs : Nat → Int32} (hcs : cells + 500 ≤ 624961 ∧ slots + 5000 ≤ 7226742) (hX : LwX G s.heap.size H cw (pq bo) (mu (mu m043 o1 (E43 G 20 fb)) o2 (E43 G 201 fs))) (hS : va_S (aH s.heap.size) s.heap H locs) (hl : lv_has ls 22 [(0, .ref b), (1, .ref cw), (4, .int 1), (5, .ref o1), (6, .ref o2), (7, .int (wid bo 20))])
    (kk : ∀ (H1 : Heap) (locs1 : List Loc) (ls1 : Array Slot), LwX G s.heap.size H1 cw (pq bo) (mu (mu m043 o1 (E43 G 20 fb)) o2 (E43 G 201 fs)) → va_S (aH s.heap.size) s.heap H1 locs1 → lv_has ls1 22 [(0, .ref b), (1, .ref cw), (4, .int 1), (5, .ref o1), (6, .ref o2), (8, .int 0)] → W p l e room_1 s m #[Value.ref b] below meth c H1 locs1 (cells + 500) (slots + 5000) Q (F0 m 399 ls1 [])) : W p l e room_1 s m #[Value.ref b] below meth c H locs cells slots Q (F0 m 327 ls []) := by
  obtain ⟨hx, hb, hml, hown, hts, hG, hb0, hl9⟩ := id C0
  refine lv_iload hx hb dL_law_327 (lv_at hl 2 rfl) ?_
  refine lv_aload_n hx hb dL_law_329 rfl (lv_at hl 1 rfl) ?_
  refine lv_iconst (v := 0) hx hb dL_law_330 (by decide) ?_
  refine lv_iconst (v := 0) hx hb dL_law_331 (by decide) ?_
  refine lv_bipush (v := (61)) hx hb dL_law_332 (by decide) ?_
  refine lx_section1 C0 dL_law_334 hX hS hl ⟨by omega, by omega⟩ (-900002) (pq bo) (fun st hF hV => by rw [q_section3 hF.1 (by decide) (by decide)]; exact ⟨wan_2, hF⟩) (fun H locs hX hS => ?_)
  refine lv_ldc (v := (-900002)) hx hb hown (hts (.constant RL 20 (-900002)) (by decide +kernel)) dL_law_337 ?_
  refine lv_icmp_ne (tgt := 392) hx hb dL_law_339 (by decide) (fun h9 => absurd h9 (by decide)) (fun _ => ?_)
  refine lv_aload_n hx hb dL_law_342 rfl (lv_at hl 1 rfl) ?_
  refine lv_iconst (v := 0) hx hb dL_law_343 (by decide) ?_
  refine lv_bipush (v := (20)) hx hb dL_law_344 (by decide) ?_
  refine lv_iconst (v := 1) hx hb dL_law_346 (by decide) ?_
  refine lx_section1 C0 dL_law_347 hX hS hl ⟨by omega, by omega⟩ (-900002) (pq bo) (fun st hF hV => by rw [q_section2 hF.1 (by decide)]; exact ⟨wan_2, hF⟩) (fun H locs hX hS => ?_)
  refine lv_ldc (v := (-900002)) hx hb hown (hts (.constant RL 20 (-900002)) (by decide +kernel)) dL_law_350 ?_
  refine lv_icmp_ne (tgt := 392) hx hb dL_law_352 (by decide) (fun h9 => absurd h9 (by decide)) (fun _ => ?_)
  refine lv_aload_n hx hb dL_law_355 rfl (lv_at hl 1 rfl) ?_
  refine lv_iconst (v := 0) hx hb dL_law_356 (by decide) ?_
  refine lx_widest1 C0 dL_law_357 hX hS hl ⟨by omega, by omega⟩ (wid bo 20) (pq bo) (fun st hF hV => by rw [q_widest hF]; exact ⟨wan_0, hF⟩) (fun H locs hX hS => ?_)
  refine lv_iload hx hb dL_law_360 (lv_at hl 5 rfl) ?_
  refine lv_icmp_ne (tgt := 392) hx hb dL_law_362 (by decide) (fun c1 => absurd c1 (fun q => q rfl)) (fun c1 => ?_)
  refine lv_aload_n hx hb dL_law_365 rfl (lv_at hl 1 rfl) ?_
  refine lv_iconst (v := 1) hx hb dL_law_366 (by decide) ?_
  refine lx_widest1 C0 dL_law_367 hX hS hl ⟨by omega, by omega⟩ (-900001) (pq bo) (fun st hF hV => by rw [q_widest1 hF.1]; exact ⟨wan_1, hF⟩) (fun H locs hX hS => ?_)
  refine lv_ldc (v := (-900001)) hx hb hown (hts (.constant RL 17 (-900001)) (by decide +kernel)) dL_law_370 ?_
  refine lv_icmp_ne (tgt := 392) hx hb dL_law_372 (by decide) (fun h9 => absurd h9 (by decide)) (fun _ => ?_)
  refine lv_aload_n hx hb dL_law_375 rfl (lv_at hl 1 rfl) ?_
  refine lv_iconst (v := 0) hx hb dL_law_376 (by decide) ?_
  refine lv_sipush (v := (201)) hx hb dL_law_377 (by decide) ?_
  refine lx_volume1 C0 dL_law_380 hX hS hl ⟨by omega, by omega⟩ (-900002) (pq bo) (fun st hF hV => by rw [q_volume2 hF.1]; exact ⟨wan_2, hF⟩) (fun H locs hX hS => ?_)
  refine lv_ldc (v := (-900002)) hx hb hown (hts (.constant RL 20 (-900002)) (by decide +kernel)) dL_law_383 ?_
  refine lv_icmp_ne (tgt := 392) hx hb dL_law_385 (by decide) (fun h9 => absurd h9 (by decide)) (fun _ => ?_)
  refine lv_iconst (v := 1) hx hb dL_law_388 (by decide) ?_
  refine lv_goto (tgt := 393) hx hb dL_law_389 (by decide) ?_
  refine lv_iand hx hb dL_law_393 ?_
  refine lv_topi (fun y2 ey2 => ?_)
  obtain rfl : y2 = 1 := ey2.trans (by decide)
  refine lv_istore (lv' := [(4, .int 1), (0, .ref b), (1, .ref cw), (5, .ref o1), (6, .ref o2), (7, .int (wid bo 20))]) hx hb dL_law_394 hl (by decide) rfl (fun ls hl => ?_)
  refine lv_iconst (v := 0) hx hb dL_law_396 (by decide) ?_
  refine lv_istore (lv' := [(8, .int 0), (4, .int 1), (0, .ref b), (1, .ref cw), (5, .ref o1), (6, .ref o2), (7, .int (wid bo 20))]) hx hb dL_law_397 hl (by decide) rfl (fun ls hl => ?_)
  refine W.widen (k := cells + 500) (n := slots + 5000) (by omega) (by omega) ?_
  exact kk H locs ls hX hS (lv_sub hl [2, 3, 1, 4, 5, 0] rfl)
set_option maxHeartbeats 4000000 in
set_option maxRecDepth 100000 in
theorem sg_G {p : Program} {l : Launch} {e : Env} {s : State} {m : MethodId} {below : List Frame} {meth : Method} {c : Code} {Q : State → Prop} {b : Nat} {G : mg} (C0 : TwC p l s m c b G) {H : Heap} {locs : List Loc} {ls : Array Slot} {cells slots : Nat} {cw : Nat} {o1 o2 k : Nat} {bo fb fs : Nat → Int32} (hk : k ≤ 200) (hfs : ∀ j, j ≤ 200 → fs j = msum bo j) (hcs : cells + 100 ≤ 624961 ∧ slots + 1000 ≤ 7226742) (hX : LwX G s.heap.size H cw (pq bo) (mu (mu m043 o1 (E43 G 20 fb)) o2 (E43 G 201 fs))) (hS : va_S (aH s.heap.size) s.heap H locs) (hl : lv_has ls 22 [(0, .ref b), (1, .ref cw), (4, .int 1), (5, .ref o1), (6, .ref o2), (8, .int (nI k))])
    (kk : ∀ (H1 : Heap) (locs1 : List Loc) (ls1 : Array Slot), LwX G s.heap.size H1 cw (pq bo) (mu (mu m043 o1 (E43 G 20 fb)) o2 (E43 G 201 fs)) → va_S (aH s.heap.size) s.heap H1 locs1 → lv_has ls1 22 [(0, .ref b), (1, .ref cw), (4, .int 1), (5, .ref o1), (6, .ref o2), (8, .int (nI (k + 1)))] → W p l e room_1 s m #[Value.ref b] below meth c H1 locs1 (cells + 100) (slots + 1000) Q (F0 m 399 ls1 [])) : W p l e room_1 s m #[Value.ref b] below meth c H locs cells slots Q (F0 m 399 ls []) := by
  obtain ⟨hx, hb, hml, hown, hts, hG, hb0, hl9⟩ := id C0
  refine lv_iload hx hb dL_law_399 (lv_at hl 5 rfl) ?_
  refine lv_sipush (v := (200)) hx hb dL_law_401 (by decide) ?_
  refine lv_icmp_gt (tgt := 438) hx hb dL_law_404 (by decide) (fun c1 => absurd c1 (nI_nlt (a := 200) (b := k) hk (by omega))) (fun c1 => ?_)
  refine lv_iload hx hb dL_law_407 (lv_at hl 2 rfl) ?_
  refine lv_aload_n hx hb dL_law_409 rfl (lv_at hl 1 rfl) ?_
  refine lv_iconst (v := 0) hx hb dL_law_410 (by decide) ?_
  refine lv_iload hx hb dL_law_411 (lv_at hl 5 rfl) ?_
  refine lx_volume1 C0 dL_law_413 hX hS hl ⟨by omega, by omega⟩ (msum bo k) (pq bo) (fun st hF hV => by rw [q_volume hF hk]; exact ⟨wan_0, hF⟩) (fun H locs hX hS => ?_)
  refine lv_aload hx hb dL_law_416 (lv_at hl 4 rfl) ?_
  refine lv_iload hx hb dL_law_418 (lv_at hl 5 rfl) ?_
  refine lx_iald C0 dL_law_420 hX mu_s (vp_in_nI (show k < 201 by omega) (by omega)) (v := msum bo k) (by rw [nI_clamp (by omega)]; exact hfs _ (by omega)) ?_
  refine lv_icmp_ne (tgt := 428) hx hb dL_law_421 (by decide) (fun c2 => absurd c2 (fun q => q rfl)) (fun c2 => ?_)
  refine lv_iconst (v := 1) hx hb dL_law_424 (by decide) ?_
  refine lv_goto (tgt := 429) hx hb dL_law_425 (by decide) ?_
  refine lv_iand hx hb dL_law_429 ?_
  refine lv_topi (fun y3 ey3 => ?_)
  obtain rfl : y3 = 1 := ey3.trans (by decide)
  refine lv_istore (lv' := [(4, .int 1), (0, .ref b), (1, .ref cw), (5, .ref o1), (6, .ref o2), (8, .int (nI k))]) hx hb dL_law_430 hl (by decide) rfl (fun ls hl => ?_)
  refine lv_iinc (v := (nI k) + 1) (lv' := [(8, .int ((nI k) + 1)), (4, .int 1), (0, .ref b), (1, .ref cw), (5, .ref o1), (6, .ref o2)]) hx hb dL_law_432 hl (k := 5) rfl rfl (by decide) rfl (fun ls hl => ?_)
  refine lv_goto (tgt := 399) hx hb dL_law_435 (by decide) ?_
  refine W.widen (k := cells + 100) (n := slots + 1000) (by omega) (by omega) ?_
  rw [← nI_succ] at hl
  exact kk H locs ls hX hS (lv_sub hl [2, 3, 1, 4, 5, 0] rfl)
