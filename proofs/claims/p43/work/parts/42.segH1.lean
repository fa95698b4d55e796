set_option maxHeartbeats 4000000 in
set_option maxRecDepth 100000 in
theorem sg_H0 {p : Program} {l : Launch} {e : Env} {s : State} {m : MethodId} {below : List Frame} {meth : Method} {c : Code} {Q : State → Prop} {b : Nat} {G : mg} (C0 : TwC p l s m c b G) {H : Heap} {locs : List Loc} {ls : Array Slot} {cells slots : Nat} {cw : Nat} {o1 o2 k : Nat} {bo fb fs : Nat → Int32} (hk : k < 10) (hcs : cells + 0 ≤ 624961 ∧ slots + 0 ≤ 7226742) (hX : LwX G s.heap.size H cw (pq bo) (mu (mu m043 o1 (E43 G 20 fb)) o2 (E43 G 201 fs))) (hS : va_S (aH s.heap.size) s.heap H locs) (hl : lv_has ls 22 [(0, .ref b), (1, .ref cw), (4, .int 1), (5, .ref o1), (6, .ref o2), (8, .int (nI k))])
    (kk : ∀ (a1 a2 : Nat) (_ : a1 < 201) (_ : a2 < 9000) (H1 : Heap) (locs1 : List Loc) (ls1 : Array Slot), LwX G s.heap.size H1 cw (pq bo) (mu (mu m043 o1 (E43 G 20 fb)) o2 (E43 G 201 fs)) → va_S (aH s.heap.size) s.heap H1 locs1 → lv_has ls1 22 [(0, .ref b), (1, .ref cw), (4, .int 1), (5, .ref o1), (6, .ref o2), (8, .int (nI k)), (9, .int (nI a1)), (10, .int (nI (1 + a2))), (11, .int (-900003)), (12, .int 200)] → W p l e room_1 s m #[Value.ref b] below meth c H1 locs1 (cells + 0) (slots + 0) Q (F0 m 500 ls1 [])) : W p l e room_1 s m #[Value.ref b] below meth c H locs cells slots Q (F0 m 441 ls []) := by
  obtain ⟨hx, hb, hml, hown, hts, hG, hb0, hl9⟩ := id C0
  refine lv_iload hx hb dL_law_441 (lv_at hl 5 rfl) ?_
  refine lv_bipush (v := (10)) hx hb dL_law_443 (by decide) ?_
  refine lv_icmp_ge (tgt := 883) hx hb dL_law_445 (by decide) (fun c1 => absurd c1 (nI_ge (a := k) (b := 10) hk (by omega))) (fun c1 => ?_)
  refine lv_aload_n hx hb dL_law_448 rfl (lv_at hl 0 rfl) ?_
  refine lv_bipush (v := (30)) hx hb dL_law_449 (by decide) ?_
  refine lv_iload hx hb dL_law_451 (lv_at hl 5 rfl) ?_
  refine lv_iadd hx hb dL_law_453 ?_
  refine lv_sipush (v := (201)) hx hb dL_law_454 (by decide) ?_
  refine lx_in0 C0 dL_law_457 hX hS hl ⟨by omega, by omega⟩ (show ¬ nI 30 + nI k < 0 from ng_add (by omega)) 201 rfl (by decide) (fun a1 H locs h_a1 hX hS => ?_)
  refine lv_istore (lv' := [(9, .int (nI a1)), (0, .ref b), (1, .ref cw), (4, .int 1), (5, .ref o1), (6, .ref o2), (8, .int (nI k))]) hx hb dL_law_460 hl (by decide) rfl (fun ls hl => ?_)
  refine lv_iconst (v := 1) hx hb dL_law_462 (by decide) ?_
  refine lv_aload_n hx hb dL_law_463 rfl (lv_at hl 1 rfl) ?_
  refine lv_bipush (v := (40)) hx hb dL_law_464 (by decide) ?_
  refine lv_iload hx hb dL_law_466 (lv_at hl 6 rfl) ?_
  refine lv_iadd hx hb dL_law_468 ?_
  refine lv_iload hx hb dL_law_469 (lv_at hl 6 rfl) ?_
  refine lv_iconst (v := 2) hx hb dL_law_471 (by decide) ?_
  refine lv_irem hx hb dL_law_472 (by decide) ?_
  refine lv_if_ne (tgt := 482) hx hb dL_law_473 (by decide) (fun c2 => ?_) (fun c2 => ?_)
  · skip
    refine lv_sipush (v := (9000)) hx hb dL_law_482 (by decide) ?_
    refine lx_in1 C0 dL_law_485 hX hS hl ⟨by omega, by omega⟩ (show ¬ nI 40 + nI k < 0 from ng_add (by omega)) 9000 rfl (by decide) (fun a2 H locs h_a2 hX hS => ?_)
    refine lv_iadd hx hb dL_law_488 ?_
    refine lv_topi (fun y3 ey3 => ?_)
    obtain rfl : y3 = nI (1 + a2) := ey3.trans (nA 1 a2)
    refine lv_istore (lv' := [(10, .int (nI (1 + a2))), (9, .int (nI a1)), (0, .ref b), (1, .ref cw), (4, .int 1), (5, .ref o1), (6, .ref o2), (8, .int (nI k))]) hx hb dL_law_489 hl (by decide) rfl (fun ls hl => ?_)
    refine lv_ldc (v := (-900003)) hx hb hown (hts (.constant RL 29 (-900003)) (by decide +kernel)) dL_law_491 ?_
    refine lv_istore (lv' := [(11, .int ((-900003))), (10, .int (nI (1 + a2))), (9, .int (nI a1)), (0, .ref b), (1, .ref cw), (4, .int 1), (5, .ref o1), (6, .ref o2), (8, .int (nI k))]) hx hb dL_law_493 hl (by decide) rfl (fun ls hl => ?_)
    refine lv_sipush (v := (200)) hx hb dL_law_495 (by decide) ?_
    refine lv_istore (lv' := [(12, .int 200), (11, .int ((-900003))), (10, .int (nI (1 + a2))), (9, .int (nI a1)), (0, .ref b), (1, .ref cw), (4, .int 1), (5, .ref o1), (6, .ref o2), (8, .int (nI k))]) hx hb dL_law_498 hl (by decide) rfl (fun ls hl => ?_)
    exact kk a1 a2 (by omega) (by omega) H locs ls hX hS (lv_sub hl [4, 5, 6, 7, 8, 9, 3, 2, 1, 0] rfl)
  · skip
    refine lv_sipush (v := (500)) hx hb dL_law_476 (by decide) ?_
    refine lv_goto (tgt := 485) hx hb dL_law_479 (by decide) ?_
    refine lx_in1 C0 dL_law_485 hX hS hl ⟨by omega, by omega⟩ (show ¬ nI 40 + nI k < 0 from ng_add (by omega)) 500 rfl (by decide) (fun a2 H locs h_a2 hX hS => ?_)
    refine lv_iadd hx hb dL_law_488 ?_
    refine lv_topi (fun y4 ey4 => ?_)
    obtain rfl : y4 = nI (1 + a2) := ey4.trans (nA 1 a2)
    refine lv_istore (lv' := [(10, .int (nI (1 + a2))), (9, .int (nI a1)), (0, .ref b), (1, .ref cw), (4, .int 1), (5, .ref o1), (6, .ref o2), (8, .int (nI k))]) hx hb dL_law_489 hl (by decide) rfl (fun ls hl => ?_)
    refine lv_ldc (v := (-900003)) hx hb hown (hts (.constant RL 29 (-900003)) (by decide +kernel)) dL_law_491 ?_
    refine lv_istore (lv' := [(11, .int ((-900003))), (10, .int (nI (1 + a2))), (9, .int (nI a1)), (0, .ref b), (1, .ref cw), (4, .int 1), (5, .ref o1), (6, .ref o2), (8, .int (nI k))]) hx hb dL_law_493 hl (by decide) rfl (fun ls hl => ?_)
    refine lv_sipush (v := (200)) hx hb dL_law_495 (by decide) ?_
    refine lv_istore (lv' := [(12, .int 200), (11, .int ((-900003))), (10, .int (nI (1 + a2))), (9, .int (nI a1)), (0, .ref b), (1, .ref cw), (4, .int 1), (5, .ref o1), (6, .ref o2), (8, .int (nI k))]) hx hb dL_law_498 hl (by decide) rfl (fun ls hl => ?_)
    exact kk a1 a2 (by omega) (by omega) H locs ls hX hS (lv_sub hl [4, 5, 6, 7, 8, 9, 3, 2, 1, 0] rfl)
set_option maxHeartbeats 4000000 in
set_option maxRecDepth 100000 in
theorem sg_H1 {p : Program} {l : Launch} {e : Env} {s : State} {m : MethodId} {below : List Frame} {meth : Method} {c : Code} {Q : State → Prop} {b : Nat} {G : mg} (C0 : TwC p l s m c b G) {H : Heap} {locs : List Loc} {ls : Array Slot} {cells slots : Nat} {cw : Nat} {o1 o2 k a1 a2 j : Nat} {bo fb fs : Nat → Int32} {z : Int32} (hj : a1 ≤ j) (hj2 : j ≤ 200) (hfs : ∀ j, j ≤ 200 → fs j = msum bo j) (hz : TE bo (msum bo a1 + nI (1 + a2)) (j + 1) z) (hcs : cells + 0 ≤ 624961 ∧ slots + 0 ≤ 7226742) (hX : LwX G s.heap.size H cw (pq bo) (mu (mu m043 o1 (E43 G 20 fb)) o2 (E43 G 201 fs))) (hS : va_S (aH s.heap.size) s.heap H locs) (hl : lv_has ls 22 [(0, .ref b), (1, .ref cw), (4, .int 1), (5, .ref o1), (6, .ref o2), (8, .int (nI k)), (9, .int (nI a1)), (10, .int (nI (1 + a2))), (11, .int z), (12, .int (nI j))])
    (kk : ∀ (z1 : Int32) (_ : TE bo (msum bo a1 + nI (1 + a2)) j z1) (H1 : Heap) (locs1 : List Loc) (ls1 : Array Slot), LwX G s.heap.size H1 cw (pq bo) (mu (mu m043 o1 (E43 G 20 fb)) o2 (E43 G 201 fs)) → va_S (aH s.heap.size) s.heap H1 locs1 → lv_has ls1 22 [(0, .ref b), (1, .ref cw), (4, .int 1), (5, .ref o1), (6, .ref o2), (8, .int (nI k)), (9, .int (nI a1)), (10, .int (nI (1 + a2))), (11, .int z1), (12, .int (nI j + (-1)))] → W p l e room_1 s m #[Value.ref b] below meth c H1 locs1 (cells + 0) (slots + 0) Q (F0 m 500 ls1 [])) : W p l e room_1 s m #[Value.ref b] below meth c H locs cells slots Q (F0 m 500 ls []) := by
  obtain ⟨hx, hb, hml, hown, hts, hG, hb0, hl9⟩ := id C0
  refine lv_iload hx hb dL_law_500 (lv_at hl 9 rfl) ?_
  refine lv_iload hx hb dL_law_502 (lv_at hl 6 rfl) ?_
  refine lv_icmp_lt (tgt := 538) hx hb dL_law_504 (by decide) (fun c1 => absurd c1 (nI_nlt (show a1 ≤ j from hj) (by omega))) (fun c1 => ?_)
  refine lv_aload hx hb dL_law_507 (lv_at hl 4 rfl) ?_
  refine lv_iload hx hb dL_law_509 (lv_at hl 9 rfl) ?_
  refine lx_iald C0 dL_law_511 hX mu_s (vp_in_nI (show j < 201 by omega) (by omega)) (v := msum bo j) (by rw [nI_clamp (by omega)]; exact hfs _ (by omega)) ?_
  refine lv_aload hx hb dL_law_512 (lv_at hl 4 rfl) ?_
  refine lv_iload hx hb dL_law_514 (lv_at hl 6 rfl) ?_
  refine lx_iald C0 dL_law_516 hX mu_s (vp_in_nI (show a1 < 201 by omega) (by omega)) (v := msum bo a1) (by rw [nI_clamp (by omega)]; exact hfs _ (by omega)) ?_
  refine lv_iload hx hb dL_law_517 (lv_at hl 7 rfl) ?_
  refine lv_iadd hx hb dL_law_519 ?_
  refine lv_icmp_lt (tgt := 528) hx hb dL_law_520 (by decide) (fun c2 => ?_) (fun c2 => ?_)
  · skip
    refine lv_iload hx hb dL_law_528 (lv_at hl 8 rfl) ?_
    refine lv_istore (lv' := [(11, .int z), (0, .ref b), (1, .ref cw), (4, .int 1), (5, .ref o1), (6, .ref o2), (8, .int (nI k)), (9, .int (nI a1)), (10, .int (nI (1 + a2))), (12, .int (nI j))]) hx hb dL_law_530 hl (by decide) rfl (fun ls hl => ?_)
    refine lv_iinc (v := (nI j) + (-1)) (lv' := [(12, .int ((nI j) + (-1))), (11, .int z), (0, .ref b), (1, .ref cw), (4, .int 1), (5, .ref o1), (6, .ref o2), (8, .int (nI k)), (9, .int (nI a1)), (10, .int (nI (1 + a2)))]) hx hb dL_law_532 hl (k := 9) rfl rfl (by decide) rfl (fun ls hl => ?_)
    refine lv_goto (tgt := 500) hx hb dL_law_535 (by decide) ?_
    exact kk _ (TE_n hz c2) H locs ls hX hS (lv_sub hl [2, 3, 4, 5, 6, 7, 8, 9, 1, 0] rfl)
  · skip
    refine lv_iload hx hb dL_law_523 (lv_at hl 9 rfl) ?_
    refine lv_goto (tgt := 530) hx hb dL_law_525 (by decide) ?_
    refine lv_istore (lv' := [(11, .int (nI j)), (0, .ref b), (1, .ref cw), (4, .int 1), (5, .ref o1), (6, .ref o2), (8, .int (nI k)), (9, .int (nI a1)), (10, .int (nI (1 + a2))), (12, .int (nI j))]) hx hb dL_law_530 hl (by decide) rfl (fun ls hl => ?_)
    refine lv_iinc (v := (nI j) + (-1)) (lv' := [(12, .int ((nI j) + (-1))), (11, .int (nI j)), (0, .ref b), (1, .ref cw), (4, .int 1), (5, .ref o1), (6, .ref o2), (8, .int (nI k)), (9, .int (nI a1)), (10, .int (nI (1 + a2)))]) hx hb dL_law_532 hl (k := 9) rfl rfl (by decide) rfl (fun ls hl => ?_)
    refine lv_goto (tgt := 500) hx hb dL_law_535 (by decide) ?_
    exact kk _ (TE_p hz (by omega) c2) H locs ls hX hS (lv_sub hl [2, 3, 4, 5, 6, 7, 8, 9, 1, 0] rfl)
