theorem ds_st {bf : Nat → Int32} {c : Int32} {t q : Nat} (h : t ≤ q) : dsum bf c t (q - t) + m_max 0 (bf (q / 10) - c) = dsum bf c t (q + 1 - t) := by
  rw [show q + 1 - t = q - t + 1 by omega]
  show _ = dsum bf c t (q - t) + m_max 0 (bf ((t + (q - t)) / 10) - c)
  rw [show t + (q - t) = q by omega]
set_option maxHeartbeats 4000000 in
set_option maxRecDepth 100000 in
theorem sg_H2 {p : Program} {l : Launch} {e : Env} {s : State} {m : MethodId} {below : List Frame} {meth : Method} {c : Code} {Q : State → Prop} {b : Nat} {G : mg} (C0 : TwC p l s m c b G) {H : Heap} {locs : List Loc} {ls : Array Slot} {cells slots : Nat} {cw : Nat} {o1 o2 k a1 a2 : Nat} {bo fb fs : Nat → Int32} {z : Int32} (hk : k < 10) (h1 : a1 < 201) (h2 : a2 < 9000) (hz : TE bo (msum bo a1 + nI (1 + a2)) a1 z) (hcs : cells + 100 ≤ 624961 ∧ slots + 1000 ≤ 7226742) (hX : LwX G s.heap.size H cw (pq bo) (mu (mu m043 o1 (E43 G 20 fb)) o2 (E43 G 201 fs))) (hS : va_S (aH s.heap.size) s.heap H locs) (hl : lv_has ls 22 [(0, .ref b), (1, .ref cw), (4, .int 1), (5, .ref o1), (6, .ref o2), (8, .int (nI k)), (9, .int (nI a1)), (10, .int (nI (1 + a2))), (11, .int z)])
    (kk : ∀ (t u : Nat) (_ : t < 201) (_ : u < 90) (H1 : Heap) (locs1 : List Loc) (ls1 : Array Slot), LwX G s.heap.size H1 cw (pq bo) (mu (mu m043 o1 (E43 G 20 fb)) o2 (E43 G 201 fs)) → va_S (aH s.heap.size) s.heap H1 locs1 → lv_has ls1 22 [(0, .ref b), (1, .ref cw), (4, .int 1), (5, .ref o1), (6, .ref o2), (8, .int (nI k)), (9, .int (nI a1)), (12, .int (nI t)), (13, .int (nI (1 + u))), (14, .int (cts (nI (1 + u)))), (15, .int 0), (16, .int (nI t))] → W p l e room_1 s m #[Value.ref b] below meth c H1 locs1 (cells + 100) (slots + 1000) Q (F0 m 619 ls1 [])) : W p l e room_1 s m #[Value.ref b] below meth c H locs cells slots Q (F0 m 538 ls []) := by
  obtain ⟨hx, hb, hml, hown, hts, hG, hb0, hl9⟩ := id C0
  refine lv_iload hx hb dL_law_538 (lv_at hl 2 rfl) ?_
  refine lv_aload_n hx hb dL_law_540 rfl (lv_at hl 1 rfl) ?_
  refine lv_iconst (v := 0) hx hb dL_law_541 (by decide) ?_
  refine lv_iload hx hb dL_law_542 (lv_at hl 6 rfl) ?_
  refine lv_iload hx hb dL_law_544 (lv_at hl 7 rfl) ?_
  refine lx_thread1 C0 dL_law_546 hX hS hl ⟨by omega, by omega⟩ (z) (pq bo) (fun st hF hV => q_thread hF hV (by omega) (by omega) (by omega) hz) (fun H locs hX hS => ?_)
  refine lv_iload hx hb dL_law_549 (lv_at hl 8 rfl) ?_
  refine lv_icmp_ne (tgt := 558) hx hb dL_law_551 (by decide) (fun c1 => absurd c1 (fun q => q rfl)) (fun c1 => ?_)
  refine lv_iconst (v := 1) hx hb dL_law_554 (by decide) ?_
  refine lv_goto (tgt := 559) hx hb dL_law_555 (by decide) ?_
  refine lv_iand hx hb dL_law_559 ?_
  refine lv_topi (fun y2 ey2 => ?_)
  obtain rfl : y2 = 1 := ey2.trans (by decide)
  refine lv_istore (lv' := [(4, .int 1), (0, .ref b), (1, .ref cw), (5, .ref o1), (6, .ref o2), (8, .int (nI k)), (9, .int (nI a1)), (10, .int (nI (1 + a2))), (11, .int z)]) hx hb dL_law_560 hl (by decide) rfl (fun ls hl => ?_)
  refine lv_aload_n hx hb dL_law_562 rfl (lv_at hl 1 rfl) ?_
  refine lv_bipush (v := (50)) hx hb dL_law_563 (by decide) ?_
  refine lv_iload hx hb dL_law_565 (lv_at hl 5 rfl) ?_
  refine lv_iadd hx hb dL_law_567 ?_
  refine lv_sipush (v := (201)) hx hb dL_law_568 (by decide) ?_
  refine lx_in0 C0 dL_law_571 hX hS hl ⟨by omega, by omega⟩ (show ¬ nI 50 + nI k < 0 from ng_add (by omega)) 201 rfl (by decide) (fun t H locs h_t hX hS => ?_)
  refine lv_istore (lv' := [(12, .int (nI t)), (4, .int 1), (0, .ref b), (1, .ref cw), (5, .ref o1), (6, .ref o2), (8, .int (nI k)), (9, .int (nI a1)), (10, .int (nI (1 + a2))), (11, .int z)]) hx hb dL_law_574 hl (by decide) rfl (fun ls hl => ?_)
  refine lv_iconst (v := 1) hx hb dL_law_576 (by decide) ?_
  refine lv_aload_n hx hb dL_law_577 rfl (lv_at hl 2 rfl) ?_
  refine lv_bipush (v := (60)) hx hb dL_law_578 (by decide) ?_
  refine lv_iload hx hb dL_law_580 (lv_at hl 6 rfl) ?_
  refine lv_iadd hx hb dL_law_582 ?_
  refine lv_bipush (v := (90)) hx hb dL_law_583 (by decide) ?_
  refine lx_in1 C0 dL_law_585 hX hS hl ⟨by omega, by omega⟩ (show ¬ nI 60 + nI k < 0 from ng_add (by omega)) 90 rfl (by decide) (fun u H locs h_u hX hS => ?_)
  refine lv_iadd hx hb dL_law_588 ?_
  refine lv_topi (fun y3 ey3 => ?_)
  obtain rfl : y3 = nI (1 + u) := ey3.trans (nA 1 u)
  refine lv_istore (lv' := [(13, .int (nI (1 + u))), (12, .int (nI t)), (4, .int 1), (0, .ref b), (1, .ref cw), (5, .ref o1), (6, .ref o2), (8, .int (nI k)), (9, .int (nI a1)), (10, .int (nI (1 + a2))), (11, .int z)]) hx hb dL_law_589 hl (by decide) rfl (fun ls hl => ?_)
  refine lv_iload hx hb dL_law_591 (lv_at hl 0 rfl) ?_
  refine lv_bipush (v := (60)) hx hb dL_law_593 (by decide) ?_
  refine lv_icmp_lt (tgt := 602) hx hb dL_law_595 (by decide) (fun c4 => ?_) (fun c4 => ?_)
  · skip
    refine lv_bipush (v := (69)) hx hb dL_law_602 (by decide) ?_
    refine lv_iload hx hb dL_law_604 (lv_at hl 0 rfl) ?_
    refine lv_isub hx hb dL_law_606 ?_
    refine lv_bipush (v := (10)) hx hb dL_law_607 (by decide) ?_
    refine lv_idiv hx hb dL_law_609 (by decide) ?_
    refine lv_topi (fun y5 ey5 => ?_)
    obtain rfl : y5 = cts (nI (1 + u)) := ey5.trans (cts_2 (i_nle c4))
    refine lv_istore (lv' := [(14, .int (cts (nI (1 + u)))), (13, .int (nI (1 + u))), (12, .int (nI t)), (4, .int 1), (0, .ref b), (1, .ref cw), (5, .ref o1), (6, .ref o2), (8, .int (nI k)), (9, .int (nI a1)), (10, .int (nI (1 + a2))), (11, .int z)]) hx hb dL_law_610 hl (by decide) rfl (fun ls hl => ?_)
    refine lv_iconst (v := 0) hx hb dL_law_612 (by decide) ?_
    refine lv_istore (lv' := [(15, .int 0), (14, .int (cts (nI (1 + u)))), (13, .int (nI (1 + u))), (12, .int (nI t)), (4, .int 1), (0, .ref b), (1, .ref cw), (5, .ref o1), (6, .ref o2), (8, .int (nI k)), (9, .int (nI a1)), (10, .int (nI (1 + a2))), (11, .int z)]) hx hb dL_law_613 hl (by decide) rfl (fun ls hl => ?_)
    refine lv_iload hx hb dL_law_615 (lv_at hl 3 rfl) ?_
    refine lv_istore (lv' := [(16, .int (nI t)), (15, .int 0), (14, .int (cts (nI (1 + u)))), (13, .int (nI (1 + u))), (12, .int (nI t)), (4, .int 1), (0, .ref b), (1, .ref cw), (5, .ref o1), (6, .ref o2), (8, .int (nI k)), (9, .int (nI a1)), (10, .int (nI (1 + a2))), (11, .int z)]) hx hb dL_law_617 hl (by decide) rfl (fun ls hl => ?_)
    refine W.widen (k := cells + 100) (n := slots + 1000) (by omega) (by omega) ?_
    exact kk t u h_t h_u H locs ls hX hS (lv_sub hl [6, 7, 5, 8, 9, 10, 11, 4, 3, 2, 1, 0] rfl)
  · skip
    refine lv_iconst (v := 0) hx hb dL_law_598 (by decide) ?_
    refine lv_goto (tgt := 610) hx hb dL_law_599 (by decide) ?_
    refine lv_topi (fun y6 ey6 => ?_)
    obtain rfl : y6 = cts (nI (1 + u)) := ey6.trans (cts_1 (i_le c4))
    refine lv_istore (lv' := [(14, .int (cts (nI (1 + u)))), (13, .int (nI (1 + u))), (12, .int (nI t)), (4, .int 1), (0, .ref b), (1, .ref cw), (5, .ref o1), (6, .ref o2), (8, .int (nI k)), (9, .int (nI a1)), (10, .int (nI (1 + a2))), (11, .int z)]) hx hb dL_law_610 hl (by decide) rfl (fun ls hl => ?_)
    refine lv_iconst (v := 0) hx hb dL_law_612 (by decide) ?_
    refine lv_istore (lv' := [(15, .int 0), (14, .int (cts (nI (1 + u)))), (13, .int (nI (1 + u))), (12, .int (nI t)), (4, .int 1), (0, .ref b), (1, .ref cw), (5, .ref o1), (6, .ref o2), (8, .int (nI k)), (9, .int (nI a1)), (10, .int (nI (1 + a2))), (11, .int z)]) hx hb dL_law_613 hl (by decide) rfl (fun ls hl => ?_)
    refine lv_iload hx hb dL_law_615 (lv_at hl 3 rfl) ?_
    refine lv_istore (lv' := [(16, .int (nI t)), (15, .int 0), (14, .int (cts (nI (1 + u)))), (13, .int (nI (1 + u))), (12, .int (nI t)), (4, .int 1), (0, .ref b), (1, .ref cw), (5, .ref o1), (6, .ref o2), (8, .int (nI k)), (9, .int (nI a1)), (10, .int (nI (1 + a2))), (11, .int z)]) hx hb dL_law_617 hl (by decide) rfl (fun ls hl => ?_)
    refine W.widen (k := cells + 100) (n := slots + 1000) (by omega) (by omega) ?_
    exact kk t u h_t h_u H locs ls hX hS (lv_sub hl [6, 7, 5, 8, 9, 10, 11, 4, 3, 2, 1, 0] rfl)
set_option maxHeartbeats 4000000 in
set_option maxRecDepth 100000 in
theorem sg_H3 {p : Program} {l : Launch} {e : Env} {s : State} {m : MethodId} {below : List Frame} {meth : Method} {c : Code} {Q : State → Prop} {b : Nat} {G : mg} (C0 : TwC p l s m c b G) {H : Heap} {locs : List Loc} {ls : Array Slot} {cells slots : Nat} {cw : Nat} {o1 o2 k a1 t u q : Nat} {bo fb fs : Nat → Int32} (hne : o1 ≠ o2) (ht : t ≤ q) (hq : q < a1) (h1 : a1 < 201) (hu : u < 90) (hfb : ∀ j, j < 20 → fb j = bo j) (hcs : cells + 0 ≤ 624961 ∧ slots + 0 ≤ 7226742) (hX : LwX G s.heap.size H cw (pq bo) (mu (mu m043 o1 (E43 G 20 fb)) o2 (E43 G 201 fs))) (hS : va_S (aH s.heap.size) s.heap H locs) (hl : lv_has ls 22 [(0, .ref b), (1, .ref cw), (4, .int 1), (5, .ref o1), (6, .ref o2), (8, .int (nI k)), (9, .int (nI a1)), (12, .int (nI t)), (13, .int (nI (1 + u))), (14, .int (cts (nI (1 + u)))), (15, .int (dsum bo (cts (nI (1 + u))) t (q - t))), (16, .int (nI q))])
    (kk : ∀ (H1 : Heap) (locs1 : List Loc) (ls1 : Array Slot), LwX G s.heap.size H1 cw (pq bo) (mu (mu m043 o1 (E43 G 20 fb)) o2 (E43 G 201 fs)) → va_S (aH s.heap.size) s.heap H1 locs1 → lv_has ls1 22 [(0, .ref b), (1, .ref cw), (4, .int 1), (5, .ref o1), (6, .ref o2), (8, .int (nI k)), (9, .int (nI a1)), (12, .int (nI t)), (13, .int (nI (1 + u))), (14, .int (cts (nI (1 + u)))), (15, .int (dsum bo (cts (nI (1 + u))) t (q + 1 - t))), (16, .int (nI (q + 1)))] → W p l e room_1 s m #[Value.ref b] below meth c H1 locs1 (cells + 0) (slots + 0) Q (F0 m 619 ls1 [])) : W p l e room_1 s m #[Value.ref b] below meth c H locs cells slots Q (F0 m 619 ls []) := by
  obtain ⟨hx, hb, hml, hown, hts, hG, hb0, hl9⟩ := id C0
  have hbb : bnd bo := by
    obtain ⟨st9, hF9, hV9⟩ := hX.st
    exact pq_b hF9 hV9
  refine lv_iload hx hb dL_law_619 (lv_at hl 11 rfl) ?_
  refine lv_iload hx hb dL_law_621 (lv_at hl 6 rfl) ?_
  refine lv_icmp_ge (tgt := 665) hx hb dL_law_623 (by decide) (fun c1 => absurd c1 (nI_ge hq (by omega))) (fun c1 => ?_)
  refine lv_iload hx hb dL_law_626 (lv_at hl 10 rfl) ?_
  refine lv_aload hx hb dL_law_628 (lv_at hl 3 rfl) ?_
  refine lv_iload hx hb dL_law_630 (lv_at hl 11 rfl) ?_
  refine lv_bipush (v := (10)) hx hb dL_law_632 (by decide) ?_
  refine lv_idiv hx hb dL_law_634 (by decide) ?_
  refine lv_topi (fun y2 ey2 => ?_)
  obtain rfl : y2 = nI (q / 10) := ey2.trans (nI_d10 (by omega))
  refine lx_iald C0 dL_law_635 hX (mu_k hne mu_s) (vp_in_nI (show q / 10 < 20 by omega) (by omega)) (v := bo (q / 10)) (by rw [nI_clamp (by omega)]; exact hfb _ (by omega)) ?_
  refine lv_iload hx hb dL_law_636 (lv_at hl 9 rfl) ?_
  refine lv_icmp_le (tgt := 655) hx hb dL_law_638 (by decide) (fun c3 => ?_) (fun c3 => ?_)
  · skip
    refine lv_iconst (v := 0) hx hb dL_law_655 (by decide) ?_
    refine lv_topi (fun y4 ey4 => ?_)
    obtain rfl : y4 = m_max 0 (bo (q / 10) - cts (nI (1 + u))) := ey4.trans (dm_le c3 (hbb _ (show q / 10 < 20 by omega)).1 (hbb _ (show q / 10 < 20 by omega)).2 (cts_b hu).1 (cts_b hu).2)
    refine lv_iadd hx hb dL_law_656 ?_
    refine lv_istore (lv' := [(15, .int ((dsum bo (cts (nI (1 + u))) t (q - t)) + (m_max 0 (bo (q / 10) - cts (nI (1 + u)))))), (0, .ref b), (1, .ref cw), (4, .int 1), (5, .ref o1), (6, .ref o2), (8, .int (nI k)), (9, .int (nI a1)), (12, .int (nI t)), (13, .int (nI (1 + u))), (14, .int (cts (nI (1 + u)))), (16, .int (nI q))]) hx hb dL_law_657 hl (by decide) rfl (fun ls hl => ?_)
    refine lv_iinc (v := (nI q) + 1) (lv' := [(16, .int ((nI q) + 1)), (15, .int ((dsum bo (cts (nI (1 + u))) t (q - t)) + (m_max 0 (bo (q / 10) - cts (nI (1 + u)))))), (0, .ref b), (1, .ref cw), (4, .int 1), (5, .ref o1), (6, .ref o2), (8, .int (nI k)), (9, .int (nI a1)), (12, .int (nI t)), (13, .int (nI (1 + u))), (14, .int (cts (nI (1 + u))))]) hx hb dL_law_659 hl (k := 11) rfl rfl (by decide) rfl (fun ls hl => ?_)
    refine lv_goto (tgt := 619) hx hb dL_law_662 (by decide) ?_
    rw [← nI_succ, ds_st ht] at hl
    exact kk H locs ls hX hS (lv_sub hl [2, 3, 4, 5, 6, 7, 8, 9, 10, 11, 1, 0] rfl)
  · skip
    refine lv_aload hx hb dL_law_641 (lv_at hl 3 rfl) ?_
    refine lv_iload hx hb dL_law_643 (lv_at hl 11 rfl) ?_
    refine lv_bipush (v := (10)) hx hb dL_law_645 (by decide) ?_
    refine lv_idiv hx hb dL_law_647 (by decide) ?_
    refine lv_topi (fun y5 ey5 => ?_)
    obtain rfl : y5 = nI (q / 10) := ey5.trans (nI_d10 (by omega))
    refine lx_iald C0 dL_law_648 hX (mu_k hne mu_s) (vp_in_nI (show q / 10 < 20 by omega) (by omega)) (v := bo (q / 10)) (by rw [nI_clamp (by omega)]; exact hfb _ (by omega)) ?_
    refine lv_iload hx hb dL_law_649 (lv_at hl 9 rfl) ?_
    refine lv_isub hx hb dL_law_651 ?_
    refine lv_goto (tgt := 656) hx hb dL_law_652 (by decide) ?_
    refine lv_topi (fun y6 ey6 => ?_)
    obtain rfl : y6 = m_max 0 (bo (q / 10) - cts (nI (1 + u))) := ey6.trans (dm_gt c3 (hbb _ (show q / 10 < 20 by omega)).1 (hbb _ (show q / 10 < 20 by omega)).2 (cts_b hu).1 (cts_b hu).2)
    refine lv_iadd hx hb dL_law_656 ?_
    refine lv_istore (lv' := [(15, .int ((dsum bo (cts (nI (1 + u))) t (q - t)) + (m_max 0 (bo (q / 10) - cts (nI (1 + u)))))), (0, .ref b), (1, .ref cw), (4, .int 1), (5, .ref o1), (6, .ref o2), (8, .int (nI k)), (9, .int (nI a1)), (12, .int (nI t)), (13, .int (nI (1 + u))), (14, .int (cts (nI (1 + u)))), (16, .int (nI q))]) hx hb dL_law_657 hl (by decide) rfl (fun ls hl => ?_)
    refine lv_iinc (v := (nI q) + 1) (lv' := [(16, .int ((nI q) + 1)), (15, .int ((dsum bo (cts (nI (1 + u))) t (q - t)) + (m_max 0 (bo (q / 10) - cts (nI (1 + u)))))), (0, .ref b), (1, .ref cw), (4, .int 1), (5, .ref o1), (6, .ref o2), (8, .int (nI k)), (9, .int (nI a1)), (12, .int (nI t)), (13, .int (nI (1 + u))), (14, .int (cts (nI (1 + u))))]) hx hb dL_law_659 hl (k := 11) rfl rfl (by decide) rfl (fun ls hl => ?_)
    refine lv_goto (tgt := 619) hx hb dL_law_662 (by decide) ?_
    rw [← nI_succ, ds_st ht] at hl
    exact kk H locs ls hX hS (lv_sub hl [2, 3, 4, 5, 6, 7, 8, 9, 10, 11, 1, 0] rfl)
