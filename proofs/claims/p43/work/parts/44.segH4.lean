theorem rg_d {d : Nat} (h : d < 61) : rng (nI d - 20) (-20) 40 := by
  have key : ∀ a, a < 61 → rng (nI a - 20) (-20) 40 := by decide
  exact key d h
set_option maxHeartbeats 4000000 in
set_option maxRecDepth 100000 in
theorem sg_H4p {p : Program} {l : Launch} {e : Env} {s : State} {m : MethodId} {below : List Frame} {meth : Method} {c : Code} {Q : State → Prop} {b : Nat} {G : mg} (C0 : TwC p l s m c b G) {H : Heap} {locs : List Loc} {ls : Array Slot} {cells slots : Nat} {cw : Nat} {o1 o2 k a1 t u : Nat} {bo fb fs : Nat → Int32} {x15 : Int32} (h1 : a1 < 201) (ht : t < 201) (hu : u < 90) (hta : t < a1) (hx15 : x15 = dsum bo (cts (nI (1 + u))) t (a1 - t)) (hcs : cells + 100 ≤ 624961 ∧ slots + 1000 ≤ 7226742) (hX : LwX G s.heap.size H cw (pq bo) (mu (mu m043 o1 (E43 G 20 fb)) o2 (E43 G 201 fs))) (hS : va_S (aH s.heap.size) s.heap H locs) (hl : lv_has ls 22 [(0, .ref b), (1, .ref cw), (4, .int 1), (5, .ref o1), (6, .ref o2), (8, .int (nI k)), (9, .int (nI a1)), (12, .int (nI t)), (13, .int (nI (1 + u))), (15, .int x15)])
    (kk : ∀ (H1 : Heap) (locs1 : List Loc) (ls1 : Array Slot), LwX G s.heap.size H1 cw (pq bo) (mu (mu m043 o1 (E43 G 20 fb)) o2 (E43 G 201 fs)) → va_S (aH s.heap.size) s.heap H1 locs1 → lv_has ls1 22 [(0, .ref b), (1, .ref cw), (4, .int 1), (5, .ref o1), (6, .ref o2), (8, .int (nI k))] → W p l e room_1 s m #[Value.ref b] below meth c H1 locs1 (cells + 100) (slots + 1000) Q (F0 m 703 ls1 [])) : W p l e room_1 s m #[Value.ref b] below meth c H locs cells slots Q (F0 m 665 ls []) := by
  obtain ⟨hx, hb, hml, hown, hts, hG, hb0, hl9⟩ := id C0
  refine lv_iload hx hb dL_law_665 (lv_at hl 2 rfl) ?_
  refine lv_aload_n hx hb dL_law_667 rfl (lv_at hl 1 rfl) ?_
  refine lv_iconst (v := 0) hx hb dL_law_668 (by decide) ?_
  refine lv_iload hx hb dL_law_669 (lv_at hl 6 rfl) ?_
  refine lv_iload hx hb dL_law_671 (lv_at hl 7 rfl) ?_
  refine lv_iload hx hb dL_law_673 (lv_at hl 8 rfl) ?_
  refine lx_deliver1 C0 dL_law_675 hX hS hl ⟨by omega, by omega⟩ (x15) (pq bo) (fun st hF hV => by rw [q_deliver hF hV (by omega) hta hu, ← hx15]; exact ⟨wan_0, hF⟩) (fun H locs hX hS => ?_)
  refine lv_iload hx hb dL_law_678 (lv_at hl 7 rfl) ?_
  refine lv_iload hx hb dL_law_680 (lv_at hl 6 rfl) ?_
  refine lv_icmp_lt (tgt := 690) hx hb dL_law_682 (by decide) (fun c1 => ?_) (fun c1 => absurd c1 (fun z => z (nI_lt hta (by omega))))
  refine lv_iload hx hb dL_law_690 (lv_at hl 9 rfl) ?_
  refine lv_icmp_ne (tgt := 699) hx hb dL_law_692 (by decide) (fun c2 => absurd c2 (fun q => q rfl)) (fun c2 => ?_)
  refine lv_iconst (v := 1) hx hb dL_law_695 (by decide) ?_
  refine lv_goto (tgt := 700) hx hb dL_law_696 (by decide) ?_
  refine lv_iand hx hb dL_law_700 ?_
  refine lv_topi (fun y3 ey3 => ?_)
  obtain rfl : y3 = 1 := ey3.trans (by decide)
  refine lv_istore (lv' := [(4, .int 1), (0, .ref b), (1, .ref cw), (5, .ref o1), (6, .ref o2), (8, .int (nI k)), (9, .int (nI a1)), (12, .int (nI t)), (13, .int (nI (1 + u))), (15, .int x15)]) hx hb dL_law_701 hl (by decide) rfl (fun ls hl => ?_)
  refine W.widen (k := cells + 100) (n := slots + 1000) (by omega) (by omega) ?_
  exact kk H locs ls hX hS (lv_sub hl [1, 2, 0, 3, 4, 5] rfl)
set_option maxHeartbeats 4000000 in
set_option maxRecDepth 100000 in
theorem sg_H4n {p : Program} {l : Launch} {e : Env} {s : State} {m : MethodId} {below : List Frame} {meth : Method} {c : Code} {Q : State → Prop} {b : Nat} {G : mg} (C0 : TwC p l s m c b G) {H : Heap} {locs : List Loc} {ls : Array Slot} {cells slots : Nat} {cw : Nat} {o1 o2 k a1 t u : Nat} {bo fb fs : Nat → Int32} {x15 : Int32} (h1 : a1 < 201) (ht : t < 201) (hu : u < 90) (hta : ¬ t < a1) (hcs : cells + 100 ≤ 624961 ∧ slots + 1000 ≤ 7226742) (hX : LwX G s.heap.size H cw (pq bo) (mu (mu m043 o1 (E43 G 20 fb)) o2 (E43 G 201 fs))) (hS : va_S (aH s.heap.size) s.heap H locs) (hl : lv_has ls 22 [(0, .ref b), (1, .ref cw), (4, .int 1), (5, .ref o1), (6, .ref o2), (8, .int (nI k)), (9, .int (nI a1)), (12, .int (nI t)), (13, .int (nI (1 + u))), (15, .int x15)])
    (kk : ∀ (H1 : Heap) (locs1 : List Loc) (ls1 : Array Slot), LwX G s.heap.size H1 cw (pq bo) (mu (mu m043 o1 (E43 G 20 fb)) o2 (E43 G 201 fs)) → va_S (aH s.heap.size) s.heap H1 locs1 → lv_has ls1 22 [(0, .ref b), (1, .ref cw), (4, .int 1), (5, .ref o1), (6, .ref o2), (8, .int (nI k))] → W p l e room_1 s m #[Value.ref b] below meth c H1 locs1 (cells + 100) (slots + 1000) Q (F0 m 703 ls1 [])) : W p l e room_1 s m #[Value.ref b] below meth c H locs cells slots Q (F0 m 665 ls []) := by
  obtain ⟨hx, hb, hml, hown, hts, hG, hb0, hl9⟩ := id C0
  refine lv_iload hx hb dL_law_665 (lv_at hl 2 rfl) ?_
  refine lv_aload_n hx hb dL_law_667 rfl (lv_at hl 1 rfl) ?_
  refine lv_iconst (v := 0) hx hb dL_law_668 (by decide) ?_
  refine lv_iload hx hb dL_law_669 (lv_at hl 6 rfl) ?_
  refine lv_iload hx hb dL_law_671 (lv_at hl 7 rfl) ?_
  refine lv_iload hx hb dL_law_673 (lv_at hl 8 rfl) ?_
  refine lx_deliver1 C0 dL_law_675 hX hS hl ⟨by omega, by omega⟩ (-900002) (pq bo) (fun st hF hV => by rw [q_deliver2 hF.1 (by omega) (by omega) hta hu]; exact ⟨wan_2, hF⟩) (fun H locs hX hS => ?_)
  refine lv_iload hx hb dL_law_678 (lv_at hl 7 rfl) ?_
  refine lv_iload hx hb dL_law_680 (lv_at hl 6 rfl) ?_
  refine lv_icmp_lt (tgt := 690) hx hb dL_law_682 (by decide) (fun c1 => absurd c1 (nI_nlt (Nat.le_of_not_lt hta) (by omega))) (fun c1 => ?_)
  refine lv_ldc (v := (-900002)) hx hb hown (hts (.constant RL 20 (-900002)) (by decide +kernel)) dL_law_685 ?_
  refine lv_goto (tgt := 692) hx hb dL_law_687 (by decide) ?_
  refine lv_icmp_ne (tgt := 699) hx hb dL_law_692 (by decide) (fun h9 => absurd h9 (by decide)) (fun _ => ?_)
  refine lv_iconst (v := 1) hx hb dL_law_695 (by decide) ?_
  refine lv_goto (tgt := 700) hx hb dL_law_696 (by decide) ?_
  refine lv_iand hx hb dL_law_700 ?_
  refine lv_topi (fun y2 ey2 => ?_)
  obtain rfl : y2 = 1 := ey2.trans (by decide)
  refine lv_istore (lv' := [(4, .int 1), (0, .ref b), (1, .ref cw), (5, .ref o1), (6, .ref o2), (8, .int (nI k)), (9, .int (nI a1)), (12, .int (nI t)), (13, .int (nI (1 + u))), (15, .int x15)]) hx hb dL_law_701 hl (by decide) rfl (fun ls hl => ?_)
  refine W.widen (k := cells + 100) (n := slots + 1000) (by omega) (by omega) ?_
  exact kk H locs ls hX hS (lv_sub hl [1, 2, 0, 3, 4, 5] rfl)
set_option maxHeartbeats 4000000 in
set_option maxRecDepth 100000 in
theorem sg_H5 {p : Program} {l : Launch} {e : Env} {s : State} {m : MethodId} {below : List Frame} {meth : Method} {c : Code} {Q : State → Prop} {b : Nat} {G : mg} (C0 : TwC p l s m c b G) {H : Heap} {locs : List Loc} {ls : Array Slot} {cells slots : Nat} {cw : Nat} {o1 o2 k : Nat} {bo fb fs : Nat → Int32} (hk : k < 10) (hcs : cells + 200 ≤ 624961 ∧ slots + 2000 ≤ 7226742) (hX : LwX G s.heap.size H cw (pq bo) (mu (mu m043 o1 (E43 G 20 fb)) o2 (E43 G 201 fs))) (hS : va_S (aH s.heap.size) s.heap H locs) (hl : lv_has ls 22 [(0, .ref b), (1, .ref cw), (4, .int 1), (5, .ref o1), (6, .ref o2), (8, .int (nI k))])
    (kk : ∀ (H1 : Heap) (locs1 : List Loc) (ls1 : Array Slot), LwX G s.heap.size H1 cw (pq bo) (mu (mu m043 o1 (E43 G 20 fb)) o2 (E43 G 201 fs)) → va_S (aH s.heap.size) s.heap H1 locs1 → lv_has ls1 22 [(0, .ref b), (1, .ref cw), (4, .int 1), (5, .ref o1), (6, .ref o2), (8, .int (nI (k + 1)))] → W p l e room_1 s m #[Value.ref b] below meth c H1 locs1 (cells + 200) (slots + 2000) Q (F0 m 441 ls1 [])) : W p l e room_1 s m #[Value.ref b] below meth c H locs cells slots Q (F0 m 703 ls []) := by
  obtain ⟨hx, hb, hml, hown, hts, hG, hb0, hl9⟩ := id C0
  refine lv_sipush (v := (6000)) hx hb dL_law_703 (by decide) ?_
  refine lv_aload_n hx hb dL_law_706 rfl (lv_at hl 0 rfl) ?_
  refine lv_bipush (v := (70)) hx hb dL_law_707 (by decide) ?_
  refine lv_iload hx hb dL_law_709 (lv_at hl 5 rfl) ?_
  refine lv_iadd hx hb dL_law_711 ?_
  refine lv_sipush (v := (2001)) hx hb dL_law_712 (by decide) ?_
  refine lx_in1 C0 dL_law_715 hX hS hl ⟨by omega, by omega⟩ (show ¬ nI 70 + nI k < 0 from ng_add (by omega)) 2001 rfl (by decide) (fun h6 H locs h_h6 hX hS => ?_)
  refine lv_iadd hx hb dL_law_718 ?_
  refine lv_topi (fun y1 ey1 => ?_)
  obtain rfl : y1 = nI (6000 + h6) := ey1.trans (nA 6000 h6)
  refine lv_istore (lv' := [(16, .int (nI (6000 + h6))), (0, .ref b), (1, .ref cw), (4, .int 1), (5, .ref o1), (6, .ref o2), (8, .int (nI k))]) hx hb dL_law_719 hl (by decide) rfl (fun ls hl => ?_)
  refine lv_aload_n hx hb dL_law_721 rfl (lv_at hl 1 rfl) ?_
  refine lv_bipush (v := (80)) hx hb dL_law_722 (by decide) ?_
  refine lv_iload hx hb dL_law_724 (lv_at hl 6 rfl) ?_
  refine lv_iadd hx hb dL_law_726 ?_
  refine lv_bipush (v := (61)) hx hb dL_law_727 (by decide) ?_
  refine lx_in0 C0 dL_law_729 hX hS hl ⟨by omega, by omega⟩ (show ¬ nI 80 + nI k < 0 from ng_add (by omega)) 61 rfl (by decide) (fun d6 H locs h_d6 hX hS => ?_)
  refine lv_bipush (v := (20)) hx hb dL_law_732 (by decide) ?_
  refine lv_isub hx hb dL_law_734 ?_
  refine lv_istore (lv' := [(17, .int ((nI d6) - 20)), (16, .int (nI (6000 + h6))), (0, .ref b), (1, .ref cw), (4, .int 1), (5, .ref o1), (6, .ref o2), (8, .int (nI k))]) hx hb dL_law_735 hl (by decide) rfl (fun ls hl => ?_)
  refine lv_sipush (v := (9780)) hx hb dL_law_737 (by decide) ?_
  refine lv_aload_n hx hb dL_law_740 rfl (lv_at hl 2 rfl) ?_
  refine lv_bipush (v := (90)) hx hb dL_law_741 (by decide) ?_
  refine lv_iload hx hb dL_law_743 (lv_at hl 7 rfl) ?_
  refine lv_iadd hx hb dL_law_745 ?_
  refine lv_bipush (v := (53)) hx hb dL_law_746 (by decide) ?_
  refine lx_in1 C0 dL_law_748 hX hS hl ⟨by omega, by omega⟩ (show ¬ nI 90 + nI k < 0 from ng_add (by omega)) 53 rfl (by decide) (fun g6 H locs h_g6 hX hS => ?_)
  refine lv_iadd hx hb dL_law_751 ?_
  refine lv_topi (fun y2 ey2 => ?_)
  obtain rfl : y2 = nI (9780 + g6) := ey2.trans (nA 9780 g6)
  refine lv_istore (lv' := [(18, .int (nI (9780 + g6))), (17, .int ((nI d6) - 20)), (16, .int (nI (6000 + h6))), (0, .ref b), (1, .ref cw), (4, .int 1), (5, .ref o1), (6, .ref o2), (8, .int (nI k))]) hx hb dL_law_752 hl (by decide) rfl (fun ls hl => ?_)
  refine lv_iconst (v := 1) hx hb dL_law_754 (by decide) ?_
  refine lv_aload_n hx hb dL_law_755 rfl (lv_at hl 3 rfl) ?_
  refine lv_bipush (v := (100)) hx hb dL_law_756 (by decide) ?_
  refine lv_iload hx hb dL_law_758 (lv_at hl 8 rfl) ?_
  refine lv_iadd hx hb dL_law_760 ?_
  refine lv_bipush (v := (60)) hx hb dL_law_761 (by decide) ?_
  refine lx_in1 C0 dL_law_763 hX hS hl ⟨by omega, by omega⟩ (show ¬ nI 100 + nI k < 0 from ng_add (by omega)) 60 rfl (by decide) (fun q6 H locs h_q6 hX hS => ?_)
  refine lv_iadd hx hb dL_law_766 ?_
  refine lv_topi (fun y3 ey3 => ?_)
  obtain rfl : y3 = nI (1 + q6) := ey3.trans (nA 1 q6)
  refine lv_istore (lv' := [(19, .int (nI (1 + q6))), (18, .int (nI (9780 + g6))), (17, .int ((nI d6) - 20)), (16, .int (nI (6000 + h6))), (0, .ref b), (1, .ref cw), (4, .int 1), (5, .ref o1), (6, .ref o2), (8, .int (nI k))]) hx hb dL_law_767 hl (by decide) rfl (fun ls hl => ?_)
  refine lv_iload hx hb dL_law_769 (lv_at hl 3 rfl) ?_
  refine lv_bipush (v := (18)) hx hb dL_law_771 (by decide) ?_
  refine lv_imul hx hb dL_law_773 ?_
  refine lv_iload hx hb dL_law_774 (lv_at hl 2 rfl) ?_
  refine lv_imul hx hb dL_law_776 ?_
  refine lv_ldc (v := 100000) hx hb hown (hts (.constant RL 90 (100000)) (by decide +kernel)) dL_law_777 ?_
  refine lv_idiv hx hb dL_law_779 (by decide) ?_
  refine lv_istore (lv' := [(20, .int ((((nI (6000 + h6)) * 18) * ((nI d6) - 20)) / 100000)), (19, .int (nI (1 + q6))), (18, .int (nI (9780 + g6))), (17, .int ((nI d6) - 20)), (16, .int (nI (6000 + h6))), (0, .ref b), (1, .ref cw), (4, .int 1), (5, .ref o1), (6, .ref o2), (8, .int (nI k))]) hx hb dL_law_780 hl (by decide) rfl (fun ls hl => ?_)
  refine lv_iload hx hb dL_law_782 (lv_at hl 7 rfl) ?_
  refine lv_aload_n hx hb dL_law_784 rfl (lv_at hl 6 rfl) ?_
  refine lv_iload hx hb dL_law_785 (lv_at hl 4 rfl) ?_
  refine lv_iload hx hb dL_law_787 (lv_at hl 3 rfl) ?_
  refine lv_iload hx hb dL_law_789 (lv_at hl 2 rfl) ?_
  refine lv_iload hx hb dL_law_791 (lv_at hl 1 rfl) ?_
  refine lx_barometer1 C0 dL_law_793 hX hS hl ⟨by omega, by omega⟩ (((nI (6000 + h6)) - (nI (6000 + h6)) * 18 * ((nI d6) - 20) / 100000) * (nI (9780 + g6)) / 9807 + 60 / (nI (1 + q6))) (pq bo) (fun st hF hV => by rw [q_barometer (rg_n (n := 6000 + h6) (lo := 6000) (hi := 8000) (by omega) (by omega) (by omega)) (rg_d h_d6) (rg_n (n := 9780 + g6) (lo := 9780) (hi := 9832) (by omega) (by omega) (by omega)) (rg_n (n := 1 + q6) (lo := 1) (hi := 60) (by omega) (by omega) (by omega))]; exact ⟨wan_0, hF⟩) (fun H locs hX hS => ?_)
  refine lv_iload hx hb dL_law_796 (lv_at hl 4 rfl) ?_
  refine lv_iload hx hb dL_law_798 (lv_at hl 0 rfl) ?_
  refine lv_isub hx hb dL_law_800 ?_
  refine lv_iload hx hb dL_law_801 (lv_at hl 2 rfl) ?_
  refine lv_imul hx hb dL_law_803 ?_
  refine lv_sipush (v := (9807)) hx hb dL_law_804 (by decide) ?_
  refine lv_idiv hx hb dL_law_807 (by decide) ?_
  refine lv_bipush (v := (60)) hx hb dL_law_808 (by decide) ?_
  refine lv_iload hx hb dL_law_810 (lv_at hl 1 rfl) ?_
  refine lv_idiv hx hb dL_law_812 (nI_ne0 (by omega) (by omega)) ?_
  refine lv_iadd hx hb dL_law_813 ?_
  refine lv_icmp_ne (tgt := 821) hx hb dL_law_814 (by decide) (fun c4 => absurd c4 (fun q => q rfl)) (fun c4 => ?_)
  refine lv_iconst (v := 1) hx hb dL_law_817 (by decide) ?_
  refine lv_goto (tgt := 822) hx hb dL_law_818 (by decide) ?_
  refine lv_iand hx hb dL_law_822 ?_
  refine lv_topi (fun y5 ey5 => ?_)
  obtain rfl : y5 = 1 := ey5.trans (by decide)
  refine lv_istore (lv' := [(4, .int 1), (20, .int ((((nI (6000 + h6)) * 18) * ((nI d6) - 20)) / 100000)), (19, .int (nI (1 + q6))), (18, .int (nI (9780 + g6))), (17, .int ((nI d6) - 20)), (16, .int (nI (6000 + h6))), (0, .ref b), (1, .ref cw), (5, .ref o1), (6, .ref o2), (8, .int (nI k))]) hx hb dL_law_823 hl (by decide) rfl (fun ls hl => ?_)
  refine lv_sipush (v := (700)) hx hb dL_law_825 (by decide) ?_
  refine lv_aload_n hx hb dL_law_828 rfl (lv_at hl 6 rfl) ?_
  refine lv_bipush (v := (110)) hx hb dL_law_829 (by decide) ?_
  refine lv_iload hx hb dL_law_831 (lv_at hl 10 rfl) ?_
  refine lv_iadd hx hb dL_law_833 ?_
  refine lv_bipush (v := (101)) hx hb dL_law_834 (by decide) ?_
  refine lx_in1 C0 dL_law_836 hX hS hl ⟨by omega, by omega⟩ (show ¬ nI 110 + nI k < 0 from ng_add (by omega)) 101 rfl (by decide) (fun r6 H locs h_r6 hX hS => ?_)
  refine lv_iadd hx hb dL_law_839 ?_
  refine lv_topi (fun y6 ey6 => ?_)
  obtain rfl : y6 = nI (700 + r6) := ey6.trans (nA 700 r6)
  refine lv_istore (lv' := [(21, .int (nI (700 + r6))), (4, .int 1), (20, .int ((((nI (6000 + h6)) * 18) * ((nI d6) - 20)) / 100000)), (19, .int (nI (1 + q6))), (18, .int (nI (9780 + g6))), (17, .int ((nI d6) - 20)), (16, .int (nI (6000 + h6))), (0, .ref b), (1, .ref cw), (5, .ref o1), (6, .ref o2), (8, .int (nI k))]) hx hb dL_law_840 hl (by decide) rfl (fun ls hl => ?_)
  refine lv_iload hx hb dL_law_842 (lv_at hl 1 rfl) ?_
  refine lv_aload_n hx hb dL_law_844 rfl (lv_at hl 8 rfl) ?_
  refine lv_iload hx hb dL_law_845 (lv_at hl 0 rfl) ?_
  refine lx_boiling1 C0 dL_law_847 hX hS hl ⟨by omega, by omega⟩ (1000 + 37 * (nI (700 + r6) - 760) / 100) (pq bo) (fun st hF hV => by rw [q_boiling (rg_n (n := 700 + r6) (lo := 700) (hi := 800) (by omega) (by omega) (by omega))]; exact ⟨wan_0, hF⟩) (fun H locs hX hS => ?_)
  refine lv_sipush (v := (1000)) hx hb dL_law_850 (by decide) ?_
  refine lv_bipush (v := (37)) hx hb dL_law_853 (by decide) ?_
  refine lv_iload hx hb dL_law_855 (lv_at hl 0 rfl) ?_
  refine lv_sipush (v := (760)) hx hb dL_law_857 (by decide) ?_
  refine lv_isub hx hb dL_law_860 ?_
  refine lv_imul hx hb dL_law_861 ?_
  refine lv_bipush (v := (100)) hx hb dL_law_862 (by decide) ?_
  refine lv_idiv hx hb dL_law_864 (by decide) ?_
  refine lv_iadd hx hb dL_law_865 ?_
  refine lv_icmp_ne (tgt := 873) hx hb dL_law_866 (by decide) (fun c7 => absurd c7 (fun q => q rfl)) (fun c7 => ?_)
  refine lv_iconst (v := 1) hx hb dL_law_869 (by decide) ?_
  refine lv_goto (tgt := 874) hx hb dL_law_870 (by decide) ?_
  refine lv_iand hx hb dL_law_874 ?_
  refine lv_topi (fun y8 ey8 => ?_)
  obtain rfl : y8 = 1 := ey8.trans (by decide)
  refine lv_istore (lv' := [(4, .int 1), (21, .int (nI (700 + r6))), (20, .int ((((nI (6000 + h6)) * 18) * ((nI d6) - 20)) / 100000)), (19, .int (nI (1 + q6))), (18, .int (nI (9780 + g6))), (17, .int ((nI d6) - 20)), (16, .int (nI (6000 + h6))), (0, .ref b), (1, .ref cw), (5, .ref o1), (6, .ref o2), (8, .int (nI k))]) hx hb dL_law_875 hl (by decide) rfl (fun ls hl => ?_)
  refine lv_iinc (v := (nI k) + 1) (lv' := [(8, .int ((nI k) + 1)), (4, .int 1), (21, .int (nI (700 + r6))), (20, .int ((((nI (6000 + h6)) * 18) * ((nI d6) - 20)) / 100000)), (19, .int (nI (1 + q6))), (18, .int (nI (9780 + g6))), (17, .int ((nI d6) - 20)), (16, .int (nI (6000 + h6))), (0, .ref b), (1, .ref cw), (5, .ref o1), (6, .ref o2)]) hx hb dL_law_877 hl (k := 11) rfl rfl (by decide) rfl (fun ls hl => ?_)
  refine lv_goto (tgt := 441) hx hb dL_law_880 (by decide) ?_
  refine W.widen (k := cells + 200) (n := slots + 2000) (by omega) (by omega) ?_
  rw [← nI_succ] at hl
  exact kk H locs ls hX hS (lv_sub hl [8, 9, 1, 10, 11, 0] rfl)
