abbrev m043 : mw := fun _ => none
set_option maxHeartbeats 4000000 in
set_option maxRecDepth 100000 in
theorem sg_A {p : Program} {l : Launch} {e : Env} {s : State} {m : MethodId} {below : List Frame} {meth : Method} {c : Code} {Q : State → Prop} {b : Nat} {G : mg} (C0 : TwC p l s m c b G) {H : Heap} {locs : List Loc} {ls : Array Slot} {cells slots : Nat} {cw : Nat}  (hcs : cells + 600 ≤ 624961 ∧ slots + 6000 ≤ 7226742) (hX : LwX G s.heap.size H cw (fun st => st = stZ) (m043)) (hS : va_S (aH s.heap.size) s.heap H locs) (hl : lv_has ls 22 [(1, .ref cw), (0, .ref b)])
    (kk : ∀ (x2 x3 : Int32) (o1 : Nat) (H1 : Heap) (locs1 : List Loc) (ls1 : Array Slot), LwX G s.heap.size H1 cw (pq (dboU x2 x3 20)) (mu m043 o1 (E43 G 20 (fun _ => 0))) → va_S (aH s.heap.size) s.heap H1 locs1 → lv_has ls1 22 [(0, .ref b), (1, .ref cw), (2, .int x2), (3, .int x3), (4, .int 1), (5, .ref o1), (6, .int 0)] → W p l e room_1 s m #[Value.ref b] below meth c H1 locs1 (cells + 600) (slots + 6000) Q (F0 m 98 ls1 [])) : W p l e room_1 s m #[Value.ref b] below meth c H locs cells slots Q (F0 m 8 ls []) := by
  obtain ⟨hx, hb, hml, hown, hts, hG, hb0, hl9⟩ := id C0
  refine lv_iconst (v := 1) hx hb dL_law_8 (by decide) ?_
  refine lv_aload_n hx hb dL_law_9 rfl (lv_at hl 1 rfl) ?_
  refine lv_iconst (v := 0) hx hb dL_law_10 (by decide) ?_
  refine lv_bipush (v := (40)) hx hb dL_law_11 (by decide) ?_
  refine lx_in1 C0 dL_law_13 hX hS hl ⟨by omega, by omega⟩ (by decide) 40 rfl (by decide) (fun a1 H locs h_a1 hX hS => ?_)
  refine lv_iadd hx hb dL_law_16 ?_
  refine lv_istore_n (lv' := [(2, .int (1 + (nI a1))), (1, .ref cw), (0, .ref b)]) hx hb dL_law_17 rfl hl (by decide) rfl (fun ls hl => ?_)
  refine lv_aload_n hx hb dL_law_18 rfl (lv_at hl 2 rfl) ?_
  refine lv_iconst (v := 1) hx hb dL_law_19 (by decide) ?_
  refine lv_iconst (v := 5) hx hb dL_law_20 (by decide) ?_
  refine lx_in0 C0 dL_law_21 hX hS hl ⟨by omega, by omega⟩ (by decide) 5 rfl (by decide) (fun a2 H locs h_a2 hX hS => ?_)
  refine lv_iconst (v := 2) hx hb dL_law_24 (by decide) ?_
  refine lv_isub hx hb dL_law_25 ?_
  refine lv_istore_n (lv' := [(3, .int ((nI a2) - 2)), (2, .int (1 + (nI a1))), (1, .ref cw), (0, .ref b)]) hx hb dL_law_26 rfl hl (by decide) rfl (fun ls hl => ?_)
  have hr1 : rng (1 + nI a1) 1 40 := (by have h9 := rg_n (n := 1 + a1) (lo := 1) (hi := 40) (by omega) (by omega) (by omega); rw [← nA] at h9; exact h9)
  have hr2 : rng (nI a2 - 2) (-2) 2 := by have key : ∀ a, a < 5 → rng (nI a - 2) (-2) 2 := by decide
                                          exact key a2 h_a2
  refine lv_aload_n hx hb dL_law_27 rfl (lv_at hl 2 rfl) ?_
  refine lv_bipush (v := (41)) hx hb dL_law_28 (by decide) ?_
  refine lv_iconst (v := 0) hx hb dL_law_30 (by decide) ?_
  refine lx_draw0 C0 dL_law_31 hX hS hl ⟨by omega, by omega⟩ (-900001) (fun st => st = stZ) (fun st hF hV => by rw [q_draw1 (by decide)]; exact ⟨wan_1, hF⟩) (fun H locs hX hS => ?_)
  refine lv_ldc (v := (-900001)) hx hb hown (hts (.constant RL 17 (-900001)) (by decide +kernel)) dL_law_34 ?_
  refine lv_icmp_ne (tgt := 86) hx hb dL_law_36 (by decide) (fun h9 => absurd h9 (by decide)) (fun _ => ?_)
  refine lv_aload_n hx hb dL_law_39 rfl (lv_at hl 2 rfl) ?_
  refine lv_iconst (v := 1) hx hb dL_law_40 (by decide) ?_
  refine lv_iconst (v := 3) hx hb dL_law_41 (by decide) ?_
  refine lx_draw0 C0 dL_law_42 hX hS hl ⟨by omega, by omega⟩ (-900001) (fun st => st = stZ) (fun st hF hV => by rw [q_draw2 (by decide) (by decide)]; exact ⟨wan_1, hF⟩) (fun H locs hX hS => ?_)
  refine lv_ldc (v := (-900001)) hx hb hown (hts (.constant RL 17 (-900001)) (by decide +kernel)) dL_law_45 ?_
  refine lv_icmp_ne (tgt := 86) hx hb dL_law_47 (by decide) (fun h9 => absurd h9 (by decide)) (fun _ => ?_)
  refine lv_aload_n hx hb dL_law_50 rfl (lv_at hl 2 rfl) ?_
  refine lv_iload_n hx hb dL_law_51 rfl (lv_at hl 1 rfl) ?_
  refine lv_iload_n hx hb dL_law_52 rfl (lv_at hl 0 rfl) ?_
  refine lx_draw0 C0 dL_law_53 hX hS hl ⟨by omega, by omega⟩ (0) (pq (dboU (1 + nI a1) (nI a2 - 2) 20)) (fun st hF hV => by obtain rfl : st = stZ := hF; rw [q_draw hr1 hr2]; exact ⟨wan_0, pq_draw _ _⟩) (fun H locs hX hS => ?_)
  refine lv_if_ne (tgt := 86) hx hb dL_law_56 (by decide) (fun h9 => absurd h9 (by decide)) (fun _ => ?_)
  refine lv_aload_n hx hb dL_law_59 rfl (lv_at hl 2 rfl) ?_
  refine lv_iconst (v := 1) hx hb dL_law_60 (by decide) ?_
  refine lv_iconst (v := 0) hx hb dL_law_61 (by decide) ?_
  refine lx_bore0 C0 dL_law_62 hX hS hl ⟨by omega, by omega⟩ (-900001) (pq (dboU (1 + nI a1) (nI a2 - 2) 20)) (fun st hF hV => by rw [q_bore1 hF.1]; exact ⟨wan_1, hF⟩) (fun H locs hX hS => ?_)
  refine lv_ldc (v := (-900001)) hx hb hown (hts (.constant RL 17 (-900001)) (by decide +kernel)) dL_law_65 ?_
  refine lv_icmp_ne (tgt := 86) hx hb dL_law_67 (by decide) (fun h9 => absurd h9 (by decide)) (fun _ => ?_)
  refine lv_aload_n hx hb dL_law_70 rfl (lv_at hl 2 rfl) ?_
  refine lv_iconst (v := 0) hx hb dL_law_71 (by decide) ?_
  refine lv_bipush (v := (20)) hx hb dL_law_72 (by decide) ?_
  refine lx_bore0 C0 dL_law_74 hX hS hl ⟨by omega, by omega⟩ (-900002) (pq (dboU (1 + nI a1) (nI a2 - 2) 20)) (fun st hF hV => by rw [q_bore2 hF.1]; exact ⟨wan_2, hF⟩) (fun H locs hX hS => ?_)
  refine lv_ldc (v := (-900002)) hx hb hown (hts (.constant RL 20 (-900002)) (by decide +kernel)) dL_law_77 ?_
  refine lv_icmp_ne (tgt := 86) hx hb dL_law_79 (by decide) (fun h9 => absurd h9 (by decide)) (fun _ => ?_)
  refine lv_iconst (v := 1) hx hb dL_law_82 (by decide) ?_
  refine lv_goto (tgt := 87) hx hb dL_law_83 (by decide) ?_
  refine lv_istore (lv' := [(4, .int 1), (3, .int ((nI a2) - 2)), (2, .int (1 + (nI a1))), (1, .ref cw), (0, .ref b)]) hx hb dL_law_87 hl (by decide) rfl (fun ls hl => ?_)
  refine lv_bipush (v := (20)) hx hb dL_law_89 (by decide) ?_
  refine lx_newa C0 dL_law_91 hX hS (N := 20) (by decide) (by decide) (by decide) ⟨by omega, by omega⟩ (fun o1 H hn_o1 hX hS => ?_)
  refine lv_astore (lv' := [(5, .ref o1), (4, .int 1), (3, .int ((nI a2) - 2)), (2, .int (1 + (nI a1))), (1, .ref cw), (0, .ref b)]) hx hb dL_law_93 hl (by decide) rfl (fun ls hl => ?_)
  refine lv_iconst (v := 0) hx hb dL_law_95 (by decide) ?_
  refine lv_istore (lv' := [(6, .int 0), (5, .ref o1), (4, .int 1), (3, .int ((nI a2) - 2)), (2, .int (1 + (nI a1))), (1, .ref cw), (0, .ref b)]) hx hb dL_law_96 hl (by decide) rfl (fun ls hl => ?_)
  refine W.widen (k := cells + 600) (n := slots + 6000) (by omega) (by omega) ?_
  exact kk _ _ o1 H locs ls hX hS (lv_sub hl [6, 5, 4, 3, 2, 1, 0] rfl)
