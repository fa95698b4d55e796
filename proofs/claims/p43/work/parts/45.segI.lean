theorem TE_200 {bf : Nat → Int32} (hb : bnd bf) : TE bf (msum bf 200 + nI 1) 200 (-900003) := by
  refine Or.inl ⟨rfl, fun j h1 h2 => ?_⟩
  have hj : j = 200 := by omega
  subst hj
  have h := ms_b hb 200 (by omega)
  have e1 : (nI 1).toInt = 1 := rfl
  rw [Int32.lt_iff_toInt_lt, t_add (by omega) (by omega)]
  omega
set_option maxHeartbeats 4000000 in
set_option maxRecDepth 100000 in
theorem sg_I {p : Program} {l : Launch} {e : Env} {s : State} {m : MethodId} {below : List Frame} {meth : Method} {c : Code} {Q : State → Prop} {b : Nat} {G : mg} (C0 : TwC p l s m c b G) {H : Heap} {locs : List Loc} {ls : Array Slot} {cells slots : Nat} {cw : Nat} {o1 o2 : Nat} {bo fb fs : Nat → Int32} (hcs : cells + 1000 ≤ 624961 ∧ slots + 10000 ≤ 7226742) (hX : LwX G s.heap.size H cw (pq bo) (mu (mu m043 o1 (E43 G 20 fb)) o2 (E43 G 201 fs))) (hS : va_S (aH s.heap.size) s.heap H locs) (hl : lv_has ls 22 [(0, .ref b), (1, .ref cw), (4, .int 1)])
    (kk : ∀ (H1 : Heap) (locs1 : List Loc) (ls1 : Array Slot), va_S (aH s.heap.size) s.heap H1 locs1 → W p l e room_1 s m #[Value.ref b] below meth c H1 locs1 (cells + 1000) (slots + 10000) Q (F0 m 1048 ls1 [.int 1])) : W p l e room_1 s m #[Value.ref b] below meth c H locs cells slots Q (F0 m 883 ls []) := by
  obtain ⟨hx, hb, hml, hown, hts, hG, hb0, hl9⟩ := id C0
  refine lv_iload hx hb dL_law_883 (lv_at hl 2 rfl) ?_
  refine lv_aload_n hx hb dL_law_885 rfl (lv_at hl 1 rfl) ?_
  refine lv_iconst (v := 0) hx hb dL_law_886 (by decide) ?_
  refine lv_iconst (v := 0) hx hb dL_law_887 (by decide) ?_
  refine lv_iconst (v := 0) hx hb dL_law_888 (by decide) ?_
  refine lx_thread1 C0 dL_law_889 hX hS hl ⟨by omega, by omega⟩ (-900002) (pq bo) (fun st hF hV => by rw [q_thread2 hF.1 (by decide) (by decide)]; exact ⟨wan_2, hF⟩) (fun H locs hX hS => ?_)
  refine lv_ldc (v := (-900002)) hx hb hown (hts (.constant RL 20 (-900002)) (by decide +kernel)) dL_law_892 ?_
  refine lv_icmp_ne (tgt := 957) hx hb dL_law_894 (by decide) (fun h9 => absurd h9 (by decide)) (fun _ => ?_)
  refine lv_aload_n hx hb dL_law_897 rfl (lv_at hl 1 rfl) ?_
  refine lv_iconst (v := 0) hx hb dL_law_898 (by decide) ?_
  refine lv_iconst (v := 5) hx hb dL_law_899 (by decide) ?_
  refine lv_iconst (v := 1) hx hb dL_law_900 (by decide) ?_
  refine lv_iconst (v := 0) hx hb dL_law_901 (by decide) ?_
  refine lx_deliver1 C0 dL_law_902 hX hS hl ⟨by omega, by omega⟩ (-900002) (pq bo) (fun st hF hV => by rw [q_deliver3 hF.1 (by decide) (by decide) (by decide)]; exact ⟨wan_2, hF⟩) (fun H locs hX hS => ?_)
  refine lv_ldc (v := (-900002)) hx hb hown (hts (.constant RL 20 (-900002)) (by decide +kernel)) dL_law_905 ?_
  refine lv_icmp_ne (tgt := 957) hx hb dL_law_907 (by decide) (fun h9 => absurd h9 (by decide)) (fun _ => ?_)
  refine lv_aload_n hx hb dL_law_910 rfl (lv_at hl 1 rfl) ?_
  refine lv_sipush (v := (5999)) hx hb dL_law_911 (by decide) ?_
  refine lv_iconst (v := 0) hx hb dL_law_914 (by decide) ?_
  refine lv_sipush (v := (9800)) hx hb dL_law_915 (by decide) ?_
  refine lv_iconst (v := 1) hx hb dL_law_918 (by decide) ?_
  refine lx_barometer1 C0 dL_law_919 hX hS hl ⟨by omega, by omega⟩ (-900001) (pq bo) (fun st hF hV => by rw [q_barometer1 (by decide)]; exact ⟨wan_1, hF⟩) (fun H locs hX hS => ?_)
  refine lv_ldc (v := (-900001)) hx hb hown (hts (.constant RL 17 (-900001)) (by decide +kernel)) dL_law_922 ?_
  refine lv_icmp_ne (tgt := 957) hx hb dL_law_924 (by decide) (fun h9 => absurd h9 (by decide)) (fun _ => ?_)
  refine lv_aload_n hx hb dL_law_927 rfl (lv_at hl 1 rfl) ?_
  refine lv_sipush (v := (801)) hx hb dL_law_928 (by decide) ?_
  refine lx_boiling1 C0 dL_law_931 hX hS hl ⟨by omega, by omega⟩ (-900001) (pq bo) (fun st hF hV => by rw [q_boiling1 (by decide)]; exact ⟨wan_1, hF⟩) (fun H locs hX hS => ?_)
  refine lv_ldc (v := (-900001)) hx hb hown (hts (.constant RL 17 (-900001)) (by decide +kernel)) dL_law_934 ?_
  refine lv_icmp_ne (tgt := 957) hx hb dL_law_936 (by decide) (fun h9 => absurd h9 (by decide)) (fun _ => ?_)
  refine lv_aload_n hx hb dL_law_939 rfl (lv_at hl 1 rfl) ?_
  refine lv_iconst (v := 0) hx hb dL_law_940 (by decide) ?_
  refine lv_sipush (v := (200)) hx hb dL_law_941 (by decide) ?_
  refine lv_iconst (v := 1) hx hb dL_law_944 (by decide) ?_
  refine lx_thread1 C0 dL_law_945 hX hS hl ⟨by omega, by omega⟩ (-900003) (pq bo) (fun st hF hV => q_thread hF hV (p := 200) (n := 1) (by omega) (by omega) (by omega) (TE_200 (pq_b hF hV))) (fun H locs hX hS => ?_)
  refine lv_ldc (v := (-900003)) hx hb hown (hts (.constant RL 29 (-900003)) (by decide +kernel)) dL_law_948 ?_
  refine lv_icmp_ne (tgt := 957) hx hb dL_law_950 (by decide) (fun h9 => absurd h9 (by decide)) (fun _ => ?_)
  refine lv_iconst (v := 1) hx hb dL_law_953 (by decide) ?_
  refine lv_goto (tgt := 958) hx hb dL_law_954 (by decide) ?_
  refine lv_iand hx hb dL_law_958 ?_
  refine lv_topi (fun y1 ey1 => ?_)
  obtain rfl : y1 = 1 := ey1.trans (by decide)
  refine lv_istore (lv' := [(4, .int 1), (0, .ref b), (1, .ref cw)]) hx hb dL_law_959 hl (by decide) rfl (fun ls hl => ?_)
  refine lv_iload hx hb dL_law_961 (lv_at hl 0 rfl) ?_
  refine lv_if_eq (tgt := 1047) hx hb dL_law_963 (by decide) (fun h9 => absurd h9 (by decide)) (fun _ => ?_)
  refine lv_aload_n hx hb dL_law_966 rfl (lv_at hl 2 rfl) ?_
  refine lv_iconst (v := 0) hx hb dL_law_967 (by decide) ?_
  refine lv_sipush (v := (1000)) hx hb dL_law_968 (by decide) ?_
  refine lv_bipush (v := (104)) hx hb dL_law_971 (by decide) ?_
  refine lx_make0 C0 dL_law_973 hX hS hl ⟨by omega, by omega⟩ (0) (pr) (fun st hF hV => by rw [q_make hF]; exact ⟨wan_0, pr_make hF⟩) (fun H locs hX hS => ?_)
  refine lv_if_ne (tgt := 1047) hx hb dL_law_976 (by decide) (fun h9 => absurd h9 (by decide)) (fun _ => ?_)
  refine lv_aload_n hx hb dL_law_979 rfl (lv_at hl 2 rfl) ?_
  refine lv_iconst (v := 0) hx hb dL_law_980 (by decide) ?_
  refine lv_iconst (v := 0) hx hb dL_law_981 (by decide) ?_
  refine lv_iconst (v := 1) hx hb dL_law_982 (by decide) ?_
  refine lx_section0 C0 dL_law_983 hX hS hl ⟨by omega, by omega⟩ (-900003) (pr) (fun st hF hV => by rw [q_section4 hF.1 (by decide) (by decide) hF.2.2]; exact ⟨wan_3, hF⟩) (fun H locs hX hS => ?_)
  refine lv_ldc (v := (-900003)) hx hb hown (hts (.constant RL 29 (-900003)) (by decide +kernel)) dL_law_986 ?_
  refine lv_icmp_ne (tgt := 1047) hx hb dL_law_988 (by decide) (fun h9 => absurd h9 (by decide)) (fun _ => ?_)
  refine lv_aload_n hx hb dL_law_991 rfl (lv_at hl 2 rfl) ?_
  refine lv_iconst (v := 0) hx hb dL_law_992 (by decide) ?_
  refine lv_sipush (v := (1000)) hx hb dL_law_993 (by decide) ?_
  refine lv_bipush (v := (104)) hx hb dL_law_996 (by decide) ?_
  refine lx_make0 C0 dL_law_998 hX hS hl ⟨by omega, by omega⟩ (-900003) (pr) (fun st hF hV => by rw [q_make3 hF]; exact ⟨wan_3, hF⟩) (fun H locs hX hS => ?_)
  refine lv_ldc (v := (-900003)) hx hb hown (hts (.constant RL 29 (-900003)) (by decide +kernel)) dL_law_1001 ?_
  refine lv_icmp_ne (tgt := 1047) hx hb dL_law_1003 (by decide) (fun h9 => absurd h9 (by decide)) (fun _ => ?_)
  refine lv_aload_n hx hb dL_law_1006 rfl (lv_at hl 2 rfl) ?_
  refine lv_iconst (v := 0) hx hb dL_law_1007 (by decide) ?_
  refine lv_sipush (v := (999)) hx hb dL_law_1008 (by decide) ?_
  refine lv_bipush (v := (104)) hx hb dL_law_1011 (by decide) ?_
  refine lx_make0 C0 dL_law_1013 hX hS hl ⟨by omega, by omega⟩ (-900002) (pr) (fun st hF hV => by rw [q_make2 hF]; exact ⟨wan_2, hF⟩) (fun H locs hX hS => ?_)
  refine lv_ldc (v := (-900002)) hx hb hown (hts (.constant RL 20 (-900002)) (by decide +kernel)) dL_law_1016 ?_
  refine lv_icmp_ne (tgt := 1047) hx hb dL_law_1018 (by decide) (fun h9 => absurd h9 (by decide)) (fun _ => ?_)
  refine lv_aload_n hx hb dL_law_1021 rfl (lv_at hl 2 rfl) ?_
  refine lv_iconst (v := 1) hx hb dL_law_1022 (by decide) ?_
  refine lv_sipush (v := (1000)) hx hb dL_law_1023 (by decide) ?_
  refine lv_bipush (v := (104)) hx hb dL_law_1026 (by decide) ?_
  refine lx_make0 C0 dL_law_1028 hX hS hl ⟨by omega, by omega⟩ (-900001) (pr) (fun st hF hV => by rw [q_make1 hF]; exact ⟨wan_1, hF⟩) (fun H locs hX hS => ?_)
  refine lv_ldc (v := (-900001)) hx hb hown (hts (.constant RL 17 (-900001)) (by decide +kernel)) dL_law_1031 ?_
  refine lv_icmp_ne (tgt := 1047) hx hb dL_law_1033 (by decide) (fun h9 => absurd h9 (by decide)) (fun _ => ?_)
  refine lv_aload_n hx hb dL_law_1036 rfl (lv_at hl 2 rfl) ?_
  refine lx_sound C0 dL_law_1037 hX hS hl ⟨by omega, by omega⟩ (fun H locs hS => ?_)
  refine lv_if_eq (tgt := 1047) hx hb dL_law_1040 (by decide) (fun h9 => absurd h9 (by decide)) (fun _ => ?_)
  refine lv_iconst (v := 1) hx hb dL_law_1043 (by decide) ?_
  refine lv_goto (tgt := 1048) hx hb dL_law_1044 (by decide) ?_
  refine W.widen (k := cells + 1000) (n := slots + 10000) (by omega) (by omega) ?_
  exact kk H locs ls hS
