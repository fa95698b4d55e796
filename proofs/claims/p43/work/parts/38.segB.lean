set_option maxHeartbeats 4000000 in
set_option maxRecDepth 100000 in
theorem sg_B {p : Program} {l : Launch} {e : Env} {s : State} {m : MethodId} {below : List Frame} {meth : Method} {c : Code} {Q : State → Prop} {b : Nat} {G : mg} (C0 : TwC p l s m c b G) {H : Heap} {locs : List Loc} {ls : Array Slot} {cells slots : Nat} {cw : Nat} {x2 x3 : Int32} {o1 k : Nat} {fb : Nat → Int32} (hk : k < 20) (hfb : ∀ j, j < k → fb j = dbo x2 x3 j) (hcs : cells + 100 ≤ 624961 ∧ slots + 1000 ≤ 7226742) (hX : LwX G s.heap.size H cw (pq (dboU x2 x3 20)) (mu m043 o1 (E43 G 20 fb))) (hS : va_S (aH s.heap.size) s.heap H locs) (hl : lv_has ls 22 [(0, .ref b), (1, .ref cw), (2, .int x2), (3, .int x3), (4, .int 1), (5, .ref o1), (6, .int (nI k))])
    (kk : ∀ (fb1 : Nat → Int32) (_ : ∀ j, j < k + 1 → fb1 j = dbo x2 x3 j) (H1 : Heap) (locs1 : List Loc) (ls1 : Array Slot), LwX G s.heap.size H1 cw (pq (dboU x2 x3 20)) (mu m043 o1 (E43 G 20 fb1)) → va_S (aH s.heap.size) s.heap H1 locs1 → lv_has ls1 22 [(0, .ref b), (1, .ref cw), (2, .int x2), (3, .int x3), (4, .int 1), (5, .ref o1), (6, .int (nI (k + 1)))] → W p l e room_1 s m #[Value.ref b] below meth c H1 locs1 (cells + 100) (slots + 1000) Q (F0 m 98 ls1 [])) : W p l e room_1 s m #[Value.ref b] below meth c H locs cells slots Q (F0 m 98 ls []) := by
  obtain ⟨hx, hb, hml, hown, hts, hG, hb0, hl9⟩ := id C0
  refine lv_iload hx hb dL_law_98 (lv_at hl 6 rfl) ?_
  refine lv_bipush (v := (20)) hx hb dL_law_100 (by decide) ?_
  refine lv_icmp_ge (tgt := 173) hx hb dL_law_102 (by decide) (fun c1 => absurd c1 (nI_ge (a := k) (b := 20) hk (by omega))) (fun c1 => ?_)
  refine lv_iload_n hx hb dL_law_105 rfl (lv_at hl 2 rfl) ?_
  refine lv_iload hx hb dL_law_106 (lv_at hl 6 rfl) ?_
  refine lv_iload_n hx hb dL_law_108 rfl (lv_at hl 3 rfl) ?_
  refine lv_imul hx hb dL_law_109 ?_
  refine lv_iadd hx hb dL_law_110 ?_
  refine lv_istore (lv' := [(7, .int (x2 + ((nI k) * x3))), (0, .ref b), (1, .ref cw), (2, .int x2), (3, .int x3), (4, .int 1), (5, .ref o1), (6, .int (nI k))]) hx hb dL_law_111 hl (by decide) rfl (fun ls hl => ?_)
  refine lv_aload hx hb dL_law_113 (lv_at hl 6 rfl) ?_
  refine lv_iload hx hb dL_law_115 (lv_at hl 7 rfl) ?_
  refine lv_iload hx hb dL_law_117 (lv_at hl 0 rfl) ?_
  refine lv_iconst (v := 1) hx hb dL_law_119 (by decide) ?_
  refine lv_icmp_ge (tgt := 127) hx hb dL_law_120 (by decide) (fun c2 => ?_) (fun c2 => ?_)
  · skip
    refine lv_iload hx hb dL_law_127 (lv_at hl 0 rfl) ?_
    refine lv_bipush (v := (60)) hx hb dL_law_129 (by decide) ?_
    refine lv_icmp_le (tgt := 139) hx hb dL_law_131 (by decide) (fun c3 => ?_) (fun c3 => ?_)
    · skip
      refine lv_iload hx hb dL_law_139 (lv_at hl 0 rfl) ?_
      refine lv_topi (fun y4 ey4 => ?_)
      obtain rfl : y4 = dbo x2 x3 k := ey4.trans ((dbo_mid c2 c3).symm)
      refine lx_iast C0 dL_law_141 hX hS mu_s (vp_in_nI hk (by omega)) (k := k) (nI_clamp (by omega)) (fun H locs hX hS => ?_)
      rw [mu_uu] at hX
      refine lv_iload hx hb dL_law_142 (lv_at hl 5 rfl) ?_
      refine lv_aload_n hx hb dL_law_144 rfl (lv_at hl 2 rfl) ?_
      refine lv_iconst (v := 0) hx hb dL_law_145 (by decide) ?_
      refine lv_iload hx hb dL_law_146 (lv_at hl 7 rfl) ?_
      refine lx_bore1 C0 dL_law_148 hX hS hl ⟨by omega, by omega⟩ (dbo x2 x3 k) (pq (dboU x2 x3 20)) (fun st hF hV => by rw [q_bore hF hk]; exact ⟨wan_0.trans (if_pos hk), hF⟩) (fun H locs hX hS => ?_)
      refine lv_aload hx hb dL_law_151 (lv_at hl 6 rfl) ?_
      refine lv_iload hx hb dL_law_153 (lv_at hl 7 rfl) ?_
      refine lx_iald C0 dL_law_155 hX mu_s (vp_in_nI hk (by omega)) (v := dbo x2 x3 k) (by rw [nI_clamp (by omega)]; exact if_pos rfl) ?_
      refine lv_icmp_ne (tgt := 163) hx hb dL_law_156 (by decide) (fun c5 => absurd c5 (fun q => q rfl)) (fun c5 => ?_)
      refine lv_iconst (v := 1) hx hb dL_law_159 (by decide) ?_
      refine lv_goto (tgt := 164) hx hb dL_law_160 (by decide) ?_
      refine lv_iand hx hb dL_law_164 ?_
      refine lv_topi (fun y6 ey6 => ?_)
      obtain rfl : y6 = 1 := ey6.trans (by decide)
      refine lv_istore (lv' := [(4, .int 1), (7, .int (x2 + ((nI k) * x3))), (0, .ref b), (1, .ref cw), (2, .int x2), (3, .int x3), (5, .ref o1), (6, .int (nI k))]) hx hb dL_law_165 hl (by decide) rfl (fun ls hl => ?_)
      refine lv_iinc (v := (nI k) + 1) (lv' := [(6, .int ((nI k) + 1)), (4, .int 1), (7, .int (x2 + ((nI k) * x3))), (0, .ref b), (1, .ref cw), (2, .int x2), (3, .int x3), (5, .ref o1)]) hx hb dL_law_167 hl (k := 7) rfl rfl (by decide) rfl (fun ls hl => ?_)
      refine lv_goto (tgt := 98) hx hb dL_law_170 (by decide) ?_
      refine W.widen (k := cells + 100) (n := slots + 1000) (by omega) (by omega) ?_
      rw [← nI_succ] at hl
      refine kk _ (fun j hj => ?_) H locs ls hX hS (lv_sub hl [3, 4, 5, 6, 1, 7, 0] rfl)
      show (if j = k then _ else fb j) = _
      by_cases z : j = k
      · rw [if_pos z, z]
      · rw [if_neg z]; exact hfb j (by omega)
    · skip
      refine lv_bipush (v := (60)) hx hb dL_law_134 (by decide) ?_
      refine lv_goto (tgt := 141) hx hb dL_law_136 (by decide) ?_
      refine lv_topi (fun y7 ey7 => ?_)
      obtain rfl : y7 = dbo x2 x3 k := ey7.trans ((dbo_hi c3).symm)
      refine lx_iast C0 dL_law_141 hX hS mu_s (vp_in_nI hk (by omega)) (k := k) (nI_clamp (by omega)) (fun H locs hX hS => ?_)
      rw [mu_uu] at hX
      refine lv_iload hx hb dL_law_142 (lv_at hl 5 rfl) ?_
      refine lv_aload_n hx hb dL_law_144 rfl (lv_at hl 2 rfl) ?_
      refine lv_iconst (v := 0) hx hb dL_law_145 (by decide) ?_
      refine lv_iload hx hb dL_law_146 (lv_at hl 7 rfl) ?_
      refine lx_bore1 C0 dL_law_148 hX hS hl ⟨by omega, by omega⟩ (dbo x2 x3 k) (pq (dboU x2 x3 20)) (fun st hF hV => by rw [q_bore hF hk]; exact ⟨wan_0.trans (if_pos hk), hF⟩) (fun H locs hX hS => ?_)
      refine lv_aload hx hb dL_law_151 (lv_at hl 6 rfl) ?_
      refine lv_iload hx hb dL_law_153 (lv_at hl 7 rfl) ?_
      refine lx_iald C0 dL_law_155 hX mu_s (vp_in_nI hk (by omega)) (v := dbo x2 x3 k) (by rw [nI_clamp (by omega)]; exact if_pos rfl) ?_
      refine lv_icmp_ne (tgt := 163) hx hb dL_law_156 (by decide) (fun c8 => absurd c8 (fun q => q rfl)) (fun c8 => ?_)
      refine lv_iconst (v := 1) hx hb dL_law_159 (by decide) ?_
      refine lv_goto (tgt := 164) hx hb dL_law_160 (by decide) ?_
      refine lv_iand hx hb dL_law_164 ?_
      refine lv_topi (fun y9 ey9 => ?_)
      obtain rfl : y9 = 1 := ey9.trans (by decide)
      refine lv_istore (lv' := [(4, .int 1), (7, .int (x2 + ((nI k) * x3))), (0, .ref b), (1, .ref cw), (2, .int x2), (3, .int x3), (5, .ref o1), (6, .int (nI k))]) hx hb dL_law_165 hl (by decide) rfl (fun ls hl => ?_)
      refine lv_iinc (v := (nI k) + 1) (lv' := [(6, .int ((nI k) + 1)), (4, .int 1), (7, .int (x2 + ((nI k) * x3))), (0, .ref b), (1, .ref cw), (2, .int x2), (3, .int x3), (5, .ref o1)]) hx hb dL_law_167 hl (k := 7) rfl rfl (by decide) rfl (fun ls hl => ?_)
      refine lv_goto (tgt := 98) hx hb dL_law_170 (by decide) ?_
      refine W.widen (k := cells + 100) (n := slots + 1000) (by omega) (by omega) ?_
      rw [← nI_succ] at hl
      refine kk _ (fun j hj => ?_) H locs ls hX hS (lv_sub hl [3, 4, 5, 6, 1, 7, 0] rfl)
      show (if j = k then _ else fb j) = _
      by_cases z : j = k
      · rw [if_pos z, z]
      · rw [if_neg z]; exact hfb j (by omega)
  · skip
    refine lv_iconst (v := 1) hx hb dL_law_123 (by decide) ?_
    refine lv_goto (tgt := 141) hx hb dL_law_124 (by decide) ?_
    refine lv_topi (fun y10 ey10 => ?_)
    obtain rfl : y10 = dbo x2 x3 k := ey10.trans ((dbo_lo c2).symm)
    refine lx_iast C0 dL_law_141 hX hS mu_s (vp_in_nI hk (by omega)) (k := k) (nI_clamp (by omega)) (fun H locs hX hS => ?_)
    rw [mu_uu] at hX
    refine lv_iload hx hb dL_law_142 (lv_at hl 5 rfl) ?_
    refine lv_aload_n hx hb dL_law_144 rfl (lv_at hl 2 rfl) ?_
    refine lv_iconst (v := 0) hx hb dL_law_145 (by decide) ?_
    refine lv_iload hx hb dL_law_146 (lv_at hl 7 rfl) ?_
    refine lx_bore1 C0 dL_law_148 hX hS hl ⟨by omega, by omega⟩ (dbo x2 x3 k) (pq (dboU x2 x3 20)) (fun st hF hV => by rw [q_bore hF hk]; exact ⟨wan_0.trans (if_pos hk), hF⟩) (fun H locs hX hS => ?_)
    refine lv_aload hx hb dL_law_151 (lv_at hl 6 rfl) ?_
    refine lv_iload hx hb dL_law_153 (lv_at hl 7 rfl) ?_
    refine lx_iald C0 dL_law_155 hX mu_s (vp_in_nI hk (by omega)) (v := dbo x2 x3 k) (by rw [nI_clamp (by omega)]; exact if_pos rfl) ?_
    refine lv_icmp_ne (tgt := 163) hx hb dL_law_156 (by decide) (fun c11 => absurd c11 (fun q => q rfl)) (fun c11 => ?_)
    refine lv_iconst (v := 1) hx hb dL_law_159 (by decide) ?_
    refine lv_goto (tgt := 164) hx hb dL_law_160 (by decide) ?_
    refine lv_iand hx hb dL_law_164 ?_
    refine lv_topi (fun y12 ey12 => ?_)
    obtain rfl : y12 = 1 := ey12.trans (by decide)
    refine lv_istore (lv' := [(4, .int 1), (7, .int (x2 + ((nI k) * x3))), (0, .ref b), (1, .ref cw), (2, .int x2), (3, .int x3), (5, .ref o1), (6, .int (nI k))]) hx hb dL_law_165 hl (by decide) rfl (fun ls hl => ?_)
    refine lv_iinc (v := (nI k) + 1) (lv' := [(6, .int ((nI k) + 1)), (4, .int 1), (7, .int (x2 + ((nI k) * x3))), (0, .ref b), (1, .ref cw), (2, .int x2), (3, .int x3), (5, .ref o1)]) hx hb dL_law_167 hl (k := 7) rfl rfl (by decide) rfl (fun ls hl => ?_)
    refine lv_goto (tgt := 98) hx hb dL_law_170 (by decide) ?_
    refine W.widen (k := cells + 100) (n := slots + 1000) (by omega) (by omega) ?_
    rw [← nI_succ] at hl
    refine kk _ (fun j hj => ?_) H locs ls hX hS (lv_sub hl [3, 4, 5, 6, 1, 7, 0] rfl)
    show (if j = k then _ else fb j) = _
    by_cases z : j = k
    · rw [if_pos z, z]
    · rw [if_neg z]; exact hfb j (by omega)
