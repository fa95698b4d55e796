set_option maxHeartbeats 4000000 in
set_option maxRecDepth 100000 in
theorem sg_C {p : Program} {l : Launch} {e : Env} {s : State} {m : MethodId} {below : List Frame} {meth : Method} {c : Code} {Q : State → Prop} {b : Nat} {G : mg} (C0 : TwC p l s m c b G) {H : Heap} {locs : List Loc} {ls : Array Slot} {cells slots : Nat} {cw : Nat} {o1 k : Nat} {bo fb : Nat → Int32} (hk : k < 8) (hfb : ∀ j, j < 20 → fb j = bo j) (hcs : cells + 100 ≤ 624961 ∧ slots + 1000 ≤ 7226742) (hX : LwX G s.heap.size H cw (pq bo) (mu m043 o1 (E43 G 20 fb))) (hS : va_S (aH s.heap.size) s.heap H locs) (hl : lv_has ls 22 [(0, .ref b), (1, .ref cw), (4, .int 1), (5, .ref o1), (6, .int (nI k))])
    (kk : ∀ (bo1 fb1 : Nat → Int32) (_ : ∀ j, j < 20 → fb1 j = bo1 j) (H1 : Heap) (locs1 : List Loc) (ls1 : Array Slot), LwX G s.heap.size H1 cw (pq bo1) (mu m043 o1 (E43 G 20 fb1)) → va_S (aH s.heap.size) s.heap H1 locs1 → lv_has ls1 22 [(0, .ref b), (1, .ref cw), (4, .int 1), (5, .ref o1), (6, .int (nI (k + 1)))] → W p l e room_1 s m #[Value.ref b] below meth c H1 locs1 (cells + 100) (slots + 1000) Q (F0 m 176 ls1 [])) : W p l e room_1 s m #[Value.ref b] below meth c H locs cells slots Q (F0 m 176 ls []) := by
  obtain ⟨hx, hb, hml, hown, hts, hG, hb0, hl9⟩ := id C0
  refine lv_iload hx hb dL_law_176 (lv_at hl 4 rfl) ?_
  refine lv_bipush (v := (8)) hx hb dL_law_178 (by decide) ?_
  refine lv_icmp_ge (tgt := 251) hx hb dL_law_180 (by decide) (fun c1 => absurd c1 (nI_ge (a := k) (b := 8) hk (by omega))) (fun c1 => ?_)
  refine lv_aload_n hx hb dL_law_183 rfl (lv_at hl 0 rfl) ?_
  refine lv_bipush (v := (10)) hx hb dL_law_184 (by decide) ?_
  refine lv_iload hx hb dL_law_186 (lv_at hl 4 rfl) ?_
  refine lv_iadd hx hb dL_law_188 ?_
  refine lv_bipush (v := (20)) hx hb dL_law_189 (by decide) ?_
  refine lx_in0 C0 dL_law_191 hX hS hl ⟨by omega, by omega⟩ (show ¬ nI 10 + nI k < 0 from ng_add (by omega)) 20 rfl (by decide) (fun a1 H locs h_a1 hX hS => ?_)
  refine lv_istore (lv' := [(7, .int (nI a1)), (0, .ref b), (1, .ref cw), (4, .int 1), (5, .ref o1), (6, .int (nI k))]) hx hb dL_law_194 hl (by decide) rfl (fun ls hl => ?_)
  refine lv_iconst (v := 1) hx hb dL_law_196 (by decide) ?_
  refine lv_aload_n hx hb dL_law_197 rfl (lv_at hl 1 rfl) ?_
  refine lv_bipush (v := (20)) hx hb dL_law_198 (by decide) ?_
  refine lv_iload hx hb dL_law_200 (lv_at hl 5 rfl) ?_
  refine lv_iadd hx hb dL_law_202 ?_
  refine lv_bipush (v := (60)) hx hb dL_law_203 (by decide) ?_
  refine lx_in1 C0 dL_law_205 hX hS hl ⟨by omega, by omega⟩ (show ¬ nI 20 + nI k < 0 from ng_add (by omega)) 60 rfl (by decide) (fun a2 H locs h_a2 hX hS => ?_)
  refine lv_iadd hx hb dL_law_208 ?_
  refine lv_istore (lv' := [(8, .int (1 + (nI a2))), (7, .int (nI a1)), (0, .ref b), (1, .ref cw), (4, .int 1), (5, .ref o1), (6, .int (nI k))]) hx hb dL_law_209 hl (by decide) rfl (fun ls hl => ?_)
  refine lv_iload hx hb dL_law_211 (lv_at hl 4 rfl) ?_
  refine lv_aload_n hx hb dL_law_213 rfl (lv_at hl 3 rfl) ?_
  refine lv_iconst (v := 0) hx hb dL_law_214 (by decide) ?_
  refine lv_iload hx hb dL_law_215 (lv_at hl 1 rfl) ?_
  refine lv_iload hx hb dL_law_217 (lv_at hl 0 rfl) ?_
  refine lx_section1 C0 dL_law_219 hX hS hl ⟨by omega, by omega⟩ (bo a1) (pq (upd bo a1 (1 + nI a2))) (fun st hF hV => by rw [q_section hF h_a1 (show rng (1 + nI a2) 1 60 from by have h9 := rg_n (n := 1 + a2) (lo := 1) (hi := 60) (by omega) (by omega) (by omega); rw [← nA] at h9; exact h9)]; exact ⟨wan_0, pq_section hF h_a1 _⟩) (fun H locs hX hS => ?_)
  refine lv_aload hx hb dL_law_222 (lv_at hl 5 rfl) ?_
  refine lv_iload hx hb dL_law_224 (lv_at hl 1 rfl) ?_
  refine lx_iald C0 dL_law_226 hX mu_s (vp_in_nI h_a1 (by omega)) (v := bo a1) (by rw [nI_clamp (by omega)]; exact hfb a1 h_a1) ?_
  refine lv_icmp_ne (tgt := 234) hx hb dL_law_227 (by decide) (fun c2 => absurd c2 (fun q => q rfl)) (fun c2 => ?_)
  refine lv_iconst (v := 1) hx hb dL_law_230 (by decide) ?_
  refine lv_goto (tgt := 235) hx hb dL_law_231 (by decide) ?_
  refine lv_iand hx hb dL_law_235 ?_
  refine lv_topi (fun y3 ey3 => ?_)
  obtain rfl : y3 = 1 := ey3.trans (by decide)
  refine lv_istore (lv' := [(4, .int 1), (8, .int (1 + (nI a2))), (7, .int (nI a1)), (0, .ref b), (1, .ref cw), (5, .ref o1), (6, .int (nI k))]) hx hb dL_law_236 hl (by decide) rfl (fun ls hl => ?_)
  refine lv_aload hx hb dL_law_238 (lv_at hl 5 rfl) ?_
  refine lv_iload hx hb dL_law_240 (lv_at hl 2 rfl) ?_
  refine lv_iload hx hb dL_law_242 (lv_at hl 1 rfl) ?_
  refine lx_iast C0 dL_law_244 hX hS mu_s (vp_in_nI h_a1 (by omega)) (k := a1) (nI_clamp (by omega)) (fun H locs hX hS => ?_)
  rw [mu_uu] at hX
  refine lv_iinc (v := (nI k) + 1) (lv' := [(6, .int ((nI k) + 1)), (4, .int 1), (8, .int (1 + (nI a2))), (7, .int (nI a1)), (0, .ref b), (1, .ref cw), (5, .ref o1)]) hx hb dL_law_245 hl (k := 6) rfl rfl (by decide) rfl (fun ls hl => ?_)
  refine lv_goto (tgt := 176) hx hb dL_law_248 (by decide) ?_
  refine W.widen (k := cells + 100) (n := slots + 1000) (by omega) (by omega) ?_
  rw [← nI_succ] at hl
  refine kk _ _ (fun j hj => ?_) H locs ls hX hS (lv_sub hl [4, 5, 1, 6, 0] rfl)
  show (if j = a1 then _ else fb j) = (if j = a1 then _ else bo j)
  rw [hfb j hj]
