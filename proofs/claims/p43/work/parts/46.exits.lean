theorem nI_m1 {a : Nat} (h : a < 1000) : nI a + (-1) < nI a := by
  have e : (-1 : Int32).toInt = -1 := rfl
  have e2 := nI_toInt (n := a) (by omega)
  rw [Int32.lt_iff_toInt_lt, t_add (by omega) (by omega)]
  omega
theorem nI_pm {a : Nat} (h : a < 1000) : nI (a + 1) + (-1) = nI a := by
  have e : (-1 : Int32).toInt = -1 := rfl
  have e1 := nI_toInt (n := a) (by omega)
  have e2 := nI_toInt (n := a + 1) (by omega)
  refine Int32.toInt_inj.mp ?_
  rw [t_add (by omega) (by omega)]
  omega
set_option maxHeartbeats 4000000 in
set_option maxRecDepth 100000 in
theorem sg_Bx {p : Program} {l : Launch} {e : Env} {s : State} {m : MethodId} {below : List Frame} {meth : Method} {c : Code} {Q : State → Prop} {b : Nat} {G : mg} (C0 : TwC p l s m c b G) {H : Heap} {locs : List Loc} {ls : Array Slot} {cells slots : Nat} {cw : Nat} {x2 x3 : Int32} {o1 : Nat} {bo fb : Nat → Int32} (hcs : cells + 0 ≤ 624961 ∧ slots + 0 ≤ 7226742) (hX : LwX G s.heap.size H cw (pq bo) (mu m043 o1 (E43 G 20 fb))) (hS : va_S (aH s.heap.size) s.heap H locs) (hl : lv_has ls 22 [(0, .ref b), (1, .ref cw), (2, .int x2), (3, .int x3), (4, .int 1), (5, .ref o1), (6, .int (nI 20))])
    (kk : ∀ (H1 : Heap) (locs1 : List Loc) (ls1 : Array Slot), LwX G s.heap.size H1 cw (pq bo) (mu m043 o1 (E43 G 20 fb)) → va_S (aH s.heap.size) s.heap H1 locs1 → lv_has ls1 22 [(0, .ref b), (1, .ref cw), (4, .int 1), (5, .ref o1), (6, .int 0)] → W p l e room_1 s m #[Value.ref b] below meth c H1 locs1 cells slots Q (F0 m 176 ls1 [])) : W p l e room_1 s m #[Value.ref b] below meth c H locs cells slots Q (F0 m 98 ls []) := by
  obtain ⟨hx, hb, hml, hown, hts, hG, hb0, hl9⟩ := id C0
  refine lv_iload hx hb dL_law_98 (lv_at hl 6 rfl) ?_
  refine lv_bipush (v := (20)) hx hb dL_law_100 (by decide) ?_
  refine lv_icmp_ge (tgt := 173) hx hb dL_law_102 (by decide) (fun c1 => ?_) (fun c1 => absurd c1 (fun z => z (nI_le (a := 20) (b := 20) (by omega) (by omega))))
  refine lv_iconst (v := 0) hx hb dL_law_173 (by decide) ?_
  refine lv_istore (lv' := [(6, .int 0), (0, .ref b), (1, .ref cw), (2, .int x2), (3, .int x3), (4, .int 1), (5, .ref o1)]) hx hb dL_law_174 hl (by decide) rfl (fun ls hl => ?_)
  exact kk H locs ls hX hS (lv_sub hl [1, 2, 5, 6, 0] rfl)
set_option maxHeartbeats 4000000 in
set_option maxRecDepth 100000 in
theorem sg_Cx {p : Program} {l : Launch} {e : Env} {s : State} {m : MethodId} {below : List Frame} {meth : Method} {c : Code} {Q : State → Prop} {b : Nat} {G : mg} (C0 : TwC p l s m c b G) {H : Heap} {locs : List Loc} {ls : Array Slot} {cells slots : Nat} {cw : Nat} {o1 : Nat} {bo fb : Nat → Int32} (hcs : cells + 0 ≤ 624961 ∧ slots + 0 ≤ 7226742) (hX : LwX G s.heap.size H cw (pq bo) (mu m043 o1 (E43 G 20 fb))) (hS : va_S (aH s.heap.size) s.heap H locs) (hl : lv_has ls 22 [(0, .ref b), (1, .ref cw), (4, .int 1), (5, .ref o1), (6, .int (nI 8))])
    (kk : ∀ (H1 : Heap) (locs1 : List Loc) (ls1 : Array Slot), LwX G s.heap.size H1 cw (pq bo) (mu m043 o1 (E43 G 20 fb)) → va_S (aH s.heap.size) s.heap H1 locs1 → lv_has ls1 22 [(0, .ref b), (1, .ref cw), (4, .int 1), (5, .ref o1)] → W p l e room_1 s m #[Value.ref b] below meth c H1 locs1 cells slots Q (F0 m 251 ls1 [])) : W p l e room_1 s m #[Value.ref b] below meth c H locs cells slots Q (F0 m 176 ls []) := by
  obtain ⟨hx, hb, hml, hown, hts, hG, hb0, hl9⟩ := id C0
  refine lv_iload hx hb dL_law_176 (lv_at hl 4 rfl) ?_
  refine lv_bipush (v := (8)) hx hb dL_law_178 (by decide) ?_
  refine lv_icmp_ge (tgt := 251) hx hb dL_law_180 (by decide) (fun c1 => ?_) (fun c1 => absurd c1 (fun z => z (nI_le (a := 8) (b := 8) (by omega) (by omega))))
  exact kk H locs ls hX hS (lv_sub hl [0, 1, 2, 3] rfl)
set_option maxHeartbeats 4000000 in
set_option maxRecDepth 100000 in
theorem sg_Ex {p : Program} {l : Launch} {e : Env} {s : State} {m : MethodId} {below : List Frame} {meth : Method} {c : Code} {Q : State → Prop} {b : Nat} {G : mg} (C0 : TwC p l s m c b G) {H : Heap} {locs : List Loc} {ls : Array Slot} {cells slots : Nat} {cw : Nat} {o1 o2 : Nat} {bo fb fs : Nat → Int32} {x7 : Int32} (hcs : cells + 0 ≤ 624961 ∧ slots + 0 ≤ 7226742) (hX : LwX G s.heap.size H cw (pq bo) (mu (mu m043 o1 (E43 G 20 fb)) o2 (E43 G 201 fs))) (hS : va_S (aH s.heap.size) s.heap H locs) (hl : lv_has ls 22 [(0, .ref b), (1, .ref cw), (4, .int 1), (5, .ref o1), (6, .ref o2), (7, .int x7), (8, .int (nI 200))])
    (kk : ∀ (H1 : Heap) (locs1 : List Loc) (ls1 : Array Slot), LwX G s.heap.size H1 cw (pq bo) (mu (mu m043 o1 (E43 G 20 fb)) o2 (E43 G 201 fs)) → va_S (aH s.heap.size) s.heap H1 locs1 → lv_has ls1 22 [(0, .ref b), (1, .ref cw), (4, .int 1), (5, .ref o1), (6, .ref o2), (7, .int x7)] → W p l e room_1 s m #[Value.ref b] below meth c H1 locs1 cells slots Q (F0 m 327 ls1 [])) : W p l e room_1 s m #[Value.ref b] below meth c H locs cells slots Q (F0 m 264 ls []) := by
  obtain ⟨hx, hb, hml, hown, hts, hG, hb0, hl9⟩ := id C0
  refine lv_iload hx hb dL_law_264 (lv_at hl 6 rfl) ?_
  refine lv_sipush (v := (200)) hx hb dL_law_266 (by decide) ?_
  refine lv_icmp_ge (tgt := 327) hx hb dL_law_269 (by decide) (fun c1 => ?_) (fun c1 => absurd c1 (fun z => z (nI_le (a := 200) (b := 200) (by omega) (by omega))))
  exact kk H locs ls hX hS (lv_sub hl [0, 1, 2, 3, 4, 5] rfl)
set_option maxHeartbeats 4000000 in
set_option maxRecDepth 100000 in
theorem sg_Gx {p : Program} {l : Launch} {e : Env} {s : State} {m : MethodId} {below : List Frame} {meth : Method} {c : Code} {Q : State → Prop} {b : Nat} {G : mg} (C0 : TwC p l s m c b G) {H : Heap} {locs : List Loc} {ls : Array Slot} {cells slots : Nat} {cw : Nat} {o1 o2 : Nat} {bo fb fs : Nat → Int32} (hcs : cells + 0 ≤ 624961 ∧ slots + 0 ≤ 7226742) (hX : LwX G s.heap.size H cw (pq bo) (mu (mu m043 o1 (E43 G 20 fb)) o2 (E43 G 201 fs))) (hS : va_S (aH s.heap.size) s.heap H locs) (hl : lv_has ls 22 [(0, .ref b), (1, .ref cw), (4, .int 1), (5, .ref o1), (6, .ref o2), (8, .int (nI 201))])
    (kk : ∀ (H1 : Heap) (locs1 : List Loc) (ls1 : Array Slot), LwX G s.heap.size H1 cw (pq bo) (mu (mu m043 o1 (E43 G 20 fb)) o2 (E43 G 201 fs)) → va_S (aH s.heap.size) s.heap H1 locs1 → lv_has ls1 22 [(0, .ref b), (1, .ref cw), (4, .int 1), (5, .ref o1), (6, .ref o2), (8, .int 0)] → W p l e room_1 s m #[Value.ref b] below meth c H1 locs1 cells slots Q (F0 m 441 ls1 [])) : W p l e room_1 s m #[Value.ref b] below meth c H locs cells slots Q (F0 m 399 ls []) := by
  obtain ⟨hx, hb, hml, hown, hts, hG, hb0, hl9⟩ := id C0
  refine lv_iload hx hb dL_law_399 (lv_at hl 5 rfl) ?_
  refine lv_sipush (v := (200)) hx hb dL_law_401 (by decide) ?_
  refine lv_icmp_gt (tgt := 438) hx hb dL_law_404 (by decide) (fun c1 => ?_) (fun c1 => absurd c1 (fun z => z (nI_lt (a := 200) (b := 201) (by omega) (by omega))))
  refine lv_iconst (v := 0) hx hb dL_law_438 (by decide) ?_
  refine lv_istore (lv' := [(8, .int 0), (0, .ref b), (1, .ref cw), (4, .int 1), (5, .ref o1), (6, .ref o2)]) hx hb dL_law_439 hl (by decide) rfl (fun ls hl => ?_)
  exact kk H locs ls hX hS (lv_sub hl [1, 2, 3, 4, 5, 0] rfl)
set_option maxHeartbeats 4000000 in
set_option maxRecDepth 100000 in
theorem sg_H1x {p : Program} {l : Launch} {e : Env} {s : State} {m : MethodId} {below : List Frame} {meth : Method} {c : Code} {Q : State → Prop} {b : Nat} {G : mg} (C0 : TwC p l s m c b G) {H : Heap} {locs : List Loc} {ls : Array Slot} {cells slots : Nat} {cw : Nat} {o1 o2 k a1 a2 : Nat} {bo fb fs : Nat → Int32} {z : Int32} (h1 : a1 < 201) (hcs : cells + 0 ≤ 624961 ∧ slots + 0 ≤ 7226742) (hX : LwX G s.heap.size H cw (pq bo) (mu (mu m043 o1 (E43 G 20 fb)) o2 (E43 G 201 fs))) (hS : va_S (aH s.heap.size) s.heap H locs) (hl : lv_has ls 22 [(0, .ref b), (1, .ref cw), (4, .int 1), (5, .ref o1), (6, .ref o2), (8, .int (nI k)), (9, .int (nI a1)), (10, .int (nI (1 + a2))), (11, .int z), (12, .int (nI a1 + (-1)))])
    (kk : ∀ (H1 : Heap) (locs1 : List Loc) (ls1 : Array Slot), LwX G s.heap.size H1 cw (pq bo) (mu (mu m043 o1 (E43 G 20 fb)) o2 (E43 G 201 fs)) → va_S (aH s.heap.size) s.heap H1 locs1 → lv_has ls1 22 [(0, .ref b), (1, .ref cw), (4, .int 1), (5, .ref o1), (6, .ref o2), (8, .int (nI k)), (9, .int (nI a1)), (10, .int (nI (1 + a2))), (11, .int z)] → W p l e room_1 s m #[Value.ref b] below meth c H1 locs1 cells slots Q (F0 m 538 ls1 [])) : W p l e room_1 s m #[Value.ref b] below meth c H locs cells slots Q (F0 m 500 ls []) := by
  obtain ⟨hx, hb, hml, hown, hts, hG, hb0, hl9⟩ := id C0
  refine lv_iload hx hb dL_law_500 (lv_at hl 9 rfl) ?_
  refine lv_iload hx hb dL_law_502 (lv_at hl 6 rfl) ?_
  refine lv_icmp_lt (tgt := 538) hx hb dL_law_504 (by decide) (fun c1 => ?_) (fun c1 => absurd c1 (fun z => z (nI_m1 (by omega))))
  exact kk H locs ls hX hS (lv_sub hl [0, 1, 2, 3, 4, 5, 6, 7, 8] rfl)
set_option maxHeartbeats 4000000 in
set_option maxRecDepth 100000 in
theorem sg_H3x {p : Program} {l : Launch} {e : Env} {s : State} {m : MethodId} {below : List Frame} {meth : Method} {c : Code} {Q : State → Prop} {b : Nat} {G : mg} (C0 : TwC p l s m c b G) {H : Heap} {locs : List Loc} {ls : Array Slot} {cells slots : Nat} {cw : Nat} {o1 o2 k a1 t u q : Nat} {bo fb fs : Nat → Int32} {x15 : Int32} (hq : a1 ≤ q) (hq2 : q < 201) (hcs : cells + 0 ≤ 624961 ∧ slots + 0 ≤ 7226742) (hX : LwX G s.heap.size H cw (pq bo) (mu (mu m043 o1 (E43 G 20 fb)) o2 (E43 G 201 fs))) (hS : va_S (aH s.heap.size) s.heap H locs) (hl : lv_has ls 22 [(0, .ref b), (1, .ref cw), (4, .int 1), (5, .ref o1), (6, .ref o2), (8, .int (nI k)), (9, .int (nI a1)), (12, .int (nI t)), (13, .int (nI (1 + u))), (14, .int (cts (nI (1 + u)))), (15, .int x15), (16, .int (nI q))])
    (kk : ∀ (H1 : Heap) (locs1 : List Loc) (ls1 : Array Slot), LwX G s.heap.size H1 cw (pq bo) (mu (mu m043 o1 (E43 G 20 fb)) o2 (E43 G 201 fs)) → va_S (aH s.heap.size) s.heap H1 locs1 → lv_has ls1 22 [(0, .ref b), (1, .ref cw), (4, .int 1), (5, .ref o1), (6, .ref o2), (8, .int (nI k)), (9, .int (nI a1)), (12, .int (nI t)), (13, .int (nI (1 + u))), (15, .int x15)] → W p l e room_1 s m #[Value.ref b] below meth c H1 locs1 cells slots Q (F0 m 665 ls1 [])) : W p l e room_1 s m #[Value.ref b] below meth c H locs cells slots Q (F0 m 619 ls []) := by
  obtain ⟨hx, hb, hml, hown, hts, hG, hb0, hl9⟩ := id C0
  refine lv_iload hx hb dL_law_619 (lv_at hl 11 rfl) ?_
  refine lv_iload hx hb dL_law_621 (lv_at hl 6 rfl) ?_
  refine lv_icmp_ge (tgt := 665) hx hb dL_law_623 (by decide) (fun c1 => ?_) (fun c1 => absurd c1 (fun z => z (nI_le (a := a1) (b := q) hq (by omega))))
  exact kk H locs ls hX hS (lv_sub hl [0, 1, 2, 3, 4, 5, 6, 7, 8, 10] rfl)
set_option maxHeartbeats 4000000 in
set_option maxRecDepth 100000 in
theorem sg_H5x {p : Program} {l : Launch} {e : Env} {s : State} {m : MethodId} {below : List Frame} {meth : Method} {c : Code} {Q : State → Prop} {b : Nat} {G : mg} (C0 : TwC p l s m c b G) {H : Heap} {locs : List Loc} {ls : Array Slot} {cells slots : Nat} {cw : Nat} {o1 o2 : Nat} {bo fb fs : Nat → Int32} (hcs : cells + 0 ≤ 624961 ∧ slots + 0 ≤ 7226742) (hX : LwX G s.heap.size H cw (pq bo) (mu (mu m043 o1 (E43 G 20 fb)) o2 (E43 G 201 fs))) (hS : va_S (aH s.heap.size) s.heap H locs) (hl : lv_has ls 22 [(0, .ref b), (1, .ref cw), (4, .int 1), (5, .ref o1), (6, .ref o2), (8, .int (nI 10))])
    (kk : ∀ (H1 : Heap) (locs1 : List Loc) (ls1 : Array Slot), LwX G s.heap.size H1 cw (pq bo) (mu (mu m043 o1 (E43 G 20 fb)) o2 (E43 G 201 fs)) → va_S (aH s.heap.size) s.heap H1 locs1 → lv_has ls1 22 [(0, .ref b), (1, .ref cw), (4, .int 1)] → W p l e room_1 s m #[Value.ref b] below meth c H1 locs1 cells slots Q (F0 m 883 ls1 [])) : W p l e room_1 s m #[Value.ref b] below meth c H locs cells slots Q (F0 m 441 ls []) := by
  obtain ⟨hx, hb, hml, hown, hts, hG, hb0, hl9⟩ := id C0
  refine lv_iload hx hb dL_law_441 (lv_at hl 5 rfl) ?_
  refine lv_bipush (v := (10)) hx hb dL_law_443 (by decide) ?_
  refine lv_icmp_ge (tgt := 883) hx hb dL_law_445 (by decide) (fun c1 => ?_) (fun c1 => absurd c1 (fun z => z (nI_le (a := 10) (b := 10) (by omega) (by omega))))
  exact kk H locs ls hX hS (lv_sub hl [0, 1, 2] rfl)
