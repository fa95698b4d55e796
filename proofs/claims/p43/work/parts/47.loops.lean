set_option maxHeartbeats 4000000 in
theorem lp_B {p : Program} {l : Launch} {e : Env} {s : State} {m : MethodId} {below : List Frame} {meth : Method} {c : Code} {Q : State → Prop} {b : Nat} {G : mg} (C0 : TwC p l s m c b G) {cw : Nat} {x2 x3 : Int32} {o1 : Nat} {CF SF : Nat} (hCF : CF ≤ 624961 ∧ SF ≤ 7226742)
    (kk : ∀ (fb : Nat → Int32) (_ : ∀ j, j < 20 → fb j = dboU x2 x3 20 j) (H1 : Heap) (locs1 : List Loc) (ls1 : Array Slot), LwX G s.heap.size H1 cw (pq (dboU x2 x3 20)) (mu m043 o1 (E43 G 20 fb)) → va_S (aH s.heap.size) s.heap H1 locs1 → lv_has ls1 22 [(0, .ref b), (1, .ref cw), (4, .int 1), (5, .ref o1), (6, .int 0)] → W p l e room_1 s m #[Value.ref b] below meth c H1 locs1 CF SF Q (F0 m 176 ls1 [])) : ∀ (n k : Nat), k + n = 20 → ∀ (fb : Nat → Int32) (_ : ∀ j, j < k → fb j = dbo x2 x3 j) (cells slots : Nat), cells + 100 * n ≤ CF ∧ slots + 1000 * n ≤ SF → ∀ (H : Heap) (locs : List Loc) (ls : Array Slot), LwX G s.heap.size H cw (pq (dboU x2 x3 20)) (mu m043 o1 (E43 G 20 fb)) → va_S (aH s.heap.size) s.heap H locs → lv_has ls 22 [(0, .ref b), (1, .ref cw), (2, .int x2), (3, .int x3), (4, .int 1), (5, .ref o1), (6, .int (nI k))] → W p l e room_1 s m #[Value.ref b] below meth c H locs cells slots Q (F0 m 98 ls []) := by
  intro n
  induction n with
  | zero =>
    intro k hk fb hfb cells slots hcs H locs ls hX hS hl
    obtain rfl : k = 20 := by omega
    exact sg_Bx C0  ⟨by omega, by omega⟩ hX hS hl (fun H1 locs1 ls1 hX1 hS1 hl1 => W.widen (k := CF) (n := SF) (by omega) (by omega) (kk fb (fun j hj => (hfb j hj).trans (if_pos hj).symm) H1 locs1 ls1 hX1 hS1 hl1))
  | succ n ih =>
    intro k hk fb hfb cells slots hcs H locs ls hX hS hl
    exact sg_B C0 (show k < 20 by omega) hfb ⟨by omega, by omega⟩ hX hS hl (fun fb1 hfb1 H1 locs1 ls1 hX1 hS1 hl1 => ih (k + 1) (by omega) fb1 hfb1 _ _ ⟨by omega, by omega⟩ H1 locs1 ls1 hX1 hS1 hl1)
set_option maxHeartbeats 4000000 in
theorem lp_C {p : Program} {l : Launch} {e : Env} {s : State} {m : MethodId} {below : List Frame} {meth : Method} {c : Code} {Q : State → Prop} {b : Nat} {G : mg} (C0 : TwC p l s m c b G) {cw : Nat} {o1 : Nat} {CF SF : Nat} (hCF : CF ≤ 624961 ∧ SF ≤ 7226742)
    (kk : ∀ (bo fb : Nat → Int32) (_ : ∀ j, j < 20 → fb j = bo j) (H1 : Heap) (locs1 : List Loc) (ls1 : Array Slot), LwX G s.heap.size H1 cw (pq bo) (mu m043 o1 (E43 G 20 fb)) → va_S (aH s.heap.size) s.heap H1 locs1 → lv_has ls1 22 [(0, .ref b), (1, .ref cw), (4, .int 1), (5, .ref o1)] → W p l e room_1 s m #[Value.ref b] below meth c H1 locs1 CF SF Q (F0 m 251 ls1 [])) : ∀ (n k : Nat), k + n = 8 → ∀ (bo fb : Nat → Int32) (_ : ∀ j, j < 20 → fb j = bo j) (cells slots : Nat), cells + 100 * n ≤ CF ∧ slots + 1000 * n ≤ SF → ∀ (H : Heap) (locs : List Loc) (ls : Array Slot), LwX G s.heap.size H cw (pq bo) (mu m043 o1 (E43 G 20 fb)) → va_S (aH s.heap.size) s.heap H locs → lv_has ls 22 [(0, .ref b), (1, .ref cw), (4, .int 1), (5, .ref o1), (6, .int (nI k))] → W p l e room_1 s m #[Value.ref b] below meth c H locs cells slots Q (F0 m 176 ls []) := by
  intro n
  induction n with
  | zero =>
    intro k hk bo fb hfb cells slots hcs H locs ls hX hS hl
    obtain rfl : k = 8 := by omega
    exact sg_Cx C0  ⟨by omega, by omega⟩ hX hS hl (fun H1 locs1 ls1 hX1 hS1 hl1 => W.widen (k := CF) (n := SF) (by omega) (by omega) (kk bo fb hfb H1 locs1 ls1 hX1 hS1 hl1))
  | succ n ih =>
    intro k hk bo fb hfb cells slots hcs H locs ls hX hS hl
    exact sg_C C0 (show k < 8 by omega) hfb ⟨by omega, by omega⟩ hX hS hl (fun bo1 fb1 hfb1 H1 locs1 ls1 hX1 hS1 hl1 => ih (k + 1) (by omega) bo1 fb1 hfb1 _ _ ⟨by omega, by omega⟩ H1 locs1 ls1 hX1 hS1 hl1)
set_option maxHeartbeats 4000000 in
theorem lp_E {p : Program} {l : Launch} {e : Env} {s : State} {m : MethodId} {below : List Frame} {meth : Method} {c : Code} {Q : State → Prop} {b : Nat} {G : mg} (C0 : TwC p l s m c b G) {cw : Nat} {o1 o2 : Nat} {bo fb : Nat → Int32} (hne : o1 ≠ o2) (hfb : ∀ j, j < 20 → fb j = bo j) {CF SF : Nat} (hCF : CF ≤ 624961 ∧ SF ≤ 7226742)
    (kk : ∀ (fs : Nat → Int32) (_ : ∀ j, j ≤ 200 → fs j = msum bo j) (H1 : Heap) (locs1 : List Loc) (ls1 : Array Slot), LwX G s.heap.size H1 cw (pq bo) (mu (mu m043 o1 (E43 G 20 fb)) o2 (E43 G 201 fs)) → va_S (aH s.heap.size) s.heap H1 locs1 → lv_has ls1 22 [(0, .ref b), (1, .ref cw), (4, .int 1), (5, .ref o1), (6, .ref o2), (7, .int (wid bo ((200 + 9) / 10)))] → W p l e room_1 s m #[Value.ref b] below meth c H1 locs1 CF SF Q (F0 m 327 ls1 [])) : ∀ (n k : Nat), k + n = 200 → ∀ (fs : Nat → Int32) (_ : ∀ j, j ≤ k → fs j = msum bo j) (cells slots : Nat), cells + 0 * n ≤ CF ∧ slots + 0 * n ≤ SF → ∀ (H : Heap) (locs : List Loc) (ls : Array Slot), LwX G s.heap.size H cw (pq bo) (mu (mu m043 o1 (E43 G 20 fb)) o2 (E43 G 201 fs)) → va_S (aH s.heap.size) s.heap H locs → lv_has ls 22 [(0, .ref b), (1, .ref cw), (4, .int 1), (5, .ref o1), (6, .ref o2), (7, .int (wid bo ((k + 9) / 10))), (8, .int (nI k))] → W p l e room_1 s m #[Value.ref b] below meth c H locs cells slots Q (F0 m 264 ls []) := by
  intro n
  induction n with
  | zero =>
    intro k hk fs hfs cells slots hcs H locs ls hX hS hl
    obtain rfl : k = 200 := by omega
    exact sg_Ex C0  ⟨by omega, by omega⟩ hX hS hl (fun H1 locs1 ls1 hX1 hS1 hl1 => W.widen (k := CF) (n := SF) (by omega) (by omega) (kk fs hfs H1 locs1 ls1 hX1 hS1 hl1))
  | succ n ih =>
    intro k hk fs hfs cells slots hcs H locs ls hX hS hl
    exact sg_E C0 hne (show k < 200 by omega) hfb hfs ⟨by omega, by omega⟩ hX hS hl (fun fs1 hfs1 H1 locs1 ls1 hX1 hS1 hl1 => ih (k + 1) (by omega) fs1 hfs1 _ _ ⟨by omega, by omega⟩ H1 locs1 ls1 hX1 hS1 hl1)
set_option maxHeartbeats 4000000 in
theorem lp_G {p : Program} {l : Launch} {e : Env} {s : State} {m : MethodId} {below : List Frame} {meth : Method} {c : Code} {Q : State → Prop} {b : Nat} {G : mg} (C0 : TwC p l s m c b G) {cw : Nat} {o1 o2 : Nat} {bo fb fs : Nat → Int32} (hfs : ∀ j, j ≤ 200 → fs j = msum bo j) {CF SF : Nat} (hCF : CF ≤ 624961 ∧ SF ≤ 7226742)
    (kk : ∀ (H1 : Heap) (locs1 : List Loc) (ls1 : Array Slot), LwX G s.heap.size H1 cw (pq bo) (mu (mu m043 o1 (E43 G 20 fb)) o2 (E43 G 201 fs)) → va_S (aH s.heap.size) s.heap H1 locs1 → lv_has ls1 22 [(0, .ref b), (1, .ref cw), (4, .int 1), (5, .ref o1), (6, .ref o2), (8, .int 0)] → W p l e room_1 s m #[Value.ref b] below meth c H1 locs1 CF SF Q (F0 m 441 ls1 [])) : ∀ (n k : Nat), k + n = 201 → ∀  (cells slots : Nat), cells + 100 * n ≤ CF ∧ slots + 1000 * n ≤ SF → ∀ (H : Heap) (locs : List Loc) (ls : Array Slot), LwX G s.heap.size H cw (pq bo) (mu (mu m043 o1 (E43 G 20 fb)) o2 (E43 G 201 fs)) → va_S (aH s.heap.size) s.heap H locs → lv_has ls 22 [(0, .ref b), (1, .ref cw), (4, .int 1), (5, .ref o1), (6, .ref o2), (8, .int (nI k))] → W p l e room_1 s m #[Value.ref b] below meth c H locs cells slots Q (F0 m 399 ls []) := by
  intro n
  induction n with
  | zero =>
    intro k hk  cells slots hcs H locs ls hX hS hl
    obtain rfl : k = 201 := by omega
    exact sg_Gx C0  ⟨by omega, by omega⟩ hX hS hl (fun H1 locs1 ls1 hX1 hS1 hl1 => W.widen (k := CF) (n := SF) (by omega) (by omega) (kk  H1 locs1 ls1 hX1 hS1 hl1))
  | succ n ih =>
    intro k hk  cells slots hcs H locs ls hX hS hl
    exact sg_G C0 (show k ≤ 200 by omega) hfs ⟨by omega, by omega⟩ hX hS hl (fun  H1 locs1 ls1 hX1 hS1 hl1 => ih (k + 1) (by omega)  _ _ ⟨by omega, by omega⟩ H1 locs1 ls1 hX1 hS1 hl1)
set_option maxHeartbeats 4000000 in
theorem lp_H1 {p : Program} {l : Launch} {e : Env} {s : State} {m : MethodId} {below : List Frame} {meth : Method} {c : Code} {Q : State → Prop} {b : Nat} {G : mg} (C0 : TwC p l s m c b G) {cw : Nat} {o1 o2 k a1 a2 : Nat} {bo fb fs : Nat → Int32} (h1 : a1 < 201) (hfs : ∀ j, j ≤ 200 → fs j = msum bo j) {CF SF : Nat} (hCF : CF ≤ 624961 ∧ SF ≤ 7226742)
    (kk : ∀ (z : Int32) (_ : TE bo (msum bo a1 + nI (1 + a2)) a1 z) (H1 : Heap) (locs1 : List Loc) (ls1 : Array Slot), LwX G s.heap.size H1 cw (pq bo) (mu (mu m043 o1 (E43 G 20 fb)) o2 (E43 G 201 fs)) → va_S (aH s.heap.size) s.heap H1 locs1 → lv_has ls1 22 [(0, .ref b), (1, .ref cw), (4, .int 1), (5, .ref o1), (6, .ref o2), (8, .int (nI k)), (9, .int (nI a1)), (10, .int (nI (1 + a2))), (11, .int z)] → W p l e room_1 s m #[Value.ref b] below meth c H1 locs1 CF SF Q (F0 m 538 ls1 [])) : ∀ (n j : Nat), j = a1 + n → j ≤ 201 → ∀ (z : Int32), TE bo (msum bo a1 + nI (1 + a2)) j z → ∀ (H : Heap) (locs : List Loc) (ls : Array Slot), LwX G s.heap.size H cw (pq bo) (mu (mu m043 o1 (E43 G 20 fb)) o2 (E43 G 201 fs)) → va_S (aH s.heap.size) s.heap H locs → lv_has ls 22 [(0, .ref b), (1, .ref cw), (4, .int 1), (5, .ref o1), (6, .ref o2), (8, .int (nI k)), (9, .int (nI a1)), (10, .int (nI (1 + a2))), (11, .int z), (12, .int (nI j + (-1)))] → W p l e room_1 s m #[Value.ref b] below meth c H locs CF SF Q (F0 m 500 ls []) := by
  intro n
  induction n with
  | zero =>
    intro j hj hj2 z hz H locs ls hX hS hl
    obtain rfl : j = a1 := by omega
    exact sg_H1x C0 h1 ⟨by omega, by omega⟩ hX hS hl (kk z hz)
  | succ n ih =>
    intro j hj hj2 z hz H locs ls hX hS hl
    obtain rfl : j = a1 + n + 1 := by omega
    rw [nI_pm (by omega)] at hl
    refine sg_H1 C0 (show a1 ≤ a1 + n by omega) (by omega) hfs hz ⟨by omega, by omega⟩ hX hS hl (fun z1 hz1 H1 locs1 ls1 hX1 hS1 hl1 => ?_)
    exact ih (a1 + n) rfl (by omega) z1 hz1 H1 locs1 ls1 hX1 hS1 hl1
set_option maxHeartbeats 4000000 in
theorem lp_H3 {p : Program} {l : Launch} {e : Env} {s : State} {m : MethodId} {below : List Frame} {meth : Method} {c : Code} {Q : State → Prop} {b : Nat} {G : mg} (C0 : TwC p l s m c b G) {cw : Nat} {o1 o2 k a1 t u : Nat} {bo fb fs : Nat → Int32} (hne : o1 ≠ o2) (h1 : a1 < 201) (ht : t < 201) (hu : u < 90) (hfb : ∀ j, j < 20 → fb j = bo j) {CF SF : Nat} (hCF : CF ≤ 624961 ∧ SF ≤ 7226742)
    (kk : ∀ (x15 : Int32) (_ : t < a1 → x15 = dsum bo (cts (nI (1 + u))) t (a1 - t)) (H1 : Heap) (locs1 : List Loc) (ls1 : Array Slot), LwX G s.heap.size H1 cw (pq bo) (mu (mu m043 o1 (E43 G 20 fb)) o2 (E43 G 201 fs)) → va_S (aH s.heap.size) s.heap H1 locs1 → lv_has ls1 22 [(0, .ref b), (1, .ref cw), (4, .int 1), (5, .ref o1), (6, .ref o2), (8, .int (nI k)), (9, .int (nI a1)), (12, .int (nI t)), (13, .int (nI (1 + u))), (15, .int x15)] → W p l e room_1 s m #[Value.ref b] below meth c H1 locs1 CF SF Q (F0 m 665 ls1 [])) : ∀ (r q : Nat), q + r = (if t ≤ a1 then a1 else t) → t ≤ q → ∀ (H : Heap) (locs : List Loc) (ls : Array Slot), LwX G s.heap.size H cw (pq bo) (mu (mu m043 o1 (E43 G 20 fb)) o2 (E43 G 201 fs)) → va_S (aH s.heap.size) s.heap H locs → lv_has ls 22 [(0, .ref b), (1, .ref cw), (4, .int 1), (5, .ref o1), (6, .ref o2), (8, .int (nI k)), (9, .int (nI a1)), (12, .int (nI t)), (13, .int (nI (1 + u))), (14, .int (cts (nI (1 + u)))), (15, .int (dsum bo (cts (nI (1 + u))) t (q - t))), (16, .int (nI q))] → W p l e room_1 s m #[Value.ref b] below meth c H locs CF SF Q (F0 m 619 ls []) := by
  intro r
  induction r with
  | zero =>
    intro q hq htq H locs ls hX hS hl
    have hqa : a1 ≤ q := by
      by_cases z : t ≤ a1
      · rw [if_pos z] at hq; omega
      · omega
    have hq2 : q < 201 := by
      by_cases z : t ≤ a1
      · rw [if_pos z] at hq; omega
      · rw [if_neg z] at hq; omega
    refine sg_H3x C0 hqa hq2 ⟨by omega, by omega⟩ hX hS hl (kk _ (fun z => ?_))
    rw [if_pos (by omega)] at hq
    rw [show q = a1 by omega]
  | succ r ih =>
    intro q hq htq H locs ls hX hS hl
    have hqa : q < a1 := by
      by_cases z : t ≤ a1
      · rw [if_pos z] at hq; omega
      · rw [if_neg z] at hq; omega
    refine sg_H3 C0 hne htq hqa h1 hu hfb ⟨by omega, by omega⟩ hX hS hl (fun H1 locs1 ls1 hX1 hS1 hl1 => ?_)
    exact ih (q + 1) (by omega) (by omega) H1 locs1 ls1 hX1 hS1 hl1
set_option maxHeartbeats 4000000 in
theorem bd_H {p : Program} {l : Launch} {e : Env} {s : State} {m : MethodId} {below : List Frame} {meth : Method} {c : Code} {Q : State → Prop} {b : Nat} {G : mg} (C0 : TwC p l s m c b G) {H : Heap} {locs : List Loc} {ls : Array Slot} {cells slots : Nat} {cw : Nat} {o1 o2 k : Nat} {bo fb fs : Nat → Int32} (hne : o1 ≠ o2) (hk : k < 10) (hfb : ∀ j, j < 20 → fb j = bo j) (hfs : ∀ j, j ≤ 200 → fs j = msum bo j) (hcs : cells + 400 ≤ 624961 ∧ slots + 4000 ≤ 7226742) (hX : LwX G s.heap.size H cw (pq bo) (mu (mu m043 o1 (E43 G 20 fb)) o2 (E43 G 201 fs))) (hS : va_S (aH s.heap.size) s.heap H locs) (hl : lv_has ls 22 [(0, .ref b), (1, .ref cw), (4, .int 1), (5, .ref o1), (6, .ref o2), (8, .int (nI k))])
    (kk : ∀ (H1 : Heap) (locs1 : List Loc) (ls1 : Array Slot), LwX G s.heap.size H1 cw (pq bo) (mu (mu m043 o1 (E43 G 20 fb)) o2 (E43 G 201 fs)) → va_S (aH s.heap.size) s.heap H1 locs1 → lv_has ls1 22 [(0, .ref b), (1, .ref cw), (4, .int 1), (5, .ref o1), (6, .ref o2), (8, .int (nI (k + 1)))] → W p l e room_1 s m #[Value.ref b] below meth c H1 locs1 (cells + 400) (slots + 4000) Q (F0 m 441 ls1 [])) : W p l e room_1 s m #[Value.ref b] below meth c H locs cells slots Q (F0 m 441 ls []) := by
  refine sg_H0 C0 hk ⟨by omega, by omega⟩ hX hS hl (fun a1 a2 h1 h2 H locs ls hX hS hl => ?_)
  rw [show (200 : Int32) = nI 201 + (-1) from by decide] at hl
  refine lp_H1 C0 h1 hfs ⟨by omega, by omega⟩ (fun z hz H locs ls hX hS hl => ?_) (201 - a1) 201 (by omega) (by omega) (-900003) (TE_0 _ _) H locs ls hX hS hl
  refine sg_H2 C0 hk h1 h2 hz ⟨by omega, by omega⟩ hX hS hl (fun t u ht hu H locs ls hX hS hl => ?_)
  refine lp_H3 C0 hne h1 ht hu hfb ⟨by omega, by omega⟩ (fun x15 hx15 H locs ls hX hS hl => ?_) ((if t ≤ a1 then a1 else t) - t) t (by split <;> omega) (Nat.le_refl t) H locs ls hX hS (by rw [show dsum bo (cts (nI (1 + u))) t (t - t) = 0 from by rw [Nat.sub_self]; rfl]; exact hl)
  by_cases hta : t < a1
  · refine sg_H4p C0 h1 ht hu hta (hx15 hta) ⟨by omega, by omega⟩ hX hS hl (fun H locs ls hX hS hl => ?_)
    refine sg_H5 C0 hk ⟨by omega, by omega⟩ hX hS hl (fun H locs ls hX hS hl => ?_)
    exact W.widen (k := cells + 400) (n := slots + 4000) (by omega) (by omega) (kk H locs ls hX hS hl)
  · refine sg_H4n C0 h1 ht hu hta ⟨by omega, by omega⟩ hX hS hl (fun H locs ls hX hS hl => ?_)
    refine sg_H5 C0 hk ⟨by omega, by omega⟩ hX hS hl (fun H locs ls hX hS hl => ?_)
    exact W.widen (k := cells + 400) (n := slots + 4000) (by omega) (by omega) (kk H locs ls hX hS hl)
set_option maxHeartbeats 4000000 in
theorem lp_H {p : Program} {l : Launch} {e : Env} {s : State} {m : MethodId} {below : List Frame} {meth : Method} {c : Code} {Q : State → Prop} {b : Nat} {G : mg} (C0 : TwC p l s m c b G) {cw : Nat} {o1 o2 : Nat} {bo fb fs : Nat → Int32} (hne : o1 ≠ o2) (hfb : ∀ j, j < 20 → fb j = bo j) (hfs : ∀ j, j ≤ 200 → fs j = msum bo j) {CF SF : Nat} (hCF : CF ≤ 624961 ∧ SF ≤ 7226742)
    (kk : ∀ (H1 : Heap) (locs1 : List Loc) (ls1 : Array Slot), LwX G s.heap.size H1 cw (pq bo) (mu (mu m043 o1 (E43 G 20 fb)) o2 (E43 G 201 fs)) → va_S (aH s.heap.size) s.heap H1 locs1 → lv_has ls1 22 [(0, .ref b), (1, .ref cw), (4, .int 1)] → W p l e room_1 s m #[Value.ref b] below meth c H1 locs1 CF SF Q (F0 m 883 ls1 [])) : ∀ (n k : Nat), k + n = 10 → ∀  (cells slots : Nat), cells + 400 * n ≤ CF ∧ slots + 4000 * n ≤ SF → ∀ (H : Heap) (locs : List Loc) (ls : Array Slot), LwX G s.heap.size H cw (pq bo) (mu (mu m043 o1 (E43 G 20 fb)) o2 (E43 G 201 fs)) → va_S (aH s.heap.size) s.heap H locs → lv_has ls 22 [(0, .ref b), (1, .ref cw), (4, .int 1), (5, .ref o1), (6, .ref o2), (8, .int (nI k))] → W p l e room_1 s m #[Value.ref b] below meth c H locs cells slots Q (F0 m 441 ls []) := by
  intro n
  induction n with
  | zero =>
    intro k hk  cells slots hcs H locs ls hX hS hl
    obtain rfl : k = 10 := by omega
    exact sg_H5x C0  ⟨by omega, by omega⟩ hX hS hl (fun H1 locs1 ls1 hX1 hS1 hl1 => W.widen (k := CF) (n := SF) (by omega) (by omega) (kk  H1 locs1 ls1 hX1 hS1 hl1))
  | succ n ih =>
    intro k hk  cells slots hcs H locs ls hX hS hl
    exact bd_H C0 hne (show k < 10 by omega) hfb hfs ⟨by omega, by omega⟩ hX hS hl (fun  H1 locs1 ls1 hX1 hS1 hl1 => ih (k + 1) (by omega)  _ _ ⟨by omega, by omega⟩ H1 locs1 ls1 hX1 hS1 hl1)
