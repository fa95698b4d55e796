/-! THE CLAIM OUT OF ONE WALK OF THE LAW'S BODY. Your part is whole_start (and what it stands on); all else here is the same for every law, but numbers. -/
def R_law : String := "MeniscusLaw"
def lw_P (b : Addr) (xs : List Int32) (args : Array Value) (s : State) : Prop := args = #[.ref b] ∧ s.IntsAt b xs ∧ xs.length ≤ 2560 ∧ (Jvm.Cond.and given_1 narrow_1).before args s = true
/-- what a walk over the start with the record d0 says of its end, said of the start itself -/
theorem lw_closed {s t : State} {o : Outcome} {d0 : Drawn} {L : List Loc} {k n : Nat} (hd0 : s.drawn.sameBut d0 lw_cs) (hv : ∃ v, o = .returned v) (hW : (s.setDrawn d0).WarmedH t.vm) (hs : (s.setDrawn d0).sameButNew ({ t with vm := s.vm } : State) L k n) : State.butDraws s t lw_cs (fun t1 => Framed s o t1 L k n) := by
  have h2 : t.drawn = d0 := congrArg State.drawn hs.1
  refine ⟨⟨hv, hW, State.sameButNew.setDrawn hs s.drawn⟩, ?_, by decide⟩
  rw [h2]
  exact hd0
def lw_Q (_ : Array Value) (s : State) (o : Outcome) (t : State) : Prop := o = .returned (some (.int 1)) ∧ State.butDraws s t lw_cs (fun t1 => Framed s o t1 [] 845199 6560506)
def lw_Z (below : List Frame) (a : Array Value) (s : State) : State → Prop := fun t => ∃ o, t.status = .running ∧ Ended t below o ∧ lw_Q a s o t
/-- the law's own end, with 1 on the stack, nothing written that was there before, its room as the claim has it; d0: the record of draws at this point (at the entry s.drawn: begin with 'refine W.base ?_' and 'have hd0 := Drawn.sameBut.refl s.drawn lw_cs') -/
theorem lw_ret {p : Program} {l : Launch} {e : Env} {s : State} {m : MethodId} {below : List Frame} {meth : Method} {c : Code} {b : Nat} {d0 : Drawn} (hd0 : s.drawn.sameBut d0 lw_cs) (hx : p.tables.exec = Jvm.exec) (hb : c.code = code) (hr : meth.sig.returnType = ret) (hlocks : meth.locks = false) {pc : Nat} {H : Heap} {ls : Array Slot} (hdg : decode code pc = .ok (.ireturn, 1)) : W p l e room_1 (s.setDrawn d0) m #[Value.ref b] below meth c H [] 845199 6560506 (lw_Z below #[Value.ref b] s) (F0 m pc ls [.int 1]) := by
  intro T hT X
  obtain ⟨fs, hret, hrun, hended, hW, hframe⟩ := X.leave (v := some (.int 1)) (hlocks := hlocks) (fun h => by rw [hr] at h; cases h)
  have hmeth' : T.vm.method? m = some meth := X.method'
  refine ⟨T.setFrames fs, ?_, .returned (some (.int 1)), hrun, hended, rfl, lw_closed hd0 ⟨_, rfl⟩ hW hframe⟩
  jvm_step X.here [X.here.top, hx, hb, hdg, hmeth', hr, ret, narrow_b1]
  (try refine ⟨rfl, ?_⟩); (try refine ⟨rfl, ?_⟩)
  first | (intro acts; rw [hret _ acts rfl rfl rfl]) | rw [hret _ _ rfl rfl rfl]
  exact Steps.refl _
/-- what holds at the law's entry: the machine, the code, the tables' words (any of lw_tbl by 'hts w (by decide +kernel)'), the script of L ints xs at the cell b, what the Statement gives of the start (any of its parts by flat_of_before) -/
def lw_At (p : Program) (s : State) (m : MethodId) (meth : Method) (c : Code) (b L : Nat) (xs : Nat → Int32) : Prop :=
  p.tables.exec = Jvm.exec ∧ c.code = code ∧ meth.sig.returnType = ret ∧ c.maxLocals = 9 ∧ s.vm.findClass R_law = some m.cls ∧ (∀ w ∈ lw_tbl, w.before #[Value.ref b] s = true) ∧ va_X b L xs s s.heap ∧ b < s.heap.size ∧ meth.locks = false ∧ (Jvm.Cond.and given_1 narrow_1).before #[Value.ref b] s = true
theorem lw_key {L k : Nat} (hL : L ≤ 2560) (hk : k ≤ 3000) : (Int32.ofNat L - 5 < nI k) ↔ L < k + 5 := by
  show nI L - nI 5 < nI k ↔ _
  rw [Int32.lt_iff_toInt_lt, pk_sub_toInt (by omega) (by omega), nI_toInt (by omega)]
  omega
theorem lw_sw {x : Int32} : ∃ j : Nat, j < 64 ∧ x &&& 63 = nI j := by
  refine ⟨(x &&& 63).toBitVec.toNat, ?_, ?_⟩
  · have e : (x &&& 63).toBitVec.toNat = x.toBitVec.toNat &&& 63 := by
      show (x.toBitVec &&& (63 : Int32).toBitVec).toNat = _
      rw [BitVec.toNat_and]
      rfl
    rw [e]
    exact Nat.lt_of_le_of_lt Nat.and_le_right (by omega)
  · apply Int32.toBitVec_inj.mp
    show _ = BitVec.ofNat 32 _
    exact (BitVec.ofNat_toNat _ _).symm ▸ (BitVec.setWidth_eq _).symm
set_option maxHeartbeats 4000000 in
set_option maxRecDepth 100000 in
/-- the loop's end -/
theorem law_exit {p : Program} {e : Env} {s : State} {m : MethodId} {below : List Frame} {meth : Method} {c : Code} {l : Launch} {b L : Nat} {xs : Nat → Int32} {G : mg} (C0 : TwC p l s m c b L xs G) (hr : meth.sig.returnType = ret) (hlocks : meth.locks = false) {H : Heap} {locs : List Loc} {ls : Array Slot} {cells slots : Nat} (hcs : cells ≤ 845199 ∧ slots ≤ 6560506) (hS : va_S (aH s.heap.size) s.heap H locs) : W p l e room_1 s m #[Value.ref b] below meth c H locs cells slots (lw_Z below #[Value.ref b] s) (F0 m 2681 ls []) := by
  obtain ⟨hx, hb, -⟩ := C0
  refine lv_iconst (v := 1) hx hb dL_law_2681 (by decide) ?_
  refine va_forget (fun q hq => hS.2.2 q hq) ?_
  refine W.widen (k := 845199) (n := 6560506) hcs.1 hcs.2 ?_
  refine W.base ?_
  exact lw_ret (d0 := s.drawn) (Drawn.sameBut.refl s.drawn lw_cs) hx hb hr hlocks dL_law_2682
set_option maxHeartbeats 4000000 in
set_option maxRecDepth 100000 in
/-- one case, by the number in the script -/
theorem law_case {p : Program} {e : Env} {s : State} {m : MethodId} {below : List Frame} {meth : Method} {c : Code} {l : Launch} {b L : Nat} {xs : Nat → Int32} {G : mg} {Q : State → Prop} (C0 : TwC p l s m c b L xs G) {H : Heap} {locs : List Loc} {ls : Array Slot} {cells slots : Nat} (hcs : cells + 1100 ≤ 845199 ∧ slots + 4500 ≤ 6560506) {cw rw o1 o2 : Nat} {st : St} {x5 x : Int32} (hLI : TwI G s.heap.size H cw rw o1 o2 st) (hS : va_S (aH s.heap.size) s.heap H locs) (hl : lv_has ls 9 [(0, .ref b), (1, .ref cw), (2, .ref rw), (3, .ref o1), (4, .ref o2), (5, .int x5)]) (hi1 : vp_in (x5 + 1) L) (hi2 : vp_in (x5 + 2) L) (hi3 : vp_in (x5 + 3) L) (hi4 : vp_in (x5 + 4) L) (hx0 : ∃ j : Nat, j < 64 ∧ x = nI j)
    (kk : ∀ (st1 : St) (H1 : Heap) (locs1 : List Loc) (ls1 : Array Slot), TwI G s.heap.size H1 cw rw o1 o2 st1 → va_S (aH s.heap.size) s.heap H1 locs1 → lv_has ls1 9 [(0, .ref b), (1, .ref cw), (2, .ref rw), (3, .ref o1), (4, .ref o2), (5, .int x5)] → W p l e room_1 s m #[Value.ref b] below meth c H1 locs1 (cells + 1100) (slots + 4500) Q (F0 m 2675 ls1 [])) : W p l e room_1 s m #[Value.ref b] below meth c H locs cells slots Q (F0 m 44 ls [.int x]) := by
  have hx := C0.1
  have hb := C0.2.1
  obtain ⟨j, hj, rfl⟩ := hx0
  match j, hj with
  | 0, _ =>
    refine lv_tableIn (off := 176) (tgt := 220) hx hb dL_law_44 (by decide +kernel) (by decide +kernel) (by decide +kernel) (by decide) ?_
    exact law_draw C0 hcs hLI hS hl hi1 hi2 hi3 hi4 rfl rfl rfl rfl kk
  | 1, _ =>
    refine lv_tableIn (off := 244) (tgt := 288) hx hb dL_law_44 (by decide +kernel) (by decide +kernel) (by decide +kernel) (by decide) ?_
    exact law_section C0 hcs hLI hS hl hi1 hi2 hi3 hi4 rfl rfl rfl rfl kk
  | 2, _ =>
    refine lv_tableIn (off := 324) (tgt := 368) hx hb dL_law_44 (by decide +kernel) (by decide +kernel) (by decide +kernel) (by decide) ?_
    exact law_bore C0 hcs hLI hS hl hi1 hi2 hi3 hi4 rfl rfl rfl rfl kk
  | 3, _ =>
    refine lv_tableIn (off := 392) (tgt := 436) hx hb dL_law_44 (by decide +kernel) (by decide +kernel) (by decide +kernel) (by decide) ?_
    exact law_volume C0 hcs hLI hS hl hi1 hi2 hi3 hi4 rfl rfl rfl rfl kk
  | 4, _ =>
    refine lv_tableIn (off := 460) (tgt := 504) hx hb dL_law_44 (by decide +kernel) (by decide +kernel) (by decide +kernel) (by decide) ?_
    exact law_thread C0 hcs hLI hS hl hi1 hi2 hi3 hi4 rfl rfl rfl rfl kk
  | 5, _ =>
    refine lv_tableIn (off := 540) (tgt := 584) hx hb dL_law_44 (by decide +kernel) (by decide +kernel) (by decide +kernel) (by decide) ?_
    exact law_widest C0 hcs hLI hS hl hi1 hi2 hi3 hi4 rfl rfl rfl rfl kk
  | 6, _ =>
    refine lv_tableIn (off := 596) (tgt := 640) hx hb dL_law_44 (by decide +kernel) (by decide +kernel) (by decide +kernel) (by decide) ?_
    exact law_deliver C0 hcs hLI hS hl hi1 hi2 hi3 hi4 rfl rfl rfl rfl kk
  | 7, _ =>
    refine lv_tableIn (off := 688) (tgt := 732) hx hb dL_law_44 (by decide +kernel) (by decide +kernel) (by decide +kernel) (by decide) ?_
    exact law_make C0 hcs hLI hS hl hi1 hi2 hi3 hi4 rfl rfl rfl rfl kk
  | 8, _ =>
    refine lv_tableIn (off := 770) (tgt := 814) hx hb dL_law_44 (by decide +kernel) (by decide +kernel) (by decide +kernel) (by decide) ?_
    exact law_buy C0 hcs hLI hS hl hi1 hi2 hi3 hi4 rfl rfl rfl rfl kk
  | 9, _ =>
    refine lv_tableIn (off := 826) (tgt := 870) hx hb dL_law_44 (by decide +kernel) (by decide +kernel) (by decide +kernel) (by decide) ?_
    exact law_fill C0 hcs hLI hS hl hi1 hi2 hi3 hi4 rfl rfl rfl rfl kk
  | 10, _ =>
    refine lv_tableIn (off := 908) (tgt := 952) hx hb dL_law_44 (by decide +kernel) (by decide +kernel) (by decide +kernel) (by decide) ?_
    exact law_smash C0 hcs hLI hS hl hi1 hi2 hi3 hi4 rfl rfl rfl rfl kk
  | 11, _ =>
    refine lv_tableIn (off := 964) (tgt := 1008) hx hb dL_law_44 (by decide +kernel) (by decide +kernel) (by decide +kernel) (by decide) ?_
    exact law_inside C0 hcs hLI hS hl hi1 hi2 hi3 hi4 rfl rfl rfl rfl kk
  | 12, _ =>
    refine lv_tableIn (off := 1020) (tgt := 1064) hx hb dL_law_44 (by decide +kernel) (by decide +kernel) (by decide +kernel) (by decide) ?_
    exact law_crept C0 hcs hLI hS hl hi1 hi2 hi3 hi4 rfl rfl rfl rfl kk
  | 13, _ =>
    refine lv_tableIn (off := 1076) (tgt := 1120) hx hb dL_law_44 (by decide +kernel) (by decide +kernel) (by decide +kernel) (by decide) ?_
    exact law_days C0 hcs hLI hS hl hi1 hi2 hi3 hi4 rfl rfl rfl rfl kk
  | 14, _ =>
    refine lv_tableIn (off := 1132) (tgt := 1176) hx hb dL_law_44 (by decide +kernel) (by decide +kernel) (by decide +kernel) (by decide) ?_
    exact law_air C0 hcs hLI hS hl hi1 hi2 hi3 hi4 rfl rfl rfl rfl kk
  | 15, _ =>
    refine lv_tableIn (off := 1188) (tgt := 1232) hx hb dL_law_44 (by decide +kernel) (by decide +kernel) (by decide +kernel) (by decide) ?_
    exact law_level C0 hcs hLI hS hl hi1 hi2 hi3 hi4 rfl rfl rfl rfl kk
  | 16, _ =>
    refine lv_tableIn (off := 1268) (tgt := 1312) hx hb dL_law_44 (by decide +kernel) (by decide +kernel) (by decide +kernel) (by decide) ?_
    exact law_ice C0 hcs hLI hS hl hi1 hi2 hi3 hi4 rfl rfl rfl rfl kk
  | 17, _ =>
    refine lv_tableIn (off := 1324) (tgt := 1368) hx hb dL_law_44 (by decide +kernel) (by decide +kernel) (by decide +kernel) (by decide) ?_
    exact law_steam C0 hcs hLI hS hl hi1 hi2 hi3 hi4 rfl rfl rfl rfl kk
  | 18, _ =>
    refine lv_tableIn (off := 1392) (tgt := 1436) hx hb dL_law_44 (by decide +kernel) (by decide +kernel) (by decide +kernel) (by decide) ?_
    exact law_boiling C0 hcs hLI hS hl hi1 hi2 hi3 hi4 rfl rfl rfl rfl kk
  | 19, _ =>
    refine lv_tableIn (off := 1448) (tgt := 1492) hx hb dL_law_44 (by decide +kernel) (by decide +kernel) (by decide +kernel) (by decide) ?_
    exact law_divide C0 hcs hLI hS hl hi1 hi2 hi3 hi4 rfl rfl rfl rfl kk
  | 20, _ =>
    refine lv_tableIn (off := 1518) (tgt := 1562) hx hb dL_law_44 (by decide +kernel) (by decide +kernel) (by decide +kernel) (by decide) ?_
    exact law_readsAt C0 hcs hLI hS hl hi1 hi2 hi3 hi4 rfl rfl rfl rfl kk
  | 21, _ =>
    refine lv_tableIn (off := 1586) (tgt := 1630) hx hb dL_law_44 (by decide +kernel) (by decide +kernel) (by decide +kernel) (by decide) ?_
    exact law_bath C0 hcs hLI hS hl hi1 hi2 hi3 hi4 rfl rfl rfl rfl kk
  | 22, _ =>
    refine lv_tableIn (off := 1666) (tgt := 1710) hx hb dL_law_44 (by decide +kernel) (by decide +kernel) (by decide +kernel) (by decide) ?_
    exact law_error C0 hcs hLI hS hl hi1 hi2 hi3 hi4 rfl rfl rfl rfl kk
  | 23, _ =>
    refine lv_tableIn (off := 1722) (tgt := 1766) hx hb dL_law_44 (by decide +kernel) (by decide +kernel) (by decide +kernel) (by decide) ?_
    exact law_tests C0 hcs hLI hS hl hi1 hi2 hi3 hi4 rfl rfl rfl rfl kk
  | 24, _ =>
    refine lv_tableIn (off := 1778) (tgt := 1822) hx hb dL_law_44 (by decide +kernel) (by decide +kernel) (by decide +kernel) (by decide) ?_
    exact law_begin C0 hcs hLI hS hl hi1 hi2 hi3 hi4 rfl rfl rfl rfl kk
  | 25, _ =>
    refine lv_tableIn (off := 1834) (tgt := 1878) hx hb dL_law_44 (by decide +kernel) (by decide +kernel) (by decide +kernel) (by decide) ?_
    exact law_worst C0 hcs hLI hS hl hi1 hi2 hi3 hi4 rfl rfl rfl rfl kk
  | 26, _ =>
    refine lv_tableIn (off := 1890) (tgt := 1934) hx hb dL_law_44 (by decide +kernel) (by decide +kernel) (by decide +kernel) (by decide) ?_
    exact law_grade C0 hcs hLI hS hl hi1 hi2 hi3 hi4 rfl rfl rfl rfl kk
  | 27, _ =>
    refine lv_tableIn (off := 1946) (tgt := 1990) hx hb dL_law_44 (by decide +kernel) (by decide +kernel) (by decide +kernel) (by decide) ?_
    exact law_certify C0 hcs hLI hS hl hi1 hi2 hi3 hi4 rfl rfl rfl rfl kk
  | 28, _ =>
    refine lv_tableIn (off := 2002) (tgt := 2046) hx hb dL_law_44 (by decide +kernel) (by decide +kernel) (by decide +kernel) (by decide) ?_
    exact law_isCertified C0 hcs hLI hS hl hi1 hi2 hi3 hi4 rfl rfl rfl rfl kk
  | 29, _ =>
    refine lv_tableIn (off := 2065) (tgt := 2109) hx hb dL_law_44 (by decide +kernel) (by decide +kernel) (by decide +kernel) (by decide) ?_
    exact law_breakThread C0 hcs hLI hS hl hi1 hi2 hi3 hi4 rfl rfl rfl rfl kk
  | 30, _ =>
    refine lv_tableIn (off := 2133) (tgt := 2177) hx hb dL_law_44 (by decide +kernel) (by decide +kernel) (by decide +kernel) (by decide) ?_
    exact law_isBroken C0 hcs hLI hS hl hi1 hi2 hi3 hi4 rfl rfl rfl rfl kk
  | 31, _ =>
    refine lv_tableIn (off := 2196) (tgt := 2240) hx hb dL_law_44 (by decide +kernel) (by decide +kernel) (by decide +kernel) (by decide) ?_
    exact law_keep C0 hcs hLI hS hl hi1 hi2 hi3 hi4 rfl rfl rfl rfl kk
  | 32, _ =>
    refine lv_tableIn (off := 2287) (tgt := 2331) hx hb dL_law_44 (by decide +kernel) (by decide +kernel) (by decide +kernel) (by decide) ?_
    exact law_shake C0 hcs hLI hS hl hi1 hi2 hi3 hi4 rfl rfl rfl rfl kk
  | 33, _ =>
    refine lv_tableIn (off := 2343) (tgt := 2387) hx hb dL_law_44 (by decide +kernel) (by decide +kernel) (by decide +kernel) (by decide) ?_
    exact law_barometer C0 hcs hLI hS hl hi1 hi2 hi3 hi4 rfl rfl rfl rfl kk
  | 34, _ =>
    refine lv_tableIn (off := 2435) (tgt := 2479) hx hb dL_law_44 (by decide +kernel) (by decide +kernel) (by decide +kernel) (by decide) ?_
    exact law_stock C0 hcs hLI hS hl hi1 hi2 hi3 hi4 rfl rfl rfl rfl kk
  | 35, _ =>
    refine lv_tableIn (off := 2448) (tgt := 2492) hx hb dL_law_44 (by decide +kernel) (by decide +kernel) (by decide +kernel) (by decide) ?_
    exact law_spilt C0 hcs hLI hS hl hi1 hi2 hi3 hi4 rfl rfl rfl rfl kk
  | 36, _ =>
    refine lv_tableIn (off := 2461) (tgt := 2505) hx hb dL_law_44 (by decide +kernel) (by decide +kernel) (by decide +kernel) (by decide) ?_
    exact law_checksum C0 hcs hLI hS hl hi1 hi2 hi3 hi4 rfl rfl rfl rfl kk
  | 37, _ =>
    refine lv_tableIn (off := 2475) (tgt := 2519) hx hb dL_law_44 (by decide +kernel) (by decide +kernel) (by decide +kernel) (by decide) ?_
    exact law_certifiedShare C0 hcs hLI hS hl hi1 hi2 hi3 hi4 rfl rfl rfl rfl kk
  | 38, _ =>
    refine lv_tableIn (off := 2541) (tgt := 2585) hx hb dL_law_44 (by decide +kernel) (by decide +kernel) (by decide +kernel) (by decide) ?_
    exact law_meanError C0 hcs hLI hS hl hi1 hi2 hi3 hi4 rfl rfl rfl rfl kk
  | 39, _ =>
    refine lv_tableIn (off := 2618) (tgt := 2662) hx hb dL_law_44 (by decide +kernel) (by decide +kernel) (by decide +kernel) (by decide) ?_
    exact law_isSound C0 hcs hLI hS hl hi1 hi2 hi3 hi4 rfl rfl rfl rfl kk
  | j + 40, hj =>
    refine lv_tableOut (tgt := 2675) hx hb dL_law_44 (Or.inr (by rw [nI_toInt (by omega)]; omega)) (by decide) ?_
    refine W.widen (k := cells + 1100) (n := slots + 4500) (by omega) (by omega) ?_
    exact kk st H locs ls hLI hS hl
set_option maxHeartbeats 4000000 in
set_option maxRecDepth 100000 in
/-- THE LAW'S LOOP: at its head, with k fives read, both hold the same state -/
theorem law_loop {p : Program} {e : Env} {s : State} {m : MethodId} {below : List Frame} {meth : Method} {c : Code} {l : Launch} {b L : Nat} {xs : Nat → Int32} {G : mg} (C0 : TwC p l s m c b L xs G) (hL : L ≤ 2560) (hr : meth.sig.returnType = ret) (hlocks : meth.locks = false) {cw rw o1 o2 : Nat} :
    ∀ (n k : Nat), 513 ≤ k + n → k ≤ 512 → ∀ (st : St) (H : Heap) (locs : List Loc) (ls : Array Slot) (cells slots : Nat), cells = 8 + 1100 * k → slots = 38 + 4500 * k → TwI G s.heap.size H cw rw o1 o2 st → va_S (aH s.heap.size) s.heap H locs → lv_has ls 9 [(0, .ref b), (1, .ref cw), (2, .ref rw), (3, .ref o1), (4, .ref o2), (5, .int (nI (5 * k)))] → W p l e room_1 s m #[Value.ref b] below meth c H locs cells slots (lw_Z below #[Value.ref b] s) (F0 m 28 ls []) := by
  intro n
  induction n with
  | zero => intro k h1 h2; omega
  | succ n ih =>
    intro k h1 h2 st H locs ls cells slots hc hs hLI hS hl
    have C1 := C0
    obtain ⟨hx, hb, hml, hown, hts, hX, hbl, hG, hl9⟩ := C1
    refine lv_iload hx hb dL_law_28 (lv_at hl 5 rfl) ?_
    refine lv_aload_n hx hb dL_law_30 rfl (lv_at hl 0 rfl) ?_
    refine va_slen hx hb hX hbl (Nat.not_le.mpr hbl) hS dL_law_31 ?_
    refine lv_iconst (v := 5) hx hb dL_law_32 (by decide) ?_
    refine lv_isub hx hb dL_law_33 ?_
    refine lv_icmp_gt (tgt := 2681) hx hb dL_law_34 (by decide) (fun q => ?_) (fun q => ?_)
    · exact law_exit C0 hr hlocks ⟨by omega, by omega⟩ hS
    · have hk : 5 * k + 5 ≤ L := Nat.not_lt.mp (fun z => q ((lw_key hL (by omega)).mpr z))
      have hin : ∀ j : Nat, j < 5 → vp_in (nI (5 * k) + nI j) L := fun j hj => by
        rw [nI_add]
        exact vp_in_nI (by omega) (by omega)
      refine lv_aload_n hx hb dL_law_37 rfl (lv_at hl 0 rfl) ?_
      refine lv_iload hx hb dL_law_38 (lv_at hl 5 rfl) ?_
      refine va_sld hx hb hX hbl (Nat.not_le.mpr hbl) hS (vp_in_nI (by omega) (by omega)) dL_law_40 ?_
      refine lv_bipush (v := 63) hx hb dL_law_41 (by decide) ?_
      refine lv_iand hx hb dL_law_43 ?_
      refine law_case C0 (cells := cells) (slots := slots) ⟨by omega, by omega⟩ hLI hS hl (hin 1 (by omega)) (hin 2 (by omega)) (hin 3 (by omega)) (hin 4 (by omega)) lw_sw (fun st H locs ls hLI hS hl => ?_)
      refine lv_iinc (v := nI (5 * (k + 1))) (lv' := [(5, .int (nI (5 * (k + 1)))), (0, .ref b), (1, .ref cw), (2, .ref rw), (3, .ref o1), (4, .ref o2)]) hx hb dL_law_2675 hl (k := 5) rfl ((nI_add (5 * k) 5).trans (congrArg nI (by omega))) (by decide) rfl (fun ls hl => ?_)
      refine lv_goto (tgt := 28) hx hb dL_law_2678 (by decide) ?_
      exact ih (k + 1) (by omega) (by omega) st H locs ls _ _ (by omega) (by omega) hLI hS (lv_sub hl [1, 2, 3, 4, 5, 0] rfl)
set_option maxHeartbeats 4000000 in
set_option maxRecDepth 100000 in
/-- THE LAW, from its entry -/
theorem whole_start {p : Program} {e : Env} {s : State} {m : MethodId} {below : List Frame} {meth : Method} {c : Code} (l : Launch) (hflags : l.flags = flags0) {b L : Nat} {xs : Nat → Int32} (hL : L ≤ 2560) (C0 : lw_At p s m meth c b L xs) : W p l e room_1 s m #[Value.ref b] below meth c s.heap [] 0 0 (lw_Z below #[Value.ref b] s) (entryFrame m ([Value.ref b] : List Value).toArray 9) := by
  obtain ⟨hx, hb, hr, hml, hown, htb, hX, hbl, hlocks, hgv⟩ := C0
  obtain ⟨G, hG⟩ := GK_at htb hgv
  have hl9 : l.stackTraces = false := by
    unfold Launch.stackTraces
    rw [hflags]
    decide +kernel
  have hb : c.code = cL_law := hb
  have hown : s.vm.findClass RL = some m.cls := hown
  have hts : ∀ w ∈ wsL_law, w.before #[Value.ref b] s = true := fun w h => htb w (wsL_law_in w h)
  have C1 : TwC p l s m c b L xs G := ⟨hx, hb, hml, hown, hts, hX, hbl, hG, hl9⟩
  have hA : ∀ q : Nat, s.heap.size ≤ q → aH s.heap.size q := fun _ h => h
  have hK := hG.K
  have hS : va_S (aH s.heap.size) s.heap s.heap [] := va_S.rf
  have hl := lv_entry ([.ref b]) (n := 9) (Nat.le_of_ble_eq_true rfl)
  rw [lg_entry_eq]
  generalize (lg_sl ([.ref b]) ++ List.replicate (9 - (lg_sl ([.ref b])).length) Slot.unset).toArray = ls at hl ⊢
  have hl : lv_has ls 9 [(0, .ref b)] := hl
  have hP0 : ∀ H : Heap, mP G.1 (fun _ => none) H := fun H a e he => by cases he
  have hI0 : mI (aH s.heap.size) (fun _ => none) := fun a e he => by cases he
  refine m_new (ci := 7) (fs := [.null, .null, .int 0, .int 0, .int 0, .int 0, .int 0, .int 0, .int 0]) (C := RX4) (T := TX4) (N := 9) hx hb hts inlX4 tyX4 tyX4_ok hown (hts (.classLink RL 8 RX4) (by decide +kernel)) (hts (.instantiable RX4 9) (by decide +kernel)) (hts (.initialized RX4) (by decide +kernel)) hK (hP0 s.heap) hI0 hS hA rfl (fun j hj => by rcases (show j = 0 ∨ j = 1 ∨ j = 2 ∨ j = 3 ∨ j = 4 ∨ j = 5 ∨ j = 6 ∨ j = 7 ∨ j = 8 by omega) with rfl | rfl | rfl | rfl | rfl | rfl | rfl | rfl | rfl <;> rfl) (Nat.le_of_ble_eq_true rfl) (Nat.le_of_ble_eq_true rfl) dL_law_0 (fun cw H hn hP2 hI2 hS => ?_)
  have hX9 : (mu (fun _ => none) cw (.inr (7, [.null, .null, .int 0, .int 0, .int 0, .int 0, .int 0, .int 0, .int 0]))) cw = some (.inr (7, [.null, .null, .int 0, .int 0, .int 0, .int 0, .int 0, .int 0, .int 0])) := mu_s
  have hP9 : mP G.1 (mu (fun _ => none) cw (.inr (7, [.null, .null, .int 0, .int 0, .int 0, .int 0, .int 0, .int 0, .int 0]))) H := hP2
  have hI9 : mI (aH s.heap.size) (mu (fun _ => none) cw (.inr (7, [.null, .null, .int 0, .int 0, .int 0, .int 0, .int 0, .int 0, .int 0]))) := hI2
  refine lv_dup hx hb dL_law_3 rfl ?_
  have hz : s.heap.size ≤ H.size := hS.1
  refine lm_callv (va_runI (As := []) (rest := [.ref cw]) ⟨hx, hb, hml, hown, hts⟩ (c_X4_init l G (aS H (mu (fun _ => none) cw (.inr (7, [.null, .null, .int 0, .int 0, .int 0, .int 0, .int 0, .int 0, .int 0])))) (mu (fun _ => none) cw (.inr (7, [.null, .null, .int 0, .int 0, .int 0, .int 0, .int 0, .int 0, .int 0]))) hX9) (cwI 0 hts gL_law_X4_init rfl rfl rfl (hts (.initialized RX4) (by decide +kernel)) (hts (.methodLink RL 139 yX4_init) (by decide +kernel)) (hts (.instanceMethod yX4_init) (by decide +kernel)) rfl (by decide +kernel) ⟨Nat.le_of_ble_eq_true rfl, Nat.le_of_ble_eq_true rfl⟩) (sPreS hG hS hP9 hI9 hA) rfl rfl hl.1 rfl (lv_room (Nat.le_of_ble_eq_true rfl)) dL_law_4 ⟨Nat.le_of_ble_eq_true rfl, Nat.le_of_ble_eq_true rfl⟩) hI9 hS hA (fun Mc H1 locs hp9 hP hIc hk hS => ?_)
  have hI : mI (aH s.heap.size) Mc := fun a e he => aS_sub (fun q hq => hA q (Nat.le_trans hz hq)) hI9 a (hIc a e he)
  clear hP2 hI2 hX9 hP9 hI9 hIc hk hz hn
  obtain ⟨ad, ha0, hC⟩ := hp9
  refine lv_astore_n (lv' := [(1, .ref cw), (0, .ref b)]) hx hb dL_law_7 rfl hl (by decide) rfl (fun ls hl => ?_)
  refine m_new (ci := 10) (fs := [.null, .null, .int 0, .int 0, .int 0, .int 0, .int 0]) (C := RX7) (T := TX7) (N := 7) hx hb hts inlX7 tyX7 tyX7_ok hown (hts (.classLink RL 140 RX7) (by decide +kernel)) (hts (.instantiable RX7 7) (by decide +kernel)) (hts (.initialized RX7) (by decide +kernel)) hK hP hI hS hA rfl (fun j hj => by rcases (show j = 0 ∨ j = 1 ∨ j = 2 ∨ j = 3 ∨ j = 4 ∨ j = 5 ∨ j = 6 by omega) with rfl | rfl | rfl | rfl | rfl | rfl | rfl <;> rfl) (Nat.le_of_ble_eq_true rfl) (Nat.le_of_ble_eq_true rfl) dL_law_8 (fun rw H hn hP2 hI2 hS => ?_)
  have hX9 : (mu (fun _ => none) rw (.inr (10, [.null, .null, .int 0, .int 0, .int 0, .int 0, .int 0]))) rw = some (.inr (10, [.null, .null, .int 0, .int 0, .int 0, .int 0, .int 0])) := mu_s
  have hP9 : mP G.1 (mu (fun _ => none) rw (.inr (10, [.null, .null, .int 0, .int 0, .int 0, .int 0, .int 0]))) H := mP_o (hP0 H) (hP2 rw _ mu_s)
  have hI9 : mI (aH s.heap.size) (mu (fun _ => none) rw (.inr (10, [.null, .null, .int 0, .int 0, .int 0, .int 0, .int 0]))) := mI.mu hI0 (hI2 rw _ mu_s)
  have hPc : mP G.1 Mc H := mP_dn hn hP2
  refine lv_dup hx hb dL_law_11 rfl ?_
  have hz : s.heap.size ≤ H.size := hS.1
  refine lm_callv (va_runI (As := []) (rest := [.ref rw]) ⟨hx, hb, hml, hown, hts⟩ (c_X7_init l G (aS H (mu (fun _ => none) rw (.inr (10, [.null, .null, .int 0, .int 0, .int 0, .int 0, .int 0])))) (mu (fun _ => none) rw (.inr (10, [.null, .null, .int 0, .int 0, .int 0, .int 0, .int 0]))) hX9) (cwI 0 hts gL_law_X7_init rfl rfl rfl (hts (.initialized RX7) (by decide +kernel)) (hts (.methodLink RL 142 yX7_init) (by decide +kernel)) (hts (.instanceMethod yX7_init) (by decide +kernel)) rfl (by decide +kernel) ⟨Nat.le_of_ble_eq_true rfl, Nat.le_of_ble_eq_true rfl⟩) (sPreS hG hS hP9 hI9 hA) rfl rfl hl.1 rfl (lv_room (Nat.le_of_ble_eq_true rfl)) dL_law_12 ⟨Nat.le_of_ble_eq_true rfl, Nat.le_of_ble_eq_true rfl⟩) hI9 hS hA (fun Mr H1 locs hp9 hPr hIr hk hS => ?_)
  have hIr1 : mI (aH s.heap.size) Mr := fun a e he => aS_sub (fun q hq => hA q (Nat.le_trans hz hq)) hI9 a (hIr a e he)
  have hPc1 : mP G.1 Mc H1 := fun a e he => (hPc a e he).kept (hk a (hPc.lt he) (fun z => z.elim (fun z => by have := hPc.lt he; omega) (fun z => z (mu_n (fun q => by rw [q, hn] at he; cases he)))))
  have hdj : ∀ q, Mc q ≠ none → Mr q = none := fun q hq => by
    cases e1 : Mc q with
    | none => exact absurd e1 hq
    | some x =>
      cases e2 : Mr q with
      | none => rfl
      | some y =>
        rcases hIr q y e2 with z | z
        · have := hPc.lt e1
          omega
        · exact absurd (mu_n (fun w => by rw [w, hn] at e1; cases e1)) z
  clear hP2 hI2 hX9 hP9 hI9 hIr hk hz hn hPc
  obtain ⟨g, hg0, hR, -⟩ := hp9
  refine lv_astore_n (lv' := [(2, .ref rw), (1, .ref cw), (0, .ref b)]) hx hb dL_law_15 rfl hl (by decide) rfl (fun ls hl => ?_)
  refine lv_iconst (v := 1) hx hb dL_law_16 (by decide) ?_
  refine m_newa (atype := .long) (a0 := (1, .inr (.inl (fun _ => 0)))) hx hb (hts (.arrayClass .long) (by decide +kernel)) rfl hK (mP.twU hPc1 hPr) (mI.twU hI hIr1) hS hA (hK.2 1 _ rfl).2 (fun _ => rfl) (by decide) (by decide) (by decide) (Nat.le_of_ble_eq_true rfl) (Nat.le_of_ble_eq_true rfl) dL_law_17 (fun o1 H2 hn1 hP2 hI2 hS => ?_)
  refine lv_astore_n (lv' := [(3, .ref o1), (2, .ref rw), (1, .ref cw), (0, .ref b)]) hx hb dL_law_19 rfl hl (by decide) rfl (fun ls hl => ?_)
  refine lv_iconst (v := 1) hx hb dL_law_20 (by decide) ?_
  refine m_newa (atype := .double) (a0 := (1, .inr (.inr (.inr (.inl (fun _ => 0)))))) hx hb (hts (.arrayClass .double) (by decide +kernel)) rfl hK hP2 hI2 hS hA (hK.2 2 _ rfl).2 (fun _ => rfl) (by decide) (by decide) (by decide) (Nat.le_of_ble_eq_true rfl) (Nat.le_of_ble_eq_true rfl) dL_law_21 (fun o2 H3 hn2 hP3 hI3 hS => ?_)
  refine lv_astore (lv' := [(4, .ref o2), (3, .ref o1), (2, .ref rw), (1, .ref cw), (0, .ref b)]) hx hb dL_law_23 hl (by decide) rfl (fun ls hl => ?_)
  refine lv_iconst (v := 0) hx hb dL_law_25 (by decide) ?_
  refine lv_istore (lv' := [(5, .int 0), (4, .ref o2), (3, .ref o1), (2, .ref rw), (1, .ref cw), (0, .ref b)]) hx hb dL_law_26 hl (by decide) rfl (fun ls hl => ?_)
  have hne : o1 ≠ o2 := fun z => by rw [← z, mu_s] at hn2; cases hn2
  have hu2 : twU Mc Mr o2 = none := by rw [← mu_n (M := twU Mc Mr) (e := (.inl (G.2.1 1, 1, .inr (.inl (fun _ => 0))))) (Ne.symm hne)]; exact hn2
  have hPu : mP G.1 (twU Mc Mr) H3 := mP_dn hn1 (mP_dn hn2 hP3)
  have hLS : TwS G.1 s.heap.size H3 Mc Mr o1 o2 (.inl (G.2.1 1, 1, .inr (.inl (fun _ => 0)))) (.inl (G.2.1 2, 1, .inr (.inr (.inr (.inl (fun _ => 0)))))) := ⟨fun a e he => hPu a e (twU_l he), fun a e he => hPu a e ((twU_r (by
      cases q : Mc a with
      | none => rfl
      | some x => rw [hdj a (by rw [q]; exact fun z => by cases z)] at he; cases he)).trans he), hP3 o1 _ (mu_q hn2 mu_s), hP3 o2 _ mu_s, ⟨hI, hIr1, hI3 o1 _ (mu_q hn2 mu_s), hI3 o2 _ mu_s⟩, hdj, (twU_n hn1).1, (twU_n hn1).2, (twU_n hu2).1, (twU_n hu2).2, hne⟩
  exact law_loop C1 hL hr hlocks 513 0 (by omega) (by omega) stZ H3 _ ls _ _ rfl rfl ⟨ad, g, Mc, Mr, _, _, hC, hR, stZ_inv, ha0, hg0, hLS⟩ hS (lv_sub hl [5, 4, 3, 2, 1, 0] rfl)
