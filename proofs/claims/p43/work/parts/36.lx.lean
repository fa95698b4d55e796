/-- the machine and the law's words -/
def TwC (p : Program) (l : Launch) (s : State) (m : MethodId) (c : Code) (b : Nat) (G : mg) : Prop :=
  p.tables.exec = Jvm.exec ∧ c.code = cL_law ∧ c.maxLocals = 22 ∧ s.vm.findClass RL = some m.cls ∧ (∀ w ∈ wsL_law, w.before #[Value.ref b] s = true) ∧ GK G (aH s.heap.size) s ∧ G.2.2.2 0 = b ∧ l.stackTraces = false
/-- the law's world: the class's cells, which hold a state, and cells of the law's own beside them -/
def LwX (G : mg) (n0 : Nat) (H : Heap) (cw : Nat) (F : St → Prop) (X : mw) : Prop :=
  ∃ (st : St) (ad : adr) (Mc : mw), F st ∧ Inv st ∧ CS G st ad Mc ∧ ad 0 0 = cw ∧ (∀ q, X q ≠ none → Mc q = none) ∧ mP G.1 (twU X Mc) H ∧ mI (aH n0) (twU X Mc)
theorem LwX.st {G : mg} {n0 : Nat} {H : Heap} {cw : Nat} {F : St → Prop} {X : mw} (h : LwX G n0 H cw F X) : ∃ st, F st ∧ Inv st := by
  obtain ⟨st, ad, Mc, hF, hV, -⟩ := h
  exact ⟨st, hF, hV⟩
theorem tw_r {X M : mw} (hd : ∀ q, X q ≠ none → M q = none) {a : Nat} {e : va_E} (h : M a = some e) : twU X M a = some e := by
  rw [twU_r]
  · exact h
  · cases q : X a with
    | none => rfl
    | some x =>
      have := hd a (by rw [q]; exact fun z => by cases z)
      rw [h] at this
      cases this
theorem tw_mu {X M : mw} {a : Nat} {e : va_E} : mu (twU X M) a e = twU (mu X a e) M := by
  funext q
  by_cases h : q = a
  · subst h
    rw [mu_s, twU_l mu_s]
  · rw [mu_n h]
    cases z : X q with
    | none => rw [twU_r z, twU_r (by rw [mu_n h]; exact z)]
    | some x => rw [twU_l z, twU_l (by rw [mu_n h]; exact z)]
theorem tw_mv {D : va_G} {n0 : Nat} {H H1 : Heap} {X M M1 : mw} (hz : n0 ≤ H.size) (hd : ∀ q, X q ≠ none → M q = none) (hP : mP D (twU X M) H) (hI : mI (aH n0) (twU X M)) (hP1 : mP D M1 H1) (hI1 : mI (aS H M) M1) (hk : ∀ q : Nat, q < H.size → ¬ aS H M q → H1[q]? = H[q]?) :
    (∀ q, X q ≠ none → M1 q = none) ∧ mP D (twU X M1) H1 ∧ mI (aH n0) (twU X M1) := by
  have hx : ∀ q x, X q = some x → q < H.size ∧ ¬ aS H M q := fun q x h => by
    have h1 := hP.lt (twU_l (N := M) h)
    exact ⟨h1, fun z => z.elim (fun z => by omega) (fun z => z (hd q (by rw [h]; exact fun w => by cases w)))⟩
  refine ⟨fun q hq => ?_, fun a e he => ?_, fun a e he => ?_⟩
  · cases z : M1 q with
    | none => rfl
    | some y =>
      cases w : X q with
      | none => exact absurd w hq
      | some x => exact absurd (hI1 q y z) (hx q x w).2
  · cases w : X a with
    | none =>
      rw [twU_r w] at he
      exact hP1 a e he
    | some x =>
      rw [twU_l w] at he
      cases he
      exact (hP a _ (twU_l w)).kept (hk a (hx a _ w).1 (hx a _ w).2)
  · cases w : X a with
    | none =>
      rw [twU_r w] at he
      rcases hI1 a e he with z | z
      · exact Nat.le_trans hz z
      · cases v : M a with
        | none => exact absurd v z
        | some y => exact hI a y (tw_r hd v)
    | some x => exact hI a x (twU_l w)
abbrev E43 (G : mg) (n : Nat) (f : Nat → Int32) : va_E := .inl (G.2.1 0, n, .inl f)
section LX
variable {p : Program} {l : Launch} {e : Env} {s : State} {m : MethodId} {below : List Frame} {meth : Method} {c : Code} {Q : State → Prop} {b : Nat} {G : mg} {H : Heap} {locs : List Loc} {cells slots : Nat} {pc : Nat} {ls : Array Slot} {rest : List Value} {lv : List (Nat × Value)} {cw : Nat} {F : St → Prop} {X : mw}
theorem lx_iald (C0 : TwC p l s m c b G) (hdg : decode cL_law pc = .ok (.iaload, 1)) (hX : LwX G s.heap.size H cw F X) {a n : Nat} {f : Nat → Int32} (ha : X a = some (E43 G n f)) {i : Int32} (hin : vp_in i n) {v : Int32} (hv : f i.toNatClampNeg = v)
    (kk : W p l e room_1 s m #[Value.ref b] below meth c H locs cells slots Q (F0 m (pc + 1) ls (.int v :: rest))) : W p l e room_1 s m #[Value.ref b] below meth c H locs cells slots Q (F0 m pc ls (.int i :: .ref a :: rest)) := by
  obtain ⟨hx, hb, hml, hown, hts, hG, hb0, hl9⟩ := C0
  obtain ⟨st, ad, Mc, hF, hV, hC, hw, hd, hP, hI⟩ := hX
  refine m_iald hx hb hG.K 0 (hP a _ (twU_l ha)) rfl hin hdg ?_
  rw [hv]
  exact kk
theorem lx_iast (C0 : TwC p l s m c b G) (hdg : decode cL_law pc = .ok (.iastore, 1)) (hX : LwX G s.heap.size H cw F X) (hS : va_S (aH s.heap.size) s.heap H locs) {a n : Nat} {f : Nat → Int32} (ha : X a = some (E43 G n f)) {i x : Int32} (hin : vp_in i n) {k : Nat} (hk : i.toNatClampNeg = k)
    (kk : ∀ (H1 : Heap) (locs1 : List Loc), LwX G s.heap.size H1 cw F (mu X a (E43 G n (upd f k x))) → va_S (aH s.heap.size) s.heap H1 locs1 → W p l e room_1 s m #[Value.ref b] below meth c H1 locs1 cells slots Q (F0 m (pc + 1) ls rest)) : W p l e room_1 s m #[Value.ref b] below meth c H locs cells slots Q (F0 m pc ls (.int x :: .int i :: .ref a :: rest)) := by
  obtain ⟨hx, hb, hml, hown, hts, hG, hb0, hl9⟩ := C0
  obtain ⟨st, ad, Mc, hF, hV, hC, hw, hd, hP, hI⟩ := hX
  subst hk
  refine m_iast hx hb hG.K hP hI hS 0 (twU_l ha) rfl hin hdg (fun H1 locs1 hP1 hI1 hS1 => ?_)
  rw [tw_mu] at hP1 hI1
  refine kk H1 locs1 ⟨st, ad, Mc, hF, hV, hC, hw, fun q hq => ?_, hP1, hI1⟩ hS1
  by_cases z : q = a
  · rw [z]
    exact hd a (by rw [ha]; exact fun w => by cases w)
  · rw [mu_n z] at hq
    exact hd q hq
theorem lx_newa (C0 : TwC p l s m c b G) (hdg : decode cL_law pc = .ok (.newarray .int, 2)) (hX : LwX G s.heap.size H cw F X) (hS : va_S (aH s.heap.size) s.heap H locs) {n : Int32} {N : Nat} (hn : ¬ n < 0) (hN : n.toNatClampNeg = N) (hby : N * componentBytes .int ≤ 536870912) (hcs : cells + 1 ≤ 624961 ∧ slots + N ≤ 7226742)
    (kk : ∀ (q : Nat) (H1 : Heap), X q = none → LwX G s.heap.size H1 cw F (mu X q (E43 G N (fun _ => 0))) → va_S (aH s.heap.size) s.heap H1 locs → W p l e room_1 s m #[Value.ref b] below meth c H1 locs (cells + 1) (slots + N) Q (F0 m (pc + 2) ls (.ref q :: rest))) : W p l e room_1 s m #[Value.ref b] below meth c H locs cells slots Q (F0 m pc ls (.int n :: rest)) := by
  obtain ⟨hx, hb, hml, hown, hts, hG, hb0, hl9⟩ := C0
  obtain ⟨st, ad, Mc, hF, hV, hC, hw, hd, hP, hI⟩ := hX
  have hK := hG.K
  have hA : ∀ q : Nat, s.heap.size ≤ q → aH s.heap.size q := fun _ h => h
  refine m_newa (atype := .int) (a0 := (N, .inl (fun _ => 0))) hx hb (hts (.arrayClass .int) (by decide +kernel)) rfl hK hP hI hS hA (hK.2 0 _ rfl).2 (fun _ => rfl) hn hN hby hcs.1 hcs.2 hdg (fun q H1 hq hP1 hI1 hS1 => ?_)
  rw [tw_mu] at hP1 hI1
  refine kk q H1 (twU_n hq).1 ⟨st, ad, Mc, hF, hV, hC, hw, fun z hz => ?_, hP1, hI1⟩ hS1
  by_cases y : z = q
  · rw [y]
    exact (twU_n hq).2
  · rw [mu_n y] at hz
    exact hd z hz
theorem lx_in0 (C0 : TwC p l s m c b G) (hdg : decode cL_law pc = .ok (.invokestatic 68, 3)) (hX : LwX G s.heap.size H cw F X) (hS : va_S (aH s.heap.size) s.heap H locs) (hl : lv_has ls 22 lv) (hcs : cells ≤ 624961 ∧ slots ≤ 7226742) {i n : Int32} (hi : ¬ i < 0) (N : Nat) (hn : n = nI N) (hN : 0 < N ∧ N < 2 ^ 31)
    (kk : ∀ (a : Nat) (H1 : Heap) (locs1 : List Loc), a < N → LwX G s.heap.size H1 cw F X → va_S (aH s.heap.size) s.heap H1 locs1 → W p l e room_1 s m #[Value.ref b] below meth c H1 locs1 cells slots Q (F0 m (pc + 3) ls (.int (nI a) :: []))) : W p l e room_1 s m #[Value.ref b] below meth c H locs cells slots Q (F0 m pc ls (.int n :: .int i :: .ref b :: [])) := by
  obtain ⟨hx, hb, hml, hown, hts, hG, hb0, hl9⟩ := C0
  obtain ⟨st, ad, Mc, hF, hV, hC, hw, hd, hP, hI⟩ := hX
  have hA : ∀ q : Nat, s.heap.size ≤ q → aH s.heap.size q := fun _ h => h
  subst hb0
  have hnt : n.toInt = N := by rw [hn, nI_toInt hN.2]
  refine m_calli (va_runS (As := [.ref (G.2.2.2 0), .int i, .int n]) (rest := []) ⟨hx, hb, hml, hown, hts⟩ (c_L_in l G (aH s.heap.size) (twU X Mc) i n hi (by omega)) (va_cwS 3 hts gL_law_L_in rfl rfl rfl (by decide +kernel) ⟨Nat.le_of_ble_eq_true rfl, Nat.le_of_ble_eq_true rfl⟩) (mPreS hG hS hP hI hA) rfl rfl hl.1 rfl (lv_room (Nat.le_of_ble_eq_true rfl)) hdg ⟨by show cells + 0 ≤ 624961; omega, by show slots + 0 ≤ 7226742; omega⟩) hS (fun r M1 H1 locs1 hp hP1 hI1 hS1 => ?_)
  obtain ⟨⟨hr0, hr1⟩, hm⟩ := hp
  subst hm
  obtain ⟨a, ha, hra⟩ := nI_ofb (N := N) hr0 (by omega)
  subst hra
  exact kk a H1 locs1 ha ⟨st, ad, Mc, hF, hV, hC, hw, hd, hP1, hI1⟩ hS1
theorem lx_in1 (C0 : TwC p l s m c b G) (hdg : decode cL_law pc = .ok (.invokestatic 68, 3)) (hX : LwX G s.heap.size H cw F X) (hS : va_S (aH s.heap.size) s.heap H locs) (hl : lv_has ls 22 lv) (hcs : cells ≤ 624961 ∧ slots ≤ 7226742) {x9 : Int32} {i n : Int32} (hi : ¬ i < 0) (N : Nat) (hn : n = nI N) (hN : 0 < N ∧ N < 2 ^ 31)
    (kk : ∀ (a : Nat) (H1 : Heap) (locs1 : List Loc), a < N → LwX G s.heap.size H1 cw F X → va_S (aH s.heap.size) s.heap H1 locs1 → W p l e room_1 s m #[Value.ref b] below meth c H1 locs1 cells slots Q (F0 m (pc + 3) ls (.int (nI a) :: [.int x9]))) : W p l e room_1 s m #[Value.ref b] below meth c H locs cells slots Q (F0 m pc ls (.int n :: .int i :: .ref b :: [.int x9])) := by
  obtain ⟨hx, hb, hml, hown, hts, hG, hb0, hl9⟩ := C0
  obtain ⟨st, ad, Mc, hF, hV, hC, hw, hd, hP, hI⟩ := hX
  have hA : ∀ q : Nat, s.heap.size ≤ q → aH s.heap.size q := fun _ h => h
  subst hb0
  have hnt : n.toInt = N := by rw [hn, nI_toInt hN.2]
  refine m_calli (va_runS (As := [.ref (G.2.2.2 0), .int i, .int n]) (rest := [.int x9]) ⟨hx, hb, hml, hown, hts⟩ (c_L_in l G (aH s.heap.size) (twU X Mc) i n hi (by omega)) (va_cwS 3 hts gL_law_L_in rfl rfl rfl (by decide +kernel) ⟨Nat.le_of_ble_eq_true rfl, Nat.le_of_ble_eq_true rfl⟩) (mPreS hG hS hP hI hA) rfl rfl hl.1 rfl (lv_room (Nat.le_of_ble_eq_true rfl)) hdg ⟨by show cells + 0 ≤ 624961; omega, by show slots + 0 ≤ 7226742; omega⟩) hS (fun r M1 H1 locs1 hp hP1 hI1 hS1 => ?_)
  obtain ⟨⟨hr0, hr1⟩, hm⟩ := hp
  subst hm
  obtain ⟨a, ha, hra⟩ := nI_ofb (N := N) hr0 (by omega)
  subst hra
  exact kk a H1 locs1 ha ⟨st, ad, Mc, hF, hV, hC, hw, hd, hP1, hI1⟩ hS1
theorem lx_draw0 (C0 : TwC p l s m c b G) (hdg : decode cL_law pc = .ok (.invokestatic 72, 3)) (hX : LwX G s.heap.size H cw F X) (hS : va_S (aH s.heap.size) s.heap H locs) (hl : lv_has ls 22 lv) (hcs : cells + 100 ≤ 624961 ∧ slots + 1000 ≤ 7226742) {a0 a1 : Int32} (v : Int32) (F1 : St → Prop) (hop : ∀ st, F st → Inv st → wan (m_draw st a0 a1) = v ∧ F1 (m_draw st a0 a1).2.2)
    (kk : ∀ (H1 : Heap) (locs1 : List Loc), LwX G s.heap.size H1 cw F1 X → va_S (aH s.heap.size) s.heap H1 locs1 → W p l e room_1 s m #[Value.ref b] below meth c H1 locs1 (cells + 100) (slots + 1000) Q (F0 m (pc + 3) ls (.int v :: []))) : W p l e room_1 s m #[Value.ref b] below meth c H locs cells slots Q (F0 m pc ls (.int a1 :: .int a0 :: .ref cw :: [])) := by
  obtain ⟨hx, hb, hml, hown, hts, hG, hb0, hl9⟩ := C0
  obtain ⟨st, ad, Mc, hF, hV, hC, rfl, hd, hP, hI⟩ := hX
  have hA : ∀ q : Nat, s.heap.size ≤ q → aH s.heap.size q := fun _ h => h
  have hPc : mP G.1 Mc H := fun a e he => hP a e (tw_r hd he)
  have hIc : mI (aH s.heap.size) Mc := fun a e he => hI a e (tw_r hd he)
  refine ls_calli (vx_runSX (As := [.ref (ad 0 0), .int a0, .int a1]) (rest := []) ⟨hx, hb, hml, hown, hts⟩ (c_L_draw l G (aS H Mc) Mc hl9 st ad a0 a1 hC hV) (vx_cwSW 3 hts gL_law_L_draw rfl rfl rfl (by decide +kernel) ⟨Nat.le_of_ble_eq_true rfl, Nat.le_of_ble_eq_true rfl⟩) (sPreS hG hS hPc hIc hA) rfl rfl hl.1 rfl (lv_room (Nat.le_of_ble_eq_true rfl)) hdg ⟨by show cells + 4 ≤ 624961; omega, by show slots + 34 ≤ 7226742; omega⟩) hIc hS hA (fun r M9 H1 locs1 hp hP9 hI9 hk9 hS1 => ?_)
  obtain ⟨ad1, hr, hC1, ha1⟩ := hp
  have ho := hop st hF hV
  rw [hr, ho.1]
  refine W.widen (k := cells + 100) (n := slots + 1000) (by omega) (by omega) ?_
  obtain ⟨hd1, hP1, hI1⟩ := tw_mv hS.1 hd hP hI hP9 hI9 hk9
  exact kk H1 locs1 ⟨_, ad1, M9, ho.2, (I_draw hV a0 a1), hC1, ha1, hd1, hP1, hI1⟩ hS1
theorem lx_draw1 (C0 : TwC p l s m c b G) (hdg : decode cL_law pc = .ok (.invokestatic 72, 3)) (hX : LwX G s.heap.size H cw F X) (hS : va_S (aH s.heap.size) s.heap H locs) (hl : lv_has ls 22 lv) (hcs : cells + 100 ≤ 624961 ∧ slots + 1000 ≤ 7226742) {x9 : Int32} {a0 a1 : Int32} (v : Int32) (F1 : St → Prop) (hop : ∀ st, F st → Inv st → wan (m_draw st a0 a1) = v ∧ F1 (m_draw st a0 a1).2.2)
    (kk : ∀ (H1 : Heap) (locs1 : List Loc), LwX G s.heap.size H1 cw F1 X → va_S (aH s.heap.size) s.heap H1 locs1 → W p l e room_1 s m #[Value.ref b] below meth c H1 locs1 (cells + 100) (slots + 1000) Q (F0 m (pc + 3) ls (.int v :: [.int x9]))) : W p l e room_1 s m #[Value.ref b] below meth c H locs cells slots Q (F0 m pc ls (.int a1 :: .int a0 :: .ref cw :: [.int x9])) := by
  obtain ⟨hx, hb, hml, hown, hts, hG, hb0, hl9⟩ := C0
  obtain ⟨st, ad, Mc, hF, hV, hC, rfl, hd, hP, hI⟩ := hX
  have hA : ∀ q : Nat, s.heap.size ≤ q → aH s.heap.size q := fun _ h => h
  have hPc : mP G.1 Mc H := fun a e he => hP a e (tw_r hd he)
  have hIc : mI (aH s.heap.size) Mc := fun a e he => hI a e (tw_r hd he)
  refine ls_calli (vx_runSX (As := [.ref (ad 0 0), .int a0, .int a1]) (rest := [.int x9]) ⟨hx, hb, hml, hown, hts⟩ (c_L_draw l G (aS H Mc) Mc hl9 st ad a0 a1 hC hV) (vx_cwSW 3 hts gL_law_L_draw rfl rfl rfl (by decide +kernel) ⟨Nat.le_of_ble_eq_true rfl, Nat.le_of_ble_eq_true rfl⟩) (sPreS hG hS hPc hIc hA) rfl rfl hl.1 rfl (lv_room (Nat.le_of_ble_eq_true rfl)) hdg ⟨by show cells + 4 ≤ 624961; omega, by show slots + 34 ≤ 7226742; omega⟩) hIc hS hA (fun r M9 H1 locs1 hp hP9 hI9 hk9 hS1 => ?_)
  obtain ⟨ad1, hr, hC1, ha1⟩ := hp
  have ho := hop st hF hV
  rw [hr, ho.1]
  refine W.widen (k := cells + 100) (n := slots + 1000) (by omega) (by omega) ?_
  obtain ⟨hd1, hP1, hI1⟩ := tw_mv hS.1 hd hP hI hP9 hI9 hk9
  exact kk H1 locs1 ⟨_, ad1, M9, ho.2, (I_draw hV a0 a1), hC1, ha1, hd1, hP1, hI1⟩ hS1
theorem lx_section0 (C0 : TwC p l s m c b G) (hdg : decode cL_law pc = .ok (.invokestatic 77, 3)) (hX : LwX G s.heap.size H cw F X) (hS : va_S (aH s.heap.size) s.heap H locs) (hl : lv_has ls 22 lv) (hcs : cells + 100 ≤ 624961 ∧ slots + 1000 ≤ 7226742) {a0 a1 a2 : Int32} (v : Int32) (F1 : St → Prop) (hop : ∀ st, F st → Inv st → wan (m_section st a0 a1 a2) = v ∧ F1 (m_section st a0 a1 a2).2.2)
    (kk : ∀ (H1 : Heap) (locs1 : List Loc), LwX G s.heap.size H1 cw F1 X → va_S (aH s.heap.size) s.heap H1 locs1 → W p l e room_1 s m #[Value.ref b] below meth c H1 locs1 (cells + 100) (slots + 1000) Q (F0 m (pc + 3) ls (.int v :: []))) : W p l e room_1 s m #[Value.ref b] below meth c H locs cells slots Q (F0 m pc ls (.int a2 :: .int a1 :: .int a0 :: .ref cw :: [])) := by
  obtain ⟨hx, hb, hml, hown, hts, hG, hb0, hl9⟩ := C0
  obtain ⟨st, ad, Mc, hF, hV, hC, rfl, hd, hP, hI⟩ := hX
  have hA : ∀ q : Nat, s.heap.size ≤ q → aH s.heap.size q := fun _ h => h
  have hPc : mP G.1 Mc H := fun a e he => hP a e (tw_r hd he)
  have hIc : mI (aH s.heap.size) Mc := fun a e he => hI a e (tw_r hd he)
  refine ls_calli (vx_runSX (As := [.ref (ad 0 0), .int a0, .int a1, .int a2]) (rest := []) ⟨hx, hb, hml, hown, hts⟩ (c_L_section l G (aS H Mc) Mc hl9 st ad a0 a1 a2 hC hV) (vx_cwSW 4 hts gL_law_L_section rfl rfl rfl (by decide +kernel) ⟨Nat.le_of_ble_eq_true rfl, Nat.le_of_ble_eq_true rfl⟩) (sPreS hG hS hPc hIc hA) rfl rfl hl.1 rfl (lv_room (Nat.le_of_ble_eq_true rfl)) hdg ⟨by show cells + 4 ≤ 624961; omega, by show slots + 24 ≤ 7226742; omega⟩) hIc hS hA (fun r M9 H1 locs1 hp hP9 hI9 hk9 hS1 => ?_)
  obtain ⟨ad1, hr, hC1, ha1⟩ := hp
  have ho := hop st hF hV
  rw [hr, ho.1]
  refine W.widen (k := cells + 100) (n := slots + 1000) (by omega) (by omega) ?_
  obtain ⟨hd1, hP1, hI1⟩ := tw_mv hS.1 hd hP hI hP9 hI9 hk9
  exact kk H1 locs1 ⟨_, ad1, M9, ho.2, (I_section hV a0 a1 a2), hC1, ha1, hd1, hP1, hI1⟩ hS1
theorem lx_section1 (C0 : TwC p l s m c b G) (hdg : decode cL_law pc = .ok (.invokestatic 77, 3)) (hX : LwX G s.heap.size H cw F X) (hS : va_S (aH s.heap.size) s.heap H locs) (hl : lv_has ls 22 lv) (hcs : cells + 100 ≤ 624961 ∧ slots + 1000 ≤ 7226742) {x9 : Int32} {a0 a1 a2 : Int32} (v : Int32) (F1 : St → Prop) (hop : ∀ st, F st → Inv st → wan (m_section st a0 a1 a2) = v ∧ F1 (m_section st a0 a1 a2).2.2)
    (kk : ∀ (H1 : Heap) (locs1 : List Loc), LwX G s.heap.size H1 cw F1 X → va_S (aH s.heap.size) s.heap H1 locs1 → W p l e room_1 s m #[Value.ref b] below meth c H1 locs1 (cells + 100) (slots + 1000) Q (F0 m (pc + 3) ls (.int v :: [.int x9]))) : W p l e room_1 s m #[Value.ref b] below meth c H locs cells slots Q (F0 m pc ls (.int a2 :: .int a1 :: .int a0 :: .ref cw :: [.int x9])) := by
  obtain ⟨hx, hb, hml, hown, hts, hG, hb0, hl9⟩ := C0
  obtain ⟨st, ad, Mc, hF, hV, hC, rfl, hd, hP, hI⟩ := hX
  have hA : ∀ q : Nat, s.heap.size ≤ q → aH s.heap.size q := fun _ h => h
  have hPc : mP G.1 Mc H := fun a e he => hP a e (tw_r hd he)
  have hIc : mI (aH s.heap.size) Mc := fun a e he => hI a e (tw_r hd he)
  refine ls_calli (vx_runSX (As := [.ref (ad 0 0), .int a0, .int a1, .int a2]) (rest := [.int x9]) ⟨hx, hb, hml, hown, hts⟩ (c_L_section l G (aS H Mc) Mc hl9 st ad a0 a1 a2 hC hV) (vx_cwSW 4 hts gL_law_L_section rfl rfl rfl (by decide +kernel) ⟨Nat.le_of_ble_eq_true rfl, Nat.le_of_ble_eq_true rfl⟩) (sPreS hG hS hPc hIc hA) rfl rfl hl.1 rfl (lv_room (Nat.le_of_ble_eq_true rfl)) hdg ⟨by show cells + 4 ≤ 624961; omega, by show slots + 24 ≤ 7226742; omega⟩) hIc hS hA (fun r M9 H1 locs1 hp hP9 hI9 hk9 hS1 => ?_)
  obtain ⟨ad1, hr, hC1, ha1⟩ := hp
  have ho := hop st hF hV
  rw [hr, ho.1]
  refine W.widen (k := cells + 100) (n := slots + 1000) (by omega) (by omega) ?_
  obtain ⟨hd1, hP1, hI1⟩ := tw_mv hS.1 hd hP hI hP9 hI9 hk9
  exact kk H1 locs1 ⟨_, ad1, M9, ho.2, (I_section hV a0 a1 a2), hC1, ha1, hd1, hP1, hI1⟩ hS1
theorem rI_bore {st : St} {a0 a1 : Int32} (hV : Inv st) : Inv (m_bore st a0 a1).2.2 := by
  unfold m_bore
  first | exact chk_I hV (fun _ => hV) | exact chk_I hV (fun _ => chk_I hV (fun _ => hV)) | exact chk_I hV (fun _ => chk_I hV (fun _ => chk_I hV (fun _ => hV))) | exact chk_I hV (fun _ => chk_I hV (fun _ => chk_I hV (fun _ => chk_I hV (fun _ => hV)))) | exact chk_I hV (fun _ => chk_I hV (fun _ => chk_I hV (fun _ => chk_I hV (fun _ => chk_I hV (fun _ => hV))))) | exact chk_I hV (fun _ => chk_I hV (fun _ => chk_I hV (fun _ => chk_I hV (fun _ => chk_I hV (fun _ => chk_I hV (fun _ => hV))))))
theorem lx_bore0 (C0 : TwC p l s m c b G) (hdg : decode cL_law pc = .ok (.invokestatic 75, 3)) (hX : LwX G s.heap.size H cw F X) (hS : va_S (aH s.heap.size) s.heap H locs) (hl : lv_has ls 22 lv) (hcs : cells + 100 ≤ 624961 ∧ slots + 1000 ≤ 7226742) {a0 a1 : Int32} (v : Int32) (F1 : St → Prop) (hop : ∀ st, F st → Inv st → wan (m_bore st a0 a1) = v ∧ F1 (m_bore st a0 a1).2.2)
    (kk : ∀ (H1 : Heap) (locs1 : List Loc), LwX G s.heap.size H1 cw F1 X → va_S (aH s.heap.size) s.heap H1 locs1 → W p l e room_1 s m #[Value.ref b] below meth c H1 locs1 (cells + 100) (slots + 1000) Q (F0 m (pc + 3) ls (.int v :: []))) : W p l e room_1 s m #[Value.ref b] below meth c H locs cells slots Q (F0 m pc ls (.int a1 :: .int a0 :: .ref cw :: [])) := by
  obtain ⟨hx, hb, hml, hown, hts, hG, hb0, hl9⟩ := C0
  obtain ⟨st, ad, Mc, hF, hV, hC, rfl, hd, hP, hI⟩ := hX
  have hA : ∀ q : Nat, s.heap.size ≤ q → aH s.heap.size q := fun _ h => h
  have hPc : mP G.1 Mc H := fun a e he => hP a e (tw_r hd he)
  have hIc : mI (aH s.heap.size) Mc := fun a e he => hI a e (tw_r hd he)
  refine ls_calli (vx_runSX (As := [.ref (ad 0 0), .int a0, .int a1]) (rest := []) ⟨hx, hb, hml, hown, hts⟩ (c_L_bore l G (aS H Mc) Mc hl9 st ad a0 a1 hC hV) (vx_cwSW 3 hts gL_law_L_bore rfl rfl rfl (by decide +kernel) ⟨Nat.le_of_ble_eq_true rfl, Nat.le_of_ble_eq_true rfl⟩) (sPreS hG hS hPc hIc hA) rfl rfl hl.1 rfl (lv_room (Nat.le_of_ble_eq_true rfl)) hdg ⟨by show cells + 2 ≤ 624961; omega, by show slots + 12 ≤ 7226742; omega⟩) hIc hS hA (fun r M9 H1 locs1 hp hP9 hI9 hk9 hS1 => ?_)
  obtain ⟨ad1, hr, hC1, ha1⟩ := hp
  have ho := hop st hF hV
  rw [hr, ho.1]
  refine W.widen (k := cells + 100) (n := slots + 1000) (by omega) (by omega) ?_
  obtain ⟨hd1, hP1, hI1⟩ := tw_mv hS.1 hd hP hI hP9 hI9 hk9
  exact kk H1 locs1 ⟨_, ad1, M9, ho.2, (rI_bore hV), hC1, ha1, hd1, hP1, hI1⟩ hS1
theorem lx_bore1 (C0 : TwC p l s m c b G) (hdg : decode cL_law pc = .ok (.invokestatic 75, 3)) (hX : LwX G s.heap.size H cw F X) (hS : va_S (aH s.heap.size) s.heap H locs) (hl : lv_has ls 22 lv) (hcs : cells + 100 ≤ 624961 ∧ slots + 1000 ≤ 7226742) {x9 : Int32} {a0 a1 : Int32} (v : Int32) (F1 : St → Prop) (hop : ∀ st, F st → Inv st → wan (m_bore st a0 a1) = v ∧ F1 (m_bore st a0 a1).2.2)
    (kk : ∀ (H1 : Heap) (locs1 : List Loc), LwX G s.heap.size H1 cw F1 X → va_S (aH s.heap.size) s.heap H1 locs1 → W p l e room_1 s m #[Value.ref b] below meth c H1 locs1 (cells + 100) (slots + 1000) Q (F0 m (pc + 3) ls (.int v :: [.int x9]))) : W p l e room_1 s m #[Value.ref b] below meth c H locs cells slots Q (F0 m pc ls (.int a1 :: .int a0 :: .ref cw :: [.int x9])) := by
  obtain ⟨hx, hb, hml, hown, hts, hG, hb0, hl9⟩ := C0
  obtain ⟨st, ad, Mc, hF, hV, hC, rfl, hd, hP, hI⟩ := hX
  have hA : ∀ q : Nat, s.heap.size ≤ q → aH s.heap.size q := fun _ h => h
  have hPc : mP G.1 Mc H := fun a e he => hP a e (tw_r hd he)
  have hIc : mI (aH s.heap.size) Mc := fun a e he => hI a e (tw_r hd he)
  refine ls_calli (vx_runSX (As := [.ref (ad 0 0), .int a0, .int a1]) (rest := [.int x9]) ⟨hx, hb, hml, hown, hts⟩ (c_L_bore l G (aS H Mc) Mc hl9 st ad a0 a1 hC hV) (vx_cwSW 3 hts gL_law_L_bore rfl rfl rfl (by decide +kernel) ⟨Nat.le_of_ble_eq_true rfl, Nat.le_of_ble_eq_true rfl⟩) (sPreS hG hS hPc hIc hA) rfl rfl hl.1 rfl (lv_room (Nat.le_of_ble_eq_true rfl)) hdg ⟨by show cells + 2 ≤ 624961; omega, by show slots + 12 ≤ 7226742; omega⟩) hIc hS hA (fun r M9 H1 locs1 hp hP9 hI9 hk9 hS1 => ?_)
  obtain ⟨ad1, hr, hC1, ha1⟩ := hp
  have ho := hop st hF hV
  rw [hr, ho.1]
  refine W.widen (k := cells + 100) (n := slots + 1000) (by omega) (by omega) ?_
  obtain ⟨hd1, hP1, hI1⟩ := tw_mv hS.1 hd hP hI hP9 hI9 hk9
  exact kk H1 locs1 ⟨_, ad1, M9, ho.2, (rI_bore hV), hC1, ha1, hd1, hP1, hI1⟩ hS1
theorem rI_volume {st : St} {a0 a1 : Int32} (hV : Inv st) : Inv (m_volume st a0 a1).2.2 := by
  unfold m_volume
  first | exact chk_I hV (fun _ => hV) | exact chk_I hV (fun _ => chk_I hV (fun _ => hV)) | exact chk_I hV (fun _ => chk_I hV (fun _ => chk_I hV (fun _ => hV))) | exact chk_I hV (fun _ => chk_I hV (fun _ => chk_I hV (fun _ => chk_I hV (fun _ => hV)))) | exact chk_I hV (fun _ => chk_I hV (fun _ => chk_I hV (fun _ => chk_I hV (fun _ => chk_I hV (fun _ => hV))))) | exact chk_I hV (fun _ => chk_I hV (fun _ => chk_I hV (fun _ => chk_I hV (fun _ => chk_I hV (fun _ => chk_I hV (fun _ => hV))))))
theorem lx_volume0 (C0 : TwC p l s m c b G) (hdg : decode cL_law pc = .ok (.invokestatic 83, 3)) (hX : LwX G s.heap.size H cw F X) (hS : va_S (aH s.heap.size) s.heap H locs) (hl : lv_has ls 22 lv) (hcs : cells + 100 ≤ 624961 ∧ slots + 1000 ≤ 7226742) {a0 a1 : Int32} (v : Int32) (F1 : St → Prop) (hop : ∀ st, F st → Inv st → wan (m_volume st a0 a1) = v ∧ F1 (m_volume st a0 a1).2.2)
    (kk : ∀ (H1 : Heap) (locs1 : List Loc), LwX G s.heap.size H1 cw F1 X → va_S (aH s.heap.size) s.heap H1 locs1 → W p l e room_1 s m #[Value.ref b] below meth c H1 locs1 (cells + 100) (slots + 1000) Q (F0 m (pc + 3) ls (.int v :: []))) : W p l e room_1 s m #[Value.ref b] below meth c H locs cells slots Q (F0 m pc ls (.int a1 :: .int a0 :: .ref cw :: [])) := by
  obtain ⟨hx, hb, hml, hown, hts, hG, hb0, hl9⟩ := C0
  obtain ⟨st, ad, Mc, hF, hV, hC, rfl, hd, hP, hI⟩ := hX
  have hA : ∀ q : Nat, s.heap.size ≤ q → aH s.heap.size q := fun _ h => h
  have hPc : mP G.1 Mc H := fun a e he => hP a e (tw_r hd he)
  have hIc : mI (aH s.heap.size) Mc := fun a e he => hI a e (tw_r hd he)
  refine ls_calli (vx_runSX (As := [.ref (ad 0 0), .int a0, .int a1]) (rest := []) ⟨hx, hb, hml, hown, hts⟩ (c_L_volume l G (aS H Mc) Mc hl9 st ad a0 a1 hC hV) (vx_cwSW 3 hts gL_law_L_volume rfl rfl rfl (by decide +kernel) ⟨Nat.le_of_ble_eq_true rfl, Nat.le_of_ble_eq_true rfl⟩) (sPreS hG hS hPc hIc hA) rfl rfl hl.1 rfl (lv_room (Nat.le_of_ble_eq_true rfl)) hdg ⟨by show cells + 2 ≤ 624961; omega, by show slots + 12 ≤ 7226742; omega⟩) hIc hS hA (fun r M9 H1 locs1 hp hP9 hI9 hk9 hS1 => ?_)
  obtain ⟨ad1, hr, hC1, ha1⟩ := hp
  have ho := hop st hF hV
  rw [hr, ho.1]
  refine W.widen (k := cells + 100) (n := slots + 1000) (by omega) (by omega) ?_
  obtain ⟨hd1, hP1, hI1⟩ := tw_mv hS.1 hd hP hI hP9 hI9 hk9
  exact kk H1 locs1 ⟨_, ad1, M9, ho.2, (rI_volume hV), hC1, ha1, hd1, hP1, hI1⟩ hS1
theorem lx_volume1 (C0 : TwC p l s m c b G) (hdg : decode cL_law pc = .ok (.invokestatic 83, 3)) (hX : LwX G s.heap.size H cw F X) (hS : va_S (aH s.heap.size) s.heap H locs) (hl : lv_has ls 22 lv) (hcs : cells + 100 ≤ 624961 ∧ slots + 1000 ≤ 7226742) {x9 : Int32} {a0 a1 : Int32} (v : Int32) (F1 : St → Prop) (hop : ∀ st, F st → Inv st → wan (m_volume st a0 a1) = v ∧ F1 (m_volume st a0 a1).2.2)
    (kk : ∀ (H1 : Heap) (locs1 : List Loc), LwX G s.heap.size H1 cw F1 X → va_S (aH s.heap.size) s.heap H1 locs1 → W p l e room_1 s m #[Value.ref b] below meth c H1 locs1 (cells + 100) (slots + 1000) Q (F0 m (pc + 3) ls (.int v :: [.int x9]))) : W p l e room_1 s m #[Value.ref b] below meth c H locs cells slots Q (F0 m pc ls (.int a1 :: .int a0 :: .ref cw :: [.int x9])) := by
  obtain ⟨hx, hb, hml, hown, hts, hG, hb0, hl9⟩ := C0
  obtain ⟨st, ad, Mc, hF, hV, hC, rfl, hd, hP, hI⟩ := hX
  have hA : ∀ q : Nat, s.heap.size ≤ q → aH s.heap.size q := fun _ h => h
  have hPc : mP G.1 Mc H := fun a e he => hP a e (tw_r hd he)
  have hIc : mI (aH s.heap.size) Mc := fun a e he => hI a e (tw_r hd he)
  refine ls_calli (vx_runSX (As := [.ref (ad 0 0), .int a0, .int a1]) (rest := [.int x9]) ⟨hx, hb, hml, hown, hts⟩ (c_L_volume l G (aS H Mc) Mc hl9 st ad a0 a1 hC hV) (vx_cwSW 3 hts gL_law_L_volume rfl rfl rfl (by decide +kernel) ⟨Nat.le_of_ble_eq_true rfl, Nat.le_of_ble_eq_true rfl⟩) (sPreS hG hS hPc hIc hA) rfl rfl hl.1 rfl (lv_room (Nat.le_of_ble_eq_true rfl)) hdg ⟨by show cells + 2 ≤ 624961; omega, by show slots + 12 ≤ 7226742; omega⟩) hIc hS hA (fun r M9 H1 locs1 hp hP9 hI9 hk9 hS1 => ?_)
  obtain ⟨ad1, hr, hC1, ha1⟩ := hp
  have ho := hop st hF hV
  rw [hr, ho.1]
  refine W.widen (k := cells + 100) (n := slots + 1000) (by omega) (by omega) ?_
  obtain ⟨hd1, hP1, hI1⟩ := tw_mv hS.1 hd hP hI hP9 hI9 hk9
  exact kk H1 locs1 ⟨_, ad1, M9, ho.2, (rI_volume hV), hC1, ha1, hd1, hP1, hI1⟩ hS1
theorem rI_thread {st : St} {a0 a1 a2 : Int32} (hV : Inv st) : Inv (m_thread st a0 a1 a2).2.2 := by
  unfold m_thread
  first | exact chk_I hV (fun _ => hV) | exact chk_I hV (fun _ => chk_I hV (fun _ => hV)) | exact chk_I hV (fun _ => chk_I hV (fun _ => chk_I hV (fun _ => hV))) | exact chk_I hV (fun _ => chk_I hV (fun _ => chk_I hV (fun _ => chk_I hV (fun _ => hV)))) | exact chk_I hV (fun _ => chk_I hV (fun _ => chk_I hV (fun _ => chk_I hV (fun _ => chk_I hV (fun _ => hV))))) | exact chk_I hV (fun _ => chk_I hV (fun _ => chk_I hV (fun _ => chk_I hV (fun _ => chk_I hV (fun _ => chk_I hV (fun _ => hV))))))
theorem lx_thread0 (C0 : TwC p l s m c b G) (hdg : decode cL_law pc = .ok (.invokestatic 85, 3)) (hX : LwX G s.heap.size H cw F X) (hS : va_S (aH s.heap.size) s.heap H locs) (hl : lv_has ls 22 lv) (hcs : cells + 100 ≤ 624961 ∧ slots + 1000 ≤ 7226742) {a0 a1 a2 : Int32} (v : Int32) (F1 : St → Prop) (hop : ∀ st, F st → Inv st → wan (m_thread st a0 a1 a2) = v ∧ F1 (m_thread st a0 a1 a2).2.2)
    (kk : ∀ (H1 : Heap) (locs1 : List Loc), LwX G s.heap.size H1 cw F1 X → va_S (aH s.heap.size) s.heap H1 locs1 → W p l e room_1 s m #[Value.ref b] below meth c H1 locs1 (cells + 100) (slots + 1000) Q (F0 m (pc + 3) ls (.int v :: []))) : W p l e room_1 s m #[Value.ref b] below meth c H locs cells slots Q (F0 m pc ls (.int a2 :: .int a1 :: .int a0 :: .ref cw :: [])) := by
  obtain ⟨hx, hb, hml, hown, hts, hG, hb0, hl9⟩ := C0
  obtain ⟨st, ad, Mc, hF, hV, hC, rfl, hd, hP, hI⟩ := hX
  have hA : ∀ q : Nat, s.heap.size ≤ q → aH s.heap.size q := fun _ h => h
  have hPc : mP G.1 Mc H := fun a e he => hP a e (tw_r hd he)
  have hIc : mI (aH s.heap.size) Mc := fun a e he => hI a e (tw_r hd he)
  refine ls_calli (vx_runSX (As := [.ref (ad 0 0), .int a0, .int a1, .int a2]) (rest := []) ⟨hx, hb, hml, hown, hts⟩ (c_L_thread l G (aS H Mc) Mc hl9 st ad a0 a1 a2 hC hV) (vx_cwSW 4 hts gL_law_L_thread rfl rfl rfl (by decide +kernel) ⟨Nat.le_of_ble_eq_true rfl, Nat.le_of_ble_eq_true rfl⟩) (sPreS hG hS hPc hIc hA) rfl rfl hl.1 rfl (lv_room (Nat.le_of_ble_eq_true rfl)) hdg ⟨by show cells + 4 ≤ 624961; omega, by show slots + 24 ≤ 7226742; omega⟩) hIc hS hA (fun r M9 H1 locs1 hp hP9 hI9 hk9 hS1 => ?_)
  obtain ⟨ad1, hr, hC1, ha1⟩ := hp
  have ho := hop st hF hV
  rw [hr, ho.1]
  refine W.widen (k := cells + 100) (n := slots + 1000) (by omega) (by omega) ?_
  obtain ⟨hd1, hP1, hI1⟩ := tw_mv hS.1 hd hP hI hP9 hI9 hk9
  exact kk H1 locs1 ⟨_, ad1, M9, ho.2, (rI_thread hV), hC1, ha1, hd1, hP1, hI1⟩ hS1
theorem lx_thread1 (C0 : TwC p l s m c b G) (hdg : decode cL_law pc = .ok (.invokestatic 85, 3)) (hX : LwX G s.heap.size H cw F X) (hS : va_S (aH s.heap.size) s.heap H locs) (hl : lv_has ls 22 lv) (hcs : cells + 100 ≤ 624961 ∧ slots + 1000 ≤ 7226742) {x9 : Int32} {a0 a1 a2 : Int32} (v : Int32) (F1 : St → Prop) (hop : ∀ st, F st → Inv st → wan (m_thread st a0 a1 a2) = v ∧ F1 (m_thread st a0 a1 a2).2.2)
    (kk : ∀ (H1 : Heap) (locs1 : List Loc), LwX G s.heap.size H1 cw F1 X → va_S (aH s.heap.size) s.heap H1 locs1 → W p l e room_1 s m #[Value.ref b] below meth c H1 locs1 (cells + 100) (slots + 1000) Q (F0 m (pc + 3) ls (.int v :: [.int x9]))) : W p l e room_1 s m #[Value.ref b] below meth c H locs cells slots Q (F0 m pc ls (.int a2 :: .int a1 :: .int a0 :: .ref cw :: [.int x9])) := by
  obtain ⟨hx, hb, hml, hown, hts, hG, hb0, hl9⟩ := C0
  obtain ⟨st, ad, Mc, hF, hV, hC, rfl, hd, hP, hI⟩ := hX
  have hA : ∀ q : Nat, s.heap.size ≤ q → aH s.heap.size q := fun _ h => h
  have hPc : mP G.1 Mc H := fun a e he => hP a e (tw_r hd he)
  have hIc : mI (aH s.heap.size) Mc := fun a e he => hI a e (tw_r hd he)
  refine ls_calli (vx_runSX (As := [.ref (ad 0 0), .int a0, .int a1, .int a2]) (rest := [.int x9]) ⟨hx, hb, hml, hown, hts⟩ (c_L_thread l G (aS H Mc) Mc hl9 st ad a0 a1 a2 hC hV) (vx_cwSW 4 hts gL_law_L_thread rfl rfl rfl (by decide +kernel) ⟨Nat.le_of_ble_eq_true rfl, Nat.le_of_ble_eq_true rfl⟩) (sPreS hG hS hPc hIc hA) rfl rfl hl.1 rfl (lv_room (Nat.le_of_ble_eq_true rfl)) hdg ⟨by show cells + 4 ≤ 624961; omega, by show slots + 24 ≤ 7226742; omega⟩) hIc hS hA (fun r M9 H1 locs1 hp hP9 hI9 hk9 hS1 => ?_)
  obtain ⟨ad1, hr, hC1, ha1⟩ := hp
  have ho := hop st hF hV
  rw [hr, ho.1]
  refine W.widen (k := cells + 100) (n := slots + 1000) (by omega) (by omega) ?_
  obtain ⟨hd1, hP1, hI1⟩ := tw_mv hS.1 hd hP hI hP9 hI9 hk9
  exact kk H1 locs1 ⟨_, ad1, M9, ho.2, (rI_thread hV), hC1, ha1, hd1, hP1, hI1⟩ hS1
theorem rI_widest {st : St} {a0 : Int32} (hV : Inv st) : Inv (m_widest st a0).2.2 := by
  unfold m_widest
  first | exact chk_I hV (fun _ => hV) | exact chk_I hV (fun _ => chk_I hV (fun _ => hV)) | exact chk_I hV (fun _ => chk_I hV (fun _ => chk_I hV (fun _ => hV))) | exact chk_I hV (fun _ => chk_I hV (fun _ => chk_I hV (fun _ => chk_I hV (fun _ => hV)))) | exact chk_I hV (fun _ => chk_I hV (fun _ => chk_I hV (fun _ => chk_I hV (fun _ => chk_I hV (fun _ => hV))))) | exact chk_I hV (fun _ => chk_I hV (fun _ => chk_I hV (fun _ => chk_I hV (fun _ => chk_I hV (fun _ => chk_I hV (fun _ => hV))))))
theorem lx_widest0 (C0 : TwC p l s m c b G) (hdg : decode cL_law pc = .ok (.invokestatic 80, 3)) (hX : LwX G s.heap.size H cw F X) (hS : va_S (aH s.heap.size) s.heap H locs) (hl : lv_has ls 22 lv) (hcs : cells + 100 ≤ 624961 ∧ slots + 1000 ≤ 7226742) {a0 : Int32} (v : Int32) (F1 : St → Prop) (hop : ∀ st, F st → Inv st → wan (m_widest st a0) = v ∧ F1 (m_widest st a0).2.2)
    (kk : ∀ (H1 : Heap) (locs1 : List Loc), LwX G s.heap.size H1 cw F1 X → va_S (aH s.heap.size) s.heap H1 locs1 → W p l e room_1 s m #[Value.ref b] below meth c H1 locs1 (cells + 100) (slots + 1000) Q (F0 m (pc + 3) ls (.int v :: []))) : W p l e room_1 s m #[Value.ref b] below meth c H locs cells slots Q (F0 m pc ls (.int a0 :: .ref cw :: [])) := by
  obtain ⟨hx, hb, hml, hown, hts, hG, hb0, hl9⟩ := C0
  obtain ⟨st, ad, Mc, hF, hV, hC, rfl, hd, hP, hI⟩ := hX
  have hA : ∀ q : Nat, s.heap.size ≤ q → aH s.heap.size q := fun _ h => h
  have hPc : mP G.1 Mc H := fun a e he => hP a e (tw_r hd he)
  have hIc : mI (aH s.heap.size) Mc := fun a e he => hI a e (tw_r hd he)
  refine ls_calli (vx_runSX (As := [.ref (ad 0 0), .int a0]) (rest := []) ⟨hx, hb, hml, hown, hts⟩ (c_L_widest l G (aS H Mc) Mc hl9 st ad a0 hC hV) (vx_cwSW 2 hts gL_law_L_widest rfl rfl rfl (by decide +kernel) ⟨Nat.le_of_ble_eq_true rfl, Nat.le_of_ble_eq_true rfl⟩) (sPreS hG hS hPc hIc hA) rfl rfl hl.1 rfl (lv_room (Nat.le_of_ble_eq_true rfl)) hdg ⟨by show cells + 1 ≤ 624961; omega, by show slots + 6 ≤ 7226742; omega⟩) hIc hS hA (fun r M9 H1 locs1 hp hP9 hI9 hk9 hS1 => ?_)
  obtain ⟨ad1, hr, hC1, ha1⟩ := hp
  have ho := hop st hF hV
  rw [hr, ho.1]
  refine W.widen (k := cells + 100) (n := slots + 1000) (by omega) (by omega) ?_
  obtain ⟨hd1, hP1, hI1⟩ := tw_mv hS.1 hd hP hI hP9 hI9 hk9
  exact kk H1 locs1 ⟨_, ad1, M9, ho.2, (rI_widest hV), hC1, ha1, hd1, hP1, hI1⟩ hS1
theorem lx_widest1 (C0 : TwC p l s m c b G) (hdg : decode cL_law pc = .ok (.invokestatic 80, 3)) (hX : LwX G s.heap.size H cw F X) (hS : va_S (aH s.heap.size) s.heap H locs) (hl : lv_has ls 22 lv) (hcs : cells + 100 ≤ 624961 ∧ slots + 1000 ≤ 7226742) {x9 : Int32} {a0 : Int32} (v : Int32) (F1 : St → Prop) (hop : ∀ st, F st → Inv st → wan (m_widest st a0) = v ∧ F1 (m_widest st a0).2.2)
    (kk : ∀ (H1 : Heap) (locs1 : List Loc), LwX G s.heap.size H1 cw F1 X → va_S (aH s.heap.size) s.heap H1 locs1 → W p l e room_1 s m #[Value.ref b] below meth c H1 locs1 (cells + 100) (slots + 1000) Q (F0 m (pc + 3) ls (.int v :: [.int x9]))) : W p l e room_1 s m #[Value.ref b] below meth c H locs cells slots Q (F0 m pc ls (.int a0 :: .ref cw :: [.int x9])) := by
  obtain ⟨hx, hb, hml, hown, hts, hG, hb0, hl9⟩ := C0
  obtain ⟨st, ad, Mc, hF, hV, hC, rfl, hd, hP, hI⟩ := hX
  have hA : ∀ q : Nat, s.heap.size ≤ q → aH s.heap.size q := fun _ h => h
  have hPc : mP G.1 Mc H := fun a e he => hP a e (tw_r hd he)
  have hIc : mI (aH s.heap.size) Mc := fun a e he => hI a e (tw_r hd he)
  refine ls_calli (vx_runSX (As := [.ref (ad 0 0), .int a0]) (rest := [.int x9]) ⟨hx, hb, hml, hown, hts⟩ (c_L_widest l G (aS H Mc) Mc hl9 st ad a0 hC hV) (vx_cwSW 2 hts gL_law_L_widest rfl rfl rfl (by decide +kernel) ⟨Nat.le_of_ble_eq_true rfl, Nat.le_of_ble_eq_true rfl⟩) (sPreS hG hS hPc hIc hA) rfl rfl hl.1 rfl (lv_room (Nat.le_of_ble_eq_true rfl)) hdg ⟨by show cells + 1 ≤ 624961; omega, by show slots + 6 ≤ 7226742; omega⟩) hIc hS hA (fun r M9 H1 locs1 hp hP9 hI9 hk9 hS1 => ?_)
  obtain ⟨ad1, hr, hC1, ha1⟩ := hp
  have ho := hop st hF hV
  rw [hr, ho.1]
  refine W.widen (k := cells + 100) (n := slots + 1000) (by omega) (by omega) ?_
  obtain ⟨hd1, hP1, hI1⟩ := tw_mv hS.1 hd hP hI hP9 hI9 hk9
  exact kk H1 locs1 ⟨_, ad1, M9, ho.2, (rI_widest hV), hC1, ha1, hd1, hP1, hI1⟩ hS1
theorem rI_deliver {st : St} {a0 a1 a2 a3 : Int32} (hV : Inv st) : Inv (m_deliver st a0 a1 a2 a3).2.2 := by
  unfold m_deliver
  first | exact chk_I hV (fun _ => hV) | exact chk_I hV (fun _ => chk_I hV (fun _ => hV)) | exact chk_I hV (fun _ => chk_I hV (fun _ => chk_I hV (fun _ => hV))) | exact chk_I hV (fun _ => chk_I hV (fun _ => chk_I hV (fun _ => chk_I hV (fun _ => hV)))) | exact chk_I hV (fun _ => chk_I hV (fun _ => chk_I hV (fun _ => chk_I hV (fun _ => chk_I hV (fun _ => hV))))) | exact chk_I hV (fun _ => chk_I hV (fun _ => chk_I hV (fun _ => chk_I hV (fun _ => chk_I hV (fun _ => chk_I hV (fun _ => hV))))))
theorem lx_deliver0 (C0 : TwC p l s m c b G) (hdg : decode cL_law pc = .ok (.invokestatic 87, 3)) (hX : LwX G s.heap.size H cw F X) (hS : va_S (aH s.heap.size) s.heap H locs) (hl : lv_has ls 22 lv) (hcs : cells + 100 ≤ 624961 ∧ slots + 1000 ≤ 7226742) {a0 a1 a2 a3 : Int32} (v : Int32) (F1 : St → Prop) (hop : ∀ st, F st → Inv st → wan (m_deliver st a0 a1 a2 a3) = v ∧ F1 (m_deliver st a0 a1 a2 a3).2.2)
    (kk : ∀ (H1 : Heap) (locs1 : List Loc), LwX G s.heap.size H1 cw F1 X → va_S (aH s.heap.size) s.heap H1 locs1 → W p l e room_1 s m #[Value.ref b] below meth c H1 locs1 (cells + 100) (slots + 1000) Q (F0 m (pc + 3) ls (.int v :: []))) : W p l e room_1 s m #[Value.ref b] below meth c H locs cells slots Q (F0 m pc ls (.int a3 :: .int a2 :: .int a1 :: .int a0 :: .ref cw :: [])) := by
  obtain ⟨hx, hb, hml, hown, hts, hG, hb0, hl9⟩ := C0
  obtain ⟨st, ad, Mc, hF, hV, hC, rfl, hd, hP, hI⟩ := hX
  have hA : ∀ q : Nat, s.heap.size ≤ q → aH s.heap.size q := fun _ h => h
  have hPc : mP G.1 Mc H := fun a e he => hP a e (tw_r hd he)
  have hIc : mI (aH s.heap.size) Mc := fun a e he => hI a e (tw_r hd he)
  refine ls_calli (vx_runSX (As := [.ref (ad 0 0), .int a0, .int a1, .int a2, .int a3]) (rest := []) ⟨hx, hb, hml, hown, hts⟩ (c_L_deliver l G (aS H Mc) Mc hl9 st ad a0 a1 a2 a3 hC hV) (vx_cwSW 5 hts gL_law_L_deliver rfl rfl rfl (by decide +kernel) ⟨Nat.le_of_ble_eq_true rfl, Nat.le_of_ble_eq_true rfl⟩) (sPreS hG hS hPc hIc hA) rfl rfl hl.1 rfl (lv_room (Nat.le_of_ble_eq_true rfl)) hdg ⟨by show cells + 5 ≤ 624961; omega, by show slots + 30 ≤ 7226742; omega⟩) hIc hS hA (fun r M9 H1 locs1 hp hP9 hI9 hk9 hS1 => ?_)
  obtain ⟨ad1, hr, hC1, ha1⟩ := hp
  have ho := hop st hF hV
  rw [hr, ho.1]
  refine W.widen (k := cells + 100) (n := slots + 1000) (by omega) (by omega) ?_
  obtain ⟨hd1, hP1, hI1⟩ := tw_mv hS.1 hd hP hI hP9 hI9 hk9
  exact kk H1 locs1 ⟨_, ad1, M9, ho.2, (rI_deliver hV), hC1, ha1, hd1, hP1, hI1⟩ hS1
theorem lx_deliver1 (C0 : TwC p l s m c b G) (hdg : decode cL_law pc = .ok (.invokestatic 87, 3)) (hX : LwX G s.heap.size H cw F X) (hS : va_S (aH s.heap.size) s.heap H locs) (hl : lv_has ls 22 lv) (hcs : cells + 100 ≤ 624961 ∧ slots + 1000 ≤ 7226742) {x9 : Int32} {a0 a1 a2 a3 : Int32} (v : Int32) (F1 : St → Prop) (hop : ∀ st, F st → Inv st → wan (m_deliver st a0 a1 a2 a3) = v ∧ F1 (m_deliver st a0 a1 a2 a3).2.2)
    (kk : ∀ (H1 : Heap) (locs1 : List Loc), LwX G s.heap.size H1 cw F1 X → va_S (aH s.heap.size) s.heap H1 locs1 → W p l e room_1 s m #[Value.ref b] below meth c H1 locs1 (cells + 100) (slots + 1000) Q (F0 m (pc + 3) ls (.int v :: [.int x9]))) : W p l e room_1 s m #[Value.ref b] below meth c H locs cells slots Q (F0 m pc ls (.int a3 :: .int a2 :: .int a1 :: .int a0 :: .ref cw :: [.int x9])) := by
  obtain ⟨hx, hb, hml, hown, hts, hG, hb0, hl9⟩ := C0
  obtain ⟨st, ad, Mc, hF, hV, hC, rfl, hd, hP, hI⟩ := hX
  have hA : ∀ q : Nat, s.heap.size ≤ q → aH s.heap.size q := fun _ h => h
  have hPc : mP G.1 Mc H := fun a e he => hP a e (tw_r hd he)
  have hIc : mI (aH s.heap.size) Mc := fun a e he => hI a e (tw_r hd he)
  refine ls_calli (vx_runSX (As := [.ref (ad 0 0), .int a0, .int a1, .int a2, .int a3]) (rest := [.int x9]) ⟨hx, hb, hml, hown, hts⟩ (c_L_deliver l G (aS H Mc) Mc hl9 st ad a0 a1 a2 a3 hC hV) (vx_cwSW 5 hts gL_law_L_deliver rfl rfl rfl (by decide +kernel) ⟨Nat.le_of_ble_eq_true rfl, Nat.le_of_ble_eq_true rfl⟩) (sPreS hG hS hPc hIc hA) rfl rfl hl.1 rfl (lv_room (Nat.le_of_ble_eq_true rfl)) hdg ⟨by show cells + 5 ≤ 624961; omega, by show slots + 30 ≤ 7226742; omega⟩) hIc hS hA (fun r M9 H1 locs1 hp hP9 hI9 hk9 hS1 => ?_)
  obtain ⟨ad1, hr, hC1, ha1⟩ := hp
  have ho := hop st hF hV
  rw [hr, ho.1]
  refine W.widen (k := cells + 100) (n := slots + 1000) (by omega) (by omega) ?_
  obtain ⟨hd1, hP1, hI1⟩ := tw_mv hS.1 hd hP hI hP9 hI9 hk9
  exact kk H1 locs1 ⟨_, ad1, M9, ho.2, (rI_deliver hV), hC1, ha1, hd1, hP1, hI1⟩ hS1
theorem lx_make0 (C0 : TwC p l s m c b G) (hdg : decode cL_law pc = .ok (.invokestatic 95, 3)) (hX : LwX G s.heap.size H cw F X) (hS : va_S (aH s.heap.size) s.heap H locs) (hl : lv_has ls 22 lv) (hcs : cells + 100 ≤ 624961 ∧ slots + 1000 ≤ 7226742) {a0 a1 a2 : Int32} (v : Int32) (F1 : St → Prop) (hop : ∀ st, F st → Inv st → wan (m_make st a0 a1 a2) = v ∧ F1 (m_make st a0 a1 a2).2.2)
    (kk : ∀ (H1 : Heap) (locs1 : List Loc), LwX G s.heap.size H1 cw F1 X → va_S (aH s.heap.size) s.heap H1 locs1 → W p l e room_1 s m #[Value.ref b] below meth c H1 locs1 (cells + 100) (slots + 1000) Q (F0 m (pc + 3) ls (.int v :: []))) : W p l e room_1 s m #[Value.ref b] below meth c H locs cells slots Q (F0 m pc ls (.int a2 :: .int a1 :: .int a0 :: .ref cw :: [])) := by
  obtain ⟨hx, hb, hml, hown, hts, hG, hb0, hl9⟩ := C0
  obtain ⟨st, ad, Mc, hF, hV, hC, rfl, hd, hP, hI⟩ := hX
  have hA : ∀ q : Nat, s.heap.size ≤ q → aH s.heap.size q := fun _ h => h
  have hPc : mP G.1 Mc H := fun a e he => hP a e (tw_r hd he)
  have hIc : mI (aH s.heap.size) Mc := fun a e he => hI a e (tw_r hd he)
  refine ls_calli (vx_runSX (As := [.ref (ad 0 0), .int a0, .int a1, .int a2]) (rest := []) ⟨hx, hb, hml, hown, hts⟩ (c_L_make l G (aS H Mc) Mc hl9 st ad a0 a1 a2 hC hV) (vx_cwSW 4 hts gL_law_L_make rfl rfl rfl (by decide +kernel) ⟨Nat.le_of_ble_eq_true rfl, Nat.le_of_ble_eq_true rfl⟩) (sPreS hG hS hPc hIc hA) rfl rfl hl.1 rfl (lv_room (Nat.le_of_ble_eq_true rfl)) hdg ⟨by show cells + 9 ≤ 624961; omega, by show slots + 63 ≤ 7226742; omega⟩) hIc hS hA (fun r M9 H1 locs1 hp hP9 hI9 hk9 hS1 => ?_)
  obtain ⟨ad1, hr, hC1, ha1⟩ := hp
  have ho := hop st hF hV
  rw [hr, ho.1]
  refine W.widen (k := cells + 100) (n := slots + 1000) (by omega) (by omega) ?_
  obtain ⟨hd1, hP1, hI1⟩ := tw_mv hS.1 hd hP hI hP9 hI9 hk9
  exact kk H1 locs1 ⟨_, ad1, M9, ho.2, (I_make hV a0 a1 a2), hC1, ha1, hd1, hP1, hI1⟩ hS1
theorem lx_make1 (C0 : TwC p l s m c b G) (hdg : decode cL_law pc = .ok (.invokestatic 95, 3)) (hX : LwX G s.heap.size H cw F X) (hS : va_S (aH s.heap.size) s.heap H locs) (hl : lv_has ls 22 lv) (hcs : cells + 100 ≤ 624961 ∧ slots + 1000 ≤ 7226742) {x9 : Int32} {a0 a1 a2 : Int32} (v : Int32) (F1 : St → Prop) (hop : ∀ st, F st → Inv st → wan (m_make st a0 a1 a2) = v ∧ F1 (m_make st a0 a1 a2).2.2)
    (kk : ∀ (H1 : Heap) (locs1 : List Loc), LwX G s.heap.size H1 cw F1 X → va_S (aH s.heap.size) s.heap H1 locs1 → W p l e room_1 s m #[Value.ref b] below meth c H1 locs1 (cells + 100) (slots + 1000) Q (F0 m (pc + 3) ls (.int v :: [.int x9]))) : W p l e room_1 s m #[Value.ref b] below meth c H locs cells slots Q (F0 m pc ls (.int a2 :: .int a1 :: .int a0 :: .ref cw :: [.int x9])) := by
  obtain ⟨hx, hb, hml, hown, hts, hG, hb0, hl9⟩ := C0
  obtain ⟨st, ad, Mc, hF, hV, hC, rfl, hd, hP, hI⟩ := hX
  have hA : ∀ q : Nat, s.heap.size ≤ q → aH s.heap.size q := fun _ h => h
  have hPc : mP G.1 Mc H := fun a e he => hP a e (tw_r hd he)
  have hIc : mI (aH s.heap.size) Mc := fun a e he => hI a e (tw_r hd he)
  refine ls_calli (vx_runSX (As := [.ref (ad 0 0), .int a0, .int a1, .int a2]) (rest := [.int x9]) ⟨hx, hb, hml, hown, hts⟩ (c_L_make l G (aS H Mc) Mc hl9 st ad a0 a1 a2 hC hV) (vx_cwSW 4 hts gL_law_L_make rfl rfl rfl (by decide +kernel) ⟨Nat.le_of_ble_eq_true rfl, Nat.le_of_ble_eq_true rfl⟩) (sPreS hG hS hPc hIc hA) rfl rfl hl.1 rfl (lv_room (Nat.le_of_ble_eq_true rfl)) hdg ⟨by show cells + 9 ≤ 624961; omega, by show slots + 63 ≤ 7226742; omega⟩) hIc hS hA (fun r M9 H1 locs1 hp hP9 hI9 hk9 hS1 => ?_)
  obtain ⟨ad1, hr, hC1, ha1⟩ := hp
  have ho := hop st hF hV
  rw [hr, ho.1]
  refine W.widen (k := cells + 100) (n := slots + 1000) (by omega) (by omega) ?_
  obtain ⟨hd1, hP1, hI1⟩ := tw_mv hS.1 hd hP hI hP9 hI9 hk9
  exact kk H1 locs1 ⟨_, ad1, M9, ho.2, (I_make hV a0 a1 a2), hC1, ha1, hd1, hP1, hI1⟩ hS1
theorem rI_boiling {st : St} {a0 : Int32} (hV : Inv st) : Inv (m_boiling st a0).2.2 := by
  unfold m_boiling
  first | exact chk_I hV (fun _ => hV) | exact chk_I hV (fun _ => chk_I hV (fun _ => hV)) | exact chk_I hV (fun _ => chk_I hV (fun _ => chk_I hV (fun _ => hV))) | exact chk_I hV (fun _ => chk_I hV (fun _ => chk_I hV (fun _ => chk_I hV (fun _ => hV)))) | exact chk_I hV (fun _ => chk_I hV (fun _ => chk_I hV (fun _ => chk_I hV (fun _ => chk_I hV (fun _ => hV))))) | exact chk_I hV (fun _ => chk_I hV (fun _ => chk_I hV (fun _ => chk_I hV (fun _ => chk_I hV (fun _ => chk_I hV (fun _ => hV))))))
theorem lx_boiling0 (C0 : TwC p l s m c b G) (hdg : decode cL_law pc = .ok (.invokestatic 93, 3)) (hX : LwX G s.heap.size H cw F X) (hS : va_S (aH s.heap.size) s.heap H locs) (hl : lv_has ls 22 lv) (hcs : cells + 100 ≤ 624961 ∧ slots + 1000 ≤ 7226742) {a0 : Int32} (v : Int32) (F1 : St → Prop) (hop : ∀ st, F st → Inv st → wan (m_boiling st a0) = v ∧ F1 (m_boiling st a0).2.2)
    (kk : ∀ (H1 : Heap) (locs1 : List Loc), LwX G s.heap.size H1 cw F1 X → va_S (aH s.heap.size) s.heap H1 locs1 → W p l e room_1 s m #[Value.ref b] below meth c H1 locs1 (cells + 100) (slots + 1000) Q (F0 m (pc + 3) ls (.int v :: []))) : W p l e room_1 s m #[Value.ref b] below meth c H locs cells slots Q (F0 m pc ls (.int a0 :: .ref cw :: [])) := by
  obtain ⟨hx, hb, hml, hown, hts, hG, hb0, hl9⟩ := C0
  obtain ⟨st, ad, Mc, hF, hV, hC, rfl, hd, hP, hI⟩ := hX
  have hA : ∀ q : Nat, s.heap.size ≤ q → aH s.heap.size q := fun _ h => h
  have hPc : mP G.1 Mc H := fun a e he => hP a e (tw_r hd he)
  have hIc : mI (aH s.heap.size) Mc := fun a e he => hI a e (tw_r hd he)
  refine ls_calli (vx_runSX (As := [.ref (ad 0 0), .int a0]) (rest := []) ⟨hx, hb, hml, hown, hts⟩ (c_L_boiling l G (aS H Mc) Mc hl9 st ad a0 hC hV) (vx_cwSW 2 hts gL_law_L_boiling rfl rfl rfl (by decide +kernel) ⟨Nat.le_of_ble_eq_true rfl, Nat.le_of_ble_eq_true rfl⟩) (sPreS hG hS hPc hIc hA) rfl rfl hl.1 rfl (lv_room (Nat.le_of_ble_eq_true rfl)) hdg ⟨by show cells + 1 ≤ 624961; omega, by show slots + 6 ≤ 7226742; omega⟩) hIc hS hA (fun r M9 H1 locs1 hp hP9 hI9 hk9 hS1 => ?_)
  obtain ⟨ad1, hr, hC1, ha1⟩ := hp
  have ho := hop st hF hV
  rw [hr, ho.1]
  refine W.widen (k := cells + 100) (n := slots + 1000) (by omega) (by omega) ?_
  obtain ⟨hd1, hP1, hI1⟩ := tw_mv hS.1 hd hP hI hP9 hI9 hk9
  exact kk H1 locs1 ⟨_, ad1, M9, ho.2, (rI_boiling hV), hC1, ha1, hd1, hP1, hI1⟩ hS1
theorem lx_boiling1 (C0 : TwC p l s m c b G) (hdg : decode cL_law pc = .ok (.invokestatic 93, 3)) (hX : LwX G s.heap.size H cw F X) (hS : va_S (aH s.heap.size) s.heap H locs) (hl : lv_has ls 22 lv) (hcs : cells + 100 ≤ 624961 ∧ slots + 1000 ≤ 7226742) {x9 : Int32} {a0 : Int32} (v : Int32) (F1 : St → Prop) (hop : ∀ st, F st → Inv st → wan (m_boiling st a0) = v ∧ F1 (m_boiling st a0).2.2)
    (kk : ∀ (H1 : Heap) (locs1 : List Loc), LwX G s.heap.size H1 cw F1 X → va_S (aH s.heap.size) s.heap H1 locs1 → W p l e room_1 s m #[Value.ref b] below meth c H1 locs1 (cells + 100) (slots + 1000) Q (F0 m (pc + 3) ls (.int v :: [.int x9]))) : W p l e room_1 s m #[Value.ref b] below meth c H locs cells slots Q (F0 m pc ls (.int a0 :: .ref cw :: [.int x9])) := by
  obtain ⟨hx, hb, hml, hown, hts, hG, hb0, hl9⟩ := C0
  obtain ⟨st, ad, Mc, hF, hV, hC, rfl, hd, hP, hI⟩ := hX
  have hA : ∀ q : Nat, s.heap.size ≤ q → aH s.heap.size q := fun _ h => h
  have hPc : mP G.1 Mc H := fun a e he => hP a e (tw_r hd he)
  have hIc : mI (aH s.heap.size) Mc := fun a e he => hI a e (tw_r hd he)
  refine ls_calli (vx_runSX (As := [.ref (ad 0 0), .int a0]) (rest := [.int x9]) ⟨hx, hb, hml, hown, hts⟩ (c_L_boiling l G (aS H Mc) Mc hl9 st ad a0 hC hV) (vx_cwSW 2 hts gL_law_L_boiling rfl rfl rfl (by decide +kernel) ⟨Nat.le_of_ble_eq_true rfl, Nat.le_of_ble_eq_true rfl⟩) (sPreS hG hS hPc hIc hA) rfl rfl hl.1 rfl (lv_room (Nat.le_of_ble_eq_true rfl)) hdg ⟨by show cells + 1 ≤ 624961; omega, by show slots + 6 ≤ 7226742; omega⟩) hIc hS hA (fun r M9 H1 locs1 hp hP9 hI9 hk9 hS1 => ?_)
  obtain ⟨ad1, hr, hC1, ha1⟩ := hp
  have ho := hop st hF hV
  rw [hr, ho.1]
  refine W.widen (k := cells + 100) (n := slots + 1000) (by omega) (by omega) ?_
  obtain ⟨hd1, hP1, hI1⟩ := tw_mv hS.1 hd hP hI hP9 hI9 hk9
  exact kk H1 locs1 ⟨_, ad1, M9, ho.2, (rI_boiling hV), hC1, ha1, hd1, hP1, hI1⟩ hS1
theorem rI_barometer {st : St} {a0 a1 a2 a3 : Int32} (hV : Inv st) : Inv (m_barometer st a0 a1 a2 a3).2.2 := by
  unfold m_barometer
  first | exact chk_I hV (fun _ => hV) | exact chk_I hV (fun _ => chk_I hV (fun _ => hV)) | exact chk_I hV (fun _ => chk_I hV (fun _ => chk_I hV (fun _ => hV))) | exact chk_I hV (fun _ => chk_I hV (fun _ => chk_I hV (fun _ => chk_I hV (fun _ => hV)))) | exact chk_I hV (fun _ => chk_I hV (fun _ => chk_I hV (fun _ => chk_I hV (fun _ => chk_I hV (fun _ => hV))))) | exact chk_I hV (fun _ => chk_I hV (fun _ => chk_I hV (fun _ => chk_I hV (fun _ => chk_I hV (fun _ => chk_I hV (fun _ => hV))))))
theorem lx_barometer0 (C0 : TwC p l s m c b G) (hdg : decode cL_law pc = .ok (.invokestatic 91, 3)) (hX : LwX G s.heap.size H cw F X) (hS : va_S (aH s.heap.size) s.heap H locs) (hl : lv_has ls 22 lv) (hcs : cells + 100 ≤ 624961 ∧ slots + 1000 ≤ 7226742) {a0 a1 a2 a3 : Int32} (v : Int32) (F1 : St → Prop) (hop : ∀ st, F st → Inv st → wan (m_barometer st a0 a1 a2 a3) = v ∧ F1 (m_barometer st a0 a1 a2 a3).2.2)
    (kk : ∀ (H1 : Heap) (locs1 : List Loc), LwX G s.heap.size H1 cw F1 X → va_S (aH s.heap.size) s.heap H1 locs1 → W p l e room_1 s m #[Value.ref b] below meth c H1 locs1 (cells + 100) (slots + 1000) Q (F0 m (pc + 3) ls (.int v :: []))) : W p l e room_1 s m #[Value.ref b] below meth c H locs cells slots Q (F0 m pc ls (.int a3 :: .int a2 :: .int a1 :: .int a0 :: .ref cw :: [])) := by
  obtain ⟨hx, hb, hml, hown, hts, hG, hb0, hl9⟩ := C0
  obtain ⟨st, ad, Mc, hF, hV, hC, rfl, hd, hP, hI⟩ := hX
  have hA : ∀ q : Nat, s.heap.size ≤ q → aH s.heap.size q := fun _ h => h
  have hPc : mP G.1 Mc H := fun a e he => hP a e (tw_r hd he)
  have hIc : mI (aH s.heap.size) Mc := fun a e he => hI a e (tw_r hd he)
  refine ls_calli (vx_runSX (As := [.ref (ad 0 0), .int a0, .int a1, .int a2, .int a3]) (rest := []) ⟨hx, hb, hml, hown, hts⟩ (c_L_barometer l G (aS H Mc) Mc hl9 st ad a0 a1 a2 a3 hC hV) (vx_cwSW 5 hts gL_law_L_barometer rfl rfl rfl (by decide +kernel) ⟨Nat.le_of_ble_eq_true rfl, Nat.le_of_ble_eq_true rfl⟩) (sPreS hG hS hPc hIc hA) rfl rfl hl.1 rfl (lv_room (Nat.le_of_ble_eq_true rfl)) hdg ⟨by show cells + 4 ≤ 624961; omega, by show slots + 24 ≤ 7226742; omega⟩) hIc hS hA (fun r M9 H1 locs1 hp hP9 hI9 hk9 hS1 => ?_)
  obtain ⟨ad1, hr, hC1, ha1⟩ := hp
  have ho := hop st hF hV
  rw [hr, ho.1]
  refine W.widen (k := cells + 100) (n := slots + 1000) (by omega) (by omega) ?_
  obtain ⟨hd1, hP1, hI1⟩ := tw_mv hS.1 hd hP hI hP9 hI9 hk9
  exact kk H1 locs1 ⟨_, ad1, M9, ho.2, (rI_barometer hV), hC1, ha1, hd1, hP1, hI1⟩ hS1
theorem lx_barometer1 (C0 : TwC p l s m c b G) (hdg : decode cL_law pc = .ok (.invokestatic 91, 3)) (hX : LwX G s.heap.size H cw F X) (hS : va_S (aH s.heap.size) s.heap H locs) (hl : lv_has ls 22 lv) (hcs : cells + 100 ≤ 624961 ∧ slots + 1000 ≤ 7226742) {x9 : Int32} {a0 a1 a2 a3 : Int32} (v : Int32) (F1 : St → Prop) (hop : ∀ st, F st → Inv st → wan (m_barometer st a0 a1 a2 a3) = v ∧ F1 (m_barometer st a0 a1 a2 a3).2.2)
    (kk : ∀ (H1 : Heap) (locs1 : List Loc), LwX G s.heap.size H1 cw F1 X → va_S (aH s.heap.size) s.heap H1 locs1 → W p l e room_1 s m #[Value.ref b] below meth c H1 locs1 (cells + 100) (slots + 1000) Q (F0 m (pc + 3) ls (.int v :: [.int x9]))) : W p l e room_1 s m #[Value.ref b] below meth c H locs cells slots Q (F0 m pc ls (.int a3 :: .int a2 :: .int a1 :: .int a0 :: .ref cw :: [.int x9])) := by
  obtain ⟨hx, hb, hml, hown, hts, hG, hb0, hl9⟩ := C0
  obtain ⟨st, ad, Mc, hF, hV, hC, rfl, hd, hP, hI⟩ := hX
  have hA : ∀ q : Nat, s.heap.size ≤ q → aH s.heap.size q := fun _ h => h
  have hPc : mP G.1 Mc H := fun a e he => hP a e (tw_r hd he)
  have hIc : mI (aH s.heap.size) Mc := fun a e he => hI a e (tw_r hd he)
  refine ls_calli (vx_runSX (As := [.ref (ad 0 0), .int a0, .int a1, .int a2, .int a3]) (rest := [.int x9]) ⟨hx, hb, hml, hown, hts⟩ (c_L_barometer l G (aS H Mc) Mc hl9 st ad a0 a1 a2 a3 hC hV) (vx_cwSW 5 hts gL_law_L_barometer rfl rfl rfl (by decide +kernel) ⟨Nat.le_of_ble_eq_true rfl, Nat.le_of_ble_eq_true rfl⟩) (sPreS hG hS hPc hIc hA) rfl rfl hl.1 rfl (lv_room (Nat.le_of_ble_eq_true rfl)) hdg ⟨by show cells + 4 ≤ 624961; omega, by show slots + 24 ≤ 7226742; omega⟩) hIc hS hA (fun r M9 H1 locs1 hp hP9 hI9 hk9 hS1 => ?_)
  obtain ⟨ad1, hr, hC1, ha1⟩ := hp
  have ho := hop st hF hV
  rw [hr, ho.1]
  refine W.widen (k := cells + 100) (n := slots + 1000) (by omega) (by omega) ?_
  obtain ⟨hd1, hP1, hI1⟩ := tw_mv hS.1 hd hP hI hP9 hI9 hk9
  exact kk H1 locs1 ⟨_, ad1, M9, ho.2, (rI_barometer hV), hC1, ha1, hd1, hP1, hI1⟩ hS1
theorem lx_sound (C0 : TwC p l s m c b G) (hdg : decode cL_law pc = .ok (.invokevirtual 98, 3)) (hX : LwX G s.heap.size H cw F X) (hS : va_S (aH s.heap.size) s.heap H locs) (hl : lv_has ls 22 lv) (hcs : cells ≤ 624961 ∧ slots ≤ 7226742)
    (kk : ∀ (H1 : Heap) (locs1 : List Loc), va_S (aH s.heap.size) s.heap H1 locs1 → W p l e room_1 s m #[Value.ref b] below meth c H1 locs1 cells slots Q (F0 m (pc + 3) ls (.int 1 :: []))) : W p l e room_1 s m #[Value.ref b] below meth c H locs cells slots Q (F0 m pc ls (.ref cw :: [])) := by
  obtain ⟨hx, hb, hml, hown, hts, hG, hb0, hl9⟩ := C0
  obtain ⟨st, ad, Mc, hF, hV, hC, rfl, hd, hP, hI⟩ := hX
  have hA : ∀ q : Nat, s.heap.size ≤ q → aH s.heap.size q := fun _ h => h
  have hPc : mP G.1 Mc H := fun a e he => hP a e (tw_r hd he)
  have hIc : mI (aH s.heap.size) Mc := fun a e he => hI a e (tw_r hd he)
  refine lm_calli (va_runV (As := []) (rest := []) ⟨hx, hb, hml, hown, hts⟩ (c_X4_isSound l G (aS H Mc) Mc st ad hC hV) (cwV 0 hts gL_law_X4_isSound rfl rfl rfl (by decide +kernel) ⟨Nat.le_of_ble_eq_true rfl, Nat.le_of_ble_eq_true rfl⟩) (sPreV hG hS hPc hIc hA (hPc (ad 0 0) _ (hC.1 0 0 (ok0 st))) (r := (RX4, TX4, 9)) rfl) rfl rfl hl.1 rfl (lv_room (Nat.le_of_ble_eq_true rfl)) hdg ⟨by show cells + 0 ≤ 624961; omega, by show slots + 0 ≤ 7226742; omega⟩) hIc hS hA (fun r M9 H1 locs1 hp hP9 hI9 hk9 hS1 => ?_)
  obtain ⟨hr, -⟩ := hp
  subst hr
  exact kk H1 locs1 hS1
end LX
