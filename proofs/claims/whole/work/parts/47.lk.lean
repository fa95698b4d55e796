/-! ===== the law: two sides, and two arrays between them ===== -/
abbrev aH (n : Nat) : Nat → Prop := fun q => n ≤ q
def aS (H : Heap) (M : mw) : Nat → Prop := fun q => H.size ≤ q ∨ M q ≠ none
theorem aS_sub {A : Nat → Prop} {H : Heap} {M : mw} (hA : ∀ q : Nat, H.size ≤ q → A q) (hI : mI A M) : ∀ q, aS H M q → A q := fun q h => h.elim (hA q) (fun z => by
  cases e : M q with
  | none => exact absurd e z
  | some x => exact hI q x e)
def TwS (D : va_G) (n0 : Nat) (H : Heap) (Mc Mr : mw) (o1 o2 : Nat) (E1 E2 : va_E) : Prop :=
  mP D Mc H ∧ mP D Mr H ∧ va_at D vwCl (o1, E1) H ∧ va_at D vwCl (o2, E2) H ∧ (mI (aH n0) Mc ∧ mI (aH n0) Mr ∧ n0 ≤ o1 ∧ n0 ≤ o2) ∧ (∀ q, Mc q ≠ none → Mr q = none) ∧ (Mc o1 = none ∧ Mr o1 = none ∧ Mc o2 = none ∧ Mr o2 = none ∧ o1 ≠ o2)
theorem TwS.sw {D : va_G} {n0 : Nat} {H : Heap} {Mc Mr : mw} {o1 o2 : Nat} {E1 E2 : va_E} (h : TwS D n0 H Mc Mr o1 o2 E1 E2) : TwS D n0 H Mr Mc o1 o2 E1 E2 := by
  obtain ⟨pc, pr, a1, a2, ⟨i1, i2, l1, l2⟩, dj, c1, r1, c2, r2, hne⟩ := h
  refine ⟨pr, pc, a1, a2, ⟨i2, i1, l1, l2⟩, fun q hq => ?_, r1, c1, r2, c2, hne⟩
  cases e : Mc q with
  | none => rfl
  | some x => exact absurd (dj q (by rw [e]; exact fun z => by cases z)) hq
theorem TwS.so {D : va_G} {n0 : Nat} {H : Heap} {Mc Mr : mw} {o1 o2 : Nat} {E1 E2 : va_E} (h : TwS D n0 H Mc Mr o1 o2 E1 E2) : TwS D n0 H Mc Mr o2 o1 E2 E1 := by
  obtain ⟨pc, pr, a1, a2, ⟨i1, i2, l1, l2⟩, dj, c1, r1, c2, r2, hne⟩ := h
  exact ⟨pc, pr, a2, a1, ⟨i1, i2, l2, l1⟩, dj, c2, r2, c1, r1, hne.symm⟩
theorem aS_k {D : va_G} {n0 : Nat} {H : Heap} {Mc Mr : mw} {o1 o2 : Nat} {E1 E2 : va_E} (h : TwS D n0 H Mc Mr o1 o2 E1 E2) {a : Nat} {e : va_E} (he : Mr a = some e) : Mc a = none := by
  cases q : Mc a with
  | none => rfl
  | some x => rw [h.2.2.2.2.2.1 a (by rw [q]; exact fun z => by cases z)] at he; cases he
theorem TwS.c {D : va_G} {n0 : Nat} {H : Heap} {Mc Mr : mw} {o1 o2 : Nat} {E1 E2 : va_E} (h : TwS D n0 H Mc Mr o1 o2 E1 E2) (hn0 : n0 ≤ H.size) {H1 : Heap} {M1 : mw} (hP : mP D M1 H1) (hI : mI (aS H Mc) M1) (hk : ∀ q : Nat, q < H.size → ¬ aS H Mc q → H1[q]? = H[q]?) : TwS D n0 H1 M1 Mr o1 o2 E1 E2 := by
  have hmr := fun {a : Nat} {e : va_E} (he : Mr a = some e) => aS_k h he
  obtain ⟨pc, pr, a1, a2, ⟨i1, i2, l1, l2⟩, dj, c1, r1, c2, r2, hne⟩ := h
  have keep : ∀ q : Nat, q < H.size → Mc q = none → H1[q]? = H[q]? := fun q hq hn => hk q hq (fun z => z.elim (fun z => by omega) (fun z => z hn))
  have key : ∀ q, M1 q ≠ none → H.size ≤ q ∨ Mc q ≠ none := fun q hq => by
    cases e : M1 q with
    | none => exact absurd e hq
    | some x => exact hI q x e
  have off : ∀ q : Nat, q < H.size → Mc q = none → M1 q = none := fun q hq hn => by
    cases e : M1 q with
    | none => rfl
    | some x => exact absurd (key q (by rw [e]; exact fun z => by cases z)) (fun z => z.elim (fun z => by omega) (fun z => z hn))
  refine ⟨hP, fun a e he => (pr a e he).kept (keep a (pr.lt he) (hmr he)), a1.kept (keep o1 a1.lt c1), a2.kept (keep o2 a2.lt c2), ⟨fun a e he => ?_, i2, l1, l2⟩, fun q hq => ?_, off o1 a1.lt c1, r1, off o2 a2.lt c2, r2, hne⟩
  · exact aS_sub (A := aH n0) (fun q hq => Nat.le_trans hn0 hq) i1 a (hI a e he)
  · rcases key q hq with z | z
    · exact pr.none z
    · exact dj q z
theorem TwS.c1 {D : va_G} {n0 : Nat} {H : Heap} {Mc Mr : mw} {o1 o2 : Nat} {E1 E2 : va_E} (h : TwS D n0 H Mc Mr o1 o2 E1 E2) (hn0 : n0 ≤ H.size) {H1 : Heap} {M1 : mw} {e1 : va_E} (hP : mP D (mu M1 o1 e1) H1) (hn : M1 o1 = none) (hI : mI (aS H (mu Mc o1 E1)) (mu M1 o1 e1)) (hk : ∀ q : Nat, q < H.size → ¬ aS H (mu Mc o1 E1) q → H1[q]? = H[q]?) : TwS D n0 H1 M1 Mr o1 o2 e1 E2 := by
  have hmr := fun {a : Nat} {e : va_E} (he : Mr a = some e) => aS_k h he
  obtain ⟨pc, pr, a1, a2, ⟨i1, i2, l1, l2⟩, dj, c1, r1, c2, r2, hne⟩ := h
  have keep : ∀ q : Nat, q < H.size → q ≠ o1 → Mc q = none → H1[q]? = H[q]? := fun q hq hqo hn => hk q hq (fun z => z.elim (fun z => by omega) (fun z => z (by rw [mu_n hqo]; exact hn)))
  have key : ∀ q, M1 q ≠ none → H.size ≤ q ∨ Mc q ≠ none := fun q hq => by
    cases e : M1 q with
    | none => exact absurd e hq
    | some x =>
      have hqo : q ≠ o1 := fun z => by rw [z, hn] at e; cases e
      rcases hI q x (mu_q hn e) with z | z
      · exact Or.inl z
      · rw [mu_n hqo] at z
        exact Or.inr z
  have off : ∀ q : Nat, q < H.size → Mc q = none → M1 q = none := fun q hq hn => by
    cases e : M1 q with
    | none => rfl
    | some x => exact absurd (key q (by rw [e]; exact fun z => by cases z)) (fun z => z.elim (fun z => by omega) (fun z => z hn))
  refine ⟨mP_dn hn hP, fun a e he => (pr a e he).kept (keep a (pr.lt he) (fun z => by rw [z, r1] at he; cases he) (hmr he)), hP o1 e1 mu_s, a2.kept (keep o2 a2.lt hne.symm c2), ⟨fun a e he => ?_, i2, l1, l2⟩, fun q hq => ?_, hn, r1, off o2 a2.lt c2, r2, hne⟩
  · rcases key a (by rw [he]; exact fun z => by cases z) with z | z
    · exact Nat.le_trans hn0 z
    · cases q : Mc a with
      | none => exact absurd q z
      | some x => exact i1 a x q
  · rcases key q hq with z | z
    · exact pr.none z
    · exact dj q z
theorem mP_o {D : va_G} {M : mw} {H : Heap} {o : Nat} {e : va_E} (h : mP D M H) (ho : va_at D vwCl (o, e) H) : mP D (mu M o e) H := fun a x hx => by
  by_cases z : a = o
  · subst z
    rw [mu_s] at hx
    cases hx
    exact ho
  · rw [mu_n z] at hx
    exact h a x hx
/-- the union of two worlds -/
def twU (M N : mw) : mw := fun q => match M q with | some e => some e | none => N q
theorem twU_l {M N : mw} {q : Nat} {e : va_E} (h : M q = some e) : twU M N q = some e := by unfold twU; rw [h]
theorem twU_r {M N : mw} {q : Nat} (h : M q = none) : twU M N q = N q := by unfold twU; rw [h]
theorem twU_n {M N : mw} {q : Nat} (h : twU M N q = none) : M q = none ∧ N q = none := by
  cases e : M q with
  | none => exact ⟨rfl, by rw [← twU_r (N := N) e]; exact h⟩
  | some x => rw [twU_l e] at h; cases h
theorem mP.twU {D : va_G} {M N : mw} {H : Heap} (h1 : mP D M H) (h2 : mP D N H) : mP D (twU M N) H := fun a e he => by
  cases q : M a with
  | none => rw [twU_r q] at he; exact h2 a e he
  | some x => rw [twU_l q] at he; cases he; exact h1 a _ q
theorem mI.twU {A : Nat → Prop} {M N : mw} (h1 : mI A M) (h2 : mI A N) : mI A (twU M N) := fun a e he => by
  cases q : M a with
  | none => rw [twU_r q] at he; exact h2 a e he
  | some x => exact h1 a x q
theorem ne_of_none {M : mw} {a : Nat} {e : va_E} {b : Nat} (h : M a = some e) (hb : M b = none) : a ≠ b := fun z => by rw [z, hb] at h; cases h
section MCTX
variable {p : Program} {l : Launch} {e : Env} {R : Room} {s : State} {m : MethodId} {args : Array Value} {below : List Frame} {meth : Method} {c : Code} {H : Heap} {locs : List Loc} {cells slots : Nat} {Q : State → Prop}
variable {cc : ByteArray} {pc : Nat} {ls : Array Slot} {rest st0 : List Value} {a : Array Value} {A : Nat → Prop} {mc ms : Nat} {G : mg} {M : mw} {D : va_G} {tys : List (ClassId × FieldType)} {b : Nat}
theorem sPre (hG : GK G A s) (hS : va_S A s.heap H locs) (hP : mP G.1 M H) (hI : mI A M) (hA : ∀ q : Nat, s.heap.size ≤ q → A q) (U : State) (hU : U.heap = H) (hW : s.WarmedH U.vm) : mB G (aS H M) M U := by
  have hg := hG.move hS hU hW
  exact ⟨⟨hg.1, hg.2.1, hg.2.2.narrow (aS_sub (fun q hq => hA q (Nat.le_trans hS.1 hq)) hI)⟩, by rw [hU]; exact hP, fun a e he => Or.inr (by rw [he]; exact fun z => by cases z), fun q hq => Or.inl (by rw [← hU]; exact hq)⟩
theorem sPreS (hG : GK G A s) (hS : va_S A s.heap H locs) (hP : mP G.1 M H) (hI : mI A M) (hA : ∀ q : Nat, s.heap.size ≤ q → A q) {As : List Value} : PreS s H (va_Pc As (mB G (aS H M) M)) As :=
  ⟨fun a U g mk h => mB.blind a U g mk h, fun U hU hW => ⟨rfl, sPre hG hS hP hI hA U hU hW⟩⟩
theorem sPreV (hG : GK G A s) (hS : va_S A s.heap H locs) (hP : mP G.1 M H) (hI : mI A M) (hA : ∀ q : Nat, s.heap.size ≤ q → A q) {As : List Value} {b ci : Nat} {fs : List Value} (hb : va_at G.1 vwCl (b, .inr (ci, fs)) H) {r : vw_C} (hc : vwCl[ci]? = some r) : PreV s H r.1 b (va_Pc (.ref b :: As) (mB G (aS H M) M)) As :=
  ⟨fun a U g mk h => mB.blind a U g mk h, va_recv hG.K hb.one hc (q0 := 0) rfl, fun U hU hW => ⟨rfl, sPre hG hS hP hI hA U hU hW⟩⟩
theorem ls_calli {post : Int32 → mw → Prop} (hr : vx_Run p l e R s m args below meth c H locs cells slots mc ms (F0 m pc ls st0) rest (va_Qi post (mE G (aS H M)) (aS H M) a) (xX (fun _ => False) G (aS H M) M) (aS H M)) (hI : mI A M) (hS : va_S A s.heap H locs) (hA : ∀ q : Nat, s.heap.size ≤ q → A q)
    (kk : ∀ (r : Int32) (M1 : mw) (H1 : Heap) (locs1 : List Loc), post r M1 → mP G.1 M1 H1 → mI (aS H M) M1 → (∀ q : Nat, q < H.size → ¬ aS H M q → H1[q]? = H[q]?) → va_S A s.heap H1 locs1 → W p l e R s m args below meth c H1 locs1 (cells + mc) (slots + ms) Q (F0 m (pc + 3) ls (.int r :: rest))) : W p l e R s m args below meth c H locs cells slots Q (F0 m pc ls st0) :=
  have sub := aS_sub (fun q hq => hA q (Nat.le_trans hS.1 hq)) hI
  vx_calli hr hS (fun q _ h => sub q h) (fun q h => sub q h) (fun q _ h => sub q h) (fun _ _ _ _ _ _ _ _ _ hp _ _ _ _ _ _ _ => False.elim hp) (fun r u t H1 locs1 ht _ hp hB _ hk hS1 => kk r u H1 locs1 hp (by rw [← ht]; exact hB.1) hB.2 hk hS1)
theorem lm_calli {post : Int32 → mw → Prop} (hr : va_Run p l e R s m args below meth c H locs cells slots mc ms (F0 m pc ls st0) rest (va_Qi post (mE G (aS H M)) (aS H M) a) (aS H M)) (hI : mI A M) (hS : va_S A s.heap H locs) (hA : ∀ q : Nat, s.heap.size ≤ q → A q)
    (kk : ∀ (r : Int32) (M1 : mw) (H1 : Heap) (locs1 : List Loc), post r M1 → mP G.1 M1 H1 → mI (aS H M) M1 → (∀ q : Nat, q < H.size → ¬ aS H M q → H1[q]? = H[q]?) → va_S A s.heap H1 locs1 → W p l e R s m args below meth c H1 locs1 (cells + mc) (slots + ms) Q (F0 m (pc + 3) ls (.int r :: rest))) : W p l e R s m args below meth c H locs cells slots Q (F0 m pc ls st0) :=
  have sub := aS_sub (fun q hq => hA q (Nat.le_trans hS.1 hq)) hI
  va_calli hr hS (fun q _ h => sub q h) (fun q h => sub q h) (fun r u t H1 locs1 ht _ hp hB _ hk hS1 => kk r u H1 locs1 hp (by rw [← ht]; exact hB.1) hB.2 hk hS1)
theorem lm_calll {post : Int64 → mw → Prop} (hr : va_Run p l e R s m args below meth c H locs cells slots mc ms (F0 m pc ls st0) rest (va_Ql post (mE G (aS H M)) (aS H M) a) (aS H M)) (hI : mI A M) (hS : va_S A s.heap H locs) (hA : ∀ q : Nat, s.heap.size ≤ q → A q)
    (kk : ∀ (r : Int64) (M1 : mw) (H1 : Heap) (locs1 : List Loc), post r M1 → mP G.1 M1 H1 → mI (aS H M) M1 → (∀ q : Nat, q < H.size → ¬ aS H M q → H1[q]? = H[q]?) → va_S A s.heap H1 locs1 → W p l e R s m args below meth c H1 locs1 (cells + mc) (slots + ms) Q (F0 m (pc + 3) ls (.long r :: rest))) : W p l e R s m args below meth c H locs cells slots Q (F0 m pc ls st0) :=
  have sub := aS_sub (fun q hq => hA q (Nat.le_trans hS.1 hq)) hI
  va_calll hr hS (fun q _ h => sub q h) (fun q h => sub q h) (fun r u t H1 locs1 ht _ hp hB _ hk hS1 => kk r u H1 locs1 hp (by rw [← ht]; exact hB.1) hB.2 hk hS1)
theorem lm_callf {post : UInt32 → mw → Prop} (hr : va_Run p l e R s m args below meth c H locs cells slots mc ms (F0 m pc ls st0) rest (va_Qf post (mE G (aS H M)) (aS H M) a) (aS H M)) (hI : mI A M) (hS : va_S A s.heap H locs) (hA : ∀ q : Nat, s.heap.size ≤ q → A q)
    (kk : ∀ (r : UInt32) (M1 : mw) (H1 : Heap) (locs1 : List Loc), post r M1 → mP G.1 M1 H1 → mI (aS H M) M1 → (∀ q : Nat, q < H.size → ¬ aS H M q → H1[q]? = H[q]?) → va_S A s.heap H1 locs1 → W p l e R s m args below meth c H1 locs1 (cells + mc) (slots + ms) Q (F0 m (pc + 3) ls (.float r :: rest))) : W p l e R s m args below meth c H locs cells slots Q (F0 m pc ls st0) :=
  have sub := aS_sub (fun q hq => hA q (Nat.le_trans hS.1 hq)) hI
  va_callf hr hS (fun q _ h => sub q h) (fun q h => sub q h) (fun r u t H1 locs1 ht _ hp hB _ hk hS1 => kk r u H1 locs1 hp (by rw [← ht]; exact hB.1) hB.2 hk hS1)
theorem lm_calld {post : UInt64 → mw → Prop} (hr : va_Run p l e R s m args below meth c H locs cells slots mc ms (F0 m pc ls st0) rest (va_Qd post (mE G (aS H M)) (aS H M) a) (aS H M)) (hI : mI A M) (hS : va_S A s.heap H locs) (hA : ∀ q : Nat, s.heap.size ≤ q → A q)
    (kk : ∀ (r : UInt64) (M1 : mw) (H1 : Heap) (locs1 : List Loc), post r M1 → mP G.1 M1 H1 → mI (aS H M) M1 → (∀ q : Nat, q < H.size → ¬ aS H M q → H1[q]? = H[q]?) → va_S A s.heap H1 locs1 → W p l e R s m args below meth c H1 locs1 (cells + mc) (slots + ms) Q (F0 m (pc + 3) ls (.double r :: rest))) : W p l e R s m args below meth c H locs cells slots Q (F0 m pc ls st0) :=
  have sub := aS_sub (fun q hq => hA q (Nat.le_trans hS.1 hq)) hI
  va_calld hr hS (fun q _ h => sub q h) (fun q h => sub q h) (fun r u t H1 locs1 ht _ hp hB _ hk hS1 => kk r u H1 locs1 hp (by rw [← ht]; exact hB.1) hB.2 hk hS1)
theorem lm_callv {post : mw → Prop} (hr : va_Run p l e R s m args below meth c H locs cells slots mc ms (F0 m pc ls st0) rest (va_Qv post (mE G (aS H M)) (aS H M) a) (aS H M)) (hI : mI A M) (hS : va_S A s.heap H locs) (hA : ∀ q : Nat, s.heap.size ≤ q → A q)
    (kk : ∀ (M1 : mw) (H1 : Heap) (locs1 : List Loc), post M1 → mP G.1 M1 H1 → mI (aS H M) M1 → (∀ q : Nat, q < H.size → ¬ aS H M q → H1[q]? = H[q]?) → va_S A s.heap H1 locs1 → W p l e R s m args below meth c H1 locs1 (cells + mc) (slots + ms) Q (F0 m (pc + 3) ls rest)) : W p l e R s m args below meth c H locs cells slots Q (F0 m pc ls st0) :=
  have sub := aS_sub (fun q hq => hA q (Nat.le_trans hS.1 hq)) hI
  va_callv hr hS (fun q _ h => sub q h) (fun q h => sub q h) (fun u t H1 locs1 ht _ hp hB _ hk hS1 => kk u H1 locs1 hp (by rw [← ht]; exact hB.1) hB.2 hk hS1)
theorem lm_lald (hexec : p.tables.exec = Jvm.exec) (hb : c.code = cc) (hK : va_K D vwCl tys s) (t0 : Nat) {cA : ClassId} {n : Nat} {f : Nat → Int64} (ha : va_at D vwCl (b, .inl (cA, n, .inr (.inl f))) H) (ht : tys[t0]? = some (cA, .long)) {i : Int32} (hin : vp_in i n) {v : Int64} (hv : f i.toNatClampNeg = v) (hdg : decode cc pc = .ok (.laload, 1))
    (kk : W p l e R s m args below meth c H locs cells slots Q (F0 m (pc + 1) ls (.long v :: rest))) : W p l e R s m args below meth c H locs cells slots Q (F0 m pc ls (.int i :: .ref b :: rest)) :=
  va_lald hexec hb hK ha.one 0 t0 rfl ht hin hdg (by rw [hv]; exact kk)
theorem lm_dald (hexec : p.tables.exec = Jvm.exec) (hb : c.code = cc) (hK : va_K D vwCl tys s) (t0 : Nat) {cA : ClassId} {n : Nat} {f : Nat → UInt64} (ha : va_at D vwCl (b, .inl (cA, n, .inr (.inr (.inr (.inl f))))) H) (ht : tys[t0]? = some (cA, .double)) {i : Int32} (hin : vp_in i n) {v : UInt64} (hv : f i.toNatClampNeg = v) (hdg : decode cc pc = .ok (.daload, 1))
    (kk : W p l e R s m args below meth c H locs cells slots Q (F0 m (pc + 1) ls (.double v :: rest))) : W p l e R s m args below meth c H locs cells slots Q (F0 m pc ls (.int i :: .ref b :: rest)) :=
  va_dald hexec hb hK ha.one 0 t0 rfl ht hin hdg (by rw [hv]; exact kk)
theorem lm_sld (hexec : p.tables.exec = Jvm.exec) (hb : c.code = cc) {b L : Nat} {xs : Nat → Int32} (hX : va_X b L xs s s.heap) (hbl : b < s.heap.size) (hS : va_S (aH s.heap.size) s.heap H locs) {i : Int32} (hin : vp_in i L) {v : Int32} (hv : xs i.toNatClampNeg = v) (hdg : decode cc pc = .ok (.iaload, 1))
    (kk : W p l e R s m args below meth c H locs cells slots Q (F0 m (pc + 1) ls (.int v :: rest))) : W p l e R s m args below meth c H locs cells slots Q (F0 m pc ls (.int i :: .ref b :: rest)) :=
  va_sld hexec hb hX hbl (Nat.not_le.mpr hbl) hS hin hdg (by rw [hv]; exact kk)
end MCTX
theorem cmp_i (a : Int) : compare a a = .eq := by simp [compare, compareOfLessAndEq]
theorem ord_self : ∀ d : FP.Core.Datum, d ≠ .nan → FP.Core.order d d = some .eq
  | .nan, h => absurd rfl h
  | .inf _, _ => congrArg some (cmp_i _)
  | .fin _ _ _, _ => congrArg some (cmp_i _)
theorem n64_dec {x : UInt64} (h : vf_n64 x) : FP.Core.decode FP.Core.b64 x.toNat ≠ .nan := by
  refine en_nz ?_
  unfold vf_n64 at h
  rw [UInt64.le_iff_toNat_le, UInt64.toNat_and] at h
  have e : (0x7fffffffffffffff : UInt64).toNat = 2 ^ 63 - 1 := rfl
  have e2 : (0x7ff0000000000000 : UInt64).toNat = 2047 * 2 ^ 52 := rfl
  rw [e, e2, Nat.and_two_pow_sub_one_eq_mod] at h
  exact h
theorem dcmp_z {x y : UInt64} (h : vf_n64 x) (e : x = y) : Op.cmpValue (FP.dcmp x y) .l = 0 := by
  subst e
  have hc : FP.dcmp x x = some .eq := by
    show FP.Core.order (FP.Core.decode FP.Core.b64 x.toNat) (FP.Core.decode FP.Core.b64 x.toNat) = some .eq
    exact ord_self _ (n64_dec h)
  rw [hc]
  rfl
theorem chk_le {P : Prop} {k : Nat} {s : St} {r : Nat × Int32 × St} (hk : k < 100) (h : r.1 < 100) : (chk P k s r).1 < 100 := by
  by_cases q : P
  · rw [chk_p q]
    exact h
  · rw [chk_n q]
    exact hk
theorem le_0 {x : Int32} {s : St} : ((0, x, s) : Nat × Int32 × St).1 < 100 := by show (0 : Nat) < 100; omega
theorem nI_z {n : Nat} (hn : n < 100) (h : nI n = 0) : n = 0 := by
  have h1 : (nI n).toNatClampNeg = n := nI_clamp (by omega)
  rw [h] at h1
  exact h1.symm
/-- the machine, the law's words, the script -/
def TwC (p : Program) (l : Launch) (s : State) (m : MethodId) (c : Code) (b L : Nat) (xs : Nat → Int32) (G : mg) : Prop :=
  p.tables.exec = Jvm.exec ∧ c.code = cL_law ∧ c.maxLocals = 9 ∧ s.vm.findClass RL = some m.cls ∧ (∀ w ∈ wsL_law, w.before #[Value.ref b] s = true) ∧ va_X b L xs s s.heap ∧ b < s.heap.size ∧ GK G (aH s.heap.size) s ∧ l.stackTraces = false
/-- at the loop's head -/
def TwI (G : mg) (n0 : Nat) (H : Heap) (cw rw o1 o2 : Nat) (st : St) : Prop :=
  ∃ (ad : adr) (g : gR) (Mc Mr : mw) (f1 : Nat → Int64) (f2 : Nat → UInt64), CS G st ad Mc ∧ RS G st g Mr ∧ Inv st ∧ ad 0 0 = cw ∧ g.1 0 0 = rw ∧ TwS G.1 n0 H Mc Mr o1 o2 (.inl (G.2.1 1, 1, .inr (.inl f1))) (.inl (G.2.1 2, 1, .inr (.inr (.inr (.inl f2)))))
