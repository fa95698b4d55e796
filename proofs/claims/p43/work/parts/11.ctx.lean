/-! ===== what every contract takes as given of the machine ===== -/
def gnF : List (String × Nat × String × String × String × String) := [("Meniscus", 99, "Meniscus$Tube", "used", "Z", "Meniscus"), ("Meniscus$Instrument", 119, "Meniscus$Readings", "count", "I", "Meniscus"), ("Meniscus", 282, "Meniscus$Instrument", "tubeNumber", "I", "Meniscus")]
def gnM : List (String × Nat × MethodName × String) := [("Meniscus$Instrument", 11, ⟨"Meniscus$Readings", "<init>", "()V"⟩, "Meniscus")]
def gcast : List (String × String) := [("java/lang/IllegalArgumentException", "java/lang/IllegalArgumentException"), ("java/lang/IllegalStateException", "java/lang/IllegalStateException"), ("java/lang/IndexOutOfBoundsException", "java/lang/IndexOutOfBoundsException"), ("java/lang/UnsupportedOperationException", "java/lang/UnsupportedOperationException"), ("java/util/NoSuchElementException", "java/util/NoSuchElementException"), ("Meniscus", "java/lang/Object"), ("java/lang/IllegalArgumentException", "java/lang/Object"), ("java/lang/IllegalStateException", "java/lang/Object"), ("Meniscus$Tube", "java/lang/Object"), ("java/lang/IndexOutOfBoundsException", "java/lang/Object"), ("java/lang/UnsupportedOperationException", "java/lang/Object"), ("java/util/NoSuchElementException", "java/lang/Object"), ("Meniscus$Instrument", "java/lang/Object"), ("Meniscus$Readings", "java/lang/Object"), ("Meniscus$Scale", "java/lang/Object"), ("java/lang/Throwable", "java/lang/Object"), ("java/lang/String", "java/lang/Object")]
def gnc : List (String × String) := [("java/lang/IllegalArgumentException", "java/lang/IllegalStateException"), ("java/lang/IllegalArgumentException", "java/lang/IndexOutOfBoundsException"), ("java/lang/IllegalArgumentException", "java/lang/UnsupportedOperationException"), ("java/lang/IllegalArgumentException", "java/util/NoSuchElementException"), ("java/lang/IllegalStateException", "java/lang/IllegalArgumentException"), ("java/lang/IllegalStateException", "java/lang/IndexOutOfBoundsException"), ("java/lang/IllegalStateException", "java/lang/UnsupportedOperationException"), ("java/lang/IllegalStateException", "java/util/NoSuchElementException"), ("java/lang/IndexOutOfBoundsException", "java/lang/IllegalArgumentException"), ("java/lang/IndexOutOfBoundsException", "java/lang/IllegalStateException"), ("java/lang/IndexOutOfBoundsException", "java/lang/UnsupportedOperationException"), ("java/lang/IndexOutOfBoundsException", "java/util/NoSuchElementException"), ("java/lang/UnsupportedOperationException", "java/lang/IllegalArgumentException"), ("java/lang/UnsupportedOperationException", "java/lang/IllegalStateException"), ("java/lang/UnsupportedOperationException", "java/lang/IndexOutOfBoundsException"), ("java/lang/UnsupportedOperationException", "java/util/NoSuchElementException"), ("java/util/NoSuchElementException", "java/lang/IllegalArgumentException"), ("java/util/NoSuchElementException", "java/lang/IllegalStateException"), ("java/util/NoSuchElementException", "java/lang/IndexOutOfBoundsException"), ("java/util/NoSuchElementException", "java/lang/UnsupportedOperationException")]
def gstr : List (Nat × String) := [(302, "a number is out of range"), (34, "no more tubes"), (290, "no such tube"), (306, "the tube is used"), (70, "the thread goes beyond the tube"), (79, "the second place is not lower"), (304, "there is no such kind"), (97, "no more instruments")]
def gdecl : List MethodName := [⟨"java/lang/RuntimeException", "<init>", "(Ljava/lang/String;)V"⟩, ⟨"java/lang/Exception", "<init>", "(Ljava/lang/String;)V"⟩, ⟨"java/lang/Throwable", "<init>", "(Ljava/lang/String;)V"⟩]
/-- the classes of arrays: int (three times, so that the places stay); of tubes, of instruments -/
abbrev gtys (G : mg) : List (ClassId × FieldType) := [(G.2.1 0, .int), (G.2.1 0, .int), (G.2.1 0, .int), (G.2.1 3, .object "Meniscus$Tube"), (G.2.1 4, .object "Meniscus$Instrument")]
/-- what the tables say, as long as the machine runs -/
def GKv (G : mg) (U : State) : Prop :=
  va_K G.1 vwCl (gtys G) U ∧
  (∀ q ∈ gnF, va_Nw (.fieldLinkNest q.1 q.2.1 q.2.2.1 q.2.2.2.1 q.2.2.2.2.1 q.2.2.2.2.2) U) ∧
  (∀ q ∈ gnM, va_Nw (.methodLinkNest q.1 q.2.1 q.2.2.1 q.2.2.2) U) ∧
  (∀ q ∈ gcast, va_Nw (.castable q.1 q.2) U) ∧
  (∀ q ∈ gnc, va_Nc q.1 q.2 U) ∧
  (∀ q ∈ gstr, ∃ sa : Nat, vk_R "Meniscus" q.1 q.2 sa U) ∧
  True ∧ va_AO "Meniscus$Tube" U ∧ va_AO "Meniscus$Instrument" U ∧ True ∧ True ∧
  (∀ x ∈ gdecl, va_Nw (.declares x) U)
/-- what nobody writes: two statics of Throwable, the script -/
def GKh (G : mg) (A : Nat → Prop) (U : State) (H : Heap) : Prop :=
  vx_Zq Bundle.tN "UNASSIGNED_STACK" Bundle.steD A U H ∧ vx_Zq Bundle.tN "SUPPRESSED_SENTINEL" Bundle.listD A U H ∧
  (va_X (G.2.2.2 0) (G.2.2.2 1) G.2.2.1 U H ∧ ¬ A (G.2.2.2 0))
def GKc (G : mg) : Prop := G.2.2.2 1 ≤ 260
def GK (G : mg) (A : Nat → Prop) (U : State) : Prop := GKc G ∧ GKv G U ∧ GKh G A U U.heap
theorem va_X.lt {b L : Nat} {xs : Nat → Int32} {U : State} {H : Heap} (h : va_X b L xs U H) : b < H.size := by
  obtain ⟨scr, h1, -⟩ := h
  exact (Array.getElem?_eq_some_iff.mp h1).1
theorem GKv.warm {G : mg} {s U : State} (hW : s.WarmedH U.vm) (h : GKv G s) : GKv G U := by
  obtain ⟨h1, h2, h3, h4, h5, h6, h7, h8, h9, h10, h11, h12⟩ := h
  refine ⟨va_K.moved hW.alike h1, fun q hq => va_Nw.warmF hW (h2 q hq), fun q hq => va_Nw.warmM hW (h3 q hq), fun q hq => va_Nw.warmC hW (h4 q hq), fun q hq => va_Nc.moved hW.alike (h5 q hq), fun q hq => ?_, trivial, va_AO.moved hW.alike h8, va_AO.moved hW.alike h9, trivial, trivial, fun x hx => va_Nw.warmD hW (h12 x hx)⟩
  obtain ⟨sa, hsa⟩ := h6 q hq
  exact ⟨sa, vk_R.warm hW hsa⟩
theorem GKv.same {G : mg} {s U : State} (hv : U.vm = s.vm) (h : GKv G s) : GKv G U := by
  have hW : s.vm.Alike U.vm := by rw [hv]; exact Vm.Alike.refl _
  obtain ⟨h1, h2, h3, h4, h5, h6, h7, h8, h9, h10, h11, h12⟩ := h
  refine ⟨va_K.moved hW h1, fun q hq => va_Nw.same rfl hv.symm (h2 q hq), fun q hq => va_Nw.same rfl hv.symm (h3 q hq), fun q hq => va_Nw.same rfl hv.symm (h4 q hq), fun q hq => va_Nc.moved hW (h5 q hq), fun q hq => ?_, trivial, va_AO.moved hW h8, va_AO.moved hW h9, trivial, trivial, fun x hx => va_Nw.same rfl hv.symm (h12 x hx)⟩
  obtain ⟨sa, hsa⟩ := h6 q hq
  exact ⟨sa, vk_R.same hv hsa⟩
theorem GKh.moved {G : mg} {A : Nat → Prop} {u U : State} {H : Heap} (hvm : u.vm.Alike U.vm) (h : GKh G A u H) : GKh G A U H :=
  ⟨vx_Zq.moved hvm h.1, vx_Zq.moved hvm h.2.1, va_X.moved hvm h.2.2.1, h.2.2.2⟩
theorem GKh.kept {G : mg} {A : Nat → Prop} {U : State} {H H1 : Heap} (h : GKh G A U H) (hq : ∀ a : Nat, a < H.size → ¬ A a → H1[a]? = H[a]?) : GKh G A U H1 :=
  ⟨vx_Zq.kept h.1 hq, vx_Zq.kept h.2.1 hq, va_X.kept h.2.2.1 (hq _ h.2.2.1.lt h.2.2.2), h.2.2.2⟩
theorem GKh.narrow {G : mg} {A B : Nat → Prop} {U : State} {H : Heap} (h : GKh G A U H) (hAB : ∀ q, B q → A q) : GKh G B U H :=
  ⟨vx_Zq.narrow h.1 hAB, vx_Zq.narrow h.2.1 hAB, h.2.2.1, fun z => h.2.2.2 (hAB _ z)⟩
theorem GK.same {G : mg} {A : Nat → Prop} {s U : State} (hv : U.vm = s.vm) (hh : U.heap = s.heap) (h : GK G A s) : GK G A U := by
  refine ⟨h.1, h.2.1.same hv, ?_⟩
  rw [hh]
  exact GKh.moved (by rw [hv]; exact Vm.Alike.refl _) h.2.2
theorem GK.move {G : mg} {A : Nat → Prop} {s U : State} {H : Heap} {locs : List Loc} (h : GK G A s) (hS : va_S A s.heap H locs) (hU : U.heap = H) (hW : s.WarmedH U.vm) : GK G A U :=
  ⟨h.1, h.2.1.warm hW, by rw [hU]; exact (GKh.moved hW.alike h.2.2).kept hS.2.1⟩
theorem GK.K {G : mg} {A : Nat → Prop} {s : State} (h : GK G A s) : va_K G.1 vwCl (gtys G) s := h.2.1.1

/-- before a method -/
def mB (G : mg) (A : Nat → Prop) (M : mw) (U : State) : Prop := GK G A U ∧ mP G.1 M U.heap ∧ mI A M ∧ ∀ q : Nat, U.heap.size ≤ q → A q
/-- behind it -/
def mE (G : mg) (A : Nat → Prop) (M : mw) (t : State) : Prop := mP G.1 M t.heap ∧ mI A M
/-- the exceptions that leave a method: which, and that the world stands as it was -/
abbrev xX (px : String → Prop) (G : mg) (A : Nat → Prop) (M : mw) : String → State → State → Prop := vx_X (S := String) px (fun E u t => E = u ∧ mE G A M t) A
theorem mB.blind {G : mg} {A : Nat → Prop} {M : mw} {av : List Value} (a : Array Value) (U : State) (g : JFrame) (mk : MethodId) (h : va_Pc av (mB G A M) a U) : va_Pc av (mB G A M) a (U.calling g mk a) :=
  ⟨h.1, h.2.1.same rfl rfl, h.2.2.1, h.2.2.2.1, h.2.2.2.2⟩
section MCTX
variable {p : Program} {l : Launch} {e : Env} {R : Room} {s : State} {m : MethodId} {args : Array Value} {below : List Frame} {meth : Method} {c : Code} {H : Heap} {locs : List Loc} {cells slots : Nat} {Q : State → Prop}
variable {pc : Nat} {ls : Array Slot} {rest st0 : List Value} {a : Array Value} {A : Nat → Prop} {mc ms : Nat} {G : mg} {M : mw}
theorem mPre (hG : GK G A s) (hS : va_S A s.heap H locs) (hP : mP G.1 M H) (hI : mI A M) (hA : ∀ q : Nat, s.heap.size ≤ q → A q) (U : State) (hU : U.heap = H) (hW : s.WarmedH U.vm) : mB G A M U :=
  ⟨hG.move hS hU hW, by rw [hU]; exact hP, hI, fun q hq => hA q (Nat.le_trans hS.1 (by rw [← hU]; exact hq))⟩
theorem mPreS (hG : GK G A s) (hS : va_S A s.heap H locs) (hP : mP G.1 M H) (hI : mI A M) (hA : ∀ q : Nat, s.heap.size ≤ q → A q) {As : List Value} : PreS s H (va_Pc As (mB G A M)) As :=
  ⟨fun a U g mk h => mB.blind a U g mk h, fun U hU hW => ⟨rfl, mPre hG hS hP hI hA U hU hW⟩⟩
theorem mPreV (hG : GK G A s) (hS : va_S A s.heap H locs) (hP : mP G.1 M H) (hI : mI A M) (hA : ∀ q : Nat, s.heap.size ≤ q → A q) {As : List Value} {b ci : Nat} {fs : List Value} (hb : va_at G.1 vwCl (b, .inr (ci, fs)) H) {r : vw_C} (hc : vwCl[ci]? = some r) : PreV s H r.1 b (va_Pc (.ref b :: As) (mB G A M)) As :=
  ⟨fun a U g mk h => mB.blind a U g mk h, va_recv hG.K hb.one hc (q0 := 0) rfl, fun U hU hW => ⟨rfl, mPre hG hS hP hI hA U hU hW⟩⟩
theorem m_calli {post : Int32 → mw → Prop} (hr : va_Run p l e R s m args below meth c H locs cells slots mc ms (F0 m pc ls st0) rest (va_Qi post (mE G A) A a) A) (hS : va_S A s.heap H locs)
    (kk : ∀ (r : Int32) (M1 : mw) (H1 : Heap) (locs1 : List Loc), post r M1 → mP G.1 M1 H1 → mI A M1 → va_S A s.heap H1 locs1 → W p l e R s m args below meth c H1 locs1 (cells + mc) (slots + ms) Q (F0 m (pc + 3) ls (.int r :: rest))) : W p l e R s m args below meth c H locs cells slots Q (F0 m pc ls st0) :=
  va_calli hr hS (fun _ _ h => h) (fun _ h => h) (fun r u t H1 locs1 ht _ hp hB _ _ hS1 => kk r u H1 locs1 hp (by rw [← ht]; exact hB.1) hB.2 hS1)
theorem m_calll {post : Int64 → mw → Prop} (hr : va_Run p l e R s m args below meth c H locs cells slots mc ms (F0 m pc ls st0) rest (va_Ql post (mE G A) A a) A) (hS : va_S A s.heap H locs)
    (kk : ∀ (r : Int64) (M1 : mw) (H1 : Heap) (locs1 : List Loc), post r M1 → mP G.1 M1 H1 → mI A M1 → va_S A s.heap H1 locs1 → W p l e R s m args below meth c H1 locs1 (cells + mc) (slots + ms) Q (F0 m (pc + 3) ls (.long r :: rest))) : W p l e R s m args below meth c H locs cells slots Q (F0 m pc ls st0) :=
  va_calll hr hS (fun _ _ h => h) (fun _ h => h) (fun r u t H1 locs1 ht _ hp hB _ _ hS1 => kk r u H1 locs1 hp (by rw [← ht]; exact hB.1) hB.2 hS1)
theorem m_callv {post : mw → Prop} (hr : va_Run p l e R s m args below meth c H locs cells slots mc ms (F0 m pc ls st0) rest (va_Qv post (mE G A) A a) A) (hS : va_S A s.heap H locs)
    (kk : ∀ (M1 : mw) (H1 : Heap) (locs1 : List Loc), post M1 → mP G.1 M1 H1 → mI A M1 → va_S A s.heap H1 locs1 → W p l e R s m args below meth c H1 locs1 (cells + mc) (slots + ms) Q (F0 m (pc + 3) ls (rest))) : W p l e R s m args below meth c H locs cells slots Q (F0 m pc ls st0) :=
  va_callv hr hS (fun _ _ h => h) (fun _ h => h) (fun u t H1 locs1 ht _ hp hB _ _ hS1 => kk u H1 locs1 hp (by rw [← ht]; exact hB.1) hB.2 hS1)
theorem mx_calli {px : String → Prop} {post : Int32 → mw → Prop} (hr : vx_Run p l e R s m args below meth c H locs cells slots mc ms (F0 m pc ls st0) rest (va_Qi post (mE G A) A a) (xX px G A M) A) (hS : va_S A s.heap H locs)
    (kx : ∀ (E : String) (ce : Cell) (q9 : Addr) (H1 : Heap) (locs1 : List Loc), px E → mP G.1 M H1 → mI A M → va_S A s.heap H1 locs1 → H1[q9]? = some ce → ce.vm = .none → s.vm.findClass E = some ce.cls → vx_W p l e R s m args below meth c H1 locs1 (cells + mc) (slots + ms) Q (F0 m pc ls rest) q9)
    (kk : ∀ (r : Int32) (M1 : mw) (H1 : Heap) (locs1 : List Loc), post r M1 → mP G.1 M1 H1 → mI A M1 → va_S A s.heap H1 locs1 → W p l e R s m args below meth c H1 locs1 (cells + mc) (slots + ms) Q (F0 m (pc + 3) ls (.int r :: rest))) : W p l e R s m args below meth c H locs cells slots Q (F0 m pc ls st0) :=
  vx_calli hr hS (fun _ _ h => h) (fun _ h => h) (fun _ _ h => h) (fun E ce q9 u t H1 locs1 ht _ hp hB _ _ hS1 h1 h2 h3 => kx E ce q9 H1 locs1 (by rw [hB.1]; exact hp) (by rw [← ht]; exact hB.2.1) hB.2.2 hS1 h1 h2 h3) (fun r u t H1 locs1 ht _ hp hB _ _ hS1 => kk r u H1 locs1 hp (by rw [← ht]; exact hB.1) hB.2 hS1)
theorem mx_callv {px : String → Prop} {post : mw → Prop} (hr : vx_Run p l e R s m args below meth c H locs cells slots mc ms (F0 m pc ls st0) rest (va_Qv post (mE G A) A a) (xX px G A M) A) (hS : va_S A s.heap H locs)
    (kx : ∀ (E : String) (ce : Cell) (q9 : Addr) (H1 : Heap) (locs1 : List Loc), px E → mP G.1 M H1 → mI A M → va_S A s.heap H1 locs1 → H1[q9]? = some ce → ce.vm = .none → s.vm.findClass E = some ce.cls → vx_W p l e R s m args below meth c H1 locs1 (cells + mc) (slots + ms) Q (F0 m pc ls rest) q9)
    (kk : ∀ (M1 : mw) (H1 : Heap) (locs1 : List Loc), post M1 → mP G.1 M1 H1 → mI A M1 → va_S A s.heap H1 locs1 → W p l e R s m args below meth c H1 locs1 (cells + mc) (slots + ms) Q (F0 m (pc + 3) ls (rest))) : W p l e R s m args below meth c H locs cells slots Q (F0 m pc ls st0) :=
  vx_callv hr hS (fun _ _ h => h) (fun _ h => h) (fun _ _ h => h) (fun E ce q9 u t H1 locs1 ht _ hp hB _ _ hS1 h1 h2 h3 => kx E ce q9 H1 locs1 (by rw [hB.1]; exact hp) (by rw [← ht]; exact hB.2.1) hB.2.2 hS1 h1 h2 h3) (fun u t H1 locs1 ht _ hp hB _ _ hS1 => kk u H1 locs1 hp (by rw [← ht]; exact hB.1) hB.2 hS1)
/-- an exception leaves the method -/
theorem m_out {px : String → Prop} {Qc : Array Value → State → Outcome → State → Prop} {E : String} {ce : Cell} {q : Addr} (hout : ∀ x ∈ c.exceptionTable.toList, covers x pc = false) (hlocks : meth.locks = false) (hP : mP G.1 M H) (hI : mI A M) (hS : va_S A s.heap H locs) (hcell : H[q]? = some ce) (hv : ce.vm = .none) (hcl : s.vm.findClass E = some ce.cls) (hpx : px E) (hc : cells ≤ mc) (hs : slots ≤ ms) :
    vx_W p l e R s m args below meth c H locs cells slots (vx_MQ below Qc (xX px G A M) args s mc ms A) (F0 m pc ls rest) q :=
  vx_out hout hlocks hcell hv hcl (fun t ht _ => ⟨E, hpx, ⟨rfl, by rw [ht]; exact hP, hI⟩, hS.F ht⟩) hS.2.2 hc hs
theorem m_thrown {px : String → Prop} {E : String} (hP : mP G.1 M H) (hI : mI A M) (hS : va_S A s.heap H locs) (hpx : px E) (t : State) (hz : H.size ≤ t.heap.size) (hk : ∀ q : Nat, q < H.size → t.heap[q]? = H[q]?) : xX px G A M E s t :=
  ⟨E, hpx, ⟨rfl, fun a e he => (hP a e he).kept (hk a (hP.lt he)), hI⟩, Nat.le_trans hS.1 hz, fun q h1 h2 => (hk q (Nat.lt_of_lt_of_le h1 hS.1)).trans (hS.2.1 q h1 h2)⟩

/-- the words of a throw that the tables alone decide -/
def thB (cls : String) : List Cond := [.castable cls cls, .declares ⟨"java/lang/RuntimeException", "<init>", "(Ljava/lang/String;)V"⟩, .declares ⟨"java/lang/Exception", "<init>", "(Ljava/lang/String;)V"⟩, .declares ⟨"java/lang/Throwable", "<init>", "(Ljava/lang/String;)V"⟩]
theorem m_hat {own cls : String} {ic : Nat} {names : List String} (hG : GK G A s) (h1 : ∀ w ∈ (vx_atS own ic cls names).filter goodWord, w.before args s = true) (hm : (cls, cls) ∈ gcast) (h2 : ∀ w ∈ (vx_atS own ic cls names).filter (fun w => !goodWord w), w ∈ thB cls) : ∀ w ∈ vx_atS own ic cls names, w.before args s = true := by
  have hd := hG.2.1.2.2.2.2.2.2.2.2.2.2.2
  exact vx_hat h1 h2 (vx_c (va_Nw.use rfl (hG.2.1.2.2.2.1 _ hm)) (vx_c (va_Nw.use rfl (hd _ (List.mem_of_getElem? (i := 0) rfl))) (vx_c (va_Nw.use rfl (hd _ (List.mem_of_getElem? (i := 1) rfl))) (vx_c (va_Nw.use rfl (hd _ (List.mem_of_getElem? (i := 2) rfl))) vx_n))))
theorem m_hatN (hG : GK G A s) (h1 : ∀ w ∈ vn_at.filter goodWord, w.before args s = true) (hm : (vnN, vnN) ∈ gcast) (h2 : ∀ w ∈ vn_at.filter (fun w => !goodWord w), w ∈ thB vnN) : ∀ w ∈ vn_at, w.before args s = true := by
  have hd := hG.2.1.2.2.2.2.2.2.2.2.2.2.2
  exact vx_hat h1 h2 (vx_c (va_Nw.use rfl (hG.2.1.2.2.2.1 _ hm)) (vx_c (va_Nw.use rfl (hd _ (List.mem_of_getElem? (i := 0) rfl))) (vx_c (va_Nw.use rfl (hd _ (List.mem_of_getElem? (i := 1) rfl))) (vx_c (va_Nw.use rfl (hd _ (List.mem_of_getElem? (i := 2) rfl))) vx_n))))
theorem mPreVo (hG : GK G A s) (hS : va_S A s.heap H locs) (hP : mP G.1 M H) (hI : mI A M) (hA : ∀ q : Nat, s.heap.size ≤ q → A q) {As : List Value} {b : Nat} {C : String} (hb : ∃ cell : Cell, H[b]? = some cell ∧ cell.vm.isStatics = false ∧ s.vm.findClass C = some cell.cls) : PreV s H C b (va_Pc (.ref b :: As) (mB G A M)) As :=
  ⟨fun a U g mk h => mB.blind a U g mk h, hb, fun U hU hW => ⟨rfl, mPre hG hS hP hI hA U hU hW⟩⟩
theorem m_callq {post : Option Nat → mw → Prop} (hr : va_Run p l e R s m args below meth c H locs cells slots mc ms (F0 m pc ls st0) rest (va_Qq post (mE G A) A a) A) (hS : va_S A s.heap H locs)
    (kk : ∀ (r : Option Nat) (M1 : mw) (H1 : Heap) (locs1 : List Loc), post r M1 → mP G.1 M1 H1 → mI A M1 → va_S A s.heap H1 locs1 → W p l e R s m args below meth c H1 locs1 (cells + mc) (slots + ms) Q (F0 m (pc + 3) ls (va_rf r :: rest))) : W p l e R s m args below meth c H locs cells slots Q (F0 m pc ls st0) :=
  va_callq hr hS (fun _ _ h => h) (fun _ h => h) (fun r u t H1 locs1 ht _ hp hB _ _ hS1 => kk r u H1 locs1 hp (by rw [← ht]; exact hB.1) hB.2 hS1)
theorem mx_callq {px : String → Prop} {post : Option Nat → mw → Prop} (hr : vx_Run p l e R s m args below meth c H locs cells slots mc ms (F0 m pc ls st0) rest (va_Qq post (mE G A) A a) (xX px G A M) A) (hS : va_S A s.heap H locs)
    (kx : ∀ (E : String) (ce : Cell) (q9 : Addr) (H1 : Heap) (locs1 : List Loc), px E → mP G.1 M H1 → mI A M → va_S A s.heap H1 locs1 → H1[q9]? = some ce → ce.vm = .none → s.vm.findClass E = some ce.cls → vx_W p l e R s m args below meth c H1 locs1 (cells + mc) (slots + ms) Q (F0 m pc ls rest) q9)
    (kk : ∀ (r : Option Nat) (M1 : mw) (H1 : Heap) (locs1 : List Loc), post r M1 → mP G.1 M1 H1 → mI A M1 → va_S A s.heap H1 locs1 → W p l e R s m args below meth c H1 locs1 (cells + mc) (slots + ms) Q (F0 m (pc + 3) ls (va_rf r :: rest))) : W p l e R s m args below meth c H locs cells slots Q (F0 m pc ls st0) :=
  vx_callq hr hS (fun _ _ h => h) (fun _ h => h) (fun _ _ h => h) (fun E ce q9 u t H1 locs1 ht _ hp hB _ _ hS1 h1 h2 h3 => kx E ce q9 H1 locs1 (by rw [hB.1]; exact hp) (by rw [← ht]; exact hB.2.1) hB.2.2 hS1 h1 h2 h3) (fun r u t H1 locs1 ht _ hp hB _ _ hS1 => kk r u H1 locs1 hp (by rw [← ht]; exact hB.1) hB.2 hS1)
end MCTX
abbrev m_max (x y : Int32) : Int32 := if x < y then y else x
abbrev m_min (x y : Int32) : Int32 := if y < x then y else x
abbrev m_abs (x : Int32) : Int32 := if 0 ≤ x then x else 0 - x
theorem l_tri (x y : Int64) : x < y ∨ x = y ∨ y < x := by
  rcases Int.lt_trichotomy x.toInt y.toInt with h | h | h
  · exact Or.inl (Int64.lt_iff_toInt_lt.mpr h)
  · exact Or.inr (Or.inl (Int64.toInt_inj.mp h))
  · exact Or.inr (Or.inr (Int64.lt_iff_toInt_lt.mpr h))
theorem l_irr (x : Int64) : ¬ x < x := fun h => by have := Int64.lt_iff_toInt_lt.mp h; omega
theorem lgc_1 {x y : Int64} (h : x < y) : lg_cmp x y = -1 := by
  have h0 := Int64.lt_iff_toInt_lt.mp h
  have h1 : ¬ y < x := fun q => by have := Int64.lt_iff_toInt_lt.mp q; omega
  have h2 : ¬ x = y := fun q => by subst q; omega
  simp [lg_cmp, h1, h2]
theorem lgc_2 {x y : Int64} (h : y < x) : lg_cmp x y = 1 := by simp [lg_cmp, h]
theorem lgc_0 (x : Int64) : lg_cmp x x = 0 := by
  have h1 : ¬ x < x := l_irr x
  simp [lg_cmp, h1]
section LCMP
variable {p : Program} {l : Launch} {e : Env} {R : Room} {s : State} {m : MethodId} {args : Array Value} {below : List Frame} {meth : Method} {c : Code} {H : Heap} {locs : List Loc} {cells slots : Nat} {Q : State → Prop}
variable {cc : ByteArray} {pc : Nat} {ls : Array Slot} {rest : List Value}
theorem m_lcmp_lt (hexec : p.tables.exec = Jvm.exec) (hb : c.code = cc) {x y : Int64} {off : Int} {tgt : Nat} (hdg : decode cc pc = .ok (.lcmp, 1)) (hdg2 : decode cc (pc + 1) = .ok (.ifCond .lt off, 3)) (ht : ((pc + 1 : Nat) : Int) + off = (tgt : Int))
    (kt : x < y → W p l e R s m args below meth c H locs cells slots Q (F0 m tgt ls rest)) (kf : ¬ x < y → W p l e R s m args below meth c H locs cells slots Q (F0 m (pc + 4) ls rest)) : W p l e R s m args below meth c H locs cells slots Q (F0 m pc ls (.long y :: .long x :: rest)) := by
  refine W.lcmp hexec hb hdg (lv_if_lt hexec hb hdg2 ht (fun h => ?_) (fun h => ?_))
  · refine kt ?_
    rcases l_tri x y with q | q | q
    · exact q
    · subst q; rw [lgc_0] at h; exact absurd h (by decide)
    · rw [lgc_2 q] at h; exact absurd h (by decide)
  · refine kf (fun q => h ?_)
    rw [lgc_1 q]; decide
theorem m_lcmp_gt (hexec : p.tables.exec = Jvm.exec) (hb : c.code = cc) {x y : Int64} {off : Int} {tgt : Nat} (hdg : decode cc pc = .ok (.lcmp, 1)) (hdg2 : decode cc (pc + 1) = .ok (.ifCond .gt off, 3)) (ht : ((pc + 1 : Nat) : Int) + off = (tgt : Int))
    (kt : y < x → W p l e R s m args below meth c H locs cells slots Q (F0 m tgt ls rest)) (kf : ¬ y < x → W p l e R s m args below meth c H locs cells slots Q (F0 m (pc + 4) ls rest)) : W p l e R s m args below meth c H locs cells slots Q (F0 m pc ls (.long y :: .long x :: rest)) := by
  refine W.lcmp hexec hb hdg (lv_if_gt hexec hb hdg2 ht (fun h => ?_) (fun h => ?_))
  · refine kt ?_
    rcases l_tri x y with q | q | q
    · rw [lgc_1 q] at h; exact absurd h (by decide)
    · subst q; rw [lgc_0] at h; exact absurd h (by decide)
    · exact q
  · refine kf (fun q => h ?_)
    rw [lgc_2 q]; decide
theorem m_lcmp_le (hexec : p.tables.exec = Jvm.exec) (hb : c.code = cc) {x y : Int64} {off : Int} {tgt : Nat} (hdg : decode cc pc = .ok (.lcmp, 1)) (hdg2 : decode cc (pc + 1) = .ok (.ifCond .le off, 3)) (ht : ((pc + 1 : Nat) : Int) + off = (tgt : Int))
    (kt : ¬ y < x → W p l e R s m args below meth c H locs cells slots Q (F0 m tgt ls rest)) (kf : y < x → W p l e R s m args below meth c H locs cells slots Q (F0 m (pc + 4) ls rest)) : W p l e R s m args below meth c H locs cells slots Q (F0 m pc ls (.long y :: .long x :: rest)) := by
  refine W.lcmp hexec hb hdg (lv_if_le hexec hb hdg2 ht (fun h => ?_) (fun h => ?_))
  · refine kt (fun q => ?_)
    rw [lgc_2 q] at h; exact absurd h (by decide)
  · refine kf ?_
    rcases l_tri x y with q | q | q
    · rw [lgc_1 q] at h; exact absurd (by decide) h
    · subst q; rw [lgc_0] at h; exact absurd (by decide) h
    · exact q
theorem m_lcmp_ge (hexec : p.tables.exec = Jvm.exec) (hb : c.code = cc) {x y : Int64} {off : Int} {tgt : Nat} (hdg : decode cc pc = .ok (.lcmp, 1)) (hdg2 : decode cc (pc + 1) = .ok (.ifCond .ge off, 3)) (ht : ((pc + 1 : Nat) : Int) + off = (tgt : Int))
    (kt : ¬ x < y → W p l e R s m args below meth c H locs cells slots Q (F0 m tgt ls rest)) (kf : x < y → W p l e R s m args below meth c H locs cells slots Q (F0 m (pc + 4) ls rest)) : W p l e R s m args below meth c H locs cells slots Q (F0 m pc ls (.long y :: .long x :: rest)) := by
  refine W.lcmp hexec hb hdg (lv_if_ge hexec hb hdg2 ht (fun h => ?_) (fun h => ?_))
  · refine kt (fun q => ?_)
    rw [lgc_1 q] at h; exact absurd h (by decide)
  · refine kf ?_
    rcases l_tri x y with q | q | q
    · exact q
    · subst q; rw [lgc_0] at h; exact absurd (by decide) h
    · rw [lgc_2 q] at h; exact absurd (by decide) h
theorem m_lcmp_eq (hexec : p.tables.exec = Jvm.exec) (hb : c.code = cc) {x y : Int64} {off : Int} {tgt : Nat} (hdg : decode cc pc = .ok (.lcmp, 1)) (hdg2 : decode cc (pc + 1) = .ok (.ifCond .eq off, 3)) (ht : ((pc + 1 : Nat) : Int) + off = (tgt : Int))
    (kt : x = y → W p l e R s m args below meth c H locs cells slots Q (F0 m tgt ls rest)) (kf : ¬ x = y → W p l e R s m args below meth c H locs cells slots Q (F0 m (pc + 4) ls rest)) : W p l e R s m args below meth c H locs cells slots Q (F0 m pc ls (.long y :: .long x :: rest)) := by
  refine W.lcmp hexec hb hdg (lv_if_eq hexec hb hdg2 ht (fun h => ?_) (fun h => ?_))
  · refine kt ?_
    rcases l_tri x y with q | q | q
    · rw [lgc_1 q] at h; exact absurd h (by decide)
    · exact q
    · rw [lgc_2 q] at h; exact absurd h (by decide)
  · refine kf (fun q => h ?_)
    rw [q, lgc_0]
theorem m_lcmp_ne (hexec : p.tables.exec = Jvm.exec) (hb : c.code = cc) {x y : Int64} {off : Int} {tgt : Nat} (hdg : decode cc pc = .ok (.lcmp, 1)) (hdg2 : decode cc (pc + 1) = .ok (.ifCond .ne off, 3)) (ht : ((pc + 1 : Nat) : Int) + off = (tgt : Int))
    (kt : ¬ x = y → W p l e R s m args below meth c H locs cells slots Q (F0 m tgt ls rest)) (kf : x = y → W p l e R s m args below meth c H locs cells slots Q (F0 m (pc + 4) ls rest)) : W p l e R s m args below meth c H locs cells slots Q (F0 m pc ls (.long y :: .long x :: rest)) := by
  refine W.lcmp hexec hb hdg (lv_if_ne hexec hb hdg2 ht (fun h => ?_) (fun h => ?_))
  · refine kt (fun q => h ?_)
    rw [q, lgc_0]
  · refine kf ?_
    rcases l_tri x y with q | q | q
    · rw [lgc_1 q] at h; exact absurd h (by decide)
    · exact q
    · rw [lgc_2 q] at h; exact absurd h (by decide)
end LCMP

