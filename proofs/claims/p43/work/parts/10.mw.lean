/-! ===== the map world: a method's world is a partial map from addresses to cells ===== -/
abbrev mw : Type := Nat → Option va_E
/-- what every contract speaks of: the classes' numbers; the classes of arrays; the cells that nobody writes; some addresses of those -/
abbrev mg : Type := va_G × (Nat → ClassId) × (Nat → Int32) × (Nat → Nat)
def mu (M : mw) (a : Nat) (e : va_E) : mw := fun x => if x = a then some e else M x
theorem mu_s {M : mw} {a : Nat} {e : va_E} : mu M a e a = some e := if_pos rfl
theorem mu_n {M : mw} {a b : Nat} {e : va_E} (h : b ≠ a) : mu M a e b = M b := if_neg h
theorem mu_k {M : mw} {a b : Nat} {e c0 : va_E} (h : b ≠ a) (hb : M b = some c0) : mu M a e b = some c0 := (mu_n h).trans hb
theorem mu_x {M : mw} {a b : Nat} {e c0 : va_E} (hb : M b = some c0) (ha : M a = none) : mu M a e b = some c0 := mu_k (fun q => by rw [q, ha] at hb; cases hb) hb
theorem mu_uu {M : mw} {a : Nat} {e e' : va_E} : mu (mu M a e) a e' = mu M a e' := by
  funext x
  by_cases h : x = a
  · subst h; rw [mu_s, mu_s]
  · rw [mu_n h, mu_n h, mu_n h]
theorem mu_id {M : mw} {a : Nat} {e : va_E} (h : M a = some e) : mu M a e = M := by
  funext x
  by_cases q : x = a
  · subst q; rw [mu_s, h]
  · rw [mu_n q]
theorem mw_ne {M : mw} {a b : Nat} {e f : va_E} (ha : M a = some e) (hb : M b = some f) (h : e ≠ f) : a ≠ b := fun q => h (Option.some.inj (by rw [← ha, ← hb, q]))
/-- cells of two kinds are apart -/
def kd : va_E → Nat
  | .inl (_, _, .inl _) => 0
  | .inl (_, _, .inr (.inl _)) => 1
  | .inl (_, _, .inr (.inr (.inl _))) => 2
  | .inl (_, _, .inr (.inr (.inr (.inl _)))) => 3
  | .inl (_, _, .inr (.inr (.inr (.inr _)))) => 4
  | .inr (ci, _) => ci + 5
theorem kd_ne {M : mw} {a b : Nat} {e f : va_E} (ha : M a = some e) (hb : M b = some f) (h : (kd e == kd f) = false) : a ≠ b := mw_ne ha hb (fun q => by rw [q] at h; simp at h)
def mP (D : va_G) (M : mw) (H : Heap) : Prop := ∀ (a : Nat) (e : va_E), M a = some e → va_at D vwCl (a, e) H
def mI (A : Nat → Prop) (M : mw) : Prop := ∀ (a : Nat) (e : va_E), M a = some e → A a
def mL (M : mw) (ws : va_W) : Prop := (∀ (a : Nat) (e : va_E), M a = some e → ∃ k : Nat, ws[k]? = some (a, e)) ∧ ∀ (k : Nat) (q : Nat × va_E), ws[k]? = some q → M q.1 = some q.2
theorem mP.lt {D : va_G} {M : mw} {H : Heap} (h : mP D M H) {a : Nat} {e : va_E} (he : M a = some e) : a < H.size := (h a e he).lt
theorem mP.none {D : va_G} {M : mw} {H : Heap} (h : mP D M H) {a : Nat} (ha : H.size ≤ a) : M a = none := by
  cases q : M a with
  | none => rfl
  | some e => exact absurd (h.lt q) (Nat.not_lt.mpr ha)
theorem mL_ex {D : va_G} {M : mw} {H : Heap} (h : mP D M H) : ∃ ws : va_W, mL M ws ∧ va_P D vwCl ws H ∧ ∀ A : Nat → Prop, mI A M → va_D A ws := by
  have hmem : ∀ q : Nat × va_E, q ∈ (List.range H.size).filterMap (fun a => (M a).map (fun e => (a, e))) ↔ M q.1 = some q.2 := by
    intro q
    rw [List.mem_filterMap]
    constructor
    · rintro ⟨a, -, ha⟩
      cases hm : M a with
      | none => rw [hm] at ha; cases ha
      | some e => rw [hm] at ha; cases ha; exact hm
    · intro hq
      exact ⟨q.1, List.mem_range.mpr (h.lt hq), by rw [hq]; rfl⟩
  have hpw : List.Pairwise (fun x y : Nat × va_E => x.1 < y.1) ((List.range H.size).filterMap (fun a => (M a).map (fun e => (a, e)))) := by
    rw [List.pairwise_filterMap]
    refine List.Pairwise.imp ?_ List.pairwise_lt_range
    intro a b hab x hx y hy
    cases ha : M a with
    | none => rw [ha] at hx; cases hx
    | some e =>
      cases hb : M b with
      | none => rw [hb] at hy; cases hy
      | some f =>
        rw [ha] at hx; rw [hb] at hy
        cases hx; cases hy
        exact hab
  refine ⟨(List.range H.size).filterMap (fun a => (M a).map (fun e => (a, e))), ⟨fun a e he => ?_, fun k q hq => ?_⟩, fun k q hq => ?_, fun A hA => ⟨fun i j x y hi hj hxy => ?_, fun k q hq => ?_⟩⟩
  · exact List.getElem?_of_mem ((hmem (a, e)).mpr he)
  · exact (hmem q).mp (List.mem_of_getElem? hq)
  · exact h q.1 q.2 ((hmem q).mp (List.mem_of_getElem? hq))
  · obtain ⟨hi1, hi2⟩ := List.getElem?_eq_some_iff.mp hi
    obtain ⟨hj1, hj2⟩ := List.getElem?_eq_some_iff.mp hj
    rw [List.pairwise_iff_getElem] at hpw
    rcases Nat.lt_trichotomy i j with q | q | q
    · have := hpw i j hi1 hj1 q
      rw [hi2, hj2] at this
      omega
    · exact q
    · have := hpw j i hj1 hi1 q
      rw [hi2, hj2] at this
      omega
  · exact hA q.1 q.2 ((hmem q).mp (List.mem_of_getElem? hq))
theorem mL.set {D : va_G} {M : mw} {ws : va_W} {H1 : Heap} {a k : Nat} {e0 e : va_E} (hL : mL M ws) (hk : ws[k]? = some (a, e0)) (h : va_P D vwCl (ws.set k (a, e)) H1) : mP D (mu M a e) H1 := by
  have hl := (List.getElem?_eq_some_iff.mp hk).1
  intro x c hx
  by_cases q : x = a
  · subst q
    rw [mu_s] at hx
    cases hx
    exact h k _ (List.getElem?_set_self hl)
  · rw [mu_n q] at hx
    obtain ⟨j, hj⟩ := hL.1 x c hx
    refine h j _ ?_
    rw [List.getElem?_set_ne (fun z => q ?_)]
    · exact hj
    · rw [← z, hk] at hj
      cases hj
      rfl
theorem mL.push {D : va_G} {M : mw} {ws : va_W} {H1 : Heap} {a : Nat} {e : va_E} (hL : mL M ws) (h : va_P D vwCl (ws ++ [(a, e)]) H1) : mP D (mu M a e) H1 := by
  intro x c hx
  by_cases q : x = a
  · subst q
    rw [mu_s] at hx
    cases hx
    exact h ws.length _ (by rw [List.getElem?_append_right (Nat.le_refl _), Nat.sub_self]; rfl)
  · rw [mu_n q] at hx
    obtain ⟨j, hj⟩ := hL.1 x c hx
    refine h j _ ?_
    rw [List.getElem?_append_left (List.getElem?_eq_some_iff.mp hj).1]
    exact hj
theorem mL.fresh {A : Nat → Prop} {M : mw} {ws : va_W} {a : Nat} {e : va_E} (hL : mL M ws) (h : va_D A (ws ++ [(a, e)])) : M a = none := by
  cases q : M a with
  | none => rfl
  | some f =>
    obtain ⟨j, hj⟩ := hL.1 a f q
    have hl := (List.getElem?_eq_some_iff.mp hj).1
    have := h.1 j ws.length (a, f) (a, e) (by rw [List.getElem?_append_left hl]; exact hj) (by rw [List.getElem?_append_right (Nat.le_refl _), Nat.sub_self]; rfl) rfl
    omega
theorem mI.mu {A : Nat → Prop} {M : mw} {a : Nat} {e : va_E} (h : mI A M) (ha : A a) : mI A (mu M a e) := by
  intro x c hx
  by_cases q : x = a
  · rw [q]; exact ha
  · rw [mu_n q] at hx
    exact h x c hx
theorem va_at.one {D : va_G} {a : Nat} {e : va_E} {H : Heap} (h : va_at D vwCl (a, e) H) : va_P D vwCl [(a, e)] H := by
  intro k q hk
  match k, hk with
  | 0, hk => cases hk; exact h
  | k + 1, hk => simp at hk
section MW
variable {p : Program} {l : Launch} {e : Env} {R : Room} {s : State} {m : MethodId} {args : Array Value} {below : List Frame} {meth : Method} {c : Code} {H : Heap} {locs : List Loc} {cells slots : Nat} {Q : State → Prop}
variable {cc : ByteArray} {pc : Nat} {ls : Array Slot} {rest : List Value} {D : va_G} {A : Nat → Prop} {a : Nat} {tys : List (ClassId × FieldType)} {M : mw} {H0 : Heap}
theorem m_get (hexec : p.tables.exec = Jvm.exec) (hb : c.code = cc) {own ref C : String} {T : u_T} {N ci index : Nat} {Ts : List Cond} (hts : ∀ w ∈ Ts, w.before args s = true) (hin : ∀ w ∈ u_ws C T N, w ∈ Ts) (hown : s.vm.findClass own = some m.cls) (hK : va_K D vwCl tys s) {fs : List Value} (he : va_at D vwCl (a, .inr (ci, fs)) H) (hc : vwCl[ci]? = some (C, T, N)) (k : Nat) (hk : k < N) (hlink : (Cond.fieldLink own index ref (T k).2.1 (T k).2.2.1).before args s = true) (hsame : ∀ x, s.fieldFound? (T k).1 (T k).2.1 (T k).2.2.1 = some x → s.fieldFound? ref (T k).2.1 (T k).2.2.1 = some x) {v : Value} (hv : fs[k]? = some v) (hdg : decode cc pc = .ok (.getfield index, 3))
    (kk : W p l e R s m args below meth c H locs cells slots Q (F0 m (pc + 3) ls (v :: rest))) : W p l e R s m args below meth c H locs cells slots Q (F0 m pc ls (.ref a :: rest)) :=
  va_get hexec hb hts hin hown hK he.one 0 rfl hc k hk hlink hsame hv hdg kk
theorem m_getN (hexec : p.tables.exec = Jvm.exec) (hb : c.code = cc) {own ref C host : String} {T : u_T} {N ci index : Nat} {Ts : List Cond} (hts : ∀ w ∈ Ts, w.before args s = true) (hin : ∀ w ∈ u_ws C T N, w ∈ Ts) (hown : s.vm.findClass own = some m.cls) (hK : va_K D vwCl tys s) {fs : List Value} (he : va_at D vwCl (a, .inr (ci, fs)) H) (hc : vwCl[ci]? = some (C, T, N)) (k : Nat) (hk : k < N) (hlink : (Cond.fieldLinkNest own index ref (T k).2.1 (T k).2.2.1 host).before args s = true) (hsame : ∀ x, s.fieldFound? (T k).1 (T k).2.1 (T k).2.2.1 = some x → s.fieldFound? ref (T k).2.1 (T k).2.2.1 = some x) {v : Value} (hv : fs[k]? = some v) (hdg : decode cc pc = .ok (.getfield index, 3))
    (kk : W p l e R s m args below meth c H locs cells slots Q (F0 m (pc + 3) ls (v :: rest))) : W p l e R s m args below meth c H locs cells slots Q (F0 m pc ls (.ref a :: rest)) :=
  va_getN hexec hb hts hin hown hK he.one 0 rfl hc k hk hlink hsame hv hdg kk
theorem m_put (hexec : p.tables.exec = Jvm.exec) (hb : c.code = cc) {own ref C : String} {T : u_T} {N ci index : Nat} {Ts : List Cond} (hts : ∀ w ∈ Ts, w.before args s = true) (hin : ∀ w ∈ u_ws C T N, w ∈ Ts) (ty0 : Nat → FieldType) (hty : ∀ k, k < N → parseFieldDescriptor (T k).2.2.1 = some (ty0 k)) (hnm : ∀ a, a < N → ∀ b, b < N → a ≠ b → (T a).2.1 ≠ (T b).2.1) (hown : s.vm.findClass own = some m.cls) (hK : va_K D vwCl tys s) (hP : mP D M H) (hI : mI A M) (hS : va_S A H0 H locs) {fs : List Value} (he : M a = some (.inr (ci, fs))) (hc : vwCl[ci]? = some (C, T, N)) (k : Nat) (hk : k < N) (hlink : (Cond.fieldLink own index ref (T k).2.1 (T k).2.2.1).before args s = true) (hsame : ∀ x, s.fieldFound? (T k).1 (T k).2.1 (T k).2.2.1 = some x → s.fieldFound? ref (T k).2.1 (T k).2.2.1 = some x) (hfin : (T k).2.2.2 = false) {ty : FieldType} {v : Value} (hd : parseFieldDescriptor (T k).2.2.1 = some ty) (hn : narrow ty v = v) (hfit : fits ty v = true) (hl : k < fs.length)
    (hdg : decode cc pc = .ok (.putfield index, 3)) (kk : ∀ (H1 : Heap) (locs1 : List Loc), mP D (mu M a (.inr (ci, fs.set k v))) H1 → mI A (mu M a (.inr (ci, fs.set k v))) → va_S A H0 H1 locs1 → W p l e R s m args below meth c H1 locs1 cells slots Q (F0 m (pc + 3) ls rest)) : W p l e R s m args below meth c H locs cells slots Q (F0 m pc ls (v :: .ref a :: rest)) := by
  obtain ⟨ws, hL, hPw, hDw⟩ := mL_ex hP
  obtain ⟨q0, hq0⟩ := hL.1 a _ he
  exact va_put hexec hb hts hin ty0 hty hnm hown hK hPw (hDw A hI) hS q0 hq0 hc k hk hlink hsame hfin hd hn hfit hl hdg (fun H1 locs1 h1 _ h3 => kk H1 locs1 (hL.set hq0 h1) (hI.mu (hI a _ he)) h3)
theorem m_putN (hexec : p.tables.exec = Jvm.exec) (hb : c.code = cc) {own ref C host : String} {T : u_T} {N ci index : Nat} {Ts : List Cond} (hts : ∀ w ∈ Ts, w.before args s = true) (hin : ∀ w ∈ u_ws C T N, w ∈ Ts) (ty0 : Nat → FieldType) (hty : ∀ k, k < N → parseFieldDescriptor (T k).2.2.1 = some (ty0 k)) (hnm : ∀ a, a < N → ∀ b, b < N → a ≠ b → (T a).2.1 ≠ (T b).2.1) (hown : s.vm.findClass own = some m.cls) (hK : va_K D vwCl tys s) (hP : mP D M H) (hI : mI A M) (hS : va_S A H0 H locs) {fs : List Value} (he : M a = some (.inr (ci, fs))) (hc : vwCl[ci]? = some (C, T, N)) (k : Nat) (hk : k < N) (hlink : (Cond.fieldLinkNest own index ref (T k).2.1 (T k).2.2.1 host).before args s = true) (hsame : ∀ x, s.fieldFound? (T k).1 (T k).2.1 (T k).2.2.1 = some x → s.fieldFound? ref (T k).2.1 (T k).2.2.1 = some x) (hfin : (T k).2.2.2 = false) {ty : FieldType} {v : Value} (hd : parseFieldDescriptor (T k).2.2.1 = some ty) (hn : narrow ty v = v) (hfit : fits ty v = true) (hl : k < fs.length)
    (hdg : decode cc pc = .ok (.putfield index, 3)) (kk : ∀ (H1 : Heap) (locs1 : List Loc), mP D (mu M a (.inr (ci, fs.set k v))) H1 → mI A (mu M a (.inr (ci, fs.set k v))) → va_S A H0 H1 locs1 → W p l e R s m args below meth c H1 locs1 cells slots Q (F0 m (pc + 3) ls rest)) : W p l e R s m args below meth c H locs cells slots Q (F0 m pc ls (v :: .ref a :: rest)) := by
  obtain ⟨ws, hL, hPw, hDw⟩ := mL_ex hP
  obtain ⟨q0, hq0⟩ := hL.1 a _ he
  exact va_putN hexec hb hts hin ty0 hty hnm hown hK hPw (hDw A hI) hS q0 hq0 hc k hk hlink hsame hfin hd hn hfit hl hdg (fun H1 locs1 h1 _ h3 => kk H1 locs1 (hL.set hq0 h1) (hI.mu (hI a _ he)) h3)
theorem m_putF (hexec : p.tables.exec = Jvm.exec) (hb : c.code = cc) {own ref C : String} {T : u_T} {N ci index : Nat} {Ts : List Cond} (hts : ∀ w ∈ Ts, w.before args s = true) (hin : ∀ w ∈ u_ws C T N, w ∈ Ts) (ty0 : Nat → FieldType) (hty : ∀ k, k < N → parseFieldDescriptor (T k).2.2.1 = some (ty0 k)) (hnm : ∀ a, a < N → ∀ b, b < N → a ≠ b → (T a).2.1 ≠ (T b).2.1) (hown : s.vm.findClass own = some m.cls) (hK : va_K D vwCl tys s) (hP : mP D M H) (hI : mI A M) (hS : va_S A H0 H locs) {fs : List Value} (he : M a = some (.inr (ci, fs))) (hc : vwCl[ci]? = some (C, T, N)) (k : Nat) (hk : k < N) (hlink : (Cond.fieldLink own index ref (T k).2.1 (T k).2.2.1).before args s = true) (hsame : ∀ x, s.fieldFound? (T k).1 (T k).2.1 (T k).2.2.1 = some x → s.fieldFound? ref (T k).2.1 (T k).2.2.1 = some x) (hfin : (T k).2.2.2 = true) (hin2 : meth.name = "<init>") (hdecl : (T k).1 = own) {ty : FieldType} {v : Value} (hd : parseFieldDescriptor (T k).2.2.1 = some ty) (hn : narrow ty v = v) (hfit : fits ty v = true) (hl : k < fs.length)
    (hdg : decode cc pc = .ok (.putfield index, 3)) (kk : ∀ (H1 : Heap) (locs1 : List Loc), mP D (mu M a (.inr (ci, fs.set k v))) H1 → mI A (mu M a (.inr (ci, fs.set k v))) → va_S A H0 H1 locs1 → W p l e R s m args below meth c H1 locs1 cells slots Q (F0 m (pc + 3) ls rest)) : W p l e R s m args below meth c H locs cells slots Q (F0 m pc ls (v :: .ref a :: rest)) := by
  obtain ⟨ws, hL, hPw, hDw⟩ := mL_ex hP
  obtain ⟨q0, hq0⟩ := hL.1 a _ he
  exact va_putF hexec hb hts hin ty0 hty hnm hown hK hPw (hDw A hI) hS q0 hq0 hc k hk hlink hsame hfin hin2 hdecl hd hn hfit hl hdg (fun H1 locs1 h1 _ h3 => kk H1 locs1 (hL.set hq0 h1) (hI.mu (hI a _ he)) h3)
theorem m_new {c0 : Code} (hexec : p.tables.exec = Jvm.exec) (hb : c0.code = cc) {own C : String} {T : u_T} {N ci index : Nat} {Ts : List Cond} (hts : ∀ w ∈ Ts, w.before args s = true) (hin : ∀ w ∈ u_ws C T N, w ∈ Ts) (ty : Nat → FieldType) (hty : ∀ k, k < N → parseFieldDescriptor (T k).2.2.1 = some (ty k)) (hown : s.vm.findClass own = some m.cls) (hcl : (Cond.classLink own index C).before args s = true) (hinst : (Cond.instantiable C N).before args s = true) (hini : (Cond.initialized C).before args s = true)
    (hK : va_K D vwCl tys s) (hP : mP D M H) (hI : mI A M) (hS : va_S A H0 H locs) (hA : ∀ q, H0.size ≤ q → A q) (hc : vwCl[ci]? = some (C, T, N)) {fs : List Value} (hfs : ∀ j, j < N → defaultValue (ty j) = vp_V fs j) (hcells : cells + 1 ≤ R.cells) (hslots : slots + N ≤ R.slots) (hdg : decode cc pc = .ok (.new index, 3))
    (kk : ∀ (q : Nat) (H1 : Heap), M q = none → mP D (mu M q (.inr (ci, fs))) H1 → mI A (mu M q (.inr (ci, fs))) → va_S A H0 H1 locs →
      W p l e R s m args below meth c0 H1 locs (cells + 1) (slots + N) Q (F0 m (pc + 3) ls (.ref q :: rest))) : W p l e R s m args below meth c0 H locs cells slots Q (F0 m pc ls rest) := by
  obtain ⟨ws, hL, hPw, hDw⟩ := mL_ex hP
  exact va_new hexec hb hts hin ty hty hown hcl hinst hini hK hPw (hDw A hI) hS hA hc hfs hcells hslots hdg (fun q H1 h1 h2 h3 => kk q H1 (hL.fresh h2) (hL.push h1) (hI.mu (h2.2 ws.length (q, _) (by rw [List.getElem?_append_right (Nat.le_refl _), Nat.sub_self]; rfl))) h3)
theorem m_newa (hexec : p.tables.exec = Jvm.exec) (hb : c.code = cc) {atype : ArrayType} (harr : (Cond.arrayClass (newarray.typeOf atype)).before args s = true) {ty : FieldType} (hty : newarray.typeOf atype = ty) (hK : va_K D vwCl tys s) (hP : mP D M H) (hI : mI A M) (hS : va_S A H0 H locs) (hA : ∀ q, H0.size ≤ q → A q) {cI : ClassId} (hcI : s.vm.findClass ("[" ++ ty.toString) = some cI)
    {n : Int32} {N' : Nat} {a0 : vp_A} (ha : ∀ cA : ClassId, vp_cell cA a0 = arrV cA N' (fun _ => defaultValue ty)) (hn : ¬ n < 0) (hN : n.toNatClampNeg = N') (hbytes : N' * componentBytes ty ≤ 536870912) (hcells : cells + 1 ≤ R.cells) (hslots : slots + N' ≤ R.slots) (hdg : decode cc pc = .ok (.newarray atype, 2))
    (kk : ∀ (q : Nat) (H1 : Heap), M q = none → mP D (mu M q (.inl (cI, a0))) H1 → mI A (mu M q (.inl (cI, a0))) → va_S A H0 H1 locs →
      W p l e R s m args below meth c H1 locs (cells + 1) (slots + N') Q (F0 m (pc + 2) ls (.ref q :: rest))) : W p l e R s m args below meth c H locs cells slots Q (F0 m pc ls (.int n :: rest)) := by
  obtain ⟨ws, hL, hPw, hDw⟩ := mL_ex hP
  refine va_newa hexec hb harr hty hK hPw (hDw A hI) hS hA ha hn hN hbytes hcells hslots hdg (fun q cA H1 h0 h1 h2 h3 => ?_)
  have hR := (h0.2 tys.length (cA, ty) (by rw [List.getElem?_append_right (Nat.le_refl _), Nat.sub_self]; rfl)).2
  have hcA : cA = cI := by
    subst hty
    cases atype <;> exact Option.some.inj (hR.symm.trans hcI)
  subst hcA
  exact kk q H1 (hL.fresh h2) (hL.push h1) (hI.mu (h2.2 ws.length (q, _) (by rw [List.getElem?_append_right (Nat.le_refl _), Nat.sub_self]; rfl))) h3
theorem m_iald (hexec : p.tables.exec = Jvm.exec) (hb : c.code = cc) (hK : va_K D vwCl tys s) (t0 : Nat) {cA : ClassId} {n : Nat} {f : Nat → Int32} (ha : va_at D vwCl (a, .inl (cA, n, .inl f)) H) (ht : tys[t0]? = some (cA, .int)) {i : Int32} (hin : vp_in i n) (hdg : decode cc pc = .ok (.iaload, 1))
    (kk : W p l e R s m args below meth c H locs cells slots Q (F0 m (pc + 1) ls (.int (f i.toNatClampNeg) :: rest))) : W p l e R s m args below meth c H locs cells slots Q (F0 m pc ls (.int i :: .ref a :: rest)) :=
  va_iald hexec hb hK ha.one 0 t0 rfl ht hin hdg kk
theorem m_iast (hexec : p.tables.exec = Jvm.exec) (hb : c.code = cc) (hK : va_K D vwCl tys s) (hP : mP D M H) (hI : mI A M) (hS : va_S A H0 H locs) (t0 : Nat) {cA : ClassId} {n : Nat} {f : Nat → Int32} (ha : M a = some (.inl (cA, n, .inl f))) (ht : tys[t0]? = some (cA, .int)) {i : Int32} {x : Int32} (hin : vp_in i n) (hdg : decode cc pc = .ok (.iastore, 1))
    (kk : ∀ (H1 : Heap) (locs1 : List Loc), mP D (mu M a (.inl (cA, n, .inl (upd f i.toNatClampNeg x)))) H1 → mI A (mu M a (.inl (cA, n, .inl (upd f i.toNatClampNeg x)))) → va_S A H0 H1 locs1 → W p l e R s m args below meth c H1 locs1 cells slots Q (F0 m (pc + 1) ls rest)) : W p l e R s m args below meth c H locs cells slots Q (F0 m pc ls (.int x :: .int i :: .ref a :: rest)) := by
  obtain ⟨ws, hL, hPw, hDw⟩ := mL_ex hP
  obtain ⟨q0, hq0⟩ := hL.1 a _ ha
  exact va_iast hexec hb hK hPw (hDw A hI) hS q0 t0 hq0 ht hin hdg (fun H1 locs1 h1 _ h3 => kk H1 locs1 (hL.set hq0 h1) (hI.mu (hI a _ ha)) h3)
theorem m_aldq (hexec : p.tables.exec = Jvm.exec) (hb : c.code = cc) (hK : va_K D vwCl tys s) (t0 : Nat) {cA : ClassId} {C : String} {n : Nat} {f : Nat → Option Nat} (ha : va_at D vwCl (a, .inl (cA, n, .inr (.inr (.inr (.inr f))))) H) (ht : tys[t0]? = some (cA, .object C)) {i : Int32} (hin : vp_in i n) (hdg : decode cc pc = .ok (.aaload, 1))
    (kk : W p l e R s m args below meth c H locs cells slots Q (F0 m (pc + 1) ls (va_rf (f i.toNatClampNeg) :: rest))) : W p l e R s m args below meth c H locs cells slots Q (F0 m pc ls (.int i :: .ref a :: rest)) :=
  va_aldq hexec hb hK ha.one 0 t0 rfl ht hin hdg kk
theorem m_astq (hexec : p.tables.exec = Jvm.exec) (hb : c.code = cc) (hK : va_K D vwCl tys s) (hP : mP D M H) (hI : mI A M) (hS : va_S A H0 H locs) (t0 : Nat) {ci : Nat} {cA : ClassId} {r : vw_C} {n v : Nat} {vs : List Value} {f : Nat → Option Nat} (ha : M a = some (.inl (cA, n, .inr (.inr (.inr (.inr f)))))) (ht : tys[t0]? = some (cA, .object r.1)) (hv : M v = some (.inr (ci, vs))) (hc : vwCl[ci]? = some r) {i : Int32} (hin : vp_in i n) (hdg : decode cc pc = .ok (.aastore, 1))
    (kk : ∀ (H1 : Heap) (locs1 : List Loc), mP D (mu M a (.inl (cA, n, .inr (.inr (.inr (.inr (va_up f i.toNatClampNeg (some v)))))))) H1 → mI A (mu M a (.inl (cA, n, .inr (.inr (.inr (.inr (va_up f i.toNatClampNeg (some v)))))))) → va_S A H0 H1 locs1 → W p l e R s m args below meth c H1 locs1 cells slots Q (F0 m (pc + 1) ls rest)) : W p l e R s m args below meth c H locs cells slots Q (F0 m pc ls (.ref v :: .int i :: .ref a :: rest)) := by
  obtain ⟨ws, hL, hPw, hDw⟩ := mL_ex hP
  obtain ⟨q0, hq0⟩ := hL.1 a _ ha
  obtain ⟨qk, hqk⟩ := hL.1 v _ hv
  exact va_astq hexec hb hK hPw (hDw A hI) hS q0 t0 qk ci hq0 ht hqk hc hin hdg (fun H1 locs1 h1 _ h3 => kk H1 locs1 (hL.set hq0 h1) (hI.mu (hI a _ ha)) h3)
theorem m_astqN (hexec : p.tables.exec = Jvm.exec) (hb : c.code = cc) (hK : va_K D vwCl tys s) (hP : mP D M H) (hI : mI A M) (hS : va_S A H0 H locs) (t0 : Nat) {cA : ClassId} {C : String} {n : Nat} {f : Nat → Option Nat} (ha : M a = some (.inl (cA, n, .inr (.inr (.inr (.inr f)))))) (ht : tys[t0]? = some (cA, .object C)) {i : Int32} (hin : vp_in i n) (hdg : decode cc pc = .ok (.aastore, 1))
    (kk : ∀ (H1 : Heap) (locs1 : List Loc), mP D (mu M a (.inl (cA, n, .inr (.inr (.inr (.inr (va_up f i.toNatClampNeg none))))))) H1 → mI A (mu M a (.inl (cA, n, .inr (.inr (.inr (.inr (va_up f i.toNatClampNeg none))))))) → va_S A H0 H1 locs1 → W p l e R s m args below meth c H1 locs1 cells slots Q (F0 m (pc + 1) ls rest)) : W p l e R s m args below meth c H locs cells slots Q (F0 m pc ls (.null :: .int i :: .ref a :: rest)) := by
  obtain ⟨ws, hL, hPw, hDw⟩ := mL_ex hP
  obtain ⟨q0, hq0⟩ := hL.1 a _ ha
  exact va_astqN hexec hb hK hPw (hDw A hI) hS q0 t0 hq0 ht hin hdg (fun H1 locs1 h1 _ h3 => kk H1 locs1 (hL.set hq0 h1) (hI.mu (hI a _ ha)) h3)
theorem m_alen (hexec : p.tables.exec = Jvm.exec) (hb : c.code = cc) (hK : va_K D vwCl tys s) (t0 : Nat) {cA : ClassId} {x : vp_A} {ty : FieldType} (ha : va_at D vwCl (a, .inl (cA, x)) H) (ht : tys[t0]? = some (cA, ty)) {v : Int32} (hv : Int32.ofNat x.1 = v) (hdg : decode cc pc = .ok (.arraylength, 1))
    (kk : W p l e R s m args below meth c H locs cells slots Q (F0 m (pc + 1) ls (.int v :: rest))) : W p l e R s m args below meth c H locs cells slots Q (F0 m pc ls (.ref a :: rest)) :=
  va_alen hexec hb hK ha.one 0 t0 rfl ht hv hdg kk
end MW
