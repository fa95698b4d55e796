section
-- ===== PART A: goes FIRST, ahead of the names: the tables' words, and 'selects' of the private methods out of them =====
/-- a private method of a class that the tables say can be made, by its rows of tables_1 -/
def lw_okq (q : MethodName × Nat) : Prop := (q.1.cls ≠ "java/lang/invoke/MethodHandle" ∧ q.1.cls ≠ "java/lang/invoke/VarHandle") ∧ Cond.instantiable q.1.cls q.2 ∈ tables_1 ∧ Cond.privateMethod q.1 ∈ tables_1 ∧ Cond.instanceMethod q.1 ∈ tables_1
theorem lw_p0 : lw_okq (⟨"Meniscus", "instrumentsOfTube", "(I)I"⟩, 9) := ⟨⟨by decide +kernel, by decide +kernel⟩, List.mem_of_getElem? (i := 16) (by decide +kernel), List.mem_of_getElem? (i := 71) (by decide +kernel), List.mem_of_getElem? (i := 72) (by decide +kernel)⟩
theorem lw_p1 : lw_okq (⟨"java/lang/Throwable", "fillInStackTrace", "(I)Ljava/lang/Throwable;"⟩, 6) := ⟨⟨by decide +kernel, by decide +kernel⟩, List.mem_of_getElem? (i := 127) (by decide +kernel), List.mem_of_getElem? (i := 125) (by decide +kernel), List.mem_of_getElem? (i := 126) (by decide +kernel)⟩
theorem lw_p2 : lw_okq (⟨"Meniscus", "tubeNumbered", "(I)LMeniscus$Tube;"⟩, 9) := ⟨⟨by decide +kernel, by decide +kernel⟩, List.mem_of_getElem? (i := 16) (by decide +kernel), List.mem_of_getElem? (i := 203) (by decide +kernel), List.mem_of_getElem? (i := 204) (by decide +kernel)⟩
def lw_privs_1 : List (MethodName × Nat) := [(⟨"Meniscus", "instrumentsOfTube", "(I)I"⟩, 9), (⟨"java/lang/Throwable", "fillInStackTrace", "(I)Ljava/lang/Throwable;"⟩, 6), (⟨"Meniscus", "tubeNumbered", "(I)LMeniscus$Tube;"⟩, 9)]
theorem lw_r1 : ∀ q ∈ lw_privs_1, lw_okq q := List.forall_mem_cons.mpr ⟨lw_p0, List.forall_mem_cons.mpr ⟨lw_p1, List.forall_mem_cons.mpr ⟨lw_p2, fun _ h => absurd h List.not_mem_nil⟩⟩⟩
def lw_privs : List (MethodName × Nat) := lw_privs_1
def lw_tbl : List Cond := k2_sels lw_privs ++ tables_1
theorem lw_privs_ok : ∀ q ∈ lw_privs, lw_okq q := lw_r1
end
section
/-! ===== BEGIN words of one list among another's, by their places ===== -/
theorem goodIn_r {big : List Cond} (ws : List Cond) (ps : List Nat) (hp : ws = ps.filterMap (fun i => big[i]?)) (h : ws.all goodWord = true) : GoodIn big ws := by
  intro w hw
  have h1 := List.all_eq_true.mp h w hw
  rw [hp] at hw
  obtain ⟨i, -, hi⟩ := List.mem_filterMap.mp hw
  have hm : w ∈ big := by first | exact List.mem_of_getElem? hi | exact List.getElem?_mem hi
  exact ⟨hm, good_of_word h1⟩
theorem goodIn_app {big a b : List Cond} (ha : GoodIn big a) (hb : GoodIn big b) : GoodIn big (a ++ b) := fun w h => (List.mem_append.mp h).elim (ha w) (hb w)
theorem goodIn_ca {big a b : List Cond} {c : Cond} (ha : GoodIn big (c :: a)) (hb : GoodIn big b) : GoodIn big (c :: (a ++ b)) := fun w h => (List.mem_cons.mp h).elim (fun e => ha w (List.mem_cons.mpr (Or.inl e))) (fun h => (List.mem_append.mp h).elim (fun h => ha w (List.mem_cons.mpr (Or.inr h))) (hb w))
theorem goodIn_sub {big ws : List Cond} (hm : ∀ w ∈ ws, w ∈ big) (h : ws.all goodWord = true) : GoodIn big ws := fun w hw => ⟨hm w hw, good_of_word (List.all_eq_true.mp h w hw)⟩
/-! ===== END ===== -/

/-! ===== BEGIN exceptions that leave a method, and their catching by the caller (launches without stack traces) ===== -/
section VXA
/-! The laws vx_back, vx_callV, vx_callS, vx_callSW, vx_throw0, vx_throwS follow proofs of the library, with one case more: JvmDerived/Free/Laws.lean (Back.of_free), Shelf42/LK1.lean (callV, callS), Shelf/KitTraced.lean (throwNew0V, throwNewS). -/
/-- where a method has thrown q: the class by its name, the cell, what was written, the world -/
def vx_T (XC : String → State → State → Prop) (st : State) (q : Addr) (t : State) (mc ms : Nat) (free : Addr → Prop) : Prop :=
  ∃ (E : String) (ce : Cell) (L : List Loc), XC E st t ∧ t.heap[q]? = some ce ∧ ce.vm = .none ∧ st.vm.findClass E = some ce.cls ∧ st.WarmedH t.vm ∧ st.sameButNew ({ t with vm := st.vm } : State) L mc ms ∧ ∀ z ∈ L, free z.base
def vx_Q (Qc : Array Value → State → Outcome → State → Prop) (XC : String → State → State → Prop) (mc ms : Nat) (free : Addr → Prop) : Array Value → State → Outcome → State → Prop := fun a st o t =>
  (Qc a st o t ∧ ∃ L, FrameEnd st o t L mc ms ∧ ∀ q ∈ L, free q.base) ∨ ∃ q, o = .threw q ∧ vx_T XC st q t mc ms free
/-- a callee that returns or throws -/
def vx_Met (l : Launch) (y : MethodName) (ws : List Cond) (rm : Room) (Pc : Array Value → State → Prop) (Qc : Array Value → State → Outcome → State → Prop) (XC : String → State → State → Prop) (mc ms : Nat) (free : Addr → Prop) : Prop :=
  MetFree l y (headSpec ws rm) Pc (fun _ _ _ _ _ => True) (vx_Q Qc XC mc ms free)
def vx_Post (XC : String → State → State → Prop) (mc ms : Nat) (free : Addr → Prop) : Pt → Array Value → Addr → Pt → Prop := fun A a q B =>
  ∃ (g : JFrame) (mk : MethodId) (t : State) (L : List Loc) (E : String) (ce : Cell), B.U.heap = t.heap ∧ B.U.vm = t.vm ∧ XC E (A.U.calling g mk a) t ∧ t.heap[q]? = some ce ∧ ce.vm = .none ∧ A.U.vm.findClass E = some ce.cls ∧ B.locs = A.locs ++ L ∧ (∀ z ∈ L, free z.base) ∧ B.cells = A.cells + mc ∧ B.slots = A.slots + ms
def vx_Back (l : Launch) (R : Room) (p : Program) (e : Env) (below : List Frame) (s : State) (sargs : Array Value) (y : MethodName) (len W9 : Nat)
    (Pre : Pt → Array Value → Prop) (Post : Pt → Array Value → Option Value → Pt → Prop) (PostX : Pt → Array Value → Addr → Pt → Prop) : Prop :=
  ∀ (m : MethodId) (meth : Method) (c : Code) (A : Pt) (g : JFrame) (ig : Instr) (mk : MethodId) (a : Array Value),
    Stand p l e R s m sargs below meth c A.U A.locs A.cells A.slots → g.method = m → g.locals.size = c.maxLocals → decode c.code g.pc = .ok (ig, len) →
    2 * g.monitorRoom + (g.stack.map fun v => v.category).sum ≤ W9 → A.U.methodNamed? y = some mk → Pre A a →
    (∃ (v : Option Value) (B : Pt), Stand p l e R s m sargs below meth c B.U B.locs B.cells B.slots ∧ Post A a v B ∧
      Steps p.tables e below (doInvoke e (A.U.setTop g) [] mk a).1 (B.U.setTop { g with pc := g.pc + len, stack := v.toList ++ g.stack })) ∨
    (∃ (q : Addr) (B : Pt), Stand p l e R s m sargs below meth c B.U B.locs B.cells B.slots ∧ PostX A a q B ∧
      Steps p.tables e below (doInvoke e (A.U.setTop g) [] mk a).1 ((B.U.setTop g).pushFrame (.throwing q)))
section Payer
variable {l : Launch} {R : Room} {p : Program} {e : Env} {below : List Frame} {s : State} {sargs : Array Value} {y : MethodName} {len W9 : Nat}
theorem vx_back {ws : List Cond} {rm : Room} {Pc : Array Value → State → Prop} {Qc : Array Value → State → Outcome → State → Prop} {XC : String → State → State → Prop} {mc ms : Nat} {free : Addr → Prop} {bytes : ByteArray} {maxL : Nat} {ret : Option FieldType}
    (hM : vx_Met l y ws rm Pc Qc XC mc ms free) (hblind : FrameBlind Pc) (hrc : rm.cells = mc) (hrs : rm.slots = ms)
    (hframes : rm.frames + 1 ≤ R.frames) (hlocals : W9 + (maxL + 11) + rm.locals ≤ R.locals)
    (hws : ∀ w ∈ ws, ∀ a' U, s.WarmedH U.vm → w.before a' U = true) (hcode : Cond.code y bytes maxL ret ∈ ws) (hinit : ∀ a' U, s.WarmedH U.vm → (Cond.initialized y.cls).before a' U = true) :
    vx_Back l R p e below s sargs y len W9 (PreOf R mc ms Pc) (PostOf Qc mc ms free) (vx_Post XC mc ms free) := by
  intro m meth c A g ig mk a X hg hsize hdg hW hn hp
  have h1 : (headSpec ws rm).pre.before a A.U = true := atoms_intro fun w hw => hws w hw _ _ X.warmed
  have h2 : (Cond.code y bytes maxL ret).before a A.U = true := hws _ hcode _ _ X.warmed
  have h3 : (Cond.initialized y.cls).before a A.U = true := hinit _ _ X.warmed
  have h4 : A.cells + (headSpec ws rm).room.cells ≤ R.cells := by rw [show (headSpec ws rm).room.cells = mc from hrc]; exact hp.1
  have h5 : A.slots + (headSpec ws rm).room.slots ≤ R.slots := by rw [show (headSpec ws rm).room.slots = ms from hrs]; exact hp.2.1
  have hPc : Pc a (A.U.calling g mk a) := hblind _ _ _ _ hp.2.2
  obtain ⟨U, Ls, c0, s0⟩ := A
  dsimp only [Pt.U, Pt.locs, Pt.cells, Pt.slots] at h1 h2 h3 h4 h5 X hn hPc ⊢
  obtain ⟨methY, cY, hmY, hcY, -, hlY, -, -, -, -⟩ := Cond.code_spec hn h2
  obtain ⟨kY, hkY, -⟩ := className_of_methodNamed hn
  have hinitY : kY.init = .initialized := Cond.initialized_spec (findClass_of_methodNamed hn) hkY h3
  have h : At U g.method c below := by rw [hg]; exact X.here
  have hlocals9 : W9 + (maxL + 11) + (headSpec ws rm).room.locals ≤ R.locals := hlocals
  have happ : (headSpec ws rm).appliesLoose y e.platform (U.calling g mk a) = true :=
    Spec.appliesLoose_calling (g := g) h hdg hn hkY hinitY
      (X.room_calling (g := g) (R' := (headSpec ws rm).room) hsize hmY hcY hframes (by rw [hlY]; omega) h4 h5) h1
  obtain ⟨mid, hmid⟩ := h.above
  have hfr : (U.setTop g).frames = (.java g :: mid) ++ below := by rw [State.frames_setTop' g h.top, hmid]; rfl
  obtain ⟨o, s₂, hsteps, -, hend, hq⟩ := Steps.callFree hM p X.admits X.cas X.clock (acts := []) hfr happ hPc trivial
  have hq' : vx_Q Qc XC mc ms free a (U.calling g mk a) o s₂ := hq
  rw [State.frames_setTop' g h.top] at hend
  obtain ⟨g₀, hg0⟩ := Option.isSome_iff_exists.mp h.top
  obtain ⟨r, hr⟩ := State.topJava?_eq_some.mp hg0
  have hr' : (({ U with heap := s₂.heap, slotsUsed := s₂.slotsUsed } : State).setVm s₂.vm).frames = .java g₀ :: r := hr
  rcases hq' with ⟨hqc, L, hfe, hL⟩ | ⟨q, rfl, E, ce, L, hx, hce, hcv, hcl, hW₂, hsm, hL⟩
  · obtain ⟨⟨v, rfl⟩, hW₂, e2, q2, q3, q4, q5, q6⟩ := id hfe
    have e3 : s₂ = ({ (U.calling g mk a).setFrames s₂.frames with heap := s₂.heap, slotsUsed := s₂.slotsUsed } : State).setVm s₂.vm := by
      have : s₂ = ({ s₂ with vm := (U.calling g mk a).vm } : State).setVm s₂.vm := rfl
      rw [e2] at this
      exact this
    obtain ⟨c₂, i₂, len₂, hc₂, hd₂, hf₂⟩ := hend
    have hW' : U.WarmedH s₂.vm := hW₂
    have hcc : c₂ = c := by
      have h1 : s₂.code? g.method = U.code? g.method := by
        rw [State.code?_eq, State.code?_eq, hW'.alike.method?]
      exact Option.some.inj (hc₂.symm.trans (h1.trans h.code))
    subst hcc
    have hlen : len₂ = len := by rw [hdg] at hd₂; cases hd₂; rfl
    subst hlen
    have hs₂ : s₂ = (({ U with heap := s₂.heap, slotsUsed := s₂.slotsUsed } : State).setVm s₂.vm).setTop { g with pc := g.pc + len₂, stack := v.toList ++ g.stack } := by
      refine e3.trans ?_
      rw [hf₂, State.calling_eq h.top, State.setFrames_setFrames, State.setTop_of_frames _ hr', hr]
      rfl
    have hsame : U.sameButNew ({ U with heap := s₂.heap, slotsUsed := s₂.slotsUsed } : State) L mc ms := by
      refine ⟨?_, q2, q3, q4, q5, q6⟩
      obtain ⟨t, ht, -⟩ := State.frames_cons hr
      show ({ U with heap := s₂.heap, slotsUsed := s₂.slotsUsed } : State) = { U.setFrames U.frames with heap := s₂.heap, slotsUsed := s₂.slotsUsed }
      rw [State.setFrames_self ht]
    subst hg
    refine Or.inl ⟨v, ⟨(({ U with heap := s₂.heap, slotsUsed := s₂.slotsUsed } : State).setVm s₂.vm), Ls ++ L, c0 + mc, s0 + ms⟩,
      ⟨X.admits, X.cas, X.clock, X.frames, X.room, X.hears, X.method, X.code, (X.here.setHeapUsed s₂.heap s₂.slotsUsed).setVm hW'.alike, X.tail, State.WarmedH.trans X.warmed hW', X.limits, X.bytes, X.same.trans (hsame.setVm s.vm)⟩,
      ⟨g, mk, s₂, L, rfl, rfl, hqc, rfl, hL, rfl, rfl⟩, ?_⟩
    show Steps p.tables e below _ ((({ U with heap := s₂.heap, slotsUsed := s₂.slotsUsed } : State).setVm s₂.vm).setTop { g with pc := g.pc + len₂, stack := v.toList ++ g.stack })
    rw [← hs₂]
    exact hsteps
  · obtain ⟨e2, q2, q3, q4, q5, q6⟩ := id hsm
    have e3 : s₂ = ({ (U.calling g mk a).setFrames s₂.frames with heap := s₂.heap, slotsUsed := s₂.slotsUsed } : State).setVm s₂.vm := by
      have : s₂ = ({ s₂ with vm := (U.calling g mk a).vm } : State).setVm s₂.vm := rfl
      rw [e2] at this
      exact this
    have hf₂ : s₂.frames = .throwing q :: .java g :: U.frames.tail := hend
    have hW' : U.WarmedH s₂.vm := hW₂
    have hs₂ : s₂ = ((({ U with heap := s₂.heap, slotsUsed := s₂.slotsUsed } : State).setVm s₂.vm).setTop g).pushFrame (.throwing q) := by
      refine e3.trans ?_
      rw [hf₂, State.calling_eq h.top, State.setFrames_setFrames, State.pushFrame, State.frames_setTop _ hr', State.setTop_of_frames _ hr', State.setFrames_setFrames, hr]
      rfl
    have hsame : U.sameButNew ({ U with heap := s₂.heap, slotsUsed := s₂.slotsUsed } : State) L mc ms := by
      refine ⟨?_, q2, q3, q4, q5, q6⟩
      obtain ⟨t, ht, -⟩ := State.frames_cons hr
      show ({ U with heap := s₂.heap, slotsUsed := s₂.slotsUsed } : State) = { U.setFrames U.frames with heap := s₂.heap, slotsUsed := s₂.slotsUsed }
      rw [State.setFrames_self ht]
    subst hg
    refine Or.inr ⟨q, ⟨(({ U with heap := s₂.heap, slotsUsed := s₂.slotsUsed } : State).setVm s₂.vm), Ls ++ L, c0 + mc, s0 + ms⟩,
      ⟨X.admits, X.cas, X.clock, X.frames, X.room, X.hears, X.method, X.code, (X.here.setHeapUsed s₂.heap s₂.slotsUsed).setVm hW'.alike, X.tail, State.WarmedH.trans X.warmed hW', X.limits, X.bytes, X.same.trans (hsame.setVm s.vm)⟩,
      ⟨g, mk, s₂, L, E, ce, rfl, rfl, hx, hce, hcv, hcl, rfl, hL, rfl, rfl⟩, ?_⟩
    show Steps p.tables e below _ (((({ U with heap := s₂.heap, slotsUsed := s₂.slotsUsed } : State).setVm s₂.vm).setTop g).pushFrame (.throwing q))
    rw [← hs₂]
    exact hsteps
end Payer
section Calls
variable {p : Program} {l : Launch} {e : Env} {R : Room} {s : State} {m : MethodId} {args : Array Value} {below : List Frame} {meth : Method} {c : Code} {T : State} {locs : List Loc} {cells slots : Nat}
theorem vx_callV (X : Stand p l e R s m args below meth c T locs cells slots) (hexec : p.tables.exec = Jvm.exec) {own C : String} {index : Nat} {y : MethodName} {bytes : ByteArray} {maxL : Nat} {ret : Option FieldType}
    (hown : s.vm.findClass own = some m.cls) (hlink : (Cond.methodLink own index y).before args s = true) (hinst : (Cond.instanceMethod y).before args s = true) (hsel : (Cond.selects C y y).before args s = true)
    (hcode : (Cond.code y bytes maxL ret).before args s = true) (hy : y.cls ≠ "java/lang/invoke/MethodHandle" ∧ y.cls ≠ "java/lang/invoke/VarHandle")
    {W9 : Nat} {Pre : Pt → Array Value → Prop} {Post : Pt → Array Value → Option Value → Pt → Prop} {PostX : Pt → Array Value → Addr → Pt → Prop} (hK : vx_Back l R p e below s args y 3 W9 Pre Post PostX)
    {b : Addr} {cellB : Cell} (hcell : T.heap[b]? = some cellB) (hobj : cellB.vm.isStatics = false) (hcls : s.vm.findClass C = some cellB.cls)
    {g : JFrame} (hg : g.method = m) (hsize : g.locals.size = c.maxLocals) {argsL rest : List Value} (hlen : ∀ sig, parseMethodDescriptor y.desc = some sig → argsL.length = sig.parameters.length)
    (hstack : g.stack = argsL.reverse ++ .ref b :: rest) (hW : 2 * g.monitorRoom + (rest.map fun v => v.category).sum ≤ W9) (hdg : decode c.code g.pc = .ok (.invokevirtual index, 3))
    (hpre : ∀ vm₁, s.WarmedH vm₁ → Pre ⟨T.setVm vm₁, locs, cells, slots⟩ (Value.ref b :: argsL).toArray) :
    (∃ (v : Option Value) (vm₁ : Vm) (B : Pt), s.WarmedH vm₁ ∧ Stand p l e R s m args below meth c B.U B.locs B.cells B.slots ∧ Post ⟨T.setVm vm₁, locs, cells, slots⟩ (Value.ref b :: argsL).toArray v B ∧
      ∀ target, Steps p.tables e below (B.U.setTop { g with pc := g.pc + 3, stack := v.toList ++ rest }) target → Steps p.tables e below (T.setTop g) target) ∨
    (∃ (q : Addr) (vm₁ : Vm) (B : Pt), s.WarmedH vm₁ ∧ Stand p l e R s m args below meth c B.U B.locs B.cells B.slots ∧ PostX ⟨T.setVm vm₁, locs, cells, slots⟩ (Value.ref b :: argsL).toArray q B ∧
      Steps p.tables e below (T.setTop g) ((B.U.setTop { g with stack := rest }).pushFrame (.throwing q))) := by
  obtain ⟨mk, methM, hnamed, hmethM, hstM, habM⟩ := Cond.instanceMethod_spec hinst
  obtain ⟨methM', cM, hmethM', -, -, -, -, -, -, hsigM⟩ := Cond.code_spec hnamed hcode
  cases hmethM.symm.trans hmethM'
  obtain ⟨c2, r2, m2, q1, q2, q3, q4, kP, hkP, hkPi⟩ := Cond.selects_spec hsel
  cases hcls.symm.trans q1
  cases (State.methodFound?_of_named hnamed hy).symm.trans q2
  cases hnamed.symm.trans q3
  have hselP : selectMethod e.platform s.vm cellB.cls mk = .method mk := by rw [Launch.admits_selectMethod X.admits]; exact q4
  obtain ⟨vm₁, X₁, hstep₁⟩ := X.invokevirtual hexec hown hlink hnamed hmethM hstM hkP hkPi hy (a := b) (cell := cellB) hcell
    (fun z h => by rw [h] at hobj; cases hobj) hselP hmethM habM hkP hkPi (g := g) hg (argsL := argsL) (rest := rest) (hlen _ hsigM) hstack hdg
  rcases hK m meth c ⟨T.setVm vm₁, locs, cells, slots⟩ { g with stack := rest } (.invokevirtual index) mk (Value.ref b :: argsL).toArray X₁ hg hsize hdg hW (X₁.named hnamed) (hpre vm₁ X₁.warmed) with ⟨v, B, X', hpost, hsteps⟩ | ⟨q, B, X', hpost, hsteps⟩
  · exact Or.inl ⟨v, vm₁, B, X₁.warmed, X', hpost, fun target h => hstep₁ _ fun acts => by rw [doInvoke_state]; exact hsteps.trans h⟩
  · exact Or.inr ⟨q, vm₁, B, X₁.warmed, X', hpost, hstep₁ _ fun acts => by rw [doInvoke_state]; exact hsteps⟩
theorem vx_callS (X : Stand p l e R s m args below meth c T locs cells slots) (hexec : p.tables.exec = Jvm.exec) {own : String} {index : Nat} {y : MethodName} {bytes : ByteArray} {maxL : Nat} {ret : Option FieldType}
    (hown : s.vm.findClass own = some m.cls) (hlink : (Cond.methodLink own index y).before args s = true) (hstat : (Cond.static y).before args s = true) (hinit : (Cond.initialized y.cls).before args s = true)
    (hcode : (Cond.code y bytes maxL ret).before args s = true) (hy : y.cls ≠ "java/lang/invoke/MethodHandle" ∧ y.cls ≠ "java/lang/invoke/VarHandle")
    {W9 : Nat} {Pre : Pt → Array Value → Prop} {Post : Pt → Array Value → Option Value → Pt → Prop} {PostX : Pt → Array Value → Addr → Pt → Prop} (hK : vx_Back l R p e below s args y 3 W9 Pre Post PostX)
    {g : JFrame} (hg : g.method = m) (hsize : g.locals.size = c.maxLocals) {argsL rest : List Value} (hlen : ∀ sig, parseMethodDescriptor y.desc = some sig → argsL.length = sig.parameters.length)
    (hstack : g.stack = argsL.reverse ++ rest) (hW : 2 * g.monitorRoom + (rest.map fun v => v.category).sum ≤ W9) (hdg : decode c.code g.pc = .ok (.invokestatic index, 3))
    (hpre : ∀ vm₁, s.WarmedH vm₁ → Pre ⟨T.setVm vm₁, locs, cells, slots⟩ argsL.toArray) :
    (∃ (v : Option Value) (vm₁ : Vm) (B : Pt), s.WarmedH vm₁ ∧ Stand p l e R s m args below meth c B.U B.locs B.cells B.slots ∧ Post ⟨T.setVm vm₁, locs, cells, slots⟩ argsL.toArray v B ∧
      ∀ target, Steps p.tables e below (B.U.setTop { g with pc := g.pc + 3, stack := v.toList ++ rest }) target → Steps p.tables e below (T.setTop g) target) ∨
    (∃ (q : Addr) (vm₁ : Vm) (B : Pt), s.WarmedH vm₁ ∧ Stand p l e R s m args below meth c B.U B.locs B.cells B.slots ∧ PostX ⟨T.setVm vm₁, locs, cells, slots⟩ argsL.toArray q B ∧
      Steps p.tables e below (T.setTop g) ((B.U.setTop { g with stack := rest }).pushFrame (.throwing q))) := by
  obtain ⟨mk, hnamed⟩ := Cond.code_named hcode
  obtain ⟨methM, cM, hmethM, -, -, -, -, -, -, hsigM⟩ := Cond.code_spec hnamed hcode
  have hstatic : methM.isStatic = true := Cond.static_spec hnamed hmethM hstat
  obtain ⟨kP, hkP, -⟩ := className_of_methodNamed hnamed
  have hinitP : kP.init = .initialized := Cond.initialized_spec (findClass_of_methodNamed hnamed) hkP hinit
  obtain ⟨vm₁, X₁, hstep₁⟩ := X.invokestatic hexec hown hlink hnamed hmethM hstatic hkP hinitP hy (g := g) hg (argsL := argsL) (rest := rest) (hlen _ hsigM) hstack hdg
  rcases hK m meth c ⟨T.setVm vm₁, locs, cells, slots⟩ { g with stack := rest } (.invokestatic index) mk argsL.toArray X₁ hg hsize hdg hW (X₁.named hnamed) (hpre vm₁ X₁.warmed) with ⟨v, B, X', hpost, hsteps⟩ | ⟨q, B, X', hpost, hsteps⟩
  · exact Or.inl ⟨v, vm₁, B, X₁.warmed, X', hpost, fun target h => hstep₁ _ fun acts => by rw [doInvoke_state]; exact hsteps.trans h⟩
  · exact Or.inr ⟨q, vm₁, B, X₁.warmed, X', hpost, hstep₁ _ fun acts => by rw [doInvoke_state]; exact hsteps⟩
end Calls
theorem vx_cls {s : State} {T : State} {vm₁ : Vm} {E : String} {k : ClassId} (hW : s.WarmedH vm₁) (h : (T.setVm vm₁).vm.findClass E = some k) : s.vm.findClass E = some k := by
  have h1 : vm₁.findClass E = some k := h
  rw [hW.alike.findClass] at h1
  exact h1
/-- the method's frame g, with q thrown over it -/
def vx_W (p : Program) (l : Launch) (e : Env) (R : Room) (s : State) (m : MethodId) (args : Array Value) (below : List Frame) (meth : Method) (c : Code) (H : Heap) (locs : List Loc) (cells slots : Nat) (Q : State → Prop) (g : JFrame) (q : Addr) : Prop :=
  ∀ T : State, T.heap = H → Stand p l e R s m args below meth c T locs cells slots → ∃ t, Steps p.tables e below ((T.setTop g).pushFrame (.throwing q)) t ∧ Q t
def vx_Run (p : Program) (l : Launch) (e : Env) (R : Room) (s : State) (m : MethodId) (args : Array Value) (below : List Frame) (meth : Method) (c : Code) (H : Heap) (locs : List Loc) (cells slots mc ms : Nat) (g : JFrame) (rest : List Value) (Qa : State → Outcome → State → Prop) (XC : String → State → State → Prop) (free : Addr → Prop) : Prop :=
  ∀ T : State, T.heap = H → Stand p l e R s m args below meth c T locs cells slots →
    (∃ (v : Option Value) (st₀ t T' : State) (L : List Loc), st₀.heap = H ∧ Stand p l e R s m args below meth c T' (locs ++ L) (cells + mc) (slots + ms) ∧ (∀ q ∈ L, free q.base) ∧ T'.heap = t.heap ∧ T'.vm = t.vm ∧ Qa st₀ (.returned v) t ∧
      Goes p e below T g T' { g with pc := g.pc + 3, stack := v.toList ++ rest }) ∨
    (∃ (q : Addr) (st₀ t T' : State) (L : List Loc) (E : String) (ce : Cell), st₀.heap = H ∧ Stand p l e R s m args below meth c T' (locs ++ L) (cells + mc) (slots + ms) ∧ (∀ z ∈ L, free z.base) ∧ T'.heap = t.heap ∧ T'.vm = t.vm ∧ XC E st₀ t ∧ t.heap[q]? = some ce ∧ ce.vm = .none ∧ s.vm.findClass E = some ce.cls ∧
      Steps p.tables e below (T.setTop g) ((T'.setTop { g with stack := rest }).pushFrame (.throwing q)))
def vx_X {S : Type} (px : S → Prop) (B : String → S → State → Prop) (A : Nat → Prop) : String → State → State → Prop := fun E st t => ∃ u : S, px u ∧ B E u t ∧ va_F A st t
section Runs
variable {p : Program} {l : Launch} {e : Env} {R : Room} {s : State} {m : MethodId} {args : Array Value} {below : List Frame} {meth : Method} {c : Code} {H : Heap} {locs : List Loc} {cells slots : Nat}
variable {y : MethodName} {bytes cc : ByteArray} {maxL nL mc ms n index : Nat} {ret : Option FieldType} {ws : List Cond} {rm : Room} {Pc : Array Value → State → Prop} {Qc : Array Value → State → Outcome → State → Prop} {XC : String → State → State → Prop} {free : Addr → Prop} {Ts : List Cond} {own C : String} {b : Addr} {As rest : List Value} {g : JFrame}
theorem vx_callBack (cb : CallB R s args own index y bytes maxL ret ws rm mc ms n) (hM : vx_Met l y ws rm Pc Qc XC mc ms free) (hbl : FrameBlind Pc) : vx_Back l R p e below s args y 3 8 (PreOf R mc ms Pc) (PostOf Qc mc ms free) (vx_Post XC mc ms free) := by
  obtain ⟨hrc, hrs, hfr, hlo, hws, hcw, -, hini, -⟩ := cb
  exact vx_back (bytes := bytes) (maxL := maxL) (ret := ret) hM hbl hrc hrs hfr hlo hws hcw (fun a' U hW => word_at hW (Or.inl (by first | rfl | simp [Cond.onTables, Cond.keeps, Cond.steady])) hini)
theorem vx_runV (S : CallFix p m c cc nL s args Ts own) (hM : vx_Met l y ws rm Pc Qc XC mc ms free) (cw : CallW R s args own C index y bytes maxL ret ws rm mc ms n) (hp : PreV s H C b Pc As)
    (hg : g.method = m) (hn : As.length = n) (hsize : g.locals.size = nL) (hstack : g.stack = As.reverse ++ .ref b :: rest) (hW : 2 * g.monitorRoom + (rest.map fun v => v.category).sum ≤ 8) (hdg : decode cc g.pc = .ok (.invokevirtual index, 3)) (hf : cells + mc ≤ R.cells ∧ slots + ms ≤ R.slots) :
    vx_Run p l e R s m args below meth c H locs cells slots mc ms g rest (Qc (Value.ref b :: As).toArray) XC free := by
  have hK : vx_Back l R p e below s args y 3 8 (PreOf R mc ms Pc) (PostOf Qc mc ms free) (vx_Post XC mc ms free) := vx_callBack cw.1 hM hp.1
  obtain ⟨⟨-, -, -, -, -, -, hcode, -, hy, hlen, hl⟩, hin, hse⟩ := cw
  obtain ⟨hx, hb, hml, ho, -⟩ := S
  obtain ⟨-, ⟨cellB, hcB, hoB, hclB⟩, hPc⟩ := hp
  intro T hT X
  rcases vx_callV X hx (C := C) (bytes := bytes) (maxL := maxL) (ret := ret) ho hl hin hse hcode hy hK (by rw [hT]; exact hcB) hoB hclB hg (hsize.trans hml.symm) (argsL := As) (rest := rest) (fun sig h => hn.trans (hlen sig h)) hstack hW (by rw [hb]; exact hdg)
    (fun vm₁ hW₁ => ⟨hf.1, hf.2, hPc (T.setVm vm₁) hT hW₁⟩) with ⟨v, vm₁, ⟨U', l2, c2, s2⟩, hW₁, X', ⟨g', mk, t, L, e1, e2, hq, h1, hL, h2, h3⟩, st⟩ | ⟨q, vm₁, ⟨U', l2, c2, s2⟩, hW₁, X', ⟨g', mk, t, L, E, ce, e1, e2, hq, hce, hcv, hcl, h1, hL, h2, h3⟩, st⟩
  · dsimp only [Pt.U, Pt.locs, Pt.cells, Pt.slots] at X' e1 e2 h1 h2 h3 st
    subst h1; subst h2; subst h3
    exact Or.inl ⟨v, (T.setVm vm₁).calling g' mk (Value.ref b :: As).toArray, t, U', L, hT, X', hL, e1, e2, hq, st⟩
  · dsimp only [Pt.U, Pt.locs, Pt.cells, Pt.slots] at X' e1 e2 h1 h2 h3 st hcl
    subst h1; subst h2; subst h3
    exact Or.inr ⟨q, (T.setVm vm₁).calling g' mk (Value.ref b :: As).toArray, t, U', L, E, ce, hT, X', hL, e1, e2, hq, hce, hcv, vx_cls hW₁ hcl, st⟩
theorem vx_runS (S : CallFix p m c cc nL s args Ts own) (hM : vx_Met l y ws rm Pc Qc XC mc ms free) (cw : CallB R s args own index y bytes maxL ret ws rm mc ms n ∧ (Cond.static y).before args s = true) (hp : PreS s H Pc As)
    (hg : g.method = m) (hn : As.length = n) (hsize : g.locals.size = nL) (hstack : g.stack = As.reverse ++ rest) (hW : 2 * g.monitorRoom + (rest.map fun v => v.category).sum ≤ 8) (hdg : decode cc g.pc = .ok (.invokestatic index, 3)) (hf : cells + mc ≤ R.cells ∧ slots + ms ≤ R.slots) :
    vx_Run p l e R s m args below meth c H locs cells slots mc ms g rest (Qc As.toArray) XC free := by
  have hK : vx_Back l R p e below s args y 3 8 (PreOf R mc ms Pc) (PostOf Qc mc ms free) (vx_Post XC mc ms free) := vx_callBack cw.1 hM hp.1
  obtain ⟨⟨-, -, -, -, -, -, hcode, hini, hy, hlen, hl⟩, hstt⟩ := cw
  obtain ⟨hx, hb, hml, ho, -⟩ := S
  intro T hT X
  rcases vx_callS X hx (bytes := bytes) (maxL := maxL) (ret := ret) ho hl hstt hini hcode hy hK hg (hsize.trans hml.symm) (argsL := As) (rest := rest) (fun sig h => hn.trans (hlen sig h)) hstack hW (by rw [hb]; exact hdg)
    (fun vm₁ hW₁ => ⟨hf.1, hf.2, hp.2 (T.setVm vm₁) hT hW₁⟩) with ⟨v, vm₁, ⟨U', l2, c2, s2⟩, hW₁, X', ⟨g', mk, t, L, e1, e2, hq, h1, hL, h2, h3⟩, st⟩ | ⟨q, vm₁, ⟨U', l2, c2, s2⟩, hW₁, X', ⟨g', mk, t, L, E, ce, e1, e2, hq, hce, hcv, hcl, h1, hL, h2, h3⟩, st⟩
  · dsimp only [Pt.U, Pt.locs, Pt.cells, Pt.slots] at X' e1 e2 h1 h2 h3 st
    subst h1; subst h2; subst h3
    exact Or.inl ⟨v, (T.setVm vm₁).calling g' mk As.toArray, t, U', L, hT, X', hL, e1, e2, hq, st⟩
  · dsimp only [Pt.U, Pt.locs, Pt.cells, Pt.slots] at X' e1 e2 h1 h2 h3 st hcl
    subst h1; subst h2; subst h3
    exact Or.inr ⟨q, (T.setVm vm₁).calling g' mk As.toArray, t, U', L, E, ce, hT, X', hL, e1, e2, hq, hce, hcv, vx_cls hW₁ hcl, st⟩
end Runs
section Rows
variable {p : Program} {l : Launch} {e : Env} {R : Room} {s : State} {m : MethodId} {args : Array Value} {below : List Frame} {meth : Method} {c : Code} {H : Heap} {locs : List Loc} {cells slots : Nat} {Q : State → Prop}
variable {mc ms : Nat} {free : Addr → Prop} {A0 A1 : Nat → Prop} {H0 : Heap} {a : Array Value} {pc : Nat} {ls : Array Slot} {st0 rest : List Value}
theorem vx_keep {st₀ t T' : State} {L : List Loc} (h0 : st₀.heap = H) (e1 : T'.heap = t.heap) (hS : va_S A0 H0 H locs) (hA : ∀ q, q < H.size → A1 q → A0 q) (hf : ∀ q, free q → A0 q) (hL : ∀ q ∈ L, free q.base) (hF : va_F A1 st₀ t) :
    H.size ≤ T'.heap.size ∧ (∀ q : Nat, q < H.size → ¬ A1 q → T'.heap[q]? = H[q]?) ∧ va_S A0 H0 T'.heap (locs ++ L) := by
  obtain ⟨hz, hk⟩ := hF
  rw [h0] at hz hk
  exact ⟨by rw [e1]; exact hz, fun q h1 h2 => by rw [e1]; exact hk q h1 h2,
    ⟨Nat.le_trans hS.1 (by rw [e1]; exact hz), fun q h1 h2 => by rw [e1, hk q (Nat.lt_of_lt_of_le h1 hS.1) (fun z => h2 (hA q (Nat.lt_of_lt_of_le h1 hS.1) z))]; exact hS.2.1 q h1 h2, fun q hq => by
      rcases List.mem_append.mp hq with h | h
      · exact hS.2.2 q h
      · exact hf _ (hL q h)⟩⟩
theorem vx_calli {S SX : Type} {post : Int32 → S → Prop} {px : SX → Prop} {B : S → State → Prop} {BX : String → SX → State → Prop} {AX : Nat → Prop} (hr : vx_Run p l e R s m args below meth c H locs cells slots mc ms (F0 m pc ls st0) rest (va_Qi post B A1 a) (vx_X px BX AX) free) (hS : va_S A0 H0 H locs) (hA : ∀ q, q < H.size → A1 q → A0 q) (hf : ∀ q, free q → A0 q) (hAX : ∀ q, q < H.size → AX q → A0 q)
    (kx : ∀ (E : String) (ce : Cell) (q9 : Addr) (u : SX) (t : State) (H1 : Heap) (locs1 : List Loc), t.heap = H1 → s.vm.Alike t.vm → px u → BX E u t → H.size ≤ H1.size → (∀ q : Nat, q < H.size → ¬ AX q → H1[q]? = H[q]?) → va_S A0 H0 H1 locs1 → H1[q9]? = some ce → ce.vm = .none → s.vm.findClass E = some ce.cls → vx_W p l e R s m args below meth c H1 locs1 (cells + mc) (slots + ms) Q (F0 m pc ls rest) q9)
    (kk : ∀ (r : Int32) (u : S) (t : State) (H1 : Heap) (locs1 : List Loc), t.heap = H1 → s.vm.Alike t.vm → post r u → B u t → H.size ≤ H1.size → (∀ q : Nat, q < H.size → ¬ A1 q → H1[q]? = H[q]?) → va_S A0 H0 H1 locs1 → W p l e R s m args below meth c H1 locs1 (cells + mc) (slots + ms) Q (F0 m (pc + 3) ls (.int r :: rest))) : W p l e R s m args below meth c H locs cells slots Q (F0 m pc ls st0) := by
  intro T hT X
  rcases hr T hT X with ⟨v, st₀, t, T', L, h0, X', hL, e1, e2, ⟨⟨r, u, hv, hp, hb⟩, hF⟩, st⟩ | ⟨q, st₀, t, T', L, E, ce, h0, X', hL, e1, e2, ⟨u, hp, hb, hF⟩, hce, hcv, hcl, st⟩
  · cases hv
    obtain ⟨k1, k2, k3⟩ := vx_keep h0 e1 hS hA hf hL hF
    obtain ⟨t2, a1, b1⟩ := kk r u t T'.heap (locs ++ L) e1.symm (by rw [← e2]; exact X'.warmed.alike) hp hb k1 k2 k3 T' rfl X'
    exact ⟨t2, st t2 a1, b1⟩
  · obtain ⟨k1, k2, k3⟩ := vx_keep h0 e1 hS hAX hf hL hF
    obtain ⟨t2, a1, b1⟩ := kx E ce q u t T'.heap (locs ++ L) e1.symm (by rw [← e2]; exact X'.warmed.alike) hp hb k1 k2 k3 (by rw [e1]; exact hce) hcv hcl T' rfl X'
    exact ⟨t2, st.trans a1, b1⟩
theorem vx_calll {S SX : Type} {post : Int64 → S → Prop} {px : SX → Prop} {B : S → State → Prop} {BX : String → SX → State → Prop} {AX : Nat → Prop} (hr : vx_Run p l e R s m args below meth c H locs cells slots mc ms (F0 m pc ls st0) rest (va_Ql post B A1 a) (vx_X px BX AX) free) (hS : va_S A0 H0 H locs) (hA : ∀ q, q < H.size → A1 q → A0 q) (hf : ∀ q, free q → A0 q) (hAX : ∀ q, q < H.size → AX q → A0 q)
    (kx : ∀ (E : String) (ce : Cell) (q9 : Addr) (u : SX) (t : State) (H1 : Heap) (locs1 : List Loc), t.heap = H1 → s.vm.Alike t.vm → px u → BX E u t → H.size ≤ H1.size → (∀ q : Nat, q < H.size → ¬ AX q → H1[q]? = H[q]?) → va_S A0 H0 H1 locs1 → H1[q9]? = some ce → ce.vm = .none → s.vm.findClass E = some ce.cls → vx_W p l e R s m args below meth c H1 locs1 (cells + mc) (slots + ms) Q (F0 m pc ls rest) q9)
    (kk : ∀ (r : Int64) (u : S) (t : State) (H1 : Heap) (locs1 : List Loc), t.heap = H1 → s.vm.Alike t.vm → post r u → B u t → H.size ≤ H1.size → (∀ q : Nat, q < H.size → ¬ A1 q → H1[q]? = H[q]?) → va_S A0 H0 H1 locs1 → W p l e R s m args below meth c H1 locs1 (cells + mc) (slots + ms) Q (F0 m (pc + 3) ls (.long r :: rest))) : W p l e R s m args below meth c H locs cells slots Q (F0 m pc ls st0) := by
  intro T hT X
  rcases hr T hT X with ⟨v, st₀, t, T', L, h0, X', hL, e1, e2, ⟨⟨r, u, hv, hp, hb⟩, hF⟩, st⟩ | ⟨q, st₀, t, T', L, E, ce, h0, X', hL, e1, e2, ⟨u, hp, hb, hF⟩, hce, hcv, hcl, st⟩
  · cases hv
    obtain ⟨k1, k2, k3⟩ := vx_keep h0 e1 hS hA hf hL hF
    obtain ⟨t2, a1, b1⟩ := kk r u t T'.heap (locs ++ L) e1.symm (by rw [← e2]; exact X'.warmed.alike) hp hb k1 k2 k3 T' rfl X'
    exact ⟨t2, st t2 a1, b1⟩
  · obtain ⟨k1, k2, k3⟩ := vx_keep h0 e1 hS hAX hf hL hF
    obtain ⟨t2, a1, b1⟩ := kx E ce q u t T'.heap (locs ++ L) e1.symm (by rw [← e2]; exact X'.warmed.alike) hp hb k1 k2 k3 (by rw [e1]; exact hce) hcv hcl T' rfl X'
    exact ⟨t2, st.trans a1, b1⟩
theorem vx_callf {S SX : Type} {post : UInt32 → S → Prop} {px : SX → Prop} {B : S → State → Prop} {BX : String → SX → State → Prop} {AX : Nat → Prop} (hr : vx_Run p l e R s m args below meth c H locs cells slots mc ms (F0 m pc ls st0) rest (va_Qf post B A1 a) (vx_X px BX AX) free) (hS : va_S A0 H0 H locs) (hA : ∀ q, q < H.size → A1 q → A0 q) (hf : ∀ q, free q → A0 q) (hAX : ∀ q, q < H.size → AX q → A0 q)
    (kx : ∀ (E : String) (ce : Cell) (q9 : Addr) (u : SX) (t : State) (H1 : Heap) (locs1 : List Loc), t.heap = H1 → s.vm.Alike t.vm → px u → BX E u t → H.size ≤ H1.size → (∀ q : Nat, q < H.size → ¬ AX q → H1[q]? = H[q]?) → va_S A0 H0 H1 locs1 → H1[q9]? = some ce → ce.vm = .none → s.vm.findClass E = some ce.cls → vx_W p l e R s m args below meth c H1 locs1 (cells + mc) (slots + ms) Q (F0 m pc ls rest) q9)
    (kk : ∀ (r : UInt32) (u : S) (t : State) (H1 : Heap) (locs1 : List Loc), t.heap = H1 → s.vm.Alike t.vm → post r u → B u t → H.size ≤ H1.size → (∀ q : Nat, q < H.size → ¬ A1 q → H1[q]? = H[q]?) → va_S A0 H0 H1 locs1 → W p l e R s m args below meth c H1 locs1 (cells + mc) (slots + ms) Q (F0 m (pc + 3) ls (.float r :: rest))) : W p l e R s m args below meth c H locs cells slots Q (F0 m pc ls st0) := by
  intro T hT X
  rcases hr T hT X with ⟨v, st₀, t, T', L, h0, X', hL, e1, e2, ⟨⟨r, u, hv, hp, hb⟩, hF⟩, st⟩ | ⟨q, st₀, t, T', L, E, ce, h0, X', hL, e1, e2, ⟨u, hp, hb, hF⟩, hce, hcv, hcl, st⟩
  · cases hv
    obtain ⟨k1, k2, k3⟩ := vx_keep h0 e1 hS hA hf hL hF
    obtain ⟨t2, a1, b1⟩ := kk r u t T'.heap (locs ++ L) e1.symm (by rw [← e2]; exact X'.warmed.alike) hp hb k1 k2 k3 T' rfl X'
    exact ⟨t2, st t2 a1, b1⟩
  · obtain ⟨k1, k2, k3⟩ := vx_keep h0 e1 hS hAX hf hL hF
    obtain ⟨t2, a1, b1⟩ := kx E ce q u t T'.heap (locs ++ L) e1.symm (by rw [← e2]; exact X'.warmed.alike) hp hb k1 k2 k3 (by rw [e1]; exact hce) hcv hcl T' rfl X'
    exact ⟨t2, st.trans a1, b1⟩
theorem vx_calld {S SX : Type} {post : UInt64 → S → Prop} {px : SX → Prop} {B : S → State → Prop} {BX : String → SX → State → Prop} {AX : Nat → Prop} (hr : vx_Run p l e R s m args below meth c H locs cells slots mc ms (F0 m pc ls st0) rest (va_Qd post B A1 a) (vx_X px BX AX) free) (hS : va_S A0 H0 H locs) (hA : ∀ q, q < H.size → A1 q → A0 q) (hf : ∀ q, free q → A0 q) (hAX : ∀ q, q < H.size → AX q → A0 q)
    (kx : ∀ (E : String) (ce : Cell) (q9 : Addr) (u : SX) (t : State) (H1 : Heap) (locs1 : List Loc), t.heap = H1 → s.vm.Alike t.vm → px u → BX E u t → H.size ≤ H1.size → (∀ q : Nat, q < H.size → ¬ AX q → H1[q]? = H[q]?) → va_S A0 H0 H1 locs1 → H1[q9]? = some ce → ce.vm = .none → s.vm.findClass E = some ce.cls → vx_W p l e R s m args below meth c H1 locs1 (cells + mc) (slots + ms) Q (F0 m pc ls rest) q9)
    (kk : ∀ (r : UInt64) (u : S) (t : State) (H1 : Heap) (locs1 : List Loc), t.heap = H1 → s.vm.Alike t.vm → post r u → B u t → H.size ≤ H1.size → (∀ q : Nat, q < H.size → ¬ A1 q → H1[q]? = H[q]?) → va_S A0 H0 H1 locs1 → W p l e R s m args below meth c H1 locs1 (cells + mc) (slots + ms) Q (F0 m (pc + 3) ls (.double r :: rest))) : W p l e R s m args below meth c H locs cells slots Q (F0 m pc ls st0) := by
  intro T hT X
  rcases hr T hT X with ⟨v, st₀, t, T', L, h0, X', hL, e1, e2, ⟨⟨r, u, hv, hp, hb⟩, hF⟩, st⟩ | ⟨q, st₀, t, T', L, E, ce, h0, X', hL, e1, e2, ⟨u, hp, hb, hF⟩, hce, hcv, hcl, st⟩
  · cases hv
    obtain ⟨k1, k2, k3⟩ := vx_keep h0 e1 hS hA hf hL hF
    obtain ⟨t2, a1, b1⟩ := kk r u t T'.heap (locs ++ L) e1.symm (by rw [← e2]; exact X'.warmed.alike) hp hb k1 k2 k3 T' rfl X'
    exact ⟨t2, st t2 a1, b1⟩
  · obtain ⟨k1, k2, k3⟩ := vx_keep h0 e1 hS hAX hf hL hF
    obtain ⟨t2, a1, b1⟩ := kx E ce q u t T'.heap (locs ++ L) e1.symm (by rw [← e2]; exact X'.warmed.alike) hp hb k1 k2 k3 (by rw [e1]; exact hce) hcv hcl T' rfl X'
    exact ⟨t2, st.trans a1, b1⟩
theorem vx_callv {S SX : Type} {post : S → Prop} {px : SX → Prop} {B : S → State → Prop} {BX : String → SX → State → Prop} {AX : Nat → Prop} (hr : vx_Run p l e R s m args below meth c H locs cells slots mc ms (F0 m pc ls st0) rest (va_Qv post B A1 a) (vx_X px BX AX) free) (hS : va_S A0 H0 H locs) (hA : ∀ q, q < H.size → A1 q → A0 q) (hf : ∀ q, free q → A0 q) (hAX : ∀ q, q < H.size → AX q → A0 q)
    (kx : ∀ (E : String) (ce : Cell) (q9 : Addr) (u : SX) (t : State) (H1 : Heap) (locs1 : List Loc), t.heap = H1 → s.vm.Alike t.vm → px u → BX E u t → H.size ≤ H1.size → (∀ q : Nat, q < H.size → ¬ AX q → H1[q]? = H[q]?) → va_S A0 H0 H1 locs1 → H1[q9]? = some ce → ce.vm = .none → s.vm.findClass E = some ce.cls → vx_W p l e R s m args below meth c H1 locs1 (cells + mc) (slots + ms) Q (F0 m pc ls rest) q9)
    (kk : ∀ (u : S) (t : State) (H1 : Heap) (locs1 : List Loc), t.heap = H1 → s.vm.Alike t.vm → post u → B u t → H.size ≤ H1.size → (∀ q : Nat, q < H.size → ¬ A1 q → H1[q]? = H[q]?) → va_S A0 H0 H1 locs1 → W p l e R s m args below meth c H1 locs1 (cells + mc) (slots + ms) Q (F0 m (pc + 3) ls (rest))) : W p l e R s m args below meth c H locs cells slots Q (F0 m pc ls st0) := by
  intro T hT X
  rcases hr T hT X with ⟨v, st₀, t, T', L, h0, X', hL, e1, e2, ⟨⟨u, hv, hp, hb⟩, hF⟩, st⟩ | ⟨q, st₀, t, T', L, E, ce, h0, X', hL, e1, e2, ⟨u, hp, hb, hF⟩, hce, hcv, hcl, st⟩
  · cases hv
    obtain ⟨k1, k2, k3⟩ := vx_keep h0 e1 hS hA hf hL hF
    obtain ⟨t2, a1, b1⟩ := kk u t T'.heap (locs ++ L) e1.symm (by rw [← e2]; exact X'.warmed.alike) hp hb k1 k2 k3 T' rfl X'
    exact ⟨t2, st t2 a1, b1⟩
  · obtain ⟨k1, k2, k3⟩ := vx_keep h0 e1 hS hAX hf hL hF
    obtain ⟨t2, a1, b1⟩ := kx E ce q u t T'.heap (locs ++ L) e1.symm (by rw [← e2]; exact X'.warmed.alike) hp hb k1 k2 k3 (by rw [e1]; exact hce) hcv hcl T' rfl X'
    exact ⟨t2, st.trans a1, b1⟩
/-- caught by the row x of this method's table; the rows ahead don't take it -/
theorem vx_catch {own name : String} {E : String} {ce : Cell} {q : Addr} (hown : s.vm.findClass own = some m.cls) (pre : List ExceptionTableEntry) (x : ExceptionTableEntry) (suf : List ExceptionTableEntry) (hsplit : c.exceptionTable.toList = pre ++ x :: suf)
    (hpass : ∀ z ∈ pre, covers z pc = false ∨ (z.catchType ≠ 0 ∧ ∃ nm : String, (Cond.classLink own z.catchType nm).before args s = true ∧ va_Nc E nm s)) (hx : covers x pc = true) (h0 : x.catchType ≠ 0)
    (hlink : (Cond.classLink own x.catchType name).before args s = true) (hcast : (Cond.castable E name).before args s = true) (hcell : H[q]? = some ce) (hv : ce.vm = .none) (hcl : s.vm.findClass E = some ce.cls)
    (kk : W p l e R s m args below meth c H locs cells slots Q (F0 m x.handlerPc ls [.ref q])) : vx_W p l e R s m args below meth c H locs cells slots Q (F0 m pc ls rest) q := by
  intro T hT X
  have hpl : e.platform.magicAccessors = ({} : Platform).magicAccessors := by rw [X.admits.platform]
  obtain ⟨c3, c4, hc3, hc4, hasg⟩ := Cond.castable_spec hcast
  cases Option.some.inj (hc3.symm.trans hcl)
  obtain ⟨c5, hc5, hcl5⟩ := Cond.classLink_spec hown hlink e.platform hpl
  cases Option.some.inj (hc4.symm.trans hc5)
  obtain ⟨vm', X', st⟩ := X.thenCaughtThrough q (g := F0 m pc ls rest) rfl (Steps.refl _) (by rw [hT]; exact hcell) (by rw [hv]; rfl) (by obtain ⟨k9, h9, -⟩ := Vm.findClass_spec hcl; exact ⟨k9, h9⟩) pre x suf hsplit
    (fun z hz => by
      rcases hpass z hz with h | ⟨hz0, nm, hl1, hn1⟩
      · exact Or.inl h
      · obtain ⟨c6, hc6, hcl6⟩ := Cond.classLink_spec hown hl1 e.platform hpl
        obtain ⟨a8, b8, h1, h2, h3⟩ := hn1
        cases Option.some.inj (h1.symm.trans hcl)
        cases Option.some.inj (h2.symm.trans hc6)
        exact Or.inr ⟨hz0, _, hcl6, h3⟩) hx (Or.inr ⟨h0, c4, hcl5, hasg⟩)
  obtain ⟨t, a1, b1⟩ := kk (T.setVm vm') hT X'
  exact ⟨t, st.trans a1, b1⟩
end Rows
section Ends
variable {p : Program} {l : Launch} {e : Env} {R : Room} {s : State} {m : MethodId} {args : Array Value} {below : List Frame} {meth : Method} {c : Code} {H : Heap} {locs : List Loc} {cells slots : Nat} {Q : State → Prop}
variable {mc ms : Nat} {free : Addr → Prop} {A0 A1 : Nat → Prop} {H0 : Heap} {a : Array Value} {ls : Array Slot} {st0 rest : List Value}
variable {Qc : Array Value → State → Outcome → State → Prop} {XC : String → State → State → Prop}
/-- what a body that may throw owes at its end -/
def vx_MQ (below : List Frame) (Qc : Array Value → State → Outcome → State → Prop) (XC : String → State → State → Prop) (a : Array Value) (s : State) (mc ms : Nat) (free : Addr → Prop) : State → Prop := fun t =>
  ∃ o, t.status = .running ∧ Ended t below o ∧ vx_Q Qc XC mc ms free a s o t
theorem vx_ret {g : JFrame} {mc ms : Nat} (k : W p l e R s m args below meth c H locs cells slots (MQ below Qc args s mc ms free) g) : W p l e R s m args below meth c H locs cells slots (vx_MQ below Qc XC args s mc ms free) g := by
  intro T hT X
  obtain ⟨t, a1, o, b1, b2, b3, b4⟩ := k T hT X
  exact ⟨t, a1, o, b1, b2, Or.inl ⟨b3, b4⟩⟩
/-- not caught here: it goes on to the caller -/
theorem vx_widen {g : JFrame} {q : Addr} {k n : Nat} (h1 : cells ≤ k) (h2 : slots ≤ n) (kk : vx_W p l e R s m args below meth c H locs k n Q g q) : vx_W p l e R s m args below meth c H locs cells slots Q g q := fun T hT X => kk T hT (stand_widen X h1 h2)
theorem vx_out {pc : Nat} {E : String} {ce : Cell} {q : Addr} {mc ms : Nat} (hout : ∀ x ∈ c.exceptionTable.toList, covers x pc = false) (hlocks : meth.locks = false) (hcell : H[q]? = some ce) (hv : ce.vm = .none) (hcl : s.vm.findClass E = some ce.cls)
    (hx : ∀ t : State, t.heap = H → s.vm.Alike t.vm → XC E s t) (hf : ∀ z ∈ locs, free z.base) (hc : cells ≤ mc) (hs : slots ≤ ms) :
    vx_W p l e R s m args below meth c H locs cells slots (vx_MQ below Qc XC args s mc ms free) (F0 m pc ls rest) q := by
  intro T hT X
  obtain ⟨st1, hrun, hend, hW, hsm⟩ := X.leaveThrown q (g := F0 m pc ls rest) rfl rfl rfl hout hlocks
  have hcell9 : (T.setFrames (.throwing q :: below)).heap[q]? = some ce := by
    show T.heap[q]? = some ce
    rw [hT]; exact hcell
  exact ⟨_, st1, .threw q, hrun, hend, Or.inr ⟨q, rfl, E, ce, locs, hx _ hT hW.alike, hcell9, hv, hcl, hW, hsm.mono hc hs, hf⟩⟩
theorem vx_frame {U : State} {k n : Nat} (h : s.sameButNew ({ U with vm := s.vm } : State) locs k n) : s.heap.size ≤ U.heap.size ∧ ∀ q : Nat, q < s.heap.size → (∀ z ∈ locs, z.base ≠ q) → U.heap[q]? = s.heap[q]? := by
  obtain ⟨-, h2, -, -, -, h6⟩ := h
  refine ⟨h2, fun q hq hz => ?_⟩
  obtain ⟨c9, e1, e2, e3, e4⟩ := h6 q _ (Array.getElem?_eq_getElem hq)
  have hs : c9.slots = (s.heap[q]).slots := Array.ext_getElem? fun i => e4 i fun hm => hz _ hm rfl
  have h9 : c9 = s.heap[q] := by
    rw [hs] at e2
    exact e2
  have e5 : U.heap[q]? = some c9 := e1
  rw [e5, h9, Array.getElem?_eq_getElem hq]
/-- the words of a throw but the four that speak of the heap -/
def vx_no (w : Cond) : Bool := decide (w ≠ .isRef (.static Bundle.tN "UNASSIGNED_STACK" Bundle.steD)) && decide (w ≠ .isRef (.static Bundle.tN "SUPPRESSED_SENTINEL" Bundle.listD)) && decide (w ≠ .laysStatic Bundle.tN "UNASSIGNED_STACK" Bundle.steD) && decide (w ≠ .laysStatic Bundle.tN "SUPPRESSED_SENTINEL" Bundle.listD)
def vx_at0 (own : String) (ic : Nat) (X : String) (names : List String) : List Cond := (Bundle.ownAtoms0 own ic X names).filter vx_no
def vx_atS (own : String) (ic : Nat) (X : String) (names : List String) : List Cond := (Bundle.ownAtoms own ic X names).filter vx_no
/-- a word that the tables alone decide, or a good one -/
def vx_ot (w : Cond) : Bool := w.onTables || goodWord w
theorem vx_ot_at {args a' : Array Value} {s U : State} {w : Cond} (hW : s.WarmedH U.vm) (hvm : s.vm = U.vm) (hg : vx_ot w = true) (h : w.before args s = true) : w.before a' U = true := by
  simp only [vx_ot, Bool.or_eq_true] at hg
  rcases hg with hg | hg
  · exact va_tabs hg hvm h
  · exact word_at hW (good_of_word hg) h
/-- a list's words: the good ones out of the method's own list, the others by premises of their own -/
theorem vx_hat {args : Array Value} {s : State} {L B : List Cond} (h1 : ∀ w ∈ L.filter goodWord, w.before args s = true) (h2 : ∀ w ∈ L.filter (fun w => !goodWord w), w ∈ B) (h3 : ∀ w ∈ B, w.before args s = true) : ∀ w ∈ L, w.before args s = true := by
  intro w hw
  by_cases g : goodWord w = true
  · exact h1 w (List.mem_filter.mpr ⟨hw, g⟩)
  · refine h3 w (h2 w (List.mem_filter.mpr ⟨hw, ?_⟩))
    show (!goodWord w) = true
    cases hgw : goodWord w
    · rfl
    · exact absurd hgw g
theorem vx_c {args : Array Value} {s : State} {w : Cond} {B : List Cond} (h : w.before args s = true) (t : ∀ w ∈ B, w.before args s = true) : ∀ w' ∈ w :: B, w'.before args s = true := fun w' h' => (List.mem_cons.mp h').elim (fun e => by rw [e]; exact h) (t w')
theorem vx_n {args : Array Value} {s : State} : ∀ w ∈ ([] : List Cond), w.before args s = true := fun _ h => nomatch h
theorem vx_own {args : Array Value} {s : State} {L : List Cond} (h1 : ∀ w ∈ L.filter vx_no, w.before args s = true)
    (hU : (Cond.isRef (.static Bundle.tN "UNASSIGNED_STACK" Bundle.steD)).before args s = true) (hN : (Cond.isRef (.static Bundle.tN "SUPPRESSED_SENTINEL" Bundle.listD)).before args s = true)
    (lU : (Cond.laysStatic Bundle.tN "UNASSIGNED_STACK" Bundle.steD).before args s = true) (lN : (Cond.laysStatic Bundle.tN "SUPPRESSED_SENTINEL" Bundle.listD).before args s = true) : ∀ w ∈ L, w.before args s = true := by
  intro w hw
  by_cases e1 : w = .isRef (.static Bundle.tN "UNASSIGNED_STACK" Bundle.steD)
  · rw [e1]; exact hU
  · by_cases e2 : w = .isRef (.static Bundle.tN "SUPPRESSED_SENTINEL" Bundle.listD)
    · rw [e2]; exact hN
    · by_cases e3 : w = .laysStatic Bundle.tN "UNASSIGNED_STACK" Bundle.steD
      · rw [e3]; exact lU
      · by_cases e4 : w = .laysStatic Bundle.tN "SUPPRESSED_SENTINEL" Bundle.listD
        · rw [e4]; exact lN
        · exact h1 w (List.mem_filter.mpr ⟨hw, by unfold vx_no; rw [decide_eq_true e1, decide_eq_true e2, decide_eq_true e3, decide_eq_true e4]; rfl⟩)
/-- where a static field lies, its class's statics cell in H -/
def vx_L (C n d : String) (A : Nat → Prop) (U : State) (H : Heap) : Prop := ∃ (c : ClassId) (k : Class) (i : Nat) (f : Field) (a : Nat) (cell : Cell), U.vm.findClass C = some c ∧ U.fieldFound? C n d = some (c, k, i, f) ∧ f.isStatic = true ∧ k.statics = some a ∧ H[a]? = some cell ∧ cell.vm.isStatics = true ∧ cell.cls = c ∧ f.slot < cell.slots.size ∧ k.staticTypes[f.slot]? = some f.type ∧ ¬ A a
theorem vx_L.moved {C n d : String} {A : Nat → Prop} {u U : State} {H : Heap} (hvm : u.vm.Alike U.vm) (h : vx_L C n d A u H) : vx_L C n d A U H := by
  obtain ⟨c, k, i, f, a, cell, h1, h2, h3, h4, h5, h6, h7, h8, h9, h10⟩ := h
  obtain ⟨k', hi', he⟩ := State.fieldFound?_setVm hvm h2
  exact ⟨c, k', i, f, a, cell, by rw [hvm.findClass]; exact h1, hi', h3, by rw [he]; exact h4, h5, h6, h7, h8, by rw [he]; exact h9, h10⟩
theorem vx_L.kept {C n d : String} {A : Nat → Prop} {U : State} {H H1 : Heap} (h : vx_L C n d A U H) (hq : ∀ a : Nat, a < H.size → ¬ A a → H1[a]? = H[a]?) : vx_L C n d A U H1 := by
  obtain ⟨c, k, i, f, a, cell, h1, h2, h3, h4, h5, h6, h7, h8, h9, h10⟩ := h
  exact ⟨c, k, i, f, a, cell, h1, h2, h3, h4, by rw [hq a (Array.getElem?_eq_some_iff.mp h5).1 h10]; exact h5, h6, h7, h8, h9, h10⟩
theorem vx_L.narrow {C n d : String} {A B : Nat → Prop} {U : State} {H : Heap} (h : vx_L C n d A U H) (hAB : ∀ q, B q → A q) : vx_L C n d B U H := by
  obtain ⟨c, k, i, f, a, cell, h1, h2, h3, h4, h5, h6, h7, h8, h9, h10⟩ := h
  exact ⟨c, k, i, f, a, cell, h1, h2, h3, h4, h5, h6, h7, h8, h9, fun z => h10 (hAB _ z)⟩
theorem vx_L.word {C n d : String} {A : Nat → Prop} {s : State} {args : Array Value} (h : vx_L C n d A s s.heap) : (Cond.laysStatic C n d).before args s = true := by
  obtain ⟨c, k, i, f, a, cell, h1, h2, h3, h4, h5, h6, h7, h8, h9, -⟩ := h
  show (Cond.laysStatic C n d).holds args s none s [] = true
  exact Cond.laysStatic_of h1 h2 h3 h4 h5 h6 h7 h8 h9
/-- .. and what it holds: null or some reference -/
def vx_Zq (C n d : String) (A : Nat → Prop) (U : State) (H : Heap) : Prop := va_Zq C n d A U H ∧ vx_L C n d A U H
theorem vx_Zq.moved {C n d : String} {A : Nat → Prop} {u U : State} {H : Heap} (hvm : u.vm.Alike U.vm) (h : vx_Zq C n d A u H) : vx_Zq C n d A U H := ⟨va_Zq.moved hvm h.1, vx_L.moved hvm h.2⟩
theorem vx_Zq.kept {C n d : String} {A : Nat → Prop} {U : State} {H H1 : Heap} (h : vx_Zq C n d A U H) (hq : ∀ a : Nat, a < H.size → ¬ A a → H1[a]? = H[a]?) : vx_Zq C n d A U H1 := ⟨va_Zq.kept h.1 hq, vx_L.kept h.2 hq⟩
theorem vx_Zq.narrow {C n d : String} {A B : Nat → Prop} {U : State} {H : Heap} (h : vx_Zq C n d A U H) (hAB : ∀ q, B q → A q) : vx_Zq C n d B U H := ⟨va_Zq.narrow h.1 hAB, vx_L.narrow h.2 hAB⟩
theorem vx_Zqof {args : Array Value} {s : State} {C n d : String} {A : Nat → Prop} (hl : (Cond.laysStatic C n d).before args s = true) (hini : (Cond.initialized C).before args s = true) (h : (Cond.isRef (.static C n d)).before args s = true) (hA : ∀ a : Nat, a < s.heap.size → ¬ A a) : vx_Zq C n d A s s.heap := by
  refine ⟨va_Zqof hl hini h hA, ?_⟩
  obtain ⟨c, k, i, f, a, cell, h1, h2, h3, h4, h5, h6, h7, h8, h9⟩ := Cond.laysStatic_spec hl
  exact ⟨c, k, i, f, a, cell, h1, h2, h3, h4, h5, h6, h7, h8, h9, hA a (Array.getElem?_eq_some_iff.mp h5).1⟩
theorem vx_isRef {C n d : String} {v : Value} {A : Nat → Prop} {s : State} {args : Array Value} (h : va_Z C n d v A s s.heap) (hv : v.isRef = true) : (Cond.isRef (.static C n d)).before args s = true := by
  obtain ⟨cf, kf, fi, f, a, cell, h1, h2, h3, h4, h5, h6, h7, -⟩ := h
  have he : (Term.static C n d).eval args s none [] s = some v := by
    simp [Term.eval, State.fieldNamed?, h1, h2, h4, h5, h6, h7]
  simp only [Cond.before, Cond.holds, Cond.value, he]
  cases v <;> simp_all [Value.isRef]
theorem vx_isRefq {C n d : String} {A : Nat → Prop} {s : State} {args : Array Value} (h : va_Zq C n d A s s.heap) : (Cond.isRef (.static C n d)).before args s = true := by
  rcases h with h | ⟨t, h⟩
  · exact vx_isRef h rfl
  · exact vx_isRef h rfl
/-- the same frame, seen from here: as if the method were called anew in this heap -/
theorem vx_rebase {T : State} (X : Stand p l e R s m args below meth c T locs cells slots) {R' : Room} (hf : R'.frames ≤ R.frames) (hl : R'.locals ≤ R.locals) (hc : cells + R'.cells ≤ R.cells) (hs : slots + R'.slots ≤ R.slots) :
    Stand p l e R' ((T.setVm s.vm).setFrames (.invoking m args :: below)) m args below meth c T [] 0 0 := by
  have htop : (T.setVm s.vm).topJava?.isSome := X.here.top
  have hF : ((T.setVm s.vm).setFrames (.invoking m args :: below)).frames = .invoking m args :: below := State.frames_setFrames _ (State.cur_lt_of_top htop)
  obtain ⟨g₀, hg0⟩ := Option.isSome_iff_exists.mp htop
  obtain ⟨r, hr⟩ := State.topJava?_eq_some.mp hg0
  have hl9 : e.platform.stackLimits (T.setVm s.vm).me = e.platform.stackLimits s.me := X.limits
  have hb9 : (T.setVm s.vm).me.stackBytes = s.me.stackBytes := X.bytes
  refine ⟨X.admits, X.cas, X.clock, hF, ?_, X.hears, X.method, X.code, X.here, X.tail, X.warmed, ?_, ?_, ?_⟩
  · have h := X.room
    have hU : ((T.setVm s.vm).setFrames (.invoking m args :: below)).localsInUse = s.localsInUse := by
      rw [State.localsInUse_invoking hF (meth := meth) (c := c) X.method X.code, State.localsInUse_invoking X.frames X.method X.code]
    simp only [State.hasRoom, Bool.and_eq_true, decide_eq_true_eq] at h ⊢
    obtain ⟨⟨⟨⟨h1, h2, h3, h4, h5, h6⟩, h7⟩, h8⟩, h9⟩ := h
    rw [X.frames, List.length_cons] at h2 h3
    have q1 := X.heapSize
    have q2 := X.used
    simp only [hF, hU, List.length_cons, State.stackLimits_setFrames, State.stackBytes_setFrames, hl9, hb9]
    refine ⟨⟨⟨⟨by omega, by omega, by omega, by omega, by omega, h6⟩, ?_⟩, ?_⟩, X.book⟩
    · show T.heap.size + R'.cells ≤ e.platform.maxCells
      omega
    · show T.slotsUsed + R'.slots ≤ e.platform.maxSlots
      omega
  · rw [State.stackLimits_setFrames]; rfl
  · rw [State.stackBytes_setFrames]; rfl
  · refine ⟨?_, Nat.le_refl _, Nat.le_refl _, ?_, ?_, fun a c9 h9 => ⟨c9, h9, rfl, rfl, fun _ _ => rfl⟩⟩
    · obtain ⟨t, ht, -⟩ := State.frames_cons hr
      show T.setVm s.vm = { ((T.setVm s.vm).setFrames (.invoking m args :: below)).setFrames (T.setVm s.vm).frames with heap := T.heap, slotsUsed := T.slotsUsed }
      rw [State.setFrames_setFrames, State.setFrames_self ht]
      rfl
    · show T.slotsUsed = T.slotsUsed + ((T.heap.toList.drop T.heap.size).map (·.slots.size)).sum
      rw [List.drop_eq_nil_of_le (Nat.le_of_eq Array.length_toList)]
      rfl
    · show ((T.heap.toList.drop T.heap.size).map (·.slots.size)).sum ≤ 0
      rw [List.drop_eq_nil_of_le (Nat.le_of_eq Array.length_toList)]
      exact Nat.le_refl _
/-- 'throw new E()': new; dup; invokespecial; athrow -/
theorem vx_throw0 {cc : ByteArray} {pc : Nat} (hexec : p.tables.exec = Jvm.exec) (hb : c.code = cc) (hl : l.stackTraces = false) {own cls : String} {names : List String} {ik ic mc ms : Nat} {A : Nat → Prop}
    (hown : s.vm.findClass own = some m.cls) (hcls : Bundle.fit cls = true) (hnames : ∀ n ∈ names, Bundle.fit n = true)
    (hk : (Cond.classLink own ik cls).before args s = true) (hini : (Cond.initialized cls).before args s = true) (hat : ∀ w ∈ vx_at0 own ic cls names, w.before args s = true)
    (hgood : ∀ w ∈ Cond.classLink own ik cls :: Cond.initialized cls :: vx_at0 own ic cls names, vx_ot w = true)
    (hU : vx_Zq Bundle.tN "UNASSIGNED_STACK" Bundle.steD A s s.heap) (hN : vx_Zq Bundle.tN "SUPPRESSED_SENTINEL" Bundle.listD A s s.heap) (hS : va_S A s.heap H locs) (hsize : ls.size = c.maxLocals)
    (d0 : decode cc pc = .ok (.new ik, 3)) (d3 : decode cc (pc + 3) = .ok (.dup, 1)) (d4 : decode cc (pc + 4) = .ok (.invokespecial ic, 3)) (d7 : decode cc (pc + 7) = .ok (.athrow, 1))
    (hout : ∀ x ∈ c.exceptionTable.toList, covers x (pc + 7) = false)
    (hRframes : names.length + 3 < R.frames) (hRlocals : (rest.map fun v => v.category).sum + (13 * (names.length + 1) + 42) ≤ R.locals) (hRcells : cells + 1 ≤ R.cells) (hRslots : slots + 6 ≤ R.slots) (hlocks : meth.locks = false)
    (hx : ∀ t : State, s.vm.Alike t.vm → H.size ≤ t.heap.size → (∀ q : Nat, q < H.size → t.heap[q]? = H[q]?) → XC cls s t)
    (hf : ∀ z ∈ locs, free z.base) (hc : cells + 1 ≤ mc) (hs : slots + 6 ≤ ms) :
    W p l e R s m args below meth c H locs cells slots (vx_MQ below Qc XC args s mc ms free) (F0 m pc ls rest) := by
  intro T hT X
  have htr : e.platform.stackTraces = false := (show e.platform.stackTraces = l.stackTraces by rw [X.admits.platform]).trans hl
  have Y := vx_rebase X (R' := { frames := R.frames, locals := R.locals, cells := 1, slots := 6 }) (Nat.le_refl _) (Nat.le_refl _) hRcells hRslots
  obtain ⟨s', hA⟩ : ∃ z, z = (T.setVm s.vm).setFrames (.invoking m args :: below) := ⟨_, rfl⟩
  rw [← hA] at Y
  have hvm : s'.vm = s.vm := by rw [hA]; rfl
  have hhp : s'.heap = H := by rw [hA]; exact hT
  have hW0 : s.WarmedH s'.vm := by rw [hvm]; exact State.WarmedH.refl s
  have hat' : ∀ w ∈ vx_at0 own ic cls names, w.before args s' = true := fun w hw => vx_ot_at hW0 hvm.symm (hgood w (List.mem_cons_of_mem _ (List.mem_cons_of_mem _ hw))) (hat w hw)
  have hk' : (Cond.classLink own ik cls).before args s' = true := vx_ot_at hW0 hvm.symm (hgood _ List.mem_cons_self) hk
  have hini' : (Cond.initialized cls).before args s' = true := vx_ot_at hW0 hvm.symm (hgood _ (List.mem_cons_of_mem _ List.mem_cons_self)) hini
  have hU' : vx_Zq Bundle.tN "UNASSIGNED_STACK" Bundle.steD A s' s'.heap := by rw [hhp]; exact vx_Zq.moved hW0.alike (hU.kept hS.2.1)
  have hN' : vx_Zq Bundle.tN "SUPPRESSED_SENTINEL" Bundle.listD A s' s'.heap := by rw [hhp]; exact vx_Zq.moved hW0.alike (hN.kept hS.2.1)
  have h : ∀ w ∈ Bundle.ownAtoms0 own ic cls names, w.before args s' = true := vx_own hat' (vx_isRefq hU'.1) (vx_isRefq hN'.1) hU'.2.word hN'.2.word
  have hown' : s'.vm.findClass own = some m.cls := by rw [hvm]; exact hown
  have hins : (Cond.instantiable cls 6).before args s' = true := h _ (by simp [Bundle.ownAtoms0])
  obtain ⟨vm₁, cX, kX, hfX, hkX, -, -, X₁, st1⟩ := Y.newCold hexec (own := own) (C := cls) (index := ik) (n := 6) hown' hk' hins hini'
    (g := F0 m pc ls rest) rfl (by rw [hb]; exact d0) (Nat.le_refl _) (Nat.le_refl _)
  generalize hT1 : (T.setVm vm₁).pushCell { cls := cX, slots := kX.instanceTypes.map defaultValue, vm := .none } = T1 at X₁ st1
  have hcat : (Value.ref T.heap.size).category = 1 := rfl
  have hcellA : T1.heap[T.heap.size]? = some (freshCell cX kX) := by rw [← hT1]; exact State.heap_pushCell_size _ _
  have d3' : decode c.code (pc + 3) = .ok (.dup, 1) := by rw [hb]; exact d3
  obtain ⟨U, hsteps, hrun, hend, hW, hsame, ce, hce, hO⟩ := X₁.ctorThrow0 hexec htr (own := own) (cls := cls) (names := names) (ic := ic) hown' hcls hnames h (fun x hx => nomatch hx) hfX hkX hcellA (by rw [hhp, hT]; exact Nat.le_refl _)
    (g := { method := m, pc := pc + 4, locals := ls, stack := .ref T.heap.size :: .ref T.heap.size :: rest, locked := none }) rfl hsize rfl rfl (rest := rest) rfl
    (by rw [hb]; exact d4) (by rw [hb]; exact d7) hout hRframes (by simp only [List.map_cons, List.sum_cons, hcat]; omega) hlocks
  obtain ⟨f1, f2⟩ := vx_frame hsame
  rw [hhp] at f1 f2
  have hWs : s.WarmedH U.vm := State.WarmedH.trans hW0 hW
  have hcl : s.vm.findClass cls = some ce.cls := by
    have h9 := hO.cls
    rw [hvm] at h9
    exact h9
  have hall : s.sameButNew ({ U with vm := s.vm } : State) locs mc ms := by
    subst hA
    obtain ⟨e1, e2⟩ := hsame
    rw [State.setFrames_setFrames] at e1
    have h2 : (T.setVm s.vm).sameButNew ({ U with vm := s.vm } : State) [] (0 + 1) (0 + 6) := ⟨e1, e2⟩
    have h3 := X.same.trans h2
    rw [List.append_nil] at h3
    exact h3.mono hc hs
  refine ⟨U, ?_, .threw T.heap.size, hrun, hend, Or.inr ⟨T.heap.size, rfl, cls, ce, locs, hx U hWs.alike f1 (fun q hq => f2 q hq (fun z hz => nomatch hz)), hce, hO.vm, hcl, hWs, hall, hf⟩⟩
  refine st1 _ ?_
  show Steps p.tables e below (T1.setTop { method := m, pc := pc + 3, locals := ls, stack := .ref T.heap.size :: rest, locked := none }) _
  jvm_step X₁.here [X₁.here.top, hexec, d3', Value.category]
  exact hsteps
/-- 'throw new E("text")': new; dup; ldc; invokespecial; athrow -/
theorem vx_throwS {cc : ByteArray} {pc : Nat} (hexec : p.tables.exec = Jvm.exec) (hb : c.code = cc) (hl : l.stackTraces = false) {own cls text : String} {names : List String} {ik is ic mc ms sa : Nat} {A : Nat → Prop}
    (hown : s.vm.findClass own = some m.cls) (hcls : Bundle.fit cls = true) (hnames : ∀ n ∈ names, Bundle.fit n = true)
    (hk : (Cond.classLink own ik cls).before args s = true) (hini : (Cond.initialized cls).before args s = true) (hstr : vk_R own is text sa s) (hat : ∀ w ∈ vx_atS own ic cls names, w.before args s = true)
    (hgood : ∀ w ∈ Cond.classLink own ik cls :: Cond.initialized cls :: vx_atS own ic cls names, vx_ot w = true)
    (hU : vx_Zq Bundle.tN "UNASSIGNED_STACK" Bundle.steD A s s.heap) (hN : vx_Zq Bundle.tN "SUPPRESSED_SENTINEL" Bundle.listD A s s.heap) (hS : va_S A s.heap H locs) (hsize : ls.size = c.maxLocals)
    (d0 : decode cc pc = .ok (.new ik, 3)) (d3 : decode cc (pc + 3) = .ok (.dup, 1)) (d4 : decode cc (pc + 4) = .ok (.ldc is, 2)) (d6 : decode cc (pc + 6) = .ok (.invokespecial ic, 3)) (d9 : decode cc (pc + 9) = .ok (.athrow, 1))
    (hout : ∀ x ∈ c.exceptionTable.toList, covers x (pc + 9) = false)
    (hRframes : names.length + 3 < R.frames) (hRlocals : (rest.map fun v => v.category).sum + (13 * (names.length + 1) + 43) ≤ R.locals) (hRcells : cells + 1 ≤ R.cells) (hRslots : slots + 6 ≤ R.slots) (hlocks : meth.locks = false)
    (hx : ∀ t : State, s.vm.Alike t.vm → H.size ≤ t.heap.size → (∀ q : Nat, q < H.size → t.heap[q]? = H[q]?) → XC cls s t)
    (hf : ∀ z ∈ locs, free z.base) (hc : cells + 1 ≤ mc) (hs : slots + 6 ≤ ms) :
    W p l e R s m args below meth c H locs cells slots (vx_MQ below Qc XC args s mc ms free) (F0 m pc ls rest) := by
  intro T hT X
  have htr : e.platform.stackTraces = false := (show e.platform.stackTraces = l.stackTraces by rw [X.admits.platform]).trans hl
  have Y := vx_rebase X (R' := { frames := R.frames, locals := R.locals, cells := 1, slots := 6 }) (Nat.le_refl _) (Nat.le_refl _) hRcells hRslots
  obtain ⟨s', hA⟩ : ∃ z, z = (T.setVm s.vm).setFrames (.invoking m args :: below) := ⟨_, rfl⟩
  rw [← hA] at Y
  have hvm : s'.vm = s.vm := by rw [hA]; rfl
  have hhp : s'.heap = H := by rw [hA]; exact hT
  have hW0 : s.WarmedH s'.vm := by rw [hvm]; exact State.WarmedH.refl s
  have hat' : ∀ w ∈ vx_atS own ic cls names, w.before args s' = true := fun w hw => vx_ot_at hW0 hvm.symm (hgood w (List.mem_cons_of_mem _ (List.mem_cons_of_mem _ hw))) (hat w hw)
  have hk' : (Cond.classLink own ik cls).before args s' = true := vx_ot_at hW0 hvm.symm (hgood _ List.mem_cons_self) hk
  have hini' : (Cond.initialized cls).before args s' = true := vx_ot_at hW0 hvm.symm (hgood _ (List.mem_cons_of_mem _ List.mem_cons_self)) hini
  have hU' : vx_Zq Bundle.tN "UNASSIGNED_STACK" Bundle.steD A s' s'.heap := by rw [hhp]; exact vx_Zq.moved hW0.alike (hU.kept hS.2.1)
  have hN' : vx_Zq Bundle.tN "SUPPRESSED_SENTINEL" Bundle.listD A s' s'.heap := by rw [hhp]; exact vx_Zq.moved hW0.alike (hN.kept hS.2.1)
  have h : ∀ w ∈ Bundle.ownAtoms own ic cls names, w.before args s' = true := vx_own hat' (vx_isRefq hU'.1) (vx_isRefq hN'.1) hU'.2.word hN'.2.word
  have hown' : s'.vm.findClass own = some m.cls := by rw [hvm]; exact hown
  have hins : (Cond.instantiable cls 6).before args s' = true := h _ (by simp [Bundle.ownAtoms])
  obtain ⟨vm₁, cX, kX, hfX, hkX, -, -, X₁, st1⟩ := Y.newCold hexec (own := own) (C := cls) (index := ik) (n := 6) hown' hk' hins hini'
    (g := F0 m pc ls rest) rfl (by rw [hb]; exact d0) (Nat.le_refl _) (Nat.le_refl _)
  generalize hT1 : (T.setVm vm₁).pushCell { cls := cX, slots := kX.instanceTypes.map defaultValue, vm := .none } = T1 at X₁ st1
  have hcat : (Value.ref T.heap.size).category = 1 := rfl
  have hcellA : T1.heap[T.heap.size]? = some (freshCell cX kX) := by rw [← hT1]; exact State.heap_pushCell_size _ _
  have d3' : decode c.code (pc + 3) = .ok (.dup, 1) := by rw [hb]; exact d3
  have d4' : decode c.code (pc + 4) = .ok (.ldc is, 2) := by rw [hb]; exact d4
  have hstr' : vk_R own is text sa s' := vk_R.warm hW0 hstr
  obtain ⟨U, hsteps, hrun, hend, hW, hsame, ce, hce, hO⟩ := X₁.ctorThrowS hexec htr (own := own) (cls := cls) (names := names) (ic := ic) hown' hcls hnames h (fun x hx => nomatch hx) hfX hkX hcellA (by rw [hhp, hT]; exact Nat.le_refl _) (msg := .ref sa) rfl
    (g := { method := m, pc := pc + 6, locals := ls, stack := .ref sa :: .ref T.heap.size :: .ref T.heap.size :: rest, locked := none }) rfl hsize rfl rfl (rest := rest) rfl
    (by rw [hb]; exact d6) (by rw [hb]; exact d9) hout hRframes (by simp only [List.map_cons, List.sum_cons, hcat]; omega) hlocks
  obtain ⟨f1, f2⟩ := vx_frame hsame
  rw [hhp] at f1 f2
  have hWs : s.WarmedH U.vm := State.WarmedH.trans hW0 hW
  have hcl : s.vm.findClass cls = some ce.cls := by
    have h9 := hO.cls
    rw [hvm] at h9
    exact h9
  have hall : s.sameButNew ({ U with vm := s.vm } : State) locs mc ms := by
    subst hA
    obtain ⟨e1, e2⟩ := hsame
    rw [State.setFrames_setFrames] at e1
    have h2 : (T.setVm s.vm).sameButNew ({ U with vm := s.vm } : State) [] (0 + 1) (0 + 6) := ⟨e1, e2⟩
    have h3 := X.same.trans h2
    rw [List.append_nil] at h3
    exact h3.mono hc hs
  refine ⟨U, ?_, .threw T.heap.size, hrun, hend, Or.inr ⟨T.heap.size, rfl, cls, ce, locs, hx U hWs.alike f1 (fun q hq => f2 q hq (fun z hz => nomatch hz)), hce, hO.vm, hcl, hWs, hall, hf⟩⟩
  refine st1 _ ?_
  show Steps p.tables e below (T1.setTop { method := m, pc := pc + 3, locals := ls, stack := .ref T.heap.size :: rest, locked := none }) _
  jvm_step X₁.here [X₁.here.top, hexec, d3', Value.category]
  exact X₁.ldcString hexec (own := own) (text := text) (index := is) (a := sa) hown' hstr'.1 hstr'.2
    (g := { method := m, pc := pc + 4, locals := ls, stack := .ref T.heap.size :: .ref T.heap.size :: rest, locked := none }) rfl d4' _ hsteps
/-- 'throw new E("text")', the text by a wide index -/
theorem vx_throwSW {cc : ByteArray} {pc : Nat} (hexec : p.tables.exec = Jvm.exec) (hb : c.code = cc) (hl : l.stackTraces = false) {own cls text : String} {names : List String} {ik is ic mc ms sa : Nat} {A : Nat → Prop}
    (hown : s.vm.findClass own = some m.cls) (hcls : Bundle.fit cls = true) (hnames : ∀ n ∈ names, Bundle.fit n = true)
    (hk : (Cond.classLink own ik cls).before args s = true) (hini : (Cond.initialized cls).before args s = true) (hstr : vk_R own is text sa s) (hat : ∀ w ∈ vx_atS own ic cls names, w.before args s = true)
    (hgood : ∀ w ∈ Cond.classLink own ik cls :: Cond.initialized cls :: vx_atS own ic cls names, vx_ot w = true)
    (hU : vx_Zq Bundle.tN "UNASSIGNED_STACK" Bundle.steD A s s.heap) (hN : vx_Zq Bundle.tN "SUPPRESSED_SENTINEL" Bundle.listD A s s.heap) (hS : va_S A s.heap H locs) (hsize : ls.size = c.maxLocals)
    (d0 : decode cc pc = .ok (.new ik, 3)) (d3 : decode cc (pc + 3) = .ok (.dup, 1)) (d4 : decode cc (pc + 4) = .ok (.ldc_w is, 3)) (d7 : decode cc (pc + 7) = .ok (.invokespecial ic, 3)) (d10 : decode cc (pc + 10) = .ok (.athrow, 1))
    (hout : ∀ x ∈ c.exceptionTable.toList, covers x (pc + 10) = false)
    (hRframes : names.length + 3 < R.frames) (hRlocals : (rest.map fun v => v.category).sum + (13 * (names.length + 1) + 43) ≤ R.locals) (hRcells : cells + 1 ≤ R.cells) (hRslots : slots + 6 ≤ R.slots) (hlocks : meth.locks = false)
    (hx : ∀ t : State, s.vm.Alike t.vm → H.size ≤ t.heap.size → (∀ q : Nat, q < H.size → t.heap[q]? = H[q]?) → XC cls s t)
    (hf : ∀ z ∈ locs, free z.base) (hc : cells + 1 ≤ mc) (hs : slots + 6 ≤ ms) :
    W p l e R s m args below meth c H locs cells slots (vx_MQ below Qc XC args s mc ms free) (F0 m pc ls rest) := by
  intro T hT X
  have htr : e.platform.stackTraces = false := (show e.platform.stackTraces = l.stackTraces by rw [X.admits.platform]).trans hl
  have Y := vx_rebase X (R' := { frames := R.frames, locals := R.locals, cells := 1, slots := 6 }) (Nat.le_refl _) (Nat.le_refl _) hRcells hRslots
  obtain ⟨s', hA⟩ : ∃ z, z = (T.setVm s.vm).setFrames (.invoking m args :: below) := ⟨_, rfl⟩
  rw [← hA] at Y
  have hvm : s'.vm = s.vm := by rw [hA]; rfl
  have hhp : s'.heap = H := by rw [hA]; exact hT
  have hW0 : s.WarmedH s'.vm := by rw [hvm]; exact State.WarmedH.refl s
  have hat' : ∀ w ∈ vx_atS own ic cls names, w.before args s' = true := fun w hw => vx_ot_at hW0 hvm.symm (hgood w (List.mem_cons_of_mem _ (List.mem_cons_of_mem _ hw))) (hat w hw)
  have hk' : (Cond.classLink own ik cls).before args s' = true := vx_ot_at hW0 hvm.symm (hgood _ List.mem_cons_self) hk
  have hini' : (Cond.initialized cls).before args s' = true := vx_ot_at hW0 hvm.symm (hgood _ (List.mem_cons_of_mem _ List.mem_cons_self)) hini
  have hU' : vx_Zq Bundle.tN "UNASSIGNED_STACK" Bundle.steD A s' s'.heap := by rw [hhp]; exact vx_Zq.moved hW0.alike (hU.kept hS.2.1)
  have hN' : vx_Zq Bundle.tN "SUPPRESSED_SENTINEL" Bundle.listD A s' s'.heap := by rw [hhp]; exact vx_Zq.moved hW0.alike (hN.kept hS.2.1)
  have h : ∀ w ∈ Bundle.ownAtoms own ic cls names, w.before args s' = true := vx_own hat' (vx_isRefq hU'.1) (vx_isRefq hN'.1) hU'.2.word hN'.2.word
  have hown' : s'.vm.findClass own = some m.cls := by rw [hvm]; exact hown
  have hins : (Cond.instantiable cls 6).before args s' = true := h _ (by simp [Bundle.ownAtoms])
  obtain ⟨vm₁, cX, kX, hfX, hkX, -, -, X₁, st1⟩ := Y.newCold hexec (own := own) (C := cls) (index := ik) (n := 6) hown' hk' hins hini'
    (g := F0 m pc ls rest) rfl (by rw [hb]; exact d0) (Nat.le_refl _) (Nat.le_refl _)
  generalize hT1 : (T.setVm vm₁).pushCell { cls := cX, slots := kX.instanceTypes.map defaultValue, vm := .none } = T1 at X₁ st1
  have hcat : (Value.ref T.heap.size).category = 1 := rfl
  have hcellA : T1.heap[T.heap.size]? = some (freshCell cX kX) := by rw [← hT1]; exact State.heap_pushCell_size _ _
  have d3' : decode c.code (pc + 3) = .ok (.dup, 1) := by rw [hb]; exact d3
  have d4' : decode c.code (pc + 4) = .ok (.ldc_w is, 3) := by rw [hb]; exact d4
  have hstr' : vk_R own is text sa s' := vk_R.warm hW0 hstr
  obtain ⟨U, hsteps, hrun, hend, hW, hsame, ce, hce, hO⟩ := X₁.ctorThrowS hexec htr (own := own) (cls := cls) (names := names) (ic := ic) hown' hcls hnames h (fun x hx => nomatch hx) hfX hkX hcellA (by rw [hhp, hT]; exact Nat.le_refl _) (msg := .ref sa) rfl
    (g := { method := m, pc := pc + 7, locals := ls, stack := .ref sa :: .ref T.heap.size :: .ref T.heap.size :: rest, locked := none }) rfl hsize rfl rfl (rest := rest) rfl
    (by rw [hb]; exact d7) (by rw [hb]; exact d10) hout hRframes (by simp only [List.map_cons, List.sum_cons, hcat]; omega) hlocks
  obtain ⟨f1, f2⟩ := vx_frame hsame
  rw [hhp] at f1 f2
  have hWs : s.WarmedH U.vm := State.WarmedH.trans hW0 hW
  have hcl : s.vm.findClass cls = some ce.cls := by
    have h9 := hO.cls
    rw [hvm] at h9
    exact h9
  have hall : s.sameButNew ({ U with vm := s.vm } : State) locs mc ms := by
    subst hA
    obtain ⟨e1, e2⟩ := hsame
    rw [State.setFrames_setFrames] at e1
    have h2 : (T.setVm s.vm).sameButNew ({ U with vm := s.vm } : State) [] (0 + 1) (0 + 6) := ⟨e1, e2⟩
    have h3 := X.same.trans h2
    rw [List.append_nil] at h3
    exact h3.mono hc hs
  refine ⟨U, ?_, .threw T.heap.size, hrun, hend, Or.inr ⟨T.heap.size, rfl, cls, ce, locs, hx U hWs.alike f1 (fun q hq => f2 q hq (fun z hz => nomatch hz)), hce, hO.vm, hcl, hWs, hall, hf⟩⟩
  refine st1 _ ?_
  show Steps p.tables e below (T1.setTop { method := m, pc := pc + 3, locals := ls, stack := .ref T.heap.size :: rest, locked := none }) _
  jvm_step X₁.here [X₁.here.top, hexec, d3', Value.category]
  exact X₁.ldcStringW hexec (own := own) (text := text) (index := is) (a := sa) hown' hstr'.1 hstr'.2
    (g := { method := m, pc := pc + 4, locals := ls, stack := .ref T.heap.size :: .ref T.heap.size :: rest, locked := none }) rfl d4' _ hsteps
end Ends
section Bodies
variable {l : Launch}
theorem vx_ofW {y : MethodName} {ws ws' : List Cond} {rm : Room} {Pc : Array Value → State → Prop} {Qc : Array Value → State → Outcome → State → Prop} {XC : String → State → State → Prop} {mc ms : Nat} {free : Addr → Prop} {cc : ByteArray} {maxL : Nat} {ret : Option FieldType}
    (hy : plainName y.cls = true) (hw : ws = Cond.code y cc maxL ret :: ws')
    (body : ∀ p e s m args below meth c s₁, BodyLoose p l y (headSpec ws rm) cc maxL ret e s m args below meth c s₁ → c.maxLocals = maxL → (∀ x ∈ c.exceptionTable.toList, False) → Pc args s →
      W p l e (headSpec ws rm).room s m args below meth c s.heap [] 0 0 (vx_MQ below Qc XC args s mc ms free) (entryFrame m args maxL)) : vx_Met l y ws rm Pc Qc XC mc ms free := by
  refine MetFree.of_bodyS (code := cc) (maxLocals := maxL) (ret := ret) hy ?_ ?_
  · intro args s m h hn
    obtain ⟨meth, c, h1, h2, h3, h4, h5, h6, -, -⟩ := Cond.code_spec hn (atoms_spec (ws := ws) h _ (by rw [hw]; exact List.mem_cons_self))
    exact ⟨meth, c, h1, h2, h3, h4, h5, h6⟩
  · intro p e s m args below meth c s₁ B hml hP _
    have hh0 : s₁.heap = s.heap := by rw [B.state]; rfl
    have ht : ∀ x ∈ c.exceptionTable.toList, False := by
      obtain ⟨meth9, c9, h1, h2, -, -, -, -, h7, -⟩ := Cond.code_spec B.named (atoms_spec (ws := ws) B.pre _ (by rw [hw]; exact List.mem_cons_self))
      cases Option.some.inj (h1.symm.trans B.method)
      cases Option.some.inj (h2.symm.trans (Stand.of_body B).code)
      intro x hx
      rw [Array.isEmpty_iff.mp h7] at hx
      cases hx
    obtain ⟨t, a1, o, b1, b2, b3⟩ := body p e s m args below meth c s₁ B hml ht hP s₁ hh0 (Stand.of_body B)
    exact ⟨t, o, a1, b1, b2, b3⟩
/-- the table of a body with handlers -/
theorem vx_table {p : Program} {x y : MethodName} {S : Spec} {cc bytes : ByteArray} {maxL maxL' : Nat} {ret ret' : Option FieldType} {e : Env} {s s₁ : State} {m : MethodId} {args : Array Value} {below : List Frame} {meth : Method} {c : Code} {hh : List (Nat × Nat × Nat × Nat)}
    (B : BodyLoose p l y S cc maxL ret e s m args below meth c s₁) (h : (Cond.codeWith y bytes maxL' ret' hh).before args s = true) : c.exceptionTable.toList = tableOf hh := by
  obtain ⟨m9, meth9, c9, hn9, h1, h2, -, -, h6, -⟩ := Cond.codeWith_spec h
  cases Option.some.inj (hn9.symm.trans B.named)
  cases Option.some.inj (h1.symm.trans B.method)
  cases Option.some.inj (h2.symm.trans (Stand.of_body B).code)
  rw [← h6, table_eq]
end Bodies
end VXA
/-! ===== END ===== -/
/-! ===== BEGIN a static call of a method with an exception table ===== -/
section VXS
variable {p : Program} {l : Launch} {e : Env} {R : Room} {s : State} {m : MethodId} {args : Array Value} {below : List Frame} {meth : Method} {c : Code} {T : State} {H : Heap} {locs : List Loc} {cells slots : Nat}
abbrev vx_CSW (R : Room) (s : State) (args : Array Value) (own : String) (index : Nat) (y : MethodName) (bytes : ByteArray) (maxL : Nat) (ret : Option FieldType) (hh : List (Nat × Nat × Nat × Nat)) (ws : List Cond) (rm : Room) (mc ms n : Nat) : Prop :=
  (rm.cells = mc ∧ rm.slots = ms ∧ rm.frames + 1 ≤ R.frames ∧ 8 + (maxL + 11) + rm.locals ≤ R.locals ∧ (∀ w ∈ ws, ∀ (a' : Array Value) (U : State), s.WarmedH U.vm → w.before a' U = true) ∧ Cond.codeWith y bytes maxL ret hh ∈ ws) ∧
  (Cond.codeWith y bytes maxL ret hh).before args s = true ∧ (Cond.initialized y.cls).before args s = true ∧ (y.cls ≠ "java/lang/invoke/MethodHandle" ∧ y.cls ≠ "java/lang/invoke/VarHandle") ∧
  (∀ sig, parseMethodDescriptor y.desc = some sig → n = sig.parameters.length) ∧ (Cond.methodLink own index y).before args s = true ∧ (Cond.static y).before args s = true
theorem vx_cwSW {own : String} {index maxL mc ms : Nat} {y : MethodName} {bytes : ByteArray} {ret : Option FieldType} {hh : List (Nat × Nat × Nat × Nat)} {Ts ws ws' : List Cond} {rm : Room} (n : Nat) (ht : ∀ w ∈ Ts, w.before args s = true) (hT : GoodIn Ts (va_wsS own index y ws)) (hw : ws = Cond.codeWith y bytes maxL ret hh :: ws') (hrc : rm.cells = mc) (hrs : rm.slots = ms)
    (hd : y.cls ≠ "java/lang/invoke/MethodHandle" ∧ y.cls ≠ "java/lang/invoke/VarHandle" ∧ (parseMethodDescriptor y.desc).map (fun d => d.parameters.length) = some n) (hR : rm.frames + 1 ≤ R.frames ∧ 8 + (maxL + 11) + rm.locals ≤ R.locals) :
    vx_CSW R s args own index y bytes maxL ret hh ws rm mc ms n := by
  have ok : ∀ w ∈ va_wsS own index y ws, w.before args s = true := fun w h => ht w (hT w h).1
  have hG : GoodIn Ts ws := fun w h => hT w (by unfold va_wsS; exact List.mem_append_right _ h)
  have hc : Cond.codeWith y bytes maxL ret hh ∈ ws := by rw [hw]; exact List.mem_cons_self
  refine ⟨⟨hrc, hrs, hR.1, hR.2, pay_in ht hG, hc⟩, ht _ (hG _ hc).1, ok _ (by simp [va_wsS]), ⟨hd.1, hd.2.1⟩, fun sig h => ?_, ok _ (by simp [va_wsS]), ok _ (by simp [va_wsS])⟩
  have h2 := hd.2.2
  rw [h] at h2
  exact (Option.some.inj h2).symm
theorem vx_callSW (X : Stand p l e R s m args below meth c T locs cells slots) (hexec : p.tables.exec = Jvm.exec) {own : String} {index : Nat} {y : MethodName} {bytes : ByteArray} {maxL : Nat} {ret : Option FieldType} {hh : List (Nat × Nat × Nat × Nat)}
    (hown : s.vm.findClass own = some m.cls) (hlink : (Cond.methodLink own index y).before args s = true) (hstat : (Cond.static y).before args s = true) (hinit : (Cond.initialized y.cls).before args s = true)
    (hcode : (Cond.codeWith y bytes maxL ret hh).before args s = true) (hy : y.cls ≠ "java/lang/invoke/MethodHandle" ∧ y.cls ≠ "java/lang/invoke/VarHandle")
    {W9 : Nat} {Pre : Pt → Array Value → Prop} {Post : Pt → Array Value → Option Value → Pt → Prop} (hK : Back l R p e below s args y 3 W9 Pre Post)
    {g : JFrame} (hg : g.method = m) (hsize : g.locals.size = c.maxLocals) {argsL rest : List Value} (hlen : ∀ sig, parseMethodDescriptor y.desc = some sig → argsL.length = sig.parameters.length)
    (hstack : g.stack = argsL.reverse ++ rest) (hW : 2 * g.monitorRoom + (rest.map fun v => v.category).sum ≤ W9) (hdg : decode c.code g.pc = .ok (.invokestatic index, 3))
    (hpre : ∀ vm₁, s.WarmedH vm₁ → Pre ⟨T.setVm vm₁, locs, cells, slots⟩ argsL.toArray) :
    ∃ (v : Option Value) (vm₁ : Vm) (B : Pt), s.WarmedH vm₁ ∧ Stand p l e R s m args below meth c B.U B.locs B.cells B.slots ∧ Post ⟨T.setVm vm₁, locs, cells, slots⟩ argsL.toArray v B ∧
      ∀ target, Steps p.tables e below (B.U.setTop { g with pc := g.pc + 3, stack := v.toList ++ rest }) target → Steps p.tables e below (T.setTop g) target := by
  obtain ⟨mk, methM, cM, hnamed, hmethM, -, -, -, -, -, -, hsigM⟩ := Cond.codeWith_spec hcode
  have hstatic : methM.isStatic = true := Cond.static_spec hnamed hmethM hstat
  obtain ⟨kP, hkP, -⟩ := className_of_methodNamed hnamed
  have hinitP : kP.init = .initialized := Cond.initialized_spec (findClass_of_methodNamed hnamed) hkP hinit
  obtain ⟨vm₁, X₁, hstep₁⟩ := X.invokestatic hexec hown hlink hnamed hmethM hstatic hkP hinitP hy (g := g) hg (argsL := argsL) (rest := rest) (hlen _ hsigM) hstack hdg
  obtain ⟨v, B, X', hpost, hsteps⟩ := hK m meth c ⟨T.setVm vm₁, locs, cells, slots⟩ { g with stack := rest } (.invokestatic index) mk argsL.toArray X₁ hg hsize hdg hW (X₁.named hnamed) (hpre vm₁ X₁.warmed)
  exact ⟨v, vm₁, B, X₁.warmed, X', hpost, fun target h => hstep₁ _ fun acts => by rw [doInvoke_state]; exact hsteps.trans h⟩
theorem vx_runSW {y : MethodName} {bytes cc : ByteArray} {maxL nL mc ms n index : Nat} {ret : Option FieldType} {hh : List (Nat × Nat × Nat × Nat)} {ws : List Cond} {rm : Room} {Pc : Array Value → State → Prop} {Qc : Array Value → State → Outcome → State → Prop} {free : Addr → Prop} {Ts : List Cond} {own : String} {As rest : List Value} {g : JFrame}
    (S : CallFix p m c cc nL s args Ts own) (hM : Met l y ws rm Pc Qc mc ms free) (cw : vx_CSW R s args own index y bytes maxL ret hh ws rm mc ms n) (hp : PreS s H Pc As)
    (hg : g.method = m) (hn : As.length = n) (hsize : g.locals.size = nL) (hstack : g.stack = As.reverse ++ rest) (hW : 2 * g.monitorRoom + (rest.map fun v => v.category).sum ≤ 8) (hdg : decode cc g.pc = .ok (.invokestatic index, 3)) (hf : cells + mc ≤ R.cells ∧ slots + ms ≤ R.slots) :
    va_Run p l e R s m args below meth c H locs cells slots mc ms g rest (Qc As.toArray) (free) := by
  obtain ⟨⟨hrc, hrs, hfr, hlo, hws, hcw⟩, hcode, hini, hy, hlen, hl, hstt⟩ := cw
  have hK : Back l R p e below s args y 3 8 (PreOf R mc ms Pc) (PostOf Qc mc ms free) := va_backW (hh := hh) (bytes := bytes) (maxL := maxL) (ret := ret) hM hp.1 hrc hrs hfr hlo hws hcw (fun a' U hW => word_at hW (Or.inl (by first | rfl | simp [Cond.onTables, Cond.keeps, Cond.steady])) hini)
  obtain ⟨hx, hb, hml, ho, -⟩ := S
  intro T hT X
  obtain ⟨v, vm₁, ⟨U', l2, c2, s2⟩, hW₁, X', ⟨g', mk, t, L, e1, e2, hq, h1, hL, h2, h3⟩, st⟩ := vx_callSW X hx (hh := hh) (bytes := bytes) (maxL := maxL) (ret := ret) ho hl hstt hini hcode hy hK hg (hsize.trans hml.symm) (argsL := As) (rest := rest) (fun sig h => hn.trans (hlen sig h)) hstack hW (by rw [hb]; exact hdg)
    (fun vm₁ hW₁ => ⟨hf.1, hf.2, hp.2 (T.setVm vm₁) hT hW₁⟩)
  dsimp only [Pt.U, Pt.locs, Pt.cells, Pt.slots] at X' e1 e2 h1 h2 h3 st
  subst h1; subst h2; subst h3
  exact ⟨v, (T.setVm vm₁).calling g' mk As.toArray, t, U', L, hT, X', hL, e1, e2, hq, st⟩
/-- not caught here, past rows that name other classes: it goes on to the caller -/
theorem vx_outP {p : Program} {l : Launch} {e : Env} {R : Room} {s : State} {m : MethodId} {args : Array Value} {below : List Frame} {meth : Method} {c : Code} {H : Heap} {locs : List Loc} {cells slots : Nat} {free : Addr → Prop} {ls : Array Slot} {rest : List Value} {Qc : Array Value → State → Outcome → State → Prop} {XC : String → State → State → Prop}
    {pc : Nat} {own E : String} {ce : Cell} {q : Addr} {mc ms : Nat} (hown : s.vm.findClass own = some m.cls) (hlocks : meth.locks = false)
    (hpass : ∀ z ∈ c.exceptionTable.toList, covers z pc = false ∨ (z.catchType ≠ 0 ∧ ∃ nm : String, (Cond.classLink own z.catchType nm).before args s = true ∧ va_Nc E nm s)) (hcell : H[q]? = some ce) (hv : ce.vm = .none) (hcl : s.vm.findClass E = some ce.cls)
    (hx : ∀ t : State, t.heap = H → s.vm.Alike t.vm → XC E s t) (hf : ∀ z ∈ locs, free z.base) (hc : cells ≤ mc) (hs : slots ≤ ms) :
    vx_W p l e R s m args below meth c H locs cells slots (vx_MQ below Qc XC args s mc ms free) (F0 m pc ls rest) q := by
  intro T hT X
  have hpl : e.platform.magicAccessors = ({} : Platform).magicAccessors := by rw [X.admits.platform]
  obtain ⟨vm', hW', X', st⟩ := X.outThrough hlocks q (g := F0 m pc ls rest) rfl rfl rfl (cell := ce) (by rw [hT]; exact hcell) (by rw [hv]; rfl)
    (by obtain ⟨k9, h9, -⟩ := Vm.findClass_spec hcl; exact ⟨k9, h9⟩) (fun z hz => by
      rcases hpass z hz with h | ⟨hz0, nm, hl1, hn1⟩
      · exact Or.inl h
      · obtain ⟨c6, hc6, hcl6⟩ := Cond.classLink_spec hown hl1 e.platform hpl
        obtain ⟨a8, b8, h1, h2, h3⟩ := hn1
        cases Option.some.inj (h1.symm.trans hcl)
        cases Option.some.inj (h2.symm.trans hc6)
        exact Or.inr ⟨hz0, _, hcl6, h3⟩)
  obtain ⟨g₀, hfr⟩ := X'.frames_eq
  have hcell9 : ((T.setVm vm').setFrames (.throwing q :: below)).heap[q]? = some ce := by
    show T.heap[q]? = some ce
    rw [hT]; exact hcell
  have hend : Ended ((T.setVm vm').setFrames (.throwing q :: below)) below (.threw q) := State.frames_setFrames _ (State.cur_lt_of_frames hfr)
  refine ⟨(T.setVm vm').setFrames (.throwing q :: below), ?_, .threw q, X'.here.running, hend, Or.inr ⟨q, rfl, E, ce, locs, hx _ hT (X'.ends _).1.alike, hcell9, hv, hcl, (X'.ends _).1, (X'.ends _).2.mono hc hs, hf⟩⟩
  rw [X.pushThrowing_eq]
  exact st
/-- a thing of a world lies in the heap -/
theorem vx_lt {D : va_G} {cl : List vw_C} {ws : va_W} {H1 : Heap} (h : va_P D cl ws H1) {k : Nat} {q : Nat × va_E} (hk : ws[k]? = some q) : q.1 < H1.size := (h k q hk).lt
end VXS
/-! ===== END ===== -/
/-! ===== BEGIN methods with a table of their own: called by a name, returning or throwing ===== -/
section VXH
/-! vx_backW, vx_callVX, vx_callSX, vx_callVW, vx_runVW, vx_runVX, vx_runSX, vx_ofWH follow the same proofs as their sisters above (Free/Laws.lean, Shelf42/LK1.lean); vx_outP calls Shelf42/NT130.lean (outThrough). -/
section
variable {l : Launch} {R : Room} {p : Program} {e : Env} {below : List Frame} {s : State} {sargs : Array Value} {y : MethodName} {len W9 : Nat}
theorem vx_backW {ws : List Cond} {rm : Room} {Pc : Array Value → State → Prop} {Qc : Array Value → State → Outcome → State → Prop} {XC : String → State → State → Prop} {mc ms : Nat} {free : Addr → Prop} {bytes : ByteArray} {maxL : Nat} {ret : Option FieldType} {hh : List (Nat × Nat × Nat × Nat)}
    (hM : vx_Met l y ws rm Pc Qc XC mc ms free) (hblind : FrameBlind Pc) (hrc : rm.cells = mc) (hrs : rm.slots = ms)
    (hframes : rm.frames + 1 ≤ R.frames) (hlocals : W9 + (maxL + 11) + rm.locals ≤ R.locals)
    (hws : ∀ w ∈ ws, ∀ a' U, s.WarmedH U.vm → w.before a' U = true) (hcode : Cond.codeWith y bytes maxL ret hh ∈ ws) (hinit : ∀ a' U, s.WarmedH U.vm → (Cond.initialized y.cls).before a' U = true) :
    vx_Back l R p e below s sargs y len W9 (PreOf R mc ms Pc) (PostOf Qc mc ms free) (vx_Post XC mc ms free) := by
  intro m meth c A g ig mk a X hg hsize hdg hW hn hp
  have h1 : (headSpec ws rm).pre.before a A.U = true := atoms_intro fun w hw => hws w hw _ _ X.warmed
  have h2 : (Cond.codeWith y bytes maxL ret hh).before a A.U = true := hws _ hcode _ _ X.warmed
  have h3 : (Cond.initialized y.cls).before a A.U = true := hinit _ _ X.warmed
  have h4 : A.cells + (headSpec ws rm).room.cells ≤ R.cells := by rw [show (headSpec ws rm).room.cells = mc from hrc]; exact hp.1
  have h5 : A.slots + (headSpec ws rm).room.slots ≤ R.slots := by rw [show (headSpec ws rm).room.slots = ms from hrs]; exact hp.2.1
  have hPc : Pc a (A.U.calling g mk a) := hblind _ _ _ _ hp.2.2
  obtain ⟨U, Ls, c0, s0⟩ := A
  dsimp only [Pt.U, Pt.locs, Pt.cells, Pt.slots] at h1 h2 h3 h4 h5 X hn hPc ⊢
  obtain ⟨m9, methY, cY, hn9, hmY, hcY, -, hlY, -⟩ := Cond.codeWith_spec h2
  cases Option.some.inj (hn9.symm.trans hn)
  obtain ⟨kY, hkY, -⟩ := className_of_methodNamed hn
  have hinitY : kY.init = .initialized := Cond.initialized_spec (findClass_of_methodNamed hn) hkY h3
  have h : At U g.method c below := by rw [hg]; exact X.here
  have hlocals9 : W9 + (maxL + 11) + (headSpec ws rm).room.locals ≤ R.locals := hlocals
  have happ : (headSpec ws rm).appliesLoose y e.platform (U.calling g mk a) = true :=
    Spec.appliesLoose_calling (g := g) h hdg hn hkY hinitY
      (X.room_calling (g := g) (R' := (headSpec ws rm).room) hsize hmY hcY hframes (by rw [hlY]; omega) h4 h5) h1
  obtain ⟨mid, hmid⟩ := h.above
  have hfr : (U.setTop g).frames = (.java g :: mid) ++ below := by rw [State.frames_setTop' g h.top, hmid]; rfl
  obtain ⟨o, s₂, hsteps, -, hend, hq⟩ := Steps.callFree hM p X.admits X.cas X.clock (acts := []) hfr happ hPc trivial
  have hq' : vx_Q Qc XC mc ms free a (U.calling g mk a) o s₂ := hq
  rw [State.frames_setTop' g h.top] at hend
  obtain ⟨g₀, hg0⟩ := Option.isSome_iff_exists.mp h.top
  obtain ⟨r, hr⟩ := State.topJava?_eq_some.mp hg0
  have hr' : (({ U with heap := s₂.heap, slotsUsed := s₂.slotsUsed } : State).setVm s₂.vm).frames = .java g₀ :: r := hr
  rcases hq' with ⟨hqc, L, hfe, hL⟩ | ⟨q, rfl, E, ce, L, hx, hce, hcv, hcl, hW₂, hsm, hL⟩
  · obtain ⟨⟨v, rfl⟩, hW₂, e2, q2, q3, q4, q5, q6⟩ := id hfe
    have e3 : s₂ = ({ (U.calling g mk a).setFrames s₂.frames with heap := s₂.heap, slotsUsed := s₂.slotsUsed } : State).setVm s₂.vm := by
      have : s₂ = ({ s₂ with vm := (U.calling g mk a).vm } : State).setVm s₂.vm := rfl
      rw [e2] at this
      exact this
    obtain ⟨c₂, i₂, len₂, hc₂, hd₂, hf₂⟩ := hend
    have hW' : U.WarmedH s₂.vm := hW₂
    have hcc : c₂ = c := by
      have h1 : s₂.code? g.method = U.code? g.method := by
        rw [State.code?_eq, State.code?_eq, hW'.alike.method?]
      exact Option.some.inj (hc₂.symm.trans (h1.trans h.code))
    subst hcc
    have hlen : len₂ = len := by rw [hdg] at hd₂; cases hd₂; rfl
    subst hlen
    have hs₂ : s₂ = (({ U with heap := s₂.heap, slotsUsed := s₂.slotsUsed } : State).setVm s₂.vm).setTop { g with pc := g.pc + len₂, stack := v.toList ++ g.stack } := by
      refine e3.trans ?_
      rw [hf₂, State.calling_eq h.top, State.setFrames_setFrames, State.setTop_of_frames _ hr', hr]
      rfl
    have hsame : U.sameButNew ({ U with heap := s₂.heap, slotsUsed := s₂.slotsUsed } : State) L mc ms := by
      refine ⟨?_, q2, q3, q4, q5, q6⟩
      obtain ⟨t, ht, -⟩ := State.frames_cons hr
      show ({ U with heap := s₂.heap, slotsUsed := s₂.slotsUsed } : State) = { U.setFrames U.frames with heap := s₂.heap, slotsUsed := s₂.slotsUsed }
      rw [State.setFrames_self ht]
    subst hg
    refine Or.inl ⟨v, ⟨(({ U with heap := s₂.heap, slotsUsed := s₂.slotsUsed } : State).setVm s₂.vm), Ls ++ L, c0 + mc, s0 + ms⟩,
      ⟨X.admits, X.cas, X.clock, X.frames, X.room, X.hears, X.method, X.code, (X.here.setHeapUsed s₂.heap s₂.slotsUsed).setVm hW'.alike, X.tail, State.WarmedH.trans X.warmed hW', X.limits, X.bytes, X.same.trans (hsame.setVm s.vm)⟩,
      ⟨g, mk, s₂, L, rfl, rfl, hqc, rfl, hL, rfl, rfl⟩, ?_⟩
    show Steps p.tables e below _ ((({ U with heap := s₂.heap, slotsUsed := s₂.slotsUsed } : State).setVm s₂.vm).setTop { g with pc := g.pc + len₂, stack := v.toList ++ g.stack })
    rw [← hs₂]
    exact hsteps
  · obtain ⟨e2, q2, q3, q4, q5, q6⟩ := id hsm
    have e3 : s₂ = ({ (U.calling g mk a).setFrames s₂.frames with heap := s₂.heap, slotsUsed := s₂.slotsUsed } : State).setVm s₂.vm := by
      have : s₂ = ({ s₂ with vm := (U.calling g mk a).vm } : State).setVm s₂.vm := rfl
      rw [e2] at this
      exact this
    have hf₂ : s₂.frames = .throwing q :: .java g :: U.frames.tail := hend
    have hW' : U.WarmedH s₂.vm := hW₂
    have hs₂ : s₂ = ((({ U with heap := s₂.heap, slotsUsed := s₂.slotsUsed } : State).setVm s₂.vm).setTop g).pushFrame (.throwing q) := by
      refine e3.trans ?_
      rw [hf₂, State.calling_eq h.top, State.setFrames_setFrames, State.pushFrame, State.frames_setTop _ hr', State.setTop_of_frames _ hr', State.setFrames_setFrames, hr]
      rfl
    have hsame : U.sameButNew ({ U with heap := s₂.heap, slotsUsed := s₂.slotsUsed } : State) L mc ms := by
      refine ⟨?_, q2, q3, q4, q5, q6⟩
      obtain ⟨t, ht, -⟩ := State.frames_cons hr
      show ({ U with heap := s₂.heap, slotsUsed := s₂.slotsUsed } : State) = { U.setFrames U.frames with heap := s₂.heap, slotsUsed := s₂.slotsUsed }
      rw [State.setFrames_self ht]
    subst hg
    refine Or.inr ⟨q, ⟨(({ U with heap := s₂.heap, slotsUsed := s₂.slotsUsed } : State).setVm s₂.vm), Ls ++ L, c0 + mc, s0 + ms⟩,
      ⟨X.admits, X.cas, X.clock, X.frames, X.room, X.hears, X.method, X.code, (X.here.setHeapUsed s₂.heap s₂.slotsUsed).setVm hW'.alike, X.tail, State.WarmedH.trans X.warmed hW', X.limits, X.bytes, X.same.trans (hsame.setVm s.vm)⟩,
      ⟨g, mk, s₂, L, E, ce, rfl, rfl, hx, hce, hcv, hcl, rfl, hL, rfl, rfl⟩, ?_⟩
    show Steps p.tables e below _ (((({ U with heap := s₂.heap, slotsUsed := s₂.slotsUsed } : State).setVm s₂.vm).setTop g).pushFrame (.throwing q))
    rw [← hs₂]
    exact hsteps
end
variable {p : Program} {l : Launch} {e : Env} {R : Room} {s : State} {m : MethodId} {args : Array Value} {below : List Frame} {meth : Method} {c : Code} {T : State} {H : Heap} {locs : List Loc} {cells slots : Nat}
theorem vx_callVX (X : Stand p l e R s m args below meth c T locs cells slots) (hexec : p.tables.exec = Jvm.exec) {own C : String} {index : Nat} {y : MethodName} {bytes : ByteArray} {maxL : Nat} {ret : Option FieldType} {hh : List (Nat × Nat × Nat × Nat)}
    (hown : s.vm.findClass own = some m.cls) (hlink : (Cond.methodLink own index y).before args s = true) (hinst : (Cond.instanceMethod y).before args s = true) (hsel : (Cond.selects C y y).before args s = true)
    (hcode : (Cond.codeWith y bytes maxL ret hh).before args s = true) (hy : y.cls ≠ "java/lang/invoke/MethodHandle" ∧ y.cls ≠ "java/lang/invoke/VarHandle")
    {W9 : Nat} {Pre : Pt → Array Value → Prop} {Post : Pt → Array Value → Option Value → Pt → Prop} {PostX : Pt → Array Value → Addr → Pt → Prop} (hK : vx_Back l R p e below s args y 3 W9 Pre Post PostX)
    {b : Addr} {cellB : Cell} (hcell : T.heap[b]? = some cellB) (hobj : cellB.vm.isStatics = false) (hcls : s.vm.findClass C = some cellB.cls)
    {g : JFrame} (hg : g.method = m) (hsize : g.locals.size = c.maxLocals) {argsL rest : List Value} (hlen : ∀ sig, parseMethodDescriptor y.desc = some sig → argsL.length = sig.parameters.length)
    (hstack : g.stack = argsL.reverse ++ .ref b :: rest) (hW : 2 * g.monitorRoom + (rest.map fun v => v.category).sum ≤ W9) (hdg : decode c.code g.pc = .ok (.invokevirtual index, 3))
    (hpre : ∀ vm₁, s.WarmedH vm₁ → Pre ⟨T.setVm vm₁, locs, cells, slots⟩ (Value.ref b :: argsL).toArray) :
    (∃ (v : Option Value) (vm₁ : Vm) (B : Pt), s.WarmedH vm₁ ∧ Stand p l e R s m args below meth c B.U B.locs B.cells B.slots ∧ Post ⟨T.setVm vm₁, locs, cells, slots⟩ (Value.ref b :: argsL).toArray v B ∧
      ∀ target, Steps p.tables e below (B.U.setTop { g with pc := g.pc + 3, stack := v.toList ++ rest }) target → Steps p.tables e below (T.setTop g) target) ∨
    (∃ (q : Addr) (vm₁ : Vm) (B : Pt), s.WarmedH vm₁ ∧ Stand p l e R s m args below meth c B.U B.locs B.cells B.slots ∧ PostX ⟨T.setVm vm₁, locs, cells, slots⟩ (Value.ref b :: argsL).toArray q B ∧
      Steps p.tables e below (T.setTop g) ((B.U.setTop { g with stack := rest }).pushFrame (.throwing q))) := by
  obtain ⟨mk, methM, hnamed, hmethM, hstM, habM⟩ := Cond.instanceMethod_spec hinst
  obtain ⟨m8, methM', cM, hn8, hmethM', -, -, -, -, -, -, hsigM⟩ := Cond.codeWith_spec hcode
  cases Option.some.inj (hn8.symm.trans hnamed)
  cases hmethM.symm.trans hmethM'
  obtain ⟨c2, r2, m2, q1, q2, q3, q4, kP, hkP, hkPi⟩ := Cond.selects_spec hsel
  cases hcls.symm.trans q1
  cases (State.methodFound?_of_named hnamed hy).symm.trans q2
  cases hnamed.symm.trans q3
  have hselP : selectMethod e.platform s.vm cellB.cls mk = .method mk := by rw [Launch.admits_selectMethod X.admits]; exact q4
  obtain ⟨vm₁, X₁, hstep₁⟩ := X.invokevirtual hexec hown hlink hnamed hmethM hstM hkP hkPi hy (a := b) (cell := cellB) hcell
    (fun z h => by rw [h] at hobj; cases hobj) hselP hmethM habM hkP hkPi (g := g) hg (argsL := argsL) (rest := rest) (hlen _ hsigM) hstack hdg
  rcases hK m meth c ⟨T.setVm vm₁, locs, cells, slots⟩ { g with stack := rest } (.invokevirtual index) mk (Value.ref b :: argsL).toArray X₁ hg hsize hdg hW (X₁.named hnamed) (hpre vm₁ X₁.warmed) with ⟨v, B, X', hpost, hsteps⟩ | ⟨q, B, X', hpost, hsteps⟩
  · exact Or.inl ⟨v, vm₁, B, X₁.warmed, X', hpost, fun target h => hstep₁ _ fun acts => by rw [doInvoke_state]; exact hsteps.trans h⟩
  · exact Or.inr ⟨q, vm₁, B, X₁.warmed, X', hpost, hstep₁ _ fun acts => by rw [doInvoke_state]; exact hsteps⟩
theorem vx_callSX (X : Stand p l e R s m args below meth c T locs cells slots) (hexec : p.tables.exec = Jvm.exec) {own : String} {index : Nat} {y : MethodName} {bytes : ByteArray} {maxL : Nat} {ret : Option FieldType} {hh : List (Nat × Nat × Nat × Nat)}
    (hown : s.vm.findClass own = some m.cls) (hlink : (Cond.methodLink own index y).before args s = true) (hstat : (Cond.static y).before args s = true) (hinit : (Cond.initialized y.cls).before args s = true)
    (hcode : (Cond.codeWith y bytes maxL ret hh).before args s = true) (hy : y.cls ≠ "java/lang/invoke/MethodHandle" ∧ y.cls ≠ "java/lang/invoke/VarHandle")
    {W9 : Nat} {Pre : Pt → Array Value → Prop} {Post : Pt → Array Value → Option Value → Pt → Prop} {PostX : Pt → Array Value → Addr → Pt → Prop} (hK : vx_Back l R p e below s args y 3 W9 Pre Post PostX)
    {g : JFrame} (hg : g.method = m) (hsize : g.locals.size = c.maxLocals) {argsL rest : List Value} (hlen : ∀ sig, parseMethodDescriptor y.desc = some sig → argsL.length = sig.parameters.length)
    (hstack : g.stack = argsL.reverse ++ rest) (hW : 2 * g.monitorRoom + (rest.map fun v => v.category).sum ≤ W9) (hdg : decode c.code g.pc = .ok (.invokestatic index, 3))
    (hpre : ∀ vm₁, s.WarmedH vm₁ → Pre ⟨T.setVm vm₁, locs, cells, slots⟩ argsL.toArray) :
    (∃ (v : Option Value) (vm₁ : Vm) (B : Pt), s.WarmedH vm₁ ∧ Stand p l e R s m args below meth c B.U B.locs B.cells B.slots ∧ Post ⟨T.setVm vm₁, locs, cells, slots⟩ argsL.toArray v B ∧
      ∀ target, Steps p.tables e below (B.U.setTop { g with pc := g.pc + 3, stack := v.toList ++ rest }) target → Steps p.tables e below (T.setTop g) target) ∨
    (∃ (q : Addr) (vm₁ : Vm) (B : Pt), s.WarmedH vm₁ ∧ Stand p l e R s m args below meth c B.U B.locs B.cells B.slots ∧ PostX ⟨T.setVm vm₁, locs, cells, slots⟩ argsL.toArray q B ∧
      Steps p.tables e below (T.setTop g) ((B.U.setTop { g with stack := rest }).pushFrame (.throwing q))) := by
  obtain ⟨mk, methM, cM, hnamed, hmethM, -, -, -, -, -, -, hsigM⟩ := Cond.codeWith_spec hcode
  have hstatic : methM.isStatic = true := Cond.static_spec hnamed hmethM hstat
  obtain ⟨kP, hkP, -⟩ := className_of_methodNamed hnamed
  have hinitP : kP.init = .initialized := Cond.initialized_spec (findClass_of_methodNamed hnamed) hkP hinit
  obtain ⟨vm₁, X₁, hstep₁⟩ := X.invokestatic hexec hown hlink hnamed hmethM hstatic hkP hinitP hy (g := g) hg (argsL := argsL) (rest := rest) (hlen _ hsigM) hstack hdg
  rcases hK m meth c ⟨T.setVm vm₁, locs, cells, slots⟩ { g with stack := rest } (.invokestatic index) mk argsL.toArray X₁ hg hsize hdg hW (X₁.named hnamed) (hpre vm₁ X₁.warmed) with ⟨v, B, X', hpost, hsteps⟩ | ⟨q, B, X', hpost, hsteps⟩
  · exact Or.inl ⟨v, vm₁, B, X₁.warmed, X', hpost, fun target h => hstep₁ _ fun acts => by rw [doInvoke_state]; exact hsteps.trans h⟩
  · exact Or.inr ⟨q, vm₁, B, X₁.warmed, X', hpost, hstep₁ _ fun acts => by rw [doInvoke_state]; exact hsteps⟩
theorem vx_callVW (X : Stand p l e R s m args below meth c T locs cells slots) (hexec : p.tables.exec = Jvm.exec) {own C : String} {index : Nat} {y : MethodName} {bytes : ByteArray} {maxL : Nat} {ret : Option FieldType} {hh : List (Nat × Nat × Nat × Nat)}
    (hown : s.vm.findClass own = some m.cls) (hlink : (Cond.methodLink own index y).before args s = true) (hinst : (Cond.instanceMethod y).before args s = true) (hsel : (Cond.selects C y y).before args s = true)
    (hcode : (Cond.codeWith y bytes maxL ret hh).before args s = true) (hy : y.cls ≠ "java/lang/invoke/MethodHandle" ∧ y.cls ≠ "java/lang/invoke/VarHandle")
    {W9 : Nat} {Pre : Pt → Array Value → Prop} {Post : Pt → Array Value → Option Value → Pt → Prop} (hK : Back l R p e below s args y 3 W9 Pre Post)
    {b : Addr} {cellB : Cell} (hcell : T.heap[b]? = some cellB) (hobj : cellB.vm.isStatics = false) (hcls : s.vm.findClass C = some cellB.cls)
    {g : JFrame} (hg : g.method = m) (hsize : g.locals.size = c.maxLocals) {argsL rest : List Value} (hlen : ∀ sig, parseMethodDescriptor y.desc = some sig → argsL.length = sig.parameters.length)
    (hstack : g.stack = argsL.reverse ++ .ref b :: rest) (hW : 2 * g.monitorRoom + (rest.map fun v => v.category).sum ≤ W9) (hdg : decode c.code g.pc = .ok (.invokevirtual index, 3))
    (hpre : ∀ vm₁, s.WarmedH vm₁ → Pre ⟨T.setVm vm₁, locs, cells, slots⟩ (Value.ref b :: argsL).toArray) :
    ∃ (v : Option Value) (vm₁ : Vm) (B : Pt), s.WarmedH vm₁ ∧ Stand p l e R s m args below meth c B.U B.locs B.cells B.slots ∧ Post ⟨T.setVm vm₁, locs, cells, slots⟩ (Value.ref b :: argsL).toArray v B ∧
      ∀ target, Steps p.tables e below (B.U.setTop { g with pc := g.pc + 3, stack := v.toList ++ rest }) target → Steps p.tables e below (T.setTop g) target := by
  obtain ⟨mk, methM, hnamed, hmethM, hstM, habM⟩ := Cond.instanceMethod_spec hinst
  obtain ⟨m8, methM', cM, hn8, hmethM', -, -, -, -, -, -, hsigM⟩ := Cond.codeWith_spec hcode
  cases Option.some.inj (hn8.symm.trans hnamed)
  cases hmethM.symm.trans hmethM'
  obtain ⟨c2, r2, m2, q1, q2, q3, q4, kP, hkP, hkPi⟩ := Cond.selects_spec hsel
  cases hcls.symm.trans q1
  cases (State.methodFound?_of_named hnamed hy).symm.trans q2
  cases hnamed.symm.trans q3
  have hselP : selectMethod e.platform s.vm cellB.cls mk = .method mk := by rw [Launch.admits_selectMethod X.admits]; exact q4
  obtain ⟨vm₁, X₁, hstep₁⟩ := X.invokevirtual hexec hown hlink hnamed hmethM hstM hkP hkPi hy (a := b) (cell := cellB) hcell
    (fun z h => by rw [h] at hobj; cases hobj) hselP hmethM habM hkP hkPi (g := g) hg (argsL := argsL) (rest := rest) (hlen _ hsigM) hstack hdg
  obtain ⟨v, B, X', hpost, hsteps⟩ := hK m meth c ⟨T.setVm vm₁, locs, cells, slots⟩ { g with stack := rest } (.invokevirtual index) mk (Value.ref b :: argsL).toArray X₁ hg hsize hdg hW (X₁.named hnamed) (hpre vm₁ X₁.warmed)
  exact ⟨v, vm₁, B, X₁.warmed, X', hpost, fun target h => hstep₁ _ fun acts => by rw [doInvoke_state]; exact hsteps.trans h⟩
abbrev vx_CVW (R : Room) (s : State) (args : Array Value) (own C : String) (index : Nat) (y : MethodName) (bytes : ByteArray) (maxL : Nat) (ret : Option FieldType) (hh : List (Nat × Nat × Nat × Nat)) (ws : List Cond) (rm : Room) (mc ms n : Nat) : Prop :=
  (rm.cells = mc ∧ rm.slots = ms ∧ rm.frames + 1 ≤ R.frames ∧ 8 + (maxL + 11) + rm.locals ≤ R.locals ∧ (∀ w ∈ ws, ∀ (a' : Array Value) (U : State), s.WarmedH U.vm → w.before a' U = true) ∧ Cond.codeWith y bytes maxL ret hh ∈ ws) ∧
  (Cond.codeWith y bytes maxL ret hh).before args s = true ∧ (Cond.initialized y.cls).before args s = true ∧ (y.cls ≠ "java/lang/invoke/MethodHandle" ∧ y.cls ≠ "java/lang/invoke/VarHandle") ∧
  (∀ sig, parseMethodDescriptor y.desc = some sig → n = sig.parameters.length) ∧ (Cond.methodLink own index y).before args s = true ∧ (Cond.instanceMethod y).before args s = true ∧ (Cond.selects C y y).before args s = true
theorem vx_cwVW {own C : String} {index maxL mc ms : Nat} {y : MethodName} {bytes : ByteArray} {ret : Option FieldType} {hh : List (Nat × Nat × Nat × Nat)} {Ts ws ws' : List Cond} {rm : Room} (n : Nat) (ht : ∀ w ∈ Ts, w.before args s = true) (hT : GoodIn Ts (wsV own index C y ws)) (hw : ws = Cond.codeWith y bytes maxL ret hh :: ws') (hrc : rm.cells = mc) (hrs : rm.slots = ms)
    (hd : y.cls = C ∧ y.cls ≠ "java/lang/invoke/MethodHandle" ∧ y.cls ≠ "java/lang/invoke/VarHandle" ∧ (parseMethodDescriptor y.desc).map (fun d => d.parameters.length) = some n) (hR : rm.frames + 1 ≤ R.frames ∧ 8 + (maxL + 11) + rm.locals ≤ R.locals) :
    vx_CVW R s args own C index y bytes maxL ret hh ws rm mc ms n := by
  obtain ⟨hC, hd⟩ := hd
  subst hC
  have ok : ∀ w ∈ wsV own index y.cls y ws, w.before args s = true := fun w h => ht w (hT w h).1
  have hG : GoodIn Ts ws := fun w h => hT w (by unfold wsV; exact List.mem_append_right _ h)
  have hc : Cond.codeWith y bytes maxL ret hh ∈ ws := by rw [hw]; exact List.mem_cons_self
  refine ⟨⟨hrc, hrs, hR.1, hR.2, pay_in ht hG, hc⟩, ht _ (hG _ hc).1, ok _ (by simp [wsV]), ⟨hd.1, hd.2.1⟩, fun sig h => ?_, ok _ (by simp [wsV]), ok _ (by simp [wsV]), ok _ (by simp [wsV])⟩
  have h2 := hd.2.2
  rw [h] at h2
  exact (Option.some.inj h2).symm
theorem vx_runVW {y : MethodName} {bytes cc : ByteArray} {maxL nL mc ms n index : Nat} {ret : Option FieldType} {hh : List (Nat × Nat × Nat × Nat)} {ws : List Cond} {rm : Room} {Pc : Array Value → State → Prop} {Qc : Array Value → State → Outcome → State → Prop} {free : Addr → Prop} {Ts : List Cond} {own C : String} {b : Addr} {As rest : List Value} {g : JFrame}
    (S : CallFix p m c cc nL s args Ts own) (hM : Met l y ws rm Pc Qc mc ms free) (cw : vx_CVW R s args own C index y bytes maxL ret hh ws rm mc ms n) (hp : PreV s H C b Pc As)
    (hg : g.method = m) (hn : As.length = n) (hsize : g.locals.size = nL) (hstack : g.stack = As.reverse ++ .ref b :: rest) (hW : 2 * g.monitorRoom + (rest.map fun v => v.category).sum ≤ 8) (hdg : decode cc g.pc = .ok (.invokevirtual index, 3)) (hf : cells + mc ≤ R.cells ∧ slots + ms ≤ R.slots) :
    va_Run p l e R s m args below meth c H locs cells slots mc ms g rest (Qc (Value.ref b :: As).toArray) free := by
  obtain ⟨⟨hrc, hrs, hfr, hlo, hws, hcw⟩, hcode, hini, hy, hlen, hl, hin, hse⟩ := cw
  have hK : Back l R p e below s args y 3 8 (PreOf R mc ms Pc) (PostOf Qc mc ms free) := va_backW (hh := hh) (bytes := bytes) (maxL := maxL) (ret := ret) hM hp.1 hrc hrs hfr hlo hws hcw (fun a' U hW => word_at hW (Or.inl (by first | rfl | simp [Cond.onTables, Cond.keeps, Cond.steady])) hini)
  obtain ⟨hx, hb, hml, ho, -⟩ := S
  obtain ⟨-, ⟨cellB, hcB, hoB, hclB⟩, hPc⟩ := hp
  intro T hT X
  obtain ⟨v, vm₁, ⟨U', l2, c2, s2⟩, hW₁, X', ⟨g', mk, t, L, e1, e2, hq, h1, hL, h2, h3⟩, st⟩ := vx_callVW X hx (C := C) (hh := hh) (bytes := bytes) (maxL := maxL) (ret := ret) ho hl hin hse hcode hy hK (by rw [hT]; exact hcB) hoB hclB hg (hsize.trans hml.symm) (argsL := As) (rest := rest) (fun sig h => hn.trans (hlen sig h)) hstack hW (by rw [hb]; exact hdg)
    (fun vm₁ hW₁ => ⟨hf.1, hf.2, hPc (T.setVm vm₁) hT hW₁⟩)
  dsimp only [Pt.U, Pt.locs, Pt.cells, Pt.slots] at X' e1 e2 h1 h2 h3 st
  subst h1; subst h2; subst h3
  exact ⟨v, (T.setVm vm₁).calling g' mk (Value.ref b :: As).toArray, t, U', L, hT, X', hL, e1, e2, hq, st⟩
section
variable {y : MethodName} {bytes cc : ByteArray} {maxL nL mc ms n index : Nat} {ret : Option FieldType} {ws : List Cond} {rm : Room} {Pc : Array Value → State → Prop} {Qc : Array Value → State → Outcome → State → Prop} {XC : String → State → State → Prop} {free : Addr → Prop} {Ts : List Cond} {own C : String} {b : Addr} {As rest : List Value} {g : JFrame}
theorem vx_runVX {hh : List (Nat × Nat × Nat × Nat)} (S : CallFix p m c cc nL s args Ts own) (hM : vx_Met l y ws rm Pc Qc XC mc ms free) (cw : vx_CVW R s args own C index y bytes maxL ret hh ws rm mc ms n) (hp : PreV s H C b Pc As)
    (hg : g.method = m) (hn : As.length = n) (hsize : g.locals.size = nL) (hstack : g.stack = As.reverse ++ .ref b :: rest) (hW : 2 * g.monitorRoom + (rest.map fun v => v.category).sum ≤ 8) (hdg : decode cc g.pc = .ok (.invokevirtual index, 3)) (hf : cells + mc ≤ R.cells ∧ slots + ms ≤ R.slots) :
    vx_Run p l e R s m args below meth c H locs cells slots mc ms g rest (Qc (Value.ref b :: As).toArray) XC free := by
  obtain ⟨⟨hrc, hrs, hfr, hlo, hws, hcw⟩, hcode, hini, hy, hlen, hl, hin, hse⟩ := cw
  have hK : vx_Back l R p e below s args y 3 8 (PreOf R mc ms Pc) (PostOf Qc mc ms free) (vx_Post XC mc ms free) := vx_backW (hh := hh) (bytes := bytes) (maxL := maxL) (ret := ret) hM hp.1 hrc hrs hfr hlo hws hcw (fun a' U hW => word_at hW (Or.inl (by first | rfl | simp [Cond.onTables, Cond.keeps, Cond.steady])) hini)
  obtain ⟨hx, hb, hml, ho, -⟩ := S
  obtain ⟨-, ⟨cellB, hcB, hoB, hclB⟩, hPc⟩ := hp
  intro T hT X
  rcases vx_callVX X hx (C := C) (hh := hh) (bytes := bytes) (maxL := maxL) (ret := ret) ho hl hin hse hcode hy hK (by rw [hT]; exact hcB) hoB hclB hg (hsize.trans hml.symm) (argsL := As) (rest := rest) (fun sig h => hn.trans (hlen sig h)) hstack hW (by rw [hb]; exact hdg)
    (fun vm₁ hW₁ => ⟨hf.1, hf.2, hPc (T.setVm vm₁) hT hW₁⟩) with ⟨v, vm₁, ⟨U', l2, c2, s2⟩, hW₁, X', ⟨g', mk, t, L, e1, e2, hq, h1, hL, h2, h3⟩, st⟩ | ⟨q, vm₁, ⟨U', l2, c2, s2⟩, hW₁, X', ⟨g', mk, t, L, E, ce, e1, e2, hq, hce, hcv, hcl, h1, hL, h2, h3⟩, st⟩
  · dsimp only [Pt.U, Pt.locs, Pt.cells, Pt.slots] at X' e1 e2 h1 h2 h3 st
    subst h1; subst h2; subst h3
    exact Or.inl ⟨v, (T.setVm vm₁).calling g' mk (Value.ref b :: As).toArray, t, U', L, hT, X', hL, e1, e2, hq, st⟩
  · dsimp only [Pt.U, Pt.locs, Pt.cells, Pt.slots] at X' e1 e2 h1 h2 h3 st hcl
    subst h1; subst h2; subst h3
    exact Or.inr ⟨q, (T.setVm vm₁).calling g' mk (Value.ref b :: As).toArray, t, U', L, E, ce, hT, X', hL, e1, e2, hq, hce, hcv, vx_cls hW₁ hcl, st⟩
theorem vx_runSX {hh : List (Nat × Nat × Nat × Nat)} (S : CallFix p m c cc nL s args Ts own) (hM : vx_Met l y ws rm Pc Qc XC mc ms free) (cw : vx_CSW R s args own index y bytes maxL ret hh ws rm mc ms n) (hp : PreS s H Pc As)
    (hg : g.method = m) (hn : As.length = n) (hsize : g.locals.size = nL) (hstack : g.stack = As.reverse ++ rest) (hW : 2 * g.monitorRoom + (rest.map fun v => v.category).sum ≤ 8) (hdg : decode cc g.pc = .ok (.invokestatic index, 3)) (hf : cells + mc ≤ R.cells ∧ slots + ms ≤ R.slots) :
    vx_Run p l e R s m args below meth c H locs cells slots mc ms g rest (Qc As.toArray) XC free := by
  obtain ⟨⟨hrc, hrs, hfr, hlo, hws, hcw⟩, hcode, hini, hy, hlen, hl, hstt⟩ := cw
  have hK : vx_Back l R p e below s args y 3 8 (PreOf R mc ms Pc) (PostOf Qc mc ms free) (vx_Post XC mc ms free) := vx_backW (hh := hh) (bytes := bytes) (maxL := maxL) (ret := ret) hM hp.1 hrc hrs hfr hlo hws hcw (fun a' U hW => word_at hW (Or.inl (by first | rfl | simp [Cond.onTables, Cond.keeps, Cond.steady])) hini)
  obtain ⟨hx, hb, hml, ho, -⟩ := S
  intro T hT X
  rcases vx_callSX X hx (hh := hh) (bytes := bytes) (maxL := maxL) (ret := ret) ho hl hstt hini hcode hy hK hg (hsize.trans hml.symm) (argsL := As) (rest := rest) (fun sig h => hn.trans (hlen sig h)) hstack hW (by rw [hb]; exact hdg)
    (fun vm₁ hW₁ => ⟨hf.1, hf.2, hp.2 (T.setVm vm₁) hT hW₁⟩) with ⟨v, vm₁, ⟨U', l2, c2, s2⟩, hW₁, X', ⟨g', mk, t, L, e1, e2, hq, h1, hL, h2, h3⟩, st⟩ | ⟨q, vm₁, ⟨U', l2, c2, s2⟩, hW₁, X', ⟨g', mk, t, L, E, ce, e1, e2, hq, hce, hcv, hcl, h1, hL, h2, h3⟩, st⟩
  · dsimp only [Pt.U, Pt.locs, Pt.cells, Pt.slots] at X' e1 e2 h1 h2 h3 st
    subst h1; subst h2; subst h3
    exact Or.inl ⟨v, (T.setVm vm₁).calling g' mk As.toArray, t, U', L, hT, X', hL, e1, e2, hq, st⟩
  · dsimp only [Pt.U, Pt.locs, Pt.cells, Pt.slots] at X' e1 e2 h1 h2 h3 st hcl
    subst h1; subst h2; subst h3
    exact Or.inr ⟨q, (T.setVm vm₁).calling g' mk As.toArray, t, U', L, E, ce, hT, X', hL, e1, e2, hq, hce, hcv, vx_cls hW₁ hcl, st⟩
end
end VXH
theorem vx_ofWH {l : Launch} {y : MethodName} {ws ws' : List Cond} {rm : Room} {Pc : Array Value → State → Prop} {Qc : Array Value → State → Outcome → State → Prop} {XC : String → State → State → Prop} {mc ms : Nat} {free : Addr → Prop} {cc : ByteArray} {maxL : Nat} {ret : Option FieldType} {hh : List (Nat × Nat × Nat × Nat)}
    (hy : plainName y.cls = true) (hw : ws = Cond.codeWith y cc maxL ret hh :: ws')
    (body : ∀ p e s m args below meth c s₁, BodyLoose p l y (headSpec ws rm) cc maxL ret e s m args below meth c s₁ → c.maxLocals = maxL → Pc args s →
      W p l e (headSpec ws rm).room s m args below meth c s.heap [] 0 0 (vx_MQ below Qc XC args s mc ms free) (entryFrame m args maxL)) : vx_Met l y ws rm Pc Qc XC mc ms free := by
  refine MetFree.of_bodyS (code := cc) (maxLocals := maxL) (ret := ret) hy ?_ ?_
  · intro args s m h hn
    obtain ⟨m9, meth, c, hn9, h1, h2, h3, h4, -, h5, h6, -⟩ := Cond.codeWith_spec (atoms_spec (ws := ws) h _ (by rw [hw]; exact List.mem_cons_self))
    cases hn.symm.trans hn9
    exact ⟨meth, c, h1, h2, h3, h4, h5, h6⟩
  · intro p e s m args below meth c s₁ B hml hP _
    have hh0 : s₁.heap = s.heap := by rw [B.state]; rfl
    obtain ⟨t, a1, o, b1, b2, b3⟩ := body p e s m args below meth c s₁ B hml hP s₁ hh0 (Stand.of_body B)
    exact ⟨t, o, a1, b1, b2, b3⟩
/-! ===== END ===== -/
end
section
/-! ===== 'throw new NoSuchElementException("text")': its constructor passes the text on by another entry than the row of the other exceptions takes ===== -/
abbrev vnN : String := "java/util/NoSuchElementException"
abbrev vnY : String := "java/lang/RuntimeException"
abbrev vnB : ByteArray := prog_20_method_4_code
def vn_all : List Cond := Bundle.passSAtoms vnN vnY 13 vnB ++ (Bundle.ownAtoms "Meniscus" 72 vnN [vnY, "java/lang/Exception"]).filter (fun w => decide (w ≠ .code (Bundle.initS vnN) Bundle.six 2 none) && decide (w ≠ .methodLink vnN 7 (Bundle.initS vnY)))
def vn_at : List Cond := vn_all.filter vx_no
theorem vn_thr : ∀ w ∈ Bundle.throwableAtoms, w ∈ vn_all := by decide +kernel
theorem vn_thrS : ∀ w ∈ Bundle.throwableSAtoms, w ∈ vn_all := by decide +kernel
theorem vn_pass : ∀ w ∈ Bundle.passSAtoms vnN vnY 13 vnB, w ∈ vn_all := fun _ h => List.mem_append_left _ h
theorem vn_chain : ∀ w ∈ Bundle.chainSAtoms vnY ["java/lang/Exception"], w ∈ vn_all := by decide +kernel
section NSE
variable {p : Program} {l : Launch} {e : Env} {R : Room} {s : State} {m : MethodId} {args : Array Value} {below : List Frame} {meth : Method} {c : Code} {W0 : State} {locs : List Loc} {cells slots : Nat}
set_option maxHeartbeats 4000000 in
/-- from the call of the constructor to the throw's end: the cell that comes of it is an ordinary one of that class -/
theorem vn_ctor (X : Stand p l e R s m args below meth c W0 locs cells slots) (hexec : p.tables.exec = Jvm.exec) (htr : e.platform.stackTraces = false) (hown : s.vm.findClass "Meniscus" = some m.cls) (h : ∀ w ∈ vn_all, w.before args s = true)
    (hlocs : ∀ x ∈ locs, ∀ cell, s.heap[x.base]? = some cell → cell.vm.isStatics = false) {a : Addr} {cX : ClassId} {kX : Class} (hfX : s.vm.findClass vnN = some cX) (hkX : s.vm.classes[cX]? = some kX) (hcell : W0.heap[a]? = some (freshCell cX kX)) (hnew : s.heap.size ≤ a)
    {msg : Value} (hmsg : msg.isRef = true) {g : JFrame} (hg : g.method = m) (hsize : g.locals.size = c.maxLocals) (hlocked : g.locked = none) (hentered : g.entered = []) {rest : List Value} (hstack : g.stack = msg :: .ref a :: .ref a :: rest)
    (hd6 : decode c.code g.pc = .ok (.invokespecial 72, 3)) (hd9 : decode c.code (g.pc + 3) = .ok (.athrow, 1)) (hout : ∀ x ∈ c.exceptionTable.toList, covers x (g.pc + 3) = false)
    (hRf : 5 < R.frames) (hRl : 2 * g.monitorRoom + ((Value.ref a :: rest).map fun v => v.category).sum + (13 * 3 + 42) ≤ R.locals) (hlocks : meth.locks = false) :
    ∃ U : State, Steps p.tables e below (W0.setTop g) U ∧ U.status = .running ∧ Ended U below (.threw a) ∧ s.WarmedH U.vm ∧ s.sameButNew ({ U with vm := s.vm } : State) locs cells slots ∧ ∃ ce : Cell, U.heap[a]? = some ce ∧ ce.vm = .none ∧ s.vm.findClass vnN = some ce.cls := by
  have k1 : e.platform.frameOwnsMonitors = true := by rw [X.admits.platform]
  have k2 : e.platform.finalization = false := by rw [X.admits.platform]
  have k3 : e.platform.magicAccessors = ({} : Platform).magicAccessors := by rw [X.admits.platform]
  have wd : ∀ x, x ∈ vn_all → x.holds args s none s [] = true := fun x hx => h x hx
  -- the parts of the road: Throwable's own code, the passing constructors
  obtain ⟨T, Z0, L, -, Y⟩ := ThrowableC.of_atoms (args := args) k1 k2 k3 (fun x hx => h x (vn_thr x hx))
  obtain ⟨Z, M, LZ, LM, hnZ⟩ := Init0T.ofS_atoms (args := args) k3 L Y (fun x hx => h x (vn_thrS x hx))
  obtain ⟨N0, LN, hN0, hNs⟩ := PassC.ofS_atoms (args := args) (s := s) (pl := e.platform) k3 (X := vnN) (Y := vnY) (index := 13) (bytes := vnB) (by decide +kernel) ⟨by decide +kernel, by decide +kernel⟩ (by decide +kernel) (by decide +kernel) (by decide +kernel) (by decide +kernel) (fun x hx => h x (vn_pass x hx))
  obtain ⟨P1, Ps, hlen, L1, hL, hP1, hl1, hl2⟩ := Bundle.chainS (args := args) k3 hnZ ["java/lang/Exception"] vnY (by decide +kernel) (by decide +kernel) (fun x hx => h x (vn_chain x hx))
  have hN1 : N0.sup = P1.m := Option.some.inj (hNs.symm.trans hP1)
  have hfN : s.vm.findClass vnN = some N0.m.cls := findClass_of_methodNamed hN0
  cases Option.some.inj (hfX.symm.trans hfN)
  obtain ⟨c1, kY, hc1, hk, hord, -, -, hn6⟩ := Cond.instantiable_spec (wd (.instantiable vnN 6) (by decide +kernel))
  cases Option.some.inj (hc1.symm.trans hfN)
  cases Option.some.inj (hkX.symm.trans hk)
  have sel : ∀ {x : MethodName} {mm : MethodId}, Cond.selects vnN x x ∈ vn_all → s.methodNamed? x = some mm → (x.cls ≠ "java/lang/invoke/MethodHandle" ∧ x.cls ≠ "java/lang/invoke/VarHandle") → selectMethod e.platform s.vm N0.m.cls mm = .method mm := by
    intro x mm hx hm hne
    obtain ⟨c2, r2, m2, q1, q2, q3, q4, -⟩ := Cond.selects_spec (wd _ hx)
    cases Option.some.inj (q1.symm.trans hfN)
    cases Option.some.inj (q2.symm.trans (State.methodFound?_of_named hm hne))
    cases Option.some.inj (q3.symm.trans hm)
    rw [Launch.admits_selectMethod X.admits]
    exact q4
  have sel0 := sel (x := Bundle.tFill0) (by decide +kernel) Y.fill0 (by decide)
  have selF := sel (x := Bundle.tFill) (by decide +kernel) Y.fill (by decide)
  obtain ⟨cS0, hcS0, hiss⟩ := Y.statics
  obtain ⟨u0, hu0⟩ := Cond.staticRefV Y.unassigned L.unassignedStatic L.statics hcS0 hiss (wd (.isRef (.static Bundle.tN "UNASSIGNED_STACK" Bundle.steD)) (by decide +kernel))
  obtain ⟨sen, hsen⟩ := Cond.staticRefV Y.sentinel L.sentinelStatic L.statics hcS0 hiss (wd (.isRef (.static Bundle.tN "SUPPRESSED_SENTINEL" Bundle.listD)) (by decide +kernel))
  obtain ⟨cb, ib, fB, hk198, hg198, ha198, hsB, -, hnB, htB, hffB⟩ := Cond.ownField (t := .object "java/lang/Object") Y.found L.cls (by decide +kernel) (wd (.fieldLink Bundle.tN 198 Bundle.tN "backtrace" "Ljava/lang/Object;") (by decide +kernel)) (wd (.lays Bundle.tN Bundle.tN "backtrace" "Ljava/lang/Object;") (by decide +kernel)) e.platform k3
  obtain ⟨cS, hcS, heS, -, hkeep⟩ := X.same.2.2.2.2.2 T.aS cS0 hcS0
  have hcS' : W0.heap[T.aS]? = some cS := hcS
  have hnl : ∀ i, (⟨T.aS, i⟩ : Loc) ∉ locs := fun i hmem => by
    have q := hlocs _ hmem cS0 hcS0
    rw [hiss] at q
    cases q
  have hkS : cS.vm ≠ .unknown := fun hu => by
    rw [heS] at hu
    rw [hu] at hiss
    cases hiss
  have hneS : T.aS ≠ a := Nat.ne_of_lt (Nat.lt_of_lt_of_le (Array.getElem?_eq_some_iff.mp hcS0).1 hnew)
  obtain ⟨iM, hffM⟩ := Y.msg
  -- where the class lays Throwable's fields
  obtain ⟨tC, dC, hdC, hnC⟩ := Cond.laysAt hfN hk Y.cause (wd (.lays vnN Bundle.tN "cause" "Ljava/lang/Throwable;") (by decide +kernel))
  obtain ⟨tS, dS, hdS, hnS⟩ := Cond.laysAt hfN hk Y.stack (wd (.lays vnN Bundle.tN "stackTrace" Bundle.steD) (by decide +kernel))
  obtain ⟨tP, dP, hdP, hnP⟩ := Cond.laysAt hfN hk Y.supp (wd (.lays vnN Bundle.tN "suppressedExceptions" Bundle.listD) (by decide +kernel))
  obtain ⟨tM, dM, hdM, hnM⟩ := Cond.laysAt hfN hk hffM (wd (.lays vnN Bundle.tN "detailMessage" "Ljava/lang/String;") (by decide +kernel))
  obtain ⟨tB, dB, hdB, hnBd⟩ := Cond.laysAt hfN hk hffB (wd (.lays vnN Bundle.tN "backtrace" "Ljava/lang/Object;") (by decide +kernel))
  have bC := Cond.laysApart hdB hdC hnBd hnC (by rw [hnB, Y.causeName]; decide)
  have bS := Cond.laysApart hdB hdS hnBd hnS (by rw [hnB, Y.stackName]; decide)
  have bP := Cond.laysApart hdB hdP hnBd hnP (by rw [hnB, Y.suppName]; decide)
  have hskip : SkipFacts T e.platform s (fun u => u) u0 ((preparedCellV T.toThrowableT (freshCell N0.m.cls kX) a u0 sen).withEntry W0.cur) :=
    ⟨{ ci198 := cb, i198 := ib, fBack := fB }, ⟨hk198, hg198, ha198, hsB⟩, by
      have q := fresh_default (c := N0.m.cls) tB
      rw [htB] at q
      simpa [preparedCellV, Cell.setSlot, Cell.withEntry, Array.getElem?_setIfInBounds, bC, bS, bP, bC.symm, bS.symm, bP.symm, defaultValue] using q, fun _ _ => rfl⟩
  -- the call, the constructors, the throw
  obtain ⟨tm, mC, cdC, kC, vm₁, hnT, -, -, -, -, -, -, -, hW₁, st1⟩ := Steps.initColdS (tb := p.tables) (e := e) (below := below) (s := s) (U := W0) X.here hexec X.warmed k3 hown (t := Bundle.initS vnN) rfl rfl ⟨by decide +kernel, by decide +kernel⟩
    (wd (.methodLink "Meniscus" 72 (Bundle.initS vnN)) (by decide +kernel)) (h (.instanceMethod (Bundle.initS vnN)) (by decide +kernel)) (bytes := vnB) (maxL := 2) (h (.code (Bundle.initS vnN) vnB 2 none) (by decide +kernel)) (f := g) hg (a := a) (msg := msg) (rest := .ref a :: rest) hstack hd6
  cases Option.some.inj (hnT.symm.trans hN0)
  have X₁ := X.noted hW₁
  obtain ⟨vm₂, X₂, st2⟩ := X₁.ctorMessageOffV hexec (g := { g with stack := .ref a :: rest }) hg hsize T L Z LZ M LM (N0 :: P1 :: Ps)
    (fun P hP => by
      rcases List.mem_cons.mp hP with rfl | hP
      · exact LN
      · rcases List.mem_cons.mp hP with rfl | hP
        · exact L1
        · exact hL P hP) ⟨hN1, hl1, hl2⟩ (u0 := u0) (sen := sen) (self := a) hmsg (cell := freshCell N0.m.cls kX) (cellS := cS)
    hcell (fun _ => by simp) (by simp) rfl rfl sel0 selF hcS' hneS hkS (by rw [hkeep _ (hnl _)]; exact hu0) (by rw [hkeep _ (hnl _)]; exact hsen)
    (Takes.of_laid hk hord tC (by rw [Y.causeType]; rfl)) (Takes.of_laid hk hord tS (by rw [Y.stackType]; exact fits_refV_array _ u0)) (Takes.of_laid hk hord tP (by rw [Y.suppType]; exact fits_refV_object _ sen))
    (Takes.of_laid hk hord tM (by rw [Y.msgType]; exact fits_refV_object _ ⟨msg, hmsg⟩)) Y.objLocals hskip htr [] hd6 (by simp only [List.length_cons, hlen, List.length_nil]; omega) (by simp only [List.length_cons, hlen, List.length_nil]; exact hRl)
  obtain ⟨hwalk, hrun, hended, hWU, hsame⟩ := X₂.athrowLeaves hexec (g := { g with stack := .ref a :: rest, pc := g.pc + 3 }) hg hlocked hentered hout (a := a) (rest := rest) rfl hd9 hlocks
  have hlt : a < ((W0.setVm vm₁).setVm vm₂).heap.size := (Array.getElem?_eq_some_iff.mp hcell).1
  have hU := heapAt_setCell_self (s := (W0.setVm vm₁).setVm vm₂) (plainBareV T.toThrowableT (freshCell N0.m.cls kX) a u0 sen msg) hlt
  refine ⟨_, st1 _ (fun acts => ?_), hrun, hended, hWU, hsame.weaken (fun y hy hlt' => ?_) (Nat.le_refl _) (Nat.le_refl _), _, hU, rfl, hfN⟩
  · rw [doInvoke_state]
    exact st2 _ hwalk
  · rcases List.mem_append.mp hy with q | q
    · exact q
    · exfalso
      have hb : y.base = a := by
        simp only [List.mem_cons, List.not_mem_nil, or_false] at q
        rcases q with rfl | rfl | rfl | rfl | rfl <;> rfl
      rw [hb] at hlt'
      exact Nat.not_lt.mpr hnew hlt'
end NSE
section NSET
variable {p : Program} {l : Launch} {e : Env} {R : Room} {s : State} {m : MethodId} {args : Array Value} {below : List Frame} {meth : Method} {c : Code} {H : Heap} {locs : List Loc} {cells slots : Nat} {Q : State → Prop}
variable {mc ms : Nat} {free : Addr → Prop} {A0 A1 : Nat → Prop} {H0 : Heap} {a : Array Value} {ls : Array Slot} {st0 rest : List Value}
variable {Qc : Array Value → State → Outcome → State → Prop} {XC : String → State → State → Prop}
theorem vn_throwS {cc : ByteArray} {pc : Nat} (hexec : p.tables.exec = Jvm.exec) (hb : c.code = cc) (hl : l.stackTraces = false) {text : String} {ik is mc ms sa : Nat} {A : Nat → Prop}
    (hown : s.vm.findClass "Meniscus" = some m.cls)
    (hk : (Cond.classLink "Meniscus" ik vnN).before args s = true) (hini : (Cond.initialized vnN).before args s = true) (hstr : vk_R "Meniscus" is text sa s) (hat : ∀ w ∈ vn_at, w.before args s = true)
    (hgood : ∀ w ∈ Cond.classLink "Meniscus" ik vnN :: Cond.initialized vnN :: vn_at, vx_ot w = true)
    (hU : vx_Zq Bundle.tN "UNASSIGNED_STACK" Bundle.steD A s s.heap) (hN : vx_Zq Bundle.tN "SUPPRESSED_SENTINEL" Bundle.listD A s s.heap) (hS : va_S A s.heap H locs) (hsize : ls.size = c.maxLocals)
    (d0 : decode cc pc = .ok (.new ik, 3)) (d3 : decode cc (pc + 3) = .ok (.dup, 1)) (d4 : decode cc (pc + 4) = .ok (.ldc is, 2)) (d6 : decode cc (pc + 6) = .ok (.invokespecial 72, 3)) (d9 : decode cc (pc + 9) = .ok (.athrow, 1))
    (hout : ∀ x ∈ c.exceptionTable.toList, covers x (pc + 9) = false)
    (hRframes : 2 + 3 < R.frames) (hRlocals : (rest.map fun v => v.category).sum + (13 * (2 + 1) + 43) ≤ R.locals) (hRcells : cells + 1 ≤ R.cells) (hRslots : slots + 6 ≤ R.slots) (hlocks : meth.locks = false)
    (hx : ∀ t : State, s.vm.Alike t.vm → H.size ≤ t.heap.size → (∀ q : Nat, q < H.size → t.heap[q]? = H[q]?) → XC vnN s t)
    (hf : ∀ z ∈ locs, free z.base) (hc : cells + 1 ≤ mc) (hs : slots + 6 ≤ ms) :
    W p l e R s m args below meth c H locs cells slots (vx_MQ below Qc XC args s mc ms free) (F0 m pc ls rest) := by
  intro T hT X
  have htr : e.platform.stackTraces = false := (show e.platform.stackTraces = l.stackTraces by rw [X.admits.platform]).trans hl
  have Y := vx_rebase X (R' := { frames := R.frames, locals := R.locals, cells := 1, slots := 6 }) (Nat.le_refl _) (Nat.le_refl _) hRcells hRslots
  obtain ⟨s', hA⟩ : ∃ z, z = (T.setVm s.vm).setFrames (.invoking m args :: below) := ⟨_, rfl⟩
  rw [← hA] at Y
  have hvm : s'.vm = s.vm := by rw [hA]; rfl
  have hhp : s'.heap = H := by rw [hA]; exact hT
  have hW0 : s.WarmedH s'.vm := by rw [hvm]; exact State.WarmedH.refl s
  have hat' : ∀ w ∈ vn_at, w.before args s' = true := fun w hw => vx_ot_at hW0 hvm.symm (hgood w (List.mem_cons_of_mem _ (List.mem_cons_of_mem _ hw))) (hat w hw)
  have hk' : (Cond.classLink "Meniscus" ik vnN).before args s' = true := vx_ot_at hW0 hvm.symm (hgood _ List.mem_cons_self) hk
  have hini' : (Cond.initialized vnN).before args s' = true := vx_ot_at hW0 hvm.symm (hgood _ (List.mem_cons_of_mem _ List.mem_cons_self)) hini
  have hU' : vx_Zq Bundle.tN "UNASSIGNED_STACK" Bundle.steD A s' s'.heap := by rw [hhp]; exact vx_Zq.moved hW0.alike (hU.kept hS.2.1)
  have hN' : vx_Zq Bundle.tN "SUPPRESSED_SENTINEL" Bundle.listD A s' s'.heap := by rw [hhp]; exact vx_Zq.moved hW0.alike (hN.kept hS.2.1)
  have h : ∀ w ∈ vn_all, w.before args s' = true := vx_own hat' (vx_isRefq hU'.1) (vx_isRefq hN'.1) hU'.2.word hN'.2.word
  have hown' : s'.vm.findClass "Meniscus" = some m.cls := by rw [hvm]; exact hown
  have hins : (Cond.instantiable vnN 6).before args s' = true := h _ (by decide +kernel)
  obtain ⟨vm₁, cX, kX, hfX, hkX, -, -, X₁, st1⟩ := Y.newCold hexec (own := "Meniscus") (C := vnN) (index := ik) (n := 6) hown' hk' hins hini'
    (g := F0 m pc ls rest) rfl (by rw [hb]; exact d0) (Nat.le_refl _) (Nat.le_refl _)
  generalize hT1 : (T.setVm vm₁).pushCell { cls := cX, slots := kX.instanceTypes.map defaultValue, vm := .none } = T1 at X₁ st1
  have hcat : (Value.ref T.heap.size).category = 1 := rfl
  have hcellA : T1.heap[T.heap.size]? = some (freshCell cX kX) := by rw [← hT1]; exact State.heap_pushCell_size _ _
  have d3' : decode c.code (pc + 3) = .ok (.dup, 1) := by rw [hb]; exact d3
  have d4' : decode c.code (pc + 4) = .ok (.ldc is, 2) := by rw [hb]; exact d4
  have hstr' : vk_R "Meniscus" is text sa s' := vk_R.warm hW0 hstr
  obtain ⟨U, hsteps, hrun, hend, hW, hsame, ce, hce, hv9, hc9⟩ := vn_ctor X₁ hexec htr hown' h (fun x hx => nomatch hx) hfX hkX hcellA (by rw [hhp, hT]; exact Nat.le_refl _) (msg := .ref sa) rfl
    (g := { method := m, pc := pc + 6, locals := ls, stack := .ref sa :: .ref T.heap.size :: .ref T.heap.size :: rest, locked := none }) rfl hsize rfl rfl (rest := rest) rfl
    (by rw [hb]; exact d6) (by rw [hb]; exact d9) hout hRframes (by simp only [List.map_cons, List.sum_cons, hcat]; omega) hlocks
  obtain ⟨f1, f2⟩ := vx_frame hsame
  rw [hhp] at f1 f2
  have hWs : s.WarmedH U.vm := State.WarmedH.trans hW0 hW
  have hcl : s.vm.findClass vnN = some ce.cls := by
    have h9 := hc9
    rw [hvm] at h9
    exact h9
  have hall : s.sameButNew ({ U with vm := s.vm } : State) locs mc ms := by
    subst hA
    obtain ⟨e1, e2⟩ := hsame
    rw [State.setFrames_setFrames] at e1
    have h2 : (T.setVm s.vm).sameButNew ({ U with vm := s.vm } : State) [] (0 + 1) (0 + 6) := ⟨e1, e2⟩
    have h3 := X.same.trans h2
    rw [List.append_nil] at h3
    exact h3.mono hc hs
  refine ⟨U, ?_, .threw T.heap.size, hrun, hend, Or.inr ⟨T.heap.size, rfl, vnN, ce, locs, hx U hWs.alike f1 (fun q hq => f2 q hq (fun z hz => nomatch hz)), hce, hv9, hcl, hWs, hall, hf⟩⟩
  refine st1 _ ?_
  show Steps p.tables e below (T1.setTop { method := m, pc := pc + 3, locals := ls, stack := .ref T.heap.size :: rest, locked := none }) _
  jvm_step X₁.here [X₁.here.top, hexec, d3', Value.category]
  exact X₁.ldcString hexec (own := "Meniscus") (text := text) (index := is) (a := sa) hown' hstr'.1 hstr'.2
    (g := { method := m, pc := pc + 4, locals := ls, stack := .ref T.heap.size :: .ref T.heap.size :: rest, locked := none }) rfl d4' _ hsteps
theorem vn_throwSW {cc : ByteArray} {pc : Nat} (hexec : p.tables.exec = Jvm.exec) (hb : c.code = cc) (hl : l.stackTraces = false) {text : String} {ik is mc ms sa : Nat} {A : Nat → Prop}
    (hown : s.vm.findClass "Meniscus" = some m.cls)
    (hk : (Cond.classLink "Meniscus" ik vnN).before args s = true) (hini : (Cond.initialized vnN).before args s = true) (hstr : vk_R "Meniscus" is text sa s) (hat : ∀ w ∈ vn_at, w.before args s = true)
    (hgood : ∀ w ∈ Cond.classLink "Meniscus" ik vnN :: Cond.initialized vnN :: vn_at, vx_ot w = true)
    (hU : vx_Zq Bundle.tN "UNASSIGNED_STACK" Bundle.steD A s s.heap) (hN : vx_Zq Bundle.tN "SUPPRESSED_SENTINEL" Bundle.listD A s s.heap) (hS : va_S A s.heap H locs) (hsize : ls.size = c.maxLocals)
    (d0 : decode cc pc = .ok (.new ik, 3)) (d3 : decode cc (pc + 3) = .ok (.dup, 1)) (d4 : decode cc (pc + 4) = .ok (.ldc_w is, 3)) (d7 : decode cc (pc + 7) = .ok (.invokespecial 72, 3)) (d10 : decode cc (pc + 10) = .ok (.athrow, 1))
    (hout : ∀ x ∈ c.exceptionTable.toList, covers x (pc + 10) = false)
    (hRframes : 2 + 3 < R.frames) (hRlocals : (rest.map fun v => v.category).sum + (13 * (2 + 1) + 43) ≤ R.locals) (hRcells : cells + 1 ≤ R.cells) (hRslots : slots + 6 ≤ R.slots) (hlocks : meth.locks = false)
    (hx : ∀ t : State, s.vm.Alike t.vm → H.size ≤ t.heap.size → (∀ q : Nat, q < H.size → t.heap[q]? = H[q]?) → XC vnN s t)
    (hf : ∀ z ∈ locs, free z.base) (hc : cells + 1 ≤ mc) (hs : slots + 6 ≤ ms) :
    W p l e R s m args below meth c H locs cells slots (vx_MQ below Qc XC args s mc ms free) (F0 m pc ls rest) := by
  intro T hT X
  have htr : e.platform.stackTraces = false := (show e.platform.stackTraces = l.stackTraces by rw [X.admits.platform]).trans hl
  have Y := vx_rebase X (R' := { frames := R.frames, locals := R.locals, cells := 1, slots := 6 }) (Nat.le_refl _) (Nat.le_refl _) hRcells hRslots
  obtain ⟨s', hA⟩ : ∃ z, z = (T.setVm s.vm).setFrames (.invoking m args :: below) := ⟨_, rfl⟩
  rw [← hA] at Y
  have hvm : s'.vm = s.vm := by rw [hA]; rfl
  have hhp : s'.heap = H := by rw [hA]; exact hT
  have hW0 : s.WarmedH s'.vm := by rw [hvm]; exact State.WarmedH.refl s
  have hat' : ∀ w ∈ vn_at, w.before args s' = true := fun w hw => vx_ot_at hW0 hvm.symm (hgood w (List.mem_cons_of_mem _ (List.mem_cons_of_mem _ hw))) (hat w hw)
  have hk' : (Cond.classLink "Meniscus" ik vnN).before args s' = true := vx_ot_at hW0 hvm.symm (hgood _ List.mem_cons_self) hk
  have hini' : (Cond.initialized vnN).before args s' = true := vx_ot_at hW0 hvm.symm (hgood _ (List.mem_cons_of_mem _ List.mem_cons_self)) hini
  have hU' : vx_Zq Bundle.tN "UNASSIGNED_STACK" Bundle.steD A s' s'.heap := by rw [hhp]; exact vx_Zq.moved hW0.alike (hU.kept hS.2.1)
  have hN' : vx_Zq Bundle.tN "SUPPRESSED_SENTINEL" Bundle.listD A s' s'.heap := by rw [hhp]; exact vx_Zq.moved hW0.alike (hN.kept hS.2.1)
  have h : ∀ w ∈ vn_all, w.before args s' = true := vx_own hat' (vx_isRefq hU'.1) (vx_isRefq hN'.1) hU'.2.word hN'.2.word
  have hown' : s'.vm.findClass "Meniscus" = some m.cls := by rw [hvm]; exact hown
  have hins : (Cond.instantiable vnN 6).before args s' = true := h _ (by decide +kernel)
  obtain ⟨vm₁, cX, kX, hfX, hkX, -, -, X₁, st1⟩ := Y.newCold hexec (own := "Meniscus") (C := vnN) (index := ik) (n := 6) hown' hk' hins hini'
    (g := F0 m pc ls rest) rfl (by rw [hb]; exact d0) (Nat.le_refl _) (Nat.le_refl _)
  generalize hT1 : (T.setVm vm₁).pushCell { cls := cX, slots := kX.instanceTypes.map defaultValue, vm := .none } = T1 at X₁ st1
  have hcat : (Value.ref T.heap.size).category = 1 := rfl
  have hcellA : T1.heap[T.heap.size]? = some (freshCell cX kX) := by rw [← hT1]; exact State.heap_pushCell_size _ _
  have d3' : decode c.code (pc + 3) = .ok (.dup, 1) := by rw [hb]; exact d3
  have d4' : decode c.code (pc + 4) = .ok (.ldc_w is, 3) := by rw [hb]; exact d4
  have hstr' : vk_R "Meniscus" is text sa s' := vk_R.warm hW0 hstr
  obtain ⟨U, hsteps, hrun, hend, hW, hsame, ce, hce, hv9, hc9⟩ := vn_ctor X₁ hexec htr hown' h (fun x hx => nomatch hx) hfX hkX hcellA (by rw [hhp, hT]; exact Nat.le_refl _) (msg := .ref sa) rfl
    (g := { method := m, pc := pc + 7, locals := ls, stack := .ref sa :: .ref T.heap.size :: .ref T.heap.size :: rest, locked := none }) rfl hsize rfl rfl (rest := rest) rfl
    (by rw [hb]; exact d7) (by rw [hb]; exact d10) hout hRframes (by simp only [List.map_cons, List.sum_cons, hcat]; omega) hlocks
  obtain ⟨f1, f2⟩ := vx_frame hsame
  rw [hhp] at f1 f2
  have hWs : s.WarmedH U.vm := State.WarmedH.trans hW0 hW
  have hcl : s.vm.findClass vnN = some ce.cls := by
    have h9 := hc9
    rw [hvm] at h9
    exact h9
  have hall : s.sameButNew ({ U with vm := s.vm } : State) locs mc ms := by
    subst hA
    obtain ⟨e1, e2⟩ := hsame
    rw [State.setFrames_setFrames] at e1
    have h2 : (T.setVm s.vm).sameButNew ({ U with vm := s.vm } : State) [] (0 + 1) (0 + 6) := ⟨e1, e2⟩
    have h3 := X.same.trans h2
    rw [List.append_nil] at h3
    exact h3.mono hc hs
  refine ⟨U, ?_, .threw T.heap.size, hrun, hend, Or.inr ⟨T.heap.size, rfl, vnN, ce, locs, hx U hWs.alike f1 (fun q hq => f2 q hq (fun z hz => nomatch hz)), hce, hv9, hcl, hWs, hall, hf⟩⟩
  refine st1 _ ?_
  show Steps p.tables e below (T1.setTop { method := m, pc := pc + 3, locals := ls, stack := .ref T.heap.size :: rest, locked := none }) _
  jvm_step X₁.here [X₁.here.top, hexec, d3', Value.category]
  exact X₁.ldcStringW hexec (own := "Meniscus") (text := text) (index := is) (a := sa) hown' hstr'.1 hstr'.2
    (g := { method := m, pc := pc + 4, locals := ls, stack := .ref T.heap.size :: .ref T.heap.size :: rest, locked := none }) rfl d4' _ hsteps
end NSET
end
section
/-! ===== BEGIN printed: names, fields, word lists, decode rows ===== -/
def RX0 : String := "Meniscus$Instrument"
def TX0 : u_T := fun k => match k with
  | 0 => ("Meniscus$Instrument", "tubeNumber", "I", true)
  | 1 => ("Meniscus$Instrument", "tube", "LMeniscus$Tube;", true)
  | 2 => ("Meniscus$Instrument", "bulb", "I", true)
  | 3 => ("Meniscus$Instrument", "glass", "C", true)
  | 4 => ("Meniscus$Instrument", "scale", "LMeniscus$Scale;", true)
  | 5 => ("Meniscus$Instrument", "readings", "LMeniscus$Readings;", true)
  | 6 => ("Meniscus$Instrument", "crept", "I", false)
  | 7 => ("Meniscus$Instrument", "filled", "Z", false)
  | 8 => ("Meniscus$Instrument", "smashed", "Z", false)
  | 9 => ("Meniscus$Instrument", "liquid", "C", false)
  | 10 => ("Meniscus$Instrument", "inside", "I", false)
  | 11 => ("Meniscus$Instrument", "gap", "I", false)
  | 12 => ("Meniscus$Instrument", "keeper", "Z", false)
  | 13 => ("Meniscus$Instrument", "greatestLevel", "I", false)
  | _ => ("Meniscus$Instrument", "certificateEnd", "I", false)
def tyX0 : Nat → FieldType := fun k => match k with
  | 0 => .int
  | 1 => .object "Meniscus$Tube"
  | 2 => .int
  | 3 => .char
  | 4 => .object "Meniscus$Scale"
  | 5 => .object "Meniscus$Readings"
  | 6 => .int
  | 7 => .boolean
  | 8 => .boolean
  | 9 => .char
  | 10 => .int
  | 11 => .int
  | 12 => .boolean
  | 13 => .int
  | _ => .int
abbrev wsX00 : List Cond := u_ws RX0 TX0 15
theorem nmX0 : ∀ a, a < 15 → ∀ b, b < 15 → a ≠ b → (TX0 a).2.1 ≠ (TX0 b).2.1 := by decide +kernel
theorem tyX0_ok : ∀ k, k < 15 → parseFieldDescriptor (TX0 k).2.2.1 = some (tyX0 k) := by decide +kernel
abbrev cX0_init : ByteArray := prog_2_method_1_code
def yX0_init : MethodName := ⟨RX0, "<init>", "(ILMeniscus$Tube;IC)V"⟩
abbrev cX0_creepsInAll : ByteArray := prog_2_method_2_code
def yX0_creepsInAll : MethodName := ⟨RX0, "creepsInAll", "()I"⟩
abbrev cX0_mercuryInside : ByteArray := prog_2_method_7_code
def yX0_mercuryInside : MethodName := ⟨RX0, "mercuryInside", "()I"⟩
abbrev cX0_isInBounds : ByteArray := prog_2_method_16_code
def yX0_isInBounds : MethodName := ⟨RX0, "isInBounds", "()Z"⟩
def RX1 : String := "Meniscus$Readings"
def TX1 : u_T := fun k => match k with
  | 0 => ("Meniscus$Readings", "values", "[I", true)
  | 1 => ("Meniscus$Readings", "errors", "[I", true)
  | _ => ("Meniscus$Readings", "count", "I", false)
def tyX1 : Nat → FieldType := fun k => match k with
  | 0 => .array .int
  | 1 => .array .int
  | _ => .int
abbrev wsX10 : List Cond := u_ws RX1 TX1 3
theorem nmX1 : ∀ a, a < 3 → ∀ b, b < 3 → a ≠ b → (TX1 a).2.1 ≠ (TX1 b).2.1 := by decide +kernel
theorem tyX1_ok : ∀ k, k < 3 → parseFieldDescriptor (TX1 k).2.2.1 = some (tyX1 k) := by decide +kernel
abbrev cX1_init : ByteArray := prog_3_method_1_code
def yX1_init : MethodName := ⟨RX1, "<init>", "()V"⟩
def RX2 : String := "Meniscus$Scale"
def TX2 : u_T := fun k => match k with
  | 0 => ("Meniscus$Scale", "tube", "LMeniscus$Tube;", true)
  | 1 => ("Meniscus$Scale", "icePlace", "I", false)
  | 2 => ("Meniscus$Scale", "steamPlace", "I", false)
  | 3 => ("Meniscus$Scale", "steamTemperature", "I", false)
  | _ => ("Meniscus$Scale", "kind", "C", false)
def tyX2 : Nat → FieldType := fun k => match k with
  | 0 => .object "Meniscus$Tube"
  | 1 => .int
  | 2 => .int
  | 3 => .int
  | _ => .char
abbrev wsX20 : List Cond := u_ws RX2 TX2 5
theorem nmX2 : ∀ a, a < 5 → ∀ b, b < 5 → a ≠ b → (TX2 a).2.1 ≠ (TX2 b).2.1 := by decide +kernel
theorem tyX2_ok : ∀ k, k < 5 → parseFieldDescriptor (TX2 k).2.2.1 = some (tyX2 k) := by decide +kernel
abbrev cX2_init : ByteArray := prog_4_method_1_code
def yX2_init : MethodName := ⟨RX2, "<init>", "(LMeniscus$Tube;)V"⟩
def RX3 : String := "Meniscus$Tube"
def TX3 : u_T := fun k => match k with
  | 0 => ("Meniscus$Tube", "bores", "[I", true)
  | _ => ("Meniscus$Tube", "used", "Z", false)
def tyX3 : Nat → FieldType := fun k => match k with
  | 0 => .array .int
  | _ => .boolean
abbrev wsX30 : List Cond := u_ws RX3 TX3 2
theorem nmX3 : ∀ a, a < 2 → ∀ b, b < 2 → a ≠ b → (TX3 a).2.1 ≠ (TX3 b).2.1 := by decide +kernel
theorem tyX3_ok : ∀ k, k < 2 → parseFieldDescriptor (TX3 k).2.2.1 = some (tyX3 k) := by decide +kernel
abbrev cX3_init : ByteArray := prog_5_method_1_code
def yX3_init : MethodName := ⟨RX3, "<init>", "(II)V"⟩
abbrev cX3_boreOf : ByteArray := prog_5_method_2_code
def yX3_boreOf : MethodName := ⟨RX3, "boreOf", "(I)I"⟩
abbrev cX3_setBore : ByteArray := prog_5_method_3_code
def yX3_setBore : MethodName := ⟨RX3, "setBore", "(II)V"⟩
abbrev cX3_volumeUpTo : ByteArray := prog_5_method_4_code
def yX3_volumeUpTo : MethodName := ⟨RX3, "volumeUpTo", "(I)I"⟩
abbrev cX3_firstPlaceHolding : ByteArray := prog_5_method_5_code
def yX3_firstPlaceHolding : MethodName := ⟨RX3, "firstPlaceHolding", "(I)I"⟩
abbrev cX3_widestSection : ByteArray := prog_5_method_7_code
def yX3_widestSection : MethodName := ⟨RX3, "widestSection", "()I"⟩
abbrev cX3_clinging : ByteArray := prog_5_method_8_code
def yX3_clinging : MethodName := ⟨RX3, "clinging", "(III)I"⟩
abbrev cX3_stepsBelow : ByteArray := prog_5_method_9_code
def yX3_stepsBelow : MethodName := ⟨RX3, "stepsBelow", "(II)I"⟩
def RX4 : String := "Meniscus"
def TX4 : u_T := fun k => match k with
  | 0 => ("Meniscus", "tubes", "[LMeniscus$Tube;", true)
  | 1 => ("Meniscus", "instruments", "[LMeniscus$Instrument;", true)
  | 2 => ("Meniscus", "tubeCount", "I", false)
  | 3 => ("Meniscus", "instrumentCount", "I", false)
  | 4 => ("Meniscus", "airTemperature", "I", false)
  | 5 => ("Meniscus", "day", "I", false)
  | 6 => ("Meniscus", "stock", "I", false)
  | 7 => ("Meniscus", "spilt", "I", false)
  | _ => ("Meniscus", "bought", "I", false)
def tyX4 : Nat → FieldType := fun k => match k with
  | 0 => .array (.object "Meniscus$Tube")
  | 1 => .array (.object "Meniscus$Instrument")
  | 2 => .int
  | 3 => .int
  | 4 => .int
  | 5 => .int
  | 6 => .int
  | 7 => .int
  | _ => .int
abbrev wsX40 : List Cond := u_ws RX4 TX4 9
theorem nmX4 : ∀ a, a < 9 → ∀ b, b < 9 → a ≠ b → (TX4 a).2.1 ≠ (TX4 b).2.1 := by decide +kernel
theorem tyX4_ok : ∀ k, k < 9 → parseFieldDescriptor (TX4 k).2.2.1 = some (tyX4 k) := by decide +kernel
abbrev cX4_init : ByteArray := prog_1_method_1_code
def yX4_init : MethodName := ⟨RX4, "<init>", "()V"⟩
abbrev cX4_draw : ByteArray := prog_1_method_2_code
def yX4_draw : MethodName := ⟨RX4, "draw", "(II)I"⟩
abbrev cX4_section : ByteArray := prog_1_method_3_code
def yX4_section : MethodName := ⟨RX4, "section", "(III)I"⟩
abbrev cX4_bore : ByteArray := prog_1_method_4_code
def yX4_bore : MethodName := ⟨RX4, "bore", "(II)I"⟩
abbrev cX4_volume : ByteArray := prog_1_method_5_code
def yX4_volume : MethodName := ⟨RX4, "volume", "(II)I"⟩
abbrev cX4_thread : ByteArray := prog_1_method_6_code
def yX4_thread : MethodName := ⟨RX4, "thread", "(III)I"⟩
abbrev cX4_widest : ByteArray := prog_1_method_7_code
def yX4_widest : MethodName := ⟨RX4, "widest", "(I)I"⟩
abbrev cX4_deliver : ByteArray := prog_1_method_8_code
def yX4_deliver : MethodName := ⟨RX4, "deliver", "(IIII)I"⟩
abbrev cX4_make : ByteArray := prog_1_method_9_code
def yX4_make : MethodName := ⟨RX4, "make", "(IIC)I"⟩
abbrev cX4_boiling : ByteArray := prog_1_method_20_code
def yX4_boiling : MethodName := ⟨RX4, "boiling", "(I)I"⟩
abbrev cX4_barometer : ByteArray := prog_1_method_35_code
def yX4_barometer : MethodName := ⟨RX4, "barometer", "(IIII)I"⟩
abbrev cX4_isSound : ByteArray := prog_1_method_41_code
def yX4_isSound : MethodName := ⟨RX4, "isSound", "()Z"⟩
abbrev cX4_instrumentsOfTube : ByteArray := prog_1_method_42_code
def yX4_instrumentsOfTube : MethodName := ⟨RX4, "instrumentsOfTube", "(I)I"⟩
abbrev cX4_tubeNumbered : ByteArray := prog_1_method_43_code
def yX4_tubeNumbered : MethodName := ⟨RX4, "tubeNumbered", "(I)LMeniscus$Tube;"⟩
abbrev cX4_demandRange : ByteArray := prog_1_method_47_code
def yX4_demandRange : MethodName := ⟨RX4, "demandRange", "(III)V"⟩
abbrev cX4_demandPlace : ByteArray := prog_1_method_48_code
def yX4_demandPlace : MethodName := ⟨RX4, "demandPlace", "(I)V"⟩
abbrev cX4_demandPressure : ByteArray := prog_1_method_50_code
def yX4_demandPressure : MethodName := ⟨RX4, "demandPressure", "(I)V"⟩
abbrev cX4_demandEither : ByteArray := prog_1_method_51_code
def yX4_demandEither : MethodName := ⟨RX4, "demandEither", "(CCC)V"⟩
abbrev cX4_demandUnused : ByteArray := prog_1_method_52_code
def yX4_demandUnused : MethodName := ⟨RX4, "demandUnused", "(LMeniscus$Tube;)V"⟩
abbrev cX4_steamAt : ByteArray := prog_1_method_57_code
def yX4_steamAt : MethodName := ⟨RX4, "steamAt", "(I)I"⟩
abbrev cX4_clingingToStep : ByteArray := prog_1_method_58_code
def yX4_clingingToStep : MethodName := ⟨RX4, "clingingToStep", "(I)I"⟩
def RX5 : String := "MeniscusModel$Instrument"
def TX5 : u_T := fun k => match k with
  | _ => ("", "", "", false)
def tyX5 : Nat → FieldType := fun k => match k with
  | _ => .int
abbrev wsX50 : List Cond := u_ws RX5 TX5 0
theorem nmX5 : ∀ a, a < 0 → ∀ b, b < 0 → a ≠ b → (TX5 a).2.1 ≠ (TX5 b).2.1 := by decide +kernel
theorem tyX5_ok : ∀ k, k < 0 → parseFieldDescriptor (TX5 k).2.2.1 = some (tyX5 k) := by decide +kernel
def RX6 : String := "MeniscusModel$Tube"
def TX6 : u_T := fun k => match k with
  | _ => ("", "", "", false)
def tyX6 : Nat → FieldType := fun k => match k with
  | _ => .int
abbrev wsX60 : List Cond := u_ws RX6 TX6 0
theorem nmX6 : ∀ a, a < 0 → ∀ b, b < 0 → a ≠ b → (TX6 a).2.1 ≠ (TX6 b).2.1 := by decide +kernel
theorem tyX6_ok : ∀ k, k < 0 → parseFieldDescriptor (TX6 k).2.2.1 = some (tyX6 k) := by decide +kernel
def RX7 : String := "MeniscusModel"
def TX7 : u_T := fun k => match k with
  | _ => ("", "", "", false)
def tyX7 : Nat → FieldType := fun k => match k with
  | _ => .int
abbrev wsX70 : List Cond := u_ws RX7 TX7 0
theorem nmX7 : ∀ a, a < 0 → ∀ b, b < 0 → a ≠ b → (TX7 a).2.1 ≠ (TX7 b).2.1 := by decide +kernel
theorem tyX7_ok : ∀ k, k < 0 → parseFieldDescriptor (TX7 k).2.2.1 = some (tyX7 k) := by decide +kernel
def RJx145de : String := "java/io/Serializable"
def TJx145de : u_T := fun k => match k with
  | _ => ("", "", "", false)
def tyJx145de : Nat → FieldType := fun k => match k with
  | _ => .int
abbrev wsJx145de0 : List Cond := u_ws RJx145de TJx145de 0
theorem nmJx145de : ∀ a, a < 0 → ∀ b, b < 0 → a ≠ b → (TJx145de a).2.1 ≠ (TJx145de b).2.1 := by decide +kernel
theorem tyJx145de_ok : ∀ k, k < 0 → parseFieldDescriptor (TJx145de k).2.2.1 = some (tyJx145de k) := by decide +kernel
def RJ9 : String := "java/lang/Math"
def TJ9 : u_T := fun k => match k with
  | _ => ("", "", "", false)
def tyJ9 : Nat → FieldType := fun k => match k with
  | _ => .int
abbrev wsJ90 : List Cond := u_ws RJ9 TJ9 0
theorem nmJ9 : ∀ a, a < 0 → ∀ b, b < 0 → a ≠ b → (TJ9 a).2.1 ≠ (TJ9 b).2.1 := by decide +kernel
theorem tyJ9_ok : ∀ k, k < 0 → parseFieldDescriptor (TJ9 k).2.2.1 = some (tyJ9 k) := by decide +kernel
abbrev cJ9_max_7cf53 : ByteArray := prog_15_method_65_code
def yJ9_max_7cf53 : MethodName := ⟨RJ9, "max", "(II)I"⟩
abbrev cJ9_min_7cf53 : ByteArray := prog_15_method_69_code
def yJ9_min_7cf53 : MethodName := ⟨RJ9, "min", "(II)I"⟩
def RJ0 : String := "java/lang/String"
def TJ0 : u_T := fun k => match k with
  | _ => ("", "", "", false)
def tyJ0 : Nat → FieldType := fun k => match k with
  | _ => .int
abbrev wsJ00 : List Cond := u_ws RJ0 TJ0 0
theorem nmJ0 : ∀ a, a < 0 → ∀ b, b < 0 → a ≠ b → (TJ0 a).2.1 ≠ (TJ0 b).2.1 := by decide +kernel
theorem tyJ0_ok : ∀ k, k < 0 → parseFieldDescriptor (TJ0 k).2.2.1 = some (tyJ0 k) := by decide +kernel
def RL : String := "MeniscusLaw"
abbrev cL_cell : ByteArray := method_2_code
def yL_cell : MethodName := ⟨RL, "cell", "([II)I"⟩
abbrev cL_draw : ByteArray := method_3_code
def yL_draw : MethodName := ⟨RL, "draw", "(LMeniscus;II)I"⟩
abbrev cL_section : ByteArray := method_4_code
def yL_section : MethodName := ⟨RL, "section", "(LMeniscus;III)I"⟩
abbrev cL_bore : ByteArray := method_5_code
def yL_bore : MethodName := ⟨RL, "bore", "(LMeniscus;II)I"⟩
abbrev cL_volume : ByteArray := method_6_code
def yL_volume : MethodName := ⟨RL, "volume", "(LMeniscus;II)I"⟩
abbrev cL_thread : ByteArray := method_7_code
def yL_thread : MethodName := ⟨RL, "thread", "(LMeniscus;III)I"⟩
abbrev cL_widest : ByteArray := method_8_code
def yL_widest : MethodName := ⟨RL, "widest", "(LMeniscus;I)I"⟩
abbrev cL_deliver : ByteArray := method_9_code
def yL_deliver : MethodName := ⟨RL, "deliver", "(LMeniscus;IIII)I"⟩
abbrev cL_make : ByteArray := method_10_code
def yL_make : MethodName := ⟨RL, "make", "(LMeniscus;IIC)I"⟩
abbrev cL_boiling : ByteArray := method_11_code
def yL_boiling : MethodName := ⟨RL, "boiling", "(LMeniscus;I)I"⟩
abbrev cL_barometer : ByteArray := method_12_code
def yL_barometer : MethodName := ⟨RL, "barometer", "(LMeniscus;IIII)I"⟩
abbrev cL_in : ByteArray := method_13_code
def yL_in : MethodName := ⟨RL, "in", "([III)I"⟩
abbrev cL_law : ByteArray := code
def yL_law : MethodName := ⟨RL, "law", "([I)Z"⟩
def wsX1_init : List Cond := .code yX1_init cX1_init 1 none :: ([.methodLink RX1 3 objectInit, .instanceMethod objectInit, .code objectInit ⟨#[0xb1]⟩ 1 none, .arrayClass .int, .fieldLink RX1 9 "Meniscus$Readings" "values" "[I", .fieldLink RX1 15 "Meniscus$Readings" "errors" "[I"] ++ wsX10)
def wsX2_init : List Cond := .code yX2_init cX2_init 2 none :: ([.methodLink RX2 3 objectInit, .instanceMethod objectInit, .code objectInit ⟨#[0xb1]⟩ 1 none, .fieldLink RX2 9 "Meniscus$Scale" "icePlace" "I", .fieldLink RX2 15 "Meniscus$Scale" "steamPlace" "I", .fieldLink RX2 18 "Meniscus$Scale" "kind" "C", .fieldLink RX2 22 "Meniscus$Scale" "tube" "LMeniscus$Tube;"] ++ wsX20)
def wsX0_init_r1 : List Cond := [Cond.methodLink RX0 3 objectInit, Cond.instanceMethod objectInit, Cond.code objectInit ⟨#[0xb1]⟩ 1 none, Cond.classLink RX0 9 RX1, Cond.instantiable RX1 3, Cond.initialized RX1, Cond.fieldLink RX0 12 "Meniscus$Instrument" "readings" "LMeniscus$Readings;", Cond.fieldLink RX0 18 "Meniscus$Instrument" "liquid" "C", Cond.fieldLink RX0 22 "Meniscus$Instrument" "greatestLevel" "I", Cond.fieldLink RX0 26 "Meniscus$Instrument" "certificateEnd" "I", Cond.fieldLink RX0 29 "Meniscus$Instrument" "tubeNumber" "I", Cond.fieldLink RX0 32 "Meniscus$Instrument" "tube" "LMeniscus$Tube;", Cond.fieldLink RX0 36 "Meniscus$Instrument" "bulb" "I", Cond.fieldLink RX0 39 "Meniscus$Instrument" "glass" "C", Cond.classLink RX0 42 RX2, Cond.instantiable RX2 5, Cond.initialized RX2, Cond.fieldLink RX0 47 "Meniscus$Instrument" "scale" "LMeniscus$Scale;", Cond.instanceMethod yX1_init, Cond.code yX1_init cX1_init 1 none, Cond.methodLink RX1 3 objectInit, Cond.arrayClass .int, Cond.fieldLink RX1 9 "Meniscus$Readings" "values" "[I", Cond.fieldLink RX1 15 "Meniscus$Readings" "errors" "[I"]
def wsX0_init_r2 : List Cond := [Cond.methodLink RX0 44 yX2_init, Cond.instanceMethod yX2_init, Cond.code yX2_init cX2_init 2 none, Cond.methodLink RX2 3 objectInit, Cond.fieldLink RX2 9 "Meniscus$Scale" "icePlace" "I", Cond.fieldLink RX2 15 "Meniscus$Scale" "steamPlace" "I", Cond.fieldLink RX2 18 "Meniscus$Scale" "kind" "C", Cond.fieldLink RX2 22 "Meniscus$Scale" "tube" "LMeniscus$Tube;"]
def wsX0_init : List Cond := .code yX0_init cX0_init 5 none :: ((wsX0_init_r1 ++ wsX0_init_r2) ++ wsX10 ++ wsX00 ++ wsX20)
def wsX0_creepsInAll : List Cond := .code yX0_creepsInAll cX0_creepsInAll 1 (some .int) :: ([.fieldLink RX0 36 "Meniscus$Instrument" "bulb" "I", .fieldLink RX0 39 "Meniscus$Instrument" "glass" "C"] ++ wsX00)
def wsX0_mercuryInside : List Cond := .code yX0_mercuryInside cX0_mercuryInside 1 (some .int) :: ([.fieldLink RX0 18 "Meniscus$Instrument" "liquid" "C", .fieldLink RX0 68 "Meniscus$Instrument" "inside" "I"] ++ wsX00)
def wsX0_isInBounds : List Cond := .code yX0_isInBounds cX0_isInBounds 1 (some .boolean) :: ([.fieldLink RX0 51 "Meniscus$Instrument" "crept" "I", .fieldLink RX0 12 "Meniscus$Instrument" "readings" "LMeniscus$Readings;", .methodLink RX0 54 yX0_creepsInAll, .instanceMethod yX0_creepsInAll, .selects RX0 yX0_creepsInAll yX0_creepsInAll, .initialized RX0, .code yX0_creepsInAll cX0_creepsInAll 1 (some .int), .fieldLink RX0 36 "Meniscus$Instrument" "bulb" "I", .fieldLink RX0 39 "Meniscus$Instrument" "glass" "C"] ++ wsX00 ++ wsX10)
def wsX3_init : List Cond := .code yX3_init cX3_init 4 none :: ([.methodLink RX3 3 objectInit, .instanceMethod objectInit, .code objectInit ⟨#[0xb1]⟩ 1 none, .arrayClass .int, .fieldLink RX3 9 "Meniscus$Tube" "bores" "[I", .methodLink RX3 15 Lib.Math.min.name, .static Lib.Math.min.name, .initialized "java/lang/Math", .code Lib.Math.min.name Lib.Math.min.code 2 (some .int), .methodLink RX3 21 Lib.Math.max.name, .static Lib.Math.max.name, .code Lib.Math.max.name Lib.Math.max.code 2 (some .int)] ++ wsX30)
def wsX3_boreOf : List Cond := .code yX3_boreOf cX3_boreOf 2 (some .int) :: ([.fieldLink RX3 9 "Meniscus$Tube" "bores" "[I"] ++ wsX30)
def wsX3_setBore : List Cond := .code yX3_setBore cX3_setBore 3 none :: ([.fieldLink RX3 9 "Meniscus$Tube" "bores" "[I"] ++ wsX30)
def wsX3_stepsBelow : List Cond := .code yX3_stepsBelow cX3_stepsBelow 2 (some .int) :: ([.methodLink RX3 15 Lib.Math.min.name, .static Lib.Math.min.name, .initialized "java/lang/Math", .code Lib.Math.min.name Lib.Math.min.code 2 (some .int), .methodLink RX3 21 Lib.Math.max.name, .static Lib.Math.max.name, .code Lib.Math.max.name Lib.Math.max.code 2 (some .int)])
def wsX3_volumeUpTo : List Cond := .code yX3_volumeUpTo cX3_volumeUpTo 4 (some .int) :: ([.fieldLink RX3 9 "Meniscus$Tube" "bores" "[I", .methodLink RX3 24 yX3_stepsBelow, .static yX3_stepsBelow, .initialized RX3, .code yX3_stepsBelow cX3_stepsBelow 2 (some .int), .methodLink RX3 15 Lib.Math.min.name, .static Lib.Math.min.name, .initialized "java/lang/Math", .code Lib.Math.min.name Lib.Math.min.code 2 (some .int), .methodLink RX3 21 Lib.Math.max.name, .static Lib.Math.max.name, .code Lib.Math.max.name Lib.Math.max.code 2 (some .int)] ++ wsX30)
def wsX3_firstPlaceHolding : List Cond := .code yX3_firstPlaceHolding cX3_firstPlaceHolding 3 (some .int) :: ([.methodLink RX3 27 yX3_volumeUpTo, .instanceMethod yX3_volumeUpTo, .selects RX3 yX3_volumeUpTo yX3_volumeUpTo, .initialized RX3, .code yX3_volumeUpTo cX3_volumeUpTo 4 (some .int), .fieldLink RX3 9 "Meniscus$Tube" "bores" "[I", .methodLink RX3 24 yX3_stepsBelow, .static yX3_stepsBelow, .code yX3_stepsBelow cX3_stepsBelow 2 (some .int), .methodLink RX3 15 Lib.Math.min.name, .static Lib.Math.min.name, .initialized "java/lang/Math", .code Lib.Math.min.name Lib.Math.min.code 2 (some .int), .methodLink RX3 21 Lib.Math.max.name, .static Lib.Math.max.name, .code Lib.Math.max.name Lib.Math.max.code 2 (some .int)] ++ wsX30)
def wsX3_widestSection : List Cond := .code yX3_widestSection cX3_widestSection 3 (some .int) :: ([.fieldLink RX3 9 "Meniscus$Tube" "bores" "[I", .methodLink RX3 31 yX3_boreOf, .instanceMethod yX3_boreOf, .selects RX3 yX3_boreOf yX3_boreOf, .initialized RX3, .code yX3_boreOf cX3_boreOf 2 (some .int)] ++ wsX30)
def wsX3_clinging : List Cond := .code yX3_clinging cX3_clinging 7 (some .int) :: ([.fieldLink RX3 9 "Meniscus$Tube" "bores" "[I", .methodLink RX3 15 Lib.Math.min.name, .static Lib.Math.min.name, .initialized "java/lang/Math", .code Lib.Math.min.name Lib.Math.min.code 2 (some .int), .methodLink RX3 24 yX3_stepsBelow, .static yX3_stepsBelow, .initialized RX3, .code yX3_stepsBelow cX3_stepsBelow 2 (some .int), .methodLink RX3 21 Lib.Math.max.name, .static Lib.Math.max.name, .code Lib.Math.max.name Lib.Math.max.code 2 (some .int)] ++ wsX30)
def wsX4_init : List Cond := .code yX4_init cX4_init 1 none :: ([.methodLink RX4 3 objectInit, .instanceMethod objectInit, .code objectInit ⟨#[0xb1]⟩ 1 none, .classLink RX4 9 RX3, .fieldLink RX4 11 "Meniscus" "tubes" "[LMeniscus$Tube;", .classLink RX4 15 RX0, .fieldLink RX4 17 "Meniscus" "instruments" "[LMeniscus$Instrument;", .fieldLink RX4 21 "Meniscus" "airTemperature" "I"] ++ wsX40)
def wsX4_demandRange : List Cond := .code yX4_demandRange cX4_demandRange 3 none :: ([.classLink RX4 77 "java/lang/IllegalArgumentException", .initialized "java/lang/IllegalArgumentException"] ++ (vx_atS RX4 81 "java/lang/IllegalArgumentException" ["java/lang/RuntimeException", "java/lang/Exception"]).filter goodWord)
def wsX4_draw_r1 : List Cond := [Cond.classLink RX4 32 "java/lang/IllegalStateException", Cond.initialized "java/lang/IllegalStateException", Cond.fieldLink RX4 29 "Meniscus" "tubeCount" "I", Cond.fieldLink RX4 11 "Meniscus" "tubes" "[LMeniscus$Tube;", Cond.classLink RX4 9 RX3, Cond.instantiable RX3 2, Cond.initialized RX3, Cond.methodLink RX4 25 yX4_demandRange, Cond.static yX4_demandRange, Cond.initialized RX4, Cond.code yX4_demandRange cX4_demandRange 3 none, Cond.classLink RX4 77 "java/lang/IllegalArgumentException", Cond.initialized "java/lang/IllegalArgumentException", Cond.methodLink RX4 39 yX3_init, Cond.instanceMethod yX3_init, Cond.code yX3_init cX3_init 4 none, Cond.methodLink RX3 3 objectInit, Cond.instanceMethod objectInit, Cond.code objectInit ⟨#[0xb1]⟩ 1 none, Cond.arrayClass .int, Cond.fieldLink RX3 9 "Meniscus$Tube" "bores" "[I", Cond.methodLink RX3 15 Lib.Math.min.name, Cond.static Lib.Math.min.name, Cond.initialized "java/lang/Math"]
def wsX4_draw_r2 : List Cond := [Cond.code Lib.Math.min.name Lib.Math.min.code 2 (some .int), Cond.methodLink RX3 21 Lib.Math.max.name, Cond.static Lib.Math.max.name, Cond.code Lib.Math.max.name Lib.Math.max.code 2 (some .int)]
def wsX4_draw : List Cond := .code yX4_draw cX4_draw 4 (some .int) :: ((wsX4_draw_r1 ++ wsX4_draw_r2) ++ wsX40 ++ wsX30 ++ (vx_atS RX4 36 "java/lang/IllegalStateException" ["java/lang/RuntimeException", "java/lang/Exception"]).filter goodWord ++ (vx_atS RX4 81 "java/lang/IllegalArgumentException" ["java/lang/RuntimeException", "java/lang/Exception"]).filter goodWord)
def wsX4_tubeNumbered : List Cond := .code yX4_tubeNumbered cX4_tubeNumbered 2 (some (.object "Meniscus$Tube")) :: ([.classLink RX4 288 "java/lang/IndexOutOfBoundsException", .initialized "java/lang/IndexOutOfBoundsException", .fieldLink RX4 11 "Meniscus" "tubes" "[LMeniscus$Tube;"] ++ wsX40 ++ (vx_atS RX4 292 "java/lang/IndexOutOfBoundsException" ["java/lang/RuntimeException", "java/lang/Exception"]).filter goodWord)
def wsX4_demandUnused : List Cond := .code yX4_demandUnused cX4_demandUnused 1 none :: ([.classLink RX4 122 "java/lang/UnsupportedOperationException", .initialized "java/lang/UnsupportedOperationException"] ++ wsX30 ++ (vx_atS RX4 126 "java/lang/UnsupportedOperationException" ["java/lang/RuntimeException", "java/lang/Exception"]).filter goodWord)
def wsX4_section_r1 : List Cond := [Cond.methodLink RX4 42 yX4_tubeNumbered, Cond.instanceMethod yX4_tubeNumbered, Cond.selects RX4 yX4_tubeNumbered yX4_tubeNumbered, Cond.initialized RX4, Cond.code yX4_tubeNumbered cX4_tubeNumbered 2 (some (.object "Meniscus$Tube")), Cond.classLink RX4 288 "java/lang/IndexOutOfBoundsException", Cond.initialized "java/lang/IndexOutOfBoundsException", Cond.fieldLink RX4 11 "Meniscus" "tubes" "[LMeniscus$Tube;", Cond.methodLink RX4 25 yX4_demandRange, Cond.static yX4_demandRange, Cond.code yX4_demandRange cX4_demandRange 3 none, Cond.classLink RX4 77 "java/lang/IllegalArgumentException", Cond.initialized "java/lang/IllegalArgumentException", Cond.methodLink RX4 46 yX4_demandUnused, Cond.static yX4_demandUnused, Cond.code yX4_demandUnused cX4_demandUnused 1 none, Cond.classLink RX4 122 "java/lang/UnsupportedOperationException", Cond.initialized "java/lang/UnsupportedOperationException", Cond.methodLink RX4 50 yX3_boreOf, Cond.instanceMethod yX3_boreOf, Cond.selects RX3 yX3_boreOf yX3_boreOf, Cond.initialized RX3, Cond.code yX3_boreOf cX3_boreOf 2 (some .int), Cond.fieldLink RX3 9 "Meniscus$Tube" "bores" "[I"]
def wsX4_section_r2 : List Cond := [Cond.methodLink RX4 54 yX3_setBore, Cond.instanceMethod yX3_setBore, Cond.selects RX3 yX3_setBore yX3_setBore, Cond.code yX3_setBore cX3_setBore 3 none]
def wsX4_section : List Cond := .code yX4_section cX4_section 6 (some .int) :: ((wsX4_section_r1 ++ wsX4_section_r2) ++ wsX40 ++ wsX30 ++ (vx_atS RX4 292 "java/lang/IndexOutOfBoundsException" ["java/lang/RuntimeException", "java/lang/Exception"]).filter goodWord ++ (vx_atS RX4 81 "java/lang/IllegalArgumentException" ["java/lang/RuntimeException", "java/lang/Exception"]).filter goodWord ++ (vx_atS RX4 126 "java/lang/UnsupportedOperationException" ["java/lang/RuntimeException", "java/lang/Exception"]).filter goodWord)
def wsX4_bore : List Cond := .code yX4_bore cX4_bore 4 (some .int) :: ([.methodLink RX4 42 yX4_tubeNumbered, .instanceMethod yX4_tubeNumbered, .selects RX4 yX4_tubeNumbered yX4_tubeNumbered, .initialized RX4, .code yX4_tubeNumbered cX4_tubeNumbered 2 (some (.object "Meniscus$Tube")), .classLink RX4 288 "java/lang/IndexOutOfBoundsException", .initialized "java/lang/IndexOutOfBoundsException", .fieldLink RX4 11 "Meniscus" "tubes" "[LMeniscus$Tube;", .methodLink RX4 25 yX4_demandRange, .static yX4_demandRange, .code yX4_demandRange cX4_demandRange 3 none, .classLink RX4 77 "java/lang/IllegalArgumentException", .initialized "java/lang/IllegalArgumentException", .methodLink RX4 50 yX3_boreOf, .instanceMethod yX3_boreOf, .selects RX3 yX3_boreOf yX3_boreOf, .initialized RX3, .code yX3_boreOf cX3_boreOf 2 (some .int), .fieldLink RX3 9 "Meniscus$Tube" "bores" "[I"] ++ wsX40 ++ wsX30 ++ (vx_atS RX4 292 "java/lang/IndexOutOfBoundsException" ["java/lang/RuntimeException", "java/lang/Exception"]).filter goodWord ++ (vx_atS RX4 81 "java/lang/IllegalArgumentException" ["java/lang/RuntimeException", "java/lang/Exception"]).filter goodWord)
def wsX4_demandPlace : List Cond := .code yX4_demandPlace cX4_demandPlace 1 none :: ([.methodLink RX4 25 yX4_demandRange, .static yX4_demandRange, .initialized RX4, .code yX4_demandRange cX4_demandRange 3 none, .classLink RX4 77 "java/lang/IllegalArgumentException", .initialized "java/lang/IllegalArgumentException"] ++ (vx_atS RX4 81 "java/lang/IllegalArgumentException" ["java/lang/RuntimeException", "java/lang/Exception"]).filter goodWord)
def wsX4_volume_r1 : List Cond := [Cond.methodLink RX4 42 yX4_tubeNumbered, Cond.instanceMethod yX4_tubeNumbered, Cond.selects RX4 yX4_tubeNumbered yX4_tubeNumbered, Cond.initialized RX4, Cond.code yX4_tubeNumbered cX4_tubeNumbered 2 (some (.object "Meniscus$Tube")), Cond.classLink RX4 288 "java/lang/IndexOutOfBoundsException", Cond.initialized "java/lang/IndexOutOfBoundsException", Cond.fieldLink RX4 11 "Meniscus" "tubes" "[LMeniscus$Tube;", Cond.methodLink RX4 57 yX4_demandPlace, Cond.static yX4_demandPlace, Cond.code yX4_demandPlace cX4_demandPlace 1 none, Cond.methodLink RX4 25 yX4_demandRange, Cond.static yX4_demandRange, Cond.code yX4_demandRange cX4_demandRange 3 none, Cond.classLink RX4 77 "java/lang/IllegalArgumentException", Cond.initialized "java/lang/IllegalArgumentException", Cond.methodLink RX4 61 yX3_volumeUpTo, Cond.instanceMethod yX3_volumeUpTo, Cond.selects RX3 yX3_volumeUpTo yX3_volumeUpTo, Cond.initialized RX3, Cond.code yX3_volumeUpTo cX3_volumeUpTo 4 (some .int), Cond.fieldLink RX3 9 "Meniscus$Tube" "bores" "[I", Cond.methodLink RX3 24 yX3_stepsBelow, Cond.static yX3_stepsBelow]
def wsX4_volume_r2 : List Cond := [Cond.code yX3_stepsBelow cX3_stepsBelow 2 (some .int), Cond.methodLink RX3 15 Lib.Math.min.name, Cond.static Lib.Math.min.name, Cond.initialized "java/lang/Math", Cond.code Lib.Math.min.name Lib.Math.min.code 2 (some .int), Cond.methodLink RX3 21 Lib.Math.max.name, Cond.static Lib.Math.max.name, Cond.code Lib.Math.max.name Lib.Math.max.code 2 (some .int)]
def wsX4_volume : List Cond := .code yX4_volume cX4_volume 4 (some .int) :: ((wsX4_volume_r1 ++ wsX4_volume_r2) ++ wsX40 ++ wsX30 ++ (vx_atS RX4 292 "java/lang/IndexOutOfBoundsException" ["java/lang/RuntimeException", "java/lang/Exception"]).filter goodWord ++ (vx_atS RX4 81 "java/lang/IllegalArgumentException" ["java/lang/RuntimeException", "java/lang/Exception"]).filter goodWord)
def wsX4_thread_r1 : List Cond := [Cond.classLink RX4 68 "java/util/NoSuchElementException", Cond.initialized "java/util/NoSuchElementException", Cond.constant RX4 64 (99999), Cond.methodLink RX4 42 yX4_tubeNumbered, Cond.instanceMethod yX4_tubeNumbered, Cond.selects RX4 yX4_tubeNumbered yX4_tubeNumbered, Cond.initialized RX4, Cond.code yX4_tubeNumbered cX4_tubeNumbered 2 (some (.object "Meniscus$Tube")), Cond.classLink RX4 288 "java/lang/IndexOutOfBoundsException", Cond.initialized "java/lang/IndexOutOfBoundsException", Cond.fieldLink RX4 11 "Meniscus" "tubes" "[LMeniscus$Tube;", Cond.methodLink RX4 57 yX4_demandPlace, Cond.static yX4_demandPlace, Cond.code yX4_demandPlace cX4_demandPlace 1 none, Cond.methodLink RX4 25 yX4_demandRange, Cond.static yX4_demandRange, Cond.code yX4_demandRange cX4_demandRange 3 none, Cond.classLink RX4 77 "java/lang/IllegalArgumentException", Cond.initialized "java/lang/IllegalArgumentException", Cond.methodLink RX4 61 yX3_volumeUpTo, Cond.instanceMethod yX3_volumeUpTo, Cond.selects RX3 yX3_volumeUpTo yX3_volumeUpTo, Cond.initialized RX3, Cond.code yX3_volumeUpTo cX3_volumeUpTo 4 (some .int)]
def wsX4_thread_r2 : List Cond := [Cond.fieldLink RX3 9 "Meniscus$Tube" "bores" "[I", Cond.methodLink RX3 24 yX3_stepsBelow, Cond.static yX3_stepsBelow, Cond.code yX3_stepsBelow cX3_stepsBelow 2 (some .int), Cond.methodLink RX3 15 Lib.Math.min.name, Cond.static Lib.Math.min.name, Cond.initialized "java/lang/Math", Cond.code Lib.Math.min.name Lib.Math.min.code 2 (some .int), Cond.methodLink RX3 21 Lib.Math.max.name, Cond.static Lib.Math.max.name, Cond.code Lib.Math.max.name Lib.Math.max.code 2 (some .int), Cond.methodLink RX4 65 yX3_firstPlaceHolding, Cond.instanceMethod yX3_firstPlaceHolding, Cond.selects RX3 yX3_firstPlaceHolding yX3_firstPlaceHolding, Cond.code yX3_firstPlaceHolding cX3_firstPlaceHolding 3 (some .int), Cond.methodLink RX3 27 yX3_volumeUpTo]
def wsX4_thread : List Cond := .code yX4_thread cX4_thread 6 (some .int) :: ((wsX4_thread_r1 ++ wsX4_thread_r2) ++ wsX40 ++ wsX30 ++ vn_at.filter goodWord ++ (vx_atS RX4 292 "java/lang/IndexOutOfBoundsException" ["java/lang/RuntimeException", "java/lang/Exception"]).filter goodWord ++ (vx_atS RX4 81 "java/lang/IllegalArgumentException" ["java/lang/RuntimeException", "java/lang/Exception"]).filter goodWord)
def wsX4_widest : List Cond := .code yX4_widest cX4_widest 2 (some .int) :: ([.methodLink RX4 42 yX4_tubeNumbered, .instanceMethod yX4_tubeNumbered, .selects RX4 yX4_tubeNumbered yX4_tubeNumbered, .initialized RX4, .code yX4_tubeNumbered cX4_tubeNumbered 2 (some (.object "Meniscus$Tube")), .classLink RX4 288 "java/lang/IndexOutOfBoundsException", .initialized "java/lang/IndexOutOfBoundsException", .fieldLink RX4 11 "Meniscus" "tubes" "[LMeniscus$Tube;", .methodLink RX4 73 yX3_widestSection, .instanceMethod yX3_widestSection, .selects RX3 yX3_widestSection yX3_widestSection, .initialized RX3, .code yX3_widestSection cX3_widestSection 3 (some .int), .fieldLink RX3 9 "Meniscus$Tube" "bores" "[I", .methodLink RX3 31 yX3_boreOf, .instanceMethod yX3_boreOf, .selects RX3 yX3_boreOf yX3_boreOf, .code yX3_boreOf cX3_boreOf 2 (some .int)] ++ wsX40 ++ wsX30 ++ (vx_atS RX4 292 "java/lang/IndexOutOfBoundsException" ["java/lang/RuntimeException", "java/lang/Exception"]).filter goodWord)
def wsX4_clingingToStep : List Cond := .code yX4_clingingToStep cX4_clingingToStep 1 (some .int) :: ([])
def wsX4_deliver_r1 : List Cond := [Cond.classLink RX4 77 "java/lang/IllegalArgumentException", Cond.initialized "java/lang/IllegalArgumentException", Cond.methodLink RX4 42 yX4_tubeNumbered, Cond.instanceMethod yX4_tubeNumbered, Cond.selects RX4 yX4_tubeNumbered yX4_tubeNumbered, Cond.initialized RX4, Cond.code yX4_tubeNumbered cX4_tubeNumbered 2 (some (.object "Meniscus$Tube")), Cond.classLink RX4 288 "java/lang/IndexOutOfBoundsException", Cond.initialized "java/lang/IndexOutOfBoundsException", Cond.fieldLink RX4 11 "Meniscus" "tubes" "[LMeniscus$Tube;", Cond.methodLink RX4 57 yX4_demandPlace, Cond.static yX4_demandPlace, Cond.code yX4_demandPlace cX4_demandPlace 1 none, Cond.methodLink RX4 25 yX4_demandRange, Cond.static yX4_demandRange, Cond.code yX4_demandRange cX4_demandRange 3 none, Cond.methodLink RX4 61 yX3_volumeUpTo, Cond.instanceMethod yX3_volumeUpTo, Cond.selects RX3 yX3_volumeUpTo yX3_volumeUpTo, Cond.initialized RX3, Cond.code yX3_volumeUpTo cX3_volumeUpTo 4 (some .int), Cond.fieldLink RX3 9 "Meniscus$Tube" "bores" "[I", Cond.methodLink RX3 24 yX3_stepsBelow, Cond.static yX3_stepsBelow]
def wsX4_deliver_r2 : List Cond := [Cond.code yX3_stepsBelow cX3_stepsBelow 2 (some .int), Cond.methodLink RX3 15 Lib.Math.min.name, Cond.static Lib.Math.min.name, Cond.initialized "java/lang/Math", Cond.code Lib.Math.min.name Lib.Math.min.code 2 (some .int), Cond.methodLink RX3 21 Lib.Math.max.name, Cond.static Lib.Math.max.name, Cond.code Lib.Math.max.name Lib.Math.max.code 2 (some .int), Cond.methodLink RX4 82 yX4_clingingToStep, Cond.static yX4_clingingToStep, Cond.code yX4_clingingToStep cX4_clingingToStep 1 (some .int), Cond.methodLink RX4 85 yX3_clinging, Cond.instanceMethod yX3_clinging, Cond.selects RX3 yX3_clinging yX3_clinging, Cond.code yX3_clinging cX3_clinging 7 (some .int)]
def wsX4_deliver : List Cond := .code yX4_deliver cX4_deliver 7 (some .int) :: ((wsX4_deliver_r1 ++ wsX4_deliver_r2) ++ wsX40 ++ wsX30 ++ (vx_atS RX4 81 "java/lang/IllegalArgumentException" ["java/lang/RuntimeException", "java/lang/Exception"]).filter goodWord ++ (vx_atS RX4 292 "java/lang/IndexOutOfBoundsException" ["java/lang/RuntimeException", "java/lang/Exception"]).filter goodWord)
def wsX4_demandEither : List Cond := .code yX4_demandEither cX4_demandEither 3 none :: ([.classLink RX4 77 "java/lang/IllegalArgumentException", .initialized "java/lang/IllegalArgumentException"] ++ (vx_atS RX4 81 "java/lang/IllegalArgumentException" ["java/lang/RuntimeException", "java/lang/Exception"]).filter goodWord)
def wsX4_make_r1 : List Cond := [Cond.classLink RX4 32 "java/lang/IllegalStateException", Cond.initialized "java/lang/IllegalStateException", Cond.constant RX4 89 (50000), Cond.fieldLink RX4 94 "Meniscus" "instrumentCount" "I", Cond.fieldLink RX4 17 "Meniscus" "instruments" "[LMeniscus$Instrument;", Cond.classLink RX4 15 RX0, Cond.instantiable RX0 15, Cond.initialized RX0, Cond.methodLink RX4 42 yX4_tubeNumbered, Cond.instanceMethod yX4_tubeNumbered, Cond.selects RX4 yX4_tubeNumbered yX4_tubeNumbered, Cond.initialized RX4, Cond.code yX4_tubeNumbered cX4_tubeNumbered 2 (some (.object "Meniscus$Tube")), Cond.classLink RX4 288 "java/lang/IndexOutOfBoundsException", Cond.initialized "java/lang/IndexOutOfBoundsException", Cond.fieldLink RX4 11 "Meniscus" "tubes" "[LMeniscus$Tube;", Cond.methodLink RX4 25 yX4_demandRange, Cond.static yX4_demandRange, Cond.code yX4_demandRange cX4_demandRange 3 none, Cond.classLink RX4 77 "java/lang/IllegalArgumentException", Cond.initialized "java/lang/IllegalArgumentException", Cond.methodLink RX4 90 yX4_demandEither, Cond.static yX4_demandEither, Cond.code yX4_demandEither cX4_demandEither 3 none]
def wsX4_make_r2 : List Cond := [Cond.methodLink RX4 46 yX4_demandUnused, Cond.static yX4_demandUnused, Cond.code yX4_demandUnused cX4_demandUnused 1 none, Cond.classLink RX4 122 "java/lang/UnsupportedOperationException", Cond.initialized "java/lang/UnsupportedOperationException", Cond.methodLink RX4 103 yX0_init, Cond.instanceMethod yX0_init, Cond.code yX0_init cX0_init 5 none, Cond.methodLink RX0 3 objectInit, Cond.instanceMethod objectInit, Cond.code objectInit ⟨#[0xb1]⟩ 1 none, Cond.classLink RX0 9 RX1, Cond.instantiable RX1 3, Cond.initialized RX1, Cond.fieldLink RX0 12 "Meniscus$Instrument" "readings" "LMeniscus$Readings;", Cond.fieldLink RX0 18 "Meniscus$Instrument" "liquid" "C", Cond.fieldLink RX0 22 "Meniscus$Instrument" "greatestLevel" "I", Cond.fieldLink RX0 26 "Meniscus$Instrument" "certificateEnd" "I", Cond.fieldLink RX0 29 "Meniscus$Instrument" "tubeNumber" "I", Cond.fieldLink RX0 32 "Meniscus$Instrument" "tube" "LMeniscus$Tube;", Cond.fieldLink RX0 36 "Meniscus$Instrument" "bulb" "I", Cond.fieldLink RX0 39 "Meniscus$Instrument" "glass" "C", Cond.classLink RX0 42 RX2, Cond.instantiable RX2 5]
def wsX4_make_r3 : List Cond := [Cond.initialized RX2, Cond.fieldLink RX0 47 "Meniscus$Instrument" "scale" "LMeniscus$Scale;", Cond.instanceMethod yX1_init, Cond.code yX1_init cX1_init 1 none, Cond.methodLink RX1 3 objectInit, Cond.arrayClass .int, Cond.fieldLink RX1 9 "Meniscus$Readings" "values" "[I", Cond.fieldLink RX1 15 "Meniscus$Readings" "errors" "[I", Cond.methodLink RX0 44 yX2_init, Cond.instanceMethod yX2_init, Cond.code yX2_init cX2_init 2 none, Cond.methodLink RX2 3 objectInit, Cond.fieldLink RX2 9 "Meniscus$Scale" "icePlace" "I", Cond.fieldLink RX2 15 "Meniscus$Scale" "steamPlace" "I", Cond.fieldLink RX2 18 "Meniscus$Scale" "kind" "C", Cond.fieldLink RX2 22 "Meniscus$Scale" "tube" "LMeniscus$Tube;"]
def wsX4_make : List Cond := .code yX4_make cX4_make 6 (some .int) :: ((wsX4_make_r1 ++ (wsX4_make_r2 ++ wsX4_make_r3)) ++ wsX40 ++ wsX30 ++ wsX00 ++ wsX10 ++ wsX20 ++ (vx_atS RX4 36 "java/lang/IllegalStateException" ["java/lang/RuntimeException", "java/lang/Exception"]).filter goodWord ++ (vx_atS RX4 292 "java/lang/IndexOutOfBoundsException" ["java/lang/RuntimeException", "java/lang/Exception"]).filter goodWord ++ (vx_atS RX4 81 "java/lang/IllegalArgumentException" ["java/lang/RuntimeException", "java/lang/Exception"]).filter goodWord ++ (vx_atS RX4 126 "java/lang/UnsupportedOperationException" ["java/lang/RuntimeException", "java/lang/Exception"]).filter goodWord)
def wsX4_demandPressure : List Cond := .code yX4_demandPressure cX4_demandPressure 1 none :: ([.methodLink RX4 25 yX4_demandRange, .static yX4_demandRange, .initialized RX4, .code yX4_demandRange cX4_demandRange 3 none, .classLink RX4 77 "java/lang/IllegalArgumentException", .initialized "java/lang/IllegalArgumentException"] ++ (vx_atS RX4 81 "java/lang/IllegalArgumentException" ["java/lang/RuntimeException", "java/lang/Exception"]).filter goodWord)
def wsX4_steamAt : List Cond := .code yX4_steamAt cX4_steamAt 1 (some .int) :: ([])
def wsX4_boiling : List Cond := .code yX4_boiling cX4_boiling 2 (some .int) :: ([.methodLink RX4 182 yX4_demandPressure, .static yX4_demandPressure, .initialized RX4, .code yX4_demandPressure cX4_demandPressure 1 none, .methodLink RX4 25 yX4_demandRange, .static yX4_demandRange, .code yX4_demandRange cX4_demandRange 3 none, .classLink RX4 77 "java/lang/IllegalArgumentException", .initialized "java/lang/IllegalArgumentException", .methodLink RX4 185 yX4_steamAt, .static yX4_steamAt, .code yX4_steamAt cX4_steamAt 1 (some .int)] ++ (vx_atS RX4 81 "java/lang/IllegalArgumentException" ["java/lang/RuntimeException", "java/lang/Exception"]).filter goodWord)
def wsX4_barometer : List Cond := .code yX4_barometer cX4_barometer 6 (some .int) :: ([.constant RX4 265 (100000), .methodLink RX4 25 yX4_demandRange, .static yX4_demandRange, .initialized RX4, .code yX4_demandRange cX4_demandRange 3 none, .classLink RX4 77 "java/lang/IllegalArgumentException", .initialized "java/lang/IllegalArgumentException"] ++ (vx_atS RX4 81 "java/lang/IllegalArgumentException" ["java/lang/RuntimeException", "java/lang/Exception"]).filter goodWord)
def wsX4_instrumentsOfTube : List Cond := .code yX4_instrumentsOfTube cX4_instrumentsOfTube 7 (some .int) :: ([.fieldLink RX4 17 "Meniscus" "instruments" "[LMeniscus$Instrument;"] ++ wsX40 ++ wsX00)
def wsX4_isSound_r1 : List Cond := [Cond.fieldLink RX4 109 "Meniscus" "stock" "I", Cond.fieldLink RX4 142 "Meniscus" "spilt" "I", Cond.fieldLink RX4 17 "Meniscus" "instruments" "[LMeniscus$Instrument;", Cond.fieldLink RX4 106 "Meniscus" "bought" "I", Cond.methodLink RX4 145 yX0_mercuryInside, Cond.instanceMethod yX0_mercuryInside, Cond.selects RX0 yX0_mercuryInside yX0_mercuryInside, Cond.initialized RX0, Cond.code yX0_mercuryInside cX0_mercuryInside 1 (some .int), Cond.fieldLink RX0 18 "Meniscus$Instrument" "liquid" "C", Cond.fieldLink RX0 68 "Meniscus$Instrument" "inside" "I", Cond.methodLink RX4 279 yX0_isInBounds, Cond.instanceMethod yX0_isInBounds, Cond.selects RX0 yX0_isInBounds yX0_isInBounds, Cond.code yX0_isInBounds cX0_isInBounds 1 (some .boolean), Cond.fieldLink RX0 51 "Meniscus$Instrument" "crept" "I", Cond.fieldLink RX0 12 "Meniscus$Instrument" "readings" "LMeniscus$Readings;", Cond.methodLink RX0 54 yX0_creepsInAll, Cond.instanceMethod yX0_creepsInAll, Cond.selects RX0 yX0_creepsInAll yX0_creepsInAll, Cond.code yX0_creepsInAll cX0_creepsInAll 1 (some .int), Cond.fieldLink RX0 36 "Meniscus$Instrument" "bulb" "I", Cond.fieldLink RX0 39 "Meniscus$Instrument" "glass" "C", Cond.methodLink RX4 285 yX4_instrumentsOfTube]
def wsX4_isSound_r2 : List Cond := [Cond.instanceMethod yX4_instrumentsOfTube, Cond.selects RX4 yX4_instrumentsOfTube yX4_instrumentsOfTube, Cond.initialized RX4, Cond.code yX4_instrumentsOfTube cX4_instrumentsOfTube 7 (some .int)]
def wsX4_isSound : List Cond := .code yX4_isSound cX4_isSound 6 (some .boolean) :: ((wsX4_isSound_r1 ++ wsX4_isSound_r2) ++ wsX40 ++ wsX00 ++ wsX10)
def wsJ9_max_7cf53 : List Cond := .code yJ9_max_7cf53 cJ9_max_7cf53 2 (some .int) :: ([])
def wsJ9_min_7cf53 : List Cond := .code yJ9_min_7cf53 cJ9_min_7cf53 2 (some .int) :: ([])
def wsL_cell : List Cond := .code yL_cell cL_cell 3 (some .int) :: ([.constant RL 7 (69069), .constant RL 8 (1103515245)])
def wsL_draw_r1 : List Cond := [Cond.classLink RL 15 "java/lang/IllegalArgumentException", Cond.classLink RL 18 "java/lang/IllegalStateException", Cond.constant RL 17 (-900001), Cond.constant RL 20 (-900002), Cond.methodLink RL 9 yX4_draw, Cond.instanceMethod yX4_draw, Cond.selects RX4 yX4_draw yX4_draw, Cond.initialized RX4, Cond.code yX4_draw cX4_draw 4 (some .int), Cond.classLink RX4 32 "java/lang/IllegalStateException", Cond.initialized "java/lang/IllegalStateException", Cond.fieldLink RX4 29 "Meniscus" "tubeCount" "I", Cond.fieldLink RX4 11 "Meniscus" "tubes" "[LMeniscus$Tube;", Cond.classLink RX4 9 RX3, Cond.instantiable RX3 2, Cond.initialized RX3, Cond.methodLink RX4 25 yX4_demandRange, Cond.static yX4_demandRange, Cond.code yX4_demandRange cX4_demandRange 3 none, Cond.classLink RX4 77 "java/lang/IllegalArgumentException", Cond.initialized "java/lang/IllegalArgumentException", Cond.methodLink RX4 39 yX3_init, Cond.instanceMethod yX3_init, Cond.code yX3_init cX3_init 4 none]
def wsL_draw_r2 : List Cond := [Cond.methodLink RX3 3 objectInit, Cond.instanceMethod objectInit, Cond.code objectInit ⟨#[0xb1]⟩ 1 none, Cond.arrayClass .int, Cond.fieldLink RX3 9 "Meniscus$Tube" "bores" "[I", Cond.methodLink RX3 15 Lib.Math.min.name, Cond.static Lib.Math.min.name, Cond.initialized "java/lang/Math", Cond.code Lib.Math.min.name Lib.Math.min.code 2 (some .int), Cond.methodLink RX3 21 Lib.Math.max.name, Cond.static Lib.Math.max.name, Cond.code Lib.Math.max.name Lib.Math.max.code 2 (some .int)]
def wsL_draw : List Cond := .codeWith yL_draw cL_draw 4 (some .int) [(0, 6, 7, 15), (0, 6, 11, 18)] :: ((wsL_draw_r1 ++ wsL_draw_r2) ++ wsX40 ++ wsX30 ++ (vx_atS RX4 36 "java/lang/IllegalStateException" ["java/lang/RuntimeException", "java/lang/Exception"]).filter goodWord ++ (vx_atS RX4 81 "java/lang/IllegalArgumentException" ["java/lang/RuntimeException", "java/lang/Exception"]).filter goodWord)
def wsL_section_r1 : List Cond := [Cond.classLink RL 25 "java/lang/IndexOutOfBoundsException", Cond.classLink RL 15 "java/lang/IllegalArgumentException", Cond.classLink RL 27 "java/lang/UnsupportedOperationException", Cond.constant RL 17 (-900001), Cond.constant RL 20 (-900002), Cond.constant RL 29 (-900003), Cond.methodLink RL 21 yX4_section, Cond.instanceMethod yX4_section, Cond.selects RX4 yX4_section yX4_section, Cond.initialized RX4, Cond.code yX4_section cX4_section 6 (some .int), Cond.methodLink RX4 42 yX4_tubeNumbered, Cond.instanceMethod yX4_tubeNumbered, Cond.selects RX4 yX4_tubeNumbered yX4_tubeNumbered, Cond.code yX4_tubeNumbered cX4_tubeNumbered 2 (some (.object "Meniscus$Tube")), Cond.classLink RX4 288 "java/lang/IndexOutOfBoundsException", Cond.initialized "java/lang/IndexOutOfBoundsException", Cond.fieldLink RX4 11 "Meniscus" "tubes" "[LMeniscus$Tube;", Cond.methodLink RX4 25 yX4_demandRange, Cond.static yX4_demandRange, Cond.code yX4_demandRange cX4_demandRange 3 none, Cond.classLink RX4 77 "java/lang/IllegalArgumentException", Cond.initialized "java/lang/IllegalArgumentException", Cond.methodLink RX4 46 yX4_demandUnused]
def wsL_section_r2 : List Cond := [Cond.static yX4_demandUnused, Cond.code yX4_demandUnused cX4_demandUnused 1 none, Cond.classLink RX4 122 "java/lang/UnsupportedOperationException", Cond.initialized "java/lang/UnsupportedOperationException", Cond.methodLink RX4 50 yX3_boreOf, Cond.instanceMethod yX3_boreOf, Cond.selects RX3 yX3_boreOf yX3_boreOf, Cond.initialized RX3, Cond.code yX3_boreOf cX3_boreOf 2 (some .int), Cond.fieldLink RX3 9 "Meniscus$Tube" "bores" "[I", Cond.methodLink RX4 54 yX3_setBore, Cond.instanceMethod yX3_setBore, Cond.selects RX3 yX3_setBore yX3_setBore, Cond.code yX3_setBore cX3_setBore 3 none]
def wsL_section : List Cond := .codeWith yL_section cL_section 5 (some .int) [(0, 7, 8, 25), (0, 7, 13, 15), (0, 7, 18, 27)] :: ((wsL_section_r1 ++ wsL_section_r2) ++ wsX40 ++ wsX30 ++ (vx_atS RX4 292 "java/lang/IndexOutOfBoundsException" ["java/lang/RuntimeException", "java/lang/Exception"]).filter goodWord ++ (vx_atS RX4 81 "java/lang/IllegalArgumentException" ["java/lang/RuntimeException", "java/lang/Exception"]).filter goodWord ++ (vx_atS RX4 126 "java/lang/UnsupportedOperationException" ["java/lang/RuntimeException", "java/lang/Exception"]).filter goodWord)
def wsL_bore_r1 : List Cond := [Cond.classLink RL 25 "java/lang/IndexOutOfBoundsException", Cond.classLink RL 15 "java/lang/IllegalArgumentException", Cond.constant RL 17 (-900001), Cond.constant RL 20 (-900002), Cond.methodLink RL 30 yX4_bore, Cond.instanceMethod yX4_bore, Cond.selects RX4 yX4_bore yX4_bore, Cond.initialized RX4, Cond.code yX4_bore cX4_bore 4 (some .int), Cond.methodLink RX4 42 yX4_tubeNumbered, Cond.instanceMethod yX4_tubeNumbered, Cond.selects RX4 yX4_tubeNumbered yX4_tubeNumbered, Cond.code yX4_tubeNumbered cX4_tubeNumbered 2 (some (.object "Meniscus$Tube")), Cond.classLink RX4 288 "java/lang/IndexOutOfBoundsException", Cond.initialized "java/lang/IndexOutOfBoundsException", Cond.fieldLink RX4 11 "Meniscus" "tubes" "[LMeniscus$Tube;", Cond.methodLink RX4 25 yX4_demandRange, Cond.static yX4_demandRange, Cond.code yX4_demandRange cX4_demandRange 3 none, Cond.classLink RX4 77 "java/lang/IllegalArgumentException", Cond.initialized "java/lang/IllegalArgumentException", Cond.methodLink RX4 50 yX3_boreOf, Cond.instanceMethod yX3_boreOf, Cond.selects RX3 yX3_boreOf yX3_boreOf]
def wsL_bore_r2 : List Cond := [Cond.initialized RX3, Cond.code yX3_boreOf cX3_boreOf 2 (some .int), Cond.fieldLink RX3 9 "Meniscus$Tube" "bores" "[I"]
def wsL_bore : List Cond := .codeWith yL_bore cL_bore 4 (some .int) [(0, 6, 7, 25), (0, 6, 11, 15)] :: ((wsL_bore_r1 ++ wsL_bore_r2) ++ wsX40 ++ wsX30 ++ (vx_atS RX4 292 "java/lang/IndexOutOfBoundsException" ["java/lang/RuntimeException", "java/lang/Exception"]).filter goodWord ++ (vx_atS RX4 81 "java/lang/IllegalArgumentException" ["java/lang/RuntimeException", "java/lang/Exception"]).filter goodWord)
def wsL_volume_r1 : List Cond := [Cond.classLink RL 25 "java/lang/IndexOutOfBoundsException", Cond.classLink RL 15 "java/lang/IllegalArgumentException", Cond.constant RL 17 (-900001), Cond.constant RL 20 (-900002), Cond.methodLink RL 33 yX4_volume, Cond.instanceMethod yX4_volume, Cond.selects RX4 yX4_volume yX4_volume, Cond.initialized RX4, Cond.code yX4_volume cX4_volume 4 (some .int), Cond.methodLink RX4 42 yX4_tubeNumbered, Cond.instanceMethod yX4_tubeNumbered, Cond.selects RX4 yX4_tubeNumbered yX4_tubeNumbered, Cond.code yX4_tubeNumbered cX4_tubeNumbered 2 (some (.object "Meniscus$Tube")), Cond.classLink RX4 288 "java/lang/IndexOutOfBoundsException", Cond.initialized "java/lang/IndexOutOfBoundsException", Cond.fieldLink RX4 11 "Meniscus" "tubes" "[LMeniscus$Tube;", Cond.methodLink RX4 57 yX4_demandPlace, Cond.static yX4_demandPlace, Cond.code yX4_demandPlace cX4_demandPlace 1 none, Cond.methodLink RX4 25 yX4_demandRange, Cond.static yX4_demandRange, Cond.code yX4_demandRange cX4_demandRange 3 none, Cond.classLink RX4 77 "java/lang/IllegalArgumentException", Cond.initialized "java/lang/IllegalArgumentException"]
def wsL_volume_r2 : List Cond := [Cond.methodLink RX4 61 yX3_volumeUpTo, Cond.instanceMethod yX3_volumeUpTo, Cond.selects RX3 yX3_volumeUpTo yX3_volumeUpTo, Cond.initialized RX3, Cond.code yX3_volumeUpTo cX3_volumeUpTo 4 (some .int), Cond.fieldLink RX3 9 "Meniscus$Tube" "bores" "[I", Cond.methodLink RX3 24 yX3_stepsBelow, Cond.static yX3_stepsBelow, Cond.code yX3_stepsBelow cX3_stepsBelow 2 (some .int), Cond.methodLink RX3 15 Lib.Math.min.name, Cond.static Lib.Math.min.name, Cond.initialized "java/lang/Math", Cond.code Lib.Math.min.name Lib.Math.min.code 2 (some .int), Cond.methodLink RX3 21 Lib.Math.max.name, Cond.static Lib.Math.max.name, Cond.code Lib.Math.max.name Lib.Math.max.code 2 (some .int)]
def wsL_volume : List Cond := .codeWith yL_volume cL_volume 4 (some .int) [(0, 6, 7, 25), (0, 6, 11, 15)] :: ((wsL_volume_r1 ++ wsL_volume_r2) ++ wsX40 ++ wsX30 ++ (vx_atS RX4 292 "java/lang/IndexOutOfBoundsException" ["java/lang/RuntimeException", "java/lang/Exception"]).filter goodWord ++ (vx_atS RX4 81 "java/lang/IllegalArgumentException" ["java/lang/RuntimeException", "java/lang/Exception"]).filter goodWord)
def wsL_thread_r1 : List Cond := [Cond.classLink RL 25 "java/lang/IndexOutOfBoundsException", Cond.classLink RL 15 "java/lang/IllegalArgumentException", Cond.classLink RL 39 "java/util/NoSuchElementException", Cond.constant RL 17 (-900001), Cond.constant RL 20 (-900002), Cond.constant RL 29 (-900003), Cond.methodLink RL 36 yX4_thread, Cond.instanceMethod yX4_thread, Cond.selects RX4 yX4_thread yX4_thread, Cond.initialized RX4, Cond.code yX4_thread cX4_thread 6 (some .int), Cond.classLink RX4 68 "java/util/NoSuchElementException", Cond.initialized "java/util/NoSuchElementException", Cond.constant RX4 64 (99999), Cond.methodLink RX4 42 yX4_tubeNumbered, Cond.instanceMethod yX4_tubeNumbered, Cond.selects RX4 yX4_tubeNumbered yX4_tubeNumbered, Cond.code yX4_tubeNumbered cX4_tubeNumbered 2 (some (.object "Meniscus$Tube")), Cond.classLink RX4 288 "java/lang/IndexOutOfBoundsException", Cond.initialized "java/lang/IndexOutOfBoundsException", Cond.fieldLink RX4 11 "Meniscus" "tubes" "[LMeniscus$Tube;", Cond.methodLink RX4 57 yX4_demandPlace, Cond.static yX4_demandPlace, Cond.code yX4_demandPlace cX4_demandPlace 1 none]
def wsL_thread_r2 : List Cond := [Cond.methodLink RX4 25 yX4_demandRange, Cond.static yX4_demandRange, Cond.code yX4_demandRange cX4_demandRange 3 none, Cond.classLink RX4 77 "java/lang/IllegalArgumentException", Cond.initialized "java/lang/IllegalArgumentException", Cond.methodLink RX4 61 yX3_volumeUpTo, Cond.instanceMethod yX3_volumeUpTo, Cond.selects RX3 yX3_volumeUpTo yX3_volumeUpTo, Cond.initialized RX3, Cond.code yX3_volumeUpTo cX3_volumeUpTo 4 (some .int), Cond.fieldLink RX3 9 "Meniscus$Tube" "bores" "[I", Cond.methodLink RX3 24 yX3_stepsBelow, Cond.static yX3_stepsBelow, Cond.code yX3_stepsBelow cX3_stepsBelow 2 (some .int), Cond.methodLink RX3 15 Lib.Math.min.name, Cond.static Lib.Math.min.name, Cond.initialized "java/lang/Math", Cond.code Lib.Math.min.name Lib.Math.min.code 2 (some .int), Cond.methodLink RX3 21 Lib.Math.max.name, Cond.static Lib.Math.max.name, Cond.code Lib.Math.max.name Lib.Math.max.code 2 (some .int), Cond.methodLink RX4 65 yX3_firstPlaceHolding, Cond.instanceMethod yX3_firstPlaceHolding, Cond.selects RX3 yX3_firstPlaceHolding yX3_firstPlaceHolding]
def wsL_thread_r3 : List Cond := [Cond.code yX3_firstPlaceHolding cX3_firstPlaceHolding 3 (some .int), Cond.methodLink RX3 27 yX3_volumeUpTo]
def wsL_thread : List Cond := .codeWith yL_thread cL_thread 5 (some .int) [(0, 7, 8, 25), (0, 7, 13, 15), (0, 7, 18, 39)] :: ((wsL_thread_r1 ++ (wsL_thread_r2 ++ wsL_thread_r3)) ++ wsX40 ++ wsX30 ++ vn_at.filter goodWord ++ (vx_atS RX4 292 "java/lang/IndexOutOfBoundsException" ["java/lang/RuntimeException", "java/lang/Exception"]).filter goodWord ++ (vx_atS RX4 81 "java/lang/IllegalArgumentException" ["java/lang/RuntimeException", "java/lang/Exception"]).filter goodWord)
def wsL_widest : List Cond := .codeWith yL_widest cL_widest 3 (some .int) [(0, 5, 6, 25)] :: ([.classLink RL 25 "java/lang/IndexOutOfBoundsException", .constant RL 17 (-900001), .methodLink RL 41 yX4_widest, .instanceMethod yX4_widest, .selects RX4 yX4_widest yX4_widest, .initialized RX4, .code yX4_widest cX4_widest 2 (some .int), .methodLink RX4 42 yX4_tubeNumbered, .instanceMethod yX4_tubeNumbered, .selects RX4 yX4_tubeNumbered yX4_tubeNumbered, .code yX4_tubeNumbered cX4_tubeNumbered 2 (some (.object "Meniscus$Tube")), .classLink RX4 288 "java/lang/IndexOutOfBoundsException", .initialized "java/lang/IndexOutOfBoundsException", .fieldLink RX4 11 "Meniscus" "tubes" "[LMeniscus$Tube;", .methodLink RX4 73 yX3_widestSection, .instanceMethod yX3_widestSection, .selects RX3 yX3_widestSection yX3_widestSection, .initialized RX3, .code yX3_widestSection cX3_widestSection 3 (some .int), .fieldLink RX3 9 "Meniscus$Tube" "bores" "[I", .methodLink RX3 31 yX3_boreOf, .instanceMethod yX3_boreOf, .selects RX3 yX3_boreOf yX3_boreOf, .code yX3_boreOf cX3_boreOf 2 (some .int)] ++ wsX40 ++ wsX30 ++ (vx_atS RX4 292 "java/lang/IndexOutOfBoundsException" ["java/lang/RuntimeException", "java/lang/Exception"]).filter goodWord)
def wsL_deliver_r1 : List Cond := [Cond.classLink RL 25 "java/lang/IndexOutOfBoundsException", Cond.classLink RL 15 "java/lang/IllegalArgumentException", Cond.constant RL 17 (-900001), Cond.constant RL 20 (-900002), Cond.methodLink RL 45 yX4_deliver, Cond.instanceMethod yX4_deliver, Cond.selects RX4 yX4_deliver yX4_deliver, Cond.initialized RX4, Cond.code yX4_deliver cX4_deliver 7 (some .int), Cond.classLink RX4 77 "java/lang/IllegalArgumentException", Cond.initialized "java/lang/IllegalArgumentException", Cond.methodLink RX4 42 yX4_tubeNumbered, Cond.instanceMethod yX4_tubeNumbered, Cond.selects RX4 yX4_tubeNumbered yX4_tubeNumbered, Cond.code yX4_tubeNumbered cX4_tubeNumbered 2 (some (.object "Meniscus$Tube")), Cond.classLink RX4 288 "java/lang/IndexOutOfBoundsException", Cond.initialized "java/lang/IndexOutOfBoundsException", Cond.fieldLink RX4 11 "Meniscus" "tubes" "[LMeniscus$Tube;", Cond.methodLink RX4 57 yX4_demandPlace, Cond.static yX4_demandPlace, Cond.code yX4_demandPlace cX4_demandPlace 1 none, Cond.methodLink RX4 25 yX4_demandRange, Cond.static yX4_demandRange, Cond.code yX4_demandRange cX4_demandRange 3 none]
def wsL_deliver_r2 : List Cond := [Cond.methodLink RX4 61 yX3_volumeUpTo, Cond.instanceMethod yX3_volumeUpTo, Cond.selects RX3 yX3_volumeUpTo yX3_volumeUpTo, Cond.initialized RX3, Cond.code yX3_volumeUpTo cX3_volumeUpTo 4 (some .int), Cond.fieldLink RX3 9 "Meniscus$Tube" "bores" "[I", Cond.methodLink RX3 24 yX3_stepsBelow, Cond.static yX3_stepsBelow, Cond.code yX3_stepsBelow cX3_stepsBelow 2 (some .int), Cond.methodLink RX3 15 Lib.Math.min.name, Cond.static Lib.Math.min.name, Cond.initialized "java/lang/Math", Cond.code Lib.Math.min.name Lib.Math.min.code 2 (some .int), Cond.methodLink RX3 21 Lib.Math.max.name, Cond.static Lib.Math.max.name, Cond.code Lib.Math.max.name Lib.Math.max.code 2 (some .int), Cond.methodLink RX4 82 yX4_clingingToStep, Cond.static yX4_clingingToStep, Cond.code yX4_clingingToStep cX4_clingingToStep 1 (some .int), Cond.methodLink RX4 85 yX3_clinging, Cond.instanceMethod yX3_clinging, Cond.selects RX3 yX3_clinging yX3_clinging, Cond.code yX3_clinging cX3_clinging 7 (some .int)]
def wsL_deliver : List Cond := .codeWith yL_deliver cL_deliver 6 (some .int) [(0, 9, 10, 25), (0, 9, 15, 15)] :: ((wsL_deliver_r1 ++ wsL_deliver_r2) ++ wsX40 ++ wsX30 ++ (vx_atS RX4 81 "java/lang/IllegalArgumentException" ["java/lang/RuntimeException", "java/lang/Exception"]).filter goodWord ++ (vx_atS RX4 292 "java/lang/IndexOutOfBoundsException" ["java/lang/RuntimeException", "java/lang/Exception"]).filter goodWord)
def wsL_make_r1 : List Cond := [Cond.classLink RL 25 "java/lang/IndexOutOfBoundsException", Cond.classLink RL 15 "java/lang/IllegalArgumentException", Cond.classLink RL 27 "java/lang/UnsupportedOperationException", Cond.classLink RL 18 "java/lang/IllegalStateException", Cond.constant RL 17 (-900001), Cond.constant RL 20 (-900002), Cond.constant RL 29 (-900003), Cond.constant RL 53 (-900004), Cond.methodLink RL 49 yX4_make, Cond.instanceMethod yX4_make, Cond.selects RX4 yX4_make yX4_make, Cond.initialized RX4, Cond.code yX4_make cX4_make 6 (some .int), Cond.classLink RX4 32 "java/lang/IllegalStateException", Cond.initialized "java/lang/IllegalStateException", Cond.constant RX4 89 (50000), Cond.fieldLink RX4 94 "Meniscus" "instrumentCount" "I", Cond.fieldLink RX4 17 "Meniscus" "instruments" "[LMeniscus$Instrument;", Cond.classLink RX4 15 RX0, Cond.instantiable RX0 15, Cond.initialized RX0, Cond.methodLink RX4 42 yX4_tubeNumbered, Cond.instanceMethod yX4_tubeNumbered, Cond.selects RX4 yX4_tubeNumbered yX4_tubeNumbered]
def wsL_make_r2 : List Cond := [Cond.code yX4_tubeNumbered cX4_tubeNumbered 2 (some (.object "Meniscus$Tube")), Cond.classLink RX4 288 "java/lang/IndexOutOfBoundsException", Cond.initialized "java/lang/IndexOutOfBoundsException", Cond.fieldLink RX4 11 "Meniscus" "tubes" "[LMeniscus$Tube;", Cond.methodLink RX4 25 yX4_demandRange, Cond.static yX4_demandRange, Cond.code yX4_demandRange cX4_demandRange 3 none, Cond.classLink RX4 77 "java/lang/IllegalArgumentException", Cond.initialized "java/lang/IllegalArgumentException", Cond.methodLink RX4 90 yX4_demandEither, Cond.static yX4_demandEither, Cond.code yX4_demandEither cX4_demandEither 3 none, Cond.methodLink RX4 46 yX4_demandUnused, Cond.static yX4_demandUnused, Cond.code yX4_demandUnused cX4_demandUnused 1 none, Cond.classLink RX4 122 "java/lang/UnsupportedOperationException", Cond.initialized "java/lang/UnsupportedOperationException", Cond.methodLink RX4 103 yX0_init, Cond.instanceMethod yX0_init, Cond.code yX0_init cX0_init 5 none, Cond.methodLink RX0 3 objectInit, Cond.instanceMethod objectInit, Cond.code objectInit ⟨#[0xb1]⟩ 1 none, Cond.classLink RX0 9 RX1]
def wsL_make_r3 : List Cond := [Cond.instantiable RX1 3, Cond.initialized RX1, Cond.fieldLink RX0 12 "Meniscus$Instrument" "readings" "LMeniscus$Readings;", Cond.fieldLink RX0 18 "Meniscus$Instrument" "liquid" "C", Cond.fieldLink RX0 22 "Meniscus$Instrument" "greatestLevel" "I", Cond.fieldLink RX0 26 "Meniscus$Instrument" "certificateEnd" "I", Cond.fieldLink RX0 29 "Meniscus$Instrument" "tubeNumber" "I", Cond.fieldLink RX0 32 "Meniscus$Instrument" "tube" "LMeniscus$Tube;", Cond.fieldLink RX0 36 "Meniscus$Instrument" "bulb" "I", Cond.fieldLink RX0 39 "Meniscus$Instrument" "glass" "C", Cond.classLink RX0 42 RX2, Cond.instantiable RX2 5, Cond.initialized RX2, Cond.fieldLink RX0 47 "Meniscus$Instrument" "scale" "LMeniscus$Scale;", Cond.instanceMethod yX1_init, Cond.code yX1_init cX1_init 1 none, Cond.methodLink RX1 3 objectInit, Cond.arrayClass .int, Cond.fieldLink RX1 9 "Meniscus$Readings" "values" "[I", Cond.fieldLink RX1 15 "Meniscus$Readings" "errors" "[I", Cond.methodLink RX0 44 yX2_init, Cond.instanceMethod yX2_init, Cond.code yX2_init cX2_init 2 none, Cond.methodLink RX2 3 objectInit]
def wsL_make_r4 : List Cond := [Cond.fieldLink RX2 9 "Meniscus$Scale" "icePlace" "I", Cond.fieldLink RX2 15 "Meniscus$Scale" "steamPlace" "I", Cond.fieldLink RX2 18 "Meniscus$Scale" "kind" "C", Cond.fieldLink RX2 22 "Meniscus$Scale" "tube" "LMeniscus$Tube;"]
def wsL_make : List Cond := .codeWith yL_make cL_make 5 (some .int) [(0, 7, 8, 25), (0, 7, 13, 15), (0, 7, 18, 27), (0, 7, 23, 18)] :: ((wsL_make_r1 ++ (wsL_make_r2 ++ (wsL_make_r3 ++ wsL_make_r4))) ++ wsX40 ++ wsX30 ++ wsX00 ++ wsX10 ++ wsX20 ++ (vx_atS RX4 36 "java/lang/IllegalStateException" ["java/lang/RuntimeException", "java/lang/Exception"]).filter goodWord ++ (vx_atS RX4 292 "java/lang/IndexOutOfBoundsException" ["java/lang/RuntimeException", "java/lang/Exception"]).filter goodWord ++ (vx_atS RX4 81 "java/lang/IllegalArgumentException" ["java/lang/RuntimeException", "java/lang/Exception"]).filter goodWord ++ (vx_atS RX4 126 "java/lang/UnsupportedOperationException" ["java/lang/RuntimeException", "java/lang/Exception"]).filter goodWord)
def wsL_boiling : List Cond := .codeWith yL_boiling cL_boiling 3 (some .int) [(0, 5, 6, 15)] :: ([.classLink RL 15 "java/lang/IllegalArgumentException", .constant RL 17 (-900001), .methodLink RL 54 yX4_boiling, .instanceMethod yX4_boiling, .selects RX4 yX4_boiling yX4_boiling, .initialized RX4, .code yX4_boiling cX4_boiling 2 (some .int), .methodLink RX4 182 yX4_demandPressure, .static yX4_demandPressure, .code yX4_demandPressure cX4_demandPressure 1 none, .methodLink RX4 25 yX4_demandRange, .static yX4_demandRange, .code yX4_demandRange cX4_demandRange 3 none, .classLink RX4 77 "java/lang/IllegalArgumentException", .initialized "java/lang/IllegalArgumentException", .methodLink RX4 185 yX4_steamAt, .static yX4_steamAt, .code yX4_steamAt cX4_steamAt 1 (some .int)] ++ (vx_atS RX4 81 "java/lang/IllegalArgumentException" ["java/lang/RuntimeException", "java/lang/Exception"]).filter goodWord)
def wsL_barometer : List Cond := .codeWith yL_barometer cL_barometer 6 (some .int) [(0, 9, 10, 15)] :: ([.classLink RL 15 "java/lang/IllegalArgumentException", .constant RL 17 (-900001), .methodLink RL 57 yX4_barometer, .instanceMethod yX4_barometer, .selects RX4 yX4_barometer yX4_barometer, .initialized RX4, .code yX4_barometer cX4_barometer 6 (some .int), .constant RX4 265 (100000), .methodLink RX4 25 yX4_demandRange, .static yX4_demandRange, .code yX4_demandRange cX4_demandRange 3 none, .classLink RX4 77 "java/lang/IllegalArgumentException", .initialized "java/lang/IllegalArgumentException"] ++ (vx_atS RX4 81 "java/lang/IllegalArgumentException" ["java/lang/RuntimeException", "java/lang/Exception"]).filter goodWord)
def wsL_in : List Cond := .code yL_in cL_in 3 (some .int) :: ([.constant RL 66 (2147483647), .methodLink RL 60 yL_cell, .static yL_cell, .initialized RL, .code yL_cell cL_cell 3 (some .int), .constant RL 7 (69069), .constant RL 8 (1103515245)])
end
section
set_option maxRecDepth 20000 in
theorem ggX0_init_X1_init : GoodIn wsX0_init wsX1_init := goodIn_r _ [20, 21, 2, 3, 22, 23, 24, 33, 34, 35] (by decide +kernel) (by decide +kernel)
set_option maxRecDepth 20000 in
theorem gX0_init_X1_init_n11 : GoodIn wsX0_init (wsX1_init) := ggX0_init_X1_init
set_option maxRecDepth 20000 in
theorem ggX0_init_X2_init : GoodIn wsX0_init wsX2_init := goodIn_r _ [27, 28, 2, 3, 29, 30, 31, 32, 51, 52, 53, 54, 55] (by decide +kernel) (by decide +kernel)
set_option maxRecDepth 20000 in
theorem gX0_init_X2_init : GoodIn wsX0_init (wsX2_init) := ggX0_init_X2_init
theorem dX0_init_0 : decode cX0_init 0 = .ok (.aload_n 0, 1) := by decide +kernel
theorem dX0_init_1 : decode cX0_init 1 = .ok (.invokespecial 3, 3) := by decide +kernel
theorem dX0_init_4 : decode cX0_init 4 = .ok (.aload_n 0, 1) := by decide +kernel
theorem dX0_init_5 : decode cX0_init 5 = .ok (.new 9, 3) := by decide +kernel
theorem dX0_init_8 : decode cX0_init 8 = .ok (.dup, 1) := by decide +kernel
theorem dX0_init_9 : decode cX0_init 9 = .ok (.invokespecial 11, 3) := by decide +kernel
theorem dX0_init_12 : decode cX0_init 12 = .ok (.putfield 12, 3) := by decide +kernel
theorem dX0_init_15 : decode cX0_init 15 = .ok (.aload_n 0, 1) := by decide +kernel
theorem dX0_init_16 : decode cX0_init 16 = .ok (.bipush 32, 2) := by decide +kernel
theorem dX0_init_18 : decode cX0_init 18 = .ok (.putfield 18, 3) := by decide +kernel
theorem dX0_init_21 : decode cX0_init 21 = .ok (.aload_n 0, 1) := by decide +kernel
theorem dX0_init_22 : decode cX0_init 22 = .ok (.iconst (-1), 1) := by decide +kernel
theorem dX0_init_23 : decode cX0_init 23 = .ok (.putfield 22, 3) := by decide +kernel
theorem dX0_init_26 : decode cX0_init 26 = .ok (.aload_n 0, 1) := by decide +kernel
theorem dX0_init_27 : decode cX0_init 27 = .ok (.iconst (-1), 1) := by decide +kernel
theorem dX0_init_28 : decode cX0_init 28 = .ok (.putfield 26, 3) := by decide +kernel
theorem dX0_init_31 : decode cX0_init 31 = .ok (.aload_n 0, 1) := by decide +kernel
theorem dX0_init_32 : decode cX0_init 32 = .ok (.iload_n 1, 1) := by decide +kernel
theorem dX0_init_33 : decode cX0_init 33 = .ok (.putfield 29, 3) := by decide +kernel
theorem dX0_init_36 : decode cX0_init 36 = .ok (.aload_n 0, 1) := by decide +kernel
theorem dX0_init_37 : decode cX0_init 37 = .ok (.aload_n 2, 1) := by decide +kernel
theorem dX0_init_38 : decode cX0_init 38 = .ok (.putfield 32, 3) := by decide +kernel
theorem dX0_init_41 : decode cX0_init 41 = .ok (.aload_n 0, 1) := by decide +kernel
theorem dX0_init_42 : decode cX0_init 42 = .ok (.iload_n 3, 1) := by decide +kernel
theorem dX0_init_43 : decode cX0_init 43 = .ok (.putfield 36, 3) := by decide +kernel
theorem dX0_init_46 : decode cX0_init 46 = .ok (.aload_n 0, 1) := by decide +kernel
theorem dX0_init_47 : decode cX0_init 47 = .ok (.iload 4, 2) := by decide +kernel
theorem dX0_init_49 : decode cX0_init 49 = .ok (.putfield 39, 3) := by decide +kernel
theorem dX0_init_52 : decode cX0_init 52 = .ok (.aload_n 0, 1) := by decide +kernel
theorem dX0_init_53 : decode cX0_init 53 = .ok (.new 42, 3) := by decide +kernel
theorem dX0_init_56 : decode cX0_init 56 = .ok (.dup, 1) := by decide +kernel
theorem dX0_init_57 : decode cX0_init 57 = .ok (.aload_n 2, 1) := by decide +kernel
theorem dX0_init_58 : decode cX0_init 58 = .ok (.invokespecial 44, 3) := by decide +kernel
theorem dX0_init_61 : decode cX0_init 61 = .ok (.putfield 47, 3) := by decide +kernel
theorem dX0_init_64 : decode cX0_init 64 = .ok (.return_, 1) := by decide +kernel
theorem dX0_creepsInAll_0 : decode cX0_creepsInAll 0 = .ok (.aload_n 0, 1) := by decide +kernel
theorem dX0_creepsInAll_1 : decode cX0_creepsInAll 1 = .ok (.getfield 36, 3) := by decide +kernel
theorem dX0_creepsInAll_4 : decode cX0_creepsInAll 4 = .ok (.aload_n 0, 1) := by decide +kernel
theorem dX0_creepsInAll_5 : decode cX0_creepsInAll 5 = .ok (.getfield 39, 3) := by decide +kernel
theorem dX0_creepsInAll_8 : decode cX0_creepsInAll 8 = .ok (.bipush 104, 2) := by decide +kernel
theorem dX0_creepsInAll_10 : decode cX0_creepsInAll 10 = .ok (.if_icmp .ne 7, 3) := by decide +kernel
theorem dX0_creepsInAll_13 : decode cX0_creepsInAll 13 = .ok (.iconst 2, 1) := by decide +kernel
theorem dX0_creepsInAll_14 : decode cX0_creepsInAll 14 = .ok (.goto 5, 3) := by decide +kernel
theorem dX0_creepsInAll_17 : decode cX0_creepsInAll 17 = .ok (.bipush 6, 2) := by decide +kernel
theorem dX0_creepsInAll_19 : decode cX0_creepsInAll 19 = .ok (.imul, 1) := by decide +kernel
theorem dX0_creepsInAll_20 : decode cX0_creepsInAll 20 = .ok (.sipush 1000, 3) := by decide +kernel
theorem dX0_creepsInAll_23 : decode cX0_creepsInAll 23 = .ok (.idiv, 1) := by decide +kernel
theorem dX0_creepsInAll_24 : decode cX0_creepsInAll 24 = .ok (.ireturn, 1) := by decide +kernel
theorem dX0_mercuryInside_0 : decode cX0_mercuryInside 0 = .ok (.aload_n 0, 1) := by decide +kernel
theorem dX0_mercuryInside_1 : decode cX0_mercuryInside 1 = .ok (.getfield 18, 3) := by decide +kernel
theorem dX0_mercuryInside_4 : decode cX0_mercuryInside 4 = .ok (.bipush 109, 2) := by decide +kernel
theorem dX0_mercuryInside_6 : decode cX0_mercuryInside 6 = .ok (.if_icmp .ne 10, 3) := by decide +kernel
theorem dX0_mercuryInside_9 : decode cX0_mercuryInside 9 = .ok (.aload_n 0, 1) := by decide +kernel
theorem dX0_mercuryInside_10 : decode cX0_mercuryInside 10 = .ok (.getfield 68, 3) := by decide +kernel
theorem dX0_mercuryInside_13 : decode cX0_mercuryInside 13 = .ok (.goto 4, 3) := by decide +kernel
theorem dX0_mercuryInside_16 : decode cX0_mercuryInside 16 = .ok (.iconst 0, 1) := by decide +kernel
theorem dX0_mercuryInside_17 : decode cX0_mercuryInside 17 = .ok (.ireturn, 1) := by decide +kernel
set_option maxRecDepth 20000 in
theorem ggX0_isInBounds_X0_creepsInAll : GoodIn wsX0_isInBounds wsX0_creepsInAll := goodIn_r _ [7, 8, 9, 10, 11, 12, 13, 14, 15, 16, 17, 18, 19, 20, 21, 22, 23, 24] (by decide +kernel) (by decide +kernel)
set_option maxRecDepth 20000 in
theorem gX0_isInBounds_X0_creepsInAll : GoodIn wsX0_isInBounds (wsV RX0 54 RX0 yX0_creepsInAll wsX0_creepsInAll) := goodIn_app (goodIn_of _ (by decide +kernel)) ggX0_isInBounds_X0_creepsInAll
theorem dX0_isInBounds_0 : decode cX0_isInBounds 0 = .ok (.aload_n 0, 1) := by decide +kernel
theorem dX0_isInBounds_1 : decode cX0_isInBounds 1 = .ok (.getfield 51, 3) := by decide +kernel
theorem dX0_isInBounds_4 : decode cX0_isInBounds 4 = .ok (.ifCond .lt 30, 3) := by decide +kernel
theorem dX0_isInBounds_7 : decode cX0_isInBounds 7 = .ok (.aload_n 0, 1) := by decide +kernel
theorem dX0_isInBounds_8 : decode cX0_isInBounds 8 = .ok (.getfield 51, 3) := by decide +kernel
theorem dX0_isInBounds_11 : decode cX0_isInBounds 11 = .ok (.aload_n 0, 1) := by decide +kernel
theorem dX0_isInBounds_12 : decode cX0_isInBounds 12 = .ok (.invokevirtual 54, 3) := by decide +kernel
theorem dX0_isInBounds_15 : decode cX0_isInBounds 15 = .ok (.if_icmp .gt 19, 3) := by decide +kernel
theorem dX0_isInBounds_18 : decode cX0_isInBounds 18 = .ok (.aload_n 0, 1) := by decide +kernel
theorem dX0_isInBounds_19 : decode cX0_isInBounds 19 = .ok (.getfield 12, 3) := by decide +kernel
theorem dX0_isInBounds_22 : decode cX0_isInBounds 22 = .ok (.getfield 119, 3) := by decide +kernel
theorem dX0_isInBounds_25 : decode cX0_isInBounds 25 = .ok (.bipush 8, 2) := by decide +kernel
theorem dX0_isInBounds_27 : decode cX0_isInBounds 27 = .ok (.if_icmp .gt 7, 3) := by decide +kernel
theorem dX0_isInBounds_30 : decode cX0_isInBounds 30 = .ok (.iconst 1, 1) := by decide +kernel
theorem dX0_isInBounds_31 : decode cX0_isInBounds 31 = .ok (.goto 4, 3) := by decide +kernel
theorem dX0_isInBounds_34 : decode cX0_isInBounds 34 = .ok (.iconst 0, 1) := by decide +kernel
theorem dX0_isInBounds_35 : decode cX0_isInBounds 35 = .ok (.ireturn, 1) := by decide +kernel
theorem dX1_init_0 : decode cX1_init 0 = .ok (.aload_n 0, 1) := by decide +kernel
theorem dX1_init_1 : decode cX1_init 1 = .ok (.invokespecial 3, 3) := by decide +kernel
theorem dX1_init_4 : decode cX1_init 4 = .ok (.aload_n 0, 1) := by decide +kernel
theorem dX1_init_5 : decode cX1_init 5 = .ok (.bipush 8, 2) := by decide +kernel
theorem dX1_init_7 : decode cX1_init 7 = .ok (.newarray .int, 2) := by decide +kernel
theorem dX1_init_9 : decode cX1_init 9 = .ok (.putfield 9, 3) := by decide +kernel
theorem dX1_init_12 : decode cX1_init 12 = .ok (.aload_n 0, 1) := by decide +kernel
theorem dX1_init_13 : decode cX1_init 13 = .ok (.bipush 8, 2) := by decide +kernel
theorem dX1_init_15 : decode cX1_init 15 = .ok (.newarray .int, 2) := by decide +kernel
theorem dX1_init_17 : decode cX1_init 17 = .ok (.putfield 15, 3) := by decide +kernel
theorem dX1_init_20 : decode cX1_init 20 = .ok (.return_, 1) := by decide +kernel
theorem dX2_init_0 : decode cX2_init 0 = .ok (.aload_n 0, 1) := by decide +kernel
theorem dX2_init_1 : decode cX2_init 1 = .ok (.invokespecial 3, 3) := by decide +kernel
theorem dX2_init_4 : decode cX2_init 4 = .ok (.aload_n 0, 1) := by decide +kernel
theorem dX2_init_5 : decode cX2_init 5 = .ok (.iconst (-1), 1) := by decide +kernel
theorem dX2_init_6 : decode cX2_init 6 = .ok (.putfield 9, 3) := by decide +kernel
theorem dX2_init_9 : decode cX2_init 9 = .ok (.aload_n 0, 1) := by decide +kernel
theorem dX2_init_10 : decode cX2_init 10 = .ok (.iconst (-1), 1) := by decide +kernel
theorem dX2_init_11 : decode cX2_init 11 = .ok (.putfield 15, 3) := by decide +kernel
theorem dX2_init_14 : decode cX2_init 14 = .ok (.aload_n 0, 1) := by decide +kernel
theorem dX2_init_15 : decode cX2_init 15 = .ok (.bipush 32, 2) := by decide +kernel
theorem dX2_init_17 : decode cX2_init 17 = .ok (.putfield 18, 3) := by decide +kernel
theorem dX2_init_20 : decode cX2_init 20 = .ok (.aload_n 0, 1) := by decide +kernel
theorem dX2_init_21 : decode cX2_init 21 = .ok (.aload_n 1, 1) := by decide +kernel
theorem dX2_init_22 : decode cX2_init 22 = .ok (.putfield 22, 3) := by decide +kernel
theorem dX2_init_25 : decode cX2_init 25 = .ok (.return_, 1) := by decide +kernel
theorem dX3_init_0 : decode cX3_init 0 = .ok (.aload_n 0, 1) := by decide +kernel
theorem dX3_init_1 : decode cX3_init 1 = .ok (.invokespecial 3, 3) := by decide +kernel
theorem dX3_init_4 : decode cX3_init 4 = .ok (.aload_n 0, 1) := by decide +kernel
theorem dX3_init_5 : decode cX3_init 5 = .ok (.bipush 20, 2) := by decide +kernel
theorem dX3_init_7 : decode cX3_init 7 = .ok (.newarray .int, 2) := by decide +kernel
theorem dX3_init_9 : decode cX3_init 9 = .ok (.putfield 9, 3) := by decide +kernel
theorem dX3_init_12 : decode cX3_init 12 = .ok (.iconst 0, 1) := by decide +kernel
theorem dX3_init_13 : decode cX3_init 13 = .ok (.istore_n 3, 1) := by decide +kernel
theorem dX3_init_14 : decode cX3_init 14 = .ok (.iload_n 3, 1) := by decide +kernel
theorem dX3_init_15 : decode cX3_init 15 = .ok (.aload_n 0, 1) := by decide +kernel
theorem dX3_init_16 : decode cX3_init 16 = .ok (.getfield 9, 3) := by decide +kernel
theorem dX3_init_19 : decode cX3_init 19 = .ok (.arraylength, 1) := by decide +kernel
theorem dX3_init_20 : decode cX3_init 20 = .ok (.if_icmp .ge 29, 3) := by decide +kernel
theorem dX3_init_23 : decode cX3_init 23 = .ok (.aload_n 0, 1) := by decide +kernel
theorem dX3_init_24 : decode cX3_init 24 = .ok (.getfield 9, 3) := by decide +kernel
theorem dX3_init_27 : decode cX3_init 27 = .ok (.iload_n 3, 1) := by decide +kernel
theorem dX3_init_28 : decode cX3_init 28 = .ok (.iconst 1, 1) := by decide +kernel
theorem dX3_init_29 : decode cX3_init 29 = .ok (.bipush 60, 2) := by decide +kernel
theorem dX3_init_31 : decode cX3_init 31 = .ok (.iload_n 1, 1) := by decide +kernel
theorem dX3_init_32 : decode cX3_init 32 = .ok (.iload_n 3, 1) := by decide +kernel
theorem dX3_init_33 : decode cX3_init 33 = .ok (.iload_n 2, 1) := by decide +kernel
theorem dX3_init_34 : decode cX3_init 34 = .ok (.imul, 1) := by decide +kernel
theorem dX3_init_35 : decode cX3_init 35 = .ok (.iadd, 1) := by decide +kernel
theorem dX3_init_36 : decode cX3_init 36 = .ok (.invokestatic 15, 3) := by decide +kernel
theorem dX3_init_39 : decode cX3_init 39 = .ok (.invokestatic 21, 3) := by decide +kernel
theorem dX3_init_42 : decode cX3_init 42 = .ok (.iastore, 1) := by decide +kernel
theorem dX3_init_43 : decode cX3_init 43 = .ok (.iinc 3 1, 3) := by decide +kernel
theorem dX3_init_46 : decode cX3_init 46 = .ok (.goto (-32), 3) := by decide +kernel
theorem dX3_init_49 : decode cX3_init 49 = .ok (.return_, 1) := by decide +kernel
theorem dX3_boreOf_0 : decode cX3_boreOf 0 = .ok (.iload_n 1, 1) := by decide +kernel
theorem dX3_boreOf_1 : decode cX3_boreOf 1 = .ok (.ifCond .lt 21, 3) := by decide +kernel
theorem dX3_boreOf_4 : decode cX3_boreOf 4 = .ok (.iload_n 1, 1) := by decide +kernel
theorem dX3_boreOf_5 : decode cX3_boreOf 5 = .ok (.aload_n 0, 1) := by decide +kernel
theorem dX3_boreOf_6 : decode cX3_boreOf 6 = .ok (.getfield 9, 3) := by decide +kernel
theorem dX3_boreOf_9 : decode cX3_boreOf 9 = .ok (.arraylength, 1) := by decide +kernel
theorem dX3_boreOf_10 : decode cX3_boreOf 10 = .ok (.if_icmp .ge 12, 3) := by decide +kernel
theorem dX3_boreOf_13 : decode cX3_boreOf 13 = .ok (.aload_n 0, 1) := by decide +kernel
theorem dX3_boreOf_14 : decode cX3_boreOf 14 = .ok (.getfield 9, 3) := by decide +kernel
theorem dX3_boreOf_17 : decode cX3_boreOf 17 = .ok (.iload_n 1, 1) := by decide +kernel
theorem dX3_boreOf_18 : decode cX3_boreOf 18 = .ok (.iaload, 1) := by decide +kernel
theorem dX3_boreOf_19 : decode cX3_boreOf 19 = .ok (.goto 4, 3) := by decide +kernel
theorem dX3_boreOf_22 : decode cX3_boreOf 22 = .ok (.iconst 0, 1) := by decide +kernel
theorem dX3_boreOf_23 : decode cX3_boreOf 23 = .ok (.ireturn, 1) := by decide +kernel
theorem dX3_setBore_0 : decode cX3_setBore 0 = .ok (.iload_n 1, 1) := by decide +kernel
theorem dX3_setBore_1 : decode cX3_setBore 1 = .ok (.ifCond .lt 19, 3) := by decide +kernel
theorem dX3_setBore_4 : decode cX3_setBore 4 = .ok (.iload_n 1, 1) := by decide +kernel
theorem dX3_setBore_5 : decode cX3_setBore 5 = .ok (.aload_n 0, 1) := by decide +kernel
theorem dX3_setBore_6 : decode cX3_setBore 6 = .ok (.getfield 9, 3) := by decide +kernel
theorem dX3_setBore_9 : decode cX3_setBore 9 = .ok (.arraylength, 1) := by decide +kernel
theorem dX3_setBore_10 : decode cX3_setBore 10 = .ok (.if_icmp .ge 10, 3) := by decide +kernel
theorem dX3_setBore_13 : decode cX3_setBore 13 = .ok (.aload_n 0, 1) := by decide +kernel
theorem dX3_setBore_14 : decode cX3_setBore 14 = .ok (.getfield 9, 3) := by decide +kernel
theorem dX3_setBore_17 : decode cX3_setBore 17 = .ok (.iload_n 1, 1) := by decide +kernel
theorem dX3_setBore_18 : decode cX3_setBore 18 = .ok (.iload_n 2, 1) := by decide +kernel
theorem dX3_setBore_19 : decode cX3_setBore 19 = .ok (.iastore, 1) := by decide +kernel
theorem dX3_setBore_20 : decode cX3_setBore 20 = .ok (.return_, 1) := by decide +kernel
set_option maxRecDepth 20000 in
theorem ggX3_volumeUpTo_X3_stepsBelow : GoodIn wsX3_volumeUpTo wsX3_stepsBelow := goodIn_r _ [5, 6, 7, 8, 9, 10, 11, 12] (by decide +kernel) (by decide +kernel)
set_option maxRecDepth 20000 in
theorem gX3_volumeUpTo_X3_stepsBelow : GoodIn wsX3_volumeUpTo (va_wsS RX3 24 yX3_stepsBelow wsX3_stepsBelow) := goodIn_app (goodIn_of _ (by decide +kernel)) ggX3_volumeUpTo_X3_stepsBelow
theorem dX3_volumeUpTo_0 : decode cX3_volumeUpTo 0 = .ok (.iconst 0, 1) := by decide +kernel
theorem dX3_volumeUpTo_1 : decode cX3_volumeUpTo 1 = .ok (.istore_n 2, 1) := by decide +kernel
theorem dX3_volumeUpTo_2 : decode cX3_volumeUpTo 2 = .ok (.iconst 0, 1) := by decide +kernel
theorem dX3_volumeUpTo_3 : decode cX3_volumeUpTo 3 = .ok (.istore_n 3, 1) := by decide +kernel
theorem dX3_volumeUpTo_4 : decode cX3_volumeUpTo 4 = .ok (.iload_n 3, 1) := by decide +kernel
theorem dX3_volumeUpTo_5 : decode cX3_volumeUpTo 5 = .ok (.aload_n 0, 1) := by decide +kernel
theorem dX3_volumeUpTo_6 : decode cX3_volumeUpTo 6 = .ok (.getfield 9, 3) := by decide +kernel
theorem dX3_volumeUpTo_9 : decode cX3_volumeUpTo 9 = .ok (.arraylength, 1) := by decide +kernel
theorem dX3_volumeUpTo_10 : decode cX3_volumeUpTo 10 = .ok (.if_icmp .ge 24, 3) := by decide +kernel
theorem dX3_volumeUpTo_13 : decode cX3_volumeUpTo 13 = .ok (.iload_n 2, 1) := by decide +kernel
theorem dX3_volumeUpTo_14 : decode cX3_volumeUpTo 14 = .ok (.aload_n 0, 1) := by decide +kernel
theorem dX3_volumeUpTo_15 : decode cX3_volumeUpTo 15 = .ok (.getfield 9, 3) := by decide +kernel
theorem dX3_volumeUpTo_18 : decode cX3_volumeUpTo 18 = .ok (.iload_n 3, 1) := by decide +kernel
theorem dX3_volumeUpTo_19 : decode cX3_volumeUpTo 19 = .ok (.iaload, 1) := by decide +kernel
theorem dX3_volumeUpTo_20 : decode cX3_volumeUpTo 20 = .ok (.iload_n 1, 1) := by decide +kernel
theorem dX3_volumeUpTo_21 : decode cX3_volumeUpTo 21 = .ok (.iload_n 3, 1) := by decide +kernel
theorem dX3_volumeUpTo_22 : decode cX3_volumeUpTo 22 = .ok (.invokestatic 24, 3) := by decide +kernel
theorem dX3_volumeUpTo_25 : decode cX3_volumeUpTo 25 = .ok (.imul, 1) := by decide +kernel
theorem dX3_volumeUpTo_26 : decode cX3_volumeUpTo 26 = .ok (.iadd, 1) := by decide +kernel
theorem dX3_volumeUpTo_27 : decode cX3_volumeUpTo 27 = .ok (.istore_n 2, 1) := by decide +kernel
theorem dX3_volumeUpTo_28 : decode cX3_volumeUpTo 28 = .ok (.iinc 3 1, 3) := by decide +kernel
theorem dX3_volumeUpTo_31 : decode cX3_volumeUpTo 31 = .ok (.goto (-27), 3) := by decide +kernel
theorem dX3_volumeUpTo_34 : decode cX3_volumeUpTo 34 = .ok (.iload_n 2, 1) := by decide +kernel
theorem dX3_volumeUpTo_35 : decode cX3_volumeUpTo 35 = .ok (.ireturn, 1) := by decide +kernel
set_option maxRecDepth 20000 in
theorem ggX3_firstPlaceHolding_X3_volumeUpTo : GoodIn wsX3_firstPlaceHolding wsX3_volumeUpTo := goodIn_r _ [5, 6, 7, 8, 4, 9, 10, 11, 12, 13, 14, 15, 16, 17, 18] (by decide +kernel) (by decide +kernel)
set_option maxRecDepth 20000 in
theorem gX3_firstPlaceHolding_X3_volumeUpTo : GoodIn wsX3_firstPlaceHolding (wsV RX3 27 RX3 yX3_volumeUpTo wsX3_volumeUpTo) := goodIn_app (goodIn_of _ (by decide +kernel)) ggX3_firstPlaceHolding_X3_volumeUpTo
theorem dX3_firstPlaceHolding_0 : decode cX3_firstPlaceHolding 0 = .ok (.iconst 0, 1) := by decide +kernel
theorem dX3_firstPlaceHolding_1 : decode cX3_firstPlaceHolding 1 = .ok (.istore_n 2, 1) := by decide +kernel
theorem dX3_firstPlaceHolding_2 : decode cX3_firstPlaceHolding 2 = .ok (.iload_n 2, 1) := by decide +kernel
theorem dX3_firstPlaceHolding_3 : decode cX3_firstPlaceHolding 3 = .ok (.sipush 200, 3) := by decide +kernel
theorem dX3_firstPlaceHolding_6 : decode cX3_firstPlaceHolding 6 = .ok (.if_icmp .gt 20, 3) := by decide +kernel
theorem dX3_firstPlaceHolding_9 : decode cX3_firstPlaceHolding 9 = .ok (.aload_n 0, 1) := by decide +kernel
theorem dX3_firstPlaceHolding_10 : decode cX3_firstPlaceHolding 10 = .ok (.iload_n 2, 1) := by decide +kernel
theorem dX3_firstPlaceHolding_11 : decode cX3_firstPlaceHolding 11 = .ok (.invokevirtual 27, 3) := by decide +kernel
theorem dX3_firstPlaceHolding_14 : decode cX3_firstPlaceHolding 14 = .ok (.iload_n 1, 1) := by decide +kernel
theorem dX3_firstPlaceHolding_15 : decode cX3_firstPlaceHolding 15 = .ok (.if_icmp .lt 5, 3) := by decide +kernel
theorem dX3_firstPlaceHolding_18 : decode cX3_firstPlaceHolding 18 = .ok (.iload_n 2, 1) := by decide +kernel
theorem dX3_firstPlaceHolding_19 : decode cX3_firstPlaceHolding 19 = .ok (.ireturn, 1) := by decide +kernel
theorem dX3_firstPlaceHolding_20 : decode cX3_firstPlaceHolding 20 = .ok (.iinc 2 1, 3) := by decide +kernel
theorem dX3_firstPlaceHolding_23 : decode cX3_firstPlaceHolding 23 = .ok (.goto (-21), 3) := by decide +kernel
theorem dX3_firstPlaceHolding_26 : decode cX3_firstPlaceHolding 26 = .ok (.iconst (-1), 1) := by decide +kernel
theorem dX3_firstPlaceHolding_27 : decode cX3_firstPlaceHolding 27 = .ok (.ireturn, 1) := by decide +kernel
set_option maxRecDepth 20000 in
theorem ggX3_widestSection_X3_boreOf : GoodIn wsX3_widestSection wsX3_boreOf := goodIn_r _ [6, 1, 7, 8] (by decide +kernel) (by decide +kernel)
set_option maxRecDepth 20000 in
theorem gX3_widestSection_X3_boreOf : GoodIn wsX3_widestSection (wsV RX3 31 RX3 yX3_boreOf wsX3_boreOf) := goodIn_app (goodIn_of _ (by decide +kernel)) ggX3_widestSection_X3_boreOf
theorem dX3_widestSection_0 : decode cX3_widestSection 0 = .ok (.iconst 0, 1) := by decide +kernel
theorem dX3_widestSection_1 : decode cX3_widestSection 1 = .ok (.istore_n 1, 1) := by decide +kernel
theorem dX3_widestSection_2 : decode cX3_widestSection 2 = .ok (.iconst 1, 1) := by decide +kernel
theorem dX3_widestSection_3 : decode cX3_widestSection 3 = .ok (.istore_n 2, 1) := by decide +kernel
theorem dX3_widestSection_4 : decode cX3_widestSection 4 = .ok (.iload_n 2, 1) := by decide +kernel
theorem dX3_widestSection_5 : decode cX3_widestSection 5 = .ok (.aload_n 0, 1) := by decide +kernel
theorem dX3_widestSection_6 : decode cX3_widestSection 6 = .ok (.getfield 9, 3) := by decide +kernel
theorem dX3_widestSection_9 : decode cX3_widestSection 9 = .ok (.arraylength, 1) := by decide +kernel
theorem dX3_widestSection_10 : decode cX3_widestSection 10 = .ok (.if_icmp .ge 25, 3) := by decide +kernel
theorem dX3_widestSection_13 : decode cX3_widestSection 13 = .ok (.aload_n 0, 1) := by decide +kernel
theorem dX3_widestSection_14 : decode cX3_widestSection 14 = .ok (.getfield 9, 3) := by decide +kernel
theorem dX3_widestSection_17 : decode cX3_widestSection 17 = .ok (.iload_n 2, 1) := by decide +kernel
theorem dX3_widestSection_18 : decode cX3_widestSection 18 = .ok (.iaload, 1) := by decide +kernel
theorem dX3_widestSection_19 : decode cX3_widestSection 19 = .ok (.aload_n 0, 1) := by decide +kernel
theorem dX3_widestSection_20 : decode cX3_widestSection 20 = .ok (.iload_n 1, 1) := by decide +kernel
theorem dX3_widestSection_21 : decode cX3_widestSection 21 = .ok (.invokevirtual 31, 3) := by decide +kernel
theorem dX3_widestSection_24 : decode cX3_widestSection 24 = .ok (.if_icmp .le 5, 3) := by decide +kernel
theorem dX3_widestSection_27 : decode cX3_widestSection 27 = .ok (.iload_n 2, 1) := by decide +kernel
theorem dX3_widestSection_28 : decode cX3_widestSection 28 = .ok (.istore_n 1, 1) := by decide +kernel
theorem dX3_widestSection_29 : decode cX3_widestSection 29 = .ok (.iinc 2 1, 3) := by decide +kernel
theorem dX3_widestSection_32 : decode cX3_widestSection 32 = .ok (.goto (-28), 3) := by decide +kernel
theorem dX3_widestSection_35 : decode cX3_widestSection 35 = .ok (.iload_n 1, 1) := by decide +kernel
theorem dX3_widestSection_36 : decode cX3_widestSection 36 = .ok (.ireturn, 1) := by decide +kernel
set_option maxRecDepth 20000 in
theorem ggX3_clinging_X3_stepsBelow : GoodIn wsX3_clinging wsX3_stepsBelow := goodIn_r _ [9, 2, 3, 4, 5, 10, 11, 12] (by decide +kernel) (by decide +kernel)
set_option maxRecDepth 20000 in
theorem gX3_clinging_X3_stepsBelow : GoodIn wsX3_clinging (va_wsS RX3 24 yX3_stepsBelow wsX3_stepsBelow) := goodIn_app (goodIn_of _ (by decide +kernel)) ggX3_clinging_X3_stepsBelow
theorem dX3_clinging_0 : decode cX3_clinging 0 = .ok (.iconst 0, 1) := by decide +kernel
theorem dX3_clinging_1 : decode cX3_clinging 1 = .ok (.istore 4, 2) := by decide +kernel
theorem dX3_clinging_3 : decode cX3_clinging 3 = .ok (.iconst 0, 1) := by decide +kernel
theorem dX3_clinging_4 : decode cX3_clinging 4 = .ok (.istore 5, 2) := by decide +kernel
theorem dX3_clinging_6 : decode cX3_clinging 6 = .ok (.iload 5, 2) := by decide +kernel
theorem dX3_clinging_8 : decode cX3_clinging 8 = .ok (.aload_n 0, 1) := by decide +kernel
theorem dX3_clinging_9 : decode cX3_clinging 9 = .ok (.getfield 9, 3) := by decide +kernel
theorem dX3_clinging_12 : decode cX3_clinging 12 = .ok (.arraylength, 1) := by decide +kernel
theorem dX3_clinging_13 : decode cX3_clinging 13 = .ok (.if_icmp .ge 43, 3) := by decide +kernel
theorem dX3_clinging_16 : decode cX3_clinging 16 = .ok (.iload_n 2, 1) := by decide +kernel
theorem dX3_clinging_17 : decode cX3_clinging 17 = .ok (.iload 5, 2) := by decide +kernel
theorem dX3_clinging_19 : decode cX3_clinging 19 = .ok (.invokestatic 24, 3) := by decide +kernel
theorem dX3_clinging_22 : decode cX3_clinging 22 = .ok (.iload_n 1, 1) := by decide +kernel
theorem dX3_clinging_23 : decode cX3_clinging 23 = .ok (.iload 5, 2) := by decide +kernel
theorem dX3_clinging_25 : decode cX3_clinging 25 = .ok (.invokestatic 24, 3) := by decide +kernel
theorem dX3_clinging_28 : decode cX3_clinging 28 = .ok (.isub, 1) := by decide +kernel
theorem dX3_clinging_29 : decode cX3_clinging 29 = .ok (.istore 6, 2) := by decide +kernel
theorem dX3_clinging_31 : decode cX3_clinging 31 = .ok (.iload 4, 2) := by decide +kernel
theorem dX3_clinging_33 : decode cX3_clinging 33 = .ok (.iload 6, 2) := by decide +kernel
theorem dX3_clinging_35 : decode cX3_clinging 35 = .ok (.iload_n 3, 1) := by decide +kernel
theorem dX3_clinging_36 : decode cX3_clinging 36 = .ok (.aload_n 0, 1) := by decide +kernel
theorem dX3_clinging_37 : decode cX3_clinging 37 = .ok (.getfield 9, 3) := by decide +kernel
theorem dX3_clinging_40 : decode cX3_clinging 40 = .ok (.iload 5, 2) := by decide +kernel
theorem dX3_clinging_42 : decode cX3_clinging 42 = .ok (.iaload, 1) := by decide +kernel
theorem dX3_clinging_43 : decode cX3_clinging 43 = .ok (.invokestatic 15, 3) := by decide +kernel
theorem dX3_clinging_46 : decode cX3_clinging 46 = .ok (.imul, 1) := by decide +kernel
theorem dX3_clinging_47 : decode cX3_clinging 47 = .ok (.iadd, 1) := by decide +kernel
theorem dX3_clinging_48 : decode cX3_clinging 48 = .ok (.istore 4, 2) := by decide +kernel
theorem dX3_clinging_50 : decode cX3_clinging 50 = .ok (.iinc 5 1, 3) := by decide +kernel
theorem dX3_clinging_53 : decode cX3_clinging 53 = .ok (.goto (-47), 3) := by decide +kernel
theorem dX3_clinging_56 : decode cX3_clinging 56 = .ok (.iload 4, 2) := by decide +kernel
theorem dX3_clinging_58 : decode cX3_clinging 58 = .ok (.ireturn, 1) := by decide +kernel
theorem dX3_stepsBelow_0 : decode cX3_stepsBelow 0 = .ok (.iconst 0, 1) := by decide +kernel
theorem dX3_stepsBelow_1 : decode cX3_stepsBelow 1 = .ok (.bipush 10, 2) := by decide +kernel
theorem dX3_stepsBelow_3 : decode cX3_stepsBelow 3 = .ok (.iload_n 0, 1) := by decide +kernel
theorem dX3_stepsBelow_4 : decode cX3_stepsBelow 4 = .ok (.iload_n 1, 1) := by decide +kernel
theorem dX3_stepsBelow_5 : decode cX3_stepsBelow 5 = .ok (.bipush 10, 2) := by decide +kernel
theorem dX3_stepsBelow_7 : decode cX3_stepsBelow 7 = .ok (.imul, 1) := by decide +kernel
theorem dX3_stepsBelow_8 : decode cX3_stepsBelow 8 = .ok (.isub, 1) := by decide +kernel
theorem dX3_stepsBelow_9 : decode cX3_stepsBelow 9 = .ok (.invokestatic 15, 3) := by decide +kernel
theorem dX3_stepsBelow_12 : decode cX3_stepsBelow 12 = .ok (.invokestatic 21, 3) := by decide +kernel
theorem dX3_stepsBelow_15 : decode cX3_stepsBelow 15 = .ok (.ireturn, 1) := by decide +kernel
end
section
theorem dX4_init_0 : decode cX4_init 0 = .ok (.aload_n 0, 1) := by decide +kernel
theorem dX4_init_1 : decode cX4_init 1 = .ok (.invokespecial 3, 3) := by decide +kernel
theorem dX4_init_4 : decode cX4_init 4 = .ok (.aload_n 0, 1) := by decide +kernel
theorem dX4_init_5 : decode cX4_init 5 = .ok (.bipush 8, 2) := by decide +kernel
theorem dX4_init_7 : decode cX4_init 7 = .ok (.anewarray 9, 3) := by decide +kernel
theorem dX4_init_10 : decode cX4_init 10 = .ok (.putfield 11, 3) := by decide +kernel
theorem dX4_init_13 : decode cX4_init 13 = .ok (.aload_n 0, 1) := by decide +kernel
theorem dX4_init_14 : decode cX4_init 14 = .ok (.bipush 6, 2) := by decide +kernel
theorem dX4_init_16 : decode cX4_init 16 = .ok (.anewarray 15, 3) := by decide +kernel
theorem dX4_init_19 : decode cX4_init 19 = .ok (.putfield 17, 3) := by decide +kernel
theorem dX4_init_22 : decode cX4_init 22 = .ok (.aload_n 0, 1) := by decide +kernel
theorem dX4_init_23 : decode cX4_init 23 = .ok (.sipush 200, 3) := by decide +kernel
theorem dX4_init_26 : decode cX4_init 26 = .ok (.putfield 21, 3) := by decide +kernel
theorem dX4_init_29 : decode cX4_init 29 = .ok (.return_, 1) := by decide +kernel
set_option maxRecDepth 20000 in
theorem ggX4_draw_X4_demandRange : GoodIn wsX4_draw wsX4_demandRange := goodIn_ca (goodIn_r _ [11, 12, 13] (by decide +kernel) (by decide +kernel)) (goodIn_sub (fun _ h => List.mem_cons_of_mem _ (List.mem_append_right _ h)) (by decide +kernel))
set_option maxRecDepth 20000 in
theorem gX4_draw_X4_demandRange : GoodIn wsX4_draw (va_wsS RX4 25 yX4_demandRange wsX4_demandRange) := goodIn_app (goodIn_of _ (by decide +kernel)) ggX4_draw_X4_demandRange
set_option maxRecDepth 20000 in
theorem ggX4_draw_X3_init : GoodIn wsX4_draw wsX3_init := goodIn_r _ [16, 17, 18, 19, 20, 21, 22, 23, 24, 25, 26, 27, 28, 38, 39] (by decide +kernel) (by decide +kernel)
set_option maxRecDepth 20000 in
theorem gX4_draw_X3_init : GoodIn wsX4_draw (wsX3_init) := ggX4_draw_X3_init
theorem dX4_draw_0 : decode cX4_draw 0 = .ok (.iload_n 1, 1) := by decide +kernel
theorem dX4_draw_1 : decode cX4_draw 1 = .ok (.iconst 1, 1) := by decide +kernel
theorem dX4_draw_2 : decode cX4_draw 2 = .ok (.bipush 40, 2) := by decide +kernel
theorem dX4_draw_4 : decode cX4_draw 4 = .ok (.invokestatic 25, 3) := by decide +kernel
theorem dX4_draw_7 : decode cX4_draw 7 = .ok (.iload_n 2, 1) := by decide +kernel
theorem dX4_draw_8 : decode cX4_draw 8 = .ok (.bipush (-2), 2) := by decide +kernel
theorem dX4_draw_10 : decode cX4_draw 10 = .ok (.iconst 2, 1) := by decide +kernel
theorem dX4_draw_11 : decode cX4_draw 11 = .ok (.invokestatic 25, 3) := by decide +kernel
theorem dX4_draw_14 : decode cX4_draw 14 = .ok (.aload_n 0, 1) := by decide +kernel
theorem dX4_draw_15 : decode cX4_draw 15 = .ok (.getfield 29, 3) := by decide +kernel
theorem dX4_draw_18 : decode cX4_draw 18 = .ok (.aload_n 0, 1) := by decide +kernel
theorem dX4_draw_19 : decode cX4_draw 19 = .ok (.getfield 11, 3) := by decide +kernel
theorem dX4_draw_22 : decode cX4_draw 22 = .ok (.arraylength, 1) := by decide +kernel
theorem dX4_draw_23 : decode cX4_draw 23 = .ok (.if_icmp .lt 13, 3) := by decide +kernel
theorem dX4_draw_26 : decode cX4_draw 26 = .ok (.new 32, 3) := by decide +kernel
theorem dX4_draw_29 : decode cX4_draw 29 = .ok (.dup, 1) := by decide +kernel
theorem dX4_draw_30 : decode cX4_draw 30 = .ok (.ldc 34, 2) := by decide +kernel
theorem dX4_draw_32 : decode cX4_draw 32 = .ok (.invokespecial 36, 3) := by decide +kernel
theorem dX4_draw_35 : decode cX4_draw 35 = .ok (.athrow, 1) := by decide +kernel
theorem dX4_draw_36 : decode cX4_draw 36 = .ok (.aload_n 0, 1) := by decide +kernel
theorem dX4_draw_37 : decode cX4_draw 37 = .ok (.getfield 29, 3) := by decide +kernel
theorem dX4_draw_40 : decode cX4_draw 40 = .ok (.istore_n 3, 1) := by decide +kernel
theorem dX4_draw_41 : decode cX4_draw 41 = .ok (.aload_n 0, 1) := by decide +kernel
theorem dX4_draw_42 : decode cX4_draw 42 = .ok (.getfield 11, 3) := by decide +kernel
theorem dX4_draw_45 : decode cX4_draw 45 = .ok (.iload_n 3, 1) := by decide +kernel
theorem dX4_draw_46 : decode cX4_draw 46 = .ok (.new 9, 3) := by decide +kernel
theorem dX4_draw_49 : decode cX4_draw 49 = .ok (.dup, 1) := by decide +kernel
theorem dX4_draw_50 : decode cX4_draw 50 = .ok (.iload_n 1, 1) := by decide +kernel
theorem dX4_draw_51 : decode cX4_draw 51 = .ok (.iload_n 2, 1) := by decide +kernel
theorem dX4_draw_52 : decode cX4_draw 52 = .ok (.invokespecial 39, 3) := by decide +kernel
theorem dX4_draw_55 : decode cX4_draw 55 = .ok (.aastore, 1) := by decide +kernel
theorem dX4_draw_56 : decode cX4_draw 56 = .ok (.aload_n 0, 1) := by decide +kernel
theorem dX4_draw_57 : decode cX4_draw 57 = .ok (.dup, 1) := by decide +kernel
theorem dX4_draw_58 : decode cX4_draw 58 = .ok (.getfield 29, 3) := by decide +kernel
theorem dX4_draw_61 : decode cX4_draw 61 = .ok (.iconst 1, 1) := by decide +kernel
theorem dX4_draw_62 : decode cX4_draw 62 = .ok (.iadd, 1) := by decide +kernel
theorem dX4_draw_63 : decode cX4_draw 63 = .ok (.putfield 29, 3) := by decide +kernel
theorem dX4_draw_66 : decode cX4_draw 66 = .ok (.iload_n 3, 1) := by decide +kernel
theorem dX4_draw_67 : decode cX4_draw 67 = .ok (.ireturn, 1) := by decide +kernel
set_option maxRecDepth 20000 in
theorem ggX4_section_X4_tubeNumbered : GoodIn wsX4_section wsX4_tubeNumbered := goodIn_ca (goodIn_r _ [5, 6, 7, 8, 29, 30, 31, 32, 33, 34, 35, 36, 37] (by decide +kernel) (by decide +kernel)) (goodIn_sub (fun _ h => List.mem_cons_of_mem _ (List.mem_append_left _ (List.mem_append_left _ (List.mem_append_right _ h)))) (by decide +kernel))
set_option maxRecDepth 20000 in
theorem gX4_section_X4_tubeNumbered : GoodIn wsX4_section (wsV RX4 42 RX4 yX4_tubeNumbered wsX4_tubeNumbered) := goodIn_app (goodIn_of _ (by decide +kernel)) ggX4_section_X4_tubeNumbered
set_option maxRecDepth 20000 in
theorem ggX4_section_X4_demandRange : GoodIn wsX4_section wsX4_demandRange := goodIn_ca (goodIn_r _ [11, 12, 13] (by decide +kernel) (by decide +kernel)) (goodIn_sub (fun _ h => List.mem_cons_of_mem _ (List.mem_append_left _ (List.mem_append_right _ h))) (by decide +kernel))
set_option maxRecDepth 20000 in
theorem gX4_section_X4_demandRange : GoodIn wsX4_section (va_wsS RX4 25 yX4_demandRange wsX4_demandRange) := goodIn_app (goodIn_of _ (by decide +kernel)) ggX4_section_X4_demandRange
set_option maxRecDepth 20000 in
theorem ggX4_section_X4_demandUnused : GoodIn wsX4_section wsX4_demandUnused := goodIn_ca (goodIn_r _ [16, 17, 18, 38, 39] (by decide +kernel) (by decide +kernel)) (goodIn_sub (fun _ h => List.mem_cons_of_mem _ (List.mem_append_right _ h)) (by decide +kernel))
set_option maxRecDepth 20000 in
theorem gX4_section_X4_demandUnused : GoodIn wsX4_section (va_wsS RX4 46 yX4_demandUnused wsX4_demandUnused) := goodIn_app (goodIn_of _ (by decide +kernel)) ggX4_section_X4_demandUnused
set_option maxRecDepth 20000 in
theorem ggX4_section_X3_boreOf : GoodIn wsX4_section wsX3_boreOf := goodIn_r _ [23, 24, 38, 39] (by decide +kernel) (by decide +kernel)
set_option maxRecDepth 20000 in
theorem gX4_section_X3_boreOf : GoodIn wsX4_section (wsV RX4 50 RX3 yX3_boreOf wsX3_boreOf) := goodIn_app (goodIn_of _ (by decide +kernel)) ggX4_section_X3_boreOf
set_option maxRecDepth 20000 in
theorem ggX4_section_X3_setBore : GoodIn wsX4_section wsX3_setBore := goodIn_r _ [28, 24, 38, 39] (by decide +kernel) (by decide +kernel)
set_option maxRecDepth 20000 in
theorem gX4_section_X3_setBore : GoodIn wsX4_section (wsV RX4 54 RX3 yX3_setBore wsX3_setBore) := goodIn_app (goodIn_of _ (by decide +kernel)) ggX4_section_X3_setBore
theorem dX4_section_0 : decode cX4_section 0 = .ok (.aload_n 0, 1) := by decide +kernel
theorem dX4_section_1 : decode cX4_section 1 = .ok (.iload_n 1, 1) := by decide +kernel
theorem dX4_section_2 : decode cX4_section 2 = .ok (.invokevirtual 42, 3) := by decide +kernel
theorem dX4_section_5 : decode cX4_section 5 = .ok (.astore 4, 2) := by decide +kernel
theorem dX4_section_7 : decode cX4_section 7 = .ok (.iload_n 2, 1) := by decide +kernel
theorem dX4_section_8 : decode cX4_section 8 = .ok (.iconst 0, 1) := by decide +kernel
theorem dX4_section_9 : decode cX4_section 9 = .ok (.bipush 19, 2) := by decide +kernel
theorem dX4_section_11 : decode cX4_section 11 = .ok (.invokestatic 25, 3) := by decide +kernel
theorem dX4_section_14 : decode cX4_section 14 = .ok (.iload_n 3, 1) := by decide +kernel
theorem dX4_section_15 : decode cX4_section 15 = .ok (.iconst 1, 1) := by decide +kernel
theorem dX4_section_16 : decode cX4_section 16 = .ok (.bipush 60, 2) := by decide +kernel
theorem dX4_section_18 : decode cX4_section 18 = .ok (.invokestatic 25, 3) := by decide +kernel
theorem dX4_section_21 : decode cX4_section 21 = .ok (.aload 4, 2) := by decide +kernel
theorem dX4_section_23 : decode cX4_section 23 = .ok (.invokestatic 46, 3) := by decide +kernel
theorem dX4_section_26 : decode cX4_section 26 = .ok (.aload 4, 2) := by decide +kernel
theorem dX4_section_28 : decode cX4_section 28 = .ok (.iload_n 2, 1) := by decide +kernel
theorem dX4_section_29 : decode cX4_section 29 = .ok (.invokevirtual 50, 3) := by decide +kernel
theorem dX4_section_32 : decode cX4_section 32 = .ok (.istore 5, 2) := by decide +kernel
theorem dX4_section_34 : decode cX4_section 34 = .ok (.aload 4, 2) := by decide +kernel
theorem dX4_section_36 : decode cX4_section 36 = .ok (.iload_n 2, 1) := by decide +kernel
theorem dX4_section_37 : decode cX4_section 37 = .ok (.iload_n 3, 1) := by decide +kernel
theorem dX4_section_38 : decode cX4_section 38 = .ok (.invokevirtual 54, 3) := by decide +kernel
theorem dX4_section_41 : decode cX4_section 41 = .ok (.iload 5, 2) := by decide +kernel
theorem dX4_section_43 : decode cX4_section 43 = .ok (.ireturn, 1) := by decide +kernel
set_option maxRecDepth 20000 in
theorem ggX4_bore_X4_tubeNumbered : GoodIn wsX4_bore wsX4_tubeNumbered := goodIn_ca (goodIn_r _ [5, 6, 7, 8, 20, 21, 22, 23, 24, 25, 26, 27, 28] (by decide +kernel) (by decide +kernel)) (goodIn_sub (fun _ h => List.mem_cons_of_mem _ (List.mem_append_left _ (List.mem_append_right _ h))) (by decide +kernel))
set_option maxRecDepth 20000 in
theorem gX4_bore_X4_tubeNumbered : GoodIn wsX4_bore (wsV RX4 42 RX4 yX4_tubeNumbered wsX4_tubeNumbered) := goodIn_app (goodIn_of _ (by decide +kernel)) ggX4_bore_X4_tubeNumbered
set_option maxRecDepth 20000 in
theorem ggX4_bore_X4_demandRange : GoodIn wsX4_bore wsX4_demandRange := goodIn_ca (goodIn_r _ [11, 12, 13] (by decide +kernel) (by decide +kernel)) (goodIn_sub (fun _ h => List.mem_cons_of_mem _ (List.mem_append_right _ h)) (by decide +kernel))
set_option maxRecDepth 20000 in
theorem gX4_bore_X4_demandRange : GoodIn wsX4_bore (va_wsS RX4 25 yX4_demandRange wsX4_demandRange) := goodIn_app (goodIn_of _ (by decide +kernel)) ggX4_bore_X4_demandRange
set_option maxRecDepth 20000 in
theorem ggX4_bore_X3_boreOf : GoodIn wsX4_bore wsX3_boreOf := goodIn_r _ [18, 19, 29, 30] (by decide +kernel) (by decide +kernel)
set_option maxRecDepth 20000 in
theorem gX4_bore_X3_boreOf : GoodIn wsX4_bore (wsV RX4 50 RX3 yX3_boreOf wsX3_boreOf) := goodIn_app (goodIn_of _ (by decide +kernel)) ggX4_bore_X3_boreOf
theorem dX4_bore_0 : decode cX4_bore 0 = .ok (.aload_n 0, 1) := by decide +kernel
theorem dX4_bore_1 : decode cX4_bore 1 = .ok (.iload_n 1, 1) := by decide +kernel
theorem dX4_bore_2 : decode cX4_bore 2 = .ok (.invokevirtual 42, 3) := by decide +kernel
theorem dX4_bore_5 : decode cX4_bore 5 = .ok (.astore_n 3, 1) := by decide +kernel
theorem dX4_bore_6 : decode cX4_bore 6 = .ok (.iload_n 2, 1) := by decide +kernel
theorem dX4_bore_7 : decode cX4_bore 7 = .ok (.iconst 0, 1) := by decide +kernel
theorem dX4_bore_8 : decode cX4_bore 8 = .ok (.bipush 19, 2) := by decide +kernel
theorem dX4_bore_10 : decode cX4_bore 10 = .ok (.invokestatic 25, 3) := by decide +kernel
theorem dX4_bore_13 : decode cX4_bore 13 = .ok (.aload_n 3, 1) := by decide +kernel
theorem dX4_bore_14 : decode cX4_bore 14 = .ok (.iload_n 2, 1) := by decide +kernel
theorem dX4_bore_15 : decode cX4_bore 15 = .ok (.invokevirtual 50, 3) := by decide +kernel
theorem dX4_bore_18 : decode cX4_bore 18 = .ok (.ireturn, 1) := by decide +kernel
set_option maxRecDepth 20000 in
theorem ggX4_volume_X4_tubeNumbered : GoodIn wsX4_volume wsX4_tubeNumbered := goodIn_ca (goodIn_r _ [5, 6, 7, 8, 33, 34, 35, 36, 37, 38, 39, 40, 41] (by decide +kernel) (by decide +kernel)) (goodIn_sub (fun _ h => List.mem_cons_of_mem _ (List.mem_append_left _ (List.mem_append_right _ h))) (by decide +kernel))
set_option maxRecDepth 20000 in
theorem gX4_volume_X4_tubeNumbered : GoodIn wsX4_volume (wsV RX4 42 RX4 yX4_tubeNumbered wsX4_tubeNumbered) := goodIn_app (goodIn_of _ (by decide +kernel)) ggX4_volume_X4_tubeNumbered
set_option maxRecDepth 20000 in
theorem ggX4_volume_X4_demandPlace : GoodIn wsX4_volume wsX4_demandPlace := goodIn_ca (goodIn_r _ [11, 12, 13, 4, 14, 15, 16] (by decide +kernel) (by decide +kernel)) (goodIn_sub (fun _ h => List.mem_cons_of_mem _ (List.mem_append_right _ h)) (by decide +kernel))
set_option maxRecDepth 20000 in
theorem gX4_volume_X4_demandPlace : GoodIn wsX4_volume (va_wsS RX4 57 yX4_demandPlace wsX4_demandPlace) := goodIn_app (goodIn_of _ (by decide +kernel)) ggX4_volume_X4_demandPlace
set_option maxRecDepth 20000 in
theorem ggX4_volume_X3_volumeUpTo : GoodIn wsX4_volume wsX3_volumeUpTo := goodIn_r _ [21, 22, 23, 24, 20, 25, 26, 27, 28, 29, 30, 31, 32, 42, 43] (by decide +kernel) (by decide +kernel)
set_option maxRecDepth 20000 in
theorem gX4_volume_X3_volumeUpTo : GoodIn wsX4_volume (wsV RX4 61 RX3 yX3_volumeUpTo wsX3_volumeUpTo) := goodIn_app (goodIn_of _ (by decide +kernel)) ggX4_volume_X3_volumeUpTo
theorem dX4_volume_0 : decode cX4_volume 0 = .ok (.aload_n 0, 1) := by decide +kernel
theorem dX4_volume_1 : decode cX4_volume 1 = .ok (.iload_n 1, 1) := by decide +kernel
theorem dX4_volume_2 : decode cX4_volume 2 = .ok (.invokevirtual 42, 3) := by decide +kernel
theorem dX4_volume_5 : decode cX4_volume 5 = .ok (.astore_n 3, 1) := by decide +kernel
theorem dX4_volume_6 : decode cX4_volume 6 = .ok (.iload_n 2, 1) := by decide +kernel
theorem dX4_volume_7 : decode cX4_volume 7 = .ok (.invokestatic 57, 3) := by decide +kernel
theorem dX4_volume_10 : decode cX4_volume 10 = .ok (.aload_n 3, 1) := by decide +kernel
theorem dX4_volume_11 : decode cX4_volume 11 = .ok (.iload_n 2, 1) := by decide +kernel
theorem dX4_volume_12 : decode cX4_volume 12 = .ok (.invokevirtual 61, 3) := by decide +kernel
theorem dX4_volume_15 : decode cX4_volume 15 = .ok (.ireturn, 1) := by decide +kernel
set_option maxRecDepth 20000 in
theorem ggX4_thread_X4_tubeNumbered : GoodIn wsX4_thread wsX4_tubeNumbered := goodIn_ca (goodIn_r _ [8, 9, 10, 11, 41, 42, 43, 44, 45, 46, 47, 48, 49] (by decide +kernel) (by decide +kernel)) (goodIn_sub (fun _ h => List.mem_cons_of_mem _ (List.mem_append_left _ (List.mem_append_right _ h))) (by decide +kernel))
set_option maxRecDepth 20000 in
theorem gX4_thread_X4_tubeNumbered : GoodIn wsX4_thread (wsV RX4 42 RX4 yX4_tubeNumbered wsX4_tubeNumbered) := goodIn_app (goodIn_of _ (by decide +kernel)) ggX4_thread_X4_tubeNumbered
set_option maxRecDepth 20000 in
theorem ggX4_thread_X4_demandPlace : GoodIn wsX4_thread wsX4_demandPlace := goodIn_ca (goodIn_r _ [14, 15, 16, 7, 17, 18, 19] (by decide +kernel) (by decide +kernel)) (goodIn_sub (fun _ h => List.mem_cons_of_mem _ (List.mem_append_right _ h)) (by decide +kernel))
set_option maxRecDepth 20000 in
theorem gX4_thread_X4_demandPlace : GoodIn wsX4_thread (va_wsS RX4 57 yX4_demandPlace wsX4_demandPlace) := goodIn_app (goodIn_of _ (by decide +kernel)) ggX4_thread_X4_demandPlace
set_option maxRecDepth 20000 in
theorem ggX4_thread_X4_demandRange : GoodIn wsX4_thread wsX4_demandRange := goodIn_ca (goodIn_r _ [17, 18, 19] (by decide +kernel) (by decide +kernel)) (goodIn_sub (fun _ h => List.mem_cons_of_mem _ (List.mem_append_right _ h)) (by decide +kernel))
set_option maxRecDepth 20000 in
theorem gX4_thread_X4_demandRange : GoodIn wsX4_thread (va_wsS RX4 25 yX4_demandRange wsX4_demandRange) := goodIn_app (goodIn_of _ (by decide +kernel)) ggX4_thread_X4_demandRange
set_option maxRecDepth 20000 in
theorem ggX4_thread_X3_volumeUpTo : GoodIn wsX4_thread wsX3_volumeUpTo := goodIn_r _ [24, 25, 26, 27, 23, 28, 29, 30, 31, 32, 33, 34, 35, 50, 51] (by decide +kernel) (by decide +kernel)
set_option maxRecDepth 20000 in
theorem gX4_thread_X3_volumeUpTo : GoodIn wsX4_thread (wsV RX4 61 RX3 yX3_volumeUpTo wsX3_volumeUpTo) := goodIn_app (goodIn_of _ (by decide +kernel)) ggX4_thread_X3_volumeUpTo
set_option maxRecDepth 20000 in
theorem ggX4_thread_X3_firstPlaceHolding : GoodIn wsX4_thread wsX3_firstPlaceHolding := goodIn_r _ [39, 40, 21, 22, 23, 24, 25, 26, 27, 28, 29, 30, 31, 32, 33, 34, 35, 50, 51] (by decide +kernel) (by decide +kernel)
set_option maxRecDepth 20000 in
theorem gX4_thread_X3_firstPlaceHolding : GoodIn wsX4_thread (wsV RX4 65 RX3 yX3_firstPlaceHolding wsX3_firstPlaceHolding) := goodIn_app (goodIn_of _ (by decide +kernel)) ggX4_thread_X3_firstPlaceHolding
theorem dX4_thread_0 : decode cX4_thread 0 = .ok (.aload_n 0, 1) := by decide +kernel
theorem dX4_thread_1 : decode cX4_thread 1 = .ok (.iload_n 1, 1) := by decide +kernel
theorem dX4_thread_2 : decode cX4_thread 2 = .ok (.invokevirtual 42, 3) := by decide +kernel
theorem dX4_thread_5 : decode cX4_thread 5 = .ok (.astore 4, 2) := by decide +kernel
theorem dX4_thread_7 : decode cX4_thread 7 = .ok (.iload_n 2, 1) := by decide +kernel
theorem dX4_thread_8 : decode cX4_thread 8 = .ok (.invokestatic 57, 3) := by decide +kernel
theorem dX4_thread_11 : decode cX4_thread 11 = .ok (.iload_n 3, 1) := by decide +kernel
theorem dX4_thread_12 : decode cX4_thread 12 = .ok (.iconst 1, 1) := by decide +kernel
theorem dX4_thread_13 : decode cX4_thread 13 = .ok (.ldc 64, 2) := by decide +kernel
theorem dX4_thread_15 : decode cX4_thread 15 = .ok (.invokestatic 25, 3) := by decide +kernel
theorem dX4_thread_18 : decode cX4_thread 18 = .ok (.aload 4, 2) := by decide +kernel
theorem dX4_thread_20 : decode cX4_thread 20 = .ok (.aload 4, 2) := by decide +kernel
theorem dX4_thread_22 : decode cX4_thread 22 = .ok (.iload_n 2, 1) := by decide +kernel
theorem dX4_thread_23 : decode cX4_thread 23 = .ok (.invokevirtual 61, 3) := by decide +kernel
theorem dX4_thread_26 : decode cX4_thread 26 = .ok (.iload_n 3, 1) := by decide +kernel
theorem dX4_thread_27 : decode cX4_thread 27 = .ok (.iadd, 1) := by decide +kernel
theorem dX4_thread_28 : decode cX4_thread 28 = .ok (.invokevirtual 65, 3) := by decide +kernel
theorem dX4_thread_31 : decode cX4_thread 31 = .ok (.istore 5, 2) := by decide +kernel
theorem dX4_thread_33 : decode cX4_thread 33 = .ok (.iload 5, 2) := by decide +kernel
theorem dX4_thread_35 : decode cX4_thread 35 = .ok (.iconst (-1), 1) := by decide +kernel
theorem dX4_thread_36 : decode cX4_thread 36 = .ok (.if_icmp .ne 13, 3) := by decide +kernel
theorem dX4_thread_39 : decode cX4_thread 39 = .ok (.new 68, 3) := by decide +kernel
theorem dX4_thread_42 : decode cX4_thread 42 = .ok (.dup, 1) := by decide +kernel
theorem dX4_thread_43 : decode cX4_thread 43 = .ok (.ldc 70, 2) := by decide +kernel
theorem dX4_thread_45 : decode cX4_thread 45 = .ok (.invokespecial 72, 3) := by decide +kernel
theorem dX4_thread_48 : decode cX4_thread 48 = .ok (.athrow, 1) := by decide +kernel
theorem dX4_thread_49 : decode cX4_thread 49 = .ok (.iload 5, 2) := by decide +kernel
theorem dX4_thread_51 : decode cX4_thread 51 = .ok (.ireturn, 1) := by decide +kernel
set_option maxRecDepth 20000 in
theorem ggX4_widest_X4_tubeNumbered : GoodIn wsX4_widest wsX4_tubeNumbered := goodIn_ca (goodIn_r _ [5, 6, 7, 8, 19, 20, 21, 22, 23, 24, 25, 26, 27] (by decide +kernel) (by decide +kernel)) (goodIn_sub (fun _ h => List.mem_cons_of_mem _ (List.mem_append_right _ h)) (by decide +kernel))
set_option maxRecDepth 20000 in
theorem gX4_widest_X4_tubeNumbered : GoodIn wsX4_widest (wsV RX4 42 RX4 yX4_tubeNumbered wsX4_tubeNumbered) := goodIn_app (goodIn_of _ (by decide +kernel)) ggX4_widest_X4_tubeNumbered
set_option maxRecDepth 20000 in
theorem ggX4_widest_X3_widestSection : GoodIn wsX4_widest wsX3_widestSection := goodIn_r _ [13, 14, 15, 16, 17, 12, 18, 28, 29] (by decide +kernel) (by decide +kernel)
set_option maxRecDepth 20000 in
theorem gX4_widest_X3_widestSection : GoodIn wsX4_widest (wsV RX4 73 RX3 yX3_widestSection wsX3_widestSection) := goodIn_app (goodIn_of _ (by decide +kernel)) ggX4_widest_X3_widestSection
theorem dX4_widest_0 : decode cX4_widest 0 = .ok (.aload_n 0, 1) := by decide +kernel
theorem dX4_widest_1 : decode cX4_widest 1 = .ok (.iload_n 1, 1) := by decide +kernel
theorem dX4_widest_2 : decode cX4_widest 2 = .ok (.invokevirtual 42, 3) := by decide +kernel
theorem dX4_widest_5 : decode cX4_widest 5 = .ok (.invokevirtual 73, 3) := by decide +kernel
theorem dX4_widest_8 : decode cX4_widest 8 = .ok (.ireturn, 1) := by decide +kernel
set_option maxRecDepth 20000 in
theorem ggX4_deliver_X4_tubeNumbered : GoodIn wsX4_deliver wsX4_tubeNumbered := goodIn_ca (goodIn_r _ [7, 8, 9, 10, 40, 41, 42, 43, 44, 45, 46, 47, 48] (by decide +kernel) (by decide +kernel)) (goodIn_sub (fun _ h => List.mem_cons_of_mem _ (List.mem_append_right _ h)) (by decide +kernel))
set_option maxRecDepth 20000 in
theorem gX4_deliver_X4_tubeNumbered : GoodIn wsX4_deliver (wsV RX4 42 RX4 yX4_tubeNumbered wsX4_tubeNumbered) := goodIn_app (goodIn_of _ (by decide +kernel)) ggX4_deliver_X4_tubeNumbered
set_option maxRecDepth 20000 in
theorem ggX4_deliver_X4_demandPlace : GoodIn wsX4_deliver wsX4_demandPlace := goodIn_ca (goodIn_r _ [13, 14, 15, 6, 16, 1, 2] (by decide +kernel) (by decide +kernel)) (goodIn_sub (fun _ h => List.mem_cons_of_mem _ (List.mem_append_left _ (List.mem_append_right _ h))) (by decide +kernel))
set_option maxRecDepth 20000 in
theorem gX4_deliver_X4_demandPlace : GoodIn wsX4_deliver (va_wsS RX4 57 yX4_demandPlace wsX4_demandPlace) := goodIn_app (goodIn_of _ (by decide +kernel)) ggX4_deliver_X4_demandPlace
set_option maxRecDepth 20000 in
theorem ggX4_deliver_X4_demandRange : GoodIn wsX4_deliver wsX4_demandRange := goodIn_ca (goodIn_r _ [16, 1, 2] (by decide +kernel) (by decide +kernel)) (goodIn_sub (fun _ h => List.mem_cons_of_mem _ (List.mem_append_left _ (List.mem_append_right _ h))) (by decide +kernel))
set_option maxRecDepth 20000 in
theorem gX4_deliver_X4_demandRange : GoodIn wsX4_deliver (va_wsS RX4 25 yX4_demandRange wsX4_demandRange) := goodIn_app (goodIn_of _ (by decide +kernel)) ggX4_deliver_X4_demandRange
set_option maxRecDepth 20000 in
theorem ggX4_deliver_X3_volumeUpTo : GoodIn wsX4_deliver wsX3_volumeUpTo := goodIn_r _ [21, 22, 23, 24, 20, 25, 26, 27, 28, 29, 30, 31, 32, 49, 50] (by decide +kernel) (by decide +kernel)
set_option maxRecDepth 20000 in
theorem gX4_deliver_X3_volumeUpTo : GoodIn wsX4_deliver (wsV RX4 61 RX3 yX3_volumeUpTo wsX3_volumeUpTo) := goodIn_app (goodIn_of _ (by decide +kernel)) ggX4_deliver_X3_volumeUpTo
set_option maxRecDepth 20000 in
theorem ggX4_deliver_X4_clingingToStep : GoodIn wsX4_deliver wsX4_clingingToStep := goodIn_r _ [35] (by decide +kernel) (by decide +kernel)
set_option maxRecDepth 20000 in
theorem gX4_deliver_X4_clingingToStep : GoodIn wsX4_deliver (va_wsS RX4 82 yX4_clingingToStep wsX4_clingingToStep) := goodIn_app (goodIn_of _ (by decide +kernel)) ggX4_deliver_X4_clingingToStep
set_option maxRecDepth 20000 in
theorem ggX4_deliver_X3_clinging : GoodIn wsX4_deliver wsX3_clinging := goodIn_r _ [39, 22, 26, 27, 28, 29, 23, 24, 20, 25, 30, 31, 32, 49, 50] (by decide +kernel) (by decide +kernel)
set_option maxRecDepth 20000 in
theorem gX4_deliver_X3_clinging : GoodIn wsX4_deliver (wsV RX4 85 RX3 yX3_clinging wsX3_clinging) := goodIn_app (goodIn_of _ (by decide +kernel)) ggX4_deliver_X3_clinging
theorem dX4_deliver_0 : decode cX4_deliver 0 = .ok (.aload_n 0, 1) := by decide +kernel
theorem dX4_deliver_1 : decode cX4_deliver 1 = .ok (.iload_n 1, 1) := by decide +kernel
theorem dX4_deliver_2 : decode cX4_deliver 2 = .ok (.invokevirtual 42, 3) := by decide +kernel
theorem dX4_deliver_5 : decode cX4_deliver 5 = .ok (.astore 5, 2) := by decide +kernel
theorem dX4_deliver_7 : decode cX4_deliver 7 = .ok (.iload_n 2, 1) := by decide +kernel
theorem dX4_deliver_8 : decode cX4_deliver 8 = .ok (.invokestatic 57, 3) := by decide +kernel
theorem dX4_deliver_11 : decode cX4_deliver 11 = .ok (.iload_n 3, 1) := by decide +kernel
theorem dX4_deliver_12 : decode cX4_deliver 12 = .ok (.invokestatic 57, 3) := by decide +kernel
theorem dX4_deliver_15 : decode cX4_deliver 15 = .ok (.iload 4, 2) := by decide +kernel
theorem dX4_deliver_17 : decode cX4_deliver 17 = .ok (.iconst 1, 1) := by decide +kernel
theorem dX4_deliver_18 : decode cX4_deliver 18 = .ok (.sipush 999, 3) := by decide +kernel
theorem dX4_deliver_21 : decode cX4_deliver 21 = .ok (.invokestatic 25, 3) := by decide +kernel
theorem dX4_deliver_24 : decode cX4_deliver 24 = .ok (.iload_n 3, 1) := by decide +kernel
theorem dX4_deliver_25 : decode cX4_deliver 25 = .ok (.iload_n 2, 1) := by decide +kernel
theorem dX4_deliver_26 : decode cX4_deliver 26 = .ok (.if_icmp .lt 13, 3) := by decide +kernel
theorem dX4_deliver_29 : decode cX4_deliver 29 = .ok (.new 77, 3) := by decide +kernel
theorem dX4_deliver_32 : decode cX4_deliver 32 = .ok (.dup, 1) := by decide +kernel
theorem dX4_deliver_33 : decode cX4_deliver 33 = .ok (.ldc 79, 2) := by decide +kernel
theorem dX4_deliver_35 : decode cX4_deliver 35 = .ok (.invokespecial 81, 3) := by decide +kernel
theorem dX4_deliver_38 : decode cX4_deliver 38 = .ok (.athrow, 1) := by decide +kernel
theorem dX4_deliver_39 : decode cX4_deliver 39 = .ok (.aload 5, 2) := by decide +kernel
theorem dX4_deliver_41 : decode cX4_deliver 41 = .ok (.iload_n 2, 1) := by decide +kernel
theorem dX4_deliver_42 : decode cX4_deliver 42 = .ok (.invokevirtual 61, 3) := by decide +kernel
theorem dX4_deliver_45 : decode cX4_deliver 45 = .ok (.aload 5, 2) := by decide +kernel
theorem dX4_deliver_47 : decode cX4_deliver 47 = .ok (.iload_n 3, 1) := by decide +kernel
theorem dX4_deliver_48 : decode cX4_deliver 48 = .ok (.invokevirtual 61, 3) := by decide +kernel
theorem dX4_deliver_51 : decode cX4_deliver 51 = .ok (.isub, 1) := by decide +kernel
theorem dX4_deliver_52 : decode cX4_deliver 52 = .ok (.istore 6, 2) := by decide +kernel
theorem dX4_deliver_54 : decode cX4_deliver 54 = .ok (.iload 6, 2) := by decide +kernel
theorem dX4_deliver_56 : decode cX4_deliver 56 = .ok (.aload 5, 2) := by decide +kernel
theorem dX4_deliver_58 : decode cX4_deliver 58 = .ok (.iload_n 3, 1) := by decide +kernel
theorem dX4_deliver_59 : decode cX4_deliver 59 = .ok (.iload_n 2, 1) := by decide +kernel
theorem dX4_deliver_60 : decode cX4_deliver 60 = .ok (.iload 4, 2) := by decide +kernel
theorem dX4_deliver_62 : decode cX4_deliver 62 = .ok (.invokestatic 82, 3) := by decide +kernel
theorem dX4_deliver_65 : decode cX4_deliver 65 = .ok (.invokevirtual 85, 3) := by decide +kernel
theorem dX4_deliver_68 : decode cX4_deliver 68 = .ok (.isub, 1) := by decide +kernel
theorem dX4_deliver_69 : decode cX4_deliver 69 = .ok (.ireturn, 1) := by decide +kernel
set_option maxRecDepth 20000 in
theorem ggX4_make_X4_tubeNumbered : GoodIn wsX4_make wsX4_tubeNumbered := goodIn_ca (goodIn_r _ [13, 14, 15, 16, 65, 66, 67, 68, 69, 70, 71, 72, 73] (by decide +kernel) (by decide +kernel)) (goodIn_sub (fun _ h => List.mem_cons_of_mem _ (List.mem_append_left _ (List.mem_append_left _ (List.mem_append_right _ h)))) (by decide +kernel))
set_option maxRecDepth 20000 in
theorem gX4_make_X4_tubeNumbered : GoodIn wsX4_make (wsV RX4 42 RX4 yX4_tubeNumbered wsX4_tubeNumbered) := goodIn_app (goodIn_of _ (by decide +kernel)) ggX4_make_X4_tubeNumbered
set_option maxRecDepth 20000 in
theorem ggX4_make_X4_demandRange : GoodIn wsX4_make wsX4_demandRange := goodIn_ca (goodIn_r _ [19, 20, 21] (by decide +kernel) (by decide +kernel)) (goodIn_sub (fun _ h => List.mem_cons_of_mem _ (List.mem_append_left _ (List.mem_append_right _ h))) (by decide +kernel))
set_option maxRecDepth 20000 in
theorem gX4_make_X4_demandRange : GoodIn wsX4_make (va_wsS RX4 25 yX4_demandRange wsX4_demandRange) := goodIn_app (goodIn_of _ (by decide +kernel)) ggX4_make_X4_demandRange
set_option maxRecDepth 20000 in
theorem ggX4_make_X4_demandEither : GoodIn wsX4_make wsX4_demandEither := goodIn_ca (goodIn_r _ [24, 20, 21] (by decide +kernel) (by decide +kernel)) (goodIn_sub (fun _ h => List.mem_cons_of_mem _ (List.mem_append_left _ (List.mem_append_right _ h))) (by decide +kernel))
set_option maxRecDepth 20000 in
theorem gX4_make_X4_demandEither : GoodIn wsX4_make (va_wsS RX4 90 yX4_demandEither wsX4_demandEither) := goodIn_app (goodIn_of _ (by decide +kernel)) ggX4_make_X4_demandEither
set_option maxRecDepth 20000 in
theorem ggX4_make_X4_demandUnused : GoodIn wsX4_make wsX4_demandUnused := goodIn_ca (goodIn_r _ [27, 28, 29, 74, 75] (by decide +kernel) (by decide +kernel)) (goodIn_sub (fun _ h => List.mem_cons_of_mem _ (List.mem_append_right _ h)) (by decide +kernel))
set_option maxRecDepth 20000 in
theorem gX4_make_X4_demandUnused : GoodIn wsX4_make (va_wsS RX4 46 yX4_demandUnused wsX4_demandUnused) := goodIn_app (goodIn_of _ (by decide +kernel)) ggX4_make_X4_demandUnused
set_option maxRecDepth 20000 in
theorem ggX4_make_X0_init : GoodIn wsX4_make wsX0_init := goodIn_r _ [32, 33, 34, 35, 36, 37, 38, 39, 40, 41, 42, 43, 44, 45, 46, 47, 48, 49, 50, 51, 52, 53, 54, 55, 56, 57, 58, 59, 60, 61, 62, 63, 64, 91, 92, 93, 76, 77, 78, 79, 80, 81, 82, 83, 84, 85, 86, 87, 88, 89, 90, 94, 95, 96, 97, 98] (by decide +kernel) (by decide +kernel)
set_option maxRecDepth 20000 in
theorem gX4_make_X0_init : GoodIn wsX4_make (wsX0_init) := ggX4_make_X0_init
theorem dX4_make_0 : decode cX4_make 0 = .ok (.aload_n 0, 1) := by decide +kernel
theorem dX4_make_1 : decode cX4_make 1 = .ok (.iload_n 1, 1) := by decide +kernel
theorem dX4_make_2 : decode cX4_make 2 = .ok (.invokevirtual 42, 3) := by decide +kernel
theorem dX4_make_5 : decode cX4_make 5 = .ok (.astore 4, 2) := by decide +kernel
theorem dX4_make_7 : decode cX4_make 7 = .ok (.iload_n 2, 1) := by decide +kernel
theorem dX4_make_8 : decode cX4_make 8 = .ok (.sipush 1000, 3) := by decide +kernel
theorem dX4_make_11 : decode cX4_make 11 = .ok (.ldc 89, 2) := by decide +kernel
theorem dX4_make_13 : decode cX4_make 13 = .ok (.invokestatic 25, 3) := by decide +kernel
theorem dX4_make_16 : decode cX4_make 16 = .ok (.iload_n 3, 1) := by decide +kernel
theorem dX4_make_17 : decode cX4_make 17 = .ok (.bipush 104, 2) := by decide +kernel
theorem dX4_make_19 : decode cX4_make 19 = .ok (.bipush 115, 2) := by decide +kernel
theorem dX4_make_21 : decode cX4_make 21 = .ok (.invokestatic 90, 3) := by decide +kernel
theorem dX4_make_24 : decode cX4_make 24 = .ok (.aload 4, 2) := by decide +kernel
theorem dX4_make_26 : decode cX4_make 26 = .ok (.invokestatic 46, 3) := by decide +kernel
theorem dX4_make_29 : decode cX4_make 29 = .ok (.aload_n 0, 1) := by decide +kernel
theorem dX4_make_30 : decode cX4_make 30 = .ok (.getfield 94, 3) := by decide +kernel
theorem dX4_make_33 : decode cX4_make 33 = .ok (.aload_n 0, 1) := by decide +kernel
theorem dX4_make_34 : decode cX4_make 34 = .ok (.getfield 17, 3) := by decide +kernel
theorem dX4_make_37 : decode cX4_make 37 = .ok (.arraylength, 1) := by decide +kernel
theorem dX4_make_38 : decode cX4_make 38 = .ok (.if_icmp .lt 13, 3) := by decide +kernel
theorem dX4_make_41 : decode cX4_make 41 = .ok (.new 32, 3) := by decide +kernel
theorem dX4_make_44 : decode cX4_make 44 = .ok (.dup, 1) := by decide +kernel
theorem dX4_make_45 : decode cX4_make 45 = .ok (.ldc 97, 2) := by decide +kernel
theorem dX4_make_47 : decode cX4_make 47 = .ok (.invokespecial 36, 3) := by decide +kernel
theorem dX4_make_50 : decode cX4_make 50 = .ok (.athrow, 1) := by decide +kernel
theorem dX4_make_51 : decode cX4_make 51 = .ok (.aload_n 0, 1) := by decide +kernel
theorem dX4_make_52 : decode cX4_make 52 = .ok (.getfield 94, 3) := by decide +kernel
theorem dX4_make_55 : decode cX4_make 55 = .ok (.istore 5, 2) := by decide +kernel
theorem dX4_make_57 : decode cX4_make 57 = .ok (.aload 4, 2) := by decide +kernel
theorem dX4_make_59 : decode cX4_make 59 = .ok (.iconst 1, 1) := by decide +kernel
theorem dX4_make_60 : decode cX4_make 60 = .ok (.putfield 99, 3) := by decide +kernel
theorem dX4_make_63 : decode cX4_make 63 = .ok (.aload_n 0, 1) := by decide +kernel
theorem dX4_make_64 : decode cX4_make 64 = .ok (.getfield 17, 3) := by decide +kernel
theorem dX4_make_67 : decode cX4_make 67 = .ok (.iload 5, 2) := by decide +kernel
theorem dX4_make_69 : decode cX4_make 69 = .ok (.new 15, 3) := by decide +kernel
theorem dX4_make_72 : decode cX4_make 72 = .ok (.dup, 1) := by decide +kernel
theorem dX4_make_73 : decode cX4_make 73 = .ok (.iload_n 1, 1) := by decide +kernel
theorem dX4_make_74 : decode cX4_make 74 = .ok (.aload 4, 2) := by decide +kernel
theorem dX4_make_76 : decode cX4_make 76 = .ok (.iload_n 2, 1) := by decide +kernel
theorem dX4_make_77 : decode cX4_make 77 = .ok (.iload_n 3, 1) := by decide +kernel
theorem dX4_make_78 : decode cX4_make 78 = .ok (.invokespecial 103, 3) := by decide +kernel
theorem dX4_make_81 : decode cX4_make 81 = .ok (.aastore, 1) := by decide +kernel
theorem dX4_make_82 : decode cX4_make 82 = .ok (.aload_n 0, 1) := by decide +kernel
theorem dX4_make_83 : decode cX4_make 83 = .ok (.dup, 1) := by decide +kernel
theorem dX4_make_84 : decode cX4_make 84 = .ok (.getfield 94, 3) := by decide +kernel
theorem dX4_make_87 : decode cX4_make 87 = .ok (.iconst 1, 1) := by decide +kernel
theorem dX4_make_88 : decode cX4_make 88 = .ok (.iadd, 1) := by decide +kernel
theorem dX4_make_89 : decode cX4_make 89 = .ok (.putfield 94, 3) := by decide +kernel
theorem dX4_make_92 : decode cX4_make 92 = .ok (.iload 5, 2) := by decide +kernel
theorem dX4_make_94 : decode cX4_make 94 = .ok (.ireturn, 1) := by decide +kernel
set_option maxRecDepth 20000 in
theorem ggX4_boiling_X4_demandPressure : GoodIn wsX4_boiling wsX4_demandPressure := goodIn_ca (goodIn_r _ [4, 5, 6, 3, 7, 8, 9] (by decide +kernel) (by decide +kernel)) (goodIn_sub (fun _ h => List.mem_cons_of_mem _ (List.mem_append_right _ h)) (by decide +kernel))
set_option maxRecDepth 20000 in
theorem gX4_boiling_X4_demandPressure : GoodIn wsX4_boiling (va_wsS RX4 182 yX4_demandPressure wsX4_demandPressure) := goodIn_app (goodIn_of _ (by decide +kernel)) ggX4_boiling_X4_demandPressure
set_option maxRecDepth 20000 in
theorem ggX4_boiling_X4_steamAt : GoodIn wsX4_boiling wsX4_steamAt := goodIn_r _ [12] (by decide +kernel) (by decide +kernel)
set_option maxRecDepth 20000 in
theorem gX4_boiling_X4_steamAt : GoodIn wsX4_boiling (va_wsS RX4 185 yX4_steamAt wsX4_steamAt) := goodIn_app (goodIn_of _ (by decide +kernel)) ggX4_boiling_X4_steamAt
theorem dX4_boiling_0 : decode cX4_boiling 0 = .ok (.iload_n 1, 1) := by decide +kernel
theorem dX4_boiling_1 : decode cX4_boiling 1 = .ok (.invokestatic 182, 3) := by decide +kernel
theorem dX4_boiling_4 : decode cX4_boiling 4 = .ok (.iload_n 1, 1) := by decide +kernel
theorem dX4_boiling_5 : decode cX4_boiling 5 = .ok (.invokestatic 185, 3) := by decide +kernel
theorem dX4_boiling_8 : decode cX4_boiling 8 = .ok (.ireturn, 1) := by decide +kernel
set_option maxRecDepth 20000 in
theorem ggX4_barometer_X4_demandRange : GoodIn wsX4_barometer wsX4_demandRange := goodIn_ca (goodIn_r _ [5, 6, 7] (by decide +kernel) (by decide +kernel)) (goodIn_sub (fun _ h => List.mem_cons_of_mem _ (List.mem_append_right _ h)) (by decide +kernel))
set_option maxRecDepth 20000 in
theorem gX4_barometer_X4_demandRange : GoodIn wsX4_barometer (va_wsS RX4 25 yX4_demandRange wsX4_demandRange) := goodIn_app (goodIn_of _ (by decide +kernel)) ggX4_barometer_X4_demandRange
theorem dX4_barometer_0 : decode cX4_barometer 0 = .ok (.iload_n 1, 1) := by decide +kernel
theorem dX4_barometer_1 : decode cX4_barometer 1 = .ok (.sipush 6000, 3) := by decide +kernel
theorem dX4_barometer_4 : decode cX4_barometer 4 = .ok (.sipush 8000, 3) := by decide +kernel
theorem dX4_barometer_7 : decode cX4_barometer 7 = .ok (.invokestatic 25, 3) := by decide +kernel
theorem dX4_barometer_10 : decode cX4_barometer 10 = .ok (.iload_n 2, 1) := by decide +kernel
theorem dX4_barometer_11 : decode cX4_barometer 11 = .ok (.bipush (-20), 2) := by decide +kernel
theorem dX4_barometer_13 : decode cX4_barometer 13 = .ok (.bipush 40, 2) := by decide +kernel
theorem dX4_barometer_15 : decode cX4_barometer 15 = .ok (.invokestatic 25, 3) := by decide +kernel
theorem dX4_barometer_18 : decode cX4_barometer 18 = .ok (.iload_n 3, 1) := by decide +kernel
theorem dX4_barometer_19 : decode cX4_barometer 19 = .ok (.sipush 9780, 3) := by decide +kernel
theorem dX4_barometer_22 : decode cX4_barometer 22 = .ok (.sipush 9832, 3) := by decide +kernel
theorem dX4_barometer_25 : decode cX4_barometer 25 = .ok (.invokestatic 25, 3) := by decide +kernel
theorem dX4_barometer_28 : decode cX4_barometer 28 = .ok (.iload 4, 2) := by decide +kernel
theorem dX4_barometer_30 : decode cX4_barometer 30 = .ok (.iconst 1, 1) := by decide +kernel
theorem dX4_barometer_31 : decode cX4_barometer 31 = .ok (.bipush 60, 2) := by decide +kernel
theorem dX4_barometer_33 : decode cX4_barometer 33 = .ok (.invokestatic 25, 3) := by decide +kernel
theorem dX4_barometer_36 : decode cX4_barometer 36 = .ok (.iload_n 1, 1) := by decide +kernel
theorem dX4_barometer_37 : decode cX4_barometer 37 = .ok (.iload_n 1, 1) := by decide +kernel
theorem dX4_barometer_38 : decode cX4_barometer 38 = .ok (.bipush 18, 2) := by decide +kernel
theorem dX4_barometer_40 : decode cX4_barometer 40 = .ok (.imul, 1) := by decide +kernel
theorem dX4_barometer_41 : decode cX4_barometer 41 = .ok (.iload_n 2, 1) := by decide +kernel
theorem dX4_barometer_42 : decode cX4_barometer 42 = .ok (.imul, 1) := by decide +kernel
theorem dX4_barometer_43 : decode cX4_barometer 43 = .ok (.ldc_w 265, 3) := by decide +kernel
theorem dX4_barometer_46 : decode cX4_barometer 46 = .ok (.idiv, 1) := by decide +kernel
theorem dX4_barometer_47 : decode cX4_barometer 47 = .ok (.isub, 1) := by decide +kernel
theorem dX4_barometer_48 : decode cX4_barometer 48 = .ok (.istore 5, 2) := by decide +kernel
theorem dX4_barometer_50 : decode cX4_barometer 50 = .ok (.iload 5, 2) := by decide +kernel
theorem dX4_barometer_52 : decode cX4_barometer 52 = .ok (.iload_n 3, 1) := by decide +kernel
theorem dX4_barometer_53 : decode cX4_barometer 53 = .ok (.imul, 1) := by decide +kernel
theorem dX4_barometer_54 : decode cX4_barometer 54 = .ok (.sipush 9807, 3) := by decide +kernel
theorem dX4_barometer_57 : decode cX4_barometer 57 = .ok (.idiv, 1) := by decide +kernel
theorem dX4_barometer_58 : decode cX4_barometer 58 = .ok (.bipush 60, 2) := by decide +kernel
theorem dX4_barometer_60 : decode cX4_barometer 60 = .ok (.iload 4, 2) := by decide +kernel
theorem dX4_barometer_62 : decode cX4_barometer 62 = .ok (.idiv, 1) := by decide +kernel
theorem dX4_barometer_63 : decode cX4_barometer 63 = .ok (.iadd, 1) := by decide +kernel
theorem dX4_barometer_64 : decode cX4_barometer 64 = .ok (.ireturn, 1) := by decide +kernel
set_option maxRecDepth 20000 in
theorem ggX4_isSound_X0_mercuryInside : GoodIn wsX4_isSound wsX0_mercuryInside := goodIn_r _ [9, 10, 11, 38, 39, 40, 41, 42, 43, 44, 45, 46, 47, 48, 49, 50, 51, 52] (by decide +kernel) (by decide +kernel)
set_option maxRecDepth 20000 in
theorem gX4_isSound_X0_mercuryInside : GoodIn wsX4_isSound (wsV RX4 145 RX0 yX0_mercuryInside wsX0_mercuryInside) := goodIn_app (goodIn_of _ (by decide +kernel)) ggX4_isSound_X0_mercuryInside
set_option maxRecDepth 20000 in
theorem ggX4_isSound_X0_isInBounds : GoodIn wsX4_isSound wsX0_isInBounds := goodIn_r _ [15, 16, 17, 18, 19, 20, 8, 21, 22, 23, 38, 39, 40, 41, 42, 43, 44, 45, 46, 47, 48, 49, 50, 51, 52, 53, 54, 55] (by decide +kernel) (by decide +kernel)
set_option maxRecDepth 20000 in
theorem gX4_isSound_X0_isInBounds : GoodIn wsX4_isSound (wsV RX4 279 RX0 yX0_isInBounds wsX0_isInBounds) := goodIn_app (goodIn_of _ (by decide +kernel)) ggX4_isSound_X0_isInBounds
set_option maxRecDepth 20000 in
theorem ggX4_isSound_X4_instrumentsOfTube : GoodIn wsX4_isSound wsX4_instrumentsOfTube := goodIn_r _ [28, 3, 29, 30, 31, 32, 33, 34, 35, 36, 37, 38, 39, 40, 41, 42, 43, 44, 45, 46, 47, 48, 49, 50, 51, 52] (by decide +kernel) (by decide +kernel)
set_option maxRecDepth 20000 in
theorem gX4_isSound_X4_instrumentsOfTube : GoodIn wsX4_isSound (wsV RX4 285 RX4 yX4_instrumentsOfTube wsX4_instrumentsOfTube) := goodIn_app (goodIn_of _ (by decide +kernel)) ggX4_isSound_X4_instrumentsOfTube
theorem dX4_isSound_0 : decode cX4_isSound 0 = .ok (.aload_n 0, 1) := by decide +kernel
theorem dX4_isSound_1 : decode cX4_isSound 1 = .ok (.getfield 109, 3) := by decide +kernel
theorem dX4_isSound_4 : decode cX4_isSound 4 = .ok (.aload_n 0, 1) := by decide +kernel
theorem dX4_isSound_5 : decode cX4_isSound 5 = .ok (.getfield 142, 3) := by decide +kernel
theorem dX4_isSound_8 : decode cX4_isSound 8 = .ok (.iadd, 1) := by decide +kernel
theorem dX4_isSound_9 : decode cX4_isSound 9 = .ok (.istore_n 1, 1) := by decide +kernel
theorem dX4_isSound_10 : decode cX4_isSound 10 = .ok (.aload_n 0, 1) := by decide +kernel
theorem dX4_isSound_11 : decode cX4_isSound 11 = .ok (.getfield 17, 3) := by decide +kernel
theorem dX4_isSound_14 : decode cX4_isSound 14 = .ok (.astore_n 2, 1) := by decide +kernel
theorem dX4_isSound_15 : decode cX4_isSound 15 = .ok (.aload_n 2, 1) := by decide +kernel
theorem dX4_isSound_16 : decode cX4_isSound 16 = .ok (.arraylength, 1) := by decide +kernel
theorem dX4_isSound_17 : decode cX4_isSound 17 = .ok (.istore_n 3, 1) := by decide +kernel
theorem dX4_isSound_18 : decode cX4_isSound 18 = .ok (.iconst 0, 1) := by decide +kernel
theorem dX4_isSound_19 : decode cX4_isSound 19 = .ok (.istore 4, 2) := by decide +kernel
theorem dX4_isSound_21 : decode cX4_isSound 21 = .ok (.iload 4, 2) := by decide +kernel
theorem dX4_isSound_23 : decode cX4_isSound 23 = .ok (.iload_n 3, 1) := by decide +kernel
theorem dX4_isSound_24 : decode cX4_isSound 24 = .ok (.if_icmp .ge 54, 3) := by decide +kernel
theorem dX4_isSound_27 : decode cX4_isSound 27 = .ok (.aload_n 2, 1) := by decide +kernel
theorem dX4_isSound_28 : decode cX4_isSound 28 = .ok (.iload 4, 2) := by decide +kernel
theorem dX4_isSound_30 : decode cX4_isSound 30 = .ok (.aaload, 1) := by decide +kernel
theorem dX4_isSound_31 : decode cX4_isSound 31 = .ok (.astore 5, 2) := by decide +kernel
theorem dX4_isSound_33 : decode cX4_isSound 33 = .ok (.aload 5, 2) := by decide +kernel
theorem dX4_isSound_35 : decode cX4_isSound 35 = .ok (.ifnonnull 6, 3) := by decide +kernel
theorem dX4_isSound_38 : decode cX4_isSound 38 = .ok (.goto 34, 3) := by decide +kernel
theorem dX4_isSound_41 : decode cX4_isSound 41 = .ok (.iload_n 1, 1) := by decide +kernel
theorem dX4_isSound_42 : decode cX4_isSound 42 = .ok (.aload 5, 2) := by decide +kernel
theorem dX4_isSound_44 : decode cX4_isSound 44 = .ok (.invokevirtual 145, 3) := by decide +kernel
theorem dX4_isSound_47 : decode cX4_isSound 47 = .ok (.iadd, 1) := by decide +kernel
theorem dX4_isSound_48 : decode cX4_isSound 48 = .ok (.istore_n 1, 1) := by decide +kernel
theorem dX4_isSound_49 : decode cX4_isSound 49 = .ok (.aload 5, 2) := by decide +kernel
theorem dX4_isSound_51 : decode cX4_isSound 51 = .ok (.invokevirtual 279, 3) := by decide +kernel
theorem dX4_isSound_54 : decode cX4_isSound 54 = .ok (.ifCond .eq 16, 3) := by decide +kernel
theorem dX4_isSound_57 : decode cX4_isSound 57 = .ok (.aload_n 0, 1) := by decide +kernel
theorem dX4_isSound_58 : decode cX4_isSound 58 = .ok (.aload 5, 2) := by decide +kernel
theorem dX4_isSound_60 : decode cX4_isSound 60 = .ok (.getfield 282, 3) := by decide +kernel
theorem dX4_isSound_63 : decode cX4_isSound 63 = .ok (.invokevirtual 285, 3) := by decide +kernel
theorem dX4_isSound_66 : decode cX4_isSound 66 = .ok (.iconst 1, 1) := by decide +kernel
theorem dX4_isSound_67 : decode cX4_isSound 67 = .ok (.if_icmp .le 5, 3) := by decide +kernel
theorem dX4_isSound_70 : decode cX4_isSound 70 = .ok (.iconst 0, 1) := by decide +kernel
theorem dX4_isSound_71 : decode cX4_isSound 71 = .ok (.ireturn, 1) := by decide +kernel
theorem dX4_isSound_72 : decode cX4_isSound 72 = .ok (.iinc 4 1, 3) := by decide +kernel
theorem dX4_isSound_75 : decode cX4_isSound 75 = .ok (.goto (-54), 3) := by decide +kernel
theorem dX4_isSound_78 : decode cX4_isSound 78 = .ok (.iload_n 1, 1) := by decide +kernel
theorem dX4_isSound_79 : decode cX4_isSound 79 = .ok (.aload_n 0, 1) := by decide +kernel
theorem dX4_isSound_80 : decode cX4_isSound 80 = .ok (.getfield 106, 3) := by decide +kernel
theorem dX4_isSound_83 : decode cX4_isSound 83 = .ok (.if_icmp .ne 7, 3) := by decide +kernel
theorem dX4_isSound_86 : decode cX4_isSound 86 = .ok (.iconst 1, 1) := by decide +kernel
theorem dX4_isSound_87 : decode cX4_isSound 87 = .ok (.goto 4, 3) := by decide +kernel
theorem dX4_isSound_90 : decode cX4_isSound 90 = .ok (.iconst 0, 1) := by decide +kernel
theorem dX4_isSound_91 : decode cX4_isSound 91 = .ok (.ireturn, 1) := by decide +kernel
theorem dX4_instrumentsOfTube_0 : decode cX4_instrumentsOfTube 0 = .ok (.iconst 0, 1) := by decide +kernel
theorem dX4_instrumentsOfTube_1 : decode cX4_instrumentsOfTube 1 = .ok (.istore_n 2, 1) := by decide +kernel
theorem dX4_instrumentsOfTube_2 : decode cX4_instrumentsOfTube 2 = .ok (.aload_n 0, 1) := by decide +kernel
theorem dX4_instrumentsOfTube_3 : decode cX4_instrumentsOfTube 3 = .ok (.getfield 17, 3) := by decide +kernel
theorem dX4_instrumentsOfTube_6 : decode cX4_instrumentsOfTube 6 = .ok (.astore_n 3, 1) := by decide +kernel
theorem dX4_instrumentsOfTube_7 : decode cX4_instrumentsOfTube 7 = .ok (.aload_n 3, 1) := by decide +kernel
theorem dX4_instrumentsOfTube_8 : decode cX4_instrumentsOfTube 8 = .ok (.arraylength, 1) := by decide +kernel
theorem dX4_instrumentsOfTube_9 : decode cX4_instrumentsOfTube 9 = .ok (.istore 4, 2) := by decide +kernel
theorem dX4_instrumentsOfTube_11 : decode cX4_instrumentsOfTube 11 = .ok (.iconst 0, 1) := by decide +kernel
theorem dX4_instrumentsOfTube_12 : decode cX4_instrumentsOfTube 12 = .ok (.istore 5, 2) := by decide +kernel
theorem dX4_instrumentsOfTube_14 : decode cX4_instrumentsOfTube 14 = .ok (.iload 5, 2) := by decide +kernel
theorem dX4_instrumentsOfTube_16 : decode cX4_instrumentsOfTube 16 = .ok (.iload 4, 2) := by decide +kernel
theorem dX4_instrumentsOfTube_18 : decode cX4_instrumentsOfTube 18 = .ok (.if_icmp .ge 32, 3) := by decide +kernel
theorem dX4_instrumentsOfTube_21 : decode cX4_instrumentsOfTube 21 = .ok (.aload_n 3, 1) := by decide +kernel
theorem dX4_instrumentsOfTube_22 : decode cX4_instrumentsOfTube 22 = .ok (.iload 5, 2) := by decide +kernel
theorem dX4_instrumentsOfTube_24 : decode cX4_instrumentsOfTube 24 = .ok (.aaload, 1) := by decide +kernel
theorem dX4_instrumentsOfTube_25 : decode cX4_instrumentsOfTube 25 = .ok (.astore 6, 2) := by decide +kernel
theorem dX4_instrumentsOfTube_27 : decode cX4_instrumentsOfTube 27 = .ok (.aload 6, 2) := by decide +kernel
theorem dX4_instrumentsOfTube_29 : decode cX4_instrumentsOfTube 29 = .ok (.ifnull 15, 3) := by decide +kernel
theorem dX4_instrumentsOfTube_32 : decode cX4_instrumentsOfTube 32 = .ok (.aload 6, 2) := by decide +kernel
theorem dX4_instrumentsOfTube_34 : decode cX4_instrumentsOfTube 34 = .ok (.getfield 282, 3) := by decide +kernel
theorem dX4_instrumentsOfTube_37 : decode cX4_instrumentsOfTube 37 = .ok (.iload_n 1, 1) := by decide +kernel
theorem dX4_instrumentsOfTube_38 : decode cX4_instrumentsOfTube 38 = .ok (.if_icmp .ne 6, 3) := by decide +kernel
theorem dX4_instrumentsOfTube_41 : decode cX4_instrumentsOfTube 41 = .ok (.iinc 2 1, 3) := by decide +kernel
theorem dX4_instrumentsOfTube_44 : decode cX4_instrumentsOfTube 44 = .ok (.iinc 5 1, 3) := by decide +kernel
theorem dX4_instrumentsOfTube_47 : decode cX4_instrumentsOfTube 47 = .ok (.goto (-33), 3) := by decide +kernel
theorem dX4_instrumentsOfTube_50 : decode cX4_instrumentsOfTube 50 = .ok (.iload_n 2, 1) := by decide +kernel
theorem dX4_instrumentsOfTube_51 : decode cX4_instrumentsOfTube 51 = .ok (.ireturn, 1) := by decide +kernel
theorem dX4_tubeNumbered_0 : decode cX4_tubeNumbered 0 = .ok (.iload_n 1, 1) := by decide +kernel
theorem dX4_tubeNumbered_1 : decode cX4_tubeNumbered 1 = .ok (.ifCond .lt 21, 3) := by decide +kernel
theorem dX4_tubeNumbered_4 : decode cX4_tubeNumbered 4 = .ok (.iload_n 1, 1) := by decide +kernel
theorem dX4_tubeNumbered_5 : decode cX4_tubeNumbered 5 = .ok (.aload_n 0, 1) := by decide +kernel
theorem dX4_tubeNumbered_6 : decode cX4_tubeNumbered 6 = .ok (.getfield 11, 3) := by decide +kernel
theorem dX4_tubeNumbered_9 : decode cX4_tubeNumbered 9 = .ok (.arraylength, 1) := by decide +kernel
theorem dX4_tubeNumbered_10 : decode cX4_tubeNumbered 10 = .ok (.if_icmp .ge 12, 3) := by decide +kernel
theorem dX4_tubeNumbered_13 : decode cX4_tubeNumbered 13 = .ok (.aload_n 0, 1) := by decide +kernel
theorem dX4_tubeNumbered_14 : decode cX4_tubeNumbered 14 = .ok (.getfield 11, 3) := by decide +kernel
theorem dX4_tubeNumbered_17 : decode cX4_tubeNumbered 17 = .ok (.iload_n 1, 1) := by decide +kernel
theorem dX4_tubeNumbered_18 : decode cX4_tubeNumbered 18 = .ok (.aaload, 1) := by decide +kernel
theorem dX4_tubeNumbered_19 : decode cX4_tubeNumbered 19 = .ok (.ifnonnull 14, 3) := by decide +kernel
theorem dX4_tubeNumbered_22 : decode cX4_tubeNumbered 22 = .ok (.new 288, 3) := by decide +kernel
theorem dX4_tubeNumbered_25 : decode cX4_tubeNumbered 25 = .ok (.dup, 1) := by decide +kernel
theorem dX4_tubeNumbered_26 : decode cX4_tubeNumbered 26 = .ok (.ldc_w 290, 3) := by decide +kernel
theorem dX4_tubeNumbered_29 : decode cX4_tubeNumbered 29 = .ok (.invokespecial 292, 3) := by decide +kernel
theorem dX4_tubeNumbered_32 : decode cX4_tubeNumbered 32 = .ok (.athrow, 1) := by decide +kernel
theorem dX4_tubeNumbered_33 : decode cX4_tubeNumbered 33 = .ok (.aload_n 0, 1) := by decide +kernel
theorem dX4_tubeNumbered_34 : decode cX4_tubeNumbered 34 = .ok (.getfield 11, 3) := by decide +kernel
theorem dX4_tubeNumbered_37 : decode cX4_tubeNumbered 37 = .ok (.iload_n 1, 1) := by decide +kernel
theorem dX4_tubeNumbered_38 : decode cX4_tubeNumbered 38 = .ok (.aaload, 1) := by decide +kernel
theorem dX4_tubeNumbered_39 : decode cX4_tubeNumbered 39 = .ok (.areturn, 1) := by decide +kernel
theorem dX4_demandRange_0 : decode cX4_demandRange 0 = .ok (.iload_n 0, 1) := by decide +kernel
theorem dX4_demandRange_1 : decode cX4_demandRange 1 = .ok (.iload_n 1, 1) := by decide +kernel
theorem dX4_demandRange_2 : decode cX4_demandRange 2 = .ok (.if_icmp .lt 8, 3) := by decide +kernel
theorem dX4_demandRange_5 : decode cX4_demandRange 5 = .ok (.iload_n 0, 1) := by decide +kernel
theorem dX4_demandRange_6 : decode cX4_demandRange 6 = .ok (.iload_n 2, 1) := by decide +kernel
theorem dX4_demandRange_7 : decode cX4_demandRange 7 = .ok (.if_icmp .le 14, 3) := by decide +kernel
theorem dX4_demandRange_10 : decode cX4_demandRange 10 = .ok (.new 77, 3) := by decide +kernel
theorem dX4_demandRange_13 : decode cX4_demandRange 13 = .ok (.dup, 1) := by decide +kernel
theorem dX4_demandRange_14 : decode cX4_demandRange 14 = .ok (.ldc_w 302, 3) := by decide +kernel
theorem dX4_demandRange_17 : decode cX4_demandRange 17 = .ok (.invokespecial 81, 3) := by decide +kernel
theorem dX4_demandRange_20 : decode cX4_demandRange 20 = .ok (.athrow, 1) := by decide +kernel
theorem dX4_demandRange_21 : decode cX4_demandRange 21 = .ok (.return_, 1) := by decide +kernel
set_option maxRecDepth 20000 in
theorem ggX4_demandPlace_X4_demandRange : GoodIn wsX4_demandPlace wsX4_demandRange := goodIn_ca (goodIn_r _ [4, 5, 6] (by decide +kernel) (by decide +kernel)) (goodIn_sub (fun _ h => List.mem_cons_of_mem _ (List.mem_append_right _ h)) (by decide +kernel))
set_option maxRecDepth 20000 in
theorem gX4_demandPlace_X4_demandRange : GoodIn wsX4_demandPlace (va_wsS RX4 25 yX4_demandRange wsX4_demandRange) := goodIn_app (goodIn_of _ (by decide +kernel)) ggX4_demandPlace_X4_demandRange
theorem dX4_demandPlace_0 : decode cX4_demandPlace 0 = .ok (.iload_n 0, 1) := by decide +kernel
theorem dX4_demandPlace_1 : decode cX4_demandPlace 1 = .ok (.iconst 0, 1) := by decide +kernel
theorem dX4_demandPlace_2 : decode cX4_demandPlace 2 = .ok (.sipush 200, 3) := by decide +kernel
theorem dX4_demandPlace_5 : decode cX4_demandPlace 5 = .ok (.invokestatic 25, 3) := by decide +kernel
theorem dX4_demandPlace_8 : decode cX4_demandPlace 8 = .ok (.return_, 1) := by decide +kernel
set_option maxRecDepth 20000 in
theorem ggX4_demandPressure_X4_demandRange : GoodIn wsX4_demandPressure wsX4_demandRange := goodIn_ca (goodIn_r _ [4, 5, 6] (by decide +kernel) (by decide +kernel)) (goodIn_sub (fun _ h => List.mem_cons_of_mem _ (List.mem_append_right _ h)) (by decide +kernel))
set_option maxRecDepth 20000 in
theorem gX4_demandPressure_X4_demandRange : GoodIn wsX4_demandPressure (va_wsS RX4 25 yX4_demandRange wsX4_demandRange) := goodIn_app (goodIn_of _ (by decide +kernel)) ggX4_demandPressure_X4_demandRange
theorem dX4_demandPressure_0 : decode cX4_demandPressure 0 = .ok (.iload_n 0, 1) := by decide +kernel
theorem dX4_demandPressure_1 : decode cX4_demandPressure 1 = .ok (.sipush 700, 3) := by decide +kernel
theorem dX4_demandPressure_4 : decode cX4_demandPressure 4 = .ok (.sipush 800, 3) := by decide +kernel
theorem dX4_demandPressure_7 : decode cX4_demandPressure 7 = .ok (.invokestatic 25, 3) := by decide +kernel
theorem dX4_demandPressure_10 : decode cX4_demandPressure 10 = .ok (.return_, 1) := by decide +kernel
theorem dX4_demandEither_0 : decode cX4_demandEither 0 = .ok (.iload_n 0, 1) := by decide +kernel
theorem dX4_demandEither_1 : decode cX4_demandEither 1 = .ok (.iload_n 1, 1) := by decide +kernel
theorem dX4_demandEither_2 : decode cX4_demandEither 2 = .ok (.if_icmp .eq 19, 3) := by decide +kernel
theorem dX4_demandEither_5 : decode cX4_demandEither 5 = .ok (.iload_n 0, 1) := by decide +kernel
theorem dX4_demandEither_6 : decode cX4_demandEither 6 = .ok (.iload_n 2, 1) := by decide +kernel
theorem dX4_demandEither_7 : decode cX4_demandEither 7 = .ok (.if_icmp .eq 14, 3) := by decide +kernel
theorem dX4_demandEither_10 : decode cX4_demandEither 10 = .ok (.new 77, 3) := by decide +kernel
theorem dX4_demandEither_13 : decode cX4_demandEither 13 = .ok (.dup, 1) := by decide +kernel
theorem dX4_demandEither_14 : decode cX4_demandEither 14 = .ok (.ldc_w 304, 3) := by decide +kernel
theorem dX4_demandEither_17 : decode cX4_demandEither 17 = .ok (.invokespecial 81, 3) := by decide +kernel
theorem dX4_demandEither_20 : decode cX4_demandEither 20 = .ok (.athrow, 1) := by decide +kernel
theorem dX4_demandEither_21 : decode cX4_demandEither 21 = .ok (.return_, 1) := by decide +kernel
theorem dX4_demandUnused_0 : decode cX4_demandUnused 0 = .ok (.aload_n 0, 1) := by decide +kernel
theorem dX4_demandUnused_1 : decode cX4_demandUnused 1 = .ok (.getfield 99, 3) := by decide +kernel
theorem dX4_demandUnused_4 : decode cX4_demandUnused 4 = .ok (.ifCond .eq 14, 3) := by decide +kernel
theorem dX4_demandUnused_7 : decode cX4_demandUnused 7 = .ok (.new 122, 3) := by decide +kernel
theorem dX4_demandUnused_10 : decode cX4_demandUnused 10 = .ok (.dup, 1) := by decide +kernel
theorem dX4_demandUnused_11 : decode cX4_demandUnused 11 = .ok (.ldc_w 306, 3) := by decide +kernel
theorem dX4_demandUnused_14 : decode cX4_demandUnused 14 = .ok (.invokespecial 126, 3) := by decide +kernel
theorem dX4_demandUnused_17 : decode cX4_demandUnused 17 = .ok (.athrow, 1) := by decide +kernel
theorem dX4_demandUnused_18 : decode cX4_demandUnused 18 = .ok (.return_, 1) := by decide +kernel
theorem dX4_steamAt_0 : decode cX4_steamAt 0 = .ok (.sipush 1000, 3) := by decide +kernel
theorem dX4_steamAt_3 : decode cX4_steamAt 3 = .ok (.bipush 37, 2) := by decide +kernel
theorem dX4_steamAt_5 : decode cX4_steamAt 5 = .ok (.iload_n 0, 1) := by decide +kernel
theorem dX4_steamAt_6 : decode cX4_steamAt 6 = .ok (.sipush 760, 3) := by decide +kernel
theorem dX4_steamAt_9 : decode cX4_steamAt 9 = .ok (.isub, 1) := by decide +kernel
theorem dX4_steamAt_10 : decode cX4_steamAt 10 = .ok (.imul, 1) := by decide +kernel
theorem dX4_steamAt_11 : decode cX4_steamAt 11 = .ok (.bipush 100, 2) := by decide +kernel
theorem dX4_steamAt_13 : decode cX4_steamAt 13 = .ok (.idiv, 1) := by decide +kernel
theorem dX4_steamAt_14 : decode cX4_steamAt 14 = .ok (.iadd, 1) := by decide +kernel
theorem dX4_steamAt_15 : decode cX4_steamAt 15 = .ok (.ireturn, 1) := by decide +kernel
theorem dX4_clingingToStep_0 : decode cX4_clingingToStep 0 = .ok (.iload_n 0, 1) := by decide +kernel
theorem dX4_clingingToStep_1 : decode cX4_clingingToStep 1 = .ok (.bipush 60, 2) := by decide +kernel
theorem dX4_clingingToStep_3 : decode cX4_clingingToStep 3 = .ok (.if_icmp .ge 16, 3) := by decide +kernel
theorem dX4_clingingToStep_6 : decode cX4_clingingToStep 6 = .ok (.bipush 60, 2) := by decide +kernel
theorem dX4_clingingToStep_8 : decode cX4_clingingToStep 8 = .ok (.iload_n 0, 1) := by decide +kernel
theorem dX4_clingingToStep_9 : decode cX4_clingingToStep 9 = .ok (.isub, 1) := by decide +kernel
theorem dX4_clingingToStep_10 : decode cX4_clingingToStep 10 = .ok (.bipush 9, 2) := by decide +kernel
theorem dX4_clingingToStep_12 : decode cX4_clingingToStep 12 = .ok (.iadd, 1) := by decide +kernel
theorem dX4_clingingToStep_13 : decode cX4_clingingToStep 13 = .ok (.bipush 10, 2) := by decide +kernel
theorem dX4_clingingToStep_15 : decode cX4_clingingToStep 15 = .ok (.idiv, 1) := by decide +kernel
theorem dX4_clingingToStep_16 : decode cX4_clingingToStep 16 = .ok (.goto 4, 3) := by decide +kernel
theorem dX4_clingingToStep_19 : decode cX4_clingingToStep 19 = .ok (.iconst 0, 1) := by decide +kernel
theorem dX4_clingingToStep_20 : decode cX4_clingingToStep 20 = .ok (.ireturn, 1) := by decide +kernel
theorem dJ9_max_7cf53_0 : decode cJ9_max_7cf53 0 = .ok (.iload_n 0, 1) := by decide +kernel
theorem dJ9_max_7cf53_1 : decode cJ9_max_7cf53 1 = .ok (.iload_n 1, 1) := by decide +kernel
theorem dJ9_max_7cf53_2 : decode cJ9_max_7cf53 2 = .ok (.if_icmp .lt 7, 3) := by decide +kernel
theorem dJ9_max_7cf53_5 : decode cJ9_max_7cf53 5 = .ok (.iload_n 0, 1) := by decide +kernel
theorem dJ9_max_7cf53_6 : decode cJ9_max_7cf53 6 = .ok (.goto 4, 3) := by decide +kernel
theorem dJ9_max_7cf53_9 : decode cJ9_max_7cf53 9 = .ok (.iload_n 1, 1) := by decide +kernel
theorem dJ9_max_7cf53_10 : decode cJ9_max_7cf53 10 = .ok (.ireturn, 1) := by decide +kernel
theorem dJ9_min_7cf53_0 : decode cJ9_min_7cf53 0 = .ok (.iload_n 0, 1) := by decide +kernel
theorem dJ9_min_7cf53_1 : decode cJ9_min_7cf53 1 = .ok (.iload_n 1, 1) := by decide +kernel
theorem dJ9_min_7cf53_2 : decode cJ9_min_7cf53 2 = .ok (.if_icmp .gt 7, 3) := by decide +kernel
theorem dJ9_min_7cf53_5 : decode cJ9_min_7cf53 5 = .ok (.iload_n 0, 1) := by decide +kernel
theorem dJ9_min_7cf53_6 : decode cJ9_min_7cf53 6 = .ok (.goto 4, 3) := by decide +kernel
theorem dJ9_min_7cf53_9 : decode cJ9_min_7cf53 9 = .ok (.iload_n 1, 1) := by decide +kernel
theorem dJ9_min_7cf53_10 : decode cJ9_min_7cf53 10 = .ok (.ireturn, 1) := by decide +kernel
end
section
theorem dL_cell_0 : decode cL_cell 0 = .ok (.ldc 7, 2) := by decide +kernel
theorem dL_cell_2 : decode cL_cell 2 = .ok (.iload_n 1, 1) := by decide +kernel
theorem dL_cell_3 : decode cL_cell 3 = .ok (.aload_n 0, 1) := by decide +kernel
theorem dL_cell_4 : decode cL_cell 4 = .ok (.arraylength, 1) := by decide +kernel
theorem dL_cell_5 : decode cL_cell 5 = .ok (.if_icmp .ge 9, 3) := by decide +kernel
theorem dL_cell_8 : decode cL_cell 8 = .ok (.aload_n 0, 1) := by decide +kernel
theorem dL_cell_9 : decode cL_cell 9 = .ok (.iload_n 1, 1) := by decide +kernel
theorem dL_cell_10 : decode cL_cell 10 = .ok (.iaload, 1) := by decide +kernel
theorem dL_cell_11 : decode cL_cell 11 = .ok (.goto 4, 3) := by decide +kernel
theorem dL_cell_14 : decode cL_cell 14 = .ok (.iconst 0, 1) := by decide +kernel
theorem dL_cell_15 : decode cL_cell 15 = .ok (.sipush 1009, 3) := by decide +kernel
theorem dL_cell_18 : decode cL_cell 18 = .ok (.iload_n 1, 1) := by decide +kernel
theorem dL_cell_19 : decode cL_cell 19 = .ok (.imul, 1) := by decide +kernel
theorem dL_cell_20 : decode cL_cell 20 = .ok (.iadd, 1) := by decide +kernel
theorem dL_cell_21 : decode cL_cell 21 = .ok (.imul, 1) := by decide +kernel
theorem dL_cell_22 : decode cL_cell 22 = .ok (.sipush 12345, 3) := by decide +kernel
theorem dL_cell_25 : decode cL_cell 25 = .ok (.iadd, 1) := by decide +kernel
theorem dL_cell_26 : decode cL_cell 26 = .ok (.istore_n 2, 1) := by decide +kernel
theorem dL_cell_27 : decode cL_cell 27 = .ok (.iload_n 2, 1) := by decide +kernel
theorem dL_cell_28 : decode cL_cell 28 = .ok (.iload_n 2, 1) := by decide +kernel
theorem dL_cell_29 : decode cL_cell 29 = .ok (.bipush 13, 2) := by decide +kernel
theorem dL_cell_31 : decode cL_cell 31 = .ok (.iushr, 1) := by decide +kernel
theorem dL_cell_32 : decode cL_cell 32 = .ok (.ixor, 1) := by decide +kernel
theorem dL_cell_33 : decode cL_cell 33 = .ok (.ldc 8, 2) := by decide +kernel
theorem dL_cell_35 : decode cL_cell 35 = .ok (.imul, 1) := by decide +kernel
theorem dL_cell_36 : decode cL_cell 36 = .ok (.istore_n 2, 1) := by decide +kernel
theorem dL_cell_37 : decode cL_cell 37 = .ok (.iload_n 2, 1) := by decide +kernel
theorem dL_cell_38 : decode cL_cell 38 = .ok (.iload_n 2, 1) := by decide +kernel
theorem dL_cell_39 : decode cL_cell 39 = .ok (.bipush 16, 2) := by decide +kernel
theorem dL_cell_41 : decode cL_cell 41 = .ok (.iushr, 1) := by decide +kernel
theorem dL_cell_42 : decode cL_cell 42 = .ok (.ixor, 1) := by decide +kernel
theorem dL_cell_43 : decode cL_cell 43 = .ok (.ireturn, 1) := by decide +kernel
set_option maxRecDepth 20000 in
theorem ggL_draw_X4_draw : GoodIn wsL_draw wsX4_draw := goodIn_ca (goodIn_ca (goodIn_r _ [9, 10, 11, 12, 13, 14, 15, 16, 17, 18, 8, 19, 20, 21, 22, 23, 24, 25, 26, 27, 28, 29, 30, 31, 32, 33, 34, 35, 36, 37, 38, 39, 40, 41, 42, 43, 44, 45, 46, 47] (by decide +kernel) (by decide +kernel)) (goodIn_sub (fun _ h => List.mem_cons_of_mem _ (List.mem_append_left _ (List.mem_append_right _ h))) (by decide +kernel))) (goodIn_sub (fun _ h => List.mem_cons_of_mem _ (List.mem_append_right _ h)) (by decide +kernel))
set_option maxRecDepth 20000 in
theorem gL_draw_X4_draw : GoodIn wsL_draw (wsV RL 9 RX4 yX4_draw wsX4_draw) := goodIn_app (goodIn_of _ (by decide +kernel)) ggL_draw_X4_draw
theorem dL_draw_0 : decode cL_draw 0 = .ok (.aload_n 0, 1) := by decide +kernel
theorem dL_draw_1 : decode cL_draw 1 = .ok (.iload_n 1, 1) := by decide +kernel
theorem dL_draw_2 : decode cL_draw 2 = .ok (.iload_n 2, 1) := by decide +kernel
theorem dL_draw_3 : decode cL_draw 3 = .ok (.invokevirtual 9, 3) := by decide +kernel
theorem dL_draw_6 : decode cL_draw 6 = .ok (.ireturn, 1) := by decide +kernel
theorem dL_draw_7 : decode cL_draw 7 = .ok (.astore_n 3, 1) := by decide +kernel
theorem dL_draw_8 : decode cL_draw 8 = .ok (.ldc 17, 2) := by decide +kernel
theorem dL_draw_10 : decode cL_draw 10 = .ok (.ireturn, 1) := by decide +kernel
theorem dL_draw_11 : decode cL_draw 11 = .ok (.astore_n 3, 1) := by decide +kernel
theorem dL_draw_12 : decode cL_draw 12 = .ok (.ldc 20, 2) := by decide +kernel
theorem dL_draw_14 : decode cL_draw 14 = .ok (.ireturn, 1) := by decide +kernel
set_option maxRecDepth 20000 in
theorem ggL_section_X4_section : GoodIn wsL_section wsX4_section := goodIn_ca (goodIn_ca (goodIn_ca (goodIn_r _ [11, 12, 13, 14, 10, 15, 16, 17, 18, 19, 20, 21, 22, 23, 24, 25, 26, 27, 28, 29, 30, 31, 32, 33, 34, 35, 36, 37, 38, 39, 40, 41, 42, 43, 44, 45, 46, 47, 48, 49] (by decide +kernel) (by decide +kernel)) (goodIn_sub (fun _ h => List.mem_cons_of_mem _ (List.mem_append_left _ (List.mem_append_left _ (List.mem_append_right _ h)))) (by decide +kernel))) (goodIn_sub (fun _ h => List.mem_cons_of_mem _ (List.mem_append_left _ (List.mem_append_right _ h))) (by decide +kernel))) (goodIn_sub (fun _ h => List.mem_cons_of_mem _ (List.mem_append_right _ h)) (by decide +kernel))
set_option maxRecDepth 20000 in
theorem gL_section_X4_section : GoodIn wsL_section (wsV RL 21 RX4 yX4_section wsX4_section) := goodIn_app (goodIn_of _ (by decide +kernel)) ggL_section_X4_section
theorem dL_section_0 : decode cL_section 0 = .ok (.aload_n 0, 1) := by decide +kernel
theorem dL_section_1 : decode cL_section 1 = .ok (.iload_n 1, 1) := by decide +kernel
theorem dL_section_2 : decode cL_section 2 = .ok (.iload_n 2, 1) := by decide +kernel
theorem dL_section_3 : decode cL_section 3 = .ok (.iload_n 3, 1) := by decide +kernel
theorem dL_section_4 : decode cL_section 4 = .ok (.invokevirtual 21, 3) := by decide +kernel
theorem dL_section_7 : decode cL_section 7 = .ok (.ireturn, 1) := by decide +kernel
theorem dL_section_8 : decode cL_section 8 = .ok (.astore 4, 2) := by decide +kernel
theorem dL_section_10 : decode cL_section 10 = .ok (.ldc 17, 2) := by decide +kernel
theorem dL_section_12 : decode cL_section 12 = .ok (.ireturn, 1) := by decide +kernel
theorem dL_section_13 : decode cL_section 13 = .ok (.astore 4, 2) := by decide +kernel
theorem dL_section_15 : decode cL_section 15 = .ok (.ldc 20, 2) := by decide +kernel
theorem dL_section_17 : decode cL_section 17 = .ok (.ireturn, 1) := by decide +kernel
theorem dL_section_18 : decode cL_section 18 = .ok (.astore 4, 2) := by decide +kernel
theorem dL_section_20 : decode cL_section 20 = .ok (.ldc 29, 2) := by decide +kernel
theorem dL_section_22 : decode cL_section 22 = .ok (.ireturn, 1) := by decide +kernel
set_option maxRecDepth 20000 in
theorem ggL_bore_X4_bore : GoodIn wsL_bore wsX4_bore := goodIn_ca (goodIn_ca (goodIn_r _ [9, 10, 11, 12, 8, 13, 14, 15, 16, 17, 18, 19, 20, 21, 22, 23, 24, 25, 26, 27, 28, 29, 30, 31, 32, 33, 34, 35, 36, 37, 38] (by decide +kernel) (by decide +kernel)) (goodIn_sub (fun _ h => List.mem_cons_of_mem _ (List.mem_append_left _ (List.mem_append_right _ h))) (by decide +kernel))) (goodIn_sub (fun _ h => List.mem_cons_of_mem _ (List.mem_append_right _ h)) (by decide +kernel))
set_option maxRecDepth 20000 in
theorem gL_bore_X4_bore : GoodIn wsL_bore (wsV RL 30 RX4 yX4_bore wsX4_bore) := goodIn_app (goodIn_of _ (by decide +kernel)) ggL_bore_X4_bore
theorem dL_bore_0 : decode cL_bore 0 = .ok (.aload_n 0, 1) := by decide +kernel
theorem dL_bore_1 : decode cL_bore 1 = .ok (.iload_n 1, 1) := by decide +kernel
theorem dL_bore_2 : decode cL_bore 2 = .ok (.iload_n 2, 1) := by decide +kernel
theorem dL_bore_3 : decode cL_bore 3 = .ok (.invokevirtual 30, 3) := by decide +kernel
theorem dL_bore_6 : decode cL_bore 6 = .ok (.ireturn, 1) := by decide +kernel
theorem dL_bore_7 : decode cL_bore 7 = .ok (.astore_n 3, 1) := by decide +kernel
theorem dL_bore_8 : decode cL_bore 8 = .ok (.ldc 17, 2) := by decide +kernel
theorem dL_bore_10 : decode cL_bore 10 = .ok (.ireturn, 1) := by decide +kernel
theorem dL_bore_11 : decode cL_bore 11 = .ok (.astore_n 3, 1) := by decide +kernel
theorem dL_bore_12 : decode cL_bore 12 = .ok (.ldc 20, 2) := by decide +kernel
theorem dL_bore_14 : decode cL_bore 14 = .ok (.ireturn, 1) := by decide +kernel
set_option maxRecDepth 20000 in
theorem ggL_volume_X4_volume : GoodIn wsL_volume wsX4_volume := goodIn_ca (goodIn_ca (goodIn_r _ [9, 10, 11, 12, 8, 13, 14, 15, 16, 17, 18, 19, 20, 21, 22, 23, 24, 25, 26, 27, 28, 29, 30, 31, 32, 33, 34, 35, 36, 37, 38, 39, 40, 41, 42, 43, 44, 45, 46, 47, 48, 49, 50, 51] (by decide +kernel) (by decide +kernel)) (goodIn_sub (fun _ h => List.mem_cons_of_mem _ (List.mem_append_left _ (List.mem_append_right _ h))) (by decide +kernel))) (goodIn_sub (fun _ h => List.mem_cons_of_mem _ (List.mem_append_right _ h)) (by decide +kernel))
set_option maxRecDepth 20000 in
theorem gL_volume_X4_volume : GoodIn wsL_volume (wsV RL 33 RX4 yX4_volume wsX4_volume) := goodIn_app (goodIn_of _ (by decide +kernel)) ggL_volume_X4_volume
theorem dL_volume_0 : decode cL_volume 0 = .ok (.aload_n 0, 1) := by decide +kernel
theorem dL_volume_1 : decode cL_volume 1 = .ok (.iload_n 1, 1) := by decide +kernel
theorem dL_volume_2 : decode cL_volume 2 = .ok (.iload_n 2, 1) := by decide +kernel
theorem dL_volume_3 : decode cL_volume 3 = .ok (.invokevirtual 33, 3) := by decide +kernel
theorem dL_volume_6 : decode cL_volume 6 = .ok (.ireturn, 1) := by decide +kernel
theorem dL_volume_7 : decode cL_volume 7 = .ok (.astore_n 3, 1) := by decide +kernel
theorem dL_volume_8 : decode cL_volume 8 = .ok (.ldc 17, 2) := by decide +kernel
theorem dL_volume_10 : decode cL_volume 10 = .ok (.ireturn, 1) := by decide +kernel
theorem dL_volume_11 : decode cL_volume 11 = .ok (.astore_n 3, 1) := by decide +kernel
theorem dL_volume_12 : decode cL_volume 12 = .ok (.ldc 20, 2) := by decide +kernel
theorem dL_volume_14 : decode cL_volume 14 = .ok (.ireturn, 1) := by decide +kernel
set_option maxRecDepth 20000 in
theorem ggL_thread_X4_thread : GoodIn wsL_thread wsX4_thread := goodIn_ca (goodIn_ca (goodIn_ca (goodIn_r _ [11, 12, 13, 14, 15, 16, 17, 10, 18, 19, 20, 21, 22, 23, 24, 25, 26, 27, 28, 29, 30, 31, 32, 33, 34, 35, 36, 37, 38, 39, 40, 41, 42, 43, 44, 45, 46, 47, 48, 49, 50, 51, 52, 53, 54, 55, 56, 57, 58, 59, 60, 61] (by decide +kernel) (by decide +kernel)) (goodIn_sub (fun _ h => List.mem_cons_of_mem _ (List.mem_append_left _ (List.mem_append_left _ (List.mem_append_right _ h)))) (by decide +kernel))) (goodIn_sub (fun _ h => List.mem_cons_of_mem _ (List.mem_append_left _ (List.mem_append_right _ h))) (by decide +kernel))) (goodIn_sub (fun _ h => List.mem_cons_of_mem _ (List.mem_append_right _ h)) (by decide +kernel))
set_option maxRecDepth 20000 in
theorem gL_thread_X4_thread : GoodIn wsL_thread (wsV RL 36 RX4 yX4_thread wsX4_thread) := goodIn_app (goodIn_of _ (by decide +kernel)) ggL_thread_X4_thread
theorem dL_thread_0 : decode cL_thread 0 = .ok (.aload_n 0, 1) := by decide +kernel
theorem dL_thread_1 : decode cL_thread 1 = .ok (.iload_n 1, 1) := by decide +kernel
theorem dL_thread_2 : decode cL_thread 2 = .ok (.iload_n 2, 1) := by decide +kernel
theorem dL_thread_3 : decode cL_thread 3 = .ok (.iload_n 3, 1) := by decide +kernel
theorem dL_thread_4 : decode cL_thread 4 = .ok (.invokevirtual 36, 3) := by decide +kernel
theorem dL_thread_7 : decode cL_thread 7 = .ok (.ireturn, 1) := by decide +kernel
theorem dL_thread_8 : decode cL_thread 8 = .ok (.astore 4, 2) := by decide +kernel
theorem dL_thread_10 : decode cL_thread 10 = .ok (.ldc 17, 2) := by decide +kernel
theorem dL_thread_12 : decode cL_thread 12 = .ok (.ireturn, 1) := by decide +kernel
theorem dL_thread_13 : decode cL_thread 13 = .ok (.astore 4, 2) := by decide +kernel
theorem dL_thread_15 : decode cL_thread 15 = .ok (.ldc 20, 2) := by decide +kernel
theorem dL_thread_17 : decode cL_thread 17 = .ok (.ireturn, 1) := by decide +kernel
theorem dL_thread_18 : decode cL_thread 18 = .ok (.astore 4, 2) := by decide +kernel
theorem dL_thread_20 : decode cL_thread 20 = .ok (.ldc 29, 2) := by decide +kernel
theorem dL_thread_22 : decode cL_thread 22 = .ok (.ireturn, 1) := by decide +kernel
set_option maxRecDepth 20000 in
theorem ggL_widest_X4_widest : GoodIn wsL_widest wsX4_widest := goodIn_ca (goodIn_r _ [7, 8, 9, 10, 6, 11, 12, 13, 14, 15, 16, 17, 18, 19, 20, 21, 22, 23, 24, 25, 26, 27, 28, 29, 30, 31, 32, 33, 34, 35] (by decide +kernel) (by decide +kernel)) (goodIn_sub (fun _ h => List.mem_cons_of_mem _ (List.mem_append_right _ h)) (by decide +kernel))
set_option maxRecDepth 20000 in
theorem gL_widest_X4_widest : GoodIn wsL_widest (wsV RL 41 RX4 yX4_widest wsX4_widest) := goodIn_app (goodIn_of _ (by decide +kernel)) ggL_widest_X4_widest
theorem dL_widest_0 : decode cL_widest 0 = .ok (.aload_n 0, 1) := by decide +kernel
theorem dL_widest_1 : decode cL_widest 1 = .ok (.iload_n 1, 1) := by decide +kernel
theorem dL_widest_2 : decode cL_widest 2 = .ok (.invokevirtual 41, 3) := by decide +kernel
theorem dL_widest_5 : decode cL_widest 5 = .ok (.ireturn, 1) := by decide +kernel
theorem dL_widest_6 : decode cL_widest 6 = .ok (.astore_n 2, 1) := by decide +kernel
theorem dL_widest_7 : decode cL_widest 7 = .ok (.ldc 17, 2) := by decide +kernel
theorem dL_widest_9 : decode cL_widest 9 = .ok (.ireturn, 1) := by decide +kernel
set_option maxRecDepth 20000 in
theorem ggL_deliver_X4_deliver : GoodIn wsL_deliver wsX4_deliver := goodIn_ca (goodIn_ca (goodIn_r _ [9, 10, 11, 12, 13, 14, 8, 15, 16, 17, 18, 19, 20, 21, 22, 23, 24, 25, 26, 27, 28, 29, 30, 31, 32, 33, 34, 35, 36, 37, 38, 39, 40, 41, 42, 43, 44, 45, 46, 47, 48, 49, 50, 51, 52, 53, 54, 55, 56, 57, 58] (by decide +kernel) (by decide +kernel)) (goodIn_sub (fun _ h => List.mem_cons_of_mem _ (List.mem_append_left _ (List.mem_append_right _ h))) (by decide +kernel))) (goodIn_sub (fun _ h => List.mem_cons_of_mem _ (List.mem_append_right _ h)) (by decide +kernel))
set_option maxRecDepth 20000 in
theorem gL_deliver_X4_deliver : GoodIn wsL_deliver (wsV RL 45 RX4 yX4_deliver wsX4_deliver) := goodIn_app (goodIn_of _ (by decide +kernel)) ggL_deliver_X4_deliver
theorem dL_deliver_0 : decode cL_deliver 0 = .ok (.aload_n 0, 1) := by decide +kernel
theorem dL_deliver_1 : decode cL_deliver 1 = .ok (.iload_n 1, 1) := by decide +kernel
theorem dL_deliver_2 : decode cL_deliver 2 = .ok (.iload_n 2, 1) := by decide +kernel
theorem dL_deliver_3 : decode cL_deliver 3 = .ok (.iload_n 3, 1) := by decide +kernel
theorem dL_deliver_4 : decode cL_deliver 4 = .ok (.iload 4, 2) := by decide +kernel
theorem dL_deliver_6 : decode cL_deliver 6 = .ok (.invokevirtual 45, 3) := by decide +kernel
theorem dL_deliver_9 : decode cL_deliver 9 = .ok (.ireturn, 1) := by decide +kernel
theorem dL_deliver_10 : decode cL_deliver 10 = .ok (.astore 5, 2) := by decide +kernel
theorem dL_deliver_12 : decode cL_deliver 12 = .ok (.ldc 17, 2) := by decide +kernel
theorem dL_deliver_14 : decode cL_deliver 14 = .ok (.ireturn, 1) := by decide +kernel
theorem dL_deliver_15 : decode cL_deliver 15 = .ok (.astore 5, 2) := by decide +kernel
theorem dL_deliver_17 : decode cL_deliver 17 = .ok (.ldc 20, 2) := by decide +kernel
theorem dL_deliver_19 : decode cL_deliver 19 = .ok (.ireturn, 1) := by decide +kernel
set_option maxRecDepth 20000 in
theorem ggL_make_X4_make : GoodIn wsL_make wsX4_make := goodIn_ca (goodIn_ca (goodIn_ca (goodIn_ca (goodIn_r _ [13, 14, 15, 16, 17, 18, 19, 20, 21, 22, 23, 24, 12, 25, 26, 27, 28, 29, 30, 31, 32, 33, 34, 35, 36, 37, 38, 39, 40, 41, 42, 43, 44, 45, 46, 47, 48, 49, 50, 51, 52, 53, 54, 55, 56, 57, 58, 59, 60, 61, 62, 63, 64, 65, 66, 67, 68, 69, 70, 71, 72, 73, 74, 75, 76, 77, 78, 79, 80, 81, 82, 83, 84, 85, 86, 87, 88, 89, 90, 91, 92, 93, 94, 95, 96, 97, 98, 99, 100, 101, 102, 103, 104, 105, 106, 107, 108, 109, 110] (by decide +kernel) (by decide +kernel)) (goodIn_sub (fun _ h => List.mem_cons_of_mem _ (List.mem_append_left _ (List.mem_append_left _ (List.mem_append_left _ (List.mem_append_right _ h))))) (by decide +kernel))) (goodIn_sub (fun _ h => List.mem_cons_of_mem _ (List.mem_append_left _ (List.mem_append_left _ (List.mem_append_right _ h)))) (by decide +kernel))) (goodIn_sub (fun _ h => List.mem_cons_of_mem _ (List.mem_append_left _ (List.mem_append_right _ h))) (by decide +kernel))) (goodIn_sub (fun _ h => List.mem_cons_of_mem _ (List.mem_append_right _ h)) (by decide +kernel))
set_option maxRecDepth 20000 in
theorem gL_make_X4_make : GoodIn wsL_make (wsV RL 49 RX4 yX4_make wsX4_make) := goodIn_app (goodIn_of _ (by decide +kernel)) ggL_make_X4_make
theorem dL_make_0 : decode cL_make 0 = .ok (.aload_n 0, 1) := by decide +kernel
theorem dL_make_1 : decode cL_make 1 = .ok (.iload_n 1, 1) := by decide +kernel
theorem dL_make_2 : decode cL_make 2 = .ok (.iload_n 2, 1) := by decide +kernel
theorem dL_make_3 : decode cL_make 3 = .ok (.iload_n 3, 1) := by decide +kernel
theorem dL_make_4 : decode cL_make 4 = .ok (.invokevirtual 49, 3) := by decide +kernel
theorem dL_make_7 : decode cL_make 7 = .ok (.ireturn, 1) := by decide +kernel
theorem dL_make_8 : decode cL_make 8 = .ok (.astore 4, 2) := by decide +kernel
theorem dL_make_10 : decode cL_make 10 = .ok (.ldc 17, 2) := by decide +kernel
theorem dL_make_12 : decode cL_make 12 = .ok (.ireturn, 1) := by decide +kernel
theorem dL_make_13 : decode cL_make 13 = .ok (.astore 4, 2) := by decide +kernel
theorem dL_make_15 : decode cL_make 15 = .ok (.ldc 20, 2) := by decide +kernel
theorem dL_make_17 : decode cL_make 17 = .ok (.ireturn, 1) := by decide +kernel
theorem dL_make_18 : decode cL_make 18 = .ok (.astore 4, 2) := by decide +kernel
theorem dL_make_20 : decode cL_make 20 = .ok (.ldc 29, 2) := by decide +kernel
theorem dL_make_22 : decode cL_make 22 = .ok (.ireturn, 1) := by decide +kernel
theorem dL_make_23 : decode cL_make 23 = .ok (.astore 4, 2) := by decide +kernel
theorem dL_make_25 : decode cL_make 25 = .ok (.ldc 53, 2) := by decide +kernel
theorem dL_make_27 : decode cL_make 27 = .ok (.ireturn, 1) := by decide +kernel
set_option maxRecDepth 20000 in
theorem ggL_boiling_X4_boiling : GoodIn wsL_boiling wsX4_boiling := goodIn_ca (goodIn_r _ [7, 8, 9, 6, 10, 11, 12, 13, 14, 15, 16, 17, 18] (by decide +kernel) (by decide +kernel)) (goodIn_sub (fun _ h => List.mem_cons_of_mem _ (List.mem_append_right _ h)) (by decide +kernel))
set_option maxRecDepth 20000 in
theorem gL_boiling_X4_boiling : GoodIn wsL_boiling (wsV RL 54 RX4 yX4_boiling wsX4_boiling) := goodIn_app (goodIn_of _ (by decide +kernel)) ggL_boiling_X4_boiling
theorem dL_boiling_0 : decode cL_boiling 0 = .ok (.aload_n 0, 1) := by decide +kernel
theorem dL_boiling_1 : decode cL_boiling 1 = .ok (.iload_n 1, 1) := by decide +kernel
theorem dL_boiling_2 : decode cL_boiling 2 = .ok (.invokevirtual 54, 3) := by decide +kernel
theorem dL_boiling_5 : decode cL_boiling 5 = .ok (.ireturn, 1) := by decide +kernel
theorem dL_boiling_6 : decode cL_boiling 6 = .ok (.astore_n 2, 1) := by decide +kernel
theorem dL_boiling_7 : decode cL_boiling 7 = .ok (.ldc 17, 2) := by decide +kernel
theorem dL_boiling_9 : decode cL_boiling 9 = .ok (.ireturn, 1) := by decide +kernel
set_option maxRecDepth 20000 in
theorem ggL_barometer_X4_barometer : GoodIn wsL_barometer wsX4_barometer := goodIn_ca (goodIn_r _ [7, 8, 9, 10, 6, 11, 12, 13] (by decide +kernel) (by decide +kernel)) (goodIn_sub (fun _ h => List.mem_cons_of_mem _ (List.mem_append_right _ h)) (by decide +kernel))
set_option maxRecDepth 20000 in
theorem gL_barometer_X4_barometer : GoodIn wsL_barometer (wsV RL 57 RX4 yX4_barometer wsX4_barometer) := goodIn_app (goodIn_of _ (by decide +kernel)) ggL_barometer_X4_barometer
theorem dL_barometer_0 : decode cL_barometer 0 = .ok (.aload_n 0, 1) := by decide +kernel
theorem dL_barometer_1 : decode cL_barometer 1 = .ok (.iload_n 1, 1) := by decide +kernel
theorem dL_barometer_2 : decode cL_barometer 2 = .ok (.iload_n 2, 1) := by decide +kernel
theorem dL_barometer_3 : decode cL_barometer 3 = .ok (.iload_n 3, 1) := by decide +kernel
theorem dL_barometer_4 : decode cL_barometer 4 = .ok (.iload 4, 2) := by decide +kernel
theorem dL_barometer_6 : decode cL_barometer 6 = .ok (.invokevirtual 57, 3) := by decide +kernel
theorem dL_barometer_9 : decode cL_barometer 9 = .ok (.ireturn, 1) := by decide +kernel
theorem dL_barometer_10 : decode cL_barometer 10 = .ok (.astore 5, 2) := by decide +kernel
theorem dL_barometer_12 : decode cL_barometer 12 = .ok (.ldc 17, 2) := by decide +kernel
theorem dL_barometer_14 : decode cL_barometer 14 = .ok (.ireturn, 1) := by decide +kernel
set_option maxRecDepth 20000 in
theorem ggL_in_L_cell : GoodIn wsL_in wsL_cell := goodIn_r _ [5, 6, 7] (by decide +kernel) (by decide +kernel)
set_option maxRecDepth 20000 in
theorem gL_in_L_cell : GoodIn wsL_in (va_wsS RL 60 yL_cell wsL_cell) := goodIn_app (goodIn_of _ (by decide +kernel)) ggL_in_L_cell
theorem dL_in_0 : decode cL_in 0 = .ok (.aload_n 0, 1) := by decide +kernel
theorem dL_in_1 : decode cL_in 1 = .ok (.iload_n 1, 1) := by decide +kernel
theorem dL_in_2 : decode cL_in 2 = .ok (.invokestatic 60, 3) := by decide +kernel
theorem dL_in_5 : decode cL_in 5 = .ok (.ldc 66, 2) := by decide +kernel
theorem dL_in_7 : decode cL_in 7 = .ok (.iand, 1) := by decide +kernel
theorem dL_in_8 : decode cL_in 8 = .ok (.iload_n 2, 1) := by decide +kernel
theorem dL_in_9 : decode cL_in 9 = .ok (.irem, 1) := by decide +kernel
theorem dL_in_10 : decode cL_in 10 = .ok (.ireturn, 1) := by decide +kernel
end
section
theorem dL_law_0 : decode cL_law 0 = .ok (.new 10, 3) := by decide +kernel
theorem dL_law_3 : decode cL_law 3 = .ok (.dup, 1) := by decide +kernel
theorem dL_law_4 : decode cL_law 4 = .ok (.invokespecial 67, 3) := by decide +kernel
theorem dL_law_7 : decode cL_law 7 = .ok (.astore_n 1, 1) := by decide +kernel
theorem dL_law_8 : decode cL_law 8 = .ok (.iconst 1, 1) := by decide +kernel
theorem dL_law_9 : decode cL_law 9 = .ok (.aload_n 0, 1) := by decide +kernel
theorem dL_law_10 : decode cL_law 10 = .ok (.iconst 0, 1) := by decide +kernel
theorem dL_law_11 : decode cL_law 11 = .ok (.bipush 40, 2) := by decide +kernel
theorem dL_law_13 : decode cL_law 13 = .ok (.invokestatic 68, 3) := by decide +kernel
theorem dL_law_16 : decode cL_law 16 = .ok (.iadd, 1) := by decide +kernel
theorem dL_law_17 : decode cL_law 17 = .ok (.istore_n 2, 1) := by decide +kernel
theorem dL_law_18 : decode cL_law 18 = .ok (.aload_n 0, 1) := by decide +kernel
theorem dL_law_19 : decode cL_law 19 = .ok (.iconst 1, 1) := by decide +kernel
theorem dL_law_20 : decode cL_law 20 = .ok (.iconst 5, 1) := by decide +kernel
theorem dL_law_21 : decode cL_law 21 = .ok (.invokestatic 68, 3) := by decide +kernel
theorem dL_law_24 : decode cL_law 24 = .ok (.iconst 2, 1) := by decide +kernel
theorem dL_law_25 : decode cL_law 25 = .ok (.isub, 1) := by decide +kernel
theorem dL_law_26 : decode cL_law 26 = .ok (.istore_n 3, 1) := by decide +kernel
theorem dL_law_27 : decode cL_law 27 = .ok (.aload_n 1, 1) := by decide +kernel
theorem dL_law_28 : decode cL_law 28 = .ok (.bipush 41, 2) := by decide +kernel
theorem dL_law_30 : decode cL_law 30 = .ok (.iconst 0, 1) := by decide +kernel
theorem dL_law_31 : decode cL_law 31 = .ok (.invokestatic 72, 3) := by decide +kernel
theorem dL_law_34 : decode cL_law 34 = .ok (.ldc 17, 2) := by decide +kernel
theorem dL_law_36 : decode cL_law 36 = .ok (.if_icmp .ne 50, 3) := by decide +kernel
theorem dL_law_39 : decode cL_law 39 = .ok (.aload_n 1, 1) := by decide +kernel
theorem dL_law_40 : decode cL_law 40 = .ok (.iconst 1, 1) := by decide +kernel
theorem dL_law_41 : decode cL_law 41 = .ok (.iconst 3, 1) := by decide +kernel
theorem dL_law_42 : decode cL_law 42 = .ok (.invokestatic 72, 3) := by decide +kernel
theorem dL_law_45 : decode cL_law 45 = .ok (.ldc 17, 2) := by decide +kernel
theorem dL_law_47 : decode cL_law 47 = .ok (.if_icmp .ne 39, 3) := by decide +kernel
theorem dL_law_50 : decode cL_law 50 = .ok (.aload_n 1, 1) := by decide +kernel
theorem dL_law_51 : decode cL_law 51 = .ok (.iload_n 2, 1) := by decide +kernel
theorem dL_law_52 : decode cL_law 52 = .ok (.iload_n 3, 1) := by decide +kernel
theorem dL_law_53 : decode cL_law 53 = .ok (.invokestatic 72, 3) := by decide +kernel
theorem dL_law_56 : decode cL_law 56 = .ok (.ifCond .ne 30, 3) := by decide +kernel
theorem dL_law_59 : decode cL_law 59 = .ok (.aload_n 1, 1) := by decide +kernel
theorem dL_law_60 : decode cL_law 60 = .ok (.iconst 1, 1) := by decide +kernel
theorem dL_law_61 : decode cL_law 61 = .ok (.iconst 0, 1) := by decide +kernel
theorem dL_law_62 : decode cL_law 62 = .ok (.invokestatic 75, 3) := by decide +kernel
theorem dL_law_65 : decode cL_law 65 = .ok (.ldc 17, 2) := by decide +kernel
theorem dL_law_67 : decode cL_law 67 = .ok (.if_icmp .ne 19, 3) := by decide +kernel
theorem dL_law_70 : decode cL_law 70 = .ok (.aload_n 1, 1) := by decide +kernel
theorem dL_law_71 : decode cL_law 71 = .ok (.iconst 0, 1) := by decide +kernel
theorem dL_law_72 : decode cL_law 72 = .ok (.bipush 20, 2) := by decide +kernel
theorem dL_law_74 : decode cL_law 74 = .ok (.invokestatic 75, 3) := by decide +kernel
theorem dL_law_77 : decode cL_law 77 = .ok (.ldc 20, 2) := by decide +kernel
theorem dL_law_79 : decode cL_law 79 = .ok (.if_icmp .ne 7, 3) := by decide +kernel
theorem dL_law_82 : decode cL_law 82 = .ok (.iconst 1, 1) := by decide +kernel
theorem dL_law_83 : decode cL_law 83 = .ok (.goto 4, 3) := by decide +kernel
theorem dL_law_86 : decode cL_law 86 = .ok (.iconst 0, 1) := by decide +kernel
theorem dL_law_87 : decode cL_law 87 = .ok (.istore 4, 2) := by decide +kernel
theorem dL_law_89 : decode cL_law 89 = .ok (.bipush 20, 2) := by decide +kernel
theorem dL_law_91 : decode cL_law 91 = .ok (.newarray .int, 2) := by decide +kernel
theorem dL_law_93 : decode cL_law 93 = .ok (.astore 5, 2) := by decide +kernel
theorem dL_law_95 : decode cL_law 95 = .ok (.iconst 0, 1) := by decide +kernel
theorem dL_law_96 : decode cL_law 96 = .ok (.istore 6, 2) := by decide +kernel
theorem dL_law_98 : decode cL_law 98 = .ok (.iload 6, 2) := by decide +kernel
theorem dL_law_100 : decode cL_law 100 = .ok (.bipush 20, 2) := by decide +kernel
theorem dL_law_102 : decode cL_law 102 = .ok (.if_icmp .ge 71, 3) := by decide +kernel
theorem dL_law_105 : decode cL_law 105 = .ok (.iload_n 2, 1) := by decide +kernel
theorem dL_law_106 : decode cL_law 106 = .ok (.iload 6, 2) := by decide +kernel
theorem dL_law_108 : decode cL_law 108 = .ok (.iload_n 3, 1) := by decide +kernel
theorem dL_law_109 : decode cL_law 109 = .ok (.imul, 1) := by decide +kernel
theorem dL_law_110 : decode cL_law 110 = .ok (.iadd, 1) := by decide +kernel
theorem dL_law_111 : decode cL_law 111 = .ok (.istore 7, 2) := by decide +kernel
theorem dL_law_113 : decode cL_law 113 = .ok (.aload 5, 2) := by decide +kernel
theorem dL_law_115 : decode cL_law 115 = .ok (.iload 6, 2) := by decide +kernel
theorem dL_law_117 : decode cL_law 117 = .ok (.iload 7, 2) := by decide +kernel
theorem dL_law_119 : decode cL_law 119 = .ok (.iconst 1, 1) := by decide +kernel
theorem dL_law_120 : decode cL_law 120 = .ok (.if_icmp .ge 7, 3) := by decide +kernel
theorem dL_law_123 : decode cL_law 123 = .ok (.iconst 1, 1) := by decide +kernel
theorem dL_law_124 : decode cL_law 124 = .ok (.goto 17, 3) := by decide +kernel
theorem dL_law_127 : decode cL_law 127 = .ok (.iload 7, 2) := by decide +kernel
theorem dL_law_129 : decode cL_law 129 = .ok (.bipush 60, 2) := by decide +kernel
theorem dL_law_131 : decode cL_law 131 = .ok (.if_icmp .le 8, 3) := by decide +kernel
theorem dL_law_134 : decode cL_law 134 = .ok (.bipush 60, 2) := by decide +kernel
theorem dL_law_136 : decode cL_law 136 = .ok (.goto 5, 3) := by decide +kernel
theorem dL_law_139 : decode cL_law 139 = .ok (.iload 7, 2) := by decide +kernel
theorem dL_law_141 : decode cL_law 141 = .ok (.iastore, 1) := by decide +kernel
theorem dL_law_142 : decode cL_law 142 = .ok (.iload 4, 2) := by decide +kernel
theorem dL_law_144 : decode cL_law 144 = .ok (.aload_n 1, 1) := by decide +kernel
theorem dL_law_145 : decode cL_law 145 = .ok (.iconst 0, 1) := by decide +kernel
theorem dL_law_146 : decode cL_law 146 = .ok (.iload 6, 2) := by decide +kernel
theorem dL_law_148 : decode cL_law 148 = .ok (.invokestatic 75, 3) := by decide +kernel
theorem dL_law_151 : decode cL_law 151 = .ok (.aload 5, 2) := by decide +kernel
theorem dL_law_153 : decode cL_law 153 = .ok (.iload 6, 2) := by decide +kernel
theorem dL_law_155 : decode cL_law 155 = .ok (.iaload, 1) := by decide +kernel
theorem dL_law_156 : decode cL_law 156 = .ok (.if_icmp .ne 7, 3) := by decide +kernel
theorem dL_law_159 : decode cL_law 159 = .ok (.iconst 1, 1) := by decide +kernel
theorem dL_law_160 : decode cL_law 160 = .ok (.goto 4, 3) := by decide +kernel
theorem dL_law_163 : decode cL_law 163 = .ok (.iconst 0, 1) := by decide +kernel
theorem dL_law_164 : decode cL_law 164 = .ok (.iand, 1) := by decide +kernel
theorem dL_law_165 : decode cL_law 165 = .ok (.istore 4, 2) := by decide +kernel
theorem dL_law_167 : decode cL_law 167 = .ok (.iinc 6 1, 3) := by decide +kernel
theorem dL_law_170 : decode cL_law 170 = .ok (.goto (-72), 3) := by decide +kernel
theorem dL_law_173 : decode cL_law 173 = .ok (.iconst 0, 1) := by decide +kernel
theorem dL_law_174 : decode cL_law 174 = .ok (.istore 6, 2) := by decide +kernel
theorem dL_law_176 : decode cL_law 176 = .ok (.iload 6, 2) := by decide +kernel
theorem dL_law_178 : decode cL_law 178 = .ok (.bipush 8, 2) := by decide +kernel
theorem dL_law_180 : decode cL_law 180 = .ok (.if_icmp .ge 71, 3) := by decide +kernel
theorem dL_law_183 : decode cL_law 183 = .ok (.aload_n 0, 1) := by decide +kernel
theorem dL_law_184 : decode cL_law 184 = .ok (.bipush 10, 2) := by decide +kernel
theorem dL_law_186 : decode cL_law 186 = .ok (.iload 6, 2) := by decide +kernel
theorem dL_law_188 : decode cL_law 188 = .ok (.iadd, 1) := by decide +kernel
theorem dL_law_189 : decode cL_law 189 = .ok (.bipush 20, 2) := by decide +kernel
theorem dL_law_191 : decode cL_law 191 = .ok (.invokestatic 68, 3) := by decide +kernel
theorem dL_law_194 : decode cL_law 194 = .ok (.istore 7, 2) := by decide +kernel
theorem dL_law_196 : decode cL_law 196 = .ok (.iconst 1, 1) := by decide +kernel
theorem dL_law_197 : decode cL_law 197 = .ok (.aload_n 0, 1) := by decide +kernel
theorem dL_law_198 : decode cL_law 198 = .ok (.bipush 20, 2) := by decide +kernel
theorem dL_law_200 : decode cL_law 200 = .ok (.iload 6, 2) := by decide +kernel
theorem dL_law_202 : decode cL_law 202 = .ok (.iadd, 1) := by decide +kernel
theorem dL_law_203 : decode cL_law 203 = .ok (.bipush 60, 2) := by decide +kernel
theorem dL_law_205 : decode cL_law 205 = .ok (.invokestatic 68, 3) := by decide +kernel
theorem dL_law_208 : decode cL_law 208 = .ok (.iadd, 1) := by decide +kernel
theorem dL_law_209 : decode cL_law 209 = .ok (.istore 8, 2) := by decide +kernel
theorem dL_law_211 : decode cL_law 211 = .ok (.iload 4, 2) := by decide +kernel
theorem dL_law_213 : decode cL_law 213 = .ok (.aload_n 1, 1) := by decide +kernel
theorem dL_law_214 : decode cL_law 214 = .ok (.iconst 0, 1) := by decide +kernel
theorem dL_law_215 : decode cL_law 215 = .ok (.iload 7, 2) := by decide +kernel
theorem dL_law_217 : decode cL_law 217 = .ok (.iload 8, 2) := by decide +kernel
theorem dL_law_219 : decode cL_law 219 = .ok (.invokestatic 77, 3) := by decide +kernel
theorem dL_law_222 : decode cL_law 222 = .ok (.aload 5, 2) := by decide +kernel
theorem dL_law_224 : decode cL_law 224 = .ok (.iload 7, 2) := by decide +kernel
theorem dL_law_226 : decode cL_law 226 = .ok (.iaload, 1) := by decide +kernel
theorem dL_law_227 : decode cL_law 227 = .ok (.if_icmp .ne 7, 3) := by decide +kernel
theorem dL_law_230 : decode cL_law 230 = .ok (.iconst 1, 1) := by decide +kernel
theorem dL_law_231 : decode cL_law 231 = .ok (.goto 4, 3) := by decide +kernel
theorem dL_law_234 : decode cL_law 234 = .ok (.iconst 0, 1) := by decide +kernel
theorem dL_law_235 : decode cL_law 235 = .ok (.iand, 1) := by decide +kernel
theorem dL_law_236 : decode cL_law 236 = .ok (.istore 4, 2) := by decide +kernel
theorem dL_law_238 : decode cL_law 238 = .ok (.aload 5, 2) := by decide +kernel
theorem dL_law_240 : decode cL_law 240 = .ok (.iload 7, 2) := by decide +kernel
theorem dL_law_242 : decode cL_law 242 = .ok (.iload 8, 2) := by decide +kernel
theorem dL_law_244 : decode cL_law 244 = .ok (.iastore, 1) := by decide +kernel
theorem dL_law_245 : decode cL_law 245 = .ok (.iinc 6 1, 3) := by decide +kernel
theorem dL_law_248 : decode cL_law 248 = .ok (.goto (-72), 3) := by decide +kernel
theorem dL_law_251 : decode cL_law 251 = .ok (.sipush 201, 3) := by decide +kernel
theorem dL_law_254 : decode cL_law 254 = .ok (.newarray .int, 2) := by decide +kernel
theorem dL_law_256 : decode cL_law 256 = .ok (.astore 6, 2) := by decide +kernel
theorem dL_law_258 : decode cL_law 258 = .ok (.iconst 0, 1) := by decide +kernel
theorem dL_law_259 : decode cL_law 259 = .ok (.istore 7, 2) := by decide +kernel
theorem dL_law_261 : decode cL_law 261 = .ok (.iconst 0, 1) := by decide +kernel
theorem dL_law_262 : decode cL_law 262 = .ok (.istore 8, 2) := by decide +kernel
theorem dL_law_264 : decode cL_law 264 = .ok (.iload 8, 2) := by decide +kernel
theorem dL_law_266 : decode cL_law 266 = .ok (.sipush 200, 3) := by decide +kernel
theorem dL_law_269 : decode cL_law 269 = .ok (.if_icmp .ge 58, 3) := by decide +kernel
theorem dL_law_272 : decode cL_law 272 = .ok (.aload 6, 2) := by decide +kernel
theorem dL_law_274 : decode cL_law 274 = .ok (.iload 8, 2) := by decide +kernel
theorem dL_law_276 : decode cL_law 276 = .ok (.iconst 1, 1) := by decide +kernel
theorem dL_law_277 : decode cL_law 277 = .ok (.iadd, 1) := by decide +kernel
theorem dL_law_278 : decode cL_law 278 = .ok (.aload 6, 2) := by decide +kernel
theorem dL_law_280 : decode cL_law 280 = .ok (.iload 8, 2) := by decide +kernel
theorem dL_law_282 : decode cL_law 282 = .ok (.iaload, 1) := by decide +kernel
theorem dL_law_283 : decode cL_law 283 = .ok (.aload 5, 2) := by decide +kernel
theorem dL_law_285 : decode cL_law 285 = .ok (.iload 8, 2) := by decide +kernel
theorem dL_law_287 : decode cL_law 287 = .ok (.bipush 10, 2) := by decide +kernel
theorem dL_law_289 : decode cL_law 289 = .ok (.idiv, 1) := by decide +kernel
theorem dL_law_290 : decode cL_law 290 = .ok (.iaload, 1) := by decide +kernel
theorem dL_law_291 : decode cL_law 291 = .ok (.iadd, 1) := by decide +kernel
theorem dL_law_292 : decode cL_law 292 = .ok (.iastore, 1) := by decide +kernel
theorem dL_law_293 : decode cL_law 293 = .ok (.aload 5, 2) := by decide +kernel
theorem dL_law_295 : decode cL_law 295 = .ok (.iload 8, 2) := by decide +kernel
theorem dL_law_297 : decode cL_law 297 = .ok (.bipush 10, 2) := by decide +kernel
theorem dL_law_299 : decode cL_law 299 = .ok (.idiv, 1) := by decide +kernel
theorem dL_law_300 : decode cL_law 300 = .ok (.iaload, 1) := by decide +kernel
theorem dL_law_301 : decode cL_law 301 = .ok (.aload 5, 2) := by decide +kernel
theorem dL_law_303 : decode cL_law 303 = .ok (.iload 7, 2) := by decide +kernel
theorem dL_law_305 : decode cL_law 305 = .ok (.iaload, 1) := by decide +kernel
theorem dL_law_306 : decode cL_law 306 = .ok (.if_icmp .le 11, 3) := by decide +kernel
theorem dL_law_309 : decode cL_law 309 = .ok (.iload 8, 2) := by decide +kernel
theorem dL_law_311 : decode cL_law 311 = .ok (.bipush 10, 2) := by decide +kernel
theorem dL_law_313 : decode cL_law 313 = .ok (.idiv, 1) := by decide +kernel
theorem dL_law_314 : decode cL_law 314 = .ok (.goto 5, 3) := by decide +kernel
theorem dL_law_317 : decode cL_law 317 = .ok (.iload 7, 2) := by decide +kernel
theorem dL_law_319 : decode cL_law 319 = .ok (.istore 7, 2) := by decide +kernel
theorem dL_law_321 : decode cL_law 321 = .ok (.iinc 8 1, 3) := by decide +kernel
theorem dL_law_324 : decode cL_law 324 = .ok (.goto (-60), 3) := by decide +kernel
theorem dL_law_327 : decode cL_law 327 = .ok (.iload 4, 2) := by decide +kernel
theorem dL_law_329 : decode cL_law 329 = .ok (.aload_n 1, 1) := by decide +kernel
theorem dL_law_330 : decode cL_law 330 = .ok (.iconst 0, 1) := by decide +kernel
theorem dL_law_331 : decode cL_law 331 = .ok (.iconst 0, 1) := by decide +kernel
theorem dL_law_332 : decode cL_law 332 = .ok (.bipush 61, 2) := by decide +kernel
theorem dL_law_334 : decode cL_law 334 = .ok (.invokestatic 77, 3) := by decide +kernel
theorem dL_law_337 : decode cL_law 337 = .ok (.ldc 20, 2) := by decide +kernel
theorem dL_law_339 : decode cL_law 339 = .ok (.if_icmp .ne 53, 3) := by decide +kernel
theorem dL_law_342 : decode cL_law 342 = .ok (.aload_n 1, 1) := by decide +kernel
theorem dL_law_343 : decode cL_law 343 = .ok (.iconst 0, 1) := by decide +kernel
theorem dL_law_344 : decode cL_law 344 = .ok (.bipush 20, 2) := by decide +kernel
theorem dL_law_346 : decode cL_law 346 = .ok (.iconst 1, 1) := by decide +kernel
theorem dL_law_347 : decode cL_law 347 = .ok (.invokestatic 77, 3) := by decide +kernel
theorem dL_law_350 : decode cL_law 350 = .ok (.ldc 20, 2) := by decide +kernel
theorem dL_law_352 : decode cL_law 352 = .ok (.if_icmp .ne 40, 3) := by decide +kernel
theorem dL_law_355 : decode cL_law 355 = .ok (.aload_n 1, 1) := by decide +kernel
theorem dL_law_356 : decode cL_law 356 = .ok (.iconst 0, 1) := by decide +kernel
theorem dL_law_357 : decode cL_law 357 = .ok (.invokestatic 80, 3) := by decide +kernel
theorem dL_law_360 : decode cL_law 360 = .ok (.iload 7, 2) := by decide +kernel
theorem dL_law_362 : decode cL_law 362 = .ok (.if_icmp .ne 30, 3) := by decide +kernel
theorem dL_law_365 : decode cL_law 365 = .ok (.aload_n 1, 1) := by decide +kernel
theorem dL_law_366 : decode cL_law 366 = .ok (.iconst 1, 1) := by decide +kernel
theorem dL_law_367 : decode cL_law 367 = .ok (.invokestatic 80, 3) := by decide +kernel
theorem dL_law_370 : decode cL_law 370 = .ok (.ldc 17, 2) := by decide +kernel
theorem dL_law_372 : decode cL_law 372 = .ok (.if_icmp .ne 20, 3) := by decide +kernel
theorem dL_law_375 : decode cL_law 375 = .ok (.aload_n 1, 1) := by decide +kernel
theorem dL_law_376 : decode cL_law 376 = .ok (.iconst 0, 1) := by decide +kernel
theorem dL_law_377 : decode cL_law 377 = .ok (.sipush 201, 3) := by decide +kernel
theorem dL_law_380 : decode cL_law 380 = .ok (.invokestatic 83, 3) := by decide +kernel
theorem dL_law_383 : decode cL_law 383 = .ok (.ldc 20, 2) := by decide +kernel
theorem dL_law_385 : decode cL_law 385 = .ok (.if_icmp .ne 7, 3) := by decide +kernel
theorem dL_law_388 : decode cL_law 388 = .ok (.iconst 1, 1) := by decide +kernel
theorem dL_law_389 : decode cL_law 389 = .ok (.goto 4, 3) := by decide +kernel
theorem dL_law_392 : decode cL_law 392 = .ok (.iconst 0, 1) := by decide +kernel
theorem dL_law_393 : decode cL_law 393 = .ok (.iand, 1) := by decide +kernel
theorem dL_law_394 : decode cL_law 394 = .ok (.istore 4, 2) := by decide +kernel
theorem dL_law_396 : decode cL_law 396 = .ok (.iconst 0, 1) := by decide +kernel
theorem dL_law_397 : decode cL_law 397 = .ok (.istore 8, 2) := by decide +kernel
theorem dL_law_399 : decode cL_law 399 = .ok (.iload 8, 2) := by decide +kernel
theorem dL_law_401 : decode cL_law 401 = .ok (.sipush 200, 3) := by decide +kernel
theorem dL_law_404 : decode cL_law 404 = .ok (.if_icmp .gt 34, 3) := by decide +kernel
theorem dL_law_407 : decode cL_law 407 = .ok (.iload 4, 2) := by decide +kernel
theorem dL_law_409 : decode cL_law 409 = .ok (.aload_n 1, 1) := by decide +kernel
theorem dL_law_410 : decode cL_law 410 = .ok (.iconst 0, 1) := by decide +kernel
theorem dL_law_411 : decode cL_law 411 = .ok (.iload 8, 2) := by decide +kernel
theorem dL_law_413 : decode cL_law 413 = .ok (.invokestatic 83, 3) := by decide +kernel
theorem dL_law_416 : decode cL_law 416 = .ok (.aload 6, 2) := by decide +kernel
theorem dL_law_418 : decode cL_law 418 = .ok (.iload 8, 2) := by decide +kernel
theorem dL_law_420 : decode cL_law 420 = .ok (.iaload, 1) := by decide +kernel
theorem dL_law_421 : decode cL_law 421 = .ok (.if_icmp .ne 7, 3) := by decide +kernel
theorem dL_law_424 : decode cL_law 424 = .ok (.iconst 1, 1) := by decide +kernel
theorem dL_law_425 : decode cL_law 425 = .ok (.goto 4, 3) := by decide +kernel
theorem dL_law_428 : decode cL_law 428 = .ok (.iconst 0, 1) := by decide +kernel
theorem dL_law_429 : decode cL_law 429 = .ok (.iand, 1) := by decide +kernel
theorem dL_law_430 : decode cL_law 430 = .ok (.istore 4, 2) := by decide +kernel
theorem dL_law_432 : decode cL_law 432 = .ok (.iinc 8 1, 3) := by decide +kernel
theorem dL_law_435 : decode cL_law 435 = .ok (.goto (-36), 3) := by decide +kernel
theorem dL_law_438 : decode cL_law 438 = .ok (.iconst 0, 1) := by decide +kernel
theorem dL_law_439 : decode cL_law 439 = .ok (.istore 8, 2) := by decide +kernel
theorem dL_law_441 : decode cL_law 441 = .ok (.iload 8, 2) := by decide +kernel
theorem dL_law_443 : decode cL_law 443 = .ok (.bipush 10, 2) := by decide +kernel
theorem dL_law_445 : decode cL_law 445 = .ok (.if_icmp .ge 438, 3) := by decide +kernel
theorem dL_law_448 : decode cL_law 448 = .ok (.aload_n 0, 1) := by decide +kernel
theorem dL_law_449 : decode cL_law 449 = .ok (.bipush 30, 2) := by decide +kernel
theorem dL_law_451 : decode cL_law 451 = .ok (.iload 8, 2) := by decide +kernel
theorem dL_law_453 : decode cL_law 453 = .ok (.iadd, 1) := by decide +kernel
theorem dL_law_454 : decode cL_law 454 = .ok (.sipush 201, 3) := by decide +kernel
theorem dL_law_457 : decode cL_law 457 = .ok (.invokestatic 68, 3) := by decide +kernel
theorem dL_law_460 : decode cL_law 460 = .ok (.istore 9, 2) := by decide +kernel
theorem dL_law_462 : decode cL_law 462 = .ok (.iconst 1, 1) := by decide +kernel
theorem dL_law_463 : decode cL_law 463 = .ok (.aload_n 0, 1) := by decide +kernel
theorem dL_law_464 : decode cL_law 464 = .ok (.bipush 40, 2) := by decide +kernel
theorem dL_law_466 : decode cL_law 466 = .ok (.iload 8, 2) := by decide +kernel
theorem dL_law_468 : decode cL_law 468 = .ok (.iadd, 1) := by decide +kernel
theorem dL_law_469 : decode cL_law 469 = .ok (.iload 8, 2) := by decide +kernel
theorem dL_law_471 : decode cL_law 471 = .ok (.iconst 2, 1) := by decide +kernel
theorem dL_law_472 : decode cL_law 472 = .ok (.irem, 1) := by decide +kernel
theorem dL_law_473 : decode cL_law 473 = .ok (.ifCond .ne 9, 3) := by decide +kernel
theorem dL_law_476 : decode cL_law 476 = .ok (.sipush 500, 3) := by decide +kernel
theorem dL_law_479 : decode cL_law 479 = .ok (.goto 6, 3) := by decide +kernel
theorem dL_law_482 : decode cL_law 482 = .ok (.sipush 9000, 3) := by decide +kernel
theorem dL_law_485 : decode cL_law 485 = .ok (.invokestatic 68, 3) := by decide +kernel
theorem dL_law_488 : decode cL_law 488 = .ok (.iadd, 1) := by decide +kernel
theorem dL_law_489 : decode cL_law 489 = .ok (.istore 10, 2) := by decide +kernel
theorem dL_law_491 : decode cL_law 491 = .ok (.ldc 29, 2) := by decide +kernel
theorem dL_law_493 : decode cL_law 493 = .ok (.istore 11, 2) := by decide +kernel
theorem dL_law_495 : decode cL_law 495 = .ok (.sipush 200, 3) := by decide +kernel
theorem dL_law_498 : decode cL_law 498 = .ok (.istore 12, 2) := by decide +kernel
theorem dL_law_500 : decode cL_law 500 = .ok (.iload 12, 2) := by decide +kernel
theorem dL_law_502 : decode cL_law 502 = .ok (.iload 9, 2) := by decide +kernel
theorem dL_law_504 : decode cL_law 504 = .ok (.if_icmp .lt 34, 3) := by decide +kernel
theorem dL_law_507 : decode cL_law 507 = .ok (.aload 6, 2) := by decide +kernel
theorem dL_law_509 : decode cL_law 509 = .ok (.iload 12, 2) := by decide +kernel
theorem dL_law_511 : decode cL_law 511 = .ok (.iaload, 1) := by decide +kernel
theorem dL_law_512 : decode cL_law 512 = .ok (.aload 6, 2) := by decide +kernel
theorem dL_law_514 : decode cL_law 514 = .ok (.iload 9, 2) := by decide +kernel
theorem dL_law_516 : decode cL_law 516 = .ok (.iaload, 1) := by decide +kernel
theorem dL_law_517 : decode cL_law 517 = .ok (.iload 10, 2) := by decide +kernel
theorem dL_law_519 : decode cL_law 519 = .ok (.iadd, 1) := by decide +kernel
theorem dL_law_520 : decode cL_law 520 = .ok (.if_icmp .lt 8, 3) := by decide +kernel
theorem dL_law_523 : decode cL_law 523 = .ok (.iload 12, 2) := by decide +kernel
theorem dL_law_525 : decode cL_law 525 = .ok (.goto 5, 3) := by decide +kernel
theorem dL_law_528 : decode cL_law 528 = .ok (.iload 11, 2) := by decide +kernel
theorem dL_law_530 : decode cL_law 530 = .ok (.istore 11, 2) := by decide +kernel
theorem dL_law_532 : decode cL_law 532 = .ok (.iinc 12 (-1), 3) := by decide +kernel
theorem dL_law_535 : decode cL_law 535 = .ok (.goto (-35), 3) := by decide +kernel
end
section
theorem dL_law_538 : decode cL_law 538 = .ok (.iload 4, 2) := by decide +kernel
theorem dL_law_540 : decode cL_law 540 = .ok (.aload_n 1, 1) := by decide +kernel
theorem dL_law_541 : decode cL_law 541 = .ok (.iconst 0, 1) := by decide +kernel
theorem dL_law_542 : decode cL_law 542 = .ok (.iload 9, 2) := by decide +kernel
theorem dL_law_544 : decode cL_law 544 = .ok (.iload 10, 2) := by decide +kernel
theorem dL_law_546 : decode cL_law 546 = .ok (.invokestatic 85, 3) := by decide +kernel
theorem dL_law_549 : decode cL_law 549 = .ok (.iload 11, 2) := by decide +kernel
theorem dL_law_551 : decode cL_law 551 = .ok (.if_icmp .ne 7, 3) := by decide +kernel
theorem dL_law_554 : decode cL_law 554 = .ok (.iconst 1, 1) := by decide +kernel
theorem dL_law_555 : decode cL_law 555 = .ok (.goto 4, 3) := by decide +kernel
theorem dL_law_558 : decode cL_law 558 = .ok (.iconst 0, 1) := by decide +kernel
theorem dL_law_559 : decode cL_law 559 = .ok (.iand, 1) := by decide +kernel
theorem dL_law_560 : decode cL_law 560 = .ok (.istore 4, 2) := by decide +kernel
theorem dL_law_562 : decode cL_law 562 = .ok (.aload_n 0, 1) := by decide +kernel
theorem dL_law_563 : decode cL_law 563 = .ok (.bipush 50, 2) := by decide +kernel
theorem dL_law_565 : decode cL_law 565 = .ok (.iload 8, 2) := by decide +kernel
theorem dL_law_567 : decode cL_law 567 = .ok (.iadd, 1) := by decide +kernel
theorem dL_law_568 : decode cL_law 568 = .ok (.sipush 201, 3) := by decide +kernel
theorem dL_law_571 : decode cL_law 571 = .ok (.invokestatic 68, 3) := by decide +kernel
theorem dL_law_574 : decode cL_law 574 = .ok (.istore 12, 2) := by decide +kernel
theorem dL_law_576 : decode cL_law 576 = .ok (.iconst 1, 1) := by decide +kernel
theorem dL_law_577 : decode cL_law 577 = .ok (.aload_n 0, 1) := by decide +kernel
theorem dL_law_578 : decode cL_law 578 = .ok (.bipush 60, 2) := by decide +kernel
theorem dL_law_580 : decode cL_law 580 = .ok (.iload 8, 2) := by decide +kernel
theorem dL_law_582 : decode cL_law 582 = .ok (.iadd, 1) := by decide +kernel
theorem dL_law_583 : decode cL_law 583 = .ok (.bipush 90, 2) := by decide +kernel
theorem dL_law_585 : decode cL_law 585 = .ok (.invokestatic 68, 3) := by decide +kernel
theorem dL_law_588 : decode cL_law 588 = .ok (.iadd, 1) := by decide +kernel
theorem dL_law_589 : decode cL_law 589 = .ok (.istore 13, 2) := by decide +kernel
theorem dL_law_591 : decode cL_law 591 = .ok (.iload 13, 2) := by decide +kernel
theorem dL_law_593 : decode cL_law 593 = .ok (.bipush 60, 2) := by decide +kernel
theorem dL_law_595 : decode cL_law 595 = .ok (.if_icmp .lt 7, 3) := by decide +kernel
theorem dL_law_598 : decode cL_law 598 = .ok (.iconst 0, 1) := by decide +kernel
theorem dL_law_599 : decode cL_law 599 = .ok (.goto 11, 3) := by decide +kernel
theorem dL_law_602 : decode cL_law 602 = .ok (.bipush 69, 2) := by decide +kernel
theorem dL_law_604 : decode cL_law 604 = .ok (.iload 13, 2) := by decide +kernel
theorem dL_law_606 : decode cL_law 606 = .ok (.isub, 1) := by decide +kernel
theorem dL_law_607 : decode cL_law 607 = .ok (.bipush 10, 2) := by decide +kernel
theorem dL_law_609 : decode cL_law 609 = .ok (.idiv, 1) := by decide +kernel
theorem dL_law_610 : decode cL_law 610 = .ok (.istore 14, 2) := by decide +kernel
theorem dL_law_612 : decode cL_law 612 = .ok (.iconst 0, 1) := by decide +kernel
theorem dL_law_613 : decode cL_law 613 = .ok (.istore 15, 2) := by decide +kernel
theorem dL_law_615 : decode cL_law 615 = .ok (.iload 12, 2) := by decide +kernel
theorem dL_law_617 : decode cL_law 617 = .ok (.istore 16, 2) := by decide +kernel
theorem dL_law_619 : decode cL_law 619 = .ok (.iload 16, 2) := by decide +kernel
theorem dL_law_621 : decode cL_law 621 = .ok (.iload 9, 2) := by decide +kernel
theorem dL_law_623 : decode cL_law 623 = .ok (.if_icmp .ge 42, 3) := by decide +kernel
theorem dL_law_626 : decode cL_law 626 = .ok (.iload 15, 2) := by decide +kernel
theorem dL_law_628 : decode cL_law 628 = .ok (.aload 5, 2) := by decide +kernel
theorem dL_law_630 : decode cL_law 630 = .ok (.iload 16, 2) := by decide +kernel
theorem dL_law_632 : decode cL_law 632 = .ok (.bipush 10, 2) := by decide +kernel
theorem dL_law_634 : decode cL_law 634 = .ok (.idiv, 1) := by decide +kernel
theorem dL_law_635 : decode cL_law 635 = .ok (.iaload, 1) := by decide +kernel
theorem dL_law_636 : decode cL_law 636 = .ok (.iload 14, 2) := by decide +kernel
theorem dL_law_638 : decode cL_law 638 = .ok (.if_icmp .le 17, 3) := by decide +kernel
theorem dL_law_641 : decode cL_law 641 = .ok (.aload 5, 2) := by decide +kernel
theorem dL_law_643 : decode cL_law 643 = .ok (.iload 16, 2) := by decide +kernel
theorem dL_law_645 : decode cL_law 645 = .ok (.bipush 10, 2) := by decide +kernel
theorem dL_law_647 : decode cL_law 647 = .ok (.idiv, 1) := by decide +kernel
theorem dL_law_648 : decode cL_law 648 = .ok (.iaload, 1) := by decide +kernel
theorem dL_law_649 : decode cL_law 649 = .ok (.iload 14, 2) := by decide +kernel
theorem dL_law_651 : decode cL_law 651 = .ok (.isub, 1) := by decide +kernel
theorem dL_law_652 : decode cL_law 652 = .ok (.goto 4, 3) := by decide +kernel
theorem dL_law_655 : decode cL_law 655 = .ok (.iconst 0, 1) := by decide +kernel
theorem dL_law_656 : decode cL_law 656 = .ok (.iadd, 1) := by decide +kernel
theorem dL_law_657 : decode cL_law 657 = .ok (.istore 15, 2) := by decide +kernel
theorem dL_law_659 : decode cL_law 659 = .ok (.iinc 16 1, 3) := by decide +kernel
theorem dL_law_662 : decode cL_law 662 = .ok (.goto (-43), 3) := by decide +kernel
theorem dL_law_665 : decode cL_law 665 = .ok (.iload 4, 2) := by decide +kernel
theorem dL_law_667 : decode cL_law 667 = .ok (.aload_n 1, 1) := by decide +kernel
theorem dL_law_668 : decode cL_law 668 = .ok (.iconst 0, 1) := by decide +kernel
theorem dL_law_669 : decode cL_law 669 = .ok (.iload 9, 2) := by decide +kernel
theorem dL_law_671 : decode cL_law 671 = .ok (.iload 12, 2) := by decide +kernel
theorem dL_law_673 : decode cL_law 673 = .ok (.iload 13, 2) := by decide +kernel
theorem dL_law_675 : decode cL_law 675 = .ok (.invokestatic 87, 3) := by decide +kernel
theorem dL_law_678 : decode cL_law 678 = .ok (.iload 12, 2) := by decide +kernel
theorem dL_law_680 : decode cL_law 680 = .ok (.iload 9, 2) := by decide +kernel
theorem dL_law_682 : decode cL_law 682 = .ok (.if_icmp .lt 8, 3) := by decide +kernel
theorem dL_law_685 : decode cL_law 685 = .ok (.ldc 20, 2) := by decide +kernel
theorem dL_law_687 : decode cL_law 687 = .ok (.goto 5, 3) := by decide +kernel
theorem dL_law_690 : decode cL_law 690 = .ok (.iload 15, 2) := by decide +kernel
theorem dL_law_692 : decode cL_law 692 = .ok (.if_icmp .ne 7, 3) := by decide +kernel
theorem dL_law_695 : decode cL_law 695 = .ok (.iconst 1, 1) := by decide +kernel
theorem dL_law_696 : decode cL_law 696 = .ok (.goto 4, 3) := by decide +kernel
theorem dL_law_699 : decode cL_law 699 = .ok (.iconst 0, 1) := by decide +kernel
theorem dL_law_700 : decode cL_law 700 = .ok (.iand, 1) := by decide +kernel
theorem dL_law_701 : decode cL_law 701 = .ok (.istore 4, 2) := by decide +kernel
theorem dL_law_703 : decode cL_law 703 = .ok (.sipush 6000, 3) := by decide +kernel
theorem dL_law_706 : decode cL_law 706 = .ok (.aload_n 0, 1) := by decide +kernel
theorem dL_law_707 : decode cL_law 707 = .ok (.bipush 70, 2) := by decide +kernel
theorem dL_law_709 : decode cL_law 709 = .ok (.iload 8, 2) := by decide +kernel
theorem dL_law_711 : decode cL_law 711 = .ok (.iadd, 1) := by decide +kernel
theorem dL_law_712 : decode cL_law 712 = .ok (.sipush 2001, 3) := by decide +kernel
theorem dL_law_715 : decode cL_law 715 = .ok (.invokestatic 68, 3) := by decide +kernel
theorem dL_law_718 : decode cL_law 718 = .ok (.iadd, 1) := by decide +kernel
theorem dL_law_719 : decode cL_law 719 = .ok (.istore 16, 2) := by decide +kernel
theorem dL_law_721 : decode cL_law 721 = .ok (.aload_n 0, 1) := by decide +kernel
theorem dL_law_722 : decode cL_law 722 = .ok (.bipush 80, 2) := by decide +kernel
theorem dL_law_724 : decode cL_law 724 = .ok (.iload 8, 2) := by decide +kernel
theorem dL_law_726 : decode cL_law 726 = .ok (.iadd, 1) := by decide +kernel
theorem dL_law_727 : decode cL_law 727 = .ok (.bipush 61, 2) := by decide +kernel
theorem dL_law_729 : decode cL_law 729 = .ok (.invokestatic 68, 3) := by decide +kernel
theorem dL_law_732 : decode cL_law 732 = .ok (.bipush 20, 2) := by decide +kernel
theorem dL_law_734 : decode cL_law 734 = .ok (.isub, 1) := by decide +kernel
theorem dL_law_735 : decode cL_law 735 = .ok (.istore 17, 2) := by decide +kernel
theorem dL_law_737 : decode cL_law 737 = .ok (.sipush 9780, 3) := by decide +kernel
theorem dL_law_740 : decode cL_law 740 = .ok (.aload_n 0, 1) := by decide +kernel
theorem dL_law_741 : decode cL_law 741 = .ok (.bipush 90, 2) := by decide +kernel
theorem dL_law_743 : decode cL_law 743 = .ok (.iload 8, 2) := by decide +kernel
theorem dL_law_745 : decode cL_law 745 = .ok (.iadd, 1) := by decide +kernel
theorem dL_law_746 : decode cL_law 746 = .ok (.bipush 53, 2) := by decide +kernel
theorem dL_law_748 : decode cL_law 748 = .ok (.invokestatic 68, 3) := by decide +kernel
theorem dL_law_751 : decode cL_law 751 = .ok (.iadd, 1) := by decide +kernel
theorem dL_law_752 : decode cL_law 752 = .ok (.istore 18, 2) := by decide +kernel
theorem dL_law_754 : decode cL_law 754 = .ok (.iconst 1, 1) := by decide +kernel
theorem dL_law_755 : decode cL_law 755 = .ok (.aload_n 0, 1) := by decide +kernel
theorem dL_law_756 : decode cL_law 756 = .ok (.bipush 100, 2) := by decide +kernel
theorem dL_law_758 : decode cL_law 758 = .ok (.iload 8, 2) := by decide +kernel
theorem dL_law_760 : decode cL_law 760 = .ok (.iadd, 1) := by decide +kernel
theorem dL_law_761 : decode cL_law 761 = .ok (.bipush 60, 2) := by decide +kernel
theorem dL_law_763 : decode cL_law 763 = .ok (.invokestatic 68, 3) := by decide +kernel
theorem dL_law_766 : decode cL_law 766 = .ok (.iadd, 1) := by decide +kernel
theorem dL_law_767 : decode cL_law 767 = .ok (.istore 19, 2) := by decide +kernel
theorem dL_law_769 : decode cL_law 769 = .ok (.iload 16, 2) := by decide +kernel
theorem dL_law_771 : decode cL_law 771 = .ok (.bipush 18, 2) := by decide +kernel
theorem dL_law_773 : decode cL_law 773 = .ok (.imul, 1) := by decide +kernel
theorem dL_law_774 : decode cL_law 774 = .ok (.iload 17, 2) := by decide +kernel
theorem dL_law_776 : decode cL_law 776 = .ok (.imul, 1) := by decide +kernel
theorem dL_law_777 : decode cL_law 777 = .ok (.ldc 90, 2) := by decide +kernel
theorem dL_law_779 : decode cL_law 779 = .ok (.idiv, 1) := by decide +kernel
theorem dL_law_780 : decode cL_law 780 = .ok (.istore 20, 2) := by decide +kernel
theorem dL_law_782 : decode cL_law 782 = .ok (.iload 4, 2) := by decide +kernel
theorem dL_law_784 : decode cL_law 784 = .ok (.aload_n 1, 1) := by decide +kernel
theorem dL_law_785 : decode cL_law 785 = .ok (.iload 16, 2) := by decide +kernel
theorem dL_law_787 : decode cL_law 787 = .ok (.iload 17, 2) := by decide +kernel
theorem dL_law_789 : decode cL_law 789 = .ok (.iload 18, 2) := by decide +kernel
theorem dL_law_791 : decode cL_law 791 = .ok (.iload 19, 2) := by decide +kernel
theorem dL_law_793 : decode cL_law 793 = .ok (.invokestatic 91, 3) := by decide +kernel
theorem dL_law_796 : decode cL_law 796 = .ok (.iload 16, 2) := by decide +kernel
theorem dL_law_798 : decode cL_law 798 = .ok (.iload 20, 2) := by decide +kernel
theorem dL_law_800 : decode cL_law 800 = .ok (.isub, 1) := by decide +kernel
theorem dL_law_801 : decode cL_law 801 = .ok (.iload 18, 2) := by decide +kernel
theorem dL_law_803 : decode cL_law 803 = .ok (.imul, 1) := by decide +kernel
theorem dL_law_804 : decode cL_law 804 = .ok (.sipush 9807, 3) := by decide +kernel
theorem dL_law_807 : decode cL_law 807 = .ok (.idiv, 1) := by decide +kernel
theorem dL_law_808 : decode cL_law 808 = .ok (.bipush 60, 2) := by decide +kernel
theorem dL_law_810 : decode cL_law 810 = .ok (.iload 19, 2) := by decide +kernel
theorem dL_law_812 : decode cL_law 812 = .ok (.idiv, 1) := by decide +kernel
theorem dL_law_813 : decode cL_law 813 = .ok (.iadd, 1) := by decide +kernel
theorem dL_law_814 : decode cL_law 814 = .ok (.if_icmp .ne 7, 3) := by decide +kernel
theorem dL_law_817 : decode cL_law 817 = .ok (.iconst 1, 1) := by decide +kernel
theorem dL_law_818 : decode cL_law 818 = .ok (.goto 4, 3) := by decide +kernel
theorem dL_law_821 : decode cL_law 821 = .ok (.iconst 0, 1) := by decide +kernel
theorem dL_law_822 : decode cL_law 822 = .ok (.iand, 1) := by decide +kernel
theorem dL_law_823 : decode cL_law 823 = .ok (.istore 4, 2) := by decide +kernel
theorem dL_law_825 : decode cL_law 825 = .ok (.sipush 700, 3) := by decide +kernel
theorem dL_law_828 : decode cL_law 828 = .ok (.aload_n 0, 1) := by decide +kernel
theorem dL_law_829 : decode cL_law 829 = .ok (.bipush 110, 2) := by decide +kernel
theorem dL_law_831 : decode cL_law 831 = .ok (.iload 8, 2) := by decide +kernel
theorem dL_law_833 : decode cL_law 833 = .ok (.iadd, 1) := by decide +kernel
theorem dL_law_834 : decode cL_law 834 = .ok (.bipush 101, 2) := by decide +kernel
theorem dL_law_836 : decode cL_law 836 = .ok (.invokestatic 68, 3) := by decide +kernel
theorem dL_law_839 : decode cL_law 839 = .ok (.iadd, 1) := by decide +kernel
theorem dL_law_840 : decode cL_law 840 = .ok (.istore 21, 2) := by decide +kernel
theorem dL_law_842 : decode cL_law 842 = .ok (.iload 4, 2) := by decide +kernel
theorem dL_law_844 : decode cL_law 844 = .ok (.aload_n 1, 1) := by decide +kernel
theorem dL_law_845 : decode cL_law 845 = .ok (.iload 21, 2) := by decide +kernel
theorem dL_law_847 : decode cL_law 847 = .ok (.invokestatic 93, 3) := by decide +kernel
theorem dL_law_850 : decode cL_law 850 = .ok (.sipush 1000, 3) := by decide +kernel
theorem dL_law_853 : decode cL_law 853 = .ok (.bipush 37, 2) := by decide +kernel
theorem dL_law_855 : decode cL_law 855 = .ok (.iload 21, 2) := by decide +kernel
theorem dL_law_857 : decode cL_law 857 = .ok (.sipush 760, 3) := by decide +kernel
theorem dL_law_860 : decode cL_law 860 = .ok (.isub, 1) := by decide +kernel
theorem dL_law_861 : decode cL_law 861 = .ok (.imul, 1) := by decide +kernel
theorem dL_law_862 : decode cL_law 862 = .ok (.bipush 100, 2) := by decide +kernel
theorem dL_law_864 : decode cL_law 864 = .ok (.idiv, 1) := by decide +kernel
theorem dL_law_865 : decode cL_law 865 = .ok (.iadd, 1) := by decide +kernel
theorem dL_law_866 : decode cL_law 866 = .ok (.if_icmp .ne 7, 3) := by decide +kernel
theorem dL_law_869 : decode cL_law 869 = .ok (.iconst 1, 1) := by decide +kernel
theorem dL_law_870 : decode cL_law 870 = .ok (.goto 4, 3) := by decide +kernel
theorem dL_law_873 : decode cL_law 873 = .ok (.iconst 0, 1) := by decide +kernel
theorem dL_law_874 : decode cL_law 874 = .ok (.iand, 1) := by decide +kernel
theorem dL_law_875 : decode cL_law 875 = .ok (.istore 4, 2) := by decide +kernel
theorem dL_law_877 : decode cL_law 877 = .ok (.iinc 8 1, 3) := by decide +kernel
theorem dL_law_880 : decode cL_law 880 = .ok (.goto (-439), 3) := by decide +kernel
theorem dL_law_883 : decode cL_law 883 = .ok (.iload 4, 2) := by decide +kernel
theorem dL_law_885 : decode cL_law 885 = .ok (.aload_n 1, 1) := by decide +kernel
theorem dL_law_886 : decode cL_law 886 = .ok (.iconst 0, 1) := by decide +kernel
theorem dL_law_887 : decode cL_law 887 = .ok (.iconst 0, 1) := by decide +kernel
theorem dL_law_888 : decode cL_law 888 = .ok (.iconst 0, 1) := by decide +kernel
theorem dL_law_889 : decode cL_law 889 = .ok (.invokestatic 85, 3) := by decide +kernel
theorem dL_law_892 : decode cL_law 892 = .ok (.ldc 20, 2) := by decide +kernel
theorem dL_law_894 : decode cL_law 894 = .ok (.if_icmp .ne 63, 3) := by decide +kernel
theorem dL_law_897 : decode cL_law 897 = .ok (.aload_n 1, 1) := by decide +kernel
theorem dL_law_898 : decode cL_law 898 = .ok (.iconst 0, 1) := by decide +kernel
theorem dL_law_899 : decode cL_law 899 = .ok (.iconst 5, 1) := by decide +kernel
theorem dL_law_900 : decode cL_law 900 = .ok (.iconst 1, 1) := by decide +kernel
theorem dL_law_901 : decode cL_law 901 = .ok (.iconst 0, 1) := by decide +kernel
theorem dL_law_902 : decode cL_law 902 = .ok (.invokestatic 87, 3) := by decide +kernel
theorem dL_law_905 : decode cL_law 905 = .ok (.ldc 20, 2) := by decide +kernel
theorem dL_law_907 : decode cL_law 907 = .ok (.if_icmp .ne 50, 3) := by decide +kernel
theorem dL_law_910 : decode cL_law 910 = .ok (.aload_n 1, 1) := by decide +kernel
theorem dL_law_911 : decode cL_law 911 = .ok (.sipush 5999, 3) := by decide +kernel
theorem dL_law_914 : decode cL_law 914 = .ok (.iconst 0, 1) := by decide +kernel
theorem dL_law_915 : decode cL_law 915 = .ok (.sipush 9800, 3) := by decide +kernel
theorem dL_law_918 : decode cL_law 918 = .ok (.iconst 1, 1) := by decide +kernel
theorem dL_law_919 : decode cL_law 919 = .ok (.invokestatic 91, 3) := by decide +kernel
theorem dL_law_922 : decode cL_law 922 = .ok (.ldc 17, 2) := by decide +kernel
theorem dL_law_924 : decode cL_law 924 = .ok (.if_icmp .ne 33, 3) := by decide +kernel
theorem dL_law_927 : decode cL_law 927 = .ok (.aload_n 1, 1) := by decide +kernel
theorem dL_law_928 : decode cL_law 928 = .ok (.sipush 801, 3) := by decide +kernel
theorem dL_law_931 : decode cL_law 931 = .ok (.invokestatic 93, 3) := by decide +kernel
theorem dL_law_934 : decode cL_law 934 = .ok (.ldc 17, 2) := by decide +kernel
theorem dL_law_936 : decode cL_law 936 = .ok (.if_icmp .ne 21, 3) := by decide +kernel
theorem dL_law_939 : decode cL_law 939 = .ok (.aload_n 1, 1) := by decide +kernel
theorem dL_law_940 : decode cL_law 940 = .ok (.iconst 0, 1) := by decide +kernel
theorem dL_law_941 : decode cL_law 941 = .ok (.sipush 200, 3) := by decide +kernel
theorem dL_law_944 : decode cL_law 944 = .ok (.iconst 1, 1) := by decide +kernel
theorem dL_law_945 : decode cL_law 945 = .ok (.invokestatic 85, 3) := by decide +kernel
theorem dL_law_948 : decode cL_law 948 = .ok (.ldc 29, 2) := by decide +kernel
theorem dL_law_950 : decode cL_law 950 = .ok (.if_icmp .ne 7, 3) := by decide +kernel
theorem dL_law_953 : decode cL_law 953 = .ok (.iconst 1, 1) := by decide +kernel
theorem dL_law_954 : decode cL_law 954 = .ok (.goto 4, 3) := by decide +kernel
theorem dL_law_957 : decode cL_law 957 = .ok (.iconst 0, 1) := by decide +kernel
theorem dL_law_958 : decode cL_law 958 = .ok (.iand, 1) := by decide +kernel
theorem dL_law_959 : decode cL_law 959 = .ok (.istore 4, 2) := by decide +kernel
theorem dL_law_961 : decode cL_law 961 = .ok (.iload 4, 2) := by decide +kernel
theorem dL_law_963 : decode cL_law 963 = .ok (.ifCond .eq 84, 3) := by decide +kernel
theorem dL_law_966 : decode cL_law 966 = .ok (.aload_n 1, 1) := by decide +kernel
theorem dL_law_967 : decode cL_law 967 = .ok (.iconst 0, 1) := by decide +kernel
theorem dL_law_968 : decode cL_law 968 = .ok (.sipush 1000, 3) := by decide +kernel
theorem dL_law_971 : decode cL_law 971 = .ok (.bipush 104, 2) := by decide +kernel
theorem dL_law_973 : decode cL_law 973 = .ok (.invokestatic 95, 3) := by decide +kernel
theorem dL_law_976 : decode cL_law 976 = .ok (.ifCond .ne 71, 3) := by decide +kernel
theorem dL_law_979 : decode cL_law 979 = .ok (.aload_n 1, 1) := by decide +kernel
theorem dL_law_980 : decode cL_law 980 = .ok (.iconst 0, 1) := by decide +kernel
theorem dL_law_981 : decode cL_law 981 = .ok (.iconst 0, 1) := by decide +kernel
theorem dL_law_982 : decode cL_law 982 = .ok (.iconst 1, 1) := by decide +kernel
theorem dL_law_983 : decode cL_law 983 = .ok (.invokestatic 77, 3) := by decide +kernel
theorem dL_law_986 : decode cL_law 986 = .ok (.ldc 29, 2) := by decide +kernel
theorem dL_law_988 : decode cL_law 988 = .ok (.if_icmp .ne 59, 3) := by decide +kernel
theorem dL_law_991 : decode cL_law 991 = .ok (.aload_n 1, 1) := by decide +kernel
theorem dL_law_992 : decode cL_law 992 = .ok (.iconst 0, 1) := by decide +kernel
theorem dL_law_993 : decode cL_law 993 = .ok (.sipush 1000, 3) := by decide +kernel
theorem dL_law_996 : decode cL_law 996 = .ok (.bipush 104, 2) := by decide +kernel
theorem dL_law_998 : decode cL_law 998 = .ok (.invokestatic 95, 3) := by decide +kernel
theorem dL_law_1001 : decode cL_law 1001 = .ok (.ldc 29, 2) := by decide +kernel
theorem dL_law_1003 : decode cL_law 1003 = .ok (.if_icmp .ne 44, 3) := by decide +kernel
theorem dL_law_1006 : decode cL_law 1006 = .ok (.aload_n 1, 1) := by decide +kernel
theorem dL_law_1007 : decode cL_law 1007 = .ok (.iconst 0, 1) := by decide +kernel
theorem dL_law_1008 : decode cL_law 1008 = .ok (.sipush 999, 3) := by decide +kernel
theorem dL_law_1011 : decode cL_law 1011 = .ok (.bipush 104, 2) := by decide +kernel
theorem dL_law_1013 : decode cL_law 1013 = .ok (.invokestatic 95, 3) := by decide +kernel
theorem dL_law_1016 : decode cL_law 1016 = .ok (.ldc 20, 2) := by decide +kernel
theorem dL_law_1018 : decode cL_law 1018 = .ok (.if_icmp .ne 29, 3) := by decide +kernel
theorem dL_law_1021 : decode cL_law 1021 = .ok (.aload_n 1, 1) := by decide +kernel
theorem dL_law_1022 : decode cL_law 1022 = .ok (.iconst 1, 1) := by decide +kernel
theorem dL_law_1023 : decode cL_law 1023 = .ok (.sipush 1000, 3) := by decide +kernel
theorem dL_law_1026 : decode cL_law 1026 = .ok (.bipush 104, 2) := by decide +kernel
theorem dL_law_1028 : decode cL_law 1028 = .ok (.invokestatic 95, 3) := by decide +kernel
theorem dL_law_1031 : decode cL_law 1031 = .ok (.ldc 17, 2) := by decide +kernel
theorem dL_law_1033 : decode cL_law 1033 = .ok (.if_icmp .ne 14, 3) := by decide +kernel
theorem dL_law_1036 : decode cL_law 1036 = .ok (.aload_n 1, 1) := by decide +kernel
theorem dL_law_1037 : decode cL_law 1037 = .ok (.invokevirtual 98, 3) := by decide +kernel
theorem dL_law_1040 : decode cL_law 1040 = .ok (.ifCond .eq 7, 3) := by decide +kernel
theorem dL_law_1043 : decode cL_law 1043 = .ok (.iconst 1, 1) := by decide +kernel
theorem dL_law_1044 : decode cL_law 1044 = .ok (.goto 4, 3) := by decide +kernel
theorem dL_law_1047 : decode cL_law 1047 = .ok (.iconst 0, 1) := by decide +kernel
theorem dL_law_1048 : decode cL_law 1048 = .ok (.ireturn, 1) := by decide +kernel
end
section
abbrev vwCl : List vw_C := [(RX0, TX0, 15), (RX1, TX1, 3), (RX2, TX2, 5), (RX3, TX3, 2), (RX4, TX4, 9)]
end
section
/-! ===== BEGIN .. of methods that hand back an object of the pool ===== -/
section
variable {p : Program} {l : Launch} {e : Env} {R : Room} {s : State} {m : MethodId} {args : Array Value} {below : List Frame} {meth : Method} {c : Code} {H : Heap} {locs : List Loc} {cells slots : Nat} {Q : State → Prop}
variable {mc ms : Nat} {free : Addr → Prop} {A0 A1 : Nat → Prop} {H0 : Heap} {a : Array Value} {pc : Nat} {ls : Array Slot} {st0 rest : List Value}
theorem vx_callq {S SX : Type} {post : Option Nat → S → Prop} {px : SX → Prop} {B : S → State → Prop} {BX : String → SX → State → Prop} {AX : Nat → Prop} (hr : vx_Run p l e R s m args below meth c H locs cells slots mc ms (F0 m pc ls st0) rest (va_Qq post B A1 a) (vx_X px BX AX) free) (hS : va_S A0 H0 H locs) (hA : ∀ q, q < H.size → A1 q → A0 q) (hf : ∀ q, free q → A0 q) (hAX : ∀ q, q < H.size → AX q → A0 q)
    (kx : ∀ (E : String) (ce : Cell) (q9 : Addr) (u : SX) (t : State) (H1 : Heap) (locs1 : List Loc), t.heap = H1 → s.vm.Alike t.vm → px u → BX E u t → H.size ≤ H1.size → (∀ q : Nat, q < H.size → ¬ AX q → H1[q]? = H[q]?) → va_S A0 H0 H1 locs1 → H1[q9]? = some ce → ce.vm = .none → s.vm.findClass E = some ce.cls → vx_W p l e R s m args below meth c H1 locs1 (cells + mc) (slots + ms) Q (F0 m pc ls rest) q9)
    (kk : ∀ (r : Option Nat) (u : S) (t : State) (H1 : Heap) (locs1 : List Loc), t.heap = H1 → s.vm.Alike t.vm → post r u → B u t → H.size ≤ H1.size → (∀ q : Nat, q < H.size → ¬ A1 q → H1[q]? = H[q]?) → va_S A0 H0 H1 locs1 → W p l e R s m args below meth c H1 locs1 (cells + mc) (slots + ms) Q (F0 m (pc + 3) ls (va_rf r :: rest))) : W p l e R s m args below meth c H locs cells slots Q (F0 m pc ls st0) := by
  intro T hT X
  rcases hr T hT X with ⟨v, st₀, t, T', L, h0, X', hL, e1, e2, ⟨⟨r, u, hv, hp, hb⟩, hF⟩, st⟩ | ⟨q, st₀, t, T', L, E, ce, h0, X', hL, e1, e2, ⟨u, hp, hb, hF⟩, hce, hcv, hcl, st⟩
  · cases hv
    obtain ⟨k1, k2, k3⟩ := vx_keep h0 e1 hS hA hf hL hF
    obtain ⟨t2, a1, b1⟩ := kk r u t T'.heap (locs ++ L) e1.symm (by rw [← e2]; exact X'.warmed.alike) hp hb k1 k2 k3 T' rfl X'
    exact ⟨t2, st t2 a1, b1⟩
  · obtain ⟨k1, k2, k3⟩ := vx_keep h0 e1 hS hAX hf hL hF
    obtain ⟨t2, a1, b1⟩ := kx E ce q u t T'.heap (locs ++ L) e1.symm (by rw [← e2]; exact X'.warmed.alike) hp hb k1 k2 k3 (by rw [e1]; exact hce) hcv hcl T' rfl X'
    exact ⟨t2, st.trans a1, b1⟩
end
/-! ===== END ===== -/
end
section
/-! ===== the map world: a method's world is a partial map from addresses to cells ===== -/
abbrev mw : Type := Nat → Option va_E
/-- what every contract speaks of: the classes' numbers; the classes of arrays; the cells that nobody writes; some addresses of those -/
abbrev mg : Type := va_G × (Nat → ClassId) × (Nat → Int32) × (Nat → Nat)
def mu (M : mw) (a : Nat) (e : va_E) : mw := fun x => if x = a then some e else M x
theorem mu_s {M : mw} {a : Nat} {e : va_E} : mu M a e a = some e := if_pos rfl
theorem mu_n {M : mw} {a b : Nat} {e : va_E} (h : b ≠ a) : mu M a e b = M b := if_neg h
theorem mu_k {M : mw} {a b : Nat} {e c0 : va_E} (h : b ≠ a) (hb : M b = some c0) : mu M a e b = some c0 := (mu_n h).trans hb
theorem mu_x {M : mw} {a b : Nat} {e c0 : va_E} (hb : M b = some c0) (ha : M a = none) : mu M a e b = some c0 := mu_k (fun q => by rw [q, ha] at hb; cases hb) hb
theorem mu_uu {M : mw} {a : Nat} {e e' : va_E} : mu (mu M a e) a e' = mu M a e' := by
  funext x
  by_cases h : x = a
  · subst h; rw [mu_s, mu_s]
  · rw [mu_n h, mu_n h, mu_n h]
theorem mu_id {M : mw} {a : Nat} {e : va_E} (h : M a = some e) : mu M a e = M := by
  funext x
  by_cases q : x = a
  · subst q; rw [mu_s, h]
  · rw [mu_n q]
theorem mw_ne {M : mw} {a b : Nat} {e f : va_E} (ha : M a = some e) (hb : M b = some f) (h : e ≠ f) : a ≠ b := fun q => h (Option.some.inj (by rw [← ha, ← hb, q]))
/-- cells of two kinds are apart -/
def kd : va_E → Nat
  | .inl (_, _, .inl _) => 0
  | .inl (_, _, .inr (.inl _)) => 1
  | .inl (_, _, .inr (.inr (.inl _))) => 2
  | .inl (_, _, .inr (.inr (.inr (.inl _)))) => 3
  | .inl (_, _, .inr (.inr (.inr (.inr _)))) => 4
  | .inr (ci, _) => ci + 5
theorem kd_ne {M : mw} {a b : Nat} {e f : va_E} (ha : M a = some e) (hb : M b = some f) (h : (kd e == kd f) = false) : a ≠ b := mw_ne ha hb (fun q => by rw [q] at h; simp at h)
def mP (D : va_G) (M : mw) (H : Heap) : Prop := ∀ (a : Nat) (e : va_E), M a = some e → va_at D vwCl (a, e) H
def mI (A : Nat → Prop) (M : mw) : Prop := ∀ (a : Nat) (e : va_E), M a = some e → A a
def mL (M : mw) (ws : va_W) : Prop := (∀ (a : Nat) (e : va_E), M a = some e → ∃ k : Nat, ws[k]? = some (a, e)) ∧ ∀ (k : Nat) (q : Nat × va_E), ws[k]? = some q → M q.1 = some q.2
theorem mP.lt {D : va_G} {M : mw} {H : Heap} (h : mP D M H) {a : Nat} {e : va_E} (he : M a = some e) : a < H.size := (h a e he).lt
theorem mP.none {D : va_G} {M : mw} {H : Heap} (h : mP D M H) {a : Nat} (ha : H.size ≤ a) : M a = none := by
  cases q : M a with
  | none => rfl
  | some e => exact absurd (h.lt q) (Nat.not_lt.mpr ha)
theorem mL_ex {D : va_G} {M : mw} {H : Heap} (h : mP D M H) : ∃ ws : va_W, mL M ws ∧ va_P D vwCl ws H ∧ ∀ A : Nat → Prop, mI A M → va_D A ws := by
  have hmem : ∀ q : Nat × va_E, q ∈ (List.range H.size).filterMap (fun a => (M a).map (fun e => (a, e))) ↔ M q.1 = some q.2 := by
    intro q
    rw [List.mem_filterMap]
    constructor
    · rintro ⟨a, -, ha⟩
      cases hm : M a with
      | none => rw [hm] at ha; cases ha
      | some e => rw [hm] at ha; cases ha; exact hm
    · intro hq
      exact ⟨q.1, List.mem_range.mpr (h.lt hq), by rw [hq]; rfl⟩
  have hpw : List.Pairwise (fun x y : Nat × va_E => x.1 < y.1) ((List.range H.size).filterMap (fun a => (M a).map (fun e => (a, e)))) := by
    rw [List.pairwise_filterMap]
    refine List.Pairwise.imp ?_ List.pairwise_lt_range
    intro a b hab x hx y hy
    cases ha : M a with
    | none => rw [ha] at hx; cases hx
    | some e =>
      cases hb : M b with
      | none => rw [hb] at hy; cases hy
      | some f =>
        rw [ha] at hx; rw [hb] at hy
        cases hx; cases hy
        exact hab
  refine ⟨(List.range H.size).filterMap (fun a => (M a).map (fun e => (a, e))), ⟨fun a e he => ?_, fun k q hq => ?_⟩, fun k q hq => ?_, fun A hA => ⟨fun i j x y hi hj hxy => ?_, fun k q hq => ?_⟩⟩
  · exact List.getElem?_of_mem ((hmem (a, e)).mpr he)
  · exact (hmem q).mp (List.mem_of_getElem? hq)
  · exact h q.1 q.2 ((hmem q).mp (List.mem_of_getElem? hq))
  · obtain ⟨hi1, hi2⟩ := List.getElem?_eq_some_iff.mp hi
    obtain ⟨hj1, hj2⟩ := List.getElem?_eq_some_iff.mp hj
    rw [List.pairwise_iff_getElem] at hpw
    rcases Nat.lt_trichotomy i j with q | q | q
    · have := hpw i j hi1 hj1 q
      rw [hi2, hj2] at this
      omega
    · exact q
    · have := hpw j i hj1 hi1 q
      rw [hi2, hj2] at this
      omega
  · exact hA q.1 q.2 ((hmem q).mp (List.mem_of_getElem? hq))
theorem mL.set {D : va_G} {M : mw} {ws : va_W} {H1 : Heap} {a k : Nat} {e0 e : va_E} (hL : mL M ws) (hk : ws[k]? = some (a, e0)) (h : va_P D vwCl (ws.set k (a, e)) H1) : mP D (mu M a e) H1 := by
  have hl := (List.getElem?_eq_some_iff.mp hk).1
  intro x c hx
  by_cases q : x = a
  · subst q
    rw [mu_s] at hx
    cases hx
    exact h k _ (List.getElem?_set_self hl)
  · rw [mu_n q] at hx
    obtain ⟨j, hj⟩ := hL.1 x c hx
    refine h j _ ?_
    rw [List.getElem?_set_ne (fun z => q ?_)]
    · exact hj
    · rw [← z, hk] at hj
      cases hj
      rfl
theorem mL.push {D : va_G} {M : mw} {ws : va_W} {H1 : Heap} {a : Nat} {e : va_E} (hL : mL M ws) (h : va_P D vwCl (ws ++ [(a, e)]) H1) : mP D (mu M a e) H1 := by
  intro x c hx
  by_cases q : x = a
  · subst q
    rw [mu_s] at hx
    cases hx
    exact h ws.length _ (by rw [List.getElem?_append_right (Nat.le_refl _), Nat.sub_self]; rfl)
  · rw [mu_n q] at hx
    obtain ⟨j, hj⟩ := hL.1 x c hx
    refine h j _ ?_
    rw [List.getElem?_append_left (List.getElem?_eq_some_iff.mp hj).1]
    exact hj
theorem mL.fresh {A : Nat → Prop} {M : mw} {ws : va_W} {a : Nat} {e : va_E} (hL : mL M ws) (h : va_D A (ws ++ [(a, e)])) : M a = none := by
  cases q : M a with
  | none => rfl
  | some f =>
    obtain ⟨j, hj⟩ := hL.1 a f q
    have hl := (List.getElem?_eq_some_iff.mp hj).1
    have := h.1 j ws.length (a, f) (a, e) (by rw [List.getElem?_append_left hl]; exact hj) (by rw [List.getElem?_append_right (Nat.le_refl _), Nat.sub_self]; rfl) rfl
    omega
theorem mI.mu {A : Nat → Prop} {M : mw} {a : Nat} {e : va_E} (h : mI A M) (ha : A a) : mI A (mu M a e) := by
  intro x c hx
  by_cases q : x = a
  · rw [q]; exact ha
  · rw [mu_n q] at hx
    exact h x c hx
theorem va_at.one {D : va_G} {a : Nat} {e : va_E} {H : Heap} (h : va_at D vwCl (a, e) H) : va_P D vwCl [(a, e)] H := by
  intro k q hk
  match k, hk with
  | 0, hk => cases hk; exact h
  | k + 1, hk => simp at hk
section MW
variable {p : Program} {l : Launch} {e : Env} {R : Room} {s : State} {m : MethodId} {args : Array Value} {below : List Frame} {meth : Method} {c : Code} {H : Heap} {locs : List Loc} {cells slots : Nat} {Q : State → Prop}
variable {cc : ByteArray} {pc : Nat} {ls : Array Slot} {rest : List Value} {D : va_G} {A : Nat → Prop} {a : Nat} {tys : List (ClassId × FieldType)} {M : mw} {H0 : Heap}
theorem m_get (hexec : p.tables.exec = Jvm.exec) (hb : c.code = cc) {own ref C : String} {T : u_T} {N ci index : Nat} {Ts : List Cond} (hts : ∀ w ∈ Ts, w.before args s = true) (hin : ∀ w ∈ u_ws C T N, w ∈ Ts) (hown : s.vm.findClass own = some m.cls) (hK : va_K D vwCl tys s) {fs : List Value} (he : va_at D vwCl (a, .inr (ci, fs)) H) (hc : vwCl[ci]? = some (C, T, N)) (k : Nat) (hk : k < N) (hlink : (Cond.fieldLink own index ref (T k).2.1 (T k).2.2.1).before args s = true) (hsame : ∀ x, s.fieldFound? (T k).1 (T k).2.1 (T k).2.2.1 = some x → s.fieldFound? ref (T k).2.1 (T k).2.2.1 = some x) {v : Value} (hv : fs[k]? = some v) (hdg : decode cc pc = .ok (.getfield index, 3))
    (kk : W p l e R s m args below meth c H locs cells slots Q (F0 m (pc + 3) ls (v :: rest))) : W p l e R s m args below meth c H locs cells slots Q (F0 m pc ls (.ref a :: rest)) :=
  va_get hexec hb hts hin hown hK he.one 0 rfl hc k hk hlink hsame hv hdg kk
theorem m_getN (hexec : p.tables.exec = Jvm.exec) (hb : c.code = cc) {own ref C host : String} {T : u_T} {N ci index : Nat} {Ts : List Cond} (hts : ∀ w ∈ Ts, w.before args s = true) (hin : ∀ w ∈ u_ws C T N, w ∈ Ts) (hown : s.vm.findClass own = some m.cls) (hK : va_K D vwCl tys s) {fs : List Value} (he : va_at D vwCl (a, .inr (ci, fs)) H) (hc : vwCl[ci]? = some (C, T, N)) (k : Nat) (hk : k < N) (hlink : (Cond.fieldLinkNest own index ref (T k).2.1 (T k).2.2.1 host).before args s = true) (hsame : ∀ x, s.fieldFound? (T k).1 (T k).2.1 (T k).2.2.1 = some x → s.fieldFound? ref (T k).2.1 (T k).2.2.1 = some x) {v : Value} (hv : fs[k]? = some v) (hdg : decode cc pc = .ok (.getfield index, 3))
    (kk : W p l e R s m args below meth c H locs cells slots Q (F0 m (pc + 3) ls (v :: rest))) : W p l e R s m args below meth c H locs cells slots Q (F0 m pc ls (.ref a :: rest)) :=
  va_getN hexec hb hts hin hown hK he.one 0 rfl hc k hk hlink hsame hv hdg kk
theorem m_put (hexec : p.tables.exec = Jvm.exec) (hb : c.code = cc) {own ref C : String} {T : u_T} {N ci index : Nat} {Ts : List Cond} (hts : ∀ w ∈ Ts, w.before args s = true) (hin : ∀ w ∈ u_ws C T N, w ∈ Ts) (ty0 : Nat → FieldType) (hty : ∀ k, k < N → parseFieldDescriptor (T k).2.2.1 = some (ty0 k)) (hnm : ∀ a, a < N → ∀ b, b < N → a ≠ b → (T a).2.1 ≠ (T b).2.1) (hown : s.vm.findClass own = some m.cls) (hK : va_K D vwCl tys s) (hP : mP D M H) (hI : mI A M) (hS : va_S A H0 H locs) {fs : List Value} (he : M a = some (.inr (ci, fs))) (hc : vwCl[ci]? = some (C, T, N)) (k : Nat) (hk : k < N) (hlink : (Cond.fieldLink own index ref (T k).2.1 (T k).2.2.1).before args s = true) (hsame : ∀ x, s.fieldFound? (T k).1 (T k).2.1 (T k).2.2.1 = some x → s.fieldFound? ref (T k).2.1 (T k).2.2.1 = some x) (hfin : (T k).2.2.2 = false) {ty : FieldType} {v : Value} (hd : parseFieldDescriptor (T k).2.2.1 = some ty) (hn : narrow ty v = v) (hfit : fits ty v = true) (hl : k < fs.length)
    (hdg : decode cc pc = .ok (.putfield index, 3)) (kk : ∀ (H1 : Heap) (locs1 : List Loc), mP D (mu M a (.inr (ci, fs.set k v))) H1 → mI A (mu M a (.inr (ci, fs.set k v))) → va_S A H0 H1 locs1 → W p l e R s m args below meth c H1 locs1 cells slots Q (F0 m (pc + 3) ls rest)) : W p l e R s m args below meth c H locs cells slots Q (F0 m pc ls (v :: .ref a :: rest)) := by
  obtain ⟨ws, hL, hPw, hDw⟩ := mL_ex hP
  obtain ⟨q0, hq0⟩ := hL.1 a _ he
  exact va_put hexec hb hts hin ty0 hty hnm hown hK hPw (hDw A hI) hS q0 hq0 hc k hk hlink hsame hfin hd hn hfit hl hdg (fun H1 locs1 h1 _ h3 => kk H1 locs1 (hL.set hq0 h1) (hI.mu (hI a _ he)) h3)
theorem m_putN (hexec : p.tables.exec = Jvm.exec) (hb : c.code = cc) {own ref C host : String} {T : u_T} {N ci index : Nat} {Ts : List Cond} (hts : ∀ w ∈ Ts, w.before args s = true) (hin : ∀ w ∈ u_ws C T N, w ∈ Ts) (ty0 : Nat → FieldType) (hty : ∀ k, k < N → parseFieldDescriptor (T k).2.2.1 = some (ty0 k)) (hnm : ∀ a, a < N → ∀ b, b < N → a ≠ b → (T a).2.1 ≠ (T b).2.1) (hown : s.vm.findClass own = some m.cls) (hK : va_K D vwCl tys s) (hP : mP D M H) (hI : mI A M) (hS : va_S A H0 H locs) {fs : List Value} (he : M a = some (.inr (ci, fs))) (hc : vwCl[ci]? = some (C, T, N)) (k : Nat) (hk : k < N) (hlink : (Cond.fieldLinkNest own index ref (T k).2.1 (T k).2.2.1 host).before args s = true) (hsame : ∀ x, s.fieldFound? (T k).1 (T k).2.1 (T k).2.2.1 = some x → s.fieldFound? ref (T k).2.1 (T k).2.2.1 = some x) (hfin : (T k).2.2.2 = false) {ty : FieldType} {v : Value} (hd : parseFieldDescriptor (T k).2.2.1 = some ty) (hn : narrow ty v = v) (hfit : fits ty v = true) (hl : k < fs.length)
    (hdg : decode cc pc = .ok (.putfield index, 3)) (kk : ∀ (H1 : Heap) (locs1 : List Loc), mP D (mu M a (.inr (ci, fs.set k v))) H1 → mI A (mu M a (.inr (ci, fs.set k v))) → va_S A H0 H1 locs1 → W p l e R s m args below meth c H1 locs1 cells slots Q (F0 m (pc + 3) ls rest)) : W p l e R s m args below meth c H locs cells slots Q (F0 m pc ls (v :: .ref a :: rest)) := by
  obtain ⟨ws, hL, hPw, hDw⟩ := mL_ex hP
  obtain ⟨q0, hq0⟩ := hL.1 a _ he
  exact va_putN hexec hb hts hin ty0 hty hnm hown hK hPw (hDw A hI) hS q0 hq0 hc k hk hlink hsame hfin hd hn hfit hl hdg (fun H1 locs1 h1 _ h3 => kk H1 locs1 (hL.set hq0 h1) (hI.mu (hI a _ he)) h3)
theorem m_putF (hexec : p.tables.exec = Jvm.exec) (hb : c.code = cc) {own ref C : String} {T : u_T} {N ci index : Nat} {Ts : List Cond} (hts : ∀ w ∈ Ts, w.before args s = true) (hin : ∀ w ∈ u_ws C T N, w ∈ Ts) (ty0 : Nat → FieldType) (hty : ∀ k, k < N → parseFieldDescriptor (T k).2.2.1 = some (ty0 k)) (hnm : ∀ a, a < N → ∀ b, b < N → a ≠ b → (T a).2.1 ≠ (T b).2.1) (hown : s.vm.findClass own = some m.cls) (hK : va_K D vwCl tys s) (hP : mP D M H) (hI : mI A M) (hS : va_S A H0 H locs) {fs : List Value} (he : M a = some (.inr (ci, fs))) (hc : vwCl[ci]? = some (C, T, N)) (k : Nat) (hk : k < N) (hlink : (Cond.fieldLink own index ref (T k).2.1 (T k).2.2.1).before args s = true) (hsame : ∀ x, s.fieldFound? (T k).1 (T k).2.1 (T k).2.2.1 = some x → s.fieldFound? ref (T k).2.1 (T k).2.2.1 = some x) (hfin : (T k).2.2.2 = true) (hin2 : meth.name = "<init>") (hdecl : (T k).1 = own) {ty : FieldType} {v : Value} (hd : parseFieldDescriptor (T k).2.2.1 = some ty) (hn : narrow ty v = v) (hfit : fits ty v = true) (hl : k < fs.length)
    (hdg : decode cc pc = .ok (.putfield index, 3)) (kk : ∀ (H1 : Heap) (locs1 : List Loc), mP D (mu M a (.inr (ci, fs.set k v))) H1 → mI A (mu M a (.inr (ci, fs.set k v))) → va_S A H0 H1 locs1 → W p l e R s m args below meth c H1 locs1 cells slots Q (F0 m (pc + 3) ls rest)) : W p l e R s m args below meth c H locs cells slots Q (F0 m pc ls (v :: .ref a :: rest)) := by
  obtain ⟨ws, hL, hPw, hDw⟩ := mL_ex hP
  obtain ⟨q0, hq0⟩ := hL.1 a _ he
  exact va_putF hexec hb hts hin ty0 hty hnm hown hK hPw (hDw A hI) hS q0 hq0 hc k hk hlink hsame hfin hin2 hdecl hd hn hfit hl hdg (fun H1 locs1 h1 _ h3 => kk H1 locs1 (hL.set hq0 h1) (hI.mu (hI a _ he)) h3)
theorem m_new {c0 : Code} (hexec : p.tables.exec = Jvm.exec) (hb : c0.code = cc) {own C : String} {T : u_T} {N ci index : Nat} {Ts : List Cond} (hts : ∀ w ∈ Ts, w.before args s = true) (hin : ∀ w ∈ u_ws C T N, w ∈ Ts) (ty : Nat → FieldType) (hty : ∀ k, k < N → parseFieldDescriptor (T k).2.2.1 = some (ty k)) (hown : s.vm.findClass own = some m.cls) (hcl : (Cond.classLink own index C).before args s = true) (hinst : (Cond.instantiable C N).before args s = true) (hini : (Cond.initialized C).before args s = true)
    (hK : va_K D vwCl tys s) (hP : mP D M H) (hI : mI A M) (hS : va_S A H0 H locs) (hA : ∀ q, H0.size ≤ q → A q) (hc : vwCl[ci]? = some (C, T, N)) {fs : List Value} (hfs : ∀ j, j < N → defaultValue (ty j) = vp_V fs j) (hcells : cells + 1 ≤ R.cells) (hslots : slots + N ≤ R.slots) (hdg : decode cc pc = .ok (.new index, 3))
    (kk : ∀ (q : Nat) (H1 : Heap), M q = none → mP D (mu M q (.inr (ci, fs))) H1 → mI A (mu M q (.inr (ci, fs))) → va_S A H0 H1 locs →
      W p l e R s m args below meth c0 H1 locs (cells + 1) (slots + N) Q (F0 m (pc + 3) ls (.ref q :: rest))) : W p l e R s m args below meth c0 H locs cells slots Q (F0 m pc ls rest) := by
  obtain ⟨ws, hL, hPw, hDw⟩ := mL_ex hP
  exact va_new hexec hb hts hin ty hty hown hcl hinst hini hK hPw (hDw A hI) hS hA hc hfs hcells hslots hdg (fun q H1 h1 h2 h3 => kk q H1 (hL.fresh h2) (hL.push h1) (hI.mu (h2.2 ws.length (q, _) (by rw [List.getElem?_append_right (Nat.le_refl _), Nat.sub_self]; rfl))) h3)
theorem m_newa (hexec : p.tables.exec = Jvm.exec) (hb : c.code = cc) {atype : ArrayType} (harr : (Cond.arrayClass (newarray.typeOf atype)).before args s = true) {ty : FieldType} (hty : newarray.typeOf atype = ty) (hK : va_K D vwCl tys s) (hP : mP D M H) (hI : mI A M) (hS : va_S A H0 H locs) (hA : ∀ q, H0.size ≤ q → A q) {cI : ClassId} (hcI : s.vm.findClass ("[" ++ ty.toString) = some cI)
    {n : Int32} {N' : Nat} {a0 : vp_A} (ha : ∀ cA : ClassId, vp_cell cA a0 = arrV cA N' (fun _ => defaultValue ty)) (hn : ¬ n < 0) (hN : n.toNatClampNeg = N') (hbytes : N' * componentBytes ty ≤ 536870912) (hcells : cells + 1 ≤ R.cells) (hslots : slots + N' ≤ R.slots) (hdg : decode cc pc = .ok (.newarray atype, 2))
    (kk : ∀ (q : Nat) (H1 : Heap), M q = none → mP D (mu M q (.inl (cI, a0))) H1 → mI A (mu M q (.inl (cI, a0))) → va_S A H0 H1 locs →
      W p l e R s m args below meth c H1 locs (cells + 1) (slots + N') Q (F0 m (pc + 2) ls (.ref q :: rest))) : W p l e R s m args below meth c H locs cells slots Q (F0 m pc ls (.int n :: rest)) := by
  obtain ⟨ws, hL, hPw, hDw⟩ := mL_ex hP
  refine va_newa hexec hb harr hty hK hPw (hDw A hI) hS hA ha hn hN hbytes hcells hslots hdg (fun q cA H1 h0 h1 h2 h3 => ?_)
  have hR := (h0.2 tys.length (cA, ty) (by rw [List.getElem?_append_right (Nat.le_refl _), Nat.sub_self]; rfl)).2
  have hcA : cA = cI := by
    subst hty
    cases atype <;> exact Option.some.inj (hR.symm.trans hcI)
  subst hcA
  exact kk q H1 (hL.fresh h2) (hL.push h1) (hI.mu (h2.2 ws.length (q, _) (by rw [List.getElem?_append_right (Nat.le_refl _), Nat.sub_self]; rfl))) h3
theorem m_iald (hexec : p.tables.exec = Jvm.exec) (hb : c.code = cc) (hK : va_K D vwCl tys s) (t0 : Nat) {cA : ClassId} {n : Nat} {f : Nat → Int32} (ha : va_at D vwCl (a, .inl (cA, n, .inl f)) H) (ht : tys[t0]? = some (cA, .int)) {i : Int32} (hin : vp_in i n) (hdg : decode cc pc = .ok (.iaload, 1))
    (kk : W p l e R s m args below meth c H locs cells slots Q (F0 m (pc + 1) ls (.int (f i.toNatClampNeg) :: rest))) : W p l e R s m args below meth c H locs cells slots Q (F0 m pc ls (.int i :: .ref a :: rest)) :=
  va_iald hexec hb hK ha.one 0 t0 rfl ht hin hdg kk
theorem m_iast (hexec : p.tables.exec = Jvm.exec) (hb : c.code = cc) (hK : va_K D vwCl tys s) (hP : mP D M H) (hI : mI A M) (hS : va_S A H0 H locs) (t0 : Nat) {cA : ClassId} {n : Nat} {f : Nat → Int32} (ha : M a = some (.inl (cA, n, .inl f))) (ht : tys[t0]? = some (cA, .int)) {i : Int32} {x : Int32} (hin : vp_in i n) (hdg : decode cc pc = .ok (.iastore, 1))
    (kk : ∀ (H1 : Heap) (locs1 : List Loc), mP D (mu M a (.inl (cA, n, .inl (upd f i.toNatClampNeg x)))) H1 → mI A (mu M a (.inl (cA, n, .inl (upd f i.toNatClampNeg x)))) → va_S A H0 H1 locs1 → W p l e R s m args below meth c H1 locs1 cells slots Q (F0 m (pc + 1) ls rest)) : W p l e R s m args below meth c H locs cells slots Q (F0 m pc ls (.int x :: .int i :: .ref a :: rest)) := by
  obtain ⟨ws, hL, hPw, hDw⟩ := mL_ex hP
  obtain ⟨q0, hq0⟩ := hL.1 a _ ha
  exact va_iast hexec hb hK hPw (hDw A hI) hS q0 t0 hq0 ht hin hdg (fun H1 locs1 h1 _ h3 => kk H1 locs1 (hL.set hq0 h1) (hI.mu (hI a _ ha)) h3)
theorem m_aldq (hexec : p.tables.exec = Jvm.exec) (hb : c.code = cc) (hK : va_K D vwCl tys s) (t0 : Nat) {cA : ClassId} {C : String} {n : Nat} {f : Nat → Option Nat} (ha : va_at D vwCl (a, .inl (cA, n, .inr (.inr (.inr (.inr f))))) H) (ht : tys[t0]? = some (cA, .object C)) {i : Int32} (hin : vp_in i n) (hdg : decode cc pc = .ok (.aaload, 1))
    (kk : W p l e R s m args below meth c H locs cells slots Q (F0 m (pc + 1) ls (va_rf (f i.toNatClampNeg) :: rest))) : W p l e R s m args below meth c H locs cells slots Q (F0 m pc ls (.int i :: .ref a :: rest)) :=
  va_aldq hexec hb hK ha.one 0 t0 rfl ht hin hdg kk
theorem m_astq (hexec : p.tables.exec = Jvm.exec) (hb : c.code = cc) (hK : va_K D vwCl tys s) (hP : mP D M H) (hI : mI A M) (hS : va_S A H0 H locs) (t0 : Nat) {ci : Nat} {cA : ClassId} {r : vw_C} {n v : Nat} {vs : List Value} {f : Nat → Option Nat} (ha : M a = some (.inl (cA, n, .inr (.inr (.inr (.inr f)))))) (ht : tys[t0]? = some (cA, .object r.1)) (hv : M v = some (.inr (ci, vs))) (hc : vwCl[ci]? = some r) {i : Int32} (hin : vp_in i n) (hdg : decode cc pc = .ok (.aastore, 1))
    (kk : ∀ (H1 : Heap) (locs1 : List Loc), mP D (mu M a (.inl (cA, n, .inr (.inr (.inr (.inr (va_up f i.toNatClampNeg (some v)))))))) H1 → mI A (mu M a (.inl (cA, n, .inr (.inr (.inr (.inr (va_up f i.toNatClampNeg (some v)))))))) → va_S A H0 H1 locs1 → W p l e R s m args below meth c H1 locs1 cells slots Q (F0 m (pc + 1) ls rest)) : W p l e R s m args below meth c H locs cells slots Q (F0 m pc ls (.ref v :: .int i :: .ref a :: rest)) := by
  obtain ⟨ws, hL, hPw, hDw⟩ := mL_ex hP
  obtain ⟨q0, hq0⟩ := hL.1 a _ ha
  obtain ⟨qk, hqk⟩ := hL.1 v _ hv
  exact va_astq hexec hb hK hPw (hDw A hI) hS q0 t0 qk ci hq0 ht hqk hc hin hdg (fun H1 locs1 h1 _ h3 => kk H1 locs1 (hL.set hq0 h1) (hI.mu (hI a _ ha)) h3)
theorem m_astqN (hexec : p.tables.exec = Jvm.exec) (hb : c.code = cc) (hK : va_K D vwCl tys s) (hP : mP D M H) (hI : mI A M) (hS : va_S A H0 H locs) (t0 : Nat) {cA : ClassId} {C : String} {n : Nat} {f : Nat → Option Nat} (ha : M a = some (.inl (cA, n, .inr (.inr (.inr (.inr f)))))) (ht : tys[t0]? = some (cA, .object C)) {i : Int32} (hin : vp_in i n) (hdg : decode cc pc = .ok (.aastore, 1))
    (kk : ∀ (H1 : Heap) (locs1 : List Loc), mP D (mu M a (.inl (cA, n, .inr (.inr (.inr (.inr (va_up f i.toNatClampNeg none))))))) H1 → mI A (mu M a (.inl (cA, n, .inr (.inr (.inr (.inr (va_up f i.toNatClampNeg none))))))) → va_S A H0 H1 locs1 → W p l e R s m args below meth c H1 locs1 cells slots Q (F0 m (pc + 1) ls rest)) : W p l e R s m args below meth c H locs cells slots Q (F0 m pc ls (.null :: .int i :: .ref a :: rest)) := by
  obtain ⟨ws, hL, hPw, hDw⟩ := mL_ex hP
  obtain ⟨q0, hq0⟩ := hL.1 a _ ha
  exact va_astqN hexec hb hK hPw (hDw A hI) hS q0 t0 hq0 ht hin hdg (fun H1 locs1 h1 _ h3 => kk H1 locs1 (hL.set hq0 h1) (hI.mu (hI a _ ha)) h3)
theorem m_alen (hexec : p.tables.exec = Jvm.exec) (hb : c.code = cc) (hK : va_K D vwCl tys s) (t0 : Nat) {cA : ClassId} {x : vp_A} {ty : FieldType} (ha : va_at D vwCl (a, .inl (cA, x)) H) (ht : tys[t0]? = some (cA, ty)) {v : Int32} (hv : Int32.ofNat x.1 = v) (hdg : decode cc pc = .ok (.arraylength, 1))
    (kk : W p l e R s m args below meth c H locs cells slots Q (F0 m (pc + 1) ls (.int v :: rest))) : W p l e R s m args below meth c H locs cells slots Q (F0 m pc ls (.ref a :: rest)) :=
  va_alen hexec hb hK ha.one 0 t0 rfl ht hv hdg kk
end MW
end
section
/-! ===== what every contract takes as given of the machine ===== -/
def gnF : List (String × Nat × String × String × String × String) := [("Meniscus", 99, "Meniscus$Tube", "used", "Z", "Meniscus"), ("Meniscus$Instrument", 119, "Meniscus$Readings", "count", "I", "Meniscus"), ("Meniscus", 282, "Meniscus$Instrument", "tubeNumber", "I", "Meniscus")]
def gnM : List (String × Nat × MethodName × String) := [("Meniscus$Instrument", 11, ⟨"Meniscus$Readings", "<init>", "()V"⟩, "Meniscus")]
def gcast : List (String × String) := [("java/lang/IllegalArgumentException", "java/lang/IllegalArgumentException"), ("java/lang/IllegalStateException", "java/lang/IllegalStateException"), ("java/lang/IndexOutOfBoundsException", "java/lang/IndexOutOfBoundsException"), ("java/lang/UnsupportedOperationException", "java/lang/UnsupportedOperationException"), ("java/util/NoSuchElementException", "java/util/NoSuchElementException"), ("Meniscus", "java/lang/Object"), ("java/lang/IllegalArgumentException", "java/lang/Object"), ("java/lang/IllegalStateException", "java/lang/Object"), ("Meniscus$Tube", "java/lang/Object"), ("java/lang/IndexOutOfBoundsException", "java/lang/Object"), ("java/lang/UnsupportedOperationException", "java/lang/Object"), ("java/util/NoSuchElementException", "java/lang/Object"), ("Meniscus$Instrument", "java/lang/Object"), ("Meniscus$Readings", "java/lang/Object"), ("Meniscus$Scale", "java/lang/Object"), ("java/lang/Throwable", "java/lang/Object"), ("java/lang/String", "java/lang/Object")]
def gnc : List (String × String) := [("java/lang/IllegalArgumentException", "java/lang/IllegalStateException"), ("java/lang/IllegalArgumentException", "java/lang/IndexOutOfBoundsException"), ("java/lang/IllegalArgumentException", "java/lang/UnsupportedOperationException"), ("java/lang/IllegalArgumentException", "java/util/NoSuchElementException"), ("java/lang/IllegalStateException", "java/lang/IllegalArgumentException"), ("java/lang/IllegalStateException", "java/lang/IndexOutOfBoundsException"), ("java/lang/IllegalStateException", "java/lang/UnsupportedOperationException"), ("java/lang/IllegalStateException", "java/util/NoSuchElementException"), ("java/lang/IndexOutOfBoundsException", "java/lang/IllegalArgumentException"), ("java/lang/IndexOutOfBoundsException", "java/lang/IllegalStateException"), ("java/lang/IndexOutOfBoundsException", "java/lang/UnsupportedOperationException"), ("java/lang/IndexOutOfBoundsException", "java/util/NoSuchElementException"), ("java/lang/UnsupportedOperationException", "java/lang/IllegalArgumentException"), ("java/lang/UnsupportedOperationException", "java/lang/IllegalStateException"), ("java/lang/UnsupportedOperationException", "java/lang/IndexOutOfBoundsException"), ("java/lang/UnsupportedOperationException", "java/util/NoSuchElementException"), ("java/util/NoSuchElementException", "java/lang/IllegalArgumentException"), ("java/util/NoSuchElementException", "java/lang/IllegalStateException"), ("java/util/NoSuchElementException", "java/lang/IndexOutOfBoundsException"), ("java/util/NoSuchElementException", "java/lang/UnsupportedOperationException")]
def gstr : List (Nat × String) := [(302, "a number is out of range"), (34, "no more tubes"), (290, "no such tube"), (306, "the tube is used"), (70, "the thread goes beyond the tube"), (79, "the second place is not lower"), (304, "there is no such kind"), (97, "no more instruments")]
def gdecl : List MethodName := [⟨"java/lang/RuntimeException", "<init>", "(Ljava/lang/String;)V"⟩, ⟨"java/lang/Exception", "<init>", "(Ljava/lang/String;)V"⟩, ⟨"java/lang/Throwable", "<init>", "(Ljava/lang/String;)V"⟩]
/-- the classes of arrays: int (three times, so that the places stay); of tubes, of instruments -/
abbrev gtys (G : mg) : List (ClassId × FieldType) := [(G.2.1 0, .int), (G.2.1 0, .int), (G.2.1 0, .int), (G.2.1 3, .object "Meniscus$Tube"), (G.2.1 4, .object "Meniscus$Instrument")]
/-- what the tables say, as long as the machine runs -/
def GKv (G : mg) (U : State) : Prop :=
  va_K G.1 vwCl (gtys G) U ∧
  (∀ q ∈ gnF, va_Nw (.fieldLinkNest q.1 q.2.1 q.2.2.1 q.2.2.2.1 q.2.2.2.2.1 q.2.2.2.2.2) U) ∧
  (∀ q ∈ gnM, va_Nw (.methodLinkNest q.1 q.2.1 q.2.2.1 q.2.2.2) U) ∧
  (∀ q ∈ gcast, va_Nw (.castable q.1 q.2) U) ∧
  (∀ q ∈ gnc, va_Nc q.1 q.2 U) ∧
  (∀ q ∈ gstr, ∃ sa : Nat, vk_R "Meniscus" q.1 q.2 sa U) ∧
  True ∧ va_AO "Meniscus$Tube" U ∧ va_AO "Meniscus$Instrument" U ∧ True ∧ True ∧
  (∀ x ∈ gdecl, va_Nw (.declares x) U)
/-- what nobody writes: two statics of Throwable, the script -/
def GKh (G : mg) (A : Nat → Prop) (U : State) (H : Heap) : Prop :=
  vx_Zq Bundle.tN "UNASSIGNED_STACK" Bundle.steD A U H ∧ vx_Zq Bundle.tN "SUPPRESSED_SENTINEL" Bundle.listD A U H ∧
  (va_X (G.2.2.2 0) (G.2.2.2 1) G.2.2.1 U H ∧ ¬ A (G.2.2.2 0))
def GKc (G : mg) : Prop := G.2.2.2 1 ≤ 260
def GK (G : mg) (A : Nat → Prop) (U : State) : Prop := GKc G ∧ GKv G U ∧ GKh G A U U.heap
theorem va_X.lt {b L : Nat} {xs : Nat → Int32} {U : State} {H : Heap} (h : va_X b L xs U H) : b < H.size := by
  obtain ⟨scr, h1, -⟩ := h
  exact (Array.getElem?_eq_some_iff.mp h1).1
theorem GKv.warm {G : mg} {s U : State} (hW : s.WarmedH U.vm) (h : GKv G s) : GKv G U := by
  obtain ⟨h1, h2, h3, h4, h5, h6, h7, h8, h9, h10, h11, h12⟩ := h
  refine ⟨va_K.moved hW.alike h1, fun q hq => va_Nw.warmF hW (h2 q hq), fun q hq => va_Nw.warmM hW (h3 q hq), fun q hq => va_Nw.warmC hW (h4 q hq), fun q hq => va_Nc.moved hW.alike (h5 q hq), fun q hq => ?_, trivial, va_AO.moved hW.alike h8, va_AO.moved hW.alike h9, trivial, trivial, fun x hx => va_Nw.warmD hW (h12 x hx)⟩
  obtain ⟨sa, hsa⟩ := h6 q hq
  exact ⟨sa, vk_R.warm hW hsa⟩
theorem GKv.same {G : mg} {s U : State} (hv : U.vm = s.vm) (h : GKv G s) : GKv G U := by
  have hW : s.vm.Alike U.vm := by rw [hv]; exact Vm.Alike.refl _
  obtain ⟨h1, h2, h3, h4, h5, h6, h7, h8, h9, h10, h11, h12⟩ := h
  refine ⟨va_K.moved hW h1, fun q hq => va_Nw.same rfl hv.symm (h2 q hq), fun q hq => va_Nw.same rfl hv.symm (h3 q hq), fun q hq => va_Nw.same rfl hv.symm (h4 q hq), fun q hq => va_Nc.moved hW (h5 q hq), fun q hq => ?_, trivial, va_AO.moved hW h8, va_AO.moved hW h9, trivial, trivial, fun x hx => va_Nw.same rfl hv.symm (h12 x hx)⟩
  obtain ⟨sa, hsa⟩ := h6 q hq
  exact ⟨sa, vk_R.same hv hsa⟩
theorem GKh.moved {G : mg} {A : Nat → Prop} {u U : State} {H : Heap} (hvm : u.vm.Alike U.vm) (h : GKh G A u H) : GKh G A U H :=
  ⟨vx_Zq.moved hvm h.1, vx_Zq.moved hvm h.2.1, va_X.moved hvm h.2.2.1, h.2.2.2⟩
theorem GKh.kept {G : mg} {A : Nat → Prop} {U : State} {H H1 : Heap} (h : GKh G A U H) (hq : ∀ a : Nat, a < H.size → ¬ A a → H1[a]? = H[a]?) : GKh G A U H1 :=
  ⟨vx_Zq.kept h.1 hq, vx_Zq.kept h.2.1 hq, va_X.kept h.2.2.1 (hq _ h.2.2.1.lt h.2.2.2), h.2.2.2⟩
theorem GKh.narrow {G : mg} {A B : Nat → Prop} {U : State} {H : Heap} (h : GKh G A U H) (hAB : ∀ q, B q → A q) : GKh G B U H :=
  ⟨vx_Zq.narrow h.1 hAB, vx_Zq.narrow h.2.1 hAB, h.2.2.1, fun z => h.2.2.2 (hAB _ z)⟩
theorem GK.same {G : mg} {A : Nat → Prop} {s U : State} (hv : U.vm = s.vm) (hh : U.heap = s.heap) (h : GK G A s) : GK G A U := by
  refine ⟨h.1, h.2.1.same hv, ?_⟩
  rw [hh]
  exact GKh.moved (by rw [hv]; exact Vm.Alike.refl _) h.2.2
theorem GK.move {G : mg} {A : Nat → Prop} {s U : State} {H : Heap} {locs : List Loc} (h : GK G A s) (hS : va_S A s.heap H locs) (hU : U.heap = H) (hW : s.WarmedH U.vm) : GK G A U :=
  ⟨h.1, h.2.1.warm hW, by rw [hU]; exact (GKh.moved hW.alike h.2.2).kept hS.2.1⟩
theorem GK.K {G : mg} {A : Nat → Prop} {s : State} (h : GK G A s) : va_K G.1 vwCl (gtys G) s := h.2.1.1

/-- before a method -/
def mB (G : mg) (A : Nat → Prop) (M : mw) (U : State) : Prop := GK G A U ∧ mP G.1 M U.heap ∧ mI A M ∧ ∀ q : Nat, U.heap.size ≤ q → A q
/-- behind it -/
def mE (G : mg) (A : Nat → Prop) (M : mw) (t : State) : Prop := mP G.1 M t.heap ∧ mI A M
/-- the exceptions that leave a method: which, and that the world stands as it was -/
abbrev xX (px : String → Prop) (G : mg) (A : Nat → Prop) (M : mw) : String → State → State → Prop := vx_X (S := String) px (fun E u t => E = u ∧ mE G A M t) A
theorem mB.blind {G : mg} {A : Nat → Prop} {M : mw} {av : List Value} (a : Array Value) (U : State) (g : JFrame) (mk : MethodId) (h : va_Pc av (mB G A M) a U) : va_Pc av (mB G A M) a (U.calling g mk a) :=
  ⟨h.1, h.2.1.same rfl rfl, h.2.2.1, h.2.2.2.1, h.2.2.2.2⟩
section MCTX
variable {p : Program} {l : Launch} {e : Env} {R : Room} {s : State} {m : MethodId} {args : Array Value} {below : List Frame} {meth : Method} {c : Code} {H : Heap} {locs : List Loc} {cells slots : Nat} {Q : State → Prop}
variable {pc : Nat} {ls : Array Slot} {rest st0 : List Value} {a : Array Value} {A : Nat → Prop} {mc ms : Nat} {G : mg} {M : mw}
theorem mPre (hG : GK G A s) (hS : va_S A s.heap H locs) (hP : mP G.1 M H) (hI : mI A M) (hA : ∀ q : Nat, s.heap.size ≤ q → A q) (U : State) (hU : U.heap = H) (hW : s.WarmedH U.vm) : mB G A M U :=
  ⟨hG.move hS hU hW, by rw [hU]; exact hP, hI, fun q hq => hA q (Nat.le_trans hS.1 (by rw [← hU]; exact hq))⟩
theorem mPreS (hG : GK G A s) (hS : va_S A s.heap H locs) (hP : mP G.1 M H) (hI : mI A M) (hA : ∀ q : Nat, s.heap.size ≤ q → A q) {As : List Value} : PreS s H (va_Pc As (mB G A M)) As :=
  ⟨fun a U g mk h => mB.blind a U g mk h, fun U hU hW => ⟨rfl, mPre hG hS hP hI hA U hU hW⟩⟩
theorem mPreV (hG : GK G A s) (hS : va_S A s.heap H locs) (hP : mP G.1 M H) (hI : mI A M) (hA : ∀ q : Nat, s.heap.size ≤ q → A q) {As : List Value} {b ci : Nat} {fs : List Value} (hb : va_at G.1 vwCl (b, .inr (ci, fs)) H) {r : vw_C} (hc : vwCl[ci]? = some r) : PreV s H r.1 b (va_Pc (.ref b :: As) (mB G A M)) As :=
  ⟨fun a U g mk h => mB.blind a U g mk h, va_recv hG.K hb.one hc (q0 := 0) rfl, fun U hU hW => ⟨rfl, mPre hG hS hP hI hA U hU hW⟩⟩
theorem m_calli {post : Int32 → mw → Prop} (hr : va_Run p l e R s m args below meth c H locs cells slots mc ms (F0 m pc ls st0) rest (va_Qi post (mE G A) A a) A) (hS : va_S A s.heap H locs)
    (kk : ∀ (r : Int32) (M1 : mw) (H1 : Heap) (locs1 : List Loc), post r M1 → mP G.1 M1 H1 → mI A M1 → va_S A s.heap H1 locs1 → W p l e R s m args below meth c H1 locs1 (cells + mc) (slots + ms) Q (F0 m (pc + 3) ls (.int r :: rest))) : W p l e R s m args below meth c H locs cells slots Q (F0 m pc ls st0) :=
  va_calli hr hS (fun _ _ h => h) (fun _ h => h) (fun r u t H1 locs1 ht _ hp hB _ _ hS1 => kk r u H1 locs1 hp (by rw [← ht]; exact hB.1) hB.2 hS1)
theorem m_calll {post : Int64 → mw → Prop} (hr : va_Run p l e R s m args below meth c H locs cells slots mc ms (F0 m pc ls st0) rest (va_Ql post (mE G A) A a) A) (hS : va_S A s.heap H locs)
    (kk : ∀ (r : Int64) (M1 : mw) (H1 : Heap) (locs1 : List Loc), post r M1 → mP G.1 M1 H1 → mI A M1 → va_S A s.heap H1 locs1 → W p l e R s m args below meth c H1 locs1 (cells + mc) (slots + ms) Q (F0 m (pc + 3) ls (.long r :: rest))) : W p l e R s m args below meth c H locs cells slots Q (F0 m pc ls st0) :=
  va_calll hr hS (fun _ _ h => h) (fun _ h => h) (fun r u t H1 locs1 ht _ hp hB _ _ hS1 => kk r u H1 locs1 hp (by rw [← ht]; exact hB.1) hB.2 hS1)
theorem m_callv {post : mw → Prop} (hr : va_Run p l e R s m args below meth c H locs cells slots mc ms (F0 m pc ls st0) rest (va_Qv post (mE G A) A a) A) (hS : va_S A s.heap H locs)
    (kk : ∀ (M1 : mw) (H1 : Heap) (locs1 : List Loc), post M1 → mP G.1 M1 H1 → mI A M1 → va_S A s.heap H1 locs1 → W p l e R s m args below meth c H1 locs1 (cells + mc) (slots + ms) Q (F0 m (pc + 3) ls (rest))) : W p l e R s m args below meth c H locs cells slots Q (F0 m pc ls st0) :=
  va_callv hr hS (fun _ _ h => h) (fun _ h => h) (fun u t H1 locs1 ht _ hp hB _ _ hS1 => kk u H1 locs1 hp (by rw [← ht]; exact hB.1) hB.2 hS1)
theorem mx_calli {px : String → Prop} {post : Int32 → mw → Prop} (hr : vx_Run p l e R s m args below meth c H locs cells slots mc ms (F0 m pc ls st0) rest (va_Qi post (mE G A) A a) (xX px G A M) A) (hS : va_S A s.heap H locs)
    (kx : ∀ (E : String) (ce : Cell) (q9 : Addr) (H1 : Heap) (locs1 : List Loc), px E → mP G.1 M H1 → mI A M → va_S A s.heap H1 locs1 → H1[q9]? = some ce → ce.vm = .none → s.vm.findClass E = some ce.cls → vx_W p l e R s m args below meth c H1 locs1 (cells + mc) (slots + ms) Q (F0 m pc ls rest) q9)
    (kk : ∀ (r : Int32) (M1 : mw) (H1 : Heap) (locs1 : List Loc), post r M1 → mP G.1 M1 H1 → mI A M1 → va_S A s.heap H1 locs1 → W p l e R s m args below meth c H1 locs1 (cells + mc) (slots + ms) Q (F0 m (pc + 3) ls (.int r :: rest))) : W p l e R s m args below meth c H locs cells slots Q (F0 m pc ls st0) :=
  vx_calli hr hS (fun _ _ h => h) (fun _ h => h) (fun _ _ h => h) (fun E ce q9 u t H1 locs1 ht _ hp hB _ _ hS1 h1 h2 h3 => kx E ce q9 H1 locs1 (by rw [hB.1]; exact hp) (by rw [← ht]; exact hB.2.1) hB.2.2 hS1 h1 h2 h3) (fun r u t H1 locs1 ht _ hp hB _ _ hS1 => kk r u H1 locs1 hp (by rw [← ht]; exact hB.1) hB.2 hS1)
theorem mx_callv {px : String → Prop} {post : mw → Prop} (hr : vx_Run p l e R s m args below meth c H locs cells slots mc ms (F0 m pc ls st0) rest (va_Qv post (mE G A) A a) (xX px G A M) A) (hS : va_S A s.heap H locs)
    (kx : ∀ (E : String) (ce : Cell) (q9 : Addr) (H1 : Heap) (locs1 : List Loc), px E → mP G.1 M H1 → mI A M → va_S A s.heap H1 locs1 → H1[q9]? = some ce → ce.vm = .none → s.vm.findClass E = some ce.cls → vx_W p l e R s m args below meth c H1 locs1 (cells + mc) (slots + ms) Q (F0 m pc ls rest) q9)
    (kk : ∀ (M1 : mw) (H1 : Heap) (locs1 : List Loc), post M1 → mP G.1 M1 H1 → mI A M1 → va_S A s.heap H1 locs1 → W p l e R s m args below meth c H1 locs1 (cells + mc) (slots + ms) Q (F0 m (pc + 3) ls (rest))) : W p l e R s m args below meth c H locs cells slots Q (F0 m pc ls st0) :=
  vx_callv hr hS (fun _ _ h => h) (fun _ h => h) (fun _ _ h => h) (fun E ce q9 u t H1 locs1 ht _ hp hB _ _ hS1 h1 h2 h3 => kx E ce q9 H1 locs1 (by rw [hB.1]; exact hp) (by rw [← ht]; exact hB.2.1) hB.2.2 hS1 h1 h2 h3) (fun u t H1 locs1 ht _ hp hB _ _ hS1 => kk u H1 locs1 hp (by rw [← ht]; exact hB.1) hB.2 hS1)
/-- an exception leaves the method -/
theorem m_out {px : String → Prop} {Qc : Array Value → State → Outcome → State → Prop} {E : String} {ce : Cell} {q : Addr} (hout : ∀ x ∈ c.exceptionTable.toList, covers x pc = false) (hlocks : meth.locks = false) (hP : mP G.1 M H) (hI : mI A M) (hS : va_S A s.heap H locs) (hcell : H[q]? = some ce) (hv : ce.vm = .none) (hcl : s.vm.findClass E = some ce.cls) (hpx : px E) (hc : cells ≤ mc) (hs : slots ≤ ms) :
    vx_W p l e R s m args below meth c H locs cells slots (vx_MQ below Qc (xX px G A M) args s mc ms A) (F0 m pc ls rest) q :=
  vx_out hout hlocks hcell hv hcl (fun t ht _ => ⟨E, hpx, ⟨rfl, by rw [ht]; exact hP, hI⟩, hS.F ht⟩) hS.2.2 hc hs
theorem m_thrown {px : String → Prop} {E : String} (hP : mP G.1 M H) (hI : mI A M) (hS : va_S A s.heap H locs) (hpx : px E) (t : State) (hz : H.size ≤ t.heap.size) (hk : ∀ q : Nat, q < H.size → t.heap[q]? = H[q]?) : xX px G A M E s t :=
  ⟨E, hpx, ⟨rfl, fun a e he => (hP a e he).kept (hk a (hP.lt he)), hI⟩, Nat.le_trans hS.1 hz, fun q h1 h2 => (hk q (Nat.lt_of_lt_of_le h1 hS.1)).trans (hS.2.1 q h1 h2)⟩

/-- the words of a throw that the tables alone decide -/
def thB (cls : String) : List Cond := [.castable cls cls, .declares ⟨"java/lang/RuntimeException", "<init>", "(Ljava/lang/String;)V"⟩, .declares ⟨"java/lang/Exception", "<init>", "(Ljava/lang/String;)V"⟩, .declares ⟨"java/lang/Throwable", "<init>", "(Ljava/lang/String;)V"⟩]
theorem m_hat {own cls : String} {ic : Nat} {names : List String} (hG : GK G A s) (h1 : ∀ w ∈ (vx_atS own ic cls names).filter goodWord, w.before args s = true) (hm : (cls, cls) ∈ gcast) (h2 : ∀ w ∈ (vx_atS own ic cls names).filter (fun w => !goodWord w), w ∈ thB cls) : ∀ w ∈ vx_atS own ic cls names, w.before args s = true := by
  have hd := hG.2.1.2.2.2.2.2.2.2.2.2.2.2
  exact vx_hat h1 h2 (vx_c (va_Nw.use rfl (hG.2.1.2.2.2.1 _ hm)) (vx_c (va_Nw.use rfl (hd _ (List.mem_of_getElem? (i := 0) rfl))) (vx_c (va_Nw.use rfl (hd _ (List.mem_of_getElem? (i := 1) rfl))) (vx_c (va_Nw.use rfl (hd _ (List.mem_of_getElem? (i := 2) rfl))) vx_n))))
theorem m_hatN (hG : GK G A s) (h1 : ∀ w ∈ vn_at.filter goodWord, w.before args s = true) (hm : (vnN, vnN) ∈ gcast) (h2 : ∀ w ∈ vn_at.filter (fun w => !goodWord w), w ∈ thB vnN) : ∀ w ∈ vn_at, w.before args s = true := by
  have hd := hG.2.1.2.2.2.2.2.2.2.2.2.2.2
  exact vx_hat h1 h2 (vx_c (va_Nw.use rfl (hG.2.1.2.2.2.1 _ hm)) (vx_c (va_Nw.use rfl (hd _ (List.mem_of_getElem? (i := 0) rfl))) (vx_c (va_Nw.use rfl (hd _ (List.mem_of_getElem? (i := 1) rfl))) (vx_c (va_Nw.use rfl (hd _ (List.mem_of_getElem? (i := 2) rfl))) vx_n))))
theorem mPreVo (hG : GK G A s) (hS : va_S A s.heap H locs) (hP : mP G.1 M H) (hI : mI A M) (hA : ∀ q : Nat, s.heap.size ≤ q → A q) {As : List Value} {b : Nat} {C : String} (hb : ∃ cell : Cell, H[b]? = some cell ∧ cell.vm.isStatics = false ∧ s.vm.findClass C = some cell.cls) : PreV s H C b (va_Pc (.ref b :: As) (mB G A M)) As :=
  ⟨fun a U g mk h => mB.blind a U g mk h, hb, fun U hU hW => ⟨rfl, mPre hG hS hP hI hA U hU hW⟩⟩
theorem m_callq {post : Option Nat → mw → Prop} (hr : va_Run p l e R s m args below meth c H locs cells slots mc ms (F0 m pc ls st0) rest (va_Qq post (mE G A) A a) A) (hS : va_S A s.heap H locs)
    (kk : ∀ (r : Option Nat) (M1 : mw) (H1 : Heap) (locs1 : List Loc), post r M1 → mP G.1 M1 H1 → mI A M1 → va_S A s.heap H1 locs1 → W p l e R s m args below meth c H1 locs1 (cells + mc) (slots + ms) Q (F0 m (pc + 3) ls (va_rf r :: rest))) : W p l e R s m args below meth c H locs cells slots Q (F0 m pc ls st0) :=
  va_callq hr hS (fun _ _ h => h) (fun _ h => h) (fun r u t H1 locs1 ht _ hp hB _ _ hS1 => kk r u H1 locs1 hp (by rw [← ht]; exact hB.1) hB.2 hS1)
theorem mx_callq {px : String → Prop} {post : Option Nat → mw → Prop} (hr : vx_Run p l e R s m args below meth c H locs cells slots mc ms (F0 m pc ls st0) rest (va_Qq post (mE G A) A a) (xX px G A M) A) (hS : va_S A s.heap H locs)
    (kx : ∀ (E : String) (ce : Cell) (q9 : Addr) (H1 : Heap) (locs1 : List Loc), px E → mP G.1 M H1 → mI A M → va_S A s.heap H1 locs1 → H1[q9]? = some ce → ce.vm = .none → s.vm.findClass E = some ce.cls → vx_W p l e R s m args below meth c H1 locs1 (cells + mc) (slots + ms) Q (F0 m pc ls rest) q9)
    (kk : ∀ (r : Option Nat) (M1 : mw) (H1 : Heap) (locs1 : List Loc), post r M1 → mP G.1 M1 H1 → mI A M1 → va_S A s.heap H1 locs1 → W p l e R s m args below meth c H1 locs1 (cells + mc) (slots + ms) Q (F0 m (pc + 3) ls (va_rf r :: rest))) : W p l e R s m args below meth c H locs cells slots Q (F0 m pc ls st0) :=
  vx_callq hr hS (fun _ _ h => h) (fun _ h => h) (fun _ _ h => h) (fun E ce q9 u t H1 locs1 ht _ hp hB _ _ hS1 h1 h2 h3 => kx E ce q9 H1 locs1 (by rw [hB.1]; exact hp) (by rw [← ht]; exact hB.2.1) hB.2.2 hS1 h1 h2 h3) (fun r u t H1 locs1 ht _ hp hB _ _ hS1 => kk r u H1 locs1 hp (by rw [← ht]; exact hB.1) hB.2 hS1)
end MCTX
abbrev m_max (x y : Int32) : Int32 := if x < y then y else x
abbrev m_min (x y : Int32) : Int32 := if y < x then y else x
abbrev m_abs (x : Int32) : Int32 := if 0 ≤ x then x else 0 - x
theorem l_tri (x y : Int64) : x < y ∨ x = y ∨ y < x := by
  rcases Int.lt_trichotomy x.toInt y.toInt with h | h | h
  · exact Or.inl (Int64.lt_iff_toInt_lt.mpr h)
  · exact Or.inr (Or.inl (Int64.toInt_inj.mp h))
  · exact Or.inr (Or.inr (Int64.lt_iff_toInt_lt.mpr h))
theorem l_irr (x : Int64) : ¬ x < x := fun h => by have := Int64.lt_iff_toInt_lt.mp h; omega
theorem lgc_1 {x y : Int64} (h : x < y) : lg_cmp x y = -1 := by
  have h0 := Int64.lt_iff_toInt_lt.mp h
  have h1 : ¬ y < x := fun q => by have := Int64.lt_iff_toInt_lt.mp q; omega
  have h2 : ¬ x = y := fun q => by subst q; omega
  simp [lg_cmp, h1, h2]
theorem lgc_2 {x y : Int64} (h : y < x) : lg_cmp x y = 1 := by simp [lg_cmp, h]
theorem lgc_0 (x : Int64) : lg_cmp x x = 0 := by
  have h1 : ¬ x < x := l_irr x
  simp [lg_cmp, h1]
section LCMP
variable {p : Program} {l : Launch} {e : Env} {R : Room} {s : State} {m : MethodId} {args : Array Value} {below : List Frame} {meth : Method} {c : Code} {H : Heap} {locs : List Loc} {cells slots : Nat} {Q : State → Prop}
variable {cc : ByteArray} {pc : Nat} {ls : Array Slot} {rest : List Value}
theorem m_lcmp_lt (hexec : p.tables.exec = Jvm.exec) (hb : c.code = cc) {x y : Int64} {off : Int} {tgt : Nat} (hdg : decode cc pc = .ok (.lcmp, 1)) (hdg2 : decode cc (pc + 1) = .ok (.ifCond .lt off, 3)) (ht : ((pc + 1 : Nat) : Int) + off = (tgt : Int))
    (kt : x < y → W p l e R s m args below meth c H locs cells slots Q (F0 m tgt ls rest)) (kf : ¬ x < y → W p l e R s m args below meth c H locs cells slots Q (F0 m (pc + 4) ls rest)) : W p l e R s m args below meth c H locs cells slots Q (F0 m pc ls (.long y :: .long x :: rest)) := by
  refine W.lcmp hexec hb hdg (lv_if_lt hexec hb hdg2 ht (fun h => ?_) (fun h => ?_))
  · refine kt ?_
    rcases l_tri x y with q | q | q
    · exact q
    · subst q; rw [lgc_0] at h; exact absurd h (by decide)
    · rw [lgc_2 q] at h; exact absurd h (by decide)
  · refine kf (fun q => h ?_)
    rw [lgc_1 q]; decide
theorem m_lcmp_gt (hexec : p.tables.exec = Jvm.exec) (hb : c.code = cc) {x y : Int64} {off : Int} {tgt : Nat} (hdg : decode cc pc = .ok (.lcmp, 1)) (hdg2 : decode cc (pc + 1) = .ok (.ifCond .gt off, 3)) (ht : ((pc + 1 : Nat) : Int) + off = (tgt : Int))
    (kt : y < x → W p l e R s m args below meth c H locs cells slots Q (F0 m tgt ls rest)) (kf : ¬ y < x → W p l e R s m args below meth c H locs cells slots Q (F0 m (pc + 4) ls rest)) : W p l e R s m args below meth c H locs cells slots Q (F0 m pc ls (.long y :: .long x :: rest)) := by
  refine W.lcmp hexec hb hdg (lv_if_gt hexec hb hdg2 ht (fun h => ?_) (fun h => ?_))
  · refine kt ?_
    rcases l_tri x y with q | q | q
    · rw [lgc_1 q] at h; exact absurd h (by decide)
    · subst q; rw [lgc_0] at h; exact absurd h (by decide)
    · exact q
  · refine kf (fun q => h ?_)
    rw [lgc_2 q]; decide
theorem m_lcmp_le (hexec : p.tables.exec = Jvm.exec) (hb : c.code = cc) {x y : Int64} {off : Int} {tgt : Nat} (hdg : decode cc pc = .ok (.lcmp, 1)) (hdg2 : decode cc (pc + 1) = .ok (.ifCond .le off, 3)) (ht : ((pc + 1 : Nat) : Int) + off = (tgt : Int))
    (kt : ¬ y < x → W p l e R s m args below meth c H locs cells slots Q (F0 m tgt ls rest)) (kf : y < x → W p l e R s m args below meth c H locs cells slots Q (F0 m (pc + 4) ls rest)) : W p l e R s m args below meth c H locs cells slots Q (F0 m pc ls (.long y :: .long x :: rest)) := by
  refine W.lcmp hexec hb hdg (lv_if_le hexec hb hdg2 ht (fun h => ?_) (fun h => ?_))
  · refine kt (fun q => ?_)
    rw [lgc_2 q] at h; exact absurd h (by decide)
  · refine kf ?_
    rcases l_tri x y with q | q | q
    · rw [lgc_1 q] at h; exact absurd (by decide) h
    · subst q; rw [lgc_0] at h; exact absurd (by decide) h
    · exact q
theorem m_lcmp_ge (hexec : p.tables.exec = Jvm.exec) (hb : c.code = cc) {x y : Int64} {off : Int} {tgt : Nat} (hdg : decode cc pc = .ok (.lcmp, 1)) (hdg2 : decode cc (pc + 1) = .ok (.ifCond .ge off, 3)) (ht : ((pc + 1 : Nat) : Int) + off = (tgt : Int))
    (kt : ¬ x < y → W p l e R s m args below meth c H locs cells slots Q (F0 m tgt ls rest)) (kf : x < y → W p l e R s m args below meth c H locs cells slots Q (F0 m (pc + 4) ls rest)) : W p l e R s m args below meth c H locs cells slots Q (F0 m pc ls (.long y :: .long x :: rest)) := by
  refine W.lcmp hexec hb hdg (lv_if_ge hexec hb hdg2 ht (fun h => ?_) (fun h => ?_))
  · refine kt (fun q => ?_)
    rw [lgc_1 q] at h; exact absurd h (by decide)
  · refine kf ?_
    rcases l_tri x y with q | q | q
    · exact q
    · subst q; rw [lgc_0] at h; exact absurd (by decide) h
    · rw [lgc_2 q] at h; exact absurd (by decide) h
theorem m_lcmp_eq (hexec : p.tables.exec = Jvm.exec) (hb : c.code = cc) {x y : Int64} {off : Int} {tgt : Nat} (hdg : decode cc pc = .ok (.lcmp, 1)) (hdg2 : decode cc (pc + 1) = .ok (.ifCond .eq off, 3)) (ht : ((pc + 1 : Nat) : Int) + off = (tgt : Int))
    (kt : x = y → W p l e R s m args below meth c H locs cells slots Q (F0 m tgt ls rest)) (kf : ¬ x = y → W p l e R s m args below meth c H locs cells slots Q (F0 m (pc + 4) ls rest)) : W p l e R s m args below meth c H locs cells slots Q (F0 m pc ls (.long y :: .long x :: rest)) := by
  refine W.lcmp hexec hb hdg (lv_if_eq hexec hb hdg2 ht (fun h => ?_) (fun h => ?_))
  · refine kt ?_
    rcases l_tri x y with q | q | q
    · rw [lgc_1 q] at h; exact absurd h (by decide)
    · exact q
    · rw [lgc_2 q] at h; exact absurd h (by decide)
  · refine kf (fun q => h ?_)
    rw [q, lgc_0]
theorem m_lcmp_ne (hexec : p.tables.exec = Jvm.exec) (hb : c.code = cc) {x y : Int64} {off : Int} {tgt : Nat} (hdg : decode cc pc = .ok (.lcmp, 1)) (hdg2 : decode cc (pc + 1) = .ok (.ifCond .ne off, 3)) (ht : ((pc + 1 : Nat) : Int) + off = (tgt : Int))
    (kt : ¬ x = y → W p l e R s m args below meth c H locs cells slots Q (F0 m tgt ls rest)) (kf : x = y → W p l e R s m args below meth c H locs cells slots Q (F0 m (pc + 4) ls rest)) : W p l e R s m args below meth c H locs cells slots Q (F0 m pc ls (.long y :: .long x :: rest)) := by
  refine W.lcmp hexec hb hdg (lv_if_ne hexec hb hdg2 ht (fun h => ?_) (fun h => ?_))
  · refine kt (fun q => h ?_)
    rw [q, lgc_0]
  · refine kf ?_
    rcases l_tri x y with q | q | q
    · rw [lgc_1 q] at h; exact absurd h (by decide)
    · exact q
    · rw [lgc_2 q] at h; exact absurd h (by decide)
end LCMP
end
section
/-! ===== plain facts and the pure pictures of the leaves ===== -/
theorem i_nlt {x y : Int32} (h : x ≤ y) : ¬ y < x := fun q => by
  have h1 := Int32.le_iff_toInt_le.mp h
  have h2 := Int32.lt_iff_toInt_lt.mp q
  omega
theorem i_le {x y : Int32} (h : ¬ y < x) : x ≤ y := by
  rw [Int32.le_iff_toInt_le]
  rw [Int32.lt_iff_toInt_lt] at h
  omega
theorem i_lt {x y : Int32} (h : ¬ y ≤ x) : x < y := by
  rw [Int32.lt_iff_toInt_lt]
  rw [Int32.le_iff_toInt_le] at h
  omega
theorem i_nle {x y : Int32} (h : x < y) : ¬ y ≤ x := fun q => by
  have h1 := Int32.le_iff_toInt_le.mp q
  have h2 := Int32.lt_iff_toInt_lt.mp h
  omega
theorem vin_of {x : Int32} {n : Nat} (h0 : ¬ x < 0) (hn : n < 2 ^ 31) (h1 : ¬ nI n ≤ x) : vp_in x n := by
  obtain ⟨j, hj, rfl⟩ := nI_of h0
  exact vp_in_nI (Nat.lt_of_not_le (fun q => h1 (nI_le q hj))) hn
/-- steps of a section that lie below a place -/
def stp (p s : Int32) : Int32 := m_max 0 (m_min 10 (p - s * 10))
def vsum (bf : Nat → Int32) (p : Int32) : Nat → Int32
  | 0 => 0
  | k + 1 => vsum bf p k + bf k * stp p (nI k)
def brO (bf : Nat → Int32) (p : Int32) : Int32 := if p < 0 then 0 else if 20 ≤ p then 0 else bf p.toNatClampNeg
def wid (bf : Nat → Int32) : Nat → Int32
  | 0 => 0
  | k + 1 => if brO bf (wid bf k) < bf k then nI k else wid bf k
theorem wid_1 (bf : Nat → Int32) : (0 : Int32) = wid bf 1 := by
  show (0 : Int32) = if brO bf 0 < bf 0 then nI 0 else 0
  split
  · exact nI_0.symm
  · rfl
def csum (bf : Nat → Int32) (lo up ps : Int32) : Nat → Int32
  | 0 => 0
  | k + 1 => csum bf lo up ps k + (stp up (nI k) - stp lo (nI k)) * m_min ps (bf k)
/-- the first place that holds a volume, or -1 -/
def fphR (bf : Nat → Int32) (v r : Int32) : Prop := (∃ k : Nat, k ≤ 200 ∧ r = nI k ∧ ¬ vsum bf (nI k) 20 < v ∧ ∀ j, j < k → vsum bf (nI j) 20 < v) ∨ (r = -1 ∧ ∀ j, j < 201 → vsum bf (nI j) 20 < v)
/-- the last place within a rest, or -1 -/
def lpwR (bf : Nat → Int32) (rest : Int64) (r : Int32) : Prop := (r = -1 ∧ (rest < 0 ∨ (vsum bf 200 20).toInt64 < rest)) ∨ (¬ rest < 0 ∧ ¬ (vsum bf 200 20).toInt64 < rest ∧ ∃ k : Nat, k ≤ 200 ∧ r = nI k ∧ (∀ j, 1 ≤ j → j ≤ k → ¬ rest < (vsum bf (nI j) 20).toInt64) ∧ (k < 200 → rest < (vsum bf (nI (k + 1)) 20).toInt64))
/-- the bores as they are drawn -/
def dbo (bore taper : Int32) (k : Nat) : Int32 := m_max 1 (m_min 60 (bore + nI k * taper))
def dboU (bore taper : Int32) (n : Nat) : Nat → Int32 := fun j => if j < n then dbo bore taper j else 0
theorem dboU_0 (bore taper : Int32) : (fun _ => 0 : Nat → Int32) = dboU bore taper 0 := by
  funext j
  simp [dboU]
theorem dboU_s (bore taper : Int32) (k : Nat) : upd (dboU bore taper k) k (dbo bore taper k) = dboU bore taper (k + 1) := by
  funext j
  by_cases h : j = k
  · subst h; simp [upd, dboU]
  · by_cases h2 : j < k
    · have : j < k + 1 := by omega
      simp [upd, dboU, h, h2, this]
    · have : ¬ j < k + 1 := by omega
      simp [upd, dboU, h, h2, this]
/-- a world out of what is known of it -/
theorem mw_ext1 {M M1 : mw} {a : Nat} {x : va_E} (h1 : M1 a = some x) (hf : ∀ z, z ≠ a → M1 z = M z) : M1 = mu M a x := by
  funext z
  by_cases q : z = a
  · subst q; rw [mu_s, h1]
  · rw [mu_n q]; exact hf z q
theorem mw_ext2 {M M1 : mw} {a b : Nat} {x y : va_E} (h1 : M1 a = some x) (h2 : M1 b = some y) (hf : ∀ z, z ≠ a → z ≠ b → M1 z = M z) : M1 = mu (mu M a x) b y := by
  funext z
  by_cases q : z = b
  · subst q; rw [mu_s, h2]
  · rw [mu_n q]
    by_cases q2 : z = a
    · subst q2; rw [mu_s, h1]
    · rw [mu_n q2]; exact hf z q2 q
/-- the readings when the oldest is lost: k places moved -/
def losU (f : Nat → Int32) (n : Nat) : Nat → Int32 := fun j => if j + 1 < n then f (j + 1) else f j
theorem losU_1 (f : Nat → Int32) : f = losU f 1 := by
  funext j
  simp [losU]
theorem losU_s (f : Nat → Int32) (k : Nat) (hk : 1 ≤ k) : upd (losU f k) (k - 1) (losU f k k) = losU f (k + 1) := by
  funext j
  have e : losU f k k = f k := by
    have : ¬ k + 1 < k := by omega
    simp [losU, this]
  rw [e]
  by_cases h : j = k - 1
  · subst h
    have h2 : k - 1 + 1 = k := by omega
    simp [upd, losU, h2]
  · by_cases h2 : j + 1 < k
    · have : j + 1 < k + 1 := by omega
      simp [upd, losU, h, h2, this]
    · have : ¬ j + 1 < k + 1 := by omega
      simp [upd, losU, h, h2, this]
def gmax (f : Nat → Int32) : Nat → Int32
  | 0 => 0
  | k + 1 => m_max (gmax f k) (m_abs (f k))
def isum (f : Nat → Int32) : Nat → Int32
  | 0 => 0
  | k + 1 => isum f k + f k
def lsum (f : Nat → Int32) (z : Int64) : Nat → Int64
  | 0 => z
  | k + 1 => 31 * lsum f z k + (f k).toInt64
theorem mw_ext3 {M M1 : mw} {a b c : Nat} {x y z : va_E} (h1 : M1 a = some x) (h2 : M1 b = some y) (h3 : M1 c = some z) (hf : ∀ w, w ≠ a → w ≠ b → w ≠ c → M1 w = M w) : M1 = mu (mu (mu M a x) b y) c z := by
  funext w
  by_cases q : w = c
  · subst q; rw [mu_s, h3]
  · rw [mu_n q]
    by_cases q2 : w = b
    · subst q2; rw [mu_s, h2]
    · rw [mu_n q2]
      by_cases q3 : w = a
      · subst q3; rw [mu_s, h1]
      · rw [mu_n q3]; exact hf w q3 q2 q
theorem mw_ext4 {M M1 : mw} {a b c d : Nat} {x y z u : va_E} (h1 : M1 a = some x) (h2 : M1 b = some y) (h3 : M1 c = some z) (h4 : M1 d = some u) (hf : ∀ w, w ≠ a → w ≠ b → w ≠ c → w ≠ d → M1 w = M w) : M1 = mu (mu (mu (mu M a x) b y) c z) d u := by
  funext w
  by_cases q : w = d
  · subst q; rw [mu_s, h4]
  · rw [mu_n q]
    by_cases q1 : w = c
    · subst q1; rw [mu_s, h3]
    · rw [mu_n q1]
      by_cases q2 : w = b
      · subst q2; rw [mu_s, h2]
      · rw [mu_n q2]
        by_cases q3 : w = a
        · subst q3; rw [mu_s, h1]
        · rw [mu_n q3]; exact hf w q3 q2 q1 q
theorem mw_ext5 {M M1 : mw} {a b c d e : Nat} {x y z u v : va_E} (h1 : M1 a = some x) (h2 : M1 b = some y) (h3 : M1 c = some z) (h4 : M1 d = some u) (h5 : M1 e = some v) (hf : ∀ w, w ≠ a → w ≠ b → w ≠ c → w ≠ d → w ≠ e → M1 w = M w) : M1 = mu (mu (mu (mu (mu M a x) b y) c z) d u) e v := by
  funext w
  by_cases q : w = e
  · subst q; rw [mu_s, h5]
  · rw [mu_n q]
    by_cases q0 : w = d
    · subst q0; rw [mu_s, h4]
    · rw [mu_n q0]
      by_cases q1 : w = c
      · subst q1; rw [mu_s, h3]
      · rw [mu_n q1]
        by_cases q2 : w = b
        · subst q2; rw [mu_s, h2]
        · rw [mu_n q2]
          by_cases q3 : w = a
          · subst q3; rw [mu_s, h1]
          · rw [mu_n q3]; exact hf w q3 q2 q1 q0 q
def far (kin : Int32) (bf : Nat → Int32) (ice p : Int32) : Int32 := if kin = 118 then vsum bf p 20 - vsum bf ice 20 else p - ice
def rdg (kin : Int32) (bf : Nat → Int32) (ice stm stt p : Int32) : Int32 := if far kin bf ice stm = 0 then 0 else stt * far kin bf ice p / far kin bf ice stm
def unl (ice stm : Int32) : Int32 := if ice = -1 then 0 else if stm = -1 then 0 else if ice = stm then 0 else 1
def apV (f : Nat → Int32) (n : Nat) (x : Int32) : Nat → Int32 := if n < 8 then upd f n x else upd (losU f 8) 7 x
def apN (n : Nat) : Nat := if n < 8 then n + 1 else 8
def cia (bu gl : Int32) : Int32 := bu * (if gl = 104 then 2 else 6) / 1000
def crp (bu gl cr : Int32) : Nat → Int32
  | 0 => cr
  | k + 1 => crp bu gl cr k + (cia bu gl - crp bu gl cr k + 19) / 20
def lgr (li : Int32) : Int32 := if li = 109 then 18 else 110
def ggr (gl : Int32) : Int32 := if gl = 104 then 1 else 3
def grw (x : Int64) (g d : Int32) : Int64 := x * g.toInt64 * d.toInt64 / 1000000
def rst (ins bu cr li gl T : Int32) : Int64 := ins.toInt64 + grw ins.toInt64 (lgr li) T - (bu.toInt64 + grw bu.toInt64 (ggr gl) T) + cr.toInt64
def lvlR (bf : Nat → Int32) (ins bu cr li gl T dip air r : Int32) : Prop := ∃ l1 : Int32, lpwR bf (rst ins bu cr li gl T) l1 ∧ ((l1 ≤ dip ∧ r = l1) ∨ (¬ l1 ≤ dip ∧ lpwR bf (rst ins bu cr li gl T - grw (vsum bf l1 20 - vsum bf dip 20).toInt64 (lgr li) (T - air)) r))
def crtO (sm ce day : Int32) : Int32 := if sm = 0 then (if day ≤ ce then 1 else 0) else 0
theorem mu_none {M : mw} {a b : Nat} {e : va_E} (h : mu M a e b = none) : M b = none ∧ b ≠ a := by
  by_cases q : b = a
  · subst q; rw [mu_s] at h; cases h
  · rw [mu_n q] at h; exact ⟨h, q⟩
theorem ne_none {M : mw} {a b : Nat} {e : va_E} (h : M b = some e) (hn : M a = none) : b ≠ a := fun q => by rw [q, hn] at h; cases h
def inb (cr bu gl cnt : Int32) : Int32 := if cr < 0 then 0 else if cia bu gl < cr then 0 else if 8 < cnt then 0 else 1
end
section
/-! ===== the state of the works, and how the class holds it ===== -/
abbrev rng (p lo hi : Int32) : Prop := ¬ p < lo ∧ p ≤ hi
abbrev eith (p a b : Int32) : Prop := p = a ∨ p = b
def sta (p : Int32) : Int32 := 1000 + 37 * (p - 760) / 100
def cts (s : Int32) : Int32 := if 60 ≤ s then 0 else (60 - s + 9) / 10
def clsE (p : Int32) : Int32 := if 2 < p then (if 5 < p then (if 10 < p then 88 else 67) else 66) else 65
def qf (n : Nat) (tb : Nat → Nat) : Nat → Option Nat := fun j => if j < n then some (tb j) else none
theorem qf_p {n : Nat} {tb : Nat → Nat} {j : Nat} (h : j < n) : qf n tb j = some (tb j) := if_pos h
theorem qf_n {n : Nat} {tb : Nat → Nat} {j : Nat} (h : n ≤ j) : qf n tb j = none := if_neg (by omega)
theorem nI_cl {p : Int32} (h : ¬ p < 0) : p = nI p.toNatClampNeg := by
  obtain ⟨j, hj, rfl⟩ := nI_of h
  rw [nI_clamp hj]
theorem no_neg {p : Int32} {n : Nat} (hn : n ≤ 8) (h : p < 0) : ∀ i, i < n → p ≠ nI i := fun i hi q => by
  rw [q] at h
  exact nI_pos (by omega) h
theorem no_big {p : Int32} {n N : Nat} (hn : n ≤ N) (hN : N < 100) (h : nI N ≤ p) : ∀ i, i < n → p ≠ nI i := fun i hi q => by
  rw [q] at h
  exact i_nlt h (nI_lt (by omega) (by omega))
theorem no_out {p : Int32} {n : Nat} (hn : n ≤ 8) (h : n ≤ p.toNatClampNeg) : ∀ i, i < n → p ≠ nI i := fun i hi q => by
  rw [q, nI_clamp (by omega)] at h
  omega
/-- a unique answer by what it must be -/
noncomputable def theI (P : Int32 → Prop) : Int32 := by classical exact if h : ∃ r, P r then Classical.choose h else 0
theorem theI_eq {P : Int32 → Prop} (hu : ∀ a b, P a → P b → a = b) {r : Int32} (h : P r) : theI P = r := by
  have hx : ∃ r, P r := ⟨r, h⟩
  have e : theI P = Classical.choose hx := by
    unfold theI
    simp only [hx, dif_pos]
  rw [e]
  exact hu _ _ (Classical.choose_spec hx) h
def fu {α : Type} (f : Nat → α) (k : Nat) (x : α) : Nat → α := fun j => if j = k then x else f j
theorem fu_s {α : Type} {f : Nat → α} {k : Nat} {x : α} : fu f k x k = x := if_pos rfl
theorem fu_n {α : Type} {f : Nat → α} {k j : Nat} {x : α} (h : j ≠ k) : fu f k x j = f j := if_neg h
/-- globals (0 air, 1 day, 2 stock, 3 spilt, 4 bought); tubes: number, bores, used; instruments: number, fields; readings: number, values, heats.
 fields: 0 tube, 1 bulb, 2 glass, 3 crept, 4 filled, 5 smashed, 6 liquid, 7 inside, 8 gap, 9 keeper, 10 greatest, 11 certificate, 12 ice, 13 steam, 14 steam's heat, 15 kind -/
abbrev St : Type := (Nat → Int32) × (Nat × (Nat → Nat → Int32) × (Nat → Int32)) × (Nat × (Nat → Nat → Int32)) × ((Nat → Nat) × (Nat → Nat → Int32) × (Nat → Nat → Int32))
abbrev gS (s : St) : Nat → Int32 := s.1
abbrev nT (s : St) : Nat := s.2.1.1
abbrev boS (s : St) : Nat → Nat → Int32 := s.2.1.2.1
abbrev usS (s : St) : Nat → Int32 := s.2.1.2.2
abbrev nN (s : St) : Nat := s.2.2.1.1
abbrev itS (s : St) : Nat → Nat → Int32 := s.2.2.1.2
abbrev rnS (s : St) : Nat → Nat := s.2.2.2.1
abbrev rvS (s : St) : Nat → Nat → Int32 := s.2.2.2.2.1
abbrev rhS (s : St) : Nat → Nat → Int32 := s.2.2.2.2.2
abbrev tbN (s : St) (i : Nat) : Nat := (itS s i 0).toNatClampNeg
abbrev reS (s : St) (i : Nat) : Nat → Int32 := fun j => rvS s i j - rhS s i j
abbrev sG (s : St) (k : Nat) (v : Int32) : St := (fu s.1 k v, s.2)
abbrev sIt (s : St) (i : Nat) (g : Nat → Int32) : St := (s.1, s.2.1, (s.2.2.1.1, fu s.2.2.1.2 i g), s.2.2.2)
abbrev adr : Type := Nat → Nat → Nat
def cI (s : St) (ad : adr) (i : Nat) : va_E := .inr (0, [.int (itS s i 0), .ref (ad 3 (tbN s i)), .int (itS s i 1), .int (itS s i 2), .ref (ad 6 i), .ref (ad 7 i), .int (itS s i 3), .int (itS s i 4), .int (itS s i 5), .int (itS s i 6), .int (itS s i 7), .int (itS s i 8), .int (itS s i 9), .int (itS s i 10), .int (itS s i 11)])
def cSc (s : St) (ad : adr) (i : Nat) : va_E := .inr (2, [.ref (ad 3 (tbN s i)), .int (itS s i 12), .int (itS s i 13), .int (itS s i 14), .int (itS s i 15)])
/-- the class's cells: by kind (0 the works, 1, 2 the arrays, 3 a tube, 4 its bores, 5 an instrument, 6 its scale, 7 its readings, 8 values, 9 errors) and number -/
def cel (G : mg) (s : St) (ad : adr) : Nat → Nat → va_E
  | 0, _ => .inr (4, [.ref (ad 1 0), .ref (ad 2 0), .int (nI (nT s)), .int (nI (nN s)), .int (gS s 0), .int (gS s 1), .int (gS s 2), .int (gS s 3), .int (gS s 4)])
  | 1, _ => .inl (G.2.1 3, 8, .inr (.inr (.inr (.inr (qf (nT s) (ad 3))))))
  | 2, _ => .inl (G.2.1 4, 6, .inr (.inr (.inr (.inr (qf (nN s) (ad 5))))))
  | 3, i => .inr (3, [.ref (ad 4 i), .int (usS s i)])
  | 4, i => .inl (G.2.1 0, 20, .inl (boS s i))
  | 5, i => cI s ad i
  | 6, i => cSc s ad i
  | 7, i => .inr (1, [.ref (ad 8 i), .ref (ad 9 i), .int (nI (rnS s i))])
  | 8, i => .inl (G.2.1 0, 8, .inl (rvS s i))
  | _, i => .inl (G.2.1 0, 8, .inl (reS s i))
def okS (s : St) (k i : Nat) : Prop := (k < 3 ∧ i = 0) ∨ ((k = 3 ∨ k = 4) ∧ i < nT s) ∨ (5 ≤ k ∧ k ≤ 9 ∧ i < nN s)
def CS (G : mg) (s : St) (ad : adr) (M : mw) : Prop := (∀ k i, okS s k i → M (ad k i) = some (cel G s ad k i)) ∧ ∀ k i k' i', okS s k i → okS s k' i' → ad k i = ad k' i' → k = k' ∧ i = i'
theorem ok0 (s : St) : okS s 0 0 := Or.inl ⟨by omega, rfl⟩
theorem ok1 (s : St) : okS s 1 0 := Or.inl ⟨by omega, rfl⟩
theorem ok2 (s : St) : okS s 2 0 := Or.inl ⟨by omega, rfl⟩
theorem ok3 {s : St} {i : Nat} (h : i < nT s) : okS s 3 i := Or.inr (Or.inl ⟨Or.inl rfl, h⟩)
theorem ok4 {s : St} {i : Nat} (h : i < nT s) : okS s 4 i := Or.inr (Or.inl ⟨Or.inr rfl, h⟩)
theorem ok5 {s : St} {i : Nat} (h : i < nN s) : okS s 5 i := Or.inr (Or.inr ⟨by omega, by omega, h⟩)
theorem ok6 {s : St} {i : Nat} (h : i < nN s) : okS s 6 i := Or.inr (Or.inr ⟨by omega, by omega, h⟩)
theorem ok7 {s : St} {i : Nat} (h : i < nN s) : okS s 7 i := Or.inr (Or.inr ⟨by omega, by omega, h⟩)
theorem ok8 {s : St} {i : Nat} (h : i < nN s) : okS s 8 i := Or.inr (Or.inr ⟨by omega, by omega, h⟩)
theorem ok9 {s : St} {i : Nat} (h : i < nN s) : okS s 9 i := Or.inr (Or.inr ⟨by omega, by omega, h⟩)
theorem CS.ne {G : mg} {s : St} {ad : adr} {M : mw} (h : CS G s ad M) {k i k' i' : Nat} (h1 : okS s k i) (h2 : okS s k' i') (hn : k ≠ k') : ad k i ≠ ad k' i' := fun q => hn (h.2 k i k' i' h1 h2 q).1
/-- one cell changes -/
theorem CS.put {G : mg} {s s1 : St} {ad : adr} {M : mw} (h : CS G s ad M) {k i : Nat} (hk : okS s k i) (hT : nT s1 = nT s) (hN : nN s1 = nN s) {e : va_E} (he : e = cel G s1 ad k i) (ho : ∀ k' i', okS s k' i' → ¬ (k' = k ∧ i' = i) → cel G s1 ad k' i' = cel G s ad k' i') : CS G s1 ad (mu M (ad k i) e) := by
  have hok : ∀ k' i', okS s1 k' i' → okS s k' i' := fun k' i' q => by unfold okS at q ⊢; rw [hT, hN] at q; exact q
  refine ⟨fun k' i' q => ?_, fun a b a' b' q1 q2 => h.2 a b a' b' (hok _ _ q1) (hok _ _ q2)⟩
  by_cases z : k' = k ∧ i' = i
  · obtain ⟨rfl, rfl⟩ := z
    rw [mu_s, he]
  · rw [mu_n (fun w => z (h.2 k' i' k i (hok _ _ q) hk w)), ho k' i' (hok _ _ q) z]
    exact h.1 k' i' (hok _ _ q)
/-- several cells change: what is known of the new world is enough -/
theorem CS.puts {G : mg} {s s1 : St} {ad : adr} {M M1 : mw} (h : CS G s ad M) (hT : nT s1 = nT s) (hN : nN s1 = nN s) (L : List (Nat × Nat)) (h1 : ∀ q ∈ L, M1 (ad q.1 q.2) = some (cel G s1 ad q.1 q.2)) (hf : ∀ x, (∀ q ∈ L, x ≠ ad q.1 q.2) → M1 x = M x) (hL : ∀ q ∈ L, okS s q.1 q.2) (ho : ∀ k' i', okS s k' i' → (k', i') ∉ L → cel G s1 ad k' i' = cel G s ad k' i') : CS G s1 ad M1 := by
  have hok : ∀ k' i', okS s1 k' i' → okS s k' i' := fun k' i' q => by unfold okS at q ⊢; rw [hT, hN] at q; exact q
  refine ⟨fun k' i' q => ?_, fun a b a' b' q1 q2 => h.2 a b a' b' (hok _ _ q1) (hok _ _ q2)⟩
  by_cases z : (k', i') ∈ L
  · exact h1 _ z
  · rw [hf _ (fun q2 hq2 w => z (by have := h.2 k' i' q2.1 q2.2 (hok _ _ q) (hL q2 hq2) w; rw [this.1, this.2]; exact hq2)), ho k' i' (hok _ _ q) z]
    exact h.1 k' i' (hok _ _ q)
/-- what every state keeps -/
def invI (s : St) (i : Nat) : Prop :=
  (∃ t, t < nT s ∧ itS s i 0 = nI t ∧ usS s t = 1) ∧ (1000 ≤ (itS s i 1).toInt ∧ (itS s i 1).toInt ≤ 50000) ∧ (itS s i 2 = 104 ∨ itS s i 2 = 115) ∧ (0 ≤ (itS s i 3).toInt ∧ (itS s i 3).toInt ≤ (cia (itS s i 1) (itS s i 2)).toInt) ∧
  (itS s i 4 = 0 ∨ itS s i 4 = 1) ∧ (itS s i 5 = 0 ∨ itS s i 5 = 1) ∧ (itS s i 6 = 32 ∨ itS s i 6 = 109 ∨ itS s i 6 = 115) ∧ (itS s i 4 = 1 ↔ itS s i 6 ≠ 32 ∧ itS s i 5 = 0) ∧ (itS s i 4 = 0 → itS s i 7 = 0) ∧
  (0 ≤ (itS s i 8).toInt ∧ (itS s i 8).toInt ≤ 20) ∧ (itS s i 9 = 0 ∨ itS s i 9 = 1) ∧ (-1 ≤ (itS s i 10).toInt ∧ (itS s i 10).toInt ≤ 200) ∧
  (-1 ≤ (itS s i 12).toInt ∧ (itS s i 12).toInt ≤ 200) ∧ (-1 ≤ (itS s i 13).toInt ∧ (itS s i 13).toInt ≤ 200) ∧ (0 ≤ (itS s i 14).toInt ∧ (itS s i 14).toInt ≤ 2000) ∧
  (itS s i 15 = 32 ∨ itS s i 15 = 108 ∨ itS s i 15 = 118) ∧ (itS s i 15 ≠ 32 → itS s i 12 ≠ -1 ∧ itS s i 13 ≠ -1 ∧ itS s i 12 ≠ itS s i 13) ∧ rnS s i ≤ 8
def hgS (s : St) (n : Nat) : Int32 := isum (fun k => if itS s k 6 = 109 then itS s k 7 else 0) n
def Inv (s : St) : Prop := (nT s ≤ 8 ∧ nN s ≤ 6) ∧ (∀ i, i < nT s → (∀ k, k < 20 → 1 ≤ (boS s i k).toInt ∧ (boS s i k).toInt ≤ 60) ∧ (usS s i = 0 ∨ usS s i = 1)) ∧ (∀ i, i < nN s → invI s i) ∧ (∀ i j, i < nN s → j < nN s → itS s i 0 = itS s j 0 → i = j) ∧ gS s 2 + gS s 3 + hgS s (nN s) = gS s 4
theorem Inv.tb {s : St} (h : Inv s) {i : Nat} (hi : i < nN s) : tbN s i < nT s := by
  obtain ⟨t, ht, h2, -⟩ := (h.2.2.1 i hi).1
  show (itS s i 0).toNatClampNeg < nT s
  rw [h2, nI_clamp (by have := h.1.1; omega)]
  exact ht
theorem Inv.rn {s : St} (h : Inv s) {i : Nat} (hi : i < nN s) : rnS s i ≤ 8 := (h.2.2.1 i hi).2.2.2.2.2.2.2.2.2.2.2.2.2.2.2.2.2
/-- a tube, an instrument of that number -/
abbrev ix (p : Int32) : Nat := p.toNatClampNeg
abbrev tkN (n : Nat) (p : Int32) : Prop := ¬ p < 0 ∧ ix p < n
abbrev tok (s : St) (p : Int32) : Prop := tkN (nT s) p
abbrev iok (s : St) (p : Int32) : Prop := tkN (nN s) p
theorem tk_neg {p : Int32} {n : Nat} (h : p < 0) : ¬ tkN n p := fun q => q.1 h
theorem tk_out {p : Int32} {n : Nat} (h : n ≤ ix p) : ¬ tkN n p := fun q => by have := q.2; omega
theorem tk_big {p : Int32} {n N : Nat} (hn : n ≤ N) (hN : N < 100) (h : nI N ≤ p) : ¬ tkN n p := fun q => by
  rw [nI_cl q.1] at h
  exact i_nlt h (nI_lt (Nat.lt_of_lt_of_le q.2 hn) (by omega))
/-- checks in their order: what is refused answers its number and changes nothing -/
noncomputable def chk (P : Prop) (k : Nat) (s : St) (r : Nat × Int32 × St) : Nat × Int32 × St := @ite _ P (Classical.propDecidable P) r (k, 0, s)
theorem chk_p {P : Prop} {k : Nat} {s : St} {r : Nat × Int32 × St} (h : P) : chk P k s r = r := by unfold chk; rw [if_pos h]
theorem chk_n {P : Prop} {k : Nat} {s : St} {r : Nat × Int32 × St} (h : ¬ P) : chk P k s r = (k, 0, s) := by unfold chk; rw [if_neg h]
def exc (L : List String) (o : Nat × Int32 × St) (E : String) : Prop := ∃ k, o.1 = k + 1 ∧ L[k]? = some E
theorem exc_of {L : List String} {o : Nat × Int32 × St} {E : String} {s : St} {k : Nat} (h : o = (k + 1, 0, s)) (hE : L[k]? = some E) : exc L o E := ⟨k, by rw [h], hE⟩
end
section
/-! ===== what each call answers, and the state behind it ===== -/
def addT (s : St) (b t : Int32) : St := (s.1, (nT s + 1, fu (boS s) (nT s) (dboU b t 20), fu (usS s) (nT s) 0), s.2.2)
noncomputable def m_draw (s : St) (p0 p1 : Int32) : Nat × Int32 × St := chk (rng p0 1 40) 1 s (chk (rng p1 (-2) 2) 1 s (chk (nT s < 8) 2 s (0, nI (nT s), addT s p0 p1)))
def setB (s : St) (i : Nat) (k v : Int32) : St := (s.1, (nT s, fu (boS s) i (upd (boS s i) (ix k) v), usS s), s.2.2)
noncomputable def m_section (s : St) (p0 p1 p2 : Int32) : Nat × Int32 × St := chk (tok s p0) 1 s (chk (rng p1 0 19) 2 s (chk (rng p2 1 60) 2 s (chk (usS s (ix p0) = 0) 3 s (0, brO (boS s (ix p0)) p1, setB s (ix p0) p1 p2))))
noncomputable def m_bore (s : St) (p0 p1 : Int32) : Nat × Int32 × St := chk (tok s p0) 1 s (chk (rng p1 0 19) 2 s (0, brO (boS s (ix p0)) p1, s))
noncomputable def m_volume (s : St) (p0 p1 : Int32) : Nat × Int32 × St := chk (tok s p0) 1 s (chk (rng p1 0 200) 2 s (0, vsum (boS s (ix p0)) p1 20, s))
noncomputable def thr (s : St) (i : Nat) (p v : Int32) : Int32 := theI (fphR (boS s i) (vsum (boS s i) p 20 + v))
noncomputable def m_thread (s : St) (p0 p1 p2 : Int32) : Nat × Int32 × St := chk (tok s p0) 1 s (chk (rng p1 0 200) 2 s (chk (rng p2 1 99999) 2 s (chk (¬ thr s (ix p0) p1 p2 = -1) 3 s (0, thr s (ix p0) p1 p2, s))))
noncomputable def m_widest (s : St) (p0 : Int32) : Nat × Int32 × St := chk (tok s p0) 1 s (0, wid (boS s (ix p0)) 20, s)
noncomputable def m_deliver (s : St) (p0 p1 p2 p3 : Int32) : Nat × Int32 × St := chk (tok s p0) 1 s (chk (rng p1 0 200) 2 s (chk (rng p2 0 200) 2 s (chk (rng p3 1 999) 2 s (chk (p2 < p1) 2 s (0, vsum (boS s (ix p0)) p1 20 - vsum (boS s (ix p0)) p2 20 - csum (boS s (ix p0)) p2 p1 (cts p3) 20, s)))))
def newI (t b g : Int32) : Nat → Int32
  | 0 => t
  | 1 => b
  | 2 => g
  | 6 => 32
  | 10 => -1
  | 11 => -1
  | 12 => -1
  | 13 => -1
  | 15 => 32
  | _ => 0
def addI (s : St) (t b g : Int32) : St := (s.1, (nT s, boS s, fu (usS s) (ix t) 1), (nN s + 1, fu (itS s) (nN s) (newI t b g)), (fu (rnS s) (nN s) 0, fu (rvS s) (nN s) (fun _ => 0), fu (rhS s) (nN s) (fun _ => 0)))
noncomputable def m_make (s : St) (p0 p1 p2 : Int32) : Nat × Int32 × St := chk (tok s p0) 1 s (chk (rng p1 1000 50000) 2 s (chk (eith p2 104 115) 2 s (chk (usS s (ix p0) = 0) 3 s (chk (nN s < 6) 4 s (0, nI (nN s), addI s p0 p1 p2)))))
noncomputable def m_buy (s : St) (p0 : Int32) : Nat × Int32 × St := chk (rng p0 1 99999) 1 s (0, gS s 2 + p0, sG (sG s 4 (gS s 4 + p0)) 2 (gS s 2 + p0))
def amt (s : St) (i : Nat) (p : Int32) : Int32 := itS s i 1 - itS s i 3 + vsum (boS s (tbN s i)) p 20
abbrev filG (s : St) (i : Nat) (l a : Int32) : Nat → Int32 := fu (fu (fu (itS s i) 4 1) 6 l) 7 a
abbrev filS (s : St) (i : Nat) (l a : Int32) : St := sIt (sG s 2 (if l = 109 then gS s 2 - a else gS s 2)) i (filG s i l a)
noncomputable def m_fill (s : St) (p0 p1 p2 : Int32) : Nat × Int32 × St := chk (iok s p0) 1 s (chk (eith p1 109 115) 2 s (chk (rng p2 0 200) 2 s (chk (itS s (ix p0) 4 = 0) 3 s (chk (itS s (ix p0) 5 = 0) 3 s (chk (p1 = 109 → amt s (ix p0) p2 ≤ gS s 2) 3 s (0, amt s (ix p0) p2, filS s (ix p0) p1 (amt s (ix p0) p2)))))))
def mer (s : St) (i : Nat) : Int32 := if itS s i 6 = 109 then itS s i 7 else 0
abbrev smaG (s : St) (i : Nat) : Nat → Int32 := fu (fu (fu (itS s i) 5 1) 4 0) 7 0
abbrev smaS (s : St) (i : Nat) : St := sIt (sG s 3 (gS s 3 + mer s i)) i (smaG s i)
noncomputable def m_smash (s : St) (p0 : Int32) : Nat × Int32 × St := chk (iok s p0) 1 s (chk (itS s (ix p0) 5 = 0) 2 s (0, itS s (ix p0) 7, smaS s (ix p0)))
noncomputable def m_inside (s : St) (p0 : Int32) : Nat × Int32 × St := chk (iok s p0) 1 s (0, itS s (ix p0) 7, s)
noncomputable def m_crept (s : St) (p0 : Int32) : Nat × Int32 × St := chk (iok s p0) 1 s (0, itS s (ix p0) 3, s)
abbrev creG (s : St) (d i : Nat) : Nat → Int32 := fu (itS s i) 3 (crp (itS s i 1) (itS s i 2) (itS s i 3) d)
abbrev creS (s : St) (d n : Nat) : St := (s.1, s.2.1, (nN s, fun i => if i < n then creG s d i else itS s i), s.2.2.2)
noncomputable def m_days (s : St) (p0 : Int32) : Nat × Int32 × St := chk (rng p0 1 999) 1 s (chk (gS s 1 + p0 ≤ 9999) 2 s (0, gS s 1 + p0, creS (sG s 1 (gS s 1 + p0)) (ix p0) (nN s)))
noncomputable def m_air (s : St) (p0 : Int32) : Nat × Int32 × St := chk (rng p0 (-300) 3000) 1 s (0, gS s 0, sG s 0 p0)
abbrev lvlP (s : St) (i : Nat) (T dip r : Int32) : Prop := lvlR (boS s (tbN s i)) (itS s i 7) (itS s i 1) (itS s i 3) (itS s i 6) (itS s i 2) T dip (gS s 0) r
noncomputable def lvl (s : St) (i : Nat) (T dip : Int32) : Int32 := theI (lvlP s i T dip)
noncomputable def m_level (s : St) (p0 p1 p2 : Int32) : Nat × Int32 × St := chk (iok s p0) 1 s (chk (rng p1 (-300) 3000) 2 s (chk (rng p2 0 200) 2 s (chk (¬ itS s (ix p0) 4 = 0) 3 s (chk (¬ lvl s (ix p0) p1 p2 = -1) 4 s (0, lvl s (ix p0) p1 p2, s)))))
noncomputable def m_ice (s : St) (p0 : Int32) : Nat × Int32 × St := chk (iok s p0) 1 s (chk (¬ itS s (ix p0) 4 = 0) 2 s (chk (¬ lvl s (ix p0) 0 200 = -1) 3 s (0, lvl s (ix p0) 0 200, sIt s (ix p0) (fu (fu (itS s (ix p0)) 12 (lvl s (ix p0) 0 200)) 15 32))))
noncomputable def m_steam (s : St) (p0 p1 : Int32) : Nat × Int32 × St := chk (iok s p0) 1 s (chk (rng p1 700 800) 2 s (chk (¬ itS s (ix p0) 4 = 0) 3 s (chk (¬ lvl s (ix p0) (sta p1) 200 = -1) 4 s (0, sta p1, sIt s (ix p0) (fu (fu (fu (itS s (ix p0)) 13 (lvl s (ix p0) (sta p1) 200)) 14 (sta p1)) 15 32)))))
noncomputable def m_boiling (s : St) (p0 : Int32) : Nat × Int32 × St := chk (rng p0 700 800) 1 s (0, sta p0, s)
noncomputable def m_divide (s : St) (p0 p1 : Int32) : Nat × Int32 × St := chk (iok s p0) 1 s (chk (eith p1 108 118) 2 s (chk (¬ itS s (ix p0) 4 = 0) 3 s (chk (¬ unl (itS s (ix p0) 12) (itS s (ix p0) 13) = 0) 3 s (0, itS s (ix p0) 13 - itS s (ix p0) 12, sIt s (ix p0) (fu (itS s (ix p0)) 15 p1)))))
def rdS (s : St) (i : Nat) (p : Int32) : Int32 := rdg (itS s i 15) (boS s (tbN s i)) (itS s i 12) (itS s i 13) (itS s i 14) p
noncomputable def m_readsAt (s : St) (p0 p1 : Int32) : Nat × Int32 × St := chk (iok s p0) 1 s (chk (rng p1 0 200) 2 s (chk (¬ itS s (ix p0) 15 = 32) 3 s (0, rdS s (ix p0) p1, s)))
def batR (s : St) (i : Nat) (T l : Int32) : Int32 := rdS s i (m_min 200 ((if itS s i 9 = 0 then l else m_max (itS s i 10) l) + (if T ≤ (-200) then 0 else itS s i 8)))
abbrev batG (s : St) (i : Nat) (T l : Int32) : Nat → Int32 := fu (fu (fu (fu (itS s i) 8 (if T ≤ (-200) then 0 else itS s i 8)) 10 (if itS s i 9 = 0 then itS s i 10 else m_max (itS s i 10) l)) 3 (if 2000 < T then itS s i 3 / 2 else itS s i 3)) 11 (if 2000 < T then (-1) else itS s i 11)
abbrev batS (s : St) (i : Nat) (T l : Int32) : St := (s.1, s.2.1, (nN s, fu (itS s) i (batG s i T l)), (fu (rnS s) i (apN (rnS s i)), fu (rvS s) i (apV (rvS s i) (rnS s i) (batR s i T l)), fu (rhS s) i (apV (rhS s i) (rnS s i) T)))
noncomputable def m_bath (s : St) (p0 p1 p2 : Int32) : Nat × Int32 × St := chk (iok s p0) 1 s (chk (rng p1 (-300) 3000) 2 s (chk (rng p2 0 200) 2 s (chk (¬ itS s (ix p0) 4 = 0) 3 s (chk (¬ itS s (ix p0) 15 = 32) 3 s (chk (¬ lvl s (ix p0) p1 p2 = -1) 4 s (0, batR s (ix p0) p1 (lvl s (ix p0) p1 p2), batS s (ix p0) p1 (lvl s (ix p0) p1 p2)))))))
noncomputable def m_error (s : St) (p0 : Int32) : Nat × Int32 × St := chk (iok s p0) 1 s (chk (¬ rnS s (ix p0) = 0) 2 s (0, reS s (ix p0) (rnS s (ix p0) - 1), s))
noncomputable def m_tests (s : St) (p0 : Int32) : Nat × Int32 × St := chk (iok s p0) 1 s (0, nI (rnS s (ix p0)), s)
abbrev begS (s : St) (i : Nat) : St := (s.1, s.2.1, s.2.2.1, (fu (rnS s) i 0, rvS s, rhS s))
noncomputable def m_begin (s : St) (p0 : Int32) : Nat × Int32 × St := chk (iok s p0) 1 s (0, nI (rnS s (ix p0)), begS s (ix p0))
noncomputable def m_worst (s : St) (p0 : Int32) : Nat × Int32 × St := chk (iok s p0) 1 s (chk (¬ rnS s (ix p0) = 0) 2 s (0, gmax (reS s (ix p0)) (rnS s (ix p0)), s))
noncomputable def m_grade (s : St) (p0 : Int32) : Nat × Int32 × St := chk (iok s p0) 1 s (chk (3 ≤ rnS s (ix p0)) 2 s (0, clsE (gmax (reS s (ix p0)) (rnS s (ix p0))), s))
def cerV (s : St) (i : Nat) : Int32 := gS s 1 + (if itS s i 2 = 104 then 360 else 120)
noncomputable def m_certify (s : St) (p0 : Int32) : Nat × Int32 × St := chk (iok s p0) 1 s (chk (3 ≤ rnS s (ix p0)) 2 s (chk (¬ clsE (gmax (reS s (ix p0)) (rnS s (ix p0))) = 88) 2 s (0, cerV s (ix p0), sIt s (ix p0) (fu (itS s (ix p0)) 11 (cerV s (ix p0))))))
noncomputable def m_isCertified (s : St) (p0 : Int32) : Nat × Int32 × St := chk (iok s p0) 1 s (0, crtO (itS s (ix p0) 5) (itS s (ix p0) 11) (gS s 1), s)
noncomputable def m_breakThread (s : St) (p0 p1 : Int32) : Nat × Int32 × St := chk (iok s p0) 1 s (chk (rng p1 1 20) 2 s (chk (¬ itS s (ix p0) 4 = 0) 3 s (0, itS s (ix p0) 8, sIt s (ix p0) (fu (itS s (ix p0)) 8 p1))))
noncomputable def m_isBroken (s : St) (p0 : Int32) : Nat × Int32 × St := chk (iok s p0) 1 s (0, (if itS s (ix p0) 8 ≤ 0 then 0 else 1), s)
noncomputable def m_keep (s : St) (p0 p1 : Int32) : Nat × Int32 × St := chk (iok s p0) 1 s (0, itS s (ix p0) 9, sIt s (ix p0) (fu (fu (itS s (ix p0)) 9 p1) 10 (-1)))
noncomputable def m_shake (s : St) (p0 : Int32) : Nat × Int32 × St := chk (iok s p0) 1 s (chk (¬ itS s (ix p0) 9 = 0) 2 s (chk (¬ itS s (ix p0) 10 = -1) 3 s (0, itS s (ix p0) 10, sIt s (ix p0) (fu (itS s (ix p0)) 10 (-1)))))
noncomputable def m_barometer (s : St) (p0 p1 p2 p3 : Int32) : Nat × Int32 × St := chk (rng p0 6000 8000) 1 s (chk (rng p1 (-20) 40) 1 s (chk (rng p2 9780 9832) 1 s (chk (rng p3 1 60) 1 s (0, (p0 - p0 * 18 * p1 / 100000) * p2 / 9807 + 60 / p3, s))))
/-! ===== the class's cells behind a change ===== -/
theorem CS.sg {G : mg} {s : St} {ad : adr} {M : mw} (h : CS G s ad M) (g : Nat → Int32) : CS G (g, s.2) ad (mu M (ad 0 0) (.inr (4, [.ref (ad 1 0), .ref (ad 2 0), .int (nI (nT s)), .int (nI (nN s)), .int (g 0), .int (g 1), .int (g 2), .int (g 3), .int (g 4)]))) := by
  refine h.put (s1 := (g, s.2)) (ok0 s) rfl rfl rfl (fun k' i' hk hn => ?_)
  match k', hk, hn with
  | 0, hk, hn =>
    rcases hk with ⟨-, rfl⟩ | ⟨q, -⟩ | ⟨q, -⟩
    · exact absurd ⟨rfl, rfl⟩ hn
    · omega
    · omega
  | 1, _, _ | 2, _, _ | 3, _, _ | 4, _, _ | 5, _, _ | 6, _, _ | 7, _, _ | 8, _, _ | (k + 9), _, _ => rfl
theorem fu_o {α : Type} {f : Nat → α} {k j : Nat} {x : α} (h : ¬ j = k) : fu f k x j = f j := if_neg h
theorem cI_s {s s1 : St} {ad : adr} {i : Nat} {g : Nat → Int32} (e : itS s1 i = g) (h0 : g 0 = itS s i 0) : cI s1 ad i = .inr (0, [.int (g 0), .ref (ad 3 (tbN s i)), .int (g 1), .int (g 2), .ref (ad 6 i), .ref (ad 7 i), .int (g 3), .int (g 4), .int (g 5), .int (g 6), .int (g 7), .int (g 8), .int (g 9), .int (g 10), .int (g 11)]) := by
  unfold cI tbN
  rw [e, h0]
theorem cSc_s {s s1 : St} {ad : adr} {i : Nat} {g : Nat → Int32} (e : itS s1 i = g) (h0 : g 0 = itS s i 0) : cSc s1 ad i = .inr (2, [.ref (ad 3 (tbN s i)), .int (g 12), .int (g 13), .int (g 14), .int (g 15)]) := by
  unfold cSc tbN
  rw [e, h0]
theorem cI_o {s s1 : St} {ad : adr} {i : Nat} (e : ∀ f, f < 12 → itS s1 i f = itS s i f) : cI s1 ad i = cI s ad i := by
  unfold cI tbN
  rw [e 0 (by omega), e 1 (by omega), e 2 (by omega), e 3 (by omega), e 4 (by omega), e 5 (by omega), e 6 (by omega), e 7 (by omega), e 8 (by omega), e 9 (by omega), e 10 (by omega), e 11 (by omega)]
theorem cSc_o {s s1 : St} {ad : adr} {i : Nat} (h0 : itS s1 i 0 = itS s i 0) (e : itS s1 i 12 = itS s i 12 ∧ itS s1 i 13 = itS s i 13 ∧ itS s1 i 14 = itS s i 14 ∧ itS s1 i 15 = itS s i 15) : cSc s1 ad i = cSc s ad i := by
  unfold cSc tbN
  rw [h0, e.1, e.2.1, e.2.2.1, e.2.2.2]
theorem cel_0 (G : mg) (s : St) (ad : adr) (i : Nat) : cel G s ad 0 i = .inr (4, [.ref (ad 1 0), .ref (ad 2 0), .int (nI (nT s)), .int (nI (nN s)), .int (gS s 0), .int (gS s 1), .int (gS s 2), .int (gS s 3), .int (gS s 4)]) := rfl
theorem cel_1 (G : mg) (s : St) (ad : adr) (i : Nat) : cel G s ad 1 i = .inl (G.2.1 3, 8, .inr (.inr (.inr (.inr (qf (nT s) (ad 3)))))) := rfl
theorem cel_2 (G : mg) (s : St) (ad : adr) (i : Nat) : cel G s ad 2 i = .inl (G.2.1 4, 6, .inr (.inr (.inr (.inr (qf (nN s) (ad 5)))))) := rfl
theorem cel_3 (G : mg) (s : St) (ad : adr) (i : Nat) : cel G s ad 3 i = .inr (3, [.ref (ad 4 i), .int (usS s i)]) := rfl
theorem cel_4 (G : mg) (s : St) (ad : adr) (i : Nat) : cel G s ad 4 i = .inl (G.2.1 0, 20, .inl (boS s i)) := rfl
theorem cel_7 (G : mg) (s : St) (ad : adr) (i : Nat) : cel G s ad 7 i = .inr (1, [.ref (ad 8 i), .ref (ad 9 i), .int (nI (rnS s i))]) := rfl
theorem cel_8 (G : mg) (s : St) (ad : adr) (i : Nat) : cel G s ad 8 i = .inl (G.2.1 0, 8, .inl (rvS s i)) := rfl
theorem cel_9 (G : mg) (s : St) (ad : adr) (k i : Nat) : cel G s ad (k + 9) i = .inl (G.2.1 0, 8, .inl (reS s i)) := rfl
theorem cel_5 (G : mg) (s : St) (ad : adr) (i : Nat) : cel G s ad 5 i = cI s ad i := rfl
theorem cel_6 (G : mg) (s : St) (ad : adr) (i : Nat) : cel G s ad 6 i = cSc s ad i := rfl
theorem sit5_o (G : mg) (s : St) (ad : adr) (i : Nat) (g : Nat → Int32) (h0 : g 0 = itS s i 0) (hg : g 12 = itS s i 12 ∧ g 13 = itS s i 13 ∧ g 14 = itS s i 14 ∧ g 15 = itS s i 15) (k' i' : Nat) (hn : ¬ (k' = 5 ∧ i' = i)) : cel G (sIt s i g) ad k' i' = cel G s ad k' i' := by
  match k', hn with
  | 0, _ => rw [cel_0, cel_0]
  | 1, _ => rw [cel_1, cel_1]
  | 2, _ => rw [cel_2, cel_2]
  | 3, _ => rw [cel_3, cel_3]
  | 4, _ => rw [cel_4, cel_4]
  | 7, _ => rw [cel_7, cel_7]
  | 8, _ => rw [cel_8, cel_8]
  | (k + 9), _ => rw [cel_9, cel_9]
  | 5, hn =>
    have e2 : itS (sIt s i g) i' = itS s i' := fu_o (fun q : i' = i => hn ⟨rfl, q⟩)
    rw [cel_5, cel_5]; exact cI_o (fun f _ => congrFun e2 f)
  | 6, _ =>
    rw [cel_6, cel_6]
    by_cases q : i' = i
    · subst q
      have e : itS (sIt s i' g) i' = g := fu_s
      exact cSc_o ((congrFun e 0).trans h0) ⟨(congrFun e 12).trans hg.1, (congrFun e 13).trans hg.2.1, (congrFun e 14).trans hg.2.2.1, (congrFun e 15).trans hg.2.2.2⟩
    · have e2 : itS (sIt s i g) i' = itS s i' := fu_o q
      exact cSc_o (congrFun e2 0) ⟨congrFun e2 12, congrFun e2 13, congrFun e2 14, congrFun e2 15⟩
theorem sit6_o (G : mg) (s : St) (ad : adr) (i : Nat) (g : Nat → Int32) (hg : ∀ f, f < 12 → g f = itS s i f) (k' i' : Nat) (hn : ¬ (k' = 6 ∧ i' = i)) : cel G (sIt s i g) ad k' i' = cel G s ad k' i' := by
  match k', hn with
  | 0, _ => rw [cel_0, cel_0]
  | 1, _ => rw [cel_1, cel_1]
  | 2, _ => rw [cel_2, cel_2]
  | 3, _ => rw [cel_3, cel_3]
  | 4, _ => rw [cel_4, cel_4]
  | 7, _ => rw [cel_7, cel_7]
  | 8, _ => rw [cel_8, cel_8]
  | (k + 9), _ => rw [cel_9, cel_9]
  | 6, hn =>
    have e2 : itS (sIt s i g) i' = itS s i' := fu_o (fun q : i' = i => hn ⟨rfl, q⟩)
    rw [cel_6, cel_6]; exact cSc_o (congrFun e2 0) ⟨congrFun e2 12, congrFun e2 13, congrFun e2 14, congrFun e2 15⟩
  | 5, _ =>
    rw [cel_5, cel_5]
    by_cases q : i' = i
    · subst q
      have e : itS (sIt s i' g) i' = g := fu_s
      exact cI_o (fun f hf => (congrFun e f).trans (hg f hf))
    · have e2 : itS (sIt s i g) i' = itS s i' := fu_o q
      exact cI_o (fun f _ => congrFun e2 f)
theorem sit5_e (G : mg) (s : St) (ad : adr) (i : Nat) (g : Nat → Int32) (h0 : g 0 = itS s i 0) : .inr (0, [.int (g 0), .ref (ad 3 (tbN s i)), .int (g 1), .int (g 2), .ref (ad 6 i), .ref (ad 7 i), .int (g 3), .int (g 4), .int (g 5), .int (g 6), .int (g 7), .int (g 8), .int (g 9), .int (g 10), .int (g 11)]) = cel G (sIt s i g) ad 5 i := by
  have e : itS (sIt s i g) i = g := fu_s
  show _ = cI (sIt s i g) ad i
  exact (cI_s e h0).symm
theorem sit6_e (G : mg) (s : St) (ad : adr) (i : Nat) (g : Nat → Int32) (h0 : g 0 = itS s i 0) : .inr (2, [.ref (ad 3 (tbN s i)), .int (g 12), .int (g 13), .int (g 14), .int (g 15)]) = cel G (sIt s i g) ad 6 i := by
  have e : itS (sIt s i g) i = g := fu_s
  show _ = cSc (sIt s i g) ad i
  exact (cSc_s e h0).symm
theorem CS.sit5 {G : mg} {s : St} {ad : adr} {M : mw} (h : CS G s ad M) {i : Nat} (hi : i < nN s) (g : Nat → Int32) (h0 : g 0 = itS s i 0) (hg : g 12 = itS s i 12 ∧ g 13 = itS s i 13 ∧ g 14 = itS s i 14 ∧ g 15 = itS s i 15) : CS G (sIt s i g) ad (mu M (ad 5 i) (.inr (0, [.int (g 0), .ref (ad 3 (tbN s i)), .int (g 1), .int (g 2), .ref (ad 6 i), .ref (ad 7 i), .int (g 3), .int (g 4), .int (g 5), .int (g 6), .int (g 7), .int (g 8), .int (g 9), .int (g 10), .int (g 11)]))) :=
  h.put (s1 := sIt s i g) (ok5 hi) rfl rfl (sit5_e G s ad i g h0) (fun k' i' _ hn => sit5_o G s ad i g h0 hg k' i' hn)
theorem CS.sit6 {G : mg} {s : St} {ad : adr} {M : mw} (h : CS G s ad M) {i : Nat} (hi : i < nN s) (g : Nat → Int32) (hg : ∀ f, f < 12 → g f = itS s i f) : CS G (sIt s i g) ad (mu M (ad 6 i) (.inr (2, [.ref (ad 3 (tbN s i)), .int (g 12), .int (g 13), .int (g 14), .int (g 15)]))) :=
  h.put (s1 := sIt s i g) (ok6 hi) rfl rfl (sit6_e G s ad i g (hg 0 (by omega))) (fun k' i' _ hn => sit6_o G s ad i g hg k' i' hn)
theorem CS.sbo {G : mg} {s : St} {ad : adr} {M : mw} (h : CS G s ad M) {i : Nat} (hi : i < nT s) (k v : Int32) : CS G (setB s i k v) ad (mu M (ad 4 i) (.inl (G.2.1 0, 20, .inl (upd (boS s i) (ix k) v)))) := by
  refine h.put (s1 := setB s i k v) (ok4 hi) rfl rfl (by simp only [cel, boS, setB, fu_s]) (fun k' i' hk hn => ?_)
  match k', hk, hn with
  | 0, _, _ | 1, _, _ | 2, _, _ | 3, _, _ | 5, _, _ | 6, _, _ | 7, _, _ | 8, _, _ | (k + 9), _, _ => rfl
  | 4, _, hn => simp only [cel, boS, setB, fu_o (fun q : i' = i => hn ⟨rfl, q⟩)]
theorem CS.srn {G : mg} {s : St} {ad : adr} {M : mw} (h : CS G s ad M) {i : Nat} (hi : i < nN s) : CS G (begS s i) ad (mu M (ad 7 i) (.inr (1, [.ref (ad 8 i), .ref (ad 9 i), .int 0]))) := by
  refine h.put (s1 := begS s i) (ok7 hi) rfl rfl (by simp only [cel, rnS, fu_s]; rfl) (fun k' i' hk hn => ?_)
  match k', hk, hn with
  | 0, _, _ | 1, _, _ | 2, _, _ | 3, _, _ | 4, _, _ | 5, _, _ | 6, _, _ | 8, _, _ | (k + 9), _, _ => rfl
  | 7, _, hn => simp only [cel, rnS, fu_o (fun q : i' = i => hn ⟨rfl, q⟩)]
theorem apV_sub (f g : Nat → Int32) (n : Nat) (x y : Int32) : (fun j => apV f n x j - apV g n y j) = apV (fun j => f j - g j) n (x - y) := by
  funext j
  unfold apV
  by_cases h : n < 8
  · simp only [if_pos h, upd]
    by_cases q : j = n
    · simp [q]
    · simp [q]
  · simp only [if_neg h, upd]
    by_cases q : j = 7
    · simp [q]
    · simp only [q, if_false, losU]
      by_cases z : j + 1 < 8
      · simp [z]
      · simp [z]
theorem reS_bat (s : St) (i : Nat) (T l : Int32) : reS (batS s i T l) i = apV (reS s i) (rnS s i) (batR s i T l - T) := by
  rw [← apV_sub]
  funext j
  show (fu (rvS s) i (apV (rvS s i) (rnS s i) (batR s i T l))) i j - (fu (rhS s) i (apV (rhS s i) (rnS s i) T)) i j = _
  rw [fu_s, fu_s]
theorem reS_bat_o (s : St) {i i' : Nat} (T l : Int32) (h : ¬ i' = i) : reS (batS s i T l) i' = reS s i' := by
  funext j
  show (fu (rvS s) i (apV (rvS s i) (rnS s i) (batR s i T l))) i' j - (fu (rhS s) i (apV (rhS s i) (rnS s i) T)) i' j = _
  rw [fu_o h, fu_o h]
set_option maxRecDepth 100000 in
/-- behind a bath -/
theorem CS.sba {G : mg} {s : St} {ad : adr} {M : mw} (h : CS G s ad M) {i : Nat} (hi : i < nN s) (T l : Int32) (g : Nat → Int32) (hgg : g = batG s i T l) : CS G (batS s i T l) ad (mu (mu (mu (mu M (ad 5 i) (.inr (0, [.int (g 0), .ref (ad 3 (tbN s i)), .int (g 1), .int (g 2), .ref (ad 6 i), .ref (ad 7 i), .int (g 3), .int (g 4), .int (g 5), .int (g 6), .int (g 7), .int (g 8), .int (g 9), .int (g 10), .int (g 11)]))) (ad 8 i) (.inl (G.2.1 0, 8, .inl (apV (rvS s i) (rnS s i) (batR s i T l))))) (ad 9 i) (.inl (G.2.1 0, 8, .inl (apV (reS s i) (rnS s i) (batR s i T l - T))))) (ad 7 i) (.inr (1, [.ref (ad 8 i), .ref (ad 9 i), .int (nI (apN (rnS s i)))]))) := by
  subst hgg
  have n57 := h.ne (ok5 hi) (ok7 hi) (by omega)
  have n58 := h.ne (ok5 hi) (ok8 hi) (by omega)
  have n59 := h.ne (ok5 hi) (ok9 hi) (by omega)
  have n87 := h.ne (ok8 hi) (ok7 hi) (by omega)
  have n89 := h.ne (ok8 hi) (ok9 hi) (by omega)
  have n97 := h.ne (ok9 hi) (ok7 hi) (by omega)
  refine h.puts rfl rfl [(5, i), (8, i), (9, i), (7, i)] (fun q hq => ?_) (fun x hx => ?_) (fun q hq => ?_) (fun k' i' hk hn => ?_)
  · simp only [List.mem_cons, List.not_mem_nil, or_false] at hq
    rcases hq with rfl | rfl | rfl | rfl
    · show mu _ _ _ (ad 5 i) = _
      rw [mu_n n57, mu_n n59, mu_n n58, mu_s]
      exact congrArg some (cI_s (s := s) (s1 := batS s i T l) (g := batG s i T l) fu_s rfl).symm
    · show mu _ _ _ (ad 8 i) = _
      rw [mu_n n87, mu_n n89, mu_s]
      simp only [cel, rvS, fu_s]
    · show mu _ _ _ (ad 9 i) = _
      rw [mu_n n97, mu_s]
      exact congrArg (fun f => some (Sum.inl (G.2.1 0, 8, Sum.inl f))) (reS_bat s i T l).symm
    · show mu _ _ _ (ad 7 i) = _
      rw [mu_s]
      simp only [cel, rnS, fu_s]
  · rw [mu_n (hx (7, i) (by simp)), mu_n (hx (9, i) (by simp)), mu_n (hx (8, i) (by simp)), mu_n (hx (5, i) (by simp))]
  · simp only [List.mem_cons, List.not_mem_nil, or_false] at hq
    rcases hq with rfl | rfl | rfl | rfl
    · exact ok5 hi
    · exact ok8 hi
    · exact ok9 hi
    · exact ok7 hi
  · simp only [List.mem_cons, List.not_mem_nil, or_false, not_or, Prod.mk.injEq, not_and] at hn
    match k', hk, hn with
    | 0, _, _ | 1, _, _ | 2, _, _ | 3, _, _ | 4, _, _ => rfl
    | 5, _, hn =>
      have e2 : itS (batS s i T l) i' = itS s i' := fu_o (hn.1 rfl)
      exact cI_o (fun f _ => congrFun e2 f)
    | 6, _, _ =>
      by_cases q : i' = i
      · subst q
        have e2 : itS (batS s i' T l) i' = batG s i' T l := fu_s
        exact cSc_o (congrFun e2 0) ⟨congrFun e2 12, congrFun e2 13, congrFun e2 14, congrFun e2 15⟩
      · have e2 : itS (batS s i T l) i' = itS s i' := fu_o q
        exact cSc_o (congrFun e2 0) ⟨congrFun e2 12, congrFun e2 13, congrFun e2 14, congrFun e2 15⟩
    | 7, _, hn => simp only [cel, rnS, fu_o (hn.2.2.2 rfl)]
    | 8, _, hn => simp only [cel, rvS, fu_o (hn.2.1 rfl)]
    | 9, _, hn => exact congrArg (fun f => Sum.inl (G.2.1 0, 8, Sum.inl f)) (reS_bat_o s T l (hn.2.2.1 rfl))
    | (k + 10), hk, _ =>
      rcases hk with ⟨q, -⟩ | ⟨q, -⟩ | ⟨-, q, -⟩ <;> omega
end
section
/-! ===== answers that are unique ===== -/
theorem fphR_u {bf : Nat → Int32} {v a b : Int32} (ha : fphR bf v a) (hb : fphR bf v b) : a = b := by
  rcases ha with ⟨k, hk, rfl, h1, h2⟩ | ⟨rfl, h1⟩ <;> rcases hb with ⟨k', hk', rfl, h3, h4⟩ | ⟨rfl, h3⟩
  · rcases Nat.lt_trichotomy k k' with q | q | q
    · exact absurd (h4 k q) h1
    · rw [q]
    · exact absurd (h2 k' q) h3
  · exact absurd (h3 k (by omega)) h1
  · exact absurd (h1 k' (by omega)) h3
  · rfl
theorem lpwR_u {bf : Nat → Int32} {rest : Int64} {a b : Int32} (ha : lpwR bf rest a) (hb : lpwR bf rest b) : a = b := by
  rcases ha with ⟨rfl, h1⟩ | ⟨h1, h2, k, hk, rfl, h3, h4⟩ <;> rcases hb with ⟨rfl, g1⟩ | ⟨g1, g2, k', hk', rfl, g3, g4⟩
  · rfl
  · rcases h1 with q | q
    · exact absurd q g1
    · exact absurd q g2
  · rcases g1 with q | q
    · exact absurd q h1
    · exact absurd q h2
  · rcases Nat.lt_trichotomy k k' with q | q | q
    · exact absurd (h4 (by omega)) (g3 (k + 1) (by omega) (by omega))
    · rw [q]
    · exact absurd (g4 (by omega)) (h3 (k' + 1) (by omega) (by omega))
theorem lvlR_u {bf : Nat → Int32} {ins bu cr li gl T dip air a b : Int32} (ha : lvlR bf ins bu cr li gl T dip air a) (hb : lvlR bf ins bu cr li gl T dip air b) : a = b := by
  obtain ⟨l1, h1, h2⟩ := ha
  obtain ⟨l2, g1, g2⟩ := hb
  have e := lpwR_u h1 g1
  subst e
  rcases h2 with ⟨h3, rfl⟩ | ⟨h3, h4⟩ <;> rcases g2 with ⟨g3, rfl⟩ | ⟨g3, g4⟩
  · rfl
  · exact absurd h3 g3
  · exact absurd g3 h3
  · exact lpwR_u h4 g4
theorem thr_eq {s : St} {i : Nat} {p v r : Int32} (h : fphR (boS s i) (vsum (boS s i) p 20 + v) r) : thr s i p v = r := theI_eq (fun _ _ => fphR_u) h
theorem lvl_eq {s : St} {i : Nat} {T dip r : Int32} (h : lvlP s i T dip r) : lvl s i T dip = r := theI_eq (fun _ _ => lvlR_u) h
theorem nb01 {x : Int32} (h : x = 0 ∨ x = 1) : narrow .boolean (.int x) = .int x ∧ fits .boolean (.int x) = true := by rcases h with rfl | rfl <;> exact ⟨rfl, rfl⟩
theorem crtO01 (a b c : Int32) : crtO a b c = 0 ∨ crtO a b c = 1 := by
  unfold crtO
  split
  · split
    · exact Or.inr rfl
    · exact Or.inl rfl
  · exact Or.inl rfl
theorem clsEc (a : Int32) : narrow .char (.int (clsE a)) = .int (clsE a) := by
  unfold clsE
  split
  · split
    · split <;> rfl
    · rfl
  · rfl
theorem nch {p a b : Int32} (h : eith p a b) (ha : narrow .char (.int a) = .int a ∧ fits .char (.int a) = true) (hb : narrow .char (.int b) = .int b ∧ fits .char (.int b) = true) : narrow .char (.int p) = .int p ∧ fits .char (.int p) = true := by rcases h with rfl | rfl <;> assumption
theorem fu_id {α : Type} {f : Nat → α} {k : Nat} : fu f k (f k) = f := by
  funext j
  by_cases h : j = k
  · subst h; exact fu_s
  · exact fu_n h
theorem filS_p {s : St} {i : Nat} {l a : Int32} (h : l = 109) : filS s i l a = sIt (sG s 2 (gS s 2 - a)) i (filG s i l a) := by
  show sIt (sG s 2 (if l = 109 then gS s 2 - a else gS s 2)) i (filG s i l a) = _
  rw [if_pos h]
theorem filS_n {s : St} {i : Nat} {l a : Int32} (h : ¬ l = 109) : filS s i l a = sIt s i (filG s i l a) := by
  show sIt (sG s 2 (if l = 109 then gS s 2 - a else gS s 2)) i (filG s i l a) = _
  rw [if_neg h]
  show sIt (fu s.1 2 (s.1 2), s.2) i (filG s i l a) = _
  rw [fu_id]
theorem Inv.ke {s : St} (h : Inv s) {i : Nat} (hi : i < nN s) : itS s i 9 = 0 ∨ itS s i 9 = 1 := (h.2.2.1 i hi).2.2.2.2.2.2.2.2.2.2.1
end
section
/-! ===== sums over what there is ===== -/
theorem mn_p {k n : Nat} (h : k < n) : min (k + 1) n = min k n + 1 := by omega
theorem mn_n {k n : Nat} (h : n ≤ k) : min (k + 1) n = min k n := by omega
theorem mn_k {k n : Nat} (h : k < n) : min k n = k := by omega
theorem is_p (f : Nat → Int32) {k n : Nat} (h : k < n) : isum f (min (k + 1) n) = isum f (min k n) + f k := by
  rw [mn_p h]
  show isum f (min k n) + f (min k n) = _
  rw [mn_k h]
theorem is_n (f : Nat → Int32) {k n : Nat} (h : n ≤ k) : isum f (min (k + 1) n) = isum f (min k n) := by rw [mn_n h]
def tsum (s : St) : Nat → Int64
  | 0 => 7
  | k + 1 => 31 * tsum s k + (vsum (boS s k) 200 20).toInt64
theorem ts_p (s : St) {k n : Nat} (h : k < n) : tsum s (min (k + 1) n) = 31 * tsum s (min k n) + (vsum (boS s k) 200 20).toInt64 := by
  rw [mn_p h]
  show 31 * tsum s (min k n) + (vsum (boS s (min k n)) 200 20).toInt64 = _
  rw [mn_k h]
theorem ts_n (s : St) {k n : Nat} (h : n ≤ k) : tsum s (min (k + 1) n) = tsum s (min k n) := by rw [mn_n h]
def csI (s : St) (z : Int64) : Nat → Int64
  | 0 => z
  | k + 1 => lsum (rvS s k) (31 * (31 * csI s z k + (itS s k 7).toInt64) + (itS s k 3).toInt64) (rnS s k)
theorem ci_p (s : St) (z : Int64) {k n : Nat} (h : k < n) : csI s z (min (k + 1) n) = lsum (rvS s k) (31 * (31 * csI s z (min k n) + (itS s k 7).toInt64) + (itS s k 3).toInt64) (rnS s k) := by
  rw [mn_p h]
  show lsum (rvS s (min k n)) (31 * (31 * csI s z (min k n) + (itS s (min k n) 7).toInt64) + (itS s (min k n) 3).toInt64) (rnS s (min k n)) = _
  rw [mn_k h]
theorem ci_n (s : St) (z : Int64) {k n : Nat} (h : n ≤ k) : csI s z (min (k + 1) n) = csI s z (min k n) := by rw [mn_n h]
/-- the checksum -/
def chS (s : St) : Int64 := 31 * (31 * csI s (tsum s (nT s)) (nN s) + (gS s 2).toInt64) + (gS s 1).toInt64
/-- the certificates that hold -/
def hoS (s : St) : Int32 := isum (fun i => crtO (itS s i 5) (itS s i 11) (gS s 1)) (nN s)
theorem Inv.bnd {s : St} (h : Inv s) {i : Nat} (hi : i < nN s) : inb (itS s i 3) (itS s i 1) (itS s i 2) (nI (rnS s i)) = 1 := by
  obtain ⟨-, -, -, ⟨h1, h2⟩, -⟩ := h.2.2.1 i hi
  have h3 := h.rn hi
  unfold inb
  rw [if_neg (fun q => by have := Int32.lt_iff_toInt_lt.mp q; have e : (0 : Int32).toInt = 0 := rfl; omega), if_neg (fun q => by have := Int32.lt_iff_toInt_lt.mp q; omega), if_neg (show ¬ (8 : Int32) < nI (rnS s i) from i_nlt (nI_le (b := 8) h3 (by omega)))]
theorem one_0 (s : St) (p : Int32) : ∀ n, (∀ i, i < n → itS s i 0 ≠ p) → isum (fun i => if itS s i 0 = p then 1 else 0) n = 0 := by
  intro n
  induction n with
  | zero => intro _; rfl
  | succ n ih =>
    intro h
    show isum _ n + (if itS s n 0 = p then 1 else 0) = 0
    rw [ih (fun i hi => h i (by omega)), if_neg (h n (by omega))]
    rfl
theorem one_1 (s : St) (p : Int32) : ∀ n, (∀ i j, i < n → j < n → itS s i 0 = p → itS s j 0 = p → i = j) → ¬ 1 < isum (fun i => if itS s i 0 = p then 1 else 0) n := by
  intro n
  induction n with
  | zero => intro _; show ¬ (1 : Int32) < 0; decide
  | succ n ih =>
    intro h
    show ¬ 1 < isum _ n + (if itS s n 0 = p then 1 else 0)
    by_cases q : itS s n 0 = p
    · rw [one_0 s p n (fun i hi z => by have := h i n (by omega) (by omega) z q; omega), if_pos q]
      decide
    · rw [if_neg q, Int32.add_zero]
      exact ih (fun i j hi hj => h i j (by omega) (by omega))
theorem Inv.one {s : St} (h : Inv s) (k : Nat) (hk : k < nN s) : isum (fun i => if itS s i 0 = itS s k 0 then 1 else 0) (nN s) ≤ 1 :=
  i_le (one_1 s _ _ (fun i j hi hj h1 h2 => h.2.2.2.1 i j hi hj (h1.trans h2.symm)))
/-- days go by: one instrument after another -/
theorem CS.cre {G : mg} {s : St} {ad : adr} {M : mw} {d k : Nat} (h : CS G (creS s d k) ad M) (hk : k < nN s) (g : Nat → Int32) (hg : g = creG s d k) : CS G (creS s d (k + 1)) ad (mu M (ad 5 k) (.inr (0, [.int (g 0), .ref (ad 3 (tbN s k)), .int (g 1), .int (g 2), .ref (ad 6 k), .ref (ad 7 k), .int (g 3), .int (g 4), .int (g 5), .int (g 6), .int (g 7), .int (g 8), .int (g 9), .int (g 10), .int (g 11)]))) := by
  subst hg
  have e : itS (creS s d (k + 1)) k = creG s d k := by
    show (if k < k + 1 then creG s d k else itS s k) = _
    rw [if_pos (by omega)]
  have eo : ∀ i', ¬ i' = k → itS (creS s d (k + 1)) i' = itS (creS s d k) i' := fun i' q => by
    show (if i' < k + 1 then creG s d i' else itS s i') = (if i' < k then creG s d i' else itS s i')
    by_cases z : i' < k
    · rw [if_pos (by omega), if_pos z]
    · rw [if_neg (by omega), if_neg z]
  have ek : itS (creS s d k) k = itS s k := by
    show (if k < k then creG s d k else itS s k) = _
    rw [if_neg (by omega)]
  refine h.put (s1 := creS s d (k + 1)) (ok5 (s := creS s d k) hk) rfl rfl (cI_s e rfl).symm (fun k' i' _ hn => ?_)
  match k', hn with
  | 0, _ => rw [cel_0, cel_0]
  | 1, _ => rw [cel_1, cel_1]
  | 2, _ => rw [cel_2, cel_2]
  | 3, _ => rw [cel_3, cel_3]
  | 4, _ => rw [cel_4, cel_4]
  | 7, _ => rw [cel_7, cel_7]
  | 8, _ => rw [cel_8, cel_8]
  | (k + 9), _ => rw [cel_9, cel_9]
  | 5, hn =>
    rw [cel_5, cel_5]
    exact cI_o (fun f _ => congrFun (eo i' (fun q => hn ⟨rfl, q⟩)) f)
  | 6, _ =>
    rw [cel_6, cel_6]
    by_cases q : i' = k
    · subst q
      exact cSc_o ((congrFun e 0).trans (congrFun ek 0).symm) ⟨(congrFun e 12).trans (congrFun ek 12).symm, (congrFun e 13).trans (congrFun ek 13).symm, (congrFun e 14).trans (congrFun ek 14).symm, (congrFun e 15).trans (congrFun ek 15).symm⟩
    · exact cSc_o (congrFun (eo i' q) 0) ⟨congrFun (eo i' q) 12, congrFun (eo i' q) 13, congrFun (eo i' q) 14, congrFun (eo i' q) 15⟩
theorem cre_at {G : mg} {s : St} {ad : adr} {M : mw} {d k : Nat} (h : CS G (creS s d k) ad M) (hk : k < nN s) : M (ad 5 k) = some (cI s ad k) := by
  have ek : itS (creS s d k) k = itS s k := by
    show (if k < k then creG s d k else itS s k) = _
    rw [if_neg (by omega)]
  rw [h.1 5 k (ok5 (s := creS s d k) hk), cel_5]
  exact congrArg some (cI_o (fun f _ => congrFun ek f))
theorem cre_0 {G : mg} {s : St} {ad : adr} {M : mw} {d : Nat} (h : CS G s ad M) : CS G (creS s d (min 0 (nN s))) ad M := by
  have e : creS s d (min 0 (nN s)) = s := by
    show (s.1, s.2.1, (nN s, fun i => if i < min 0 (nN s) then creG s d i else itS s i), s.2.2.2) = s
    have : (fun i => if i < min 0 (nN s) then creG s d i else itS s i) = itS s := by
      funext i
      rw [if_neg (by omega)]
    rw [this]
  rw [e]
  exact h
end
section
/-! ===== something new in the works ===== -/
theorem CS.ext {G : mg} {s s1 : St} {ad ad1 : adr} {M M1 : mw} (h : CS G s ad M) (L : List (Nat × Nat)) (h1 : ∀ q ∈ L, M1 (ad1 q.1 q.2) = some (cel G s1 ad1 q.1 q.2)) (hf : ∀ x, (∀ q ∈ L, x ≠ ad1 q.1 q.2) → M1 x = M x) (hL : ∀ q ∈ L, okS s q.1 q.2 ∨ M (ad1 q.1 q.2) = none) (hok : ∀ k i, okS s1 k i → okS s k i ∨ (k, i) ∈ L) (had : ∀ k i, okS s k i → ad1 k i = ad k i) (ho : ∀ k i, okS s k i → (k, i) ∉ L → cel G s1 ad1 k i = cel G s ad k i) (hinj : ∀ q ∈ L, ∀ q' ∈ L, ¬ okS s q.1 q.2 → ¬ okS s q'.1 q'.2 → ad1 q.1 q.2 = ad1 q'.1 q'.2 → q = q') : CS G s1 ad1 M1 := by
  classical
  have hM : ∀ k i, okS s k i → M (ad k i) ≠ none := fun k i q z => by rw [h.1 k i q] at z; cases z
  have key : ∀ k i k' i', okS s1 k i → okS s1 k' i' → ad1 k i = ad1 k' i' → k = k' ∧ i = i' := by
    intro k i k' i' q1 q2 e
    by_cases o1 : okS s k i
    · by_cases o2 : okS s k' i'
      · exact h.2 _ _ _ _ o1 o2 (by rw [← had _ _ o1, ← had _ _ o2]; exact e)
      · have m2 := (hok _ _ q2).resolve_left o2
        have n2 := (hL _ m2).resolve_left o2
        exact absurd (by rw [← had _ _ o1, e]; exact n2) (hM _ _ o1)
    · have m1 := (hok _ _ q1).resolve_left o1
      have n1 := (hL _ m1).resolve_left o1
      by_cases o2 : okS s k' i'
      · exact absurd (by rw [← had _ _ o2, ← e]; exact n1) (hM _ _ o2)
      · have m2 := (hok _ _ q2).resolve_left o2
        have e9 := hinj _ m1 _ m2 o1 o2 e
        exact ⟨congrArg Prod.fst e9, congrArg Prod.snd e9⟩
  refine ⟨fun k i q => ?_, key⟩
  by_cases z : (k, i) ∈ L
  · exact h1 _ z
  · have o := (hok _ _ q).resolve_right z
    have hn : ∀ q2 ∈ L, ad1 k i ≠ ad1 q2.1 q2.2 := fun q2 hq2 w => by
      rcases hL q2 hq2 with o2 | n2
      · have e := h.2 k i q2.1 q2.2 o o2 (by rw [← had _ _ o, ← had _ _ o2]; exact w)
        exact z (by rw [show (k, i) = q2 from Prod.ext e.1 e.2]; exact hq2)
      · exact hM k i o (by rw [← had _ _ o, w]; exact n2)
    rw [hf _ hn, ho _ _ o z, had _ _ o]
    exact h.1 k i o
theorem qf_up {n q : Nat} {f f1 : Nat → Nat} (hq : f1 n = q) (ho : ∀ j, j < n → f1 j = f j) : va_up (qf n f) n (some q) = qf (n + 1) f1 := by
  funext j
  unfold va_up
  by_cases z : j = n
  · subst z
    rw [if_pos rfl, qf_p (Nat.lt_succ_self _), hq]
  · rw [if_neg z]
    by_cases y : j < n
    · rw [qf_p y, qf_p (by omega), ho j y]
    · rw [qf_n (by omega), qf_n (by omega)]
theorem qf_c {n : Nat} {f f1 : Nat → Nat} (ho : ∀ j, j < n → f1 j = f j) : qf n f1 = qf n f := by
  funext j
  by_cases y : j < n
  · rw [qf_p y, qf_p y, ho j y]
  · rw [qf_n (by omega), qf_n (by omega)]
theorem ok_1 {s : St} {k i : Nat} (h : okS s k i) (hk : k < 3) : i = 0 := by
  unfold okS at h
  omega
theorem ok_3 {s : St} {k i : Nat} (h : okS s k i) (hk : k = 3 ∨ k = 4) : i < nT s := by
  unfold okS at h
  omega
theorem ok_5 {s : St} {k i : Nat} (h : okS s k i) (hk : 5 ≤ k) : k ≤ 9 ∧ i < nN s := by
  unfold okS at h
  omega
theorem nok {s : St} {k i : Nat} (hk : k = 3 ∨ k = 4) (h : nT s ≤ i) : ¬ okS s k i := fun q => by
  have := ok_3 q hk
  omega
theorem nok5 {s : St} {k i : Nat} (hk : 5 ≤ k) (h : nN s ≤ i) : ¬ okS s k i := fun q => by
  have := (ok_5 q hk).2
  omega
/-- a tube more -/
def adT (ad : adr) (n q b : Nat) : adr := fun k i => if i = n then (if k = 3 then q else if k = 4 then b else ad k i) else ad k i
theorem adT_o {ad : adr} {n q b k i : Nat} (h : (k ≠ 3 ∧ k ≠ 4) ∨ i ≠ n) : adT ad n q b k i = ad k i := by
  unfold adT
  by_cases e : i = n
  · rw [if_pos e, if_neg (by omega), if_neg (by omega)]
  · rw [if_neg e]
theorem adT_3 {ad : adr} {n q b : Nat} : adT ad n q b 3 n = q := by
  unfold adT
  rw [if_pos rfl, if_pos rfl]
theorem adT_4 {ad : adr} {n q b : Nat} : adT ad n q b 4 n = b := by
  unfold adT
  rw [if_pos rfl, if_neg (by decide), if_pos rfl]
theorem cs_addT {G : mg} {s : St} {ad : adr} {M M1 : mw} (h : CS G s ad M) (hV : Inv s) {q b : Nat} {p0 p1 : Int32} (hq : M q = none) (hb : M b = none) (hqb : q ≠ b)
    (h0 : M1 (ad 0 0) = some (.inr (4, [.ref (ad 1 0), .ref (ad 2 0), .int (nI (nT s + 1)), .int (nI (nN s)), .int (gS s 0), .int (gS s 1), .int (gS s 2), .int (gS s 3), .int (gS s 4)])))
    (h1 : M1 (ad 1 0) = some (.inl (G.2.1 3, 8, .inr (.inr (.inr (.inr (va_up (qf (nT s) (ad 3)) (nT s) (some q))))))))
    (h3 : M1 q = some (.inr (3, [.ref b, .int 0]))) (h4 : M1 b = some (.inl (G.2.1 0, 20, .inl (dboU p0 p1 20))))
    (hf : ∀ x, x ≠ ad 0 0 → x ≠ ad 1 0 → x ≠ q → x ≠ b → M1 x = M x) : CS G (addT s p0 p1) (adT ad (nT s) q b) M1 := by
  have eo : ∀ k i, okS s k i → adT ad (nT s) q b k i = ad k i := fun k i o => adT_o (by
    by_cases hk : k = 3 ∨ k = 4
    · have := ok_3 o hk
      omega
    · omega)
  refine CS.ext h [(0, 0), (1, 0), (3, nT s), (4, nT s)] ?_ ?_ ?_ ?_ eo ?_ ?_
  · intro x hx
    simp only [List.mem_cons, List.not_mem_nil, or_false] at hx
    rcases hx with rfl | rfl | rfl | rfl
    · show M1 (adT ad (nT s) q b 0 0) = some (cel G _ _ 0 0)
      rw [cel_0, eo 0 0 (ok0 s), eo 1 0 (ok1 s), eo 2 0 (ok2 s)]
      exact h0
    · show M1 (adT ad (nT s) q b 1 0) = some (cel G _ _ 1 0)
      rw [cel_1, eo 1 0 (ok1 s), h1]
      exact congrArg (fun z => some (Sum.inl (G.2.1 3, 8, Sum.inr (Sum.inr (Sum.inr (Sum.inr z)))))) (qf_up adT_3 (fun j hj => adT_o (Or.inr (by omega))))
    · show M1 (adT ad (nT s) q b 3 (nT s)) = some (cel G _ _ 3 (nT s))
      rw [cel_3, adT_3, adT_4, h3]
      exact congrArg (fun z => some (Sum.inr (3, [Value.ref b, Value.int z]))) fu_s.symm
    · show M1 (adT ad (nT s) q b 4 (nT s)) = some (cel G _ _ 4 (nT s))
      rw [cel_4, adT_4, h4]
      exact congrArg (fun z => some (Sum.inl (G.2.1 0, 20, Sum.inl z))) fu_s.symm
  · intro x hx
    refine hf x ?_ ?_ ?_ ?_
    · have := hx (0, 0) (List.mem_cons_self ..)
      rw [eo 0 0 (ok0 s)] at this
      exact this
    · have := hx (1, 0) (List.mem_cons_of_mem _ (List.mem_cons_self ..))
      rw [eo 1 0 (ok1 s)] at this
      exact this
    · have := hx (3, nT s) (List.mem_cons_of_mem _ (List.mem_cons_of_mem _ (List.mem_cons_self ..)))
      rw [adT_3] at this
      exact this
    · have := hx (4, nT s) (List.mem_cons_of_mem _ (List.mem_cons_of_mem _ (List.mem_cons_of_mem _ (List.mem_cons_self ..))))
      rw [adT_4] at this
      exact this
  · intro x hx
    simp only [List.mem_cons, List.not_mem_nil, or_false] at hx
    rcases hx with rfl | rfl | rfl | rfl
    · exact Or.inl (ok0 s)
    · exact Or.inl (ok1 s)
    · right
      rw [adT_3]
      exact hq
    · right
      rw [adT_4]
      exact hb
  · intro k i o
    simp only [List.mem_cons, List.not_mem_nil, or_false, Prod.mk.injEq]
    have e1 : nT (addT s p0 p1) = nT s + 1 := rfl
    have e2 : nN (addT s p0 p1) = nN s := rfl
    unfold okS at o ⊢
    rw [e1, e2] at o
    omega
  · intro k i o z
    simp only [List.mem_cons, List.not_mem_nil, or_false, Prod.mk.injEq] at z
    match k, o, z with
    | 0, o, z => exact absurd (ok_1 o (by omega)) (by omega)
    | 1, o, z => exact absurd (ok_1 o (by omega)) (by omega)
    | 2, o, z =>
      rw [cel_2, cel_2]
      exact congrArg (fun z => Sum.inl (G.2.1 4, 6, Sum.inr (Sum.inr (Sum.inr (Sum.inr z))))) (qf_c (fun j _ => adT_o (by omega)))
    | 3, o, z =>
      have hi := ok_3 o (by omega)
      rw [cel_3, cel_3, eo 4 i (ok4 hi)]
      exact congrArg (fun z => Sum.inr (3, [Value.ref (ad 4 i), Value.int z])) (fu_n (by omega))
    | 4, o, z =>
      have hi := ok_3 o (by omega)
      rw [cel_4, cel_4]
      exact congrArg (fun z => Sum.inl (G.2.1 0, 20, Sum.inl z)) (fu_n (by omega))
    | 5, o, z =>
      have hi := (ok_5 o (by omega)).2
      have ht := hV.tb hi
      rw [cel_5, cel_5]
      unfold cI
      rw [show tbN (addT s p0 p1) i = tbN s i from rfl, eo 3 _ (ok3 ht), eo 6 i (ok6 hi), eo 7 i (ok7 hi)]
      rfl
    | 6, o, z =>
      have hi := (ok_5 o (by omega)).2
      have ht := hV.tb hi
      rw [cel_6, cel_6]
      unfold cSc
      rw [show tbN (addT s p0 p1) i = tbN s i from rfl, eo 3 _ (ok3 ht)]
      rfl
    | 7, o, z =>
      have hi := (ok_5 o (by omega)).2
      rw [cel_7, cel_7, eo 8 i (ok8 hi), eo 9 i (ok9 hi)]
      rfl
    | 8, o, z =>
      rw [cel_8, cel_8]
      rfl
    | (k + 9), o, z => rw [cel_9, cel_9]; rfl
  · intro x hx y hy nx ny e
    simp only [List.mem_cons, List.not_mem_nil, or_false] at hx hy
    rcases hx with rfl | rfl | rfl | rfl
    · exact absurd (ok0 s) nx
    · exact absurd (ok1 s) nx
    all_goals
      rcases hy with rfl | rfl | rfl | rfl
      · exact absurd (ok0 s) ny
      · exact absurd (ok1 s) ny
    · rfl
    · exact absurd (by rw [← adT_3 (ad := ad) (n := nT s) (q := q) (b := b), e, adT_4]) hqb
    · exact absurd (by rw [← adT_3 (ad := ad) (n := nT s) (q := q) (b := b), ← e, adT_4]) hqb
    · rfl

/-- an instrument more -/
def adI (ad : adr) (n : Nat) (f : Nat → Nat) : adr := fun k i => if 5 ≤ k ∧ i = n then f k else ad k i
theorem adI_o {ad : adr} {n k i : Nat} {f : Nat → Nat} (h : k < 5 ∨ i ≠ n) : adI ad n f k i = ad k i := by
  unfold adI
  rw [if_neg (by omega)]
theorem adI_s {ad : adr} {n k : Nat} {f : Nat → Nat} (h : 5 ≤ k) : adI ad n f k n = f k := by
  unfold adI
  rw [if_pos ⟨h, rfl⟩]
def n5 (a b c d e : Nat) : Nat → Nat := fun k => if k = 5 then a else if k = 6 then b else if k = 7 then c else if k = 8 then d else e
theorem okI_new {s s1 : St} {t k i : Nat} (e1 : nT s1 = nT s) (e2 : nN s1 = nN s + 1) (o : okS s1 k i) : okS s k i ∨ (k = 0 ∧ i = 0 ∨ k = 2 ∧ i = 0 ∨ k = 3 ∧ i = t ∨ k = 5 ∧ i = nN s ∨ k = 6 ∧ i = nN s ∨ k = 7 ∧ i = nN s ∨ k = 8 ∧ i = nN s ∨ k = 9 ∧ i = nN s) := by
  unfold okS at o ⊢
  rw [e1, e2] at o
  by_cases z : i = nN s
  · omega
  · left
    omega
theorem cs_addI {G : mg} {s : St} {ad : adr} {M M1 : mw} (h : CS G s ad M) (hV : Inv s) {p0 p1 p2 : Int32} (ht : ix p0 < nT s) {a b c d e : Nat} (ha : M a = none) (hb : M b = none) (hc : M c = none) (hd : M d = none) (he : M e = none)
    (hab : a ≠ b) (hac : a ≠ c) (had : a ≠ d) (hae : a ≠ e) (hbc : b ≠ c) (hbd : b ≠ d) (hbe : b ≠ e) (hcd : c ≠ d) (hce : c ≠ e) (hde : d ≠ e)
    (h0 : M1 (ad 0 0) = some (.inr (4, [.ref (ad 1 0), .ref (ad 2 0), .int (nI (nT s)), .int (nI (nN s + 1)), .int (gS s 0), .int (gS s 1), .int (gS s 2), .int (gS s 3), .int (gS s 4)])))
    (h2 : M1 (ad 2 0) = some (.inl (G.2.1 4, 6, .inr (.inr (.inr (.inr (va_up (qf (nN s) (ad 5)) (nN s) (some a))))))))
    (h3 : M1 (ad 3 (ix p0)) = some (.inr (3, [.ref (ad 4 (ix p0)), .int 1])))
    (h5 : M1 a = some (.inr (0, [.int p0, .ref (ad 3 (ix p0)), .int p1, .int p2, .ref b, .ref c, .int 0, .int 0, .int 0, .int 32, .int 0, .int 0, .int 0, .int (-1), .int (-1)])))
    (h6 : M1 b = some (.inr (2, [.ref (ad 3 (ix p0)), .int (-1), .int (-1), .int 0, .int 32])))
    (h7 : M1 c = some (.inr (1, [.ref d, .ref e, .int 0]))) (h8 : M1 d = some (.inl (G.2.1 0, 8, .inl (fun _ => 0)))) (h9 : M1 e = some (.inl (G.2.1 0, 8, .inl (fun _ => 0))))
    (hf : ∀ x, x ≠ ad 0 0 → x ≠ ad 2 0 → x ≠ ad 3 (ix p0) → x ≠ a → x ≠ b → x ≠ c → x ≠ d → x ≠ e → M1 x = M x) : CS G (addI s p0 p1 p2) (adI ad (nN s) (n5 a b c d e)) M1 := by
  have eo : ∀ k i, okS s k i → adI ad (nN s) (n5 a b c d e) k i = ad k i := fun k i o => adI_o (by
    by_cases hk : 5 ≤ k
    · have := (ok_5 o hk).2
      omega
    · omega)
  have e5 : adI ad (nN s) (n5 a b c d e) 5 (nN s) = a := adI_s (by omega)
  have e6 : adI ad (nN s) (n5 a b c d e) 6 (nN s) = b := adI_s (by omega)
  have e7 : adI ad (nN s) (n5 a b c d e) 7 (nN s) = c := adI_s (by omega)
  have e8 : adI ad (nN s) (n5 a b c d e) 8 (nN s) = d := adI_s (by omega)
  have e9 : adI ad (nN s) (n5 a b c d e) 9 (nN s) = e := adI_s (by omega)
  have eI : itS (addI s p0 p1 p2) (nN s) = newI p0 p1 p2 := fu_s
  have eIo : ∀ i, i < nN s → itS (addI s p0 p1 p2) i = itS s i := fun i hi => fu_n (by omega)
  have eN : rnS (addI s p0 p1 p2) (nN s) = 0 := fu_s
  have eT : tbN (addI s p0 p1 p2) (nN s) = ix p0 := by
    show (itS (addI s p0 p1 p2) (nN s) 0).toNatClampNeg = _
    rw [eI]
    rfl
  have eTo : ∀ i, i < nN s → tbN (addI s p0 p1 p2) i = tbN s i := fun i hi => by
    show (itS (addI s p0 p1 p2) i 0).toNatClampNeg = _
    rw [eIo i hi]
  refine CS.ext h [(0, 0), (2, 0), (3, ix p0), (5, nN s), (6, nN s), (7, nN s), (8, nN s), (9, nN s)] ?_ ?_ ?_ ?_ eo ?_ ?_
  · intro x hx
    simp only [List.mem_cons, List.not_mem_nil, or_false] at hx
    rcases hx with rfl | rfl | rfl | rfl | rfl | rfl | rfl | rfl
    · show M1 (adI ad (nN s) (n5 a b c d e) 0 0) = some (cel G _ _ 0 0)
      rw [cel_0, eo 0 0 (ok0 s), eo 1 0 (ok1 s), eo 2 0 (ok2 s)]
      exact h0
    · show M1 (adI ad (nN s) (n5 a b c d e) 2 0) = some (cel G _ _ 2 0)
      rw [cel_2, eo 2 0 (ok2 s), h2]
      exact congrArg (fun z => some (Sum.inl (G.2.1 4, 6, Sum.inr (Sum.inr (Sum.inr (Sum.inr z)))))) (qf_up e5 (fun j hj => adI_o (Or.inr (by omega))))
    · show M1 (adI ad (nN s) (n5 a b c d e) 3 (ix p0)) = some (cel G _ _ 3 (ix p0))
      rw [cel_3, eo 3 _ (ok3 ht), eo 4 _ (ok4 ht), h3]
      exact congrArg (fun z => some (Sum.inr (3, [Value.ref (ad 4 (ix p0)), Value.int z]))) fu_s.symm
    · show M1 (adI ad (nN s) (n5 a b c d e) 5 (nN s)) = some (cel G _ _ 5 (nN s))
      rw [cel_5, e5, h5]
      unfold cI
      rw [eT, e6, e7, eo 3 _ (ok3 ht), eI]
      rfl
    · show M1 (adI ad (nN s) (n5 a b c d e) 6 (nN s)) = some (cel G _ _ 6 (nN s))
      rw [cel_6, e6, h6]
      unfold cSc
      rw [eT, eo 3 _ (ok3 ht), eI]
      rfl
    · show M1 (adI ad (nN s) (n5 a b c d e) 7 (nN s)) = some (cel G _ _ 7 (nN s))
      rw [cel_7, e7, e8, e9, h7, eN]
      rfl
    · show M1 (adI ad (nN s) (n5 a b c d e) 8 (nN s)) = some (cel G _ _ 8 (nN s))
      rw [cel_8, e8, h8]
      exact congrArg (fun z => some (Sum.inl (G.2.1 0, 8, Sum.inl z))) fu_s.symm
    · show M1 (adI ad (nN s) (n5 a b c d e) 9 (nN s)) = some (cel G _ _ (0 + 9) (nN s))
      rw [cel_9, e9, h9]
      refine congrArg (fun z => some (Sum.inl (G.2.1 0, 8, Sum.inl z))) ?_
      funext j
      show (0 : Int32) = rvS (addI s p0 p1 p2) (nN s) j - rhS (addI s p0 p1 p2) (nN s) j
      rw [show rvS (addI s p0 p1 p2) (nN s) = fun _ => 0 from fu_s, show rhS (addI s p0 p1 p2) (nN s) = fun _ => 0 from fu_s]
      show (0 : Int32) = 0 - 0
      decide
  · intro x hx
    have hx' : ∀ k i, (k, i) ∈ [(0, 0), (2, 0), (3, ix p0), (5, nN s), (6, nN s), (7, nN s), (8, nN s), (9, nN s)] → x ≠ adI ad (nN s) (n5 a b c d e) k i := fun k i q => hx (k, i) q
    refine hf x ?_ ?_ ?_ ?_ ?_ ?_ ?_ ?_
    · rw [← eo 0 0 (ok0 s)]
      exact hx' _ _ (by simp)
    · rw [← eo 2 0 (ok2 s)]
      exact hx' _ _ (by simp)
    · rw [← eo 3 _ (ok3 ht)]
      exact hx' _ _ (by simp)
    · rw [← e5]
      exact hx' _ _ (by simp)
    · rw [← e6]
      exact hx' _ _ (by simp)
    · rw [← e7]
      exact hx' _ _ (by simp)
    · rw [← e8]
      exact hx' _ _ (by simp)
    · rw [← e9]
      exact hx' _ _ (by simp)
  · intro x hx
    simp only [List.mem_cons, List.not_mem_nil, or_false] at hx
    rcases hx with rfl | rfl | rfl | rfl | rfl | rfl | rfl | rfl
    · exact Or.inl (ok0 s)
    · exact Or.inl (ok2 s)
    · exact Or.inl (ok3 ht)
    · right
      show M (adI ad (nN s) (n5 a b c d e) 5 (nN s)) = none
      rw [e5]
      exact ha
    · right
      show M (adI ad (nN s) (n5 a b c d e) 6 (nN s)) = none
      rw [e6]
      exact hb
    · right
      show M (adI ad (nN s) (n5 a b c d e) 7 (nN s)) = none
      rw [e7]
      exact hc
    · right
      show M (adI ad (nN s) (n5 a b c d e) 8 (nN s)) = none
      rw [e8]
      exact hd
    · right
      show M (adI ad (nN s) (n5 a b c d e) 9 (nN s)) = none
      rw [e9]
      exact he
  · intro k i o
    simp only [List.mem_cons, List.not_mem_nil, or_false, Prod.mk.injEq]
    exact okI_new (s1 := addI s p0 p1 p2) rfl rfl o
  · intro k i o z
    simp only [List.mem_cons, List.not_mem_nil, or_false, Prod.mk.injEq] at z
    match k, o, z with
    | 0, o, z => exact absurd (ok_1 o (by omega)) (by omega)
    | 1, o, z =>
      rw [cel_1, cel_1]
      exact congrArg (fun z => Sum.inl (G.2.1 3, 8, Sum.inr (Sum.inr (Sum.inr (Sum.inr z))))) (qf_c (fun j _ => adI_o (by omega)))
    | 2, o, z => exact absurd (ok_1 o (by omega)) (by omega)
    | 3, o, z =>
      have hi := ok_3 o (by omega)
      rw [cel_3, cel_3, eo 4 i (ok4 hi)]
      exact congrArg (fun z => Sum.inr (3, [Value.ref (ad 4 i), Value.int z])) (fu_n (by omega))
    | 4, o, z =>
      rw [cel_4, cel_4]
      rfl
    | 5, o, z =>
      have hi := (ok_5 o (by omega)).2
      rw [cel_5, cel_5]
      unfold cI
      rw [eTo i hi, eIo i hi, eo 3 _ (ok3 (hV.tb hi)), eo 6 i (ok6 hi), eo 7 i (ok7 hi)]
    | 6, o, z =>
      have hi := (ok_5 o (by omega)).2
      rw [cel_6, cel_6]
      unfold cSc
      rw [eTo i hi, eIo i hi, eo 3 _ (ok3 (hV.tb hi))]
    | 7, o, z =>
      have hi := (ok_5 o (by omega)).2
      rw [cel_7, cel_7, eo 8 i (ok8 hi), eo 9 i (ok9 hi), show rnS (addI s p0 p1 p2) i = rnS s i from fu_n (by omega)]
    | 8, o, z =>
      have hi := (ok_5 o (by omega)).2
      rw [cel_8, cel_8, show rvS (addI s p0 p1 p2) i = rvS s i from fu_n (by omega)]
    | (k + 9), o, z =>
      have hi := (ok_5 o (by omega)).2
      rw [cel_9, cel_9]
      show (Sum.inl (G.2.1 0, 8, Sum.inl (fun j => rvS (addI s p0 p1 p2) i j - rhS (addI s p0 p1 p2) i j)) : va_E) = _
      rw [show rvS (addI s p0 p1 p2) i = rvS s i from fu_n (by omega), show rhS (addI s p0 p1 p2) i = rhS s i from fu_n (by omega)]
  · intro x hx y hy nx ny e0
    simp only [List.mem_cons, List.not_mem_nil, or_false] at hx hy
    have hz : ∀ z, z ∈ [(0, 0), (2, 0), (3, ix p0), (5, nN s), (6, nN s), (7, nN s), (8, nN s), (9, nN s)] → ¬ okS s z.1 z.2 → ∃ k, 5 ≤ k ∧ k ≤ 9 ∧ z = (k, nN s) := by
      intro z hz nz
      simp only [List.mem_cons, List.not_mem_nil, or_false] at hz
      rcases hz with rfl | rfl | rfl | rfl | rfl | rfl | rfl | rfl
      · exact absurd (ok0 s) nz
      · exact absurd (ok2 s) nz
      · exact absurd (ok3 ht) nz
      · exact ⟨5, by omega, by omega, rfl⟩
      · exact ⟨6, by omega, by omega, rfl⟩
      · exact ⟨7, by omega, by omega, rfl⟩
      · exact ⟨8, by omega, by omega, rfl⟩
      · exact ⟨9, by omega, by omega, rfl⟩
    obtain ⟨k, k1, k2, rfl⟩ := hz x (by simpa using hx) nx
    obtain ⟨l, l1, l2, rfl⟩ := hz y (by simpa using hy) ny
    have e1 : n5 a b c d e k = n5 a b c d e l := by
      exact ((adI_s (ad := ad) (n := nN s) (f := n5 a b c d e) k1).symm.trans e0).trans (adI_s l1)
    have hkl : k = l := by
      rcases (show k = 5 ∨ k = 6 ∨ k = 7 ∨ k = 8 ∨ k = 9 by omega) with rfl | rfl | rfl | rfl | rfl
      · rcases (show l = 5 ∨ l = 6 ∨ l = 7 ∨ l = 8 ∨ l = 9 by omega) with rfl | rfl | rfl | rfl | rfl
        · rfl
        · exact absurd (show a = b from e1) hab
        · exact absurd (show a = c from e1) hac
        · exact absurd (show a = d from e1) had
        · exact absurd (show a = e from e1) hae
      · rcases (show l = 5 ∨ l = 6 ∨ l = 7 ∨ l = 8 ∨ l = 9 by omega) with rfl | rfl | rfl | rfl | rfl
        · exact absurd (show b = a from e1) (Ne.symm hab)
        · rfl
        · exact absurd (show b = c from e1) hbc
        · exact absurd (show b = d from e1) hbd
        · exact absurd (show b = e from e1) hbe
      · rcases (show l = 5 ∨ l = 6 ∨ l = 7 ∨ l = 8 ∨ l = 9 by omega) with rfl | rfl | rfl | rfl | rfl
        · exact absurd (show c = a from e1) (Ne.symm hac)
        · exact absurd (show c = b from e1) (Ne.symm hbc)
        · rfl
        · exact absurd (show c = d from e1) hcd
        · exact absurd (show c = e from e1) hce
      · rcases (show l = 5 ∨ l = 6 ∨ l = 7 ∨ l = 8 ∨ l = 9 by omega) with rfl | rfl | rfl | rfl | rfl
        · exact absurd (show d = a from e1) (Ne.symm had)
        · exact absurd (show d = b from e1) (Ne.symm hbd)
        · exact absurd (show d = c from e1) (Ne.symm hcd)
        · rfl
        · exact absurd (show d = e from e1) hde
      · rcases (show l = 5 ∨ l = 6 ∨ l = 7 ∨ l = 8 ∨ l = 9 by omega) with rfl | rfl | rfl | rfl | rfl
        · exact absurd (show e = a from e1) (Ne.symm hae)
        · exact absurd (show e = b from e1) (Ne.symm hbe)
        · exact absurd (show e = c from e1) (Ne.symm hce)
        · exact absurd (show e = d from e1) (Ne.symm hde)
        · rfl
    rw [hkl]
/-- the works at their start -/
def stZ : St := (fun k => if k = 0 then 200 else 0, (0, fun _ _ => 0, fun _ => 0), (0, fun _ _ => 0), (fun _ => 0, fun _ _ => 0, fun _ _ => 0))
def ad3 (a b c : Nat) : adr := fun k _ => if k = 0 then a else if k = 1 then b else c
theorem qf_0 {f : Nat → Nat} : (fun _ => none) = qf 0 f := by
  funext j
  rw [qf_n (Nat.zero_le _)]
theorem cs_start {G : mg} {M1 : mw} {a b c : Nat} (hab : a ≠ b) (hac : a ≠ c) (hbc : b ≠ c)
    (h0 : M1 a = some (.inr (4, [.ref b, .ref c, .int 0, .int 0, .int 200, .int 0, .int 0, .int 0, .int 0])))
    (h1 : M1 b = some (.inl (G.2.1 3, 8, .inr (.inr (.inr (.inr (fun _ => none))))))) (h2 : M1 c = some (.inl (G.2.1 4, 6, .inr (.inr (.inr (.inr (fun _ => none))))))) : CS G stZ (ad3 a b c) M1 := by
  have ok : ∀ k i, okS stZ k i → (k = 0 ∨ k = 1 ∨ k = 2) ∧ i = 0 := fun k i o => by
    have e1 : nT stZ = 0 := rfl
    have e2 : nN stZ = 0 := rfl
    unfold okS at o
    rw [e1, e2] at o
    omega
  refine ⟨fun k i o => ?_, fun k i k' i' o o' e => ?_⟩
  · obtain ⟨hk, rfl⟩ := ok k i o
    rcases hk with rfl | rfl | rfl
    · rw [cel_0]
      exact h0
    · rw [cel_1, show nT stZ = 0 from rfl, ← qf_0]
      exact h1
    · rw [cel_2, show nN stZ = 0 from rfl, ← qf_0]
      exact h2
  · obtain ⟨hk, rfl⟩ := ok k i o
    obtain ⟨hk', rfl⟩ := ok k' i' o'
    refine ⟨?_, rfl⟩
    rcases hk with rfl | rfl | rfl <;> rcases hk' with rfl | rfl | rfl <;> first | rfl | (exfalso; simp [ad3] at e; first | exact hab e | exact hac e | exact hbc e | exact hab e.symm | exact hac e.symm | exact hbc e.symm)
theorem stZ_inv : Inv stZ := by
  refine ⟨⟨by show 0 ≤ 8; omega, by show 0 ≤ 6; omega⟩, fun i hi => absurd hi (by show ¬ i < 0; omega), fun i hi => absurd hi (by show ¬ i < 0; omega), fun i j hi => absurd hi (by show ¬ i < 0; omega), ?_⟩
  rfl

section MW
variable {p : Program} {l : Launch} {e : Env} {R : Room} {s : State} {m : MethodId} {args : Array Value} {below : List Frame} {meth : Method} {c : Code} {H : Heap} {locs : List Loc} {cells slots : Nat} {Q : State → Prop}
variable {cc : ByteArray} {pc : Nat} {ls : Array Slot} {rest : List Value} {D : va_G} {A : Nat → Prop} {a : Nat} {tys : List (ClassId × FieldType)} {M : mw} {H0 : Heap}
theorem m_newq (hexec : p.tables.exec = Jvm.exec) (hb : c.code = cc) {own C : String} {index : Nat} (hown : s.vm.findClass own = some m.cls) (hclink : (Cond.classLink own index C).before args s = true) (hover : va_AO C s) (hK : va_K D vwCl tys s) (hP : mP D M H) (hI : mI A M) (hS : va_S A H0 H locs) (hA : ∀ q, H0.size ≤ q → A q) (t0 : Nat) {cI : ClassId} (hcI : tys[t0]? = some (cI, .object C))
    {n : Int32} {N' : Nat} (hn : ¬ n < 0) (hN : n.toNatClampNeg = N') (hbytes : N' * 4 ≤ 536870912) (hcells : cells + 1 ≤ R.cells) (hslots : slots + N' ≤ R.slots) (hdg : decode cc pc = .ok (.anewarray index, 3))
    (kk : ∀ (q : Nat) (H1 : Heap), M q = none → mP D (mu M q (.inl (cI, N', .inr (.inr (.inr (.inr (fun _ => none))))))) H1 → mI A (mu M q (.inl (cI, N', .inr (.inr (.inr (.inr (fun _ => none))))))) → va_S A H0 H1 locs →
      W p l e R s m args below meth c H1 locs (cells + 1) (slots + N') Q (F0 m (pc + 3) ls (.ref q :: rest))) : W p l e R s m args below meth c H locs cells slots Q (F0 m pc ls (.int n :: rest)) := by
  obtain ⟨ws, hL, hPw, hDw⟩ := mL_ex hP
  refine va_newq hexec hb hown hclink hover hK hPw (hDw A hI) hS hA hn hN hbytes hcells hslots hdg (fun q cA H1 h0 h1 h2 h3 => ?_)
  have hR := (h0.2 tys.length (cA, .object C) (by rw [List.getElem?_append_right (Nat.le_refl _), Nat.sub_self]; rfl)).2
  have hR2 := (hK.2 t0 _ hcI).2
  obtain ⟨-, -, -, -, -, h4⟩ := hR
  obtain ⟨-, -, -, -, -, h5⟩ := hR2
  have hcA : cA = cI := Option.some.inj (h4.symm.trans h5)
  subst hcA
  exact kk q H1 (hL.fresh h2) (hL.push h1) (hI.mu (h2.2 ws.length (q, _) (by rw [List.getElem?_append_right (Nat.le_refl _), Nat.sub_self]; rfl))) h3
end MW
end
section
/-! ===== what every state keeps, kept ===== -/
theorem isum_c {f f1 : Nat → Int32} : ∀ n, (∀ j, j < n → f1 j = f j) → isum f1 n = isum f n := by
  intro n
  induction n with
  | zero => intro _; rfl
  | succ n ih =>
    intro h
    show isum f1 n + f1 n = isum f n + f n
    rw [ih (fun j hj => h j (by omega)), h n (by omega)]
theorem i_arc (a b c : Int32) : a + b + c = a + c + b := by rw [Int32.add_assoc, Int32.add_comm b, ← Int32.add_assoc]
theorem isum_u {f f1 : Nat → Int32} {i : Nat} (h : ∀ j, j ≠ i → f1 j = f j) : ∀ n, i < n → isum f1 n + f i = isum f n + f1 i := by
  intro n
  induction n with
  | zero => intro q; omega
  | succ n ih =>
    intro hi
    show isum f1 n + f1 n + f i = isum f n + f n + f1 i
    by_cases e : i = n
    · subst e
      rw [isum_c i (fun j hj => h j (by omega)), i_arc]
    · have e1 := ih (by omega)
      rw [h n (by omega), i_arc, e1, i_arc]
theorem hg_u {s s1 : St} {i : Nat} (hi : i < nN s) (ho : ∀ j, j ≠ i → itS s1 j = itS s j) : hgS s1 (nN s) + mer s i = hgS s (nN s) + mer s1 i :=
  isum_u (f := fun k => if itS s k 6 = 109 then itS s k 7 else 0) (f1 := fun k => if itS s1 k 6 = 109 then itS s1 k 7 else 0) (fun j hj => by rw [ho j hj]) (nN s) hi
theorem invI_o {s s1 : St} {j : Nat} (hT : nT s1 = nT s) (hU : usS s1 = usS s) (e : itS s1 j = itS s j) (er : rnS s1 j = rnS s j) (h : invI s j) : invI s1 j := by
  unfold invI at h ⊢
  rw [hT, hU, e, er]
  exact h
theorem Inv.glob {s : St} (h : Inv s) (g : Nat → Int32) (hg : g 2 + g 3 + gS s 4 = gS s 2 + gS s 3 + g 4) : Inv (g, s.2) := by
  obtain ⟨h1, h2, h3, h4, h5⟩ := h
  refine ⟨h1, h2, h3, h4, ?_⟩
  show g 2 + g 3 + hgS s (nN s) = g 4
  rw [← h5] at hg
  have e : g 2 + g 3 + hgS s (nN s) + (gS s 2 + gS s 3) = g 4 + (gS s 2 + gS s 3) := by
    rw [Int32.add_assoc, Int32.add_comm (hgS s (nN s)), hg, Int32.add_comm]
  exact (Int32.add_left_inj _).mp e
theorem Inv.upd {s s1 : St} (h : Inv s) {i : Nat} (hi : i < nN s) (hT : s1.2.1 = s.2.1) (hN : nN s1 = nN s) (ho : ∀ j, j ≠ i → itS s1 j = itS s j) (hro : ∀ j, j ≠ i → rnS s1 j = rnS s j) (h0 : itS s1 i 0 = itS s i 0) (hv : invI s1 i) (hm : gS s1 2 + gS s1 3 + mer s1 i + gS s 4 = gS s 2 + gS s 3 + mer s i + gS s1 4) : Inv s1 := by
  obtain ⟨h1, h2, h3, h4, h5⟩ := h
  have eT : nT s1 = nT s := by unfold nT; rw [hT]
  have eB : boS s1 = boS s := by unfold boS; rw [hT]
  have eU : usS s1 = usS s := by unfold usS; rw [hT]
  have e0 : ∀ j, itS s1 j 0 = itS s j 0 := fun j => by
    by_cases e : j = i
    · rw [e, h0]
    · rw [ho j e]
  refine ⟨by rw [eT, hN]; exact h1, by rw [eT, eB, eU]; exact h2, fun j hj => ?_, fun a b ha hb q => h4 a b (by omega) (by omega) (by rw [← e0, ← e0]; exact q), ?_⟩
  · by_cases e : j = i
    · rw [e]
      exact hv
    · exact invI_o eT eU (ho j e) (hro j e) (h3 j (by omega))
  · rw [hN]
    have e1 := hg_u hi ho
    have e : gS s1 2 + gS s1 3 + hgS s1 (nN s) + (mer s i + gS s 4) = gS s1 4 + (mer s i + gS s 4) := by
      have a1 : gS s1 2 + gS s1 3 + hgS s1 (nN s) + (mer s i + gS s 4) = (gS s1 2 + gS s1 3 + gS s 4) + (hgS s1 (nN s) + mer s i) := by ac_rfl
      have a2 : (gS s1 2 + gS s1 3 + gS s 4) + (hgS s (nN s) + mer s1 i) = (gS s1 2 + gS s1 3 + mer s1 i + gS s 4) + hgS s (nN s) := by ac_rfl
      have a3 : (gS s 2 + gS s 3 + mer s i + gS s1 4) + hgS s (nN s) = (gS s 2 + gS s 3 + hgS s (nN s)) + (gS s1 4 + mer s i) := by ac_rfl
      rw [a1, e1, a2, hm, a3, h5]
      ac_rfl
    exact (Int32.add_left_inj _).mp e
theorem theI_or (P : Int32 → Prop) : P (theI P) ∨ theI P = 0 := by
  by_cases h : ∃ r, P r
  · left
    have e : theI P = Classical.choose h := by
      unfold theI
      simp only [h, dif_pos]
    rw [e]
    exact Classical.choose_spec h
  · right
    unfold theI
    simp only [h, dif_neg, not_false_eq_true]
theorem lpw_r {bf : Nat → Int32} {rest : Int64} {r : Int32} (h : lpwR bf rest r) : r = -1 ∨ ∃ k : Nat, k ≤ 200 ∧ r = nI k := by
  rcases h with ⟨h1, -⟩ | ⟨-, -, k, hk, rfl, -⟩
  · exact Or.inl h1
  · exact Or.inr ⟨k, hk, rfl⟩
theorem lvl_r (s : St) (i : Nat) (T dip : Int32) : lvl s i T dip = -1 ∨ ∃ k : Nat, k ≤ 200 ∧ lvl s i T dip = nI k := by
  rcases theI_or (lvlP s i T dip) with ⟨l1, h1, h2⟩ | h
  · rcases h2 with ⟨-, h3⟩ | ⟨-, h3⟩
    · unfold lvl
      rw [h3]
      exact lpw_r h1
    · exact lpw_r h3
  · right
    exact ⟨0, by omega, h⟩
theorem lvl_b (s : St) (i : Nat) (T dip : Int32) : -1 ≤ (lvl s i T dip).toInt ∧ (lvl s i T dip).toInt ≤ 200 := by
  rcases lvl_r s i T dip with h | ⟨k, hk, h⟩
  · rw [h]
    decide
  · rw [h, nI_toInt (by omega)]
    omega

theorem chk_I {P : Prop} {k : Nat} {s : St} {r : Nat × Int32 × St} (h : Inv s) (hr : P → Inv r.2.2) : Inv (chk P k s r).2.2 := by
  by_cases q : P
  · rw [chk_p q]
    exact hr q
  · rw [chk_n q]
    exact h
/-- an instrument's fields by themselves -/
def ivG (s : St) (n : Nat) (g : Nat → Int32) : Prop :=
  (∃ t, t < nT s ∧ g 0 = nI t ∧ usS s t = 1) ∧ (1000 ≤ (g 1).toInt ∧ (g 1).toInt ≤ 50000) ∧ (g 2 = 104 ∨ g 2 = 115) ∧ (0 ≤ (g 3).toInt ∧ (g 3).toInt ≤ (cia (g 1) (g 2)).toInt) ∧
  (g 4 = 0 ∨ g 4 = 1) ∧ (g 5 = 0 ∨ g 5 = 1) ∧ (g 6 = 32 ∨ g 6 = 109 ∨ g 6 = 115) ∧ (g 4 = 1 ↔ g 6 ≠ 32 ∧ g 5 = 0) ∧ (g 4 = 0 → g 7 = 0) ∧
  (0 ≤ (g 8).toInt ∧ (g 8).toInt ≤ 20) ∧ (g 9 = 0 ∨ g 9 = 1) ∧ (-1 ≤ (g 10).toInt ∧ (g 10).toInt ≤ 200) ∧
  (-1 ≤ (g 12).toInt ∧ (g 12).toInt ≤ 200) ∧ (-1 ≤ (g 13).toInt ∧ (g 13).toInt ≤ 200) ∧ (0 ≤ (g 14).toInt ∧ (g 14).toInt ≤ 2000) ∧
  (g 15 = 32 ∨ g 15 = 108 ∨ g 15 = 118) ∧ (g 15 ≠ 32 → g 12 ≠ -1 ∧ g 13 ≠ -1 ∧ g 12 ≠ g 13) ∧ n ≤ 8
theorem ivG_of {s : St} {i : Nat} (h : invI s i) : ivG s (rnS s i) (itS s i) := h
theorem ivG_to {s s1 : St} {i n : Nat} {g : Nat → Int32} (hT : s1.2.1 = s.2.1) (e : itS s1 i = g) (er : rnS s1 i = n) (h : ivG s n g) : invI s1 i := by
  unfold ivG at h
  unfold invI nT usS
  rw [hT, e, er]
  exact h
def merG (g : Nat → Int32) : Int32 := if g 6 = 109 then g 7 else 0
theorem Inv.sit {s : St} (h : Inv s) {i : Nat} (hi : i < nN s) (gl g : Nat → Int32) (h0 : g 0 = itS s i 0) (hv : ivG s (rnS s i) g) (hm : gl 2 + gl 3 + merG g + gS s 4 = gS s 2 + gS s 3 + merG (itS s i) + gl 4) : Inv (sIt (gl, s.2) i g) := by
  have e : itS (sIt (gl, s.2) i g) i = g := fu_s
  refine h.upd hi rfl rfl (fun j hj => fu_n hj) (fun j _ => rfl) (by rw [e]; exact h0) (ivG_to rfl e rfl hv) ?_
  have em : mer (sIt (gl, s.2) i g) i = merG g := by
    unfold mer merG
    rw [e]
  rw [em]
  exact hm
theorem Inv.sit1 {s : St} (h : Inv s) {i : Nat} (hi : i < nN s) (g : Nat → Int32) (h0 : g 0 = itS s i 0) (hv : ivG s (rnS s i) g) (h6 : g 6 = itS s i 6) (h7 : g 7 = itS s i 7) : Inv (sIt s i g) :=
  h.sit hi s.1 g h0 hv (by unfold merG; rw [h6, h7])
theorem I_buy {s : St} (h : Inv s) (p0 : Int32) : Inv (m_buy s p0).2.2 := chk_I h fun _ => by
  refine h.glob (fu (fu (gS s) 4 (gS s 4 + p0)) 2 (gS s 2 + p0)) ?_
  show gS s 2 + p0 + gS s 3 + gS s 4 = gS s 2 + gS s 3 + (gS s 4 + p0)
  ac_rfl
theorem I_air {s : St} (h : Inv s) (p0 : Int32) : Inv (m_air s p0).2.2 := chk_I h fun _ => h.glob (fu (gS s) 0 p0) rfl
theorem I_fill {s : St} (h : Inv s) (p0 p1 p2 : Int32) : Inv (m_fill s p0 p1 p2).2.2 := by
  refine chk_I h fun hi => chk_I h fun hl => chk_I h fun _ => chk_I h fun h4 => chk_I h fun h5 => chk_I h fun _ => ?_
  obtain ⟨a, b, c, d, e, f, g, hh, ii, j, k, l, m, n, o, p, q, r⟩ := ivG_of (h.2.2.1 _ hi.2)
  have h6 : itS s (ix p0) 6 = 32 := by
    by_cases z : itS s (ix p0) 6 = 32
    · exact z
    · have := hh.mpr ⟨z, h5⟩
      rw [h4] at this
      exact absurd this (by decide)
  refine h.sit hi.2 (fu (gS s) 2 (if p1 = 109 then gS s 2 - amt s (ix p0) p2 else gS s 2)) (filG s (ix p0) p1 (amt s (ix p0) p2)) rfl ?_ ?_
  · have hp : p1 ≠ 32 := by rcases hl with z | z <;> rw [z] <;> decide
    exact ⟨a, b, c, d, Or.inr rfl, f, hl.elim (fun z => Or.inr (Or.inl z)) (fun z => Or.inr (Or.inr z)), ⟨fun _ => ⟨hp, h5⟩, fun _ => rfl⟩, fun z => absurd z (show ¬ (1 : Int32) = 0 by decide), j, k, l, m, n, o, p, q, r⟩
  · have e0 : merG (itS s (ix p0)) = 0 := by
      unfold merG
      rw [if_neg (by rw [h6]; decide)]
    rw [e0]
    show (if p1 = 109 then gS s 2 - amt s (ix p0) p2 else gS s 2) + gS s 3 + (if p1 = 109 then amt s (ix p0) p2 else 0) + gS s 4 = gS s 2 + gS s 3 + 0 + gS s 4
    by_cases z : p1 = 109
    · rw [if_pos z, if_pos z, i_arc (gS s 2 - amt s (ix p0) p2), Int32.sub_add_cancel, Int32.add_zero]
    · rw [if_neg z, if_neg z]
theorem I_smash {s : St} (h : Inv s) (p0 : Int32) : Inv (m_smash s p0).2.2 := by
  refine chk_I h fun hi => chk_I h fun h5 => ?_
  obtain ⟨a, b, c, d, e, f, g, hh, ii, j, k, l, m, n, o, p, q, r⟩ := ivG_of (h.2.2.1 _ hi.2)
  refine h.sit hi.2 (fu (gS s) 3 (gS s 3 + mer s (ix p0))) (smaG s (ix p0)) rfl ?_ ?_
  · exact ⟨a, b, c, d, Or.inl rfl, Or.inr rfl, g, ⟨fun z => absurd z (show ¬ (0 : Int32) = 1 by decide), fun z => absurd z.2 (show ¬ (1 : Int32) = 0 by decide)⟩, fun _ => rfl, j, k, l, m, n, o, p, q, r⟩
  · have e0 : merG (smaG s (ix p0)) = 0 := by
      unfold merG
      show (if itS s (ix p0) 6 = 109 then (0 : Int32) else 0) = 0
      split <;> rfl
    rw [e0]
    show gS s 2 + (gS s 3 + mer s (ix p0)) + 0 + gS s 4 = gS s 2 + gS s 3 + mer s (ix p0) + gS s 4
    rw [Int32.add_zero, ← Int32.add_assoc]
theorem I_ice {s : St} (h : Inv s) (p0 : Int32) : Inv (m_ice s p0).2.2 := by
  refine chk_I h fun hi => chk_I h fun _ => chk_I h fun _ => ?_
  obtain ⟨a, b, c, d, e, f, g, hh, ii, j, k, l, m, n, o, p, q, r⟩ := ivG_of (h.2.2.1 _ hi.2)
  exact h.sit1 hi.2 _ rfl ⟨a, b, c, d, e, f, g, hh, ii, j, k, l, lvl_b s _ _ _, n, o, Or.inl rfl, fun z => absurd rfl z, r⟩ rfl rfl
theorem rng_b {p lo hi : Int32} (h : rng p lo hi) : lo.toInt ≤ p.toInt ∧ p.toInt ≤ hi.toInt := by
  have h1 := h.1
  have h2 := h.2
  rw [Int32.lt_iff_toInt_lt] at h1
  rw [Int32.le_iff_toInt_le] at h2
  omega
theorem i_nn {p : Int32} (h : 0 ≤ p.toInt) : ∃ n : Nat, n < 2 ^ 31 ∧ p = nI n ∧ p.toInt = n := by
  have hp : ¬ p < 0 := fun q => by
    have := Int32.lt_iff_toInt_lt.mp q
    have e : (0 : Int32).toInt = 0 := rfl
    omega
  obtain ⟨n, hn, e⟩ := nI_of hp
  exact ⟨n, hn, e, by rw [e, nI_toInt hn]⟩
theorem sta_b {p : Int32} (h : rng p 700 800) : 0 ≤ (sta p).toInt ∧ (sta p).toInt ≤ 2000 := by
  have key : ∀ n, n < 101 → 0 ≤ (sta (nI (n + 700))).toInt ∧ (sta (nI (n + 700))).toInt ≤ 2000 := by decide +kernel
  have hb := rng_b h
  have e1 : (700 : Int32).toInt = 700 := rfl
  have e2 : (800 : Int32).toInt = 800 := rfl
  obtain ⟨n, hn, rfl, e⟩ := i_nn (p := p) (by omega)
  have h1 := key (n - 700) (by omega)
  rw [show n - 700 + 700 = n by omega] at h1
  exact h1
theorem I_steam {s : St} (h : Inv s) (p0 p1 : Int32) : Inv (m_steam s p0 p1).2.2 := by
  refine chk_I h fun hi => chk_I h fun hr => chk_I h fun _ => chk_I h fun _ => ?_
  obtain ⟨a, b, c, d, e, f, g, hh, ii, j, k, l, m, n, o, p, q, r⟩ := ivG_of (h.2.2.1 _ hi.2)
  exact h.sit1 hi.2 _ rfl ⟨a, b, c, d, e, f, g, hh, ii, j, k, l, m, lvl_b s _ _ _, sta_b hr, Or.inl rfl, fun z => absurd rfl z, r⟩ rfl rfl
theorem I_divide {s : St} (h : Inv s) (p0 p1 : Int32) : Inv (m_divide s p0 p1).2.2 := by
  refine chk_I h fun hi => chk_I h fun hk => chk_I h fun _ => chk_I h fun hu => ?_
  obtain ⟨a, b, c, d, e, f, g, hh, ii, j, k, l, m, n, o, p, q, r⟩ := ivG_of (h.2.2.1 _ hi.2)
  have hz : itS s (ix p0) 12 ≠ -1 ∧ itS s (ix p0) 13 ≠ -1 ∧ itS s (ix p0) 12 ≠ itS s (ix p0) 13 := by
    unfold unl at hu
    refine ⟨fun z => hu (by rw [if_pos z]), fun z => hu ?_, fun z => hu ?_⟩
    · by_cases y : itS s (ix p0) 12 = -1
      · rw [if_pos y]
      · rw [if_neg y, if_pos z]
    · by_cases y : itS s (ix p0) 12 = -1
      · rw [if_pos y]
      · rw [if_neg y]
        by_cases x : itS s (ix p0) 13 = -1
        · rw [if_pos x]
        · rw [if_neg x, if_pos z]
  exact h.sit1 hi.2 _ rfl ⟨a, b, c, d, e, f, g, hh, ii, j, k, l, m, n, o, hk.elim (fun z => Or.inr (Or.inl z)) (fun z => Or.inr (Or.inr z)), fun _ => hz, r⟩ rfl rfl
theorem I_certify {s : St} (h : Inv s) (p0 : Int32) : Inv (m_certify s p0).2.2 := by
  refine chk_I h fun hi => chk_I h fun _ => chk_I h fun _ => ?_
  obtain ⟨a, b, c, d, e, f, g, hh, ii, j, k, l, m, n, o, p, q, r⟩ := ivG_of (h.2.2.1 _ hi.2)
  exact h.sit1 hi.2 _ rfl ⟨a, b, c, d, e, f, g, hh, ii, j, k, l, m, n, o, p, q, r⟩ rfl rfl
theorem I_breakThread {s : St} (h : Inv s) (p0 p1 : Int32) : Inv (m_breakThread s p0 p1).2.2 := by
  refine chk_I h fun hi => chk_I h fun hr => chk_I h fun _ => ?_
  obtain ⟨a, b, c, d, e, f, g, hh, ii, j, k, l, m, n, o, p, q, r⟩ := ivG_of (h.2.2.1 _ hi.2)
  have hb := rng_b hr
  have e1 : (1 : Int32).toInt = 1 := rfl
  have e2 : (20 : Int32).toInt = 20 := rfl
  exact h.sit1 hi.2 _ rfl ⟨a, b, c, d, e, f, g, hh, ii, show 0 ≤ p1.toInt ∧ p1.toInt ≤ 20 by omega, k, l, m, n, o, p, q, r⟩ rfl rfl
theorem I_keep {s : St} (h : Inv s) (p0 p1 : Int32) (h01 : p1 = 0 ∨ p1 = 1) : Inv (m_keep s p0 p1).2.2 := by
  refine chk_I h fun hi => ?_
  obtain ⟨a, b, c, d, e, f, g, hh, ii, j, k, l, m, n, o, p, q, r⟩ := ivG_of (h.2.2.1 _ hi.2)
  exact h.sit1 hi.2 _ rfl ⟨a, b, c, d, e, f, g, hh, ii, j, h01, show -1 ≤ (-1 : Int32).toInt ∧ (-1 : Int32).toInt ≤ 200 by decide, m, n, o, p, q, r⟩ rfl rfl
theorem I_shake {s : St} (h : Inv s) (p0 : Int32) : Inv (m_shake s p0).2.2 := by
  refine chk_I h fun hi => chk_I h fun _ => chk_I h fun _ => ?_
  obtain ⟨a, b, c, d, e, f, g, hh, ii, j, k, l, m, n, o, p, q, r⟩ := ivG_of (h.2.2.1 _ hi.2)
  exact h.sit1 hi.2 _ rfl ⟨a, b, c, d, e, f, g, hh, ii, j, k, show -1 ≤ (-1 : Int32).toInt ∧ (-1 : Int32).toInt ≤ 200 by decide, m, n, o, p, q, r⟩ rfl rfl
theorem I_begin {s : St} (h : Inv s) (p0 : Int32) : Inv (m_begin s p0).2.2 := by
  refine chk_I h fun hi => ?_
  obtain ⟨a, b, c, d, e, f, g, hh, ii, j, k, l, m, n, o, p, q, r⟩ := ivG_of (h.2.2.1 _ hi.2)
  exact h.upd hi.2 rfl rfl (fun j _ => rfl) (fun j hj => fu_n hj) rfl (ivG_to (n := 0) rfl rfl fu_s ⟨a, b, c, d, e, f, g, hh, ii, j, k, l, m, n, o, p, q, by omega⟩) rfl

theorem t_add {a b : Int32} (h1 : -2147483648 ≤ a.toInt + b.toInt) (h2 : a.toInt + b.toInt < 2147483648) : (a + b).toInt = a.toInt + b.toInt := by
  rw [Int32.toInt_add]
  exact Int.bmod_eq_of_le (by omega) (by omega)
theorem t_sub {a b : Int32} (h1 : -2147483648 ≤ a.toInt - b.toInt) (h2 : a.toInt - b.toInt < 2147483648) : (a - b).toInt = a.toInt - b.toInt := by
  rw [Int32.toInt_sub]
  exact Int.bmod_eq_of_le (by omega) (by omega)
theorem t_mul {a b : Int32} (h1 : -2147483648 ≤ a.toInt * b.toInt) (h2 : a.toInt * b.toInt < 2147483648) : (a * b).toInt = a.toInt * b.toInt := by
  rw [Int32.toInt_mul]
  exact Int.bmod_eq_of_le (by omega) (by omega)
theorem t_div {a b : Int32} (h1 : 0 ≤ a.toInt) (hb : b ≠ -1) : (a / b).toInt = a.toInt / b.toInt := by
  rw [Int32.toInt_div_of_ne_right a b hb, Int.tdiv_eq_ediv_of_nonneg h1]
theorem cia_b {bu gl : Int32} (h1 : 1000 ≤ bu.toInt) (h2 : bu.toInt ≤ 50000) : 0 ≤ (cia bu gl).toInt ∧ (cia bu gl).toInt ≤ 300 := by
  unfold cia
  have e2 : (2 : Int32).toInt = 2 := rfl
  have e6 : (6 : Int32).toInt = 6 := rfl
  have e1 : (1000 : Int32).toInt = 1000 := rfl
  by_cases z : gl = 104
  · rw [if_pos z]
    have m := t_mul (a := bu) (b := 2) (by rw [e2]; omega) (by rw [e2]; omega)
    rw [e2] at m
    rw [t_div (by omega) (by decide), m, e1]
    omega
  · rw [if_neg z]
    have m := t_mul (a := bu) (b := 6) (by rw [e6]; omega) (by rw [e6]; omega)
    rw [e6] at m
    rw [t_div (by omega) (by decide), m, e1]
    omega
theorem crp_1 {a c : Int32} (h1 : 0 ≤ c.toInt) (h2 : c.toInt ≤ a.toInt) (h3 : a.toInt ≤ 300) : (c + (a - c + 19) / 20).toInt = c.toInt + (a.toInt - c.toInt + 19) / 20 := by
  have e19 : (19 : Int32).toInt = 19 := rfl
  have e20 : (20 : Int32).toInt = 20 := rfl
  have s := t_sub (a := a) (b := c) (by omega) (by omega)
  have s1 := t_add (a := a - c) (b := 19) (by omega) (by omega)
  have s2 := t_div (a := a - c + 19) (b := 20) (by omega) (by decide)
  rw [s1, s, e19, e20] at s2
  rw [t_add (by omega) (by omega), s2]
theorem crp_b {bu gl c : Int32} (hb1 : 1000 ≤ bu.toInt) (hb2 : bu.toInt ≤ 50000) (h1 : 0 ≤ c.toInt) (h2 : c.toInt ≤ (cia bu gl).toInt) : ∀ d, 0 ≤ (crp bu gl c d).toInt ∧ (crp bu gl c d).toInt ≤ (cia bu gl).toInt := by
  intro d
  induction d with
  | zero => exact ⟨h1, h2⟩
  | succ d ih =>
    have hc := cia_b (gl := gl) hb1 hb2
    show 0 ≤ (crp bu gl c d + (cia bu gl - crp bu gl c d + 19) / 20).toInt ∧ (crp bu gl c d + (cia bu gl - crp bu gl c d + 19) / 20).toInt ≤ _
    rw [crp_1 ih.1 ih.2 hc.2]
    omega
theorem I_days {s : St} (h : Inv s) (p0 : Int32) : Inv (m_days s p0).2.2 := by
  refine chk_I h fun hr => chk_I h fun _ => ?_
  obtain ⟨h1, h2, h3, h4, h5⟩ := h
  have e : ∀ j, j < nN s → itS (creS (sG s 1 (gS s 1 + p0)) (ix p0) (nN s)) j = creG s (ix p0) j := fun j hj => if_pos hj
  refine ⟨h1, h2, fun j hj => ?_, fun a b ha hb q => h4 a b ha hb ?_, ?_⟩
  · obtain ⟨a, b, c, d, r⟩ := ivG_of (h3 j hj)
    exact ivG_to (s := s) (n := rnS s j) rfl (e j hj) rfl ⟨a, b, c, crp_b b.1 b.2 d.1 d.2 _, r⟩
  · rw [e a ha, e b hb] at q
    exact q
  · have eh : hgS (creS (sG s 1 (gS s 1 + p0)) (ix p0) (nN s)) (nN s) = hgS s (nN s) := isum_c _ (fun j hj => by rw [e j hj]; rfl)
    show gS s 2 + gS s 3 + hgS (creS (sG s 1 (gS s 1 + p0)) (ix p0) (nN s)) (nN s) = gS s 4
    rw [eh]
    exact h5
theorem mx_b {x y : Int32} {lo hi : Int} (h1 : lo ≤ x.toInt ∧ x.toInt ≤ hi) (h2 : lo ≤ y.toInt ∧ y.toInt ≤ hi) : lo ≤ (m_max x y).toInt ∧ (m_max x y).toInt ≤ hi := by
  unfold m_max
  split
  · exact h2
  · exact h1
theorem dbo_b (b t : Int32) (k : Nat) : 1 ≤ (dbo b t k).toInt ∧ (dbo b t k).toInt ≤ 60 := by
  unfold dbo
  generalize b + nI k * t = x
  have e1 : (1 : Int32).toInt = 1 := rfl
  have e60 : (60 : Int32).toInt = 60 := rfl
  unfold m_max m_min
  by_cases z : x < 60
  · rw [if_pos z]
    have z1 := Int32.lt_iff_toInt_lt.mp z
    by_cases y : (1 : Int32) < x
    · rw [if_pos y]
      have y1 := Int32.lt_iff_toInt_lt.mp y
      omega
    · rw [if_neg y]
      decide
  · rw [if_neg z]
    decide
theorem I_draw {s : St} (h : Inv s) (p0 p1 : Int32) : Inv (m_draw s p0 p1).2.2 := by
  refine chk_I h fun _ => chk_I h fun _ => chk_I h fun hn => ?_
  obtain ⟨h1, h2, h3, h4, h5⟩ := h
  refine ⟨⟨hn, h1.2⟩, fun i hi => ?_, fun j hj => ?_, h4, h5⟩
  · have hi : i < nT s + 1 := hi
    by_cases e : i = nT s
    · subst e
      refine ⟨fun k hk => ?_, Or.inl fu_s⟩
      have eb : boS (addT s p0 p1) (nT s) = dboU p0 p1 20 := fu_s
      rw [eb, show dboU p0 p1 20 k = dbo p0 p1 k from if_pos hk]
      exact dbo_b p0 p1 k
    · have eb : boS (addT s p0 p1) i = boS s i := fu_n e
      have eu : usS (addT s p0 p1) i = usS s i := fu_n e
      rw [eb, eu]
      exact h2 i (by omega)
  · obtain ⟨⟨t, a, b, c⟩, r⟩ := h3 j hj
    exact ⟨⟨t, Nat.lt_succ_of_lt a, b, (show usS (addT s p0 p1) t = usS s t from fu_n (by omega)).trans c⟩, r⟩
theorem I_section {s : St} (h : Inv s) (p0 p1 p2 : Int32) : Inv (m_section s p0 p1 p2).2.2 := by
  refine chk_I h fun _ => chk_I h fun _ => chk_I h fun hr => chk_I h fun _ => ?_
  obtain ⟨h1, h2, h3, h4, h5⟩ := h
  have hb := rng_b hr
  have e1 : (1 : Int32).toInt = 1 := rfl
  have e60 : (60 : Int32).toInt = 60 := rfl
  refine ⟨h1, fun i hi => ⟨fun k hk => ?_, (h2 i hi).2⟩, h3, h4, h5⟩
  show 1 ≤ (fu (boS s) (ix p0) (upd (boS s (ix p0)) (ix p1) p2) i k).toInt ∧ (fu (boS s) (ix p0) (upd (boS s (ix p0)) (ix p1) p2) i k).toInt ≤ 60
  by_cases e : i = ix p0
  · subst e
    rw [fu_s]
    unfold upd
    split
    · omega
    · exact (h2 _ hi).1 k hk
  · rw [fu_n e]
    exact (h2 i hi).1 k hk
theorem I_make {s : St} (h : Inv s) (p0 p1 p2 : Int32) : Inv (m_make s p0 p1 p2).2.2 := by
  refine chk_I h fun ht => chk_I h fun hb => chk_I h fun hg => chk_I h fun hu => chk_I h fun hn => ?_
  obtain ⟨h1, h2, h3, h4, h5⟩ := h
  have hb := rng_b hb
  have e1 : (1000 : Int32).toInt = 1000 := rfl
  have e2 : (50000 : Int32).toInt = 50000 := rfl
  have eU : ∀ t, usS s t = 1 → usS (addI s p0 p1 p2) t = 1 := fun t q => by
    show fu (usS s) (ix p0) 1 t = 1
    by_cases e : t = ix p0
    · rw [e, fu_s]
    · rw [fu_n e]
      exact q
  have eI : itS (addI s p0 p1 p2) (nN s) = newI p0 p1 p2 := fu_s
  have eIo : ∀ i, i < nN s → itS (addI s p0 p1 p2) i = itS s i := fun i hi => fu_n (by omega)
  have new : ∀ j, j < nN s → itS s j 0 ≠ p0 := fun j hj q => by
    obtain ⟨⟨t, a, b, c⟩, -⟩ := h3 j hj
    rw [q] at b
    rw [b, show ix (nI t) = t from nI_clamp (by have := h1.1; omega)] at hu
    rw [hu] at c
    exact absurd c (by decide)
  refine ⟨⟨h1.1, hn⟩, fun i hi => ⟨(h2 i hi).1, ?_⟩, fun j hj => ?_, fun a b ha hb' q => ?_, ?_⟩
  · show fu (usS s) (ix p0) 1 i = 0 ∨ fu (usS s) (ix p0) 1 i = 1
    by_cases e : i = ix p0
    · rw [e, fu_s]
      exact Or.inr rfl
    · rw [fu_n e]
      exact (h2 i hi).2
  · have hj : j < nN s + 1 := hj
    by_cases e : j = nN s
    · subst e
      have er : rnS (addI s p0 p1 p2) (nN s) = 0 := fu_s
      unfold invI
      rw [eI, er]
      have hc := cia_b (gl := p2) (show 1000 ≤ p1.toInt by omega) (show p1.toInt ≤ 50000 by omega)
      exact ⟨⟨ix p0, ht.2, nI_cl ht.1, fu_s⟩, show 1000 ≤ p1.toInt ∧ p1.toInt ≤ 50000 by omega, hg, ⟨show (0 : Int) ≤ (0 : Int32).toInt by decide, hc.1⟩, Or.inl rfl, Or.inl rfl, Or.inl rfl, ⟨fun z => absurd z (show ¬ (0 : Int32) = 1 by decide), fun z => absurd rfl z.1⟩, fun _ => rfl, show (0 : Int) ≤ (0 : Int32).toInt ∧ (0 : Int32).toInt ≤ 20 by decide, Or.inl rfl, show -1 ≤ (-1 : Int32).toInt ∧ (-1 : Int32).toInt ≤ 200 by decide, show -1 ≤ (-1 : Int32).toInt ∧ (-1 : Int32).toInt ≤ 200 by decide, show -1 ≤ (-1 : Int32).toInt ∧ (-1 : Int32).toInt ≤ 200 by decide, show (0 : Int) ≤ (0 : Int32).toInt ∧ (0 : Int32).toInt ≤ 2000 by decide, Or.inl rfl, fun z => absurd rfl z, by omega⟩
    · have hj' : j < nN s := by omega
      obtain ⟨⟨t, a, b, c⟩, r⟩ := h3 j hj'
      have er : rnS (addI s p0 p1 p2) j = rnS s j := fu_n e
      unfold invI
      rw [eIo j hj', er]
      exact ⟨⟨t, a, b, eU t c⟩, r⟩
  · have ha : a < nN s + 1 := ha
    have hb' : b < nN s + 1 := hb'
    by_cases ea : a = nN s <;> by_cases eb : b = nN s
    · rw [ea, eb]
    · rw [ea, eI, eIo b (by omega)] at q
      exact absurd q.symm (new b (by omega))
    · rw [eb, eI, eIo a (by omega)] at q
      exact absurd q (new a (by omega))
    · rw [eIo a (by omega), eIo b (by omega)] at q
      exact h4 a b (by omega) (by omega) q
  · have eh : hgS (addI s p0 p1 p2) (nN s + 1) = hgS s (nN s) := by
      show isum _ (nN s) + (if itS (addI s p0 p1 p2) (nN s) 6 = 109 then itS (addI s p0 p1 p2) (nN s) 7 else 0) = _
      rw [eI, if_neg (show ¬ newI p0 p1 p2 6 = 109 from (by decide : ¬ (32 : Int32) = 109)), Int32.add_zero]
      exact isum_c _ (fun j hj => by rw [eIo j hj])
    show gS s 2 + gS s 3 + hgS (addI s p0 p1 p2) (nN s + 1) = gS s 4
    rw [eh]
    exact h5
theorem I_bath {s : St} (h : Inv s) (p0 p1 p2 : Int32) : Inv (m_bath s p0 p1 p2).2.2 := by
  refine chk_I h fun hi => chk_I h fun _ => chk_I h fun _ => chk_I h fun _ => chk_I h fun _ => chk_I h fun _ => ?_
  obtain ⟨a, b, c, d, e, f, g, hh, ii, j, k, l, m, n, o, p, q, r⟩ := ivG_of (h.2.2.1 _ hi.2)
  have hl := lvl_b s (ix p0) p1 p2
  refine h.upd hi.2 rfl rfl (fun j hj => fu_n hj) (fun j hj => fu_n hj) ?_ (ivG_to (n := apN (rnS s (ix p0))) (g := batG s (ix p0) p1 (lvl s (ix p0) p1 p2)) rfl fu_s fu_s ⟨a, b, c, ?_, e, f, g, hh, ii, ?_, k, ?_, m, n, o, p, q, ?_⟩) ?_
  · show fu (itS s) (ix p0) (batG s (ix p0) p1 (lvl s (ix p0) p1 p2)) (ix p0) 0 = _
    rw [fu_s]
    rfl
  · show 0 ≤ (if 2000 < p1 then itS s (ix p0) 3 / 2 else itS s (ix p0) 3).toInt ∧ (if 2000 < p1 then itS s (ix p0) 3 / 2 else itS s (ix p0) 3).toInt ≤ (cia (itS s (ix p0) 1) (itS s (ix p0) 2)).toInt
    split
    · have e2 : (2 : Int32).toInt = 2 := rfl
      rw [t_div d.1 (by decide), e2]
      omega
    · exact d
  · show 0 ≤ (if p1 ≤ (-200) then (0 : Int32) else itS s (ix p0) 8).toInt ∧ (if p1 ≤ (-200) then (0 : Int32) else itS s (ix p0) 8).toInt ≤ 20
    split
    · decide
    · exact j
  · show -1 ≤ (if itS s (ix p0) 9 = 0 then itS s (ix p0) 10 else m_max (itS s (ix p0) 10) (lvl s (ix p0) p1 p2)).toInt ∧ (if itS s (ix p0) 9 = 0 then itS s (ix p0) 10 else m_max (itS s (ix p0) 10) (lvl s (ix p0) p1 p2)).toInt ≤ 200
    split
    · exact l
    · exact mx_b l hl
  · unfold apN
    split <;> omega
  · have em : mer (batS s (ix p0) p1 (lvl s (ix p0) p1 p2)) (ix p0) = mer s (ix p0) := by
      unfold mer
      rw [show itS (batS s (ix p0) p1 (lvl s (ix p0) p1 p2)) (ix p0) = batG s (ix p0) p1 (lvl s (ix p0) p1 p2) from fu_s]
      rfl
    rw [em]
end
section
/-! ===== calls from a wrapper: the callee sees its own side alone ===== -/
theorem CS.out {G : mg} {s : St} {ad : adr} {M : mw} {o : Nat} {e : va_E} (h : CS G s ad M) (hn : M o = none) : CS G s ad (mu M o e) :=
  ⟨fun k i q => (mu_n (fun z => by rw [← z, h.1 k i q] at hn; cases hn)).trans (h.1 k i q), h.2⟩
abbrev aN (A : Nat → Prop) (o : Nat) : Nat → Prop := fun q => A q ∧ q ≠ o
theorem mu_q {M : mw} {o a : Nat} {e x : va_E} (hn : M o = none) (h : M a = some x) : mu M o e a = some x := mu_k (fun z => by rw [z, hn] at h; cases h) h
theorem mP_dn {D : va_G} {M : mw} {H : Heap} {o : Nat} {e : va_E} (hn : M o = none) (h : mP D (mu M o e) H) : mP D M H := fun a x hx => h a x (mu_q hn hx)
theorem mI_dn {A : Nat → Prop} {M : mw} {o : Nat} {e : va_E} (hn : M o = none) (h : mI A (mu M o e)) : mI (aN A o) M := fun a x hx => ⟨h a x (mu_q hn hx), fun z => by rw [z, hn] at hx; cases hx⟩
theorem mI_o {A : Nat → Prop} {M : mw} {o : Nat} (h : mI (aN A o) M) : M o = none := by
  cases e : M o with
  | none => rfl
  | some x => exact absurd rfl (h o x e).2
theorem mI_up {A : Nat → Prop} {M : mw} {o : Nat} {e : va_E} (h : mI (aN A o) M) (ho : A o) : mI A (mu M o e) := fun a x hx => by
  by_cases z : a = o
  · rw [z]
    exact ho
  · rw [mu_n z] at hx
    exact (h a x hx).1
theorem mP_up {D : va_G} {M : mw} {H H1 : Heap} {o : Nat} {e : va_E} (h : mP D M H1) (ho : va_at D vwCl (o, e) H) (hk : H1[o]? = H[o]?) : mP D (mu M o e) H1 := fun a x hx => by
  by_cases z : a = o
  · subst z
    rw [mu_s] at hx
    cases hx
    exact ho.kept hk
  · rw [mu_n z] at hx
    exact h a x hx
theorem GK_aN {G : mg} {A : Nat → Prop} {s : State} {o : Nat} (h : GK G A s) : GK G (aN A o) s := ⟨h.1, h.2.1, GKh.narrow h.2.2 (fun _ q => q.1)⟩
section MW
variable {p : Program} {l : Launch} {e : Env} {R : Room} {s : State} {m : MethodId} {args : Array Value} {below : List Frame} {meth : Method} {c : Code} {H : Heap} {locs : List Loc} {cells slots : Nat} {Q : State → Prop}
variable {cc : ByteArray} {pc : Nat} {ls : Array Slot} {rest st0 : List Value} {a : Array Value} {A : Nat → Prop} {mc ms : Nat} {G : mg} {M : mw} {o : Nat} {eo : va_E} {D : va_G} {tys : List (ClassId × FieldType)} {H0 : Heap} {b : Nat}
theorem m_last (hexec : p.tables.exec = Jvm.exec) (hb : c.code = cc) (hK : va_K D vwCl tys s) (hP : mP D M H) (hI : mI A M) (hS : va_S A H0 H locs) (t0 : Nat) {cA : ClassId} {n : Nat} {f : Nat → Int64} (ha : M b = some (.inl (cA, n, .inr (.inl f)))) (ht : tys[t0]? = some (cA, .long)) {i : Int32} {x : Int64} (hin : vp_in i n) (hdg : decode cc pc = .ok (.lastore, 1))
    (kk : ∀ (H1 : Heap) (locs1 : List Loc), mP D (mu M b (.inl (cA, n, .inr (.inl (vf_upd f i.toNatClampNeg x))))) H1 → mI A (mu M b (.inl (cA, n, .inr (.inl (vf_upd f i.toNatClampNeg x))))) → va_S A H0 H1 locs1 → W p l e R s m args below meth c H1 locs1 cells slots Q (F0 m (pc + 1) ls rest)) : W p l e R s m args below meth c H locs cells slots Q (F0 m pc ls (.long x :: .int i :: .ref b :: rest)) := by
  obtain ⟨ws, hL, hPw, hDw⟩ := mL_ex hP
  obtain ⟨q0, hq0⟩ := hL.1 b _ ha
  exact va_last hexec hb hK hPw (hDw A hI) hS q0 t0 hq0 ht hin hdg (fun H1 locs1 h1 _ h3 => kk H1 locs1 (hL.set hq0 h1) (hI.mu (hI b _ ha)) h3)
theorem m_dast (hexec : p.tables.exec = Jvm.exec) (hb : c.code = cc) (hK : va_K D vwCl tys s) (hP : mP D M H) (hI : mI A M) (hS : va_S A H0 H locs) (t0 : Nat) {cA : ClassId} {n : Nat} {f : Nat → UInt64} (ha : M b = some (.inl (cA, n, .inr (.inr (.inr (.inl f)))))) (ht : tys[t0]? = some (cA, .double)) {i : Int32} {x : UInt64} (hin : vp_in i n) (hdg : decode cc pc = .ok (.dastore, 1))
    (kk : ∀ (H1 : Heap) (locs1 : List Loc), mP D (mu M b (.inl (cA, n, .inr (.inr (.inr (.inl (vf_upd f i.toNatClampNeg x))))))) H1 → mI A (mu M b (.inl (cA, n, .inr (.inr (.inr (.inl (vf_upd f i.toNatClampNeg x))))))) → va_S A H0 H1 locs1 → W p l e R s m args below meth c H1 locs1 cells slots Q (F0 m (pc + 1) ls rest)) : W p l e R s m args below meth c H locs cells slots Q (F0 m pc ls (.double x :: .int i :: .ref b :: rest)) := by
  obtain ⟨ws, hL, hPw, hDw⟩ := mL_ex hP
  obtain ⟨q0, hq0⟩ := hL.1 b _ ha
  exact va_dast hexec hb hK hPw (hDw A hI) hS q0 t0 hq0 ht hin hdg (fun H1 locs1 h1 _ h3 => kk H1 locs1 (hL.set hq0 h1) (hI.mu (hI b _ ha)) h3)
theorem mn_calli {px : String → Prop} {post : Int32 → mw → Prop} (hr : vx_Run p l e R s m args below meth c H locs cells slots mc ms (F0 m pc ls st0) rest (va_Qi post (mE G (aN A o)) (aN A o) a) (xX px G (aN A o) M) (aN A o)) (hP : mP G.1 (mu M o eo) H) (hI : mI A (mu M o eo)) (hS : va_S A s.heap H locs)
    (kx : ∀ (E : String) (ce : Cell) (q9 : Addr) (H1 : Heap) (locs1 : List Loc), px E → mP G.1 (mu M o eo) H1 → va_S A s.heap H1 locs1 → H1[q9]? = some ce → ce.vm = .none → s.vm.findClass E = some ce.cls → vx_W p l e R s m args below meth c H1 locs1 (cells + mc) (slots + ms) Q (F0 m pc ls rest) q9)
    (kk : ∀ (r : Int32) (M1 : mw) (H1 : Heap) (locs1 : List Loc), post r M1 → M1 o = none → mP G.1 (mu M1 o eo) H1 → mI A (mu M1 o eo) → va_S A s.heap H1 locs1 → W p l e R s m args below meth c H1 locs1 (cells + mc) (slots + ms) Q (F0 m (pc + 3) ls (.int r :: rest))) : W p l e R s m args below meth c H locs cells slots Q (F0 m pc ls st0) :=
  have ho := hP o eo mu_s
  have hAo : A o := hI o eo mu_s
  vx_calli hr hS (fun _ _ h => h.1) (fun _ h => h.1) (fun _ _ h => h.1) (fun E ce q9 u t H1 locs1 ht _ hp hB _ hk hS1 h1 h2 h3 => kx E ce q9 H1 locs1 (by rw [hB.1]; exact hp) (mP_up (by rw [← ht]; exact hB.2.1) ho (hk o ho.lt (fun q => q.2 rfl))) hS1 h1 h2 h3) (fun r u t H1 locs1 ht _ hp hB _ hk hS1 => kk r u H1 locs1 hp (mI_o hB.2) (mP_up (by rw [← ht]; exact hB.1) ho (hk o ho.lt (fun q => q.2 rfl))) (mI_up hB.2 hAo) hS1)
theorem mn_callf {px : String → Prop} {post : UInt32 → mw → Prop} (hr : vx_Run p l e R s m args below meth c H locs cells slots mc ms (F0 m pc ls st0) rest (va_Qf post (mE G (aN A o)) (aN A o) a) (xX px G (aN A o) M) (aN A o)) (hP : mP G.1 (mu M o eo) H) (hI : mI A (mu M o eo)) (hS : va_S A s.heap H locs)
    (kx : ∀ (E : String) (ce : Cell) (q9 : Addr) (H1 : Heap) (locs1 : List Loc), px E → mP G.1 (mu M o eo) H1 → va_S A s.heap H1 locs1 → H1[q9]? = some ce → ce.vm = .none → s.vm.findClass E = some ce.cls → vx_W p l e R s m args below meth c H1 locs1 (cells + mc) (slots + ms) Q (F0 m pc ls rest) q9)
    (kk : ∀ (r : UInt32) (M1 : mw) (H1 : Heap) (locs1 : List Loc), post r M1 → M1 o = none → mP G.1 (mu M1 o eo) H1 → mI A (mu M1 o eo) → va_S A s.heap H1 locs1 → W p l e R s m args below meth c H1 locs1 (cells + mc) (slots + ms) Q (F0 m (pc + 3) ls (.float r :: rest))) : W p l e R s m args below meth c H locs cells slots Q (F0 m pc ls st0) :=
  have ho := hP o eo mu_s
  have hAo : A o := hI o eo mu_s
  vx_callf hr hS (fun _ _ h => h.1) (fun _ h => h.1) (fun _ _ h => h.1) (fun E ce q9 u t H1 locs1 ht _ hp hB _ hk hS1 h1 h2 h3 => kx E ce q9 H1 locs1 (by rw [hB.1]; exact hp) (mP_up (by rw [← ht]; exact hB.2.1) ho (hk o ho.lt (fun q => q.2 rfl))) hS1 h1 h2 h3) (fun r u t H1 locs1 ht _ hp hB _ hk hS1 => kk r u H1 locs1 hp (mI_o hB.2) (mP_up (by rw [← ht]; exact hB.1) ho (hk o ho.lt (fun q => q.2 rfl))) (mI_up hB.2 hAo) hS1)
theorem mn_calld {px : String → Prop} {post : UInt64 → mw → Prop} (hr : vx_Run p l e R s m args below meth c H locs cells slots mc ms (F0 m pc ls st0) rest (va_Qd post (mE G (aN A o)) (aN A o) a) (xX px G (aN A o) M) (aN A o)) (hP : mP G.1 (mu M o eo) H) (hI : mI A (mu M o eo)) (hS : va_S A s.heap H locs)
    (kx : ∀ (E : String) (ce : Cell) (q9 : Addr) (H1 : Heap) (locs1 : List Loc), px E → mP G.1 (mu M o eo) H1 → va_S A s.heap H1 locs1 → H1[q9]? = some ce → ce.vm = .none → s.vm.findClass E = some ce.cls → vx_W p l e R s m args below meth c H1 locs1 (cells + mc) (slots + ms) Q (F0 m pc ls rest) q9)
    (kk : ∀ (r : UInt64) (M1 : mw) (H1 : Heap) (locs1 : List Loc), post r M1 → M1 o = none → mP G.1 (mu M1 o eo) H1 → mI A (mu M1 o eo) → va_S A s.heap H1 locs1 → W p l e R s m args below meth c H1 locs1 (cells + mc) (slots + ms) Q (F0 m (pc + 3) ls (.double r :: rest))) : W p l e R s m args below meth c H locs cells slots Q (F0 m pc ls st0) :=
  have ho := hP o eo mu_s
  have hAo : A o := hI o eo mu_s
  vx_calld hr hS (fun _ _ h => h.1) (fun _ h => h.1) (fun _ _ h => h.1) (fun E ce q9 u t H1 locs1 ht _ hp hB _ hk hS1 h1 h2 h3 => kx E ce q9 H1 locs1 (by rw [hB.1]; exact hp) (mP_up (by rw [← ht]; exact hB.2.1) ho (hk o ho.lt (fun q => q.2 rfl))) hS1 h1 h2 h3) (fun r u t H1 locs1 ht _ hp hB _ hk hS1 => kk r u H1 locs1 hp (mI_o hB.2) (mP_up (by rw [← ht]; exact hB.1) ho (hk o ho.lt (fun q => q.2 rfl))) (mI_up hB.2 hAo) hS1)
end MW
/-- a refused call changes nothing -/
theorem chk_ref {P : Prop} {k : Nat} {s : St} {r : Nat × Int32 × St} (h : r.1 ≠ 0 → r.2.2 = s) : (chk P k s r).1 ≠ 0 → (chk P k s r).2.2 = s := by
  by_cases q : P
  · rw [chk_p q]
    exact h
  · rw [chk_n q]
    exact fun _ => rfl
theorem ref_0 {x : Int32} {s s1 : St} : ((0, x, s1) : Nat × Int32 × St).1 ≠ 0 → ((0, x, s1) : Nat × Int32 × St).2.2 = s := fun h => absurd rfl h
end
section
set_option maxHeartbeats 4000000 in
set_option maxRecDepth 100000 in
theorem c_X3_stepsBelow (l : Launch) (G : mg) (A : Nat → Prop) (Mw : mw) (p0 p1 : Int32) : Met l yX3_stepsBelow wsX3_stepsBelow ({ frames := 1, cells := 0, slots := 0, locals := 21 }) (va_Pc [.int p0, .int p1] (mB G A Mw)) (va_Qi (fun r Mw1 => r = (stp p0 p1) ∧ Mw1 = Mw) (mE G A) A) 0 0 A := by
  refine Met.ofW (cc := cX3_stepsBelow) (maxL := 2) (ret := (some .int)) (by decide) rfl ?_
  intro p e s m args below meth c s₁ B hml hv
  obtain ⟨rfl, hG, hP, hI, hA⟩ := hv
  have hx := B.exec
  have hb := B.bytes
  have hr := B.returns
  have hts := atoms_spec (ws := wsX3_stepsBelow) B.pre
  have hown : s.vm.findClass RX3 = some m.cls := findClass_of_methodNamed B.named
  have hlocks := B.notSynchronized
  have hK := hG.K
  have hS : va_S A s.heap s.heap [] := va_S.rf
  have hl := lv_entry ([.int p0, .int p1]) (n := 2) (Nat.le_of_ble_eq_true rfl)
  rw [lg_entry_eq]
  generalize (lg_sl ([.int p0, .int p1]) ++ List.replicate (2 - (lg_sl ([.int p0, .int p1])).length) Slot.unset).toArray = ls at hl ⊢
  have hl : lv_has ls 2 [(0, .int p0), (1, .int p1)] := hl
  have hP : mP G.1 Mw s.heap := hP
  refine lv_iconst (v := 0) hx hb dX3_stepsBelow_0 (by decide) ?_
  refine lv_bipush (v := (10)) hx hb dX3_stepsBelow_1 (by decide) ?_
  refine lv_iload_n hx hb dX3_stepsBelow_3 rfl (lv_at hl 0 rfl) ?_
  refine lv_iload_n hx hb dX3_stepsBelow_4 rfl (lv_at hl 1 rfl) ?_
  refine lv_bipush (v := (10)) hx hb dX3_stepsBelow_5 (by decide) ?_
  refine lv_imul hx hb dX3_stepsBelow_7 ?_
  refine lv_isub hx hb dX3_stepsBelow_8 ?_
  refine va_mmin hx hb (hml.trans hl.1.symm) hown (hts (.methodLink RX3 15 Lib.Math.min.name) (by decide +kernel)) (hts (.static Lib.Math.min.name) (by decide +kernel)) (hts (.initialized "java/lang/Math") (by decide +kernel)) (hts (.code Lib.Math.min.name Lib.Math.min.code 2 (some .int)) (by decide +kernel)) (Nat.le_of_ble_eq_true rfl) (Nat.le_of_ble_eq_true rfl) (Nat.le_of_ble_eq_true rfl) (Nat.le_of_ble_eq_true rfl) dX3_stepsBelow_9 ?_
  refine va_mmax hx hb (hml.trans hl.1.symm) hown (hts (.methodLink RX3 21 Lib.Math.max.name) (by decide +kernel)) (hts (.static Lib.Math.max.name) (by decide +kernel)) (hts (.initialized "java/lang/Math") (by decide +kernel)) (hts (.code Lib.Math.max.name Lib.Math.max.code 2 (some .int)) (by decide +kernel)) (Nat.le_of_ble_eq_true rfl) (Nat.le_of_ble_eq_true rfl) (Nat.le_of_ble_eq_true rfl) (Nat.le_of_ble_eq_true rfl) dX3_stepsBelow_12 ?_
  refine W.widen (k := 0) (n := 0) (Nat.le_of_ble_eq_true rfl) (Nat.le_of_ble_eq_true rfl) ?_
  exact W.iret (v := m_max 0 (m_min 10 (p0 - (p1 * 10)))) hx hb hr (fun t99 ht99 hW99 => ⟨⟨m_max 0 (m_min 10 (p0 - (p1 * 10))), Mw, rfl, ⟨rfl, rfl⟩, by rw [ht99]; exact hP, hI⟩, hS.F ht99⟩) hS.2.2 dX3_stepsBelow_15

set_option maxHeartbeats 4000000 in
set_option maxRecDepth 100000 in
theorem c_X3_volumeUpTo (l : Launch) (G : mg) (A : Nat → Prop) (Mw : mw) (p0 : Int32) {t0 b0 : Nat} {us0 : Int32} {bf : Nat → Int32} (h_T : Mw t0 = some (.inr (3, [.ref b0, .int us0]))) (h_B : Mw b0 = some (.inl (G.2.1 0, 20, .inl bf))) : Met l yX3_volumeUpTo wsX3_volumeUpTo ({ frames := 2, cells := 0, slots := 0, locals := 42 }) (va_Pc [.ref t0, .int p0] (mB G A Mw)) (va_Qi (fun r Mw1 => r = (vsum bf p0 20) ∧ Mw1 = Mw) (mE G A) A) 0 0 A := by
  refine Met.ofW (cc := cX3_volumeUpTo) (maxL := 4) (ret := (some .int)) (by decide) rfl ?_
  intro p e s m args below meth c s₁ B hml hv
  obtain ⟨rfl, hG, hP, hI, hA⟩ := hv
  have hx := B.exec
  have hb := B.bytes
  have hr := B.returns
  have hts := atoms_spec (ws := wsX3_volumeUpTo) B.pre
  have hown : s.vm.findClass RX3 = some m.cls := findClass_of_methodNamed B.named
  have hlocks := B.notSynchronized
  have hK := hG.K
  have i_X3 : ∀ w ∈ wsX30, w ∈ wsX3_volumeUpTo := by decide +kernel
  have hS : va_S A s.heap s.heap [] := va_S.rf
  have hl := lv_entry ([.ref t0, .int p0]) (n := 4) (Nat.le_of_ble_eq_true rfl)
  rw [lg_entry_eq]
  generalize (lg_sl ([.ref t0, .int p0]) ++ List.replicate (4 - (lg_sl ([.ref t0, .int p0])).length) Slot.unset).toArray = ls at hl ⊢
  have hl : lv_has ls 4 [(0, .ref t0), (1, .int p0)] := hl
  have hP : mP G.1 Mw s.heap := hP
  refine lv_iconst (v := 0) hx hb dX3_volumeUpTo_0 (by decide) ?_
  refine lv_istore_n (lv' := [(2, .int 0), (0, .ref t0), (1, .int p0)]) hx hb dX3_volumeUpTo_1 rfl hl (by decide) rfl (fun ls hl => ?_)
  refine lv_iconst (v := 0) hx hb dX3_volumeUpTo_2 (by decide) ?_
  refine lv_istore_n (lv' := [(3, .int 0), (2, .int 0), (0, .ref t0), (1, .int p0)]) hx hb dX3_volumeUpTo_3 rfl hl (by decide) rfl (fun ls hl => ?_)
  have loop : ∀ (n k : Nat), k ≤ 20 → k + n = 20 + 1 → ∀ (H : Heap) (locs : List Loc) (ls : Array Slot), mP G.1 (Mw) H → mI A (Mw) → va_S A s.heap H locs → lv_has ls 4 [(0, .ref t0), (1, .int p0), (2, .int (vsum bf p0 k)), (3, .int (nI k))] → W p l e ({ frames := 2, cells := 0, slots := 0, locals := 42 }) s m ([.ref t0, .int p0] : List Value).toArray below meth c H locs 0 0 (MQ below (va_Qi (fun r Mw1 => r = (vsum bf p0 20) ∧ Mw1 = Mw) (mE G A) A) ([.ref t0, .int p0] : List Value).toArray s 0 0 A) (F0 m 4 ls []) := by
    intro n
    induction n with
    | zero => intro k hk1 hk2; omega
    | succ n ih_loop =>
      intro k hk1 hk2 H locs ls hP hI hS hl
      refine lv_iload_n hx hb dX3_volumeUpTo_4 rfl (lv_at hl 3 rfl) ?_
      refine lv_aload_n hx hb dX3_volumeUpTo_5 rfl (lv_at hl 0 rfl) ?_
      refine m_get (ci := 3) (v := .ref b0) (C := RX3) (T := TX3) (N := 2) hx hb hts i_X3 hown hK (hP _ _ h_T) rfl 0 (by decide) (hts (.fieldLink RX3 9 "Meniscus$Tube" "bores" "[I") (by decide +kernel)) (fun _ h9 => h9) rfl dX3_volumeUpTo_6 ?_
      refine m_alen (v := 20) hx hb hK 0 (hP _ _ h_B) rfl rfl dX3_volumeUpTo_9 ?_
      refine lv_icmp_ge (tgt := 34) hx hb dX3_volumeUpTo_10 (by decide) (fun c1 => ?_) (fun c1 => ?_)
      · skip
        have hk3 : 20 ≤ k := (nI_leI (a := 20) (b := k) (by omega) (by omega)).mp c1
        refine lv_iload_n hx hb dX3_volumeUpTo_34 rfl (lv_at hl 2 rfl) ?_
        refine W.widen (k := 0) (n := 0) (Nat.le_of_ble_eq_true rfl) (Nat.le_of_ble_eq_true rfl) ?_
        exact W.iret (v := vsum bf p0 k) hx hb hr (fun t99 ht99 hW99 => ⟨⟨vsum bf p0 k, Mw, rfl, ⟨by rw [show k = 20 by omega], rfl⟩, by rw [ht99]; exact hP, hI⟩, hS.F ht99⟩) hS.2.2 dX3_volumeUpTo_35
      · skip
        have hk3 : k < 20 := Nat.lt_of_not_le (fun q => c1 (nI_le (a := 20) q (by omega)))
        refine lv_iload_n hx hb dX3_volumeUpTo_13 rfl (lv_at hl 2 rfl) ?_
        refine lv_aload_n hx hb dX3_volumeUpTo_14 rfl (lv_at hl 0 rfl) ?_
        refine m_get (ci := 3) (v := .ref b0) (C := RX3) (T := TX3) (N := 2) hx hb hts i_X3 hown hK (hP _ _ h_T) rfl 0 (by decide) (hts (.fieldLink RX3 9 "Meniscus$Tube" "bores" "[I") (by decide +kernel)) (fun _ h9 => h9) rfl dX3_volumeUpTo_15 ?_
        refine lv_iload_n hx hb dX3_volumeUpTo_18 rfl (lv_at hl 3 rfl) ?_
        refine m_iald hx hb hK 0 (hP _ _ h_B) rfl (vp_in_nI (by omega) (by omega)) dX3_volumeUpTo_19 ?_
        rw [nI_clamp (show k < 2 ^ 31 by omega)]
        refine lv_iload_n hx hb dX3_volumeUpTo_20 rfl (lv_at hl 1 rfl) ?_
        refine lv_iload_n hx hb dX3_volumeUpTo_21 rfl (lv_at hl 3 rfl) ?_
        refine m_calli (va_runS (As := [.int p0, .int (nI k)]) (rest := [.int (bf k), .int (vsum bf p0 k)]) ⟨hx, hb, hml, hown, hts⟩ (c_X3_stepsBelow l G A Mw  p0 (nI k)) (va_cwS 2 hts gX3_volumeUpTo_X3_stepsBelow rfl rfl rfl (by decide +kernel) ⟨Nat.le_of_ble_eq_true rfl, Nat.le_of_ble_eq_true rfl⟩) (mPreS hG hS hP hI hA) rfl rfl hl.1 rfl (lv_room (Nat.le_of_ble_eq_true rfl)) dX3_volumeUpTo_22 ⟨Nat.le_of_ble_eq_true rfl, Nat.le_of_ble_eq_true rfl⟩) hS (fun r2 Mw1 H locs hp_r2 hP hI hS => ?_)
        obtain ⟨hp_r2, hm9⟩ := hp_r2
        subst Mw1
        refine lv_imul hx hb dX3_volumeUpTo_25 ?_
        refine lv_iadd hx hb dX3_volumeUpTo_26 ?_
        refine lv_istore_n (lv' := [(2, .int ((vsum bf p0 k) + ((bf k) * r2))), (0, .ref t0), (1, .int p0), (3, .int (nI k))]) hx hb dX3_volumeUpTo_27 rfl hl (by decide) rfl (fun ls hl => ?_)
        refine lv_iinc (v := (nI k) + 1) (lv' := [(3, .int ((nI k) + 1)), (2, .int ((vsum bf p0 k) + ((bf k) * r2))), (0, .ref t0), (1, .int p0)]) hx hb dX3_volumeUpTo_28 hl (k := 3) rfl rfl (by decide) rfl (fun ls hl => ?_)
        refine lv_goto (tgt := 4) hx hb dX3_volumeUpTo_31 (by decide) ?_
        have e_3 : (nI k) + 1 = nI (k + 1) := nI_1 k
        rw [e_3] at hl
        have e_2 : (vsum bf p0 k) + ((bf k) * r2) = vsum bf p0 (k + 1) := by rw [hp_r2]; rfl
        rw [e_2] at hl
        exact ih_loop (k + 1) (by omega) (by omega) H locs ls hP hI hS (lv_sub hl [2, 3, 1, 0] rfl)
  exact loop (20 + 1 - 0) 0 (by omega) (by omega) _ _ _ hP hI hS (lv_sub hl [2, 3, 1, 0] rfl)

set_option maxHeartbeats 4000000 in
set_option maxRecDepth 100000 in
theorem c_X3_boreOf (l : Launch) (G : mg) (A : Nat → Prop) (Mw : mw) (p0 : Int32) {t0 b0 : Nat} {us0 : Int32} {bf : Nat → Int32} (h_T : Mw t0 = some (.inr (3, [.ref b0, .int us0]))) (h_B : Mw b0 = some (.inl (G.2.1 0, 20, .inl bf))) : Met l yX3_boreOf wsX3_boreOf ({ frames := 0, cells := 0, slots := 0, locals := 0 }) (va_Pc [.ref t0, .int p0] (mB G A Mw)) (va_Qi (fun r Mw1 => r = (brO bf p0) ∧ Mw1 = Mw) (mE G A) A) 0 0 A := by
  refine Met.ofW (cc := cX3_boreOf) (maxL := 2) (ret := (some .int)) (by decide) rfl ?_
  intro p e s m args below meth c s₁ B hml hv
  obtain ⟨rfl, hG, hP, hI, hA⟩ := hv
  have hx := B.exec
  have hb := B.bytes
  have hr := B.returns
  have hts := atoms_spec (ws := wsX3_boreOf) B.pre
  have hown : s.vm.findClass RX3 = some m.cls := findClass_of_methodNamed B.named
  have hlocks := B.notSynchronized
  have hK := hG.K
  have i_X3 : ∀ w ∈ wsX30, w ∈ wsX3_boreOf := by decide +kernel
  have hS : va_S A s.heap s.heap [] := va_S.rf
  have hl := lv_entry ([.ref t0, .int p0]) (n := 2) (Nat.le_of_ble_eq_true rfl)
  rw [lg_entry_eq]
  generalize (lg_sl ([.ref t0, .int p0]) ++ List.replicate (2 - (lg_sl ([.ref t0, .int p0])).length) Slot.unset).toArray = ls at hl ⊢
  have hl : lv_has ls 2 [(0, .ref t0), (1, .int p0)] := hl
  have hP : mP G.1 Mw s.heap := hP
  refine lv_iload_n hx hb dX3_boreOf_0 rfl (lv_at hl 1 rfl) ?_
  refine lv_if_lt (tgt := 22) hx hb dX3_boreOf_1 (by decide) (fun c1 => ?_) (fun c1 => ?_)
  · skip
    refine lv_iconst (v := 0) hx hb dX3_boreOf_22 (by decide) ?_
    refine W.widen (k := 0) (n := 0) (Nat.le_of_ble_eq_true rfl) (Nat.le_of_ble_eq_true rfl) ?_
    exact W.iret (v := 0) hx hb hr (fun t99 ht99 hW99 => ⟨⟨0, Mw, rfl, ⟨by simp [brO, c1], rfl⟩, by rw [ht99]; exact hP, hI⟩, hS.F ht99⟩) hS.2.2 dX3_boreOf_23
  · skip
    refine lv_iload_n hx hb dX3_boreOf_4 rfl (lv_at hl 1 rfl) ?_
    refine lv_aload_n hx hb dX3_boreOf_5 rfl (lv_at hl 0 rfl) ?_
    refine m_get (ci := 3) (v := .ref b0) (C := RX3) (T := TX3) (N := 2) hx hb hts i_X3 hown hK (hP _ _ h_T) rfl 0 (by decide) (hts (.fieldLink RX3 9 "Meniscus$Tube" "bores" "[I") (by decide +kernel)) (fun _ h9 => h9) rfl dX3_boreOf_6 ?_
    refine m_alen (v := 20) hx hb hK 0 (hP _ _ h_B) rfl rfl dX3_boreOf_9 ?_
    refine lv_icmp_ge (tgt := 22) hx hb dX3_boreOf_10 (by decide) (fun c2 => ?_) (fun c2 => ?_)
    · skip
      refine lv_iconst (v := 0) hx hb dX3_boreOf_22 (by decide) ?_
      refine W.widen (k := 0) (n := 0) (Nat.le_of_ble_eq_true rfl) (Nat.le_of_ble_eq_true rfl) ?_
      exact W.iret (v := 0) hx hb hr (fun t99 ht99 hW99 => ⟨⟨0, Mw, rfl, ⟨by simp [brO, c1, c2], rfl⟩, by rw [ht99]; exact hP, hI⟩, hS.F ht99⟩) hS.2.2 dX3_boreOf_23
    · skip
      refine lv_aload_n hx hb dX3_boreOf_13 rfl (lv_at hl 0 rfl) ?_
      refine m_get (ci := 3) (v := .ref b0) (C := RX3) (T := TX3) (N := 2) hx hb hts i_X3 hown hK (hP _ _ h_T) rfl 0 (by decide) (hts (.fieldLink RX3 9 "Meniscus$Tube" "bores" "[I") (by decide +kernel)) (fun _ h9 => h9) rfl dX3_boreOf_14 ?_
      refine lv_iload_n hx hb dX3_boreOf_17 rfl (lv_at hl 1 rfl) ?_
      refine m_iald hx hb hK 0 (hP _ _ h_B) rfl (vin_of c1 (by omega) c2) dX3_boreOf_18 ?_
      refine lv_goto (tgt := 23) hx hb dX3_boreOf_19 (by decide) ?_
      refine W.widen (k := 0) (n := 0) (Nat.le_of_ble_eq_true rfl) (Nat.le_of_ble_eq_true rfl) ?_
      exact W.iret (v := bf p0.toNatClampNeg) hx hb hr (fun t99 ht99 hW99 => ⟨⟨bf p0.toNatClampNeg, Mw, rfl, ⟨by simp [brO, c1, c2], rfl⟩, by rw [ht99]; exact hP, hI⟩, hS.F ht99⟩) hS.2.2 dX3_boreOf_23

set_option maxHeartbeats 4000000 in
set_option maxRecDepth 100000 in
theorem c_X3_setBore (l : Launch) (G : mg) (A : Nat → Prop) (Mw : mw) (p0 p1 : Int32) (hlo : ¬ p0 < 0) (hhi : ¬ 20 ≤ p0) {t0 b0 : Nat} {us0 : Int32} {bf : Nat → Int32} (h_T : Mw t0 = some (.inr (3, [.ref b0, .int us0]))) (h_B : Mw b0 = some (.inl (G.2.1 0, 20, .inl bf))) : Met l yX3_setBore wsX3_setBore ({ frames := 0, cells := 0, slots := 0, locals := 0 }) (va_Pc [.ref t0, .int p0, .int p1] (mB G A Mw)) (va_Qv (fun Mw1 => Mw1 = mu Mw b0 (.inl (G.2.1 0, 20, .inl (upd bf p0.toNatClampNeg p1)))) (mE G A) A) 0 0 A := by
  refine Met.ofW (cc := cX3_setBore) (maxL := 3) (ret := none) (by decide) rfl ?_
  intro p e s m args below meth c s₁ B hml hv
  obtain ⟨rfl, hG, hP, hI, hA⟩ := hv
  have hx := B.exec
  have hb := B.bytes
  have hr := B.returns
  have hts := atoms_spec (ws := wsX3_setBore) B.pre
  have hown : s.vm.findClass RX3 = some m.cls := findClass_of_methodNamed B.named
  have hlocks := B.notSynchronized
  have hK := hG.K
  have i_X3 : ∀ w ∈ wsX30, w ∈ wsX3_setBore := by decide +kernel
  have hS : va_S A s.heap s.heap [] := va_S.rf
  have hl := lv_entry ([.ref t0, .int p0, .int p1]) (n := 3) (Nat.le_of_ble_eq_true rfl)
  rw [lg_entry_eq]
  generalize (lg_sl ([.ref t0, .int p0, .int p1]) ++ List.replicate (3 - (lg_sl ([.ref t0, .int p0, .int p1])).length) Slot.unset).toArray = ls at hl ⊢
  have hl : lv_has ls 3 [(0, .ref t0), (1, .int p0), (2, .int p1)] := hl
  have hP : mP G.1 Mw s.heap := hP
  refine lv_iload_n hx hb dX3_setBore_0 rfl (lv_at hl 1 rfl) ?_
  refine lv_if_lt (tgt := 20) hx hb dX3_setBore_1 (by decide) (fun c1 => absurd c1 hlo) (fun c1 => ?_)
  refine lv_iload_n hx hb dX3_setBore_4 rfl (lv_at hl 1 rfl) ?_
  refine lv_aload_n hx hb dX3_setBore_5 rfl (lv_at hl 0 rfl) ?_
  refine m_get (ci := 3) (v := .ref b0) (C := RX3) (T := TX3) (N := 2) hx hb hts i_X3 hown hK (hP _ _ h_T) rfl 0 (by decide) (hts (.fieldLink RX3 9 "Meniscus$Tube" "bores" "[I") (by decide +kernel)) (fun _ h9 => h9) rfl dX3_setBore_6 ?_
  refine m_alen (v := 20) hx hb hK 0 (hP _ _ h_B) rfl rfl dX3_setBore_9 ?_
  refine lv_icmp_ge (tgt := 20) hx hb dX3_setBore_10 (by decide) (fun c2 => absurd c2 hhi) (fun c2 => ?_)
  refine lv_aload_n hx hb dX3_setBore_13 rfl (lv_at hl 0 rfl) ?_
  refine m_get (ci := 3) (v := .ref b0) (C := RX3) (T := TX3) (N := 2) hx hb hts i_X3 hown hK (hP _ _ h_T) rfl 0 (by decide) (hts (.fieldLink RX3 9 "Meniscus$Tube" "bores" "[I") (by decide +kernel)) (fun _ h9 => h9) rfl dX3_setBore_14 ?_
  refine lv_iload_n hx hb dX3_setBore_17 rfl (lv_at hl 1 rfl) ?_
  refine lv_iload_n hx hb dX3_setBore_18 rfl (lv_at hl 2 rfl) ?_
  refine m_iast hx hb hK hP hI hS 0 h_B rfl (vin_of hlo (by omega) hhi) dX3_setBore_19 (fun H locs hP hI hS => ?_)
  have h_T := mu_k (e := .inl (G.2.1 0, 20, .inl (upd bf p0.toNatClampNeg p1))) (kd_ne h_T h_B rfl) h_T
  have h_B : (mu Mw b0 (.inl (G.2.1 0, 20, .inl (upd bf p0.toNatClampNeg p1)))) b0 = some (.inl (G.2.1 0, 20, .inl (upd bf p0.toNatClampNeg p1))) := mu_s
  refine W.widen (k := 0) (n := 0) (Nat.le_of_ble_eq_true rfl) (Nat.le_of_ble_eq_true rfl) ?_
  exact W.vret hx hb hr (fun t99 ht99 hW99 => ⟨⟨(mu Mw b0 (.inl (G.2.1 0, 20, .inl (upd bf p0.toNatClampNeg p1)))), rfl, rfl, by rw [ht99]; exact hP, hI⟩, hS.F ht99⟩) hS.2.2 dX3_setBore_20

set_option maxHeartbeats 4000000 in
set_option maxRecDepth 100000 in
theorem c_X3_firstPlaceHolding (l : Launch) (G : mg) (A : Nat → Prop) (Mw : mw) (p0 : Int32) {t0 b0 : Nat} {us0 : Int32} {bf : Nat → Int32} (h_T : Mw t0 = some (.inr (3, [.ref b0, .int us0]))) (h_B : Mw b0 = some (.inl (G.2.1 0, 20, .inl bf))) : Met l yX3_firstPlaceHolding wsX3_firstPlaceHolding ({ frames := 3, cells := 0, slots := 0, locals := 65 }) (va_Pc [.ref t0, .int p0] (mB G A Mw)) (va_Qi (fun r Mw1 => fphR bf p0 r ∧ Mw1 = Mw) (mE G A) A) 0 0 A := by
  refine Met.ofW (cc := cX3_firstPlaceHolding) (maxL := 3) (ret := (some .int)) (by decide) rfl ?_
  intro p e s m args below meth c s₁ B hml hv
  obtain ⟨rfl, hG, hP, hI, hA⟩ := hv
  have hx := B.exec
  have hb := B.bytes
  have hr := B.returns
  have hts := atoms_spec (ws := wsX3_firstPlaceHolding) B.pre
  have hown : s.vm.findClass RX3 = some m.cls := findClass_of_methodNamed B.named
  have hlocks := B.notSynchronized
  have hK := hG.K
  have hS : va_S A s.heap s.heap [] := va_S.rf
  have hl := lv_entry ([.ref t0, .int p0]) (n := 3) (Nat.le_of_ble_eq_true rfl)
  rw [lg_entry_eq]
  generalize (lg_sl ([.ref t0, .int p0]) ++ List.replicate (3 - (lg_sl ([.ref t0, .int p0])).length) Slot.unset).toArray = ls at hl ⊢
  have hl : lv_has ls 3 [(0, .ref t0), (1, .int p0)] := hl
  have hP : mP G.1 Mw s.heap := hP
  refine lv_iconst (v := 0) hx hb dX3_firstPlaceHolding_0 (by decide) ?_
  refine lv_istore_n (lv' := [(2, .int 0), (0, .ref t0), (1, .int p0)]) hx hb dX3_firstPlaceHolding_1 rfl hl (by decide) rfl (fun ls hl => ?_)
  have loop : ∀ (n k : Nat) (hj : ∀ j, j < k → vsum bf (nI j) 20 < p0), k ≤ 201 → k + n = 201 + 1 → ∀ (H : Heap) (locs : List Loc) (ls : Array Slot), mP G.1 (Mw) H → mI A (Mw) → va_S A s.heap H locs → lv_has ls 3 [(0, .ref t0), (1, .int p0), (2, .int (nI k))] → W p l e ({ frames := 3, cells := 0, slots := 0, locals := 65 }) s m ([.ref t0, .int p0] : List Value).toArray below meth c H locs 0 0 (MQ below (va_Qi (fun r Mw1 => fphR bf p0 r ∧ Mw1 = Mw) (mE G A) A) ([.ref t0, .int p0] : List Value).toArray s 0 0 A) (F0 m 2 ls []) := by
    intro n
    induction n with
    | zero => intro k hj hk1 hk2; omega
    | succ n ih_loop =>
      intro k hj hk1 hk2 H locs ls hP hI hS hl
      refine lv_iload_n hx hb dX3_firstPlaceHolding_2 rfl (lv_at hl 2 rfl) ?_
      refine lv_sipush (v := (200)) hx hb dX3_firstPlaceHolding_3 (by decide) ?_
      refine lv_icmp_gt (tgt := 26) hx hb dX3_firstPlaceHolding_6 (by decide) (fun c1 => ?_) (fun c1 => ?_)
      · skip
        have hk3 : 200 < k := (nI_ltI (a := 200) (b := k) (by omega) (by omega)).mp c1
        refine lv_iconst (v := (-1)) hx hb dX3_firstPlaceHolding_26 (by decide) ?_
        refine W.widen (k := 0) (n := 0) (Nat.le_of_ble_eq_true rfl) (Nat.le_of_ble_eq_true rfl) ?_
        exact W.iret (v := (-1)) hx hb hr (fun t99 ht99 hW99 => ⟨⟨(-1), Mw, rfl, ⟨Or.inr ⟨rfl, fun j hj9 => hj j (by omega)⟩, rfl⟩, by rw [ht99]; exact hP, hI⟩, hS.F ht99⟩) hS.2.2 dX3_firstPlaceHolding_27
      · skip
        have hk3 : k ≤ 200 := Nat.le_of_not_lt (fun q => c1 (nI_lt (a := 200) q (by omega)))
        refine lv_aload_n hx hb dX3_firstPlaceHolding_9 rfl (lv_at hl 0 rfl) ?_
        refine lv_iload_n hx hb dX3_firstPlaceHolding_10 rfl (lv_at hl 2 rfl) ?_
        refine m_calli (va_runV (As := [.int (nI k)]) (rest := []) ⟨hx, hb, hml, hown, hts⟩ (c_X3_volumeUpTo l G A Mw  (nI k) h_T h_B) (cwV 1 hts gX3_firstPlaceHolding_X3_volumeUpTo rfl rfl rfl (by decide +kernel) ⟨Nat.le_of_ble_eq_true rfl, Nat.le_of_ble_eq_true rfl⟩) (mPreV hG hS hP hI hA (hP _ _ h_T) (r := (RX3, TX3, 2)) rfl) rfl rfl hl.1 rfl (lv_room (Nat.le_of_ble_eq_true rfl)) dX3_firstPlaceHolding_11 ⟨Nat.le_of_ble_eq_true rfl, Nat.le_of_ble_eq_true rfl⟩) hS (fun r2 Mw1 H locs hp_r2 hP hI hS => ?_)
        obtain ⟨hp_r2, hm9⟩ := hp_r2
        subst Mw1
        refine lv_iload_n hx hb dX3_firstPlaceHolding_14 rfl (lv_at hl 1 rfl) ?_
        refine lv_icmp_lt (tgt := 20) hx hb dX3_firstPlaceHolding_15 (by decide) (fun c3 => ?_) (fun c3 => ?_)
        · skip
          refine lv_iinc (v := (nI k) + 1) (lv' := [(2, .int ((nI k) + 1)), (0, .ref t0), (1, .int p0)]) hx hb dX3_firstPlaceHolding_20 hl (k := 2) rfl rfl (by decide) rfl (fun ls hl => ?_)
          refine lv_goto (tgt := 2) hx hb dX3_firstPlaceHolding_23 (by decide) ?_
          have e_2 : (nI k) + 1 = nI (k + 1) := nI_1 k
          rw [e_2] at hl
          exact ih_loop (k + 1) (fun j q => (Nat.lt_or_ge j k).elim (fun q2 => hj j q2) (fun q2 => by rw [show j = k by omega, ← hp_r2]; exact c3)) (by omega) (by omega) H locs ls hP hI hS (lv_sub hl [1, 2, 0] rfl)
        · skip
          refine lv_iload_n hx hb dX3_firstPlaceHolding_18 rfl (lv_at hl 2 rfl) ?_
          refine W.widen (k := 0) (n := 0) (Nat.le_of_ble_eq_true rfl) (Nat.le_of_ble_eq_true rfl) ?_
          exact W.iret (v := nI k) hx hb hr (fun t99 ht99 hW99 => ⟨⟨nI k, Mw, rfl, ⟨Or.inl ⟨k, by omega, rfl, by rw [← hp_r2]; exact c3, hj⟩, rfl⟩, by rw [ht99]; exact hP, hI⟩, hS.F ht99⟩) hS.2.2 dX3_firstPlaceHolding_19
  exact loop (201 + 1 - 0) 0 (fun _ q => absurd q (Nat.not_lt_zero _)) (by omega) (by omega) _ _ _ hP hI hS (lv_sub hl [1, 2, 0] rfl)

set_option maxHeartbeats 4000000 in
set_option maxRecDepth 100000 in
theorem c_X3_widestSection (l : Launch) (G : mg) (A : Nat → Prop) (Mw : mw) {t0 b0 : Nat} {us0 : Int32} {bf : Nat → Int32} (h_T : Mw t0 = some (.inr (3, [.ref b0, .int us0]))) (h_B : Mw b0 = some (.inl (G.2.1 0, 20, .inl bf))) : Met l yX3_widestSection wsX3_widestSection ({ frames := 1, cells := 0, slots := 0, locals := 21 }) (va_Pc [.ref t0] (mB G A Mw)) (va_Qi (fun r Mw1 => r = (wid bf 20) ∧ Mw1 = Mw) (mE G A) A) 0 0 A := by
  refine Met.ofW (cc := cX3_widestSection) (maxL := 3) (ret := (some .int)) (by decide) rfl ?_
  intro p e s m args below meth c s₁ B hml hv
  obtain ⟨rfl, hG, hP, hI, hA⟩ := hv
  have hx := B.exec
  have hb := B.bytes
  have hr := B.returns
  have hts := atoms_spec (ws := wsX3_widestSection) B.pre
  have hown : s.vm.findClass RX3 = some m.cls := findClass_of_methodNamed B.named
  have hlocks := B.notSynchronized
  have hK := hG.K
  have i_X3 : ∀ w ∈ wsX30, w ∈ wsX3_widestSection := by decide +kernel
  have hS : va_S A s.heap s.heap [] := va_S.rf
  have hl := lv_entry ([.ref t0]) (n := 3) (Nat.le_of_ble_eq_true rfl)
  rw [lg_entry_eq]
  generalize (lg_sl ([.ref t0]) ++ List.replicate (3 - (lg_sl ([.ref t0])).length) Slot.unset).toArray = ls at hl ⊢
  have hl : lv_has ls 3 [(0, .ref t0)] := hl
  have hP : mP G.1 Mw s.heap := hP
  refine lv_iconst (v := 0) hx hb dX3_widestSection_0 (by decide) ?_
  refine lv_istore_n (lv' := [(1, .int 0), (0, .ref t0)]) hx hb dX3_widestSection_1 rfl hl (by decide) rfl (fun ls hl => ?_)
  refine lv_iconst (v := 1) hx hb dX3_widestSection_2 (by decide) ?_
  refine lv_istore_n (lv' := [(2, .int 1), (1, .int 0), (0, .ref t0)]) hx hb dX3_widestSection_3 rfl hl (by decide) rfl (fun ls hl => ?_)
  have loop : ∀ (n k : Nat), k ≤ 20 → k + n = 20 + 1 → ∀ (H : Heap) (locs : List Loc) (ls : Array Slot), mP G.1 (Mw) H → mI A (Mw) → va_S A s.heap H locs → lv_has ls 3 [(0, .ref t0), (1, .int (wid bf k)), (2, .int (nI k))] → W p l e ({ frames := 1, cells := 0, slots := 0, locals := 21 }) s m ([.ref t0] : List Value).toArray below meth c H locs 0 0 (MQ below (va_Qi (fun r Mw1 => r = (wid bf 20) ∧ Mw1 = Mw) (mE G A) A) ([.ref t0] : List Value).toArray s 0 0 A) (F0 m 4 ls []) := by
    intro n
    induction n with
    | zero => intro k hk1 hk2; omega
    | succ n ih_loop =>
      intro k hk1 hk2 H locs ls hP hI hS hl
      refine lv_iload_n hx hb dX3_widestSection_4 rfl (lv_at hl 2 rfl) ?_
      refine lv_aload_n hx hb dX3_widestSection_5 rfl (lv_at hl 0 rfl) ?_
      refine m_get (ci := 3) (v := .ref b0) (C := RX3) (T := TX3) (N := 2) hx hb hts i_X3 hown hK (hP _ _ h_T) rfl 0 (by decide) (hts (.fieldLink RX3 9 "Meniscus$Tube" "bores" "[I") (by decide +kernel)) (fun _ h9 => h9) rfl dX3_widestSection_6 ?_
      refine m_alen (v := 20) hx hb hK 0 (hP _ _ h_B) rfl rfl dX3_widestSection_9 ?_
      refine lv_icmp_ge (tgt := 35) hx hb dX3_widestSection_10 (by decide) (fun c1 => ?_) (fun c1 => ?_)
      · skip
        have hk3 : 20 ≤ k := (nI_leI (a := 20) (b := k) (by omega) (by omega)).mp c1
        refine lv_iload_n hx hb dX3_widestSection_35 rfl (lv_at hl 1 rfl) ?_
        refine W.widen (k := 0) (n := 0) (Nat.le_of_ble_eq_true rfl) (Nat.le_of_ble_eq_true rfl) ?_
        exact W.iret (v := wid bf k) hx hb hr (fun t99 ht99 hW99 => ⟨⟨wid bf k, Mw, rfl, ⟨by rw [show k = 20 by omega], rfl⟩, by rw [ht99]; exact hP, hI⟩, hS.F ht99⟩) hS.2.2 dX3_widestSection_36
      · skip
        have hk3 : k < 20 := Nat.lt_of_not_le (fun q => c1 (nI_le (a := 20) q (by omega)))
        refine lv_aload_n hx hb dX3_widestSection_13 rfl (lv_at hl 0 rfl) ?_
        refine m_get (ci := 3) (v := .ref b0) (C := RX3) (T := TX3) (N := 2) hx hb hts i_X3 hown hK (hP _ _ h_T) rfl 0 (by decide) (hts (.fieldLink RX3 9 "Meniscus$Tube" "bores" "[I") (by decide +kernel)) (fun _ h9 => h9) rfl dX3_widestSection_14 ?_
        refine lv_iload_n hx hb dX3_widestSection_17 rfl (lv_at hl 2 rfl) ?_
        refine m_iald hx hb hK 0 (hP _ _ h_B) rfl (vp_in_nI (by omega) (by omega)) dX3_widestSection_18 ?_
        rw [nI_clamp (show k < 2 ^ 31 by omega)]
        refine lv_aload_n hx hb dX3_widestSection_19 rfl (lv_at hl 0 rfl) ?_
        refine lv_iload_n hx hb dX3_widestSection_20 rfl (lv_at hl 1 rfl) ?_
        refine m_calli (va_runV (As := [.int (wid bf k)]) (rest := [.int (bf k)]) ⟨hx, hb, hml, hown, hts⟩ (c_X3_boreOf l G A Mw  (wid bf k) h_T h_B) (cwV 1 hts gX3_widestSection_X3_boreOf rfl rfl rfl (by decide +kernel) ⟨Nat.le_of_ble_eq_true rfl, Nat.le_of_ble_eq_true rfl⟩) (mPreV hG hS hP hI hA (hP _ _ h_T) (r := (RX3, TX3, 2)) rfl) rfl rfl hl.1 rfl (lv_room (Nat.le_of_ble_eq_true rfl)) dX3_widestSection_21 ⟨Nat.le_of_ble_eq_true rfl, Nat.le_of_ble_eq_true rfl⟩) hS (fun r2 Mw1 H locs hp_r2 hP hI hS => ?_)
        obtain ⟨hp_r2, hm9⟩ := hp_r2
        subst Mw1
        refine lv_icmp_le (tgt := 29) hx hb dX3_widestSection_24 (by decide) (fun c3 => ?_) (fun c3 => ?_)
        · skip
          refine lv_iinc (v := (nI k) + 1) (lv' := [(2, .int ((nI k) + 1)), (0, .ref t0), (1, .int (wid bf k))]) hx hb dX3_widestSection_29 hl (k := 2) rfl rfl (by decide) rfl (fun ls hl => ?_)
          refine lv_goto (tgt := 4) hx hb dX3_widestSection_32 (by decide) ?_
          have e_2 : (nI k) + 1 = nI (k + 1) := nI_1 k
          rw [e_2] at hl
          have e_1 : wid bf k = wid bf (k + 1) := (if_neg (by rw [← hp_r2]; exact i_nlt c3)).symm
          rw [e_1] at hl
          exact ih_loop (k + 1) (by omega) (by omega) H locs ls hP hI hS (lv_sub hl [1, 2, 0] rfl)
        · skip
          refine lv_iload_n hx hb dX3_widestSection_27 rfl (lv_at hl 2 rfl) ?_
          refine lv_istore_n (lv' := [(1, .int (nI k)), (0, .ref t0), (2, .int (nI k))]) hx hb dX3_widestSection_28 rfl hl (by decide) rfl (fun ls hl => ?_)
          refine lv_iinc (v := (nI k) + 1) (lv' := [(2, .int ((nI k) + 1)), (1, .int (nI k)), (0, .ref t0)]) hx hb dX3_widestSection_29 hl (k := 2) rfl rfl (by decide) rfl (fun ls hl => ?_)
          refine lv_goto (tgt := 4) hx hb dX3_widestSection_32 (by decide) ?_
          have e_2 : (nI k) + 1 = nI (k + 1) := nI_1 k
          rw [e_2] at hl
          have e_1 : nI k = wid bf (k + 1) := (if_pos (by rw [← hp_r2]; exact i_lt c3)).symm
          rw [e_1] at hl
          exact ih_loop (k + 1) (by omega) (by omega) H locs ls hP hI hS (lv_sub hl [2, 1, 0] rfl)
  have e0_1 : (0 : Int32) = wid bf 1 := wid_1 bf
  rw [show lv_has ls 3 [(2, .int 1), (1, .int 0), (0, .ref t0)] = lv_has ls 3 [(2, .int 1), (1, .int (wid bf 1)), (0, .ref t0)] from by rw [← e0_1]] at hl
  exact loop (20 + 1 - 1) 1 (by omega) (by omega) _ _ _ hP hI hS (lv_sub hl [2, 1, 0] rfl)

set_option maxHeartbeats 4000000 in
set_option maxRecDepth 100000 in
theorem c_X3_clinging (l : Launch) (G : mg) (A : Nat → Prop) (Mw : mw) (p0 p1 p2 : Int32) {t0 b0 : Nat} {us0 : Int32} {bf : Nat → Int32} (h_T : Mw t0 = some (.inr (3, [.ref b0, .int us0]))) (h_B : Mw b0 = some (.inl (G.2.1 0, 20, .inl bf))) : Met l yX3_clinging wsX3_clinging ({ frames := 2, cells := 0, slots := 0, locals := 42 }) (va_Pc [.ref t0, .int p0, .int p1, .int p2] (mB G A Mw)) (va_Qi (fun r Mw1 => r = (csum bf p0 p1 p2 20) ∧ Mw1 = Mw) (mE G A) A) 0 0 A := by
  refine Met.ofW (cc := cX3_clinging) (maxL := 7) (ret := (some .int)) (by decide) rfl ?_
  intro p e s m args below meth c s₁ B hml hv
  obtain ⟨rfl, hG, hP, hI, hA⟩ := hv
  have hx := B.exec
  have hb := B.bytes
  have hr := B.returns
  have hts := atoms_spec (ws := wsX3_clinging) B.pre
  have hown : s.vm.findClass RX3 = some m.cls := findClass_of_methodNamed B.named
  have hlocks := B.notSynchronized
  have hK := hG.K
  have i_X3 : ∀ w ∈ wsX30, w ∈ wsX3_clinging := by decide +kernel
  have hS : va_S A s.heap s.heap [] := va_S.rf
  have hl := lv_entry ([.ref t0, .int p0, .int p1, .int p2]) (n := 7) (Nat.le_of_ble_eq_true rfl)
  rw [lg_entry_eq]
  generalize (lg_sl ([.ref t0, .int p0, .int p1, .int p2]) ++ List.replicate (7 - (lg_sl ([.ref t0, .int p0, .int p1, .int p2])).length) Slot.unset).toArray = ls at hl ⊢
  have hl : lv_has ls 7 [(0, .ref t0), (1, .int p0), (2, .int p1), (3, .int p2)] := hl
  have hP : mP G.1 Mw s.heap := hP
  refine lv_iconst (v := 0) hx hb dX3_clinging_0 (by decide) ?_
  refine lv_istore (lv' := [(4, .int 0), (0, .ref t0), (1, .int p0), (2, .int p1), (3, .int p2)]) hx hb dX3_clinging_1 hl (by decide) rfl (fun ls hl => ?_)
  refine lv_iconst (v := 0) hx hb dX3_clinging_3 (by decide) ?_
  refine lv_istore (lv' := [(5, .int 0), (4, .int 0), (0, .ref t0), (1, .int p0), (2, .int p1), (3, .int p2)]) hx hb dX3_clinging_4 hl (by decide) rfl (fun ls hl => ?_)
  have loop : ∀ (n k : Nat), k ≤ 20 → k + n = 20 + 1 → ∀ (H : Heap) (locs : List Loc) (ls : Array Slot), mP G.1 (Mw) H → mI A (Mw) → va_S A s.heap H locs → lv_has ls 7 [(0, .ref t0), (1, .int p0), (2, .int p1), (3, .int p2), (4, .int (csum bf p0 p1 p2 k)), (5, .int (nI k))] → W p l e ({ frames := 2, cells := 0, slots := 0, locals := 42 }) s m ([.ref t0, .int p0, .int p1, .int p2] : List Value).toArray below meth c H locs 0 0 (MQ below (va_Qi (fun r Mw1 => r = (csum bf p0 p1 p2 20) ∧ Mw1 = Mw) (mE G A) A) ([.ref t0, .int p0, .int p1, .int p2] : List Value).toArray s 0 0 A) (F0 m 6 ls []) := by
    intro n
    induction n with
    | zero => intro k hk1 hk2; omega
    | succ n ih_loop =>
      intro k hk1 hk2 H locs ls hP hI hS hl
      refine lv_iload hx hb dX3_clinging_6 (lv_at hl 5 rfl) ?_
      refine lv_aload_n hx hb dX3_clinging_8 rfl (lv_at hl 0 rfl) ?_
      refine m_get (ci := 3) (v := .ref b0) (C := RX3) (T := TX3) (N := 2) hx hb hts i_X3 hown hK (hP _ _ h_T) rfl 0 (by decide) (hts (.fieldLink RX3 9 "Meniscus$Tube" "bores" "[I") (by decide +kernel)) (fun _ h9 => h9) rfl dX3_clinging_9 ?_
      refine m_alen (v := 20) hx hb hK 0 (hP _ _ h_B) rfl rfl dX3_clinging_12 ?_
      refine lv_icmp_ge (tgt := 56) hx hb dX3_clinging_13 (by decide) (fun c1 => ?_) (fun c1 => ?_)
      · skip
        have hk3 : 20 ≤ k := (nI_leI (a := 20) (b := k) (by omega) (by omega)).mp c1
        refine lv_iload hx hb dX3_clinging_56 (lv_at hl 4 rfl) ?_
        refine W.widen (k := 0) (n := 0) (Nat.le_of_ble_eq_true rfl) (Nat.le_of_ble_eq_true rfl) ?_
        exact W.iret (v := csum bf p0 p1 p2 k) hx hb hr (fun t99 ht99 hW99 => ⟨⟨csum bf p0 p1 p2 k, Mw, rfl, ⟨by rw [show k = 20 by omega], rfl⟩, by rw [ht99]; exact hP, hI⟩, hS.F ht99⟩) hS.2.2 dX3_clinging_58
      · skip
        have hk3 : k < 20 := Nat.lt_of_not_le (fun q => c1 (nI_le (a := 20) q (by omega)))
        refine lv_iload_n hx hb dX3_clinging_16 rfl (lv_at hl 2 rfl) ?_
        refine lv_iload hx hb dX3_clinging_17 (lv_at hl 5 rfl) ?_
        refine m_calli (va_runS (As := [.int p1, .int (nI k)]) (rest := []) ⟨hx, hb, hml, hown, hts⟩ (c_X3_stepsBelow l G A Mw  p1 (nI k)) (va_cwS 2 hts gX3_clinging_X3_stepsBelow rfl rfl rfl (by decide +kernel) ⟨Nat.le_of_ble_eq_true rfl, Nat.le_of_ble_eq_true rfl⟩) (mPreS hG hS hP hI hA) rfl rfl hl.1 rfl (lv_room (Nat.le_of_ble_eq_true rfl)) dX3_clinging_19 ⟨Nat.le_of_ble_eq_true rfl, Nat.le_of_ble_eq_true rfl⟩) hS (fun r2 Mw1 H locs hp_r2 hP hI hS => ?_)
        obtain ⟨hp_r2, hm9⟩ := hp_r2
        subst Mw1
        refine lv_iload_n hx hb dX3_clinging_22 rfl (lv_at hl 1 rfl) ?_
        refine lv_iload hx hb dX3_clinging_23 (lv_at hl 5 rfl) ?_
        refine m_calli (va_runS (As := [.int p0, .int (nI k)]) (rest := [.int r2]) ⟨hx, hb, hml, hown, hts⟩ (c_X3_stepsBelow l G A Mw  p0 (nI k)) (va_cwS 2 hts gX3_clinging_X3_stepsBelow rfl rfl rfl (by decide +kernel) ⟨Nat.le_of_ble_eq_true rfl, Nat.le_of_ble_eq_true rfl⟩) (mPreS hG hS hP hI hA) rfl rfl hl.1 rfl (lv_room (Nat.le_of_ble_eq_true rfl)) dX3_clinging_25 ⟨Nat.le_of_ble_eq_true rfl, Nat.le_of_ble_eq_true rfl⟩) hS (fun r3 Mw1 H locs hp_r3 hP hI hS => ?_)
        obtain ⟨hp_r3, hm9⟩ := hp_r3
        subst Mw1
        refine lv_isub hx hb dX3_clinging_28 ?_
        refine lv_istore (lv' := [(6, .int (r2 - r3)), (0, .ref t0), (1, .int p0), (2, .int p1), (3, .int p2), (4, .int (csum bf p0 p1 p2 k)), (5, .int (nI k))]) hx hb dX3_clinging_29 hl (by decide) rfl (fun ls hl => ?_)
        refine lv_iload hx hb dX3_clinging_31 (lv_at hl 5 rfl) ?_
        refine lv_iload hx hb dX3_clinging_33 (lv_at hl 0 rfl) ?_
        refine lv_iload_n hx hb dX3_clinging_35 rfl (lv_at hl 4 rfl) ?_
        refine lv_aload_n hx hb dX3_clinging_36 rfl (lv_at hl 1 rfl) ?_
        refine m_get (ci := 3) (v := .ref b0) (C := RX3) (T := TX3) (N := 2) hx hb hts i_X3 hown hK (hP _ _ h_T) rfl 0 (by decide) (hts (.fieldLink RX3 9 "Meniscus$Tube" "bores" "[I") (by decide +kernel)) (fun _ h9 => h9) rfl dX3_clinging_37 ?_
        refine lv_iload hx hb dX3_clinging_40 (lv_at hl 6 rfl) ?_
        refine m_iald hx hb hK 0 (hP _ _ h_B) rfl (vp_in_nI (by omega) (by omega)) dX3_clinging_42 ?_
        rw [nI_clamp (show k < 2 ^ 31 by omega)]
        refine va_mmin hx hb (hml.trans hl.1.symm) hown (hts (.methodLink RX3 15 Lib.Math.min.name) (by decide +kernel)) (hts (.static Lib.Math.min.name) (by decide +kernel)) (hts (.initialized "java/lang/Math") (by decide +kernel)) (hts (.code Lib.Math.min.name Lib.Math.min.code 2 (some .int)) (by decide +kernel)) (Nat.le_of_ble_eq_true rfl) (Nat.le_of_ble_eq_true rfl) (Nat.le_of_ble_eq_true rfl) (Nat.le_of_ble_eq_true rfl) dX3_clinging_43 ?_
        refine lv_imul hx hb dX3_clinging_46 ?_
        refine lv_iadd hx hb dX3_clinging_47 ?_
        refine lv_istore (lv' := [(4, .int ((csum bf p0 p1 p2 k) + ((r2 - r3) * (m_min p2 (bf k))))), (6, .int (r2 - r3)), (0, .ref t0), (1, .int p0), (2, .int p1), (3, .int p2), (5, .int (nI k))]) hx hb dX3_clinging_48 hl (by decide) rfl (fun ls hl => ?_)
        refine lv_iinc (v := (nI k) + 1) (lv' := [(5, .int ((nI k) + 1)), (4, .int ((csum bf p0 p1 p2 k) + ((r2 - r3) * (m_min p2 (bf k))))), (6, .int (r2 - r3)), (0, .ref t0), (1, .int p0), (2, .int p1), (3, .int p2)]) hx hb dX3_clinging_50 hl (k := 6) rfl rfl (by decide) rfl (fun ls hl => ?_)
        refine lv_goto (tgt := 6) hx hb dX3_clinging_53 (by decide) ?_
        have e_5 : (nI k) + 1 = nI (k + 1) := nI_1 k
        rw [e_5] at hl
        have e_4 : (csum bf p0 p1 p2 k) + ((r2 - r3) * (m_min p2 (bf k))) = csum bf p0 p1 p2 (k + 1) := by rw [hp_r2, hp_r3]; rfl
        rw [e_4] at hl
        exact ih_loop (k + 1) (by omega) (by omega) H locs ls hP hI hS (lv_sub hl [3, 4, 5, 6, 1, 0] rfl)
  exact loop (20 + 1 - 0) 0 (by omega) (by omega) _ _ _ hP hI hS (lv_sub hl [2, 3, 4, 5, 1, 0] rfl)

set_option maxHeartbeats 4000000 in
set_option maxRecDepth 100000 in
theorem c_X3_init (l : Launch) (G : mg) (A : Nat → Prop) (Mw : mw) (p0 p1 : Int32) {t0 : Nat} (h_T : Mw t0 = some (.inr (3, [.null, .int 0]))) : Met l yX3_init wsX3_init ({ frames := 1, cells := 1, slots := 20, locals := 21 }) (va_Pc [.ref t0, .int p0, .int p1] (mB G A Mw)) (va_Qv (fun Mw1 => ∃ q9 : Nat, Mw q9 = none ∧ q9 ≠ t0 ∧ Mw1 = mu (mu Mw t0 (.inr (3, [.ref q9, .int 0]))) q9 (.inl (G.2.1 0, 20, .inl (dboU p0 p1 20)))) (mE G A) A) 1 20 A := by
  refine Met.ofW (cc := cX3_init) (maxL := 4) (ret := none) (by decide) rfl ?_
  intro p e s m args below meth c s₁ B hml hv
  obtain ⟨rfl, hG, hP, hI, hA⟩ := hv
  have hx := B.exec
  have hb := B.bytes
  have hr := B.returns
  have hts := atoms_spec (ws := wsX3_init) B.pre
  have hown : s.vm.findClass RX3 = some m.cls := findClass_of_methodNamed B.named
  have hlocks := B.notSynchronized
  have hK := hG.K
  have hin : meth.name = "<init>" := (name_of_methodNamed B.named B.method).1
  have i_X3 : ∀ w ∈ wsX30, w ∈ wsX3_init := by decide +kernel
  have hS : va_S A s.heap s.heap [] := va_S.rf
  have hl := lv_entry ([.ref t0, .int p0, .int p1]) (n := 4) (Nat.le_of_ble_eq_true rfl)
  rw [lg_entry_eq]
  generalize (lg_sl ([.ref t0, .int p0, .int p1]) ++ List.replicate (4 - (lg_sl ([.ref t0, .int p0, .int p1])).length) Slot.unset).toArray = ls at hl ⊢
  have hl : lv_has ls 4 [(0, .ref t0), (1, .int p0), (2, .int p1)] := hl
  have hP : mP G.1 Mw s.heap := hP
  have h_T00 := h_T
  refine lv_aload_n hx hb dX3_init_0 rfl (lv_at hl 0 rfl) ?_
  refine W.objInit hx hb hown (hts (.methodLink RX3 3 objectInit) (by decide +kernel)) (hts (.instanceMethod objectInit) (by decide +kernel)) (hts (.code objectInit ⟨#[0xb1]⟩ 1 none) (by decide +kernel)) rfl (by rw [hml]; exact hl.1) rfl dX3_init_1 (Nat.le_of_ble_eq_true rfl) (Nat.le_of_ble_eq_true rfl) ?_
  refine W.eq (g2 := F0 m 4 ls []) rfl ?_
  refine lv_aload_n hx hb dX3_init_4 rfl (lv_at hl 0 rfl) ?_
  refine lv_bipush (v := (20)) hx hb dX3_init_5 (by decide) ?_
  refine m_newa (atype := .int) (a0 := (20, .inl (fun _ => 0))) hx hb (hts (.arrayClass .int) (by decide +kernel)) rfl hK hP hI hS hA (hK.2 0 _ rfl).2 (fun _ => rfl) (by decide) (by decide) (by decide) (Nat.le_of_ble_eq_true rfl) (Nat.le_of_ble_eq_true rfl) dX3_init_7 (fun q1 H hn_q1 hP hI hS => ?_)
  have h_T := mu_x (e := .inl (G.2.1 0, 20, .inl (fun _ => 0))) h_T hn_q1
  have h_q1 : (mu Mw q1 (.inl (G.2.1 0, 20, .inl (fun _ => 0)))) q1 = some (.inl (G.2.1 0, 20, .inl (fun _ => 0))) := mu_s
  refine m_putF (ci := 3) (v := .ref q1) (ty := .array .int) (C := RX3) (T := TX3) (N := 2) hx hb hts i_X3 tyX3 tyX3_ok nmX3 hown hK hP hI hS h_T rfl 0 (by decide) (hts (.fieldLink RX3 9 "Meniscus$Tube" "bores" "[I") (by decide +kernel)) (fun _ h9 => h9) rfl hin rfl (by decide +kernel) rfl rfl (Nat.le_of_ble_eq_true rfl) dX3_init_9 (fun H locs hP hI hS => ?_)
  have hP : mP G.1 (mu (mu Mw q1 (.inl (G.2.1 0, 20, .inl (fun _ => 0)))) t0 (.inr (3, [.ref q1, .int 0]))) H := hP
  have hI : mI A (mu (mu Mw q1 (.inl (G.2.1 0, 20, .inl (fun _ => 0)))) t0 (.inr (3, [.ref q1, .int 0]))) := hI
  have h_q1 := mu_k (e := .inr (3, [.ref q1, .int 0])) (kd_ne h_q1 h_T rfl) h_q1
  have h_T : (mu (mu Mw q1 (.inl (G.2.1 0, 20, .inl (fun _ => 0)))) t0 (.inr (3, [.ref q1, .int 0]))) t0 = some (.inr (3, [.ref q1, .int 0])) := mu_s
  refine lv_iconst (v := 0) hx hb dX3_init_12 (by decide) ?_
  refine lv_istore_n (lv' := [(3, .int 0), (0, .ref t0), (1, .int p0), (2, .int p1)]) hx hb dX3_init_13 rfl hl (by decide) rfl (fun ls hl => ?_)
  have ne_h_T_h_q1 := (kd_ne h_T h_q1 rfl)
  have loop : ∀ (n k : Nat), k ≤ 20 → k + n = 20 + 1 → ∀ (Mv_loop : mw) (H : Heap) (locs : List Loc) (ls : Array Slot), Mv_loop q1 = some (.inl (G.2.1 0, 20, .inl (dboU p0 p1 k))) → (∀ x : Nat, x ≠ q1 → Mv_loop x = (mu (mu Mw q1 (.inl (G.2.1 0, 20, .inl (fun _ => 0)))) t0 (.inr (3, [.ref q1, .int 0]))) x) → mP G.1 Mv_loop H → mI A Mv_loop → va_S A s.heap H locs → lv_has ls 4 [(0, .ref t0), (1, .int p0), (2, .int p1), (3, .int (nI k))] → W p l e ({ frames := 1, cells := 1, slots := 20, locals := 21 }) s m ([.ref t0, .int p0, .int p1] : List Value).toArray below meth c H locs 1 20 (MQ below (va_Qv (fun Mw1 => ∃ q9 : Nat, Mw q9 = none ∧ q9 ≠ t0 ∧ Mw1 = mu (mu Mw t0 (.inr (3, [.ref q9, .int 0]))) q9 (.inl (G.2.1 0, 20, .inl (dboU p0 p1 20)))) (mE G A) A) ([.ref t0, .int p0, .int p1] : List Value).toArray s 1 20 A) (F0 m 14 ls []) := by
    intro n
    induction n with
    | zero => intro k hk1 hk2; omega
    | succ n ih_loop =>
      intro k hk1 hk2 Mv_loop H locs ls h_q1 hfr_loop hP hI hS hl
      have h_T := (hfr_loop _ ne_h_T_h_q1).trans h_T
      refine lv_iload_n hx hb dX3_init_14 rfl (lv_at hl 3 rfl) ?_
      refine lv_aload_n hx hb dX3_init_15 rfl (lv_at hl 0 rfl) ?_
      refine m_get (ci := 3) (v := .ref q1) (C := RX3) (T := TX3) (N := 2) hx hb hts i_X3 hown hK (hP _ _ h_T) rfl 0 (by decide) (hts (.fieldLink RX3 9 "Meniscus$Tube" "bores" "[I") (by decide +kernel)) (fun _ h9 => h9) rfl dX3_init_16 ?_
      refine m_alen (v := 20) hx hb hK 0 (hP _ _ h_q1) rfl rfl dX3_init_19 ?_
      refine lv_icmp_ge (tgt := 49) hx hb dX3_init_20 (by decide) (fun c2 => ?_) (fun c2 => ?_)
      · skip
        have hk3 : 20 ≤ k := (nI_leI (a := 20) (b := k) (by omega) (by omega)).mp c2
        refine W.widen (k := 1) (n := 20) (Nat.le_of_ble_eq_true rfl) (Nat.le_of_ble_eq_true rfl) ?_
        exact W.vret hx hb hr (fun t99 ht99 hW99 => ⟨⟨Mv_loop, rfl, ⟨q1, hn_q1, (fun z => by rw [← z, hn_q1] at h_T00; cases h_T00), mw_ext2 h_T (by rw [h_q1, show k = 20 by omega]) (fun z hz1 hz2 => (hfr_loop z hz2).trans ((mu_n hz1).trans (mu_n hz2)))⟩, by rw [ht99]; exact hP, hI⟩, hS.F ht99⟩) hS.2.2 dX3_init_49
      · skip
        have hk3 : k < 20 := Nat.lt_of_not_le (fun q => c2 (nI_le (a := 20) q (by omega)))
        refine lv_aload_n hx hb dX3_init_23 rfl (lv_at hl 0 rfl) ?_
        refine m_get (ci := 3) (v := .ref q1) (C := RX3) (T := TX3) (N := 2) hx hb hts i_X3 hown hK (hP _ _ h_T) rfl 0 (by decide) (hts (.fieldLink RX3 9 "Meniscus$Tube" "bores" "[I") (by decide +kernel)) (fun _ h9 => h9) rfl dX3_init_24 ?_
        refine lv_iload_n hx hb dX3_init_27 rfl (lv_at hl 3 rfl) ?_
        refine lv_iconst (v := 1) hx hb dX3_init_28 (by decide) ?_
        refine lv_bipush (v := (60)) hx hb dX3_init_29 (by decide) ?_
        refine lv_iload_n hx hb dX3_init_31 rfl (lv_at hl 1 rfl) ?_
        refine lv_iload_n hx hb dX3_init_32 rfl (lv_at hl 3 rfl) ?_
        refine lv_iload_n hx hb dX3_init_33 rfl (lv_at hl 2 rfl) ?_
        refine lv_imul hx hb dX3_init_34 ?_
        refine lv_iadd hx hb dX3_init_35 ?_
        refine va_mmin hx hb (hml.trans hl.1.symm) hown (hts (.methodLink RX3 15 Lib.Math.min.name) (by decide +kernel)) (hts (.static Lib.Math.min.name) (by decide +kernel)) (hts (.initialized "java/lang/Math") (by decide +kernel)) (hts (.code Lib.Math.min.name Lib.Math.min.code 2 (some .int)) (by decide +kernel)) (Nat.le_of_ble_eq_true rfl) (Nat.le_of_ble_eq_true rfl) (Nat.le_of_ble_eq_true rfl) (Nat.le_of_ble_eq_true rfl) dX3_init_36 ?_
        refine va_mmax hx hb (hml.trans hl.1.symm) hown (hts (.methodLink RX3 21 Lib.Math.max.name) (by decide +kernel)) (hts (.static Lib.Math.max.name) (by decide +kernel)) (hts (.initialized "java/lang/Math") (by decide +kernel)) (hts (.code Lib.Math.max.name Lib.Math.max.code 2 (some .int)) (by decide +kernel)) (Nat.le_of_ble_eq_true rfl) (Nat.le_of_ble_eq_true rfl) (Nat.le_of_ble_eq_true rfl) (Nat.le_of_ble_eq_true rfl) dX3_init_39 ?_
        refine m_iast hx hb hK hP hI hS 0 h_q1 rfl (vp_in_nI (by omega) (by omega)) dX3_init_42 (fun H locs hP hI hS => ?_)
        have h_T := mu_k (e := .inl (G.2.1 0, 20, .inl (upd (dboU p0 p1 k) ((nI k).toNatClampNeg) (m_max 1 (m_min 60 (p0 + ((nI k) * p1))))))) (kd_ne h_T h_q1 rfl) h_T
        have h_q1 : (mu Mv_loop q1 (.inl (G.2.1 0, 20, .inl (upd (dboU p0 p1 k) ((nI k).toNatClampNeg) (m_max 1 (m_min 60 (p0 + ((nI k) * p1)))))))) q1 = some (.inl (G.2.1 0, 20, .inl (upd (dboU p0 p1 k) ((nI k).toNatClampNeg) (m_max 1 (m_min 60 (p0 + ((nI k) * p1))))))) := mu_s
        refine lv_iinc (v := (nI k) + 1) (lv' := [(3, .int ((nI k) + 1)), (0, .ref t0), (1, .int p0), (2, .int p1)]) hx hb dX3_init_43 hl (k := 3) rfl rfl (by decide) rfl (fun ls hl => ?_)
        refine lv_goto (tgt := 14) hx hb dX3_init_46 (by decide) ?_
        have e_3 : (nI k) + 1 = nI (k + 1) := nI_1 k
        rw [e_3] at hl
        have e_h_q1 : (.inl (G.2.1 0, 20, .inl (upd (dboU p0 p1 k) ((nI k).toNatClampNeg) (m_max 1 (m_min 60 (p0 + ((nI k) * p1)))))) : va_E) = .inl (G.2.1 0, 20, .inl (dboU p0 p1 (k + 1))) := by rw [nI_clamp (show k < 2 ^ 31 by omega), ← dboU_s]; rfl
        exact ih_loop (k + 1) (by omega) (by omega) _ H locs ls (h_q1.trans (congrArg some e_h_q1)) (fun x h90 => (mu_n h90).trans (hfr_loop x h90)) hP hI hS (lv_sub hl [1, 2, 3, 0] rfl)
  exact loop (20 + 1 - 0) 0 (by omega) (by omega) _ _ _ _ (h_q1.trans (congrArg some (by rw [dboU_0 p0 p1]))) (fun _ _ => rfl) hP hI hS (lv_sub hl [1, 2, 3, 0] rfl)
end
section
set_option maxHeartbeats 4000000 in
set_option maxRecDepth 100000 in
theorem c_X2_init (l : Launch) (G : mg) (A : Nat → Prop) (Mw : mw) {sc0 : Nat} (t0 : Nat) (h_S : Mw sc0 = some (.inr (2, [.null, .int 0, .int 0, .int 0, .int 0]))) : Met l yX2_init wsX2_init ({ frames := 1, cells := 0, slots := 0, locals := 20 }) (va_Pc [.ref sc0, .ref t0] (mB G A Mw)) (va_Qv (fun Mw1 => Mw1 = mu Mw sc0 (.inr (2, [.ref t0, .int ((-1)), .int ((-1)), .int 0, .int 32]))) (mE G A) A) 0 0 A := by
  refine Met.ofW (cc := cX2_init) (maxL := 2) (ret := none) (by decide) rfl ?_
  intro p e s m args below meth c s₁ B hml hv
  obtain ⟨rfl, hG, hP, hI, hA⟩ := hv
  have hx := B.exec
  have hb := B.bytes
  have hr := B.returns
  have hts := atoms_spec (ws := wsX2_init) B.pre
  have hown : s.vm.findClass RX2 = some m.cls := findClass_of_methodNamed B.named
  have hlocks := B.notSynchronized
  have hK := hG.K
  have hin : meth.name = "<init>" := (name_of_methodNamed B.named B.method).1
  have i_X2 : ∀ w ∈ wsX20, w ∈ wsX2_init := by decide +kernel
  have hS : va_S A s.heap s.heap [] := va_S.rf
  have hl := lv_entry ([.ref sc0, .ref t0]) (n := 2) (Nat.le_of_ble_eq_true rfl)
  rw [lg_entry_eq]
  generalize (lg_sl ([.ref sc0, .ref t0]) ++ List.replicate (2 - (lg_sl ([.ref sc0, .ref t0])).length) Slot.unset).toArray = ls at hl ⊢
  have hl : lv_has ls 2 [(0, .ref sc0), (1, .ref t0)] := hl
  have hP : mP G.1 Mw s.heap := hP
  refine lv_aload_n hx hb dX2_init_0 rfl (lv_at hl 0 rfl) ?_
  refine W.objInit hx hb hown (hts (.methodLink RX2 3 objectInit) (by decide +kernel)) (hts (.instanceMethod objectInit) (by decide +kernel)) (hts (.code objectInit ⟨#[0xb1]⟩ 1 none) (by decide +kernel)) rfl (by rw [hml]; exact hl.1) rfl dX2_init_1 (Nat.le_of_ble_eq_true rfl) (Nat.le_of_ble_eq_true rfl) ?_
  refine W.eq (g2 := F0 m 4 ls []) rfl ?_
  refine lv_aload_n hx hb dX2_init_4 rfl (lv_at hl 0 rfl) ?_
  refine lv_iconst (v := (-1)) hx hb dX2_init_5 (by decide) ?_
  refine m_put (ci := 2) (v := .int ((-1))) (ty := .int) (C := RX2) (T := TX2) (N := 5) hx hb hts i_X2 tyX2 tyX2_ok nmX2 hown hK hP hI hS h_S rfl 1 (by decide) (hts (.fieldLink RX2 9 "Meniscus$Scale" "icePlace" "I") (by decide +kernel)) (fun _ h9 => h9) rfl (by decide +kernel) rfl rfl (Nat.le_of_ble_eq_true rfl) dX2_init_6 (fun H locs hP hI hS => ?_)
  have hP : mP G.1 (mu Mw sc0 (.inr (2, [.null, .int ((-1)), .int 0, .int 0, .int 0]))) H := hP
  have hI : mI A (mu Mw sc0 (.inr (2, [.null, .int ((-1)), .int 0, .int 0, .int 0]))) := hI
  have h_S : (mu Mw sc0 (.inr (2, [.null, .int ((-1)), .int 0, .int 0, .int 0]))) sc0 = some (.inr (2, [.null, .int ((-1)), .int 0, .int 0, .int 0])) := mu_s
  refine lv_aload_n hx hb dX2_init_9 rfl (lv_at hl 0 rfl) ?_
  refine lv_iconst (v := (-1)) hx hb dX2_init_10 (by decide) ?_
  refine m_put (ci := 2) (v := .int ((-1))) (ty := .int) (C := RX2) (T := TX2) (N := 5) hx hb hts i_X2 tyX2 tyX2_ok nmX2 hown hK hP hI hS h_S rfl 2 (by decide) (hts (.fieldLink RX2 15 "Meniscus$Scale" "steamPlace" "I") (by decide +kernel)) (fun _ h9 => h9) rfl (by decide +kernel) rfl rfl (Nat.le_of_ble_eq_true rfl) dX2_init_11 (fun H locs hP hI hS => ?_)
  have hP : mP G.1 (mu (mu Mw sc0 (.inr (2, [.null, .int ((-1)), .int 0, .int 0, .int 0]))) sc0 (.inr (2, [.null, .int ((-1)), .int ((-1)), .int 0, .int 0]))) H := hP
  have hI : mI A (mu (mu Mw sc0 (.inr (2, [.null, .int ((-1)), .int 0, .int 0, .int 0]))) sc0 (.inr (2, [.null, .int ((-1)), .int ((-1)), .int 0, .int 0]))) := hI
  rw [mu_uu] at hP hI 
  have h_S : (mu Mw sc0 (.inr (2, [.null, .int ((-1)), .int ((-1)), .int 0, .int 0]))) sc0 = some (.inr (2, [.null, .int ((-1)), .int ((-1)), .int 0, .int 0])) := mu_s
  refine lv_aload_n hx hb dX2_init_14 rfl (lv_at hl 0 rfl) ?_
  refine lv_bipush (v := (32)) hx hb dX2_init_15 (by decide) ?_
  refine m_put (ci := 2) (v := .int 32) (ty := .char) (C := RX2) (T := TX2) (N := 5) hx hb hts i_X2 tyX2 tyX2_ok nmX2 hown hK hP hI hS h_S rfl 4 (by decide) (hts (.fieldLink RX2 18 "Meniscus$Scale" "kind" "C") (by decide +kernel)) (fun _ h9 => h9) rfl (by decide +kernel) rfl rfl (Nat.le_of_ble_eq_true rfl) dX2_init_17 (fun H locs hP hI hS => ?_)
  have hP : mP G.1 (mu (mu Mw sc0 (.inr (2, [.null, .int ((-1)), .int ((-1)), .int 0, .int 0]))) sc0 (.inr (2, [.null, .int ((-1)), .int ((-1)), .int 0, .int 32]))) H := hP
  have hI : mI A (mu (mu Mw sc0 (.inr (2, [.null, .int ((-1)), .int ((-1)), .int 0, .int 0]))) sc0 (.inr (2, [.null, .int ((-1)), .int ((-1)), .int 0, .int 32]))) := hI
  rw [mu_uu] at hP hI 
  have h_S : (mu Mw sc0 (.inr (2, [.null, .int ((-1)), .int ((-1)), .int 0, .int 32]))) sc0 = some (.inr (2, [.null, .int ((-1)), .int ((-1)), .int 0, .int 32])) := mu_s
  refine lv_aload_n hx hb dX2_init_20 rfl (lv_at hl 0 rfl) ?_
  refine lv_aload_n hx hb dX2_init_21 rfl (lv_at hl 1 rfl) ?_
  refine m_putF (ci := 2) (v := .ref t0) (ty := .object "Meniscus$Tube") (C := RX2) (T := TX2) (N := 5) hx hb hts i_X2 tyX2 tyX2_ok nmX2 hown hK hP hI hS h_S rfl 0 (by decide) (hts (.fieldLink RX2 22 "Meniscus$Scale" "tube" "LMeniscus$Tube;") (by decide +kernel)) (fun _ h9 => h9) rfl hin rfl (by decide +kernel) rfl rfl (Nat.le_of_ble_eq_true rfl) dX2_init_22 (fun H locs hP hI hS => ?_)
  have hP : mP G.1 (mu (mu Mw sc0 (.inr (2, [.null, .int ((-1)), .int ((-1)), .int 0, .int 32]))) sc0 (.inr (2, [.ref t0, .int ((-1)), .int ((-1)), .int 0, .int 32]))) H := hP
  have hI : mI A (mu (mu Mw sc0 (.inr (2, [.null, .int ((-1)), .int ((-1)), .int 0, .int 32]))) sc0 (.inr (2, [.ref t0, .int ((-1)), .int ((-1)), .int 0, .int 32]))) := hI
  rw [mu_uu] at hP hI 
  have h_S : (mu Mw sc0 (.inr (2, [.ref t0, .int ((-1)), .int ((-1)), .int 0, .int 32]))) sc0 = some (.inr (2, [.ref t0, .int ((-1)), .int ((-1)), .int 0, .int 32])) := mu_s
  refine W.widen (k := 0) (n := 0) (Nat.le_of_ble_eq_true rfl) (Nat.le_of_ble_eq_true rfl) ?_
  exact W.vret hx hb hr (fun t99 ht99 hW99 => ⟨⟨(mu Mw sc0 (.inr (2, [.ref t0, .int ((-1)), .int ((-1)), .int 0, .int 32]))), rfl, rfl, by rw [ht99]; exact hP, hI⟩, hS.F ht99⟩) hS.2.2 dX2_init_25

set_option maxHeartbeats 4000000 in
set_option maxRecDepth 100000 in
theorem c_X1_init (l : Launch) (G : mg) (A : Nat → Prop) (Mw : mw) {rd0 : Nat} (h_R : Mw rd0 = some (.inr (1, [.null, .null, .int 0]))) : Met l yX1_init wsX1_init ({ frames := 1, cells := 2, slots := 16, locals := 20 }) (va_Pc [.ref rd0] (mB G A Mw)) (va_Qv (fun Mw1 => ∃ va0 er0 : Nat, Mw va0 = none ∧ Mw er0 = none ∧ va0 ≠ er0 ∧ Mw1 = mu (mu (mu Mw va0 (.inl (G.2.1 0, 8, .inl (fun _ => 0)))) er0 (.inl (G.2.1 0, 8, .inl (fun _ => 0)))) rd0 (.inr (1, [.ref va0, .ref er0, .int 0]))) (mE G A) A) 2 16 A := by
  refine Met.ofW (cc := cX1_init) (maxL := 1) (ret := none) (by decide) rfl ?_
  intro p e s m args below meth c s₁ B hml hv
  obtain ⟨rfl, hG, hP, hI, hA⟩ := hv
  have hx := B.exec
  have hb := B.bytes
  have hr := B.returns
  have hts := atoms_spec (ws := wsX1_init) B.pre
  have hown : s.vm.findClass RX1 = some m.cls := findClass_of_methodNamed B.named
  have hlocks := B.notSynchronized
  have hK := hG.K
  have hin : meth.name = "<init>" := (name_of_methodNamed B.named B.method).1
  have i_X1 : ∀ w ∈ wsX10, w ∈ wsX1_init := by decide +kernel
  have hS : va_S A s.heap s.heap [] := va_S.rf
  have hl := lv_entry ([.ref rd0]) (n := 1) (Nat.le_of_ble_eq_true rfl)
  rw [lg_entry_eq]
  generalize (lg_sl ([.ref rd0]) ++ List.replicate (1 - (lg_sl ([.ref rd0])).length) Slot.unset).toArray = ls at hl ⊢
  have hl : lv_has ls 1 [(0, .ref rd0)] := hl
  have hP : mP G.1 Mw s.heap := hP
  refine lv_aload_n hx hb dX1_init_0 rfl (lv_at hl 0 rfl) ?_
  refine W.objInit hx hb hown (hts (.methodLink RX1 3 objectInit) (by decide +kernel)) (hts (.instanceMethod objectInit) (by decide +kernel)) (hts (.code objectInit ⟨#[0xb1]⟩ 1 none) (by decide +kernel)) rfl (by rw [hml]; exact hl.1) rfl dX1_init_1 (Nat.le_of_ble_eq_true rfl) (Nat.le_of_ble_eq_true rfl) ?_
  refine W.eq (g2 := F0 m 4 ls []) rfl ?_
  refine lv_aload_n hx hb dX1_init_4 rfl (lv_at hl 0 rfl) ?_
  refine lv_bipush (v := (8)) hx hb dX1_init_5 (by decide) ?_
  refine m_newa (atype := .int) (a0 := (8, .inl (fun _ => 0))) hx hb (hts (.arrayClass .int) (by decide +kernel)) rfl hK hP hI hS hA (hK.2 0 _ rfl).2 (fun _ => rfl) (by decide) (by decide) (by decide) (Nat.le_of_ble_eq_true rfl) (Nat.le_of_ble_eq_true rfl) dX1_init_7 (fun q1 H hn_q1 hP hI hS => ?_)
  have h_R := mu_x (e := .inl (G.2.1 0, 8, .inl (fun _ => 0))) h_R hn_q1
  have h_q1 : (mu Mw q1 (.inl (G.2.1 0, 8, .inl (fun _ => 0)))) q1 = some (.inl (G.2.1 0, 8, .inl (fun _ => 0))) := mu_s
  refine m_putF (ci := 1) (v := .ref q1) (ty := .array .int) (C := RX1) (T := TX1) (N := 3) hx hb hts i_X1 tyX1 tyX1_ok nmX1 hown hK hP hI hS h_R rfl 0 (by decide) (hts (.fieldLink RX1 9 "Meniscus$Readings" "values" "[I") (by decide +kernel)) (fun _ h9 => h9) rfl hin rfl (by decide +kernel) rfl rfl (Nat.le_of_ble_eq_true rfl) dX1_init_9 (fun H locs hP hI hS => ?_)
  have hP : mP G.1 (mu (mu Mw q1 (.inl (G.2.1 0, 8, .inl (fun _ => 0)))) rd0 (.inr (1, [.ref q1, .null, .int 0]))) H := hP
  have hI : mI A (mu (mu Mw q1 (.inl (G.2.1 0, 8, .inl (fun _ => 0)))) rd0 (.inr (1, [.ref q1, .null, .int 0]))) := hI
  have h_q1 := mu_k (e := .inr (1, [.ref q1, .null, .int 0])) (kd_ne h_q1 h_R rfl) h_q1
  have h_R : (mu (mu Mw q1 (.inl (G.2.1 0, 8, .inl (fun _ => 0)))) rd0 (.inr (1, [.ref q1, .null, .int 0]))) rd0 = some (.inr (1, [.ref q1, .null, .int 0])) := mu_s
  refine lv_aload_n hx hb dX1_init_12 rfl (lv_at hl 0 rfl) ?_
  refine lv_bipush (v := (8)) hx hb dX1_init_13 (by decide) ?_
  refine m_newa (atype := .int) (a0 := (8, .inl (fun _ => 0))) hx hb (hts (.arrayClass .int) (by decide +kernel)) rfl hK hP hI hS hA (hK.2 0 _ rfl).2 (fun _ => rfl) (by decide) (by decide) (by decide) (Nat.le_of_ble_eq_true rfl) (Nat.le_of_ble_eq_true rfl) dX1_init_15 (fun q2 H hn_q2 hP hI hS => ?_)
  have h_R := mu_x (e := .inl (G.2.1 0, 8, .inl (fun _ => 0))) h_R hn_q2
  have h_q1 := mu_x (e := .inl (G.2.1 0, 8, .inl (fun _ => 0))) h_q1 hn_q2
  have h_q2 : (mu (mu (mu Mw q1 (.inl (G.2.1 0, 8, .inl (fun _ => 0)))) rd0 (.inr (1, [.ref q1, .null, .int 0]))) q2 (.inl (G.2.1 0, 8, .inl (fun _ => 0)))) q2 = some (.inl (G.2.1 0, 8, .inl (fun _ => 0))) := mu_s
  have hq12 : q1 ≠ q2 := Ne.symm (mu_none (mu_none hn_q2).1).2
  have hq12s := Ne.symm hq12
  have hn_q20 : Mw q2 = none := (mu_none (mu_none hn_q2).1).1
  refine m_putF (ci := 1) (v := .ref q2) (ty := .array .int) (C := RX1) (T := TX1) (N := 3) hx hb hts i_X1 tyX1 tyX1_ok nmX1 hown hK hP hI hS h_R rfl 1 (by decide) (hts (.fieldLink RX1 15 "Meniscus$Readings" "errors" "[I") (by decide +kernel)) (fun _ h9 => h9) rfl hin rfl (by decide +kernel) rfl rfl (Nat.le_of_ble_eq_true rfl) dX1_init_17 (fun H locs hP hI hS => ?_)
  have hP : mP G.1 (mu (mu (mu (mu Mw q1 (.inl (G.2.1 0, 8, .inl (fun _ => 0)))) rd0 (.inr (1, [.ref q1, .null, .int 0]))) q2 (.inl (G.2.1 0, 8, .inl (fun _ => 0)))) rd0 (.inr (1, [.ref q1, .ref q2, .int 0]))) H := hP
  have hI : mI A (mu (mu (mu (mu Mw q1 (.inl (G.2.1 0, 8, .inl (fun _ => 0)))) rd0 (.inr (1, [.ref q1, .null, .int 0]))) q2 (.inl (G.2.1 0, 8, .inl (fun _ => 0)))) rd0 (.inr (1, [.ref q1, .ref q2, .int 0]))) := hI
  have h_q1 := mu_k (e := .inr (1, [.ref q1, .ref q2, .int 0])) (kd_ne h_q1 h_R rfl) h_q1
  have h_q2 := mu_k (e := .inr (1, [.ref q1, .ref q2, .int 0])) (kd_ne h_q2 h_R rfl) h_q2
  have h_R : (mu (mu (mu (mu Mw q1 (.inl (G.2.1 0, 8, .inl (fun _ => 0)))) rd0 (.inr (1, [.ref q1, .null, .int 0]))) q2 (.inl (G.2.1 0, 8, .inl (fun _ => 0)))) rd0 (.inr (1, [.ref q1, .ref q2, .int 0]))) rd0 = some (.inr (1, [.ref q1, .ref q2, .int 0])) := mu_s
  refine W.widen (k := 2) (n := 16) (Nat.le_of_ble_eq_true rfl) (Nat.le_of_ble_eq_true rfl) ?_
  exact W.vret hx hb hr (fun t99 ht99 hW99 => ⟨⟨(mu (mu (mu (mu Mw q1 (.inl (G.2.1 0, 8, .inl (fun _ => 0)))) rd0 (.inr (1, [.ref q1, .null, .int 0]))) q2 (.inl (G.2.1 0, 8, .inl (fun _ => 0)))) rd0 (.inr (1, [.ref q1, .ref q2, .int 0]))), rfl, ⟨q1, q2, hn_q1, hn_q20, hq12, mw_ext3 h_q1 h_q2 h_R (fun z h1 h2 h3 => (mu_n h3).trans ((mu_n h2).trans ((mu_n h3).trans ((mu_n h1).trans (rfl)))))⟩, by rw [ht99]; exact hP, hI⟩, hS.F ht99⟩) hS.2.2 dX1_init_20
end
section
set_option maxHeartbeats 4000000 in
set_option maxRecDepth 100000 in
theorem c_X0_creepsInAll (l : Launch) (G : mg) (A : Nat → Prop) (Mw : mw)  {a0 t0 sc0 rd0 : Nat} {tn0 bu0 gl0 cr0 fi0 sm0 li0 in0 ga0 ke0 gr0 ce0 : Int32} (h_I : Mw a0 = some (.inr (0, [.int tn0, .ref t0, .int bu0, .int gl0, .ref sc0, .ref rd0, .int cr0, .int fi0, .int sm0, .int li0, .int in0, .int ga0, .int ke0, .int gr0, .int ce0]))) : Met l yX0_creepsInAll wsX0_creepsInAll ({ frames := 0, cells := 0, slots := 0, locals := 0 }) (va_Pc [.ref a0] (mB G A Mw)) (va_Qi (fun r Mw1 => r = (cia bu0 gl0) ∧ Mw1 = Mw) (mE G A) A) 0 0 A := by
  refine Met.ofW (cc := cX0_creepsInAll) (maxL := 1) (ret := (some .int)) (by decide) rfl ?_
  intro p e s m args below meth c s₁ B hml hv
  obtain ⟨rfl, hG, hP, hI, hA⟩ := hv
  have hx := B.exec
  have hb := B.bytes
  have hr := B.returns
  have hts := atoms_spec (ws := wsX0_creepsInAll) B.pre
  have hown : s.vm.findClass RX0 = some m.cls := findClass_of_methodNamed B.named
  have hlocks := B.notSynchronized
  have hK := hG.K
  have i_X0 : ∀ w ∈ wsX00, w ∈ wsX0_creepsInAll := by decide +kernel
  have hS : va_S A s.heap s.heap [] := va_S.rf
  have hl := lv_entry ([.ref a0]) (n := 1) (Nat.le_of_ble_eq_true rfl)
  rw [lg_entry_eq]
  generalize (lg_sl ([.ref a0]) ++ List.replicate (1 - (lg_sl ([.ref a0])).length) Slot.unset).toArray = ls at hl ⊢
  have hl : lv_has ls 1 [(0, .ref a0)] := hl
  have hP : mP G.1 Mw s.heap := hP
  refine lv_aload_n hx hb dX0_creepsInAll_0 rfl (lv_at hl 0 rfl) ?_
  refine m_get (ci := 0) (v := .int bu0) (C := RX0) (T := TX0) (N := 15) hx hb hts i_X0 hown hK (hP _ _ h_I) rfl 2 (by decide) (hts (.fieldLink RX0 36 "Meniscus$Instrument" "bulb" "I") (by decide +kernel)) (fun _ h9 => h9) rfl dX0_creepsInAll_1 ?_
  refine lv_aload_n hx hb dX0_creepsInAll_4 rfl (lv_at hl 0 rfl) ?_
  refine m_get (ci := 0) (v := .int gl0) (C := RX0) (T := TX0) (N := 15) hx hb hts i_X0 hown hK (hP _ _ h_I) rfl 3 (by decide) (hts (.fieldLink RX0 39 "Meniscus$Instrument" "glass" "C") (by decide +kernel)) (fun _ h9 => h9) rfl dX0_creepsInAll_5 ?_
  refine lv_bipush (v := (104)) hx hb dX0_creepsInAll_8 (by decide) ?_
  refine lv_icmp_ne (tgt := 17) hx hb dX0_creepsInAll_10 (by decide) (fun c1 => ?_) (fun c1 => ?_)
  · skip
    refine lv_bipush (v := (6)) hx hb dX0_creepsInAll_17 (by decide) ?_
    refine lv_imul hx hb dX0_creepsInAll_19 ?_
    refine lv_sipush (v := (1000)) hx hb dX0_creepsInAll_20 (by decide) ?_
    refine lv_idiv hx hb dX0_creepsInAll_23 (by decide) ?_
    refine W.widen (k := 0) (n := 0) (Nat.le_of_ble_eq_true rfl) (Nat.le_of_ble_eq_true rfl) ?_
    exact W.iret (v := (bu0 * 6) / 1000) hx hb hr (fun t99 ht99 hW99 => ⟨⟨(bu0 * 6) / 1000, Mw, rfl, ⟨by simp [cia, c1], rfl⟩, by rw [ht99]; exact hP, hI⟩, hS.F ht99⟩) hS.2.2 dX0_creepsInAll_24
  · skip
    refine lv_iconst (v := 2) hx hb dX0_creepsInAll_13 (by decide) ?_
    refine lv_goto (tgt := 19) hx hb dX0_creepsInAll_14 (by decide) ?_
    refine lv_imul hx hb dX0_creepsInAll_19 ?_
    refine lv_sipush (v := (1000)) hx hb dX0_creepsInAll_20 (by decide) ?_
    refine lv_idiv hx hb dX0_creepsInAll_23 (by decide) ?_
    refine W.widen (k := 0) (n := 0) (Nat.le_of_ble_eq_true rfl) (Nat.le_of_ble_eq_true rfl) ?_
    exact W.iret (v := (bu0 * 2) / 1000) hx hb hr (fun t99 ht99 hW99 => ⟨⟨(bu0 * 2) / 1000, Mw, rfl, ⟨by simp [cia, c1], rfl⟩, by rw [ht99]; exact hP, hI⟩, hS.F ht99⟩) hS.2.2 dX0_creepsInAll_24

set_option maxHeartbeats 4000000 in
set_option maxRecDepth 100000 in
theorem c_X0_mercuryInside (l : Launch) (G : mg) (A : Nat → Prop) (Mw : mw)  {a0 t0 sc0 rd0 : Nat} {tn0 bu0 gl0 cr0 fi0 sm0 li0 in0 ga0 ke0 gr0 ce0 : Int32} (h_I : Mw a0 = some (.inr (0, [.int tn0, .ref t0, .int bu0, .int gl0, .ref sc0, .ref rd0, .int cr0, .int fi0, .int sm0, .int li0, .int in0, .int ga0, .int ke0, .int gr0, .int ce0]))) : Met l yX0_mercuryInside wsX0_mercuryInside ({ frames := 0, cells := 0, slots := 0, locals := 0 }) (va_Pc [.ref a0] (mB G A Mw)) (va_Qi (fun r Mw1 => r = (if li0 = 109 then in0 else 0) ∧ Mw1 = Mw) (mE G A) A) 0 0 A := by
  refine Met.ofW (cc := cX0_mercuryInside) (maxL := 1) (ret := (some .int)) (by decide) rfl ?_
  intro p e s m args below meth c s₁ B hml hv
  obtain ⟨rfl, hG, hP, hI, hA⟩ := hv
  have hx := B.exec
  have hb := B.bytes
  have hr := B.returns
  have hts := atoms_spec (ws := wsX0_mercuryInside) B.pre
  have hown : s.vm.findClass RX0 = some m.cls := findClass_of_methodNamed B.named
  have hlocks := B.notSynchronized
  have hK := hG.K
  have i_X0 : ∀ w ∈ wsX00, w ∈ wsX0_mercuryInside := by decide +kernel
  have hS : va_S A s.heap s.heap [] := va_S.rf
  have hl := lv_entry ([.ref a0]) (n := 1) (Nat.le_of_ble_eq_true rfl)
  rw [lg_entry_eq]
  generalize (lg_sl ([.ref a0]) ++ List.replicate (1 - (lg_sl ([.ref a0])).length) Slot.unset).toArray = ls at hl ⊢
  have hl : lv_has ls 1 [(0, .ref a0)] := hl
  have hP : mP G.1 Mw s.heap := hP
  refine lv_aload_n hx hb dX0_mercuryInside_0 rfl (lv_at hl 0 rfl) ?_
  refine m_get (ci := 0) (v := .int li0) (C := RX0) (T := TX0) (N := 15) hx hb hts i_X0 hown hK (hP _ _ h_I) rfl 9 (by decide) (hts (.fieldLink RX0 18 "Meniscus$Instrument" "liquid" "C") (by decide +kernel)) (fun _ h9 => h9) rfl dX0_mercuryInside_1 ?_
  refine lv_bipush (v := (109)) hx hb dX0_mercuryInside_4 (by decide) ?_
  refine lv_icmp_ne (tgt := 16) hx hb dX0_mercuryInside_6 (by decide) (fun c1 => ?_) (fun c1 => ?_)
  · skip
    refine lv_iconst (v := 0) hx hb dX0_mercuryInside_16 (by decide) ?_
    refine W.widen (k := 0) (n := 0) (Nat.le_of_ble_eq_true rfl) (Nat.le_of_ble_eq_true rfl) ?_
    exact W.iret (v := 0) hx hb hr (fun t99 ht99 hW99 => ⟨⟨0, Mw, rfl, ⟨by simp [c1], rfl⟩, by rw [ht99]; exact hP, hI⟩, hS.F ht99⟩) hS.2.2 dX0_mercuryInside_17
  · skip
    refine lv_aload_n hx hb dX0_mercuryInside_9 rfl (lv_at hl 0 rfl) ?_
    refine m_get (ci := 0) (v := .int in0) (C := RX0) (T := TX0) (N := 15) hx hb hts i_X0 hown hK (hP _ _ h_I) rfl 10 (by decide) (hts (.fieldLink RX0 68 "Meniscus$Instrument" "inside" "I") (by decide +kernel)) (fun _ h9 => h9) rfl dX0_mercuryInside_10 ?_
    refine lv_goto (tgt := 17) hx hb dX0_mercuryInside_13 (by decide) ?_
    refine W.widen (k := 0) (n := 0) (Nat.le_of_ble_eq_true rfl) (Nat.le_of_ble_eq_true rfl) ?_
    exact W.iret (v := in0) hx hb hr (fun t99 ht99 hW99 => ⟨⟨in0, Mw, rfl, ⟨by simp [c1], rfl⟩, by rw [ht99]; exact hP, hI⟩, hS.F ht99⟩) hS.2.2 dX0_mercuryInside_17

set_option maxHeartbeats 4000000 in
set_option maxRecDepth 100000 in
theorem c_X0_isInBounds (l : Launch) (G : mg) (A : Nat → Prop) (Mw : mw) {a0 t0 sc0 rd0 : Nat} {tn0 bu0 gl0 cr0 fi0 sm0 li0 in0 ga0 ke0 gr0 ce0 : Int32} (h_I : Mw a0 = some (.inr (0, [.int tn0, .ref t0, .int bu0, .int gl0, .ref sc0, .ref rd0, .int cr0, .int fi0, .int sm0, .int li0, .int in0, .int ga0, .int ke0, .int gr0, .int ce0]))) {va0 er0 n9 : Nat} (h_R : Mw rd0 = some (.inr (1, [.ref va0, .ref er0, .int (nI n9)]))) : Met l yX0_isInBounds wsX0_isInBounds ({ frames := 1, cells := 0, slots := 0, locals := 20 }) (va_Pc [.ref a0] (mB G A Mw)) (va_Qi (fun r Mw1 => r = (inb cr0 bu0 gl0 (nI n9)) ∧ Mw1 = Mw) (mE G A) A) 0 0 A := by
  refine Met.ofW (cc := cX0_isInBounds) (maxL := 1) (ret := (some .boolean)) (by decide) rfl ?_
  intro p e s m args below meth c s₁ B hml hv
  obtain ⟨rfl, hG, hP, hI, hA⟩ := hv
  have hx := B.exec
  have hb := B.bytes
  have hr := B.returns
  have hts := atoms_spec (ws := wsX0_isInBounds) B.pre
  have hown : s.vm.findClass RX0 = some m.cls := findClass_of_methodNamed B.named
  have hlocks := B.notSynchronized
  have hK := hG.K
  have i_X0 : ∀ w ∈ wsX00, w ∈ wsX0_isInBounds := by decide +kernel
  have i_X1 : ∀ w ∈ wsX10, w ∈ wsX0_isInBounds := by decide +kernel
  have hS : va_S A s.heap s.heap [] := va_S.rf
  have hl := lv_entry ([.ref a0]) (n := 1) (Nat.le_of_ble_eq_true rfl)
  rw [lg_entry_eq]
  generalize (lg_sl ([.ref a0]) ++ List.replicate (1 - (lg_sl ([.ref a0])).length) Slot.unset).toArray = ls at hl ⊢
  have hl : lv_has ls 1 [(0, .ref a0)] := hl
  have hP : mP G.1 Mw s.heap := hP
  refine lv_aload_n hx hb dX0_isInBounds_0 rfl (lv_at hl 0 rfl) ?_
  refine m_get (ci := 0) (v := .int cr0) (C := RX0) (T := TX0) (N := 15) hx hb hts i_X0 hown hK (hP _ _ h_I) rfl 6 (by decide) (hts (.fieldLink RX0 51 "Meniscus$Instrument" "crept" "I") (by decide +kernel)) (fun _ h9 => h9) rfl dX0_isInBounds_1 ?_
  refine lv_if_lt (tgt := 34) hx hb dX0_isInBounds_4 (by decide) (fun c1 => ?_) (fun c1 => ?_)
  · skip
    refine lv_iconst (v := 0) hx hb dX0_isInBounds_34 (by decide) ?_
    refine W.widen (k := 0) (n := 0) (Nat.le_of_ble_eq_true rfl) (Nat.le_of_ble_eq_true rfl) ?_
    exact W.zret (v := 0) hx hb hr rfl (fun t99 ht99 hW99 => ⟨⟨0, Mw, rfl, ⟨by unfold inb; rw [if_pos c1], rfl⟩, by rw [ht99]; exact hP, hI⟩, hS.F ht99⟩) hS.2.2 dX0_isInBounds_35
  · skip
    refine lv_aload_n hx hb dX0_isInBounds_7 rfl (lv_at hl 0 rfl) ?_
    refine m_get (ci := 0) (v := .int cr0) (C := RX0) (T := TX0) (N := 15) hx hb hts i_X0 hown hK (hP _ _ h_I) rfl 6 (by decide) (hts (.fieldLink RX0 51 "Meniscus$Instrument" "crept" "I") (by decide +kernel)) (fun _ h9 => h9) rfl dX0_isInBounds_8 ?_
    refine lv_aload_n hx hb dX0_isInBounds_11 rfl (lv_at hl 0 rfl) ?_
    refine m_calli (va_runV (As := []) (rest := [.int cr0]) ⟨hx, hb, hml, hown, hts⟩ (c_X0_creepsInAll l G A Mw  h_I) (cwV 0 hts gX0_isInBounds_X0_creepsInAll rfl rfl rfl (by decide +kernel) ⟨Nat.le_of_ble_eq_true rfl, Nat.le_of_ble_eq_true rfl⟩) (mPreV hG hS hP hI hA (hP _ _ h_I) (r := (RX0, TX0, 15)) rfl) rfl rfl hl.1 rfl (lv_room (Nat.le_of_ble_eq_true rfl)) dX0_isInBounds_12 ⟨Nat.le_of_ble_eq_true rfl, Nat.le_of_ble_eq_true rfl⟩) hS (fun r2 Mw1 H locs hp_r2 hP hI hS => ?_)
    obtain ⟨hp_r2, hm9⟩ := hp_r2
    subst Mw1
    refine lv_icmp_gt (tgt := 34) hx hb dX0_isInBounds_15 (by decide) (fun c3 => ?_) (fun c3 => ?_)
    · skip
      refine lv_iconst (v := 0) hx hb dX0_isInBounds_34 (by decide) ?_
      refine W.widen (k := 0) (n := 0) (Nat.le_of_ble_eq_true rfl) (Nat.le_of_ble_eq_true rfl) ?_
      exact W.zret (v := 0) hx hb hr rfl (fun t99 ht99 hW99 => ⟨⟨0, Mw, rfl, ⟨by unfold inb; rw [if_neg c1, ← hp_r2, if_pos c3], rfl⟩, by rw [ht99]; exact hP, hI⟩, hS.F ht99⟩) hS.2.2 dX0_isInBounds_35
    · skip
      refine lv_aload_n hx hb dX0_isInBounds_18 rfl (lv_at hl 0 rfl) ?_
      refine m_get (ci := 0) (v := .ref rd0) (C := RX0) (T := TX0) (N := 15) hx hb hts i_X0 hown hK (hP _ _ h_I) rfl 5 (by decide) (hts (.fieldLink RX0 12 "Meniscus$Instrument" "readings" "LMeniscus$Readings;") (by decide +kernel)) (fun _ h9 => h9) rfl dX0_isInBounds_19 ?_
      refine m_getN (ci := 1) (v := .int (nI n9)) (C := RX1) (T := TX1) (N := 3) hx hb hts i_X1 hown hK (hP _ _ h_R) rfl 2 (by decide) (va_Nw.use rfl (hG.2.1.2.1 ("Meniscus$Instrument", 119, "Meniscus$Readings", "count", "I", "Meniscus") (by decide +kernel))) (fun _ h9 => h9) rfl dX0_isInBounds_22 ?_
      refine lv_bipush (v := (8)) hx hb dX0_isInBounds_25 (by decide) ?_
      refine lv_icmp_gt (tgt := 34) hx hb dX0_isInBounds_27 (by decide) (fun c4 => ?_) (fun c4 => ?_)
      · skip
        refine lv_iconst (v := 0) hx hb dX0_isInBounds_34 (by decide) ?_
        refine W.widen (k := 0) (n := 0) (Nat.le_of_ble_eq_true rfl) (Nat.le_of_ble_eq_true rfl) ?_
        exact W.zret (v := 0) hx hb hr rfl (fun t99 ht99 hW99 => ⟨⟨0, Mw, rfl, ⟨by unfold inb; rw [if_neg c1, ← hp_r2, if_neg c3, if_pos c4], rfl⟩, by rw [ht99]; exact hP, hI⟩, hS.F ht99⟩) hS.2.2 dX0_isInBounds_35
      · skip
        refine lv_iconst (v := 1) hx hb dX0_isInBounds_30 (by decide) ?_
        refine lv_goto (tgt := 35) hx hb dX0_isInBounds_31 (by decide) ?_
        refine W.widen (k := 0) (n := 0) (Nat.le_of_ble_eq_true rfl) (Nat.le_of_ble_eq_true rfl) ?_
        exact W.zret (v := 1) hx hb hr rfl (fun t99 ht99 hW99 => ⟨⟨1, Mw, rfl, ⟨by unfold inb; rw [if_neg c1, ← hp_r2, if_neg c3, if_neg c4], rfl⟩, by rw [ht99]; exact hP, hI⟩, hS.F ht99⟩) hS.2.2 dX0_isInBounds_35

set_option maxHeartbeats 4000000 in
set_option maxRecDepth 100000 in
theorem c_X0_init (l : Launch) (G : mg) (A : Nat → Prop) (Mw : mw) (p0 p1 p2 : Int32) (t0 : Nat) (hch : narrow .char (.int p2) = .int p2 ∧ fits .char (.int p2) = true) {a0 : Nat} (h_I : Mw a0 = some (.inr (0, [.int 0, .null, .int 0, .int 0, .null, .null, .int 0, .int 0, .int 0, .int 0, .int 0, .int 0, .int 0, .int 0, .int 0]))) : Met l yX0_init wsX0_init ({ frames := 2, cells := 4, slots := 24, locals := 41 }) (va_Pc [.ref a0, .int p0, .ref t0, .int p1, .int p2] (mB G A Mw)) (va_Qv (fun Mw1 => ∃ rd0 va0 er0 sc0 : Nat, Mw rd0 = none ∧ Mw va0 = none ∧ Mw er0 = none ∧ Mw sc0 = none ∧ rd0 ≠ va0 ∧ rd0 ≠ er0 ∧ rd0 ≠ sc0 ∧ va0 ≠ er0 ∧ va0 ≠ sc0 ∧ er0 ≠ sc0 ∧ Mw1 = mu (mu (mu (mu (mu Mw a0 (.inr (0, [.int p0, .ref t0, .int p1, .int p2, .ref sc0, .ref rd0, .int 0, .int 0, .int 0, .int 32, .int 0, .int 0, .int 0, .int ((-1)), .int ((-1))]))) rd0 (.inr (1, [.ref va0, .ref er0, .int 0]))) va0 (.inl (G.2.1 0, 8, .inl (fun _ => 0)))) er0 (.inl (G.2.1 0, 8, .inl (fun _ => 0)))) sc0 (.inr (2, [.ref t0, .int ((-1)), .int ((-1)), .int 0, .int 32]))) (mE G A) A) 4 24 A := by
  refine Met.ofW (cc := cX0_init) (maxL := 5) (ret := none) (by decide) rfl ?_
  intro p e s m args below meth c s₁ B hml hv
  obtain ⟨rfl, hG, hP, hI, hA⟩ := hv
  have hx := B.exec
  have hb := B.bytes
  have hr := B.returns
  have hts := atoms_spec (ws := wsX0_init) B.pre
  have hown : s.vm.findClass RX0 = some m.cls := findClass_of_methodNamed B.named
  have hlocks := B.notSynchronized
  have hK := hG.K
  have hin : meth.name = "<init>" := (name_of_methodNamed B.named B.method).1
  have i_X0 : ∀ w ∈ wsX00, w ∈ wsX0_init := by decide +kernel
  have i_X1 : ∀ w ∈ wsX10, w ∈ wsX0_init := by decide +kernel
  have i_X2 : ∀ w ∈ wsX20, w ∈ wsX0_init := by decide +kernel
  have hS : va_S A s.heap s.heap [] := va_S.rf
  have hl := lv_entry ([.ref a0, .int p0, .ref t0, .int p1, .int p2]) (n := 5) (Nat.le_of_ble_eq_true rfl)
  rw [lg_entry_eq]
  generalize (lg_sl ([.ref a0, .int p0, .ref t0, .int p1, .int p2]) ++ List.replicate (5 - (lg_sl ([.ref a0, .int p0, .ref t0, .int p1, .int p2])).length) Slot.unset).toArray = ls at hl ⊢
  have hl : lv_has ls 5 [(0, .ref a0), (1, .int p0), (2, .ref t0), (3, .int p1), (4, .int p2)] := hl
  have hP : mP G.1 Mw s.heap := hP
  refine lv_aload_n hx hb dX0_init_0 rfl (lv_at hl 0 rfl) ?_
  refine W.objInit hx hb hown (hts (.methodLink RX0 3 objectInit) (by decide +kernel)) (hts (.instanceMethod objectInit) (by decide +kernel)) (hts (.code objectInit ⟨#[0xb1]⟩ 1 none) (by decide +kernel)) rfl (by rw [hml]; exact hl.1) rfl dX0_init_1 (Nat.le_of_ble_eq_true rfl) (Nat.le_of_ble_eq_true rfl) ?_
  refine W.eq (g2 := F0 m 4 ls []) rfl ?_
  refine lv_aload_n hx hb dX0_init_4 rfl (lv_at hl 0 rfl) ?_
  refine m_new (ci := 1) (fs := [.null, .null, .int 0]) (C := RX1) (T := TX1) (N := 3) hx hb hts i_X1 tyX1 tyX1_ok hown (hts (.classLink RX0 9 RX1) (by decide +kernel)) (hts (.instantiable RX1 3) (by decide +kernel)) (hts (.initialized RX1) (by decide +kernel)) hK hP hI hS hA rfl (fun j hj => by rcases (show j = 0 ∨ j = 1 ∨ j = 2 by omega) with rfl | rfl | rfl <;> rfl) (Nat.le_of_ble_eq_true rfl) (Nat.le_of_ble_eq_true rfl) dX0_init_5 (fun q1 H hn_q1 hP hI hS => ?_)
  have h_I := mu_x (e := .inr (1, [.null, .null, .int 0])) h_I hn_q1
  have h_q1 : (mu Mw q1 (.inr (1, [.null, .null, .int 0]))) q1 = some (.inr (1, [.null, .null, .int 0])) := mu_s
  refine lv_dup hx hb dX0_init_8 rfl ?_
  refine m_callv (va_runIN (As := []) (rest := [.ref q1, .ref a0]) ⟨hx, hb, hml, hown, hts⟩ (c_X1_init l G A (mu Mw q1 (.inr (1, [.null, .null, .int 0])))  h_q1) ⟨va_cnB 0 hts gX0_init_X1_init_n11 rfl rfl rfl (hG.2.1.2.2.1 ("Meniscus$Instrument", 11, yX1_init, "Meniscus") (by decide +kernel)) (hts (.initialized RX1) (by decide +kernel)) (by decide +kernel) ⟨Nat.le_of_ble_eq_true rfl, Nat.le_of_ble_eq_true rfl⟩, rfl, (hts (.instanceMethod yX1_init) (by decide +kernel))⟩ (mPreS hG hS hP hI hA) rfl rfl hl.1 rfl (lv_room (Nat.le_of_ble_eq_true rfl)) dX0_init_9 ⟨Nat.le_of_ble_eq_true rfl, Nat.le_of_ble_eq_true rfl⟩) hS (fun Mw1 H locs hp_r2 hP hI hS => ?_)
  obtain ⟨va0, er0, hnv, hne, hve, hm9⟩ := hp_r2
  subst Mw1
  have hne2 : (mu (mu Mw q1 (.inr (1, [.null, .null, .int 0]))) va0 (.inl (G.2.1 0, 8, .inl (fun _ => 0)))) er0 = none := (mu_n (Ne.symm hve)).trans hne
  have h_I := mu_k (e := .inl (G.2.1 0, 8, .inl (fun _ => 0))) (ne_none h_I hnv) h_I
  have h_q1 := mu_k (e := .inl (G.2.1 0, 8, .inl (fun _ => 0))) (ne_none h_q1 hnv) h_q1
  have h_V : (mu (mu Mw q1 (.inr (1, [.null, .null, .int 0]))) va0 (.inl (G.2.1 0, 8, .inl (fun _ => 0)))) va0 = some (.inl (G.2.1 0, 8, .inl (fun _ => 0))) := mu_s
  have h_I := mu_k (e := .inl (G.2.1 0, 8, .inl (fun _ => 0))) (ne_none h_I hne2) h_I
  have h_q1 := mu_k (e := .inl (G.2.1 0, 8, .inl (fun _ => 0))) (ne_none h_q1 hne2) h_q1
  have h_V := mu_k (e := .inl (G.2.1 0, 8, .inl (fun _ => 0))) (ne_none h_V hne2) h_V
  have h_E : (mu (mu (mu Mw q1 (.inr (1, [.null, .null, .int 0]))) va0 (.inl (G.2.1 0, 8, .inl (fun _ => 0)))) er0 (.inl (G.2.1 0, 8, .inl (fun _ => 0)))) er0 = some (.inl (G.2.1 0, 8, .inl (fun _ => 0))) := mu_s
  have h_I := mu_k (e := .inr (1, [.ref va0, .ref er0, .int 0])) (kd_ne h_I h_q1 rfl) h_I
  have h_V := mu_k (e := .inr (1, [.ref va0, .ref er0, .int 0])) (kd_ne h_V h_q1 rfl) h_V
  have h_E := mu_k (e := .inr (1, [.ref va0, .ref er0, .int 0])) (kd_ne h_E h_q1 rfl) h_E
  have h_q1 : (mu (mu (mu (mu Mw q1 (.inr (1, [.null, .null, .int 0]))) va0 (.inl (G.2.1 0, 8, .inl (fun _ => 0)))) er0 (.inl (G.2.1 0, 8, .inl (fun _ => 0)))) q1 (.inr (1, [.ref va0, .ref er0, .int 0]))) q1 = some (.inr (1, [.ref va0, .ref er0, .int 0])) := mu_s
  refine m_putF (ci := 0) (v := .ref q1) (ty := .object "Meniscus$Readings") (C := RX0) (T := TX0) (N := 15) hx hb hts i_X0 tyX0 tyX0_ok nmX0 hown hK hP hI hS h_I rfl 5 (by decide) (hts (.fieldLink RX0 12 "Meniscus$Instrument" "readings" "LMeniscus$Readings;") (by decide +kernel)) (fun _ h9 => h9) rfl hin rfl (by decide +kernel) rfl rfl (Nat.le_of_ble_eq_true rfl) dX0_init_12 (fun H locs hP hI hS => ?_)
  have hP : mP G.1 (mu (mu (mu (mu (mu Mw q1 (.inr (1, [.null, .null, .int 0]))) va0 (.inl (G.2.1 0, 8, .inl (fun _ => 0)))) er0 (.inl (G.2.1 0, 8, .inl (fun _ => 0)))) q1 (.inr (1, [.ref va0, .ref er0, .int 0]))) a0 (.inr (0, [.int 0, .null, .int 0, .int 0, .null, .ref q1, .int 0, .int 0, .int 0, .int 0, .int 0, .int 0, .int 0, .int 0, .int 0]))) H := hP
  have hI : mI A (mu (mu (mu (mu (mu Mw q1 (.inr (1, [.null, .null, .int 0]))) va0 (.inl (G.2.1 0, 8, .inl (fun _ => 0)))) er0 (.inl (G.2.1 0, 8, .inl (fun _ => 0)))) q1 (.inr (1, [.ref va0, .ref er0, .int 0]))) a0 (.inr (0, [.int 0, .null, .int 0, .int 0, .null, .ref q1, .int 0, .int 0, .int 0, .int 0, .int 0, .int 0, .int 0, .int 0, .int 0]))) := hI
  have h_q1 := mu_k (e := .inr (0, [.int 0, .null, .int 0, .int 0, .null, .ref q1, .int 0, .int 0, .int 0, .int 0, .int 0, .int 0, .int 0, .int 0, .int 0])) (kd_ne h_q1 h_I rfl) h_q1
  have h_V := mu_k (e := .inr (0, [.int 0, .null, .int 0, .int 0, .null, .ref q1, .int 0, .int 0, .int 0, .int 0, .int 0, .int 0, .int 0, .int 0, .int 0])) (kd_ne h_V h_I rfl) h_V
  have h_E := mu_k (e := .inr (0, [.int 0, .null, .int 0, .int 0, .null, .ref q1, .int 0, .int 0, .int 0, .int 0, .int 0, .int 0, .int 0, .int 0, .int 0])) (kd_ne h_E h_I rfl) h_E
  have h_I : (mu (mu (mu (mu (mu Mw q1 (.inr (1, [.null, .null, .int 0]))) va0 (.inl (G.2.1 0, 8, .inl (fun _ => 0)))) er0 (.inl (G.2.1 0, 8, .inl (fun _ => 0)))) q1 (.inr (1, [.ref va0, .ref er0, .int 0]))) a0 (.inr (0, [.int 0, .null, .int 0, .int 0, .null, .ref q1, .int 0, .int 0, .int 0, .int 0, .int 0, .int 0, .int 0, .int 0, .int 0]))) a0 = some (.inr (0, [.int 0, .null, .int 0, .int 0, .null, .ref q1, .int 0, .int 0, .int 0, .int 0, .int 0, .int 0, .int 0, .int 0, .int 0])) := mu_s
  refine lv_aload_n hx hb dX0_init_15 rfl (lv_at hl 0 rfl) ?_
  refine lv_bipush (v := (32)) hx hb dX0_init_16 (by decide) ?_
  refine m_put (ci := 0) (v := .int 32) (ty := .char) (C := RX0) (T := TX0) (N := 15) hx hb hts i_X0 tyX0 tyX0_ok nmX0 hown hK hP hI hS h_I rfl 9 (by decide) (hts (.fieldLink RX0 18 "Meniscus$Instrument" "liquid" "C") (by decide +kernel)) (fun _ h9 => h9) rfl (by decide +kernel) rfl rfl (Nat.le_of_ble_eq_true rfl) dX0_init_18 (fun H locs hP hI hS => ?_)
  have hP : mP G.1 (mu (mu (mu (mu (mu (mu Mw q1 (.inr (1, [.null, .null, .int 0]))) va0 (.inl (G.2.1 0, 8, .inl (fun _ => 0)))) er0 (.inl (G.2.1 0, 8, .inl (fun _ => 0)))) q1 (.inr (1, [.ref va0, .ref er0, .int 0]))) a0 (.inr (0, [.int 0, .null, .int 0, .int 0, .null, .ref q1, .int 0, .int 0, .int 0, .int 0, .int 0, .int 0, .int 0, .int 0, .int 0]))) a0 (.inr (0, [.int 0, .null, .int 0, .int 0, .null, .ref q1, .int 0, .int 0, .int 0, .int 32, .int 0, .int 0, .int 0, .int 0, .int 0]))) H := hP
  have hI : mI A (mu (mu (mu (mu (mu (mu Mw q1 (.inr (1, [.null, .null, .int 0]))) va0 (.inl (G.2.1 0, 8, .inl (fun _ => 0)))) er0 (.inl (G.2.1 0, 8, .inl (fun _ => 0)))) q1 (.inr (1, [.ref va0, .ref er0, .int 0]))) a0 (.inr (0, [.int 0, .null, .int 0, .int 0, .null, .ref q1, .int 0, .int 0, .int 0, .int 0, .int 0, .int 0, .int 0, .int 0, .int 0]))) a0 (.inr (0, [.int 0, .null, .int 0, .int 0, .null, .ref q1, .int 0, .int 0, .int 0, .int 32, .int 0, .int 0, .int 0, .int 0, .int 0]))) := hI
  have h_q1 := mu_k (e := .inr (0, [.int 0, .null, .int 0, .int 0, .null, .ref q1, .int 0, .int 0, .int 0, .int 32, .int 0, .int 0, .int 0, .int 0, .int 0])) (kd_ne h_q1 h_I rfl) h_q1
  have h_V := mu_k (e := .inr (0, [.int 0, .null, .int 0, .int 0, .null, .ref q1, .int 0, .int 0, .int 0, .int 32, .int 0, .int 0, .int 0, .int 0, .int 0])) (kd_ne h_V h_I rfl) h_V
  have h_E := mu_k (e := .inr (0, [.int 0, .null, .int 0, .int 0, .null, .ref q1, .int 0, .int 0, .int 0, .int 32, .int 0, .int 0, .int 0, .int 0, .int 0])) (kd_ne h_E h_I rfl) h_E
  rw [mu_uu] at hP hI h_q1 h_V h_E
  have h_I : (mu (mu (mu (mu (mu Mw q1 (.inr (1, [.null, .null, .int 0]))) va0 (.inl (G.2.1 0, 8, .inl (fun _ => 0)))) er0 (.inl (G.2.1 0, 8, .inl (fun _ => 0)))) q1 (.inr (1, [.ref va0, .ref er0, .int 0]))) a0 (.inr (0, [.int 0, .null, .int 0, .int 0, .null, .ref q1, .int 0, .int 0, .int 0, .int 32, .int 0, .int 0, .int 0, .int 0, .int 0]))) a0 = some (.inr (0, [.int 0, .null, .int 0, .int 0, .null, .ref q1, .int 0, .int 0, .int 0, .int 32, .int 0, .int 0, .int 0, .int 0, .int 0])) := mu_s
  refine lv_aload_n hx hb dX0_init_21 rfl (lv_at hl 0 rfl) ?_
  refine lv_iconst (v := (-1)) hx hb dX0_init_22 (by decide) ?_
  refine m_put (ci := 0) (v := .int ((-1))) (ty := .int) (C := RX0) (T := TX0) (N := 15) hx hb hts i_X0 tyX0 tyX0_ok nmX0 hown hK hP hI hS h_I rfl 13 (by decide) (hts (.fieldLink RX0 22 "Meniscus$Instrument" "greatestLevel" "I") (by decide +kernel)) (fun _ h9 => h9) rfl (by decide +kernel) rfl rfl (Nat.le_of_ble_eq_true rfl) dX0_init_23 (fun H locs hP hI hS => ?_)
  have hP : mP G.1 (mu (mu (mu (mu (mu (mu Mw q1 (.inr (1, [.null, .null, .int 0]))) va0 (.inl (G.2.1 0, 8, .inl (fun _ => 0)))) er0 (.inl (G.2.1 0, 8, .inl (fun _ => 0)))) q1 (.inr (1, [.ref va0, .ref er0, .int 0]))) a0 (.inr (0, [.int 0, .null, .int 0, .int 0, .null, .ref q1, .int 0, .int 0, .int 0, .int 32, .int 0, .int 0, .int 0, .int 0, .int 0]))) a0 (.inr (0, [.int 0, .null, .int 0, .int 0, .null, .ref q1, .int 0, .int 0, .int 0, .int 32, .int 0, .int 0, .int 0, .int ((-1)), .int 0]))) H := hP
  have hI : mI A (mu (mu (mu (mu (mu (mu Mw q1 (.inr (1, [.null, .null, .int 0]))) va0 (.inl (G.2.1 0, 8, .inl (fun _ => 0)))) er0 (.inl (G.2.1 0, 8, .inl (fun _ => 0)))) q1 (.inr (1, [.ref va0, .ref er0, .int 0]))) a0 (.inr (0, [.int 0, .null, .int 0, .int 0, .null, .ref q1, .int 0, .int 0, .int 0, .int 32, .int 0, .int 0, .int 0, .int 0, .int 0]))) a0 (.inr (0, [.int 0, .null, .int 0, .int 0, .null, .ref q1, .int 0, .int 0, .int 0, .int 32, .int 0, .int 0, .int 0, .int ((-1)), .int 0]))) := hI
  have h_q1 := mu_k (e := .inr (0, [.int 0, .null, .int 0, .int 0, .null, .ref q1, .int 0, .int 0, .int 0, .int 32, .int 0, .int 0, .int 0, .int ((-1)), .int 0])) (kd_ne h_q1 h_I rfl) h_q1
  have h_V := mu_k (e := .inr (0, [.int 0, .null, .int 0, .int 0, .null, .ref q1, .int 0, .int 0, .int 0, .int 32, .int 0, .int 0, .int 0, .int ((-1)), .int 0])) (kd_ne h_V h_I rfl) h_V
  have h_E := mu_k (e := .inr (0, [.int 0, .null, .int 0, .int 0, .null, .ref q1, .int 0, .int 0, .int 0, .int 32, .int 0, .int 0, .int 0, .int ((-1)), .int 0])) (kd_ne h_E h_I rfl) h_E
  rw [mu_uu] at hP hI h_q1 h_V h_E
  have h_I : (mu (mu (mu (mu (mu Mw q1 (.inr (1, [.null, .null, .int 0]))) va0 (.inl (G.2.1 0, 8, .inl (fun _ => 0)))) er0 (.inl (G.2.1 0, 8, .inl (fun _ => 0)))) q1 (.inr (1, [.ref va0, .ref er0, .int 0]))) a0 (.inr (0, [.int 0, .null, .int 0, .int 0, .null, .ref q1, .int 0, .int 0, .int 0, .int 32, .int 0, .int 0, .int 0, .int ((-1)), .int 0]))) a0 = some (.inr (0, [.int 0, .null, .int 0, .int 0, .null, .ref q1, .int 0, .int 0, .int 0, .int 32, .int 0, .int 0, .int 0, .int ((-1)), .int 0])) := mu_s
  refine lv_aload_n hx hb dX0_init_26 rfl (lv_at hl 0 rfl) ?_
  refine lv_iconst (v := (-1)) hx hb dX0_init_27 (by decide) ?_
  refine m_put (ci := 0) (v := .int ((-1))) (ty := .int) (C := RX0) (T := TX0) (N := 15) hx hb hts i_X0 tyX0 tyX0_ok nmX0 hown hK hP hI hS h_I rfl 14 (by decide) (hts (.fieldLink RX0 26 "Meniscus$Instrument" "certificateEnd" "I") (by decide +kernel)) (fun _ h9 => h9) rfl (by decide +kernel) rfl rfl (Nat.le_of_ble_eq_true rfl) dX0_init_28 (fun H locs hP hI hS => ?_)
  have hP : mP G.1 (mu (mu (mu (mu (mu (mu Mw q1 (.inr (1, [.null, .null, .int 0]))) va0 (.inl (G.2.1 0, 8, .inl (fun _ => 0)))) er0 (.inl (G.2.1 0, 8, .inl (fun _ => 0)))) q1 (.inr (1, [.ref va0, .ref er0, .int 0]))) a0 (.inr (0, [.int 0, .null, .int 0, .int 0, .null, .ref q1, .int 0, .int 0, .int 0, .int 32, .int 0, .int 0, .int 0, .int ((-1)), .int 0]))) a0 (.inr (0, [.int 0, .null, .int 0, .int 0, .null, .ref q1, .int 0, .int 0, .int 0, .int 32, .int 0, .int 0, .int 0, .int ((-1)), .int ((-1))]))) H := hP
  have hI : mI A (mu (mu (mu (mu (mu (mu Mw q1 (.inr (1, [.null, .null, .int 0]))) va0 (.inl (G.2.1 0, 8, .inl (fun _ => 0)))) er0 (.inl (G.2.1 0, 8, .inl (fun _ => 0)))) q1 (.inr (1, [.ref va0, .ref er0, .int 0]))) a0 (.inr (0, [.int 0, .null, .int 0, .int 0, .null, .ref q1, .int 0, .int 0, .int 0, .int 32, .int 0, .int 0, .int 0, .int ((-1)), .int 0]))) a0 (.inr (0, [.int 0, .null, .int 0, .int 0, .null, .ref q1, .int 0, .int 0, .int 0, .int 32, .int 0, .int 0, .int 0, .int ((-1)), .int ((-1))]))) := hI
  have h_q1 := mu_k (e := .inr (0, [.int 0, .null, .int 0, .int 0, .null, .ref q1, .int 0, .int 0, .int 0, .int 32, .int 0, .int 0, .int 0, .int ((-1)), .int ((-1))])) (kd_ne h_q1 h_I rfl) h_q1
  have h_V := mu_k (e := .inr (0, [.int 0, .null, .int 0, .int 0, .null, .ref q1, .int 0, .int 0, .int 0, .int 32, .int 0, .int 0, .int 0, .int ((-1)), .int ((-1))])) (kd_ne h_V h_I rfl) h_V
  have h_E := mu_k (e := .inr (0, [.int 0, .null, .int 0, .int 0, .null, .ref q1, .int 0, .int 0, .int 0, .int 32, .int 0, .int 0, .int 0, .int ((-1)), .int ((-1))])) (kd_ne h_E h_I rfl) h_E
  rw [mu_uu] at hP hI h_q1 h_V h_E
  have h_I : (mu (mu (mu (mu (mu Mw q1 (.inr (1, [.null, .null, .int 0]))) va0 (.inl (G.2.1 0, 8, .inl (fun _ => 0)))) er0 (.inl (G.2.1 0, 8, .inl (fun _ => 0)))) q1 (.inr (1, [.ref va0, .ref er0, .int 0]))) a0 (.inr (0, [.int 0, .null, .int 0, .int 0, .null, .ref q1, .int 0, .int 0, .int 0, .int 32, .int 0, .int 0, .int 0, .int ((-1)), .int ((-1))]))) a0 = some (.inr (0, [.int 0, .null, .int 0, .int 0, .null, .ref q1, .int 0, .int 0, .int 0, .int 32, .int 0, .int 0, .int 0, .int ((-1)), .int ((-1))])) := mu_s
  refine lv_aload_n hx hb dX0_init_31 rfl (lv_at hl 0 rfl) ?_
  refine lv_iload_n hx hb dX0_init_32 rfl (lv_at hl 1 rfl) ?_
  refine m_putF (ci := 0) (v := .int p0) (ty := .int) (C := RX0) (T := TX0) (N := 15) hx hb hts i_X0 tyX0 tyX0_ok nmX0 hown hK hP hI hS h_I rfl 0 (by decide) (hts (.fieldLink RX0 29 "Meniscus$Instrument" "tubeNumber" "I") (by decide +kernel)) (fun _ h9 => h9) rfl hin rfl (by decide +kernel) rfl rfl (Nat.le_of_ble_eq_true rfl) dX0_init_33 (fun H locs hP hI hS => ?_)
  have hP : mP G.1 (mu (mu (mu (mu (mu (mu Mw q1 (.inr (1, [.null, .null, .int 0]))) va0 (.inl (G.2.1 0, 8, .inl (fun _ => 0)))) er0 (.inl (G.2.1 0, 8, .inl (fun _ => 0)))) q1 (.inr (1, [.ref va0, .ref er0, .int 0]))) a0 (.inr (0, [.int 0, .null, .int 0, .int 0, .null, .ref q1, .int 0, .int 0, .int 0, .int 32, .int 0, .int 0, .int 0, .int ((-1)), .int ((-1))]))) a0 (.inr (0, [.int p0, .null, .int 0, .int 0, .null, .ref q1, .int 0, .int 0, .int 0, .int 32, .int 0, .int 0, .int 0, .int ((-1)), .int ((-1))]))) H := hP
  have hI : mI A (mu (mu (mu (mu (mu (mu Mw q1 (.inr (1, [.null, .null, .int 0]))) va0 (.inl (G.2.1 0, 8, .inl (fun _ => 0)))) er0 (.inl (G.2.1 0, 8, .inl (fun _ => 0)))) q1 (.inr (1, [.ref va0, .ref er0, .int 0]))) a0 (.inr (0, [.int 0, .null, .int 0, .int 0, .null, .ref q1, .int 0, .int 0, .int 0, .int 32, .int 0, .int 0, .int 0, .int ((-1)), .int ((-1))]))) a0 (.inr (0, [.int p0, .null, .int 0, .int 0, .null, .ref q1, .int 0, .int 0, .int 0, .int 32, .int 0, .int 0, .int 0, .int ((-1)), .int ((-1))]))) := hI
  have h_q1 := mu_k (e := .inr (0, [.int p0, .null, .int 0, .int 0, .null, .ref q1, .int 0, .int 0, .int 0, .int 32, .int 0, .int 0, .int 0, .int ((-1)), .int ((-1))])) (kd_ne h_q1 h_I rfl) h_q1
  have h_V := mu_k (e := .inr (0, [.int p0, .null, .int 0, .int 0, .null, .ref q1, .int 0, .int 0, .int 0, .int 32, .int 0, .int 0, .int 0, .int ((-1)), .int ((-1))])) (kd_ne h_V h_I rfl) h_V
  have h_E := mu_k (e := .inr (0, [.int p0, .null, .int 0, .int 0, .null, .ref q1, .int 0, .int 0, .int 0, .int 32, .int 0, .int 0, .int 0, .int ((-1)), .int ((-1))])) (kd_ne h_E h_I rfl) h_E
  rw [mu_uu] at hP hI h_q1 h_V h_E
  have h_I : (mu (mu (mu (mu (mu Mw q1 (.inr (1, [.null, .null, .int 0]))) va0 (.inl (G.2.1 0, 8, .inl (fun _ => 0)))) er0 (.inl (G.2.1 0, 8, .inl (fun _ => 0)))) q1 (.inr (1, [.ref va0, .ref er0, .int 0]))) a0 (.inr (0, [.int p0, .null, .int 0, .int 0, .null, .ref q1, .int 0, .int 0, .int 0, .int 32, .int 0, .int 0, .int 0, .int ((-1)), .int ((-1))]))) a0 = some (.inr (0, [.int p0, .null, .int 0, .int 0, .null, .ref q1, .int 0, .int 0, .int 0, .int 32, .int 0, .int 0, .int 0, .int ((-1)), .int ((-1))])) := mu_s
  refine lv_aload_n hx hb dX0_init_36 rfl (lv_at hl 0 rfl) ?_
  refine lv_aload_n hx hb dX0_init_37 rfl (lv_at hl 2 rfl) ?_
  refine m_putF (ci := 0) (v := .ref t0) (ty := .object "Meniscus$Tube") (C := RX0) (T := TX0) (N := 15) hx hb hts i_X0 tyX0 tyX0_ok nmX0 hown hK hP hI hS h_I rfl 1 (by decide) (hts (.fieldLink RX0 32 "Meniscus$Instrument" "tube" "LMeniscus$Tube;") (by decide +kernel)) (fun _ h9 => h9) rfl hin rfl (by decide +kernel) rfl rfl (Nat.le_of_ble_eq_true rfl) dX0_init_38 (fun H locs hP hI hS => ?_)
  have hP : mP G.1 (mu (mu (mu (mu (mu (mu Mw q1 (.inr (1, [.null, .null, .int 0]))) va0 (.inl (G.2.1 0, 8, .inl (fun _ => 0)))) er0 (.inl (G.2.1 0, 8, .inl (fun _ => 0)))) q1 (.inr (1, [.ref va0, .ref er0, .int 0]))) a0 (.inr (0, [.int p0, .null, .int 0, .int 0, .null, .ref q1, .int 0, .int 0, .int 0, .int 32, .int 0, .int 0, .int 0, .int ((-1)), .int ((-1))]))) a0 (.inr (0, [.int p0, .ref t0, .int 0, .int 0, .null, .ref q1, .int 0, .int 0, .int 0, .int 32, .int 0, .int 0, .int 0, .int ((-1)), .int ((-1))]))) H := hP
  have hI : mI A (mu (mu (mu (mu (mu (mu Mw q1 (.inr (1, [.null, .null, .int 0]))) va0 (.inl (G.2.1 0, 8, .inl (fun _ => 0)))) er0 (.inl (G.2.1 0, 8, .inl (fun _ => 0)))) q1 (.inr (1, [.ref va0, .ref er0, .int 0]))) a0 (.inr (0, [.int p0, .null, .int 0, .int 0, .null, .ref q1, .int 0, .int 0, .int 0, .int 32, .int 0, .int 0, .int 0, .int ((-1)), .int ((-1))]))) a0 (.inr (0, [.int p0, .ref t0, .int 0, .int 0, .null, .ref q1, .int 0, .int 0, .int 0, .int 32, .int 0, .int 0, .int 0, .int ((-1)), .int ((-1))]))) := hI
  have h_q1 := mu_k (e := .inr (0, [.int p0, .ref t0, .int 0, .int 0, .null, .ref q1, .int 0, .int 0, .int 0, .int 32, .int 0, .int 0, .int 0, .int ((-1)), .int ((-1))])) (kd_ne h_q1 h_I rfl) h_q1
  have h_V := mu_k (e := .inr (0, [.int p0, .ref t0, .int 0, .int 0, .null, .ref q1, .int 0, .int 0, .int 0, .int 32, .int 0, .int 0, .int 0, .int ((-1)), .int ((-1))])) (kd_ne h_V h_I rfl) h_V
  have h_E := mu_k (e := .inr (0, [.int p0, .ref t0, .int 0, .int 0, .null, .ref q1, .int 0, .int 0, .int 0, .int 32, .int 0, .int 0, .int 0, .int ((-1)), .int ((-1))])) (kd_ne h_E h_I rfl) h_E
  rw [mu_uu] at hP hI h_q1 h_V h_E
  have h_I : (mu (mu (mu (mu (mu Mw q1 (.inr (1, [.null, .null, .int 0]))) va0 (.inl (G.2.1 0, 8, .inl (fun _ => 0)))) er0 (.inl (G.2.1 0, 8, .inl (fun _ => 0)))) q1 (.inr (1, [.ref va0, .ref er0, .int 0]))) a0 (.inr (0, [.int p0, .ref t0, .int 0, .int 0, .null, .ref q1, .int 0, .int 0, .int 0, .int 32, .int 0, .int 0, .int 0, .int ((-1)), .int ((-1))]))) a0 = some (.inr (0, [.int p0, .ref t0, .int 0, .int 0, .null, .ref q1, .int 0, .int 0, .int 0, .int 32, .int 0, .int 0, .int 0, .int ((-1)), .int ((-1))])) := mu_s
  refine lv_aload_n hx hb dX0_init_41 rfl (lv_at hl 0 rfl) ?_
  refine lv_iload_n hx hb dX0_init_42 rfl (lv_at hl 3 rfl) ?_
  refine m_putF (ci := 0) (v := .int p1) (ty := .int) (C := RX0) (T := TX0) (N := 15) hx hb hts i_X0 tyX0 tyX0_ok nmX0 hown hK hP hI hS h_I rfl 2 (by decide) (hts (.fieldLink RX0 36 "Meniscus$Instrument" "bulb" "I") (by decide +kernel)) (fun _ h9 => h9) rfl hin rfl (by decide +kernel) rfl rfl (Nat.le_of_ble_eq_true rfl) dX0_init_43 (fun H locs hP hI hS => ?_)
  have hP : mP G.1 (mu (mu (mu (mu (mu (mu Mw q1 (.inr (1, [.null, .null, .int 0]))) va0 (.inl (G.2.1 0, 8, .inl (fun _ => 0)))) er0 (.inl (G.2.1 0, 8, .inl (fun _ => 0)))) q1 (.inr (1, [.ref va0, .ref er0, .int 0]))) a0 (.inr (0, [.int p0, .ref t0, .int 0, .int 0, .null, .ref q1, .int 0, .int 0, .int 0, .int 32, .int 0, .int 0, .int 0, .int ((-1)), .int ((-1))]))) a0 (.inr (0, [.int p0, .ref t0, .int p1, .int 0, .null, .ref q1, .int 0, .int 0, .int 0, .int 32, .int 0, .int 0, .int 0, .int ((-1)), .int ((-1))]))) H := hP
  have hI : mI A (mu (mu (mu (mu (mu (mu Mw q1 (.inr (1, [.null, .null, .int 0]))) va0 (.inl (G.2.1 0, 8, .inl (fun _ => 0)))) er0 (.inl (G.2.1 0, 8, .inl (fun _ => 0)))) q1 (.inr (1, [.ref va0, .ref er0, .int 0]))) a0 (.inr (0, [.int p0, .ref t0, .int 0, .int 0, .null, .ref q1, .int 0, .int 0, .int 0, .int 32, .int 0, .int 0, .int 0, .int ((-1)), .int ((-1))]))) a0 (.inr (0, [.int p0, .ref t0, .int p1, .int 0, .null, .ref q1, .int 0, .int 0, .int 0, .int 32, .int 0, .int 0, .int 0, .int ((-1)), .int ((-1))]))) := hI
  have h_q1 := mu_k (e := .inr (0, [.int p0, .ref t0, .int p1, .int 0, .null, .ref q1, .int 0, .int 0, .int 0, .int 32, .int 0, .int 0, .int 0, .int ((-1)), .int ((-1))])) (kd_ne h_q1 h_I rfl) h_q1
  have h_V := mu_k (e := .inr (0, [.int p0, .ref t0, .int p1, .int 0, .null, .ref q1, .int 0, .int 0, .int 0, .int 32, .int 0, .int 0, .int 0, .int ((-1)), .int ((-1))])) (kd_ne h_V h_I rfl) h_V
  have h_E := mu_k (e := .inr (0, [.int p0, .ref t0, .int p1, .int 0, .null, .ref q1, .int 0, .int 0, .int 0, .int 32, .int 0, .int 0, .int 0, .int ((-1)), .int ((-1))])) (kd_ne h_E h_I rfl) h_E
  rw [mu_uu] at hP hI h_q1 h_V h_E
  have h_I : (mu (mu (mu (mu (mu Mw q1 (.inr (1, [.null, .null, .int 0]))) va0 (.inl (G.2.1 0, 8, .inl (fun _ => 0)))) er0 (.inl (G.2.1 0, 8, .inl (fun _ => 0)))) q1 (.inr (1, [.ref va0, .ref er0, .int 0]))) a0 (.inr (0, [.int p0, .ref t0, .int p1, .int 0, .null, .ref q1, .int 0, .int 0, .int 0, .int 32, .int 0, .int 0, .int 0, .int ((-1)), .int ((-1))]))) a0 = some (.inr (0, [.int p0, .ref t0, .int p1, .int 0, .null, .ref q1, .int 0, .int 0, .int 0, .int 32, .int 0, .int 0, .int 0, .int ((-1)), .int ((-1))])) := mu_s
  refine lv_aload_n hx hb dX0_init_46 rfl (lv_at hl 0 rfl) ?_
  refine lv_iload hx hb dX0_init_47 (lv_at hl 4 rfl) ?_
  refine m_putF (ci := 0) (v := .int p2) (ty := .char) (C := RX0) (T := TX0) (N := 15) hx hb hts i_X0 tyX0 tyX0_ok nmX0 hown hK hP hI hS h_I rfl 3 (by decide) (hts (.fieldLink RX0 39 "Meniscus$Instrument" "glass" "C") (by decide +kernel)) (fun _ h9 => h9) rfl hin rfl (by decide +kernel) hch.1 hch.2 (Nat.le_of_ble_eq_true rfl) dX0_init_49 (fun H locs hP hI hS => ?_)
  have hP : mP G.1 (mu (mu (mu (mu (mu (mu Mw q1 (.inr (1, [.null, .null, .int 0]))) va0 (.inl (G.2.1 0, 8, .inl (fun _ => 0)))) er0 (.inl (G.2.1 0, 8, .inl (fun _ => 0)))) q1 (.inr (1, [.ref va0, .ref er0, .int 0]))) a0 (.inr (0, [.int p0, .ref t0, .int p1, .int 0, .null, .ref q1, .int 0, .int 0, .int 0, .int 32, .int 0, .int 0, .int 0, .int ((-1)), .int ((-1))]))) a0 (.inr (0, [.int p0, .ref t0, .int p1, .int p2, .null, .ref q1, .int 0, .int 0, .int 0, .int 32, .int 0, .int 0, .int 0, .int ((-1)), .int ((-1))]))) H := hP
  have hI : mI A (mu (mu (mu (mu (mu (mu Mw q1 (.inr (1, [.null, .null, .int 0]))) va0 (.inl (G.2.1 0, 8, .inl (fun _ => 0)))) er0 (.inl (G.2.1 0, 8, .inl (fun _ => 0)))) q1 (.inr (1, [.ref va0, .ref er0, .int 0]))) a0 (.inr (0, [.int p0, .ref t0, .int p1, .int 0, .null, .ref q1, .int 0, .int 0, .int 0, .int 32, .int 0, .int 0, .int 0, .int ((-1)), .int ((-1))]))) a0 (.inr (0, [.int p0, .ref t0, .int p1, .int p2, .null, .ref q1, .int 0, .int 0, .int 0, .int 32, .int 0, .int 0, .int 0, .int ((-1)), .int ((-1))]))) := hI
  have h_q1 := mu_k (e := .inr (0, [.int p0, .ref t0, .int p1, .int p2, .null, .ref q1, .int 0, .int 0, .int 0, .int 32, .int 0, .int 0, .int 0, .int ((-1)), .int ((-1))])) (kd_ne h_q1 h_I rfl) h_q1
  have h_V := mu_k (e := .inr (0, [.int p0, .ref t0, .int p1, .int p2, .null, .ref q1, .int 0, .int 0, .int 0, .int 32, .int 0, .int 0, .int 0, .int ((-1)), .int ((-1))])) (kd_ne h_V h_I rfl) h_V
  have h_E := mu_k (e := .inr (0, [.int p0, .ref t0, .int p1, .int p2, .null, .ref q1, .int 0, .int 0, .int 0, .int 32, .int 0, .int 0, .int 0, .int ((-1)), .int ((-1))])) (kd_ne h_E h_I rfl) h_E
  rw [mu_uu] at hP hI h_q1 h_V h_E
  have h_I : (mu (mu (mu (mu (mu Mw q1 (.inr (1, [.null, .null, .int 0]))) va0 (.inl (G.2.1 0, 8, .inl (fun _ => 0)))) er0 (.inl (G.2.1 0, 8, .inl (fun _ => 0)))) q1 (.inr (1, [.ref va0, .ref er0, .int 0]))) a0 (.inr (0, [.int p0, .ref t0, .int p1, .int p2, .null, .ref q1, .int 0, .int 0, .int 0, .int 32, .int 0, .int 0, .int 0, .int ((-1)), .int ((-1))]))) a0 = some (.inr (0, [.int p0, .ref t0, .int p1, .int p2, .null, .ref q1, .int 0, .int 0, .int 0, .int 32, .int 0, .int 0, .int 0, .int ((-1)), .int ((-1))])) := mu_s
  refine lv_aload_n hx hb dX0_init_52 rfl (lv_at hl 0 rfl) ?_
  refine m_new (ci := 2) (fs := [.null, .int 0, .int 0, .int 0, .int 0]) (C := RX2) (T := TX2) (N := 5) hx hb hts i_X2 tyX2 tyX2_ok hown (hts (.classLink RX0 42 RX2) (by decide +kernel)) (hts (.instantiable RX2 5) (by decide +kernel)) (hts (.initialized RX2) (by decide +kernel)) hK hP hI hS hA rfl (fun j hj => by rcases (show j = 0 ∨ j = 1 ∨ j = 2 ∨ j = 3 ∨ j = 4 by omega) with rfl | rfl | rfl | rfl | rfl <;> rfl) (Nat.le_of_ble_eq_true rfl) (Nat.le_of_ble_eq_true rfl) dX0_init_53 (fun q3 H hn_q3 hP hI hS => ?_)
  have h_I := mu_x (e := .inr (2, [.null, .int 0, .int 0, .int 0, .int 0])) h_I hn_q3
  have h_q1 := mu_x (e := .inr (2, [.null, .int 0, .int 0, .int 0, .int 0])) h_q1 hn_q3
  have h_V := mu_x (e := .inr (2, [.null, .int 0, .int 0, .int 0, .int 0])) h_V hn_q3
  have h_E := mu_x (e := .inr (2, [.null, .int 0, .int 0, .int 0, .int 0])) h_E hn_q3
  have h_q3 : (mu (mu (mu (mu (mu (mu Mw q1 (.inr (1, [.null, .null, .int 0]))) va0 (.inl (G.2.1 0, 8, .inl (fun _ => 0)))) er0 (.inl (G.2.1 0, 8, .inl (fun _ => 0)))) q1 (.inr (1, [.ref va0, .ref er0, .int 0]))) a0 (.inr (0, [.int p0, .ref t0, .int p1, .int p2, .null, .ref q1, .int 0, .int 0, .int 0, .int 32, .int 0, .int 0, .int 0, .int ((-1)), .int ((-1))]))) q3 (.inr (2, [.null, .int 0, .int 0, .int 0, .int 0]))) q3 = some (.inr (2, [.null, .int 0, .int 0, .int 0, .int 0])) := mu_s
  refine lv_dup hx hb dX0_init_56 rfl ?_
  refine lv_aload_n hx hb dX0_init_57 rfl (lv_at hl 2 rfl) ?_
  refine m_callv (va_runI (As := [.ref t0]) (rest := [.ref q3, .ref a0]) ⟨hx, hb, hml, hown, hts⟩ (c_X2_init l G A (mu (mu (mu (mu (mu (mu Mw q1 (.inr (1, [.null, .null, .int 0]))) va0 (.inl (G.2.1 0, 8, .inl (fun _ => 0)))) er0 (.inl (G.2.1 0, 8, .inl (fun _ => 0)))) q1 (.inr (1, [.ref va0, .ref er0, .int 0]))) a0 (.inr (0, [.int p0, .ref t0, .int p1, .int p2, .null, .ref q1, .int 0, .int 0, .int 0, .int 32, .int 0, .int 0, .int 0, .int ((-1)), .int ((-1))]))) q3 (.inr (2, [.null, .int 0, .int 0, .int 0, .int 0])))  t0 h_q3) (cwI 1 hts gX0_init_X2_init rfl rfl rfl (hts (.initialized RX2) (by decide +kernel)) (hts (.methodLink RX0 44 yX2_init) (by decide +kernel)) (hts (.instanceMethod yX2_init) (by decide +kernel)) rfl (by decide +kernel) ⟨Nat.le_of_ble_eq_true rfl, Nat.le_of_ble_eq_true rfl⟩) (mPreS hG hS hP hI hA) rfl rfl hl.1 rfl (lv_room (Nat.le_of_ble_eq_true rfl)) dX0_init_58 ⟨Nat.le_of_ble_eq_true rfl, Nat.le_of_ble_eq_true rfl⟩) hS (fun Mw1 H locs hp_r4 hP hI hS => ?_)
  subst Mw1
  have h_I := mu_k (e := .inr (2, [.ref t0, .int ((-1)), .int ((-1)), .int 0, .int 32])) (kd_ne h_I h_q3 rfl) h_I
  have h_q1 := mu_k (e := .inr (2, [.ref t0, .int ((-1)), .int ((-1)), .int 0, .int 32])) (kd_ne h_q1 h_q3 rfl) h_q1
  have h_V := mu_k (e := .inr (2, [.ref t0, .int ((-1)), .int ((-1)), .int 0, .int 32])) (kd_ne h_V h_q3 rfl) h_V
  have h_E := mu_k (e := .inr (2, [.ref t0, .int ((-1)), .int ((-1)), .int 0, .int 32])) (kd_ne h_E h_q3 rfl) h_E
  have h_q3 : (mu (mu (mu (mu (mu (mu (mu Mw q1 (.inr (1, [.null, .null, .int 0]))) va0 (.inl (G.2.1 0, 8, .inl (fun _ => 0)))) er0 (.inl (G.2.1 0, 8, .inl (fun _ => 0)))) q1 (.inr (1, [.ref va0, .ref er0, .int 0]))) a0 (.inr (0, [.int p0, .ref t0, .int p1, .int p2, .null, .ref q1, .int 0, .int 0, .int 0, .int 32, .int 0, .int 0, .int 0, .int ((-1)), .int ((-1))]))) q3 (.inr (2, [.null, .int 0, .int 0, .int 0, .int 0]))) q3 (.inr (2, [.ref t0, .int ((-1)), .int ((-1)), .int 0, .int 32]))) q3 = some (.inr (2, [.ref t0, .int ((-1)), .int ((-1)), .int 0, .int 32])) := mu_s
  refine m_putF (ci := 0) (v := .ref q3) (ty := .object "Meniscus$Scale") (C := RX0) (T := TX0) (N := 15) hx hb hts i_X0 tyX0 tyX0_ok nmX0 hown hK hP hI hS h_I rfl 4 (by decide) (hts (.fieldLink RX0 47 "Meniscus$Instrument" "scale" "LMeniscus$Scale;") (by decide +kernel)) (fun _ h9 => h9) rfl hin rfl (by decide +kernel) rfl rfl (Nat.le_of_ble_eq_true rfl) dX0_init_61 (fun H locs hP hI hS => ?_)
  have hP : mP G.1 (mu (mu (mu (mu (mu (mu (mu (mu Mw q1 (.inr (1, [.null, .null, .int 0]))) va0 (.inl (G.2.1 0, 8, .inl (fun _ => 0)))) er0 (.inl (G.2.1 0, 8, .inl (fun _ => 0)))) q1 (.inr (1, [.ref va0, .ref er0, .int 0]))) a0 (.inr (0, [.int p0, .ref t0, .int p1, .int p2, .null, .ref q1, .int 0, .int 0, .int 0, .int 32, .int 0, .int 0, .int 0, .int ((-1)), .int ((-1))]))) q3 (.inr (2, [.null, .int 0, .int 0, .int 0, .int 0]))) q3 (.inr (2, [.ref t0, .int ((-1)), .int ((-1)), .int 0, .int 32]))) a0 (.inr (0, [.int p0, .ref t0, .int p1, .int p2, .ref q3, .ref q1, .int 0, .int 0, .int 0, .int 32, .int 0, .int 0, .int 0, .int ((-1)), .int ((-1))]))) H := hP
  have hI : mI A (mu (mu (mu (mu (mu (mu (mu (mu Mw q1 (.inr (1, [.null, .null, .int 0]))) va0 (.inl (G.2.1 0, 8, .inl (fun _ => 0)))) er0 (.inl (G.2.1 0, 8, .inl (fun _ => 0)))) q1 (.inr (1, [.ref va0, .ref er0, .int 0]))) a0 (.inr (0, [.int p0, .ref t0, .int p1, .int p2, .null, .ref q1, .int 0, .int 0, .int 0, .int 32, .int 0, .int 0, .int 0, .int ((-1)), .int ((-1))]))) q3 (.inr (2, [.null, .int 0, .int 0, .int 0, .int 0]))) q3 (.inr (2, [.ref t0, .int ((-1)), .int ((-1)), .int 0, .int 32]))) a0 (.inr (0, [.int p0, .ref t0, .int p1, .int p2, .ref q3, .ref q1, .int 0, .int 0, .int 0, .int 32, .int 0, .int 0, .int 0, .int ((-1)), .int ((-1))]))) := hI
  have h_q1 := mu_k (e := .inr (0, [.int p0, .ref t0, .int p1, .int p2, .ref q3, .ref q1, .int 0, .int 0, .int 0, .int 32, .int 0, .int 0, .int 0, .int ((-1)), .int ((-1))])) (kd_ne h_q1 h_I rfl) h_q1
  have h_V := mu_k (e := .inr (0, [.int p0, .ref t0, .int p1, .int p2, .ref q3, .ref q1, .int 0, .int 0, .int 0, .int 32, .int 0, .int 0, .int 0, .int ((-1)), .int ((-1))])) (kd_ne h_V h_I rfl) h_V
  have h_E := mu_k (e := .inr (0, [.int p0, .ref t0, .int p1, .int p2, .ref q3, .ref q1, .int 0, .int 0, .int 0, .int 32, .int 0, .int 0, .int 0, .int ((-1)), .int ((-1))])) (kd_ne h_E h_I rfl) h_E
  have h_q3 := mu_k (e := .inr (0, [.int p0, .ref t0, .int p1, .int p2, .ref q3, .ref q1, .int 0, .int 0, .int 0, .int 32, .int 0, .int 0, .int 0, .int ((-1)), .int ((-1))])) (kd_ne h_q3 h_I rfl) h_q3
  have h_I : (mu (mu (mu (mu (mu (mu (mu (mu Mw q1 (.inr (1, [.null, .null, .int 0]))) va0 (.inl (G.2.1 0, 8, .inl (fun _ => 0)))) er0 (.inl (G.2.1 0, 8, .inl (fun _ => 0)))) q1 (.inr (1, [.ref va0, .ref er0, .int 0]))) a0 (.inr (0, [.int p0, .ref t0, .int p1, .int p2, .null, .ref q1, .int 0, .int 0, .int 0, .int 32, .int 0, .int 0, .int 0, .int ((-1)), .int ((-1))]))) q3 (.inr (2, [.null, .int 0, .int 0, .int 0, .int 0]))) q3 (.inr (2, [.ref t0, .int ((-1)), .int ((-1)), .int 0, .int 32]))) a0 (.inr (0, [.int p0, .ref t0, .int p1, .int p2, .ref q3, .ref q1, .int 0, .int 0, .int 0, .int 32, .int 0, .int 0, .int 0, .int ((-1)), .int ((-1))]))) a0 = some (.inr (0, [.int p0, .ref t0, .int p1, .int p2, .ref q3, .ref q1, .int 0, .int 0, .int 0, .int 32, .int 0, .int 0, .int 0, .int ((-1)), .int ((-1))])) := mu_s
  refine W.widen (k := 4) (n := 24) (Nat.le_of_ble_eq_true rfl) (Nat.le_of_ble_eq_true rfl) ?_
  exact W.vret hx hb hr (fun t99 ht99 hW99 => ⟨⟨(mu (mu (mu (mu (mu (mu (mu (mu Mw q1 (.inr (1, [.null, .null, .int 0]))) va0 (.inl (G.2.1 0, 8, .inl (fun _ => 0)))) er0 (.inl (G.2.1 0, 8, .inl (fun _ => 0)))) q1 (.inr (1, [.ref va0, .ref er0, .int 0]))) a0 (.inr (0, [.int p0, .ref t0, .int p1, .int p2, .null, .ref q1, .int 0, .int 0, .int 0, .int 32, .int 0, .int 0, .int 0, .int ((-1)), .int ((-1))]))) q3 (.inr (2, [.null, .int 0, .int 0, .int 0, .int 0]))) q3 (.inr (2, [.ref t0, .int ((-1)), .int ((-1)), .int 0, .int 32]))) a0 (.inr (0, [.int p0, .ref t0, .int p1, .int p2, .ref q3, .ref q1, .int 0, .int 0, .int 0, .int 32, .int 0, .int 0, .int 0, .int ((-1)), .int ((-1))]))), rfl, ⟨q1, va0, er0, q3, hn_q1, (mu_none hnv).1, (mu_none hne).1, (mu_none (mu_none (mu_none (mu_none (mu_none hn_q3).1).1).1).1).1, kd_ne h_q1 h_V rfl, kd_ne h_q1 h_E rfl, kd_ne h_q1 h_q3 rfl, hve, kd_ne h_V h_q3 rfl, kd_ne h_E h_q3 rfl, mw_ext5 h_I h_q1 h_V h_E h_q3 (fun z h1 h2 h3 h4 h5 => (mu_n h1).trans ((mu_n h5).trans ((mu_n h5).trans ((mu_n h1).trans ((mu_n h2).trans ((mu_n h4).trans ((mu_n h3).trans ((mu_n h2).trans (rfl)))))))))⟩, by rw [ht99]; exact hP, hI⟩, hS.F ht99⟩) hS.2.2 dX0_init_64
end
section
set_option maxHeartbeats 4000000 in
set_option maxRecDepth 100000 in
theorem c_X4_demandRange (l : Launch) (G : mg) (A : Nat → Prop) (Mw : mw) (hl9 : l.stackTraces = false) (p0 p1 p2 : Int32) : vx_Met l yX4_demandRange wsX4_demandRange ({ frames := 6, cells := 1, slots := 6, locals := 82 }) (va_Pc [.int p0, .int p1, .int p2] (mB G A Mw)) (va_Qv (fun Mw1 => (rng p0 p1 p2) ∧ Mw1 = Mw) (mE G A) A) (xX (fun E => E = "java/lang/IllegalArgumentException" ∧ ¬ (rng p0 p1 p2)) G A Mw) 1 6 A := by
  refine vx_ofW (cc := cX4_demandRange) (maxL := 3) (ret := none) (by decide) rfl ?_
  intro p e s m args below meth c s₁ B hml hxt hv
  obtain ⟨rfl, hG, hP, hI, hA⟩ := hv
  have hx := B.exec
  have hb := B.bytes
  have hr := B.returns
  have hts := atoms_spec (ws := wsX4_demandRange) B.pre
  have hown : s.vm.findClass RX4 = some m.cls := findClass_of_methodNamed B.named
  have hlocks := B.notSynchronized
  have hK := hG.K
  have hS : va_S A s.heap s.heap [] := va_S.rf
  have hl := lv_entry ([.int p0, .int p1, .int p2]) (n := 3) (Nat.le_of_ble_eq_true rfl)
  rw [lg_entry_eq]
  generalize (lg_sl ([.int p0, .int p1, .int p2]) ++ List.replicate (3 - (lg_sl ([.int p0, .int p1, .int p2])).length) Slot.unset).toArray = ls at hl ⊢
  have hl : lv_has ls 3 [(0, .int p0), (1, .int p1), (2, .int p2)] := hl
  have hP : mP G.1 Mw s.heap := hP
  refine lv_iload_n hx hb dX4_demandRange_0 rfl (lv_at hl 0 rfl) ?_
  refine lv_iload_n hx hb dX4_demandRange_1 rfl (lv_at hl 1 rfl) ?_
  refine lv_icmp_lt (tgt := 10) hx hb dX4_demandRange_2 (by decide) (fun c1 => ?_) (fun c1 => ?_)
  · skip
    obtain ⟨sa9, hsa9⟩ := hG.2.1.2.2.2.2.2.1 (302, "a number is out of range") (by decide +kernel)
    exact vx_throwSW (text := "a number is out of range") (names := ["java/lang/RuntimeException", "java/lang/Exception"]) hx hb hl9 hown (by decide +kernel) (by decide +kernel) (hts (.classLink RX4 77 "java/lang/IllegalArgumentException") (by decide +kernel)) (hts (.initialized "java/lang/IllegalArgumentException") (by decide +kernel)) hsa9 (m_hat hG (fun w h => hts w (List.mem_cons_of_mem _ (List.mem_append_right _ h))) (by decide +kernel) (by decide +kernel)) (by decide +kernel) hG.2.2.1 hG.2.2.2.1 hS (hl.1.trans hml.symm) dX4_demandRange_10 dX4_demandRange_13 dX4_demandRange_14 dX4_demandRange_17 dX4_demandRange_20 (fun x hx9 => absurd hx9 (fun q => hxt x q)) (Nat.le_of_ble_eq_true rfl) (Nat.le_of_ble_eq_true rfl) (Nat.le_of_ble_eq_true rfl) (Nat.le_of_ble_eq_true rfl) hlocks (fun t9 _ h92 h93 => m_thrown (px := fun E => E = "java/lang/IllegalArgumentException" ∧ ¬ (rng p0 p1 p2)) (E := "java/lang/IllegalArgumentException") hP hI hS (⟨rfl, by first | exact fun q => q.1 (by assumption) | exact fun q => absurd q.2 (by assumption)⟩) t9 h92 h93) hS.2.2 (Nat.le_of_ble_eq_true rfl) (Nat.le_of_ble_eq_true rfl)
  · skip
    refine lv_iload_n hx hb dX4_demandRange_5 rfl (lv_at hl 0 rfl) ?_
    refine lv_iload_n hx hb dX4_demandRange_6 rfl (lv_at hl 2 rfl) ?_
    refine lv_icmp_le (tgt := 21) hx hb dX4_demandRange_7 (by decide) (fun c2 => ?_) (fun c2 => ?_)
    · skip
      refine W.widen (k := 1) (n := 6) (Nat.le_of_ble_eq_true rfl) (Nat.le_of_ble_eq_true rfl) ?_
      refine vx_ret ?_
      exact W.vret hx hb hr (fun t99 ht99 hW99 => ⟨⟨Mw, rfl, ⟨⟨by assumption, by assumption⟩, rfl⟩, by rw [ht99]; exact hP, hI⟩, hS.F ht99⟩) hS.2.2 dX4_demandRange_21
    · skip
      obtain ⟨sa9, hsa9⟩ := hG.2.1.2.2.2.2.2.1 (302, "a number is out of range") (by decide +kernel)
      exact vx_throwSW (text := "a number is out of range") (names := ["java/lang/RuntimeException", "java/lang/Exception"]) hx hb hl9 hown (by decide +kernel) (by decide +kernel) (hts (.classLink RX4 77 "java/lang/IllegalArgumentException") (by decide +kernel)) (hts (.initialized "java/lang/IllegalArgumentException") (by decide +kernel)) hsa9 (m_hat hG (fun w h => hts w (List.mem_cons_of_mem _ (List.mem_append_right _ h))) (by decide +kernel) (by decide +kernel)) (by decide +kernel) hG.2.2.1 hG.2.2.2.1 hS (hl.1.trans hml.symm) dX4_demandRange_10 dX4_demandRange_13 dX4_demandRange_14 dX4_demandRange_17 dX4_demandRange_20 (fun x hx9 => absurd hx9 (fun q => hxt x q)) (Nat.le_of_ble_eq_true rfl) (Nat.le_of_ble_eq_true rfl) (Nat.le_of_ble_eq_true rfl) (Nat.le_of_ble_eq_true rfl) hlocks (fun t9 _ h92 h93 => m_thrown (px := fun E => E = "java/lang/IllegalArgumentException" ∧ ¬ (rng p0 p1 p2)) (E := "java/lang/IllegalArgumentException") hP hI hS (⟨rfl, by first | exact fun q => q.1 (by assumption) | exact fun q => absurd q.2 (by assumption)⟩) t9 h92 h93) hS.2.2 (Nat.le_of_ble_eq_true rfl) (Nat.le_of_ble_eq_true rfl)

set_option maxHeartbeats 4000000 in
set_option maxRecDepth 100000 in
theorem c_X4_demandPlace (l : Launch) (G : mg) (A : Nat → Prop) (Mw : mw) (hl9 : l.stackTraces = false) (p0 : Int32) : vx_Met l yX4_demandPlace wsX4_demandPlace ({ frames := 7, cells := 1, slots := 6, locals := 104 }) (va_Pc [.int p0] (mB G A Mw)) (va_Qv (fun Mw1 => (rng p0 (0) 200) ∧ Mw1 = Mw) (mE G A) A) (xX (fun E => E = "java/lang/IllegalArgumentException" ∧ ¬ (rng p0 (0) 200)) G A Mw) 1 6 A := by
  refine vx_ofW (cc := cX4_demandPlace) (maxL := 1) (ret := none) (by decide) rfl ?_
  intro p e s m args below meth c s₁ B hml hxt hv
  obtain ⟨rfl, hG, hP, hI, hA⟩ := hv
  have hx := B.exec
  have hb := B.bytes
  have hr := B.returns
  have hts := atoms_spec (ws := wsX4_demandPlace) B.pre
  have hown : s.vm.findClass RX4 = some m.cls := findClass_of_methodNamed B.named
  have hlocks := B.notSynchronized
  have hK := hG.K
  have hS : va_S A s.heap s.heap [] := va_S.rf
  have hl := lv_entry ([.int p0]) (n := 1) (Nat.le_of_ble_eq_true rfl)
  rw [lg_entry_eq]
  generalize (lg_sl ([.int p0]) ++ List.replicate (1 - (lg_sl ([.int p0])).length) Slot.unset).toArray = ls at hl ⊢
  have hl : lv_has ls 1 [(0, .int p0)] := hl
  have hP : mP G.1 Mw s.heap := hP
  refine lv_iload_n hx hb dX4_demandPlace_0 rfl (lv_at hl 0 rfl) ?_
  refine lv_iconst (v := 0) hx hb dX4_demandPlace_1 (by decide) ?_
  refine lv_sipush (v := (200)) hx hb dX4_demandPlace_2 (by decide) ?_
  refine mx_callv (vx_runS (As := [.int p0, .int 0, .int 200]) (rest := []) ⟨hx, hb, hml, hown, hts⟩ (c_X4_demandRange l G A Mw hl9  p0 0 200) (va_cwS 3 hts gX4_demandPlace_X4_demandRange rfl rfl rfl (by decide +kernel) ⟨Nat.le_of_ble_eq_true rfl, Nat.le_of_ble_eq_true rfl⟩) (mPreS hG hS hP hI hA) rfl rfl hl.1 rfl (lv_room (Nat.le_of_ble_eq_true rfl)) dX4_demandPlace_5 ⟨Nat.le_of_ble_eq_true rfl, Nat.le_of_ble_eq_true rfl⟩) hS (fun E9 ce9 q9 H locs hpx9 hP hI hS hc9 hv9 hcl9 => m_out (px := fun E => E = "java/lang/IllegalArgumentException" ∧ ¬ (rng p0 (0) 200)) (fun x hx9 => absurd hx9 (fun q => hxt x q)) hlocks hP hI hS hc9 hv9 hcl9 (hpx9) (Nat.le_of_ble_eq_true rfl) (Nat.le_of_ble_eq_true rfl)) (fun Mw1 H locs hp_r1 hP hI hS => ?_)
  obtain ⟨hp_r1, hm9⟩ := hp_r1
  subst Mw1
  refine W.widen (k := 1) (n := 6) (Nat.le_of_ble_eq_true rfl) (Nat.le_of_ble_eq_true rfl) ?_
  refine vx_ret ?_
  exact W.vret hx hb hr (fun t99 ht99 hW99 => ⟨⟨Mw, rfl, ⟨hp_r1, rfl⟩, by rw [ht99]; exact hP, hI⟩, hS.F ht99⟩) hS.2.2 dX4_demandPlace_8

set_option maxHeartbeats 4000000 in
set_option maxRecDepth 100000 in
theorem c_X4_demandPressure (l : Launch) (G : mg) (A : Nat → Prop) (Mw : mw) (hl9 : l.stackTraces = false) (p0 : Int32) : vx_Met l yX4_demandPressure wsX4_demandPressure ({ frames := 7, cells := 1, slots := 6, locals := 104 }) (va_Pc [.int p0] (mB G A Mw)) (va_Qv (fun Mw1 => (rng p0 (700) 800) ∧ Mw1 = Mw) (mE G A) A) (xX (fun E => E = "java/lang/IllegalArgumentException" ∧ ¬ (rng p0 (700) 800)) G A Mw) 1 6 A := by
  refine vx_ofW (cc := cX4_demandPressure) (maxL := 1) (ret := none) (by decide) rfl ?_
  intro p e s m args below meth c s₁ B hml hxt hv
  obtain ⟨rfl, hG, hP, hI, hA⟩ := hv
  have hx := B.exec
  have hb := B.bytes
  have hr := B.returns
  have hts := atoms_spec (ws := wsX4_demandPressure) B.pre
  have hown : s.vm.findClass RX4 = some m.cls := findClass_of_methodNamed B.named
  have hlocks := B.notSynchronized
  have hK := hG.K
  have hS : va_S A s.heap s.heap [] := va_S.rf
  have hl := lv_entry ([.int p0]) (n := 1) (Nat.le_of_ble_eq_true rfl)
  rw [lg_entry_eq]
  generalize (lg_sl ([.int p0]) ++ List.replicate (1 - (lg_sl ([.int p0])).length) Slot.unset).toArray = ls at hl ⊢
  have hl : lv_has ls 1 [(0, .int p0)] := hl
  have hP : mP G.1 Mw s.heap := hP
  refine lv_iload_n hx hb dX4_demandPressure_0 rfl (lv_at hl 0 rfl) ?_
  refine lv_sipush (v := (700)) hx hb dX4_demandPressure_1 (by decide) ?_
  refine lv_sipush (v := (800)) hx hb dX4_demandPressure_4 (by decide) ?_
  refine mx_callv (vx_runS (As := [.int p0, .int 700, .int 800]) (rest := []) ⟨hx, hb, hml, hown, hts⟩ (c_X4_demandRange l G A Mw hl9  p0 700 800) (va_cwS 3 hts gX4_demandPressure_X4_demandRange rfl rfl rfl (by decide +kernel) ⟨Nat.le_of_ble_eq_true rfl, Nat.le_of_ble_eq_true rfl⟩) (mPreS hG hS hP hI hA) rfl rfl hl.1 rfl (lv_room (Nat.le_of_ble_eq_true rfl)) dX4_demandPressure_7 ⟨Nat.le_of_ble_eq_true rfl, Nat.le_of_ble_eq_true rfl⟩) hS (fun E9 ce9 q9 H locs hpx9 hP hI hS hc9 hv9 hcl9 => m_out (px := fun E => E = "java/lang/IllegalArgumentException" ∧ ¬ (rng p0 (700) 800)) (fun x hx9 => absurd hx9 (fun q => hxt x q)) hlocks hP hI hS hc9 hv9 hcl9 (hpx9) (Nat.le_of_ble_eq_true rfl) (Nat.le_of_ble_eq_true rfl)) (fun Mw1 H locs hp_r1 hP hI hS => ?_)
  obtain ⟨hp_r1, hm9⟩ := hp_r1
  subst Mw1
  refine W.widen (k := 1) (n := 6) (Nat.le_of_ble_eq_true rfl) (Nat.le_of_ble_eq_true rfl) ?_
  refine vx_ret ?_
  exact W.vret hx hb hr (fun t99 ht99 hW99 => ⟨⟨Mw, rfl, ⟨hp_r1, rfl⟩, by rw [ht99]; exact hP, hI⟩, hS.F ht99⟩) hS.2.2 dX4_demandPressure_10

set_option maxHeartbeats 4000000 in
set_option maxRecDepth 100000 in
theorem c_X4_demandEither (l : Launch) (G : mg) (A : Nat → Prop) (Mw : mw) (hl9 : l.stackTraces = false) (p0 p1 p2 : Int32) : vx_Met l yX4_demandEither wsX4_demandEither ({ frames := 6, cells := 1, slots := 6, locals := 82 }) (va_Pc [.int p0, .int p1, .int p2] (mB G A Mw)) (va_Qv (fun Mw1 => (eith p0 p1 p2) ∧ Mw1 = Mw) (mE G A) A) (xX (fun E => E = "java/lang/IllegalArgumentException" ∧ ¬ (eith p0 p1 p2)) G A Mw) 1 6 A := by
  refine vx_ofW (cc := cX4_demandEither) (maxL := 3) (ret := none) (by decide) rfl ?_
  intro p e s m args below meth c s₁ B hml hxt hv
  obtain ⟨rfl, hG, hP, hI, hA⟩ := hv
  have hx := B.exec
  have hb := B.bytes
  have hr := B.returns
  have hts := atoms_spec (ws := wsX4_demandEither) B.pre
  have hown : s.vm.findClass RX4 = some m.cls := findClass_of_methodNamed B.named
  have hlocks := B.notSynchronized
  have hK := hG.K
  have hS : va_S A s.heap s.heap [] := va_S.rf
  have hl := lv_entry ([.int p0, .int p1, .int p2]) (n := 3) (Nat.le_of_ble_eq_true rfl)
  rw [lg_entry_eq]
  generalize (lg_sl ([.int p0, .int p1, .int p2]) ++ List.replicate (3 - (lg_sl ([.int p0, .int p1, .int p2])).length) Slot.unset).toArray = ls at hl ⊢
  have hl : lv_has ls 3 [(0, .int p0), (1, .int p1), (2, .int p2)] := hl
  have hP : mP G.1 Mw s.heap := hP
  refine lv_iload_n hx hb dX4_demandEither_0 rfl (lv_at hl 0 rfl) ?_
  refine lv_iload_n hx hb dX4_demandEither_1 rfl (lv_at hl 1 rfl) ?_
  refine lv_icmp_eq (tgt := 21) hx hb dX4_demandEither_2 (by decide) (fun c1 => ?_) (fun c1 => ?_)
  · skip
    refine W.widen (k := 1) (n := 6) (Nat.le_of_ble_eq_true rfl) (Nat.le_of_ble_eq_true rfl) ?_
    refine vx_ret ?_
    exact W.vret hx hb hr (fun t99 ht99 hW99 => ⟨⟨Mw, rfl, ⟨by first | exact Or.inl (by assumption) | exact Or.inr (by assumption), rfl⟩, by rw [ht99]; exact hP, hI⟩, hS.F ht99⟩) hS.2.2 dX4_demandEither_21
  · skip
    refine lv_iload_n hx hb dX4_demandEither_5 rfl (lv_at hl 0 rfl) ?_
    refine lv_iload_n hx hb dX4_demandEither_6 rfl (lv_at hl 2 rfl) ?_
    refine lv_icmp_eq (tgt := 21) hx hb dX4_demandEither_7 (by decide) (fun c2 => ?_) (fun c2 => ?_)
    · skip
      refine W.widen (k := 1) (n := 6) (Nat.le_of_ble_eq_true rfl) (Nat.le_of_ble_eq_true rfl) ?_
      refine vx_ret ?_
      exact W.vret hx hb hr (fun t99 ht99 hW99 => ⟨⟨Mw, rfl, ⟨by first | exact Or.inl (by assumption) | exact Or.inr (by assumption), rfl⟩, by rw [ht99]; exact hP, hI⟩, hS.F ht99⟩) hS.2.2 dX4_demandEither_21
    · skip
      obtain ⟨sa9, hsa9⟩ := hG.2.1.2.2.2.2.2.1 (304, "there is no such kind") (by decide +kernel)
      exact vx_throwSW (text := "there is no such kind") (names := ["java/lang/RuntimeException", "java/lang/Exception"]) hx hb hl9 hown (by decide +kernel) (by decide +kernel) (hts (.classLink RX4 77 "java/lang/IllegalArgumentException") (by decide +kernel)) (hts (.initialized "java/lang/IllegalArgumentException") (by decide +kernel)) hsa9 (m_hat hG (fun w h => hts w (List.mem_cons_of_mem _ (List.mem_append_right _ h))) (by decide +kernel) (by decide +kernel)) (by decide +kernel) hG.2.2.1 hG.2.2.2.1 hS (hl.1.trans hml.symm) dX4_demandEither_10 dX4_demandEither_13 dX4_demandEither_14 dX4_demandEither_17 dX4_demandEither_20 (fun x hx9 => absurd hx9 (fun q => hxt x q)) (Nat.le_of_ble_eq_true rfl) (Nat.le_of_ble_eq_true rfl) (Nat.le_of_ble_eq_true rfl) (Nat.le_of_ble_eq_true rfl) hlocks (fun t9 _ h92 h93 => m_thrown (px := fun E => E = "java/lang/IllegalArgumentException" ∧ ¬ (eith p0 p1 p2)) (E := "java/lang/IllegalArgumentException") hP hI hS (⟨rfl, fun q => q.elim (by assumption) (by assumption)⟩) t9 h92 h93) hS.2.2 (Nat.le_of_ble_eq_true rfl) (Nat.le_of_ble_eq_true rfl)

set_option maxHeartbeats 4000000 in
set_option maxRecDepth 100000 in
theorem c_X4_demandUnused (l : Launch) (G : mg) (A : Nat → Prop) (Mw : mw) (hl9 : l.stackTraces = false) {t0 b0 : Nat} {us0 : Int32} (h_T : Mw t0 = some (.inr (3, [.ref b0, .int us0]))) : vx_Met l yX4_demandUnused wsX4_demandUnused ({ frames := 6, cells := 1, slots := 6, locals := 82 }) (va_Pc [.ref t0] (mB G A Mw)) (va_Qv (fun Mw1 => (us0 = 0) ∧ Mw1 = Mw) (mE G A) A) (xX (fun E => E = "java/lang/UnsupportedOperationException" ∧ ¬ (us0 = 0)) G A Mw) 1 6 A := by
  refine vx_ofW (cc := cX4_demandUnused) (maxL := 1) (ret := none) (by decide) rfl ?_
  intro p e s m args below meth c s₁ B hml hxt hv
  obtain ⟨rfl, hG, hP, hI, hA⟩ := hv
  have hx := B.exec
  have hb := B.bytes
  have hr := B.returns
  have hts := atoms_spec (ws := wsX4_demandUnused) B.pre
  have hown : s.vm.findClass RX4 = some m.cls := findClass_of_methodNamed B.named
  have hlocks := B.notSynchronized
  have hK := hG.K
  have i_X3 : ∀ w ∈ wsX30, w ∈ wsX4_demandUnused := by decide +kernel
  have hS : va_S A s.heap s.heap [] := va_S.rf
  have hl := lv_entry ([.ref t0]) (n := 1) (Nat.le_of_ble_eq_true rfl)
  rw [lg_entry_eq]
  generalize (lg_sl ([.ref t0]) ++ List.replicate (1 - (lg_sl ([.ref t0])).length) Slot.unset).toArray = ls at hl ⊢
  have hl : lv_has ls 1 [(0, .ref t0)] := hl
  have hP : mP G.1 Mw s.heap := hP
  refine lv_aload_n hx hb dX4_demandUnused_0 rfl (lv_at hl 0 rfl) ?_
  refine m_getN (ci := 3) (v := .int us0) (C := RX3) (T := TX3) (N := 2) hx hb hts i_X3 hown hK (hP _ _ h_T) rfl 1 (by decide) (va_Nw.use rfl (hG.2.1.2.1 ("Meniscus", 99, "Meniscus$Tube", "used", "Z", "Meniscus") (by decide +kernel))) (fun _ h9 => h9) rfl dX4_demandUnused_1 ?_
  refine lv_if_eq (tgt := 18) hx hb dX4_demandUnused_4 (by decide) (fun c1 => ?_) (fun c1 => ?_)
  · skip
    refine W.widen (k := 1) (n := 6) (Nat.le_of_ble_eq_true rfl) (Nat.le_of_ble_eq_true rfl) ?_
    refine vx_ret ?_
    exact W.vret hx hb hr (fun t99 ht99 hW99 => ⟨⟨Mw, rfl, ⟨by assumption, rfl⟩, by rw [ht99]; exact hP, hI⟩, hS.F ht99⟩) hS.2.2 dX4_demandUnused_18
  · skip
    obtain ⟨sa9, hsa9⟩ := hG.2.1.2.2.2.2.2.1 (306, "the tube is used") (by decide +kernel)
    exact vx_throwSW (text := "the tube is used") (names := ["java/lang/RuntimeException", "java/lang/Exception"]) hx hb hl9 hown (by decide +kernel) (by decide +kernel) (hts (.classLink RX4 122 "java/lang/UnsupportedOperationException") (by decide +kernel)) (hts (.initialized "java/lang/UnsupportedOperationException") (by decide +kernel)) hsa9 (m_hat hG (fun w h => hts w (List.mem_cons_of_mem _ (List.mem_append_right _ h))) (by decide +kernel) (by decide +kernel)) (by decide +kernel) hG.2.2.1 hG.2.2.2.1 hS (hl.1.trans hml.symm) dX4_demandUnused_7 dX4_demandUnused_10 dX4_demandUnused_11 dX4_demandUnused_14 dX4_demandUnused_17 (fun x hx9 => absurd hx9 (fun q => hxt x q)) (Nat.le_of_ble_eq_true rfl) (Nat.le_of_ble_eq_true rfl) (Nat.le_of_ble_eq_true rfl) (Nat.le_of_ble_eq_true rfl) hlocks (fun t9 _ h92 h93 => m_thrown (px := fun E => E = "java/lang/UnsupportedOperationException" ∧ ¬ (us0 = 0)) (E := "java/lang/UnsupportedOperationException") hP hI hS (⟨rfl, by first | assumption | exact fun q => q (by assumption)⟩) t9 h92 h93) hS.2.2 (Nat.le_of_ble_eq_true rfl) (Nat.le_of_ble_eq_true rfl)

set_option maxHeartbeats 4000000 in
set_option maxRecDepth 100000 in
theorem c_X4_steamAt (l : Launch) (G : mg) (A : Nat → Prop) (Mw : mw) (p0 : Int32) : Met l yX4_steamAt wsX4_steamAt ({ frames := 0, cells := 0, slots := 0, locals := 0 }) (va_Pc [.int p0] (mB G A Mw)) (va_Qi (fun r Mw1 => r = (sta p0) ∧ Mw1 = Mw) (mE G A) A) 0 0 A := by
  refine Met.ofW (cc := cX4_steamAt) (maxL := 1) (ret := (some .int)) (by decide) rfl ?_
  intro p e s m args below meth c s₁ B hml hv
  obtain ⟨rfl, hG, hP, hI, hA⟩ := hv
  have hx := B.exec
  have hb := B.bytes
  have hr := B.returns
  have hts := atoms_spec (ws := wsX4_steamAt) B.pre
  have hown : s.vm.findClass RX4 = some m.cls := findClass_of_methodNamed B.named
  have hlocks := B.notSynchronized
  have hK := hG.K
  have hS : va_S A s.heap s.heap [] := va_S.rf
  have hl := lv_entry ([.int p0]) (n := 1) (Nat.le_of_ble_eq_true rfl)
  rw [lg_entry_eq]
  generalize (lg_sl ([.int p0]) ++ List.replicate (1 - (lg_sl ([.int p0])).length) Slot.unset).toArray = ls at hl ⊢
  have hl : lv_has ls 1 [(0, .int p0)] := hl
  have hP : mP G.1 Mw s.heap := hP
  refine lv_sipush (v := (1000)) hx hb dX4_steamAt_0 (by decide) ?_
  refine lv_bipush (v := (37)) hx hb dX4_steamAt_3 (by decide) ?_
  refine lv_iload_n hx hb dX4_steamAt_5 rfl (lv_at hl 0 rfl) ?_
  refine lv_sipush (v := (760)) hx hb dX4_steamAt_6 (by decide) ?_
  refine lv_isub hx hb dX4_steamAt_9 ?_
  refine lv_imul hx hb dX4_steamAt_10 ?_
  refine lv_bipush (v := (100)) hx hb dX4_steamAt_11 (by decide) ?_
  refine lv_idiv hx hb dX4_steamAt_13 (by decide) ?_
  refine lv_iadd hx hb dX4_steamAt_14 ?_
  refine W.widen (k := 0) (n := 0) (Nat.le_of_ble_eq_true rfl) (Nat.le_of_ble_eq_true rfl) ?_
  exact W.iret (v := 1000 + ((37 * (p0 - 760)) / 100)) hx hb hr (fun t99 ht99 hW99 => ⟨⟨1000 + ((37 * (p0 - 760)) / 100), Mw, rfl, ⟨rfl, rfl⟩, by rw [ht99]; exact hP, hI⟩, hS.F ht99⟩) hS.2.2 dX4_steamAt_15

set_option maxHeartbeats 4000000 in
set_option maxRecDepth 100000 in
theorem c_X4_clingingToStep (l : Launch) (G : mg) (A : Nat → Prop) (Mw : mw) (p0 : Int32) : Met l yX4_clingingToStep wsX4_clingingToStep ({ frames := 0, cells := 0, slots := 0, locals := 0 }) (va_Pc [.int p0] (mB G A Mw)) (va_Qi (fun r Mw1 => r = (cts p0) ∧ Mw1 = Mw) (mE G A) A) 0 0 A := by
  refine Met.ofW (cc := cX4_clingingToStep) (maxL := 1) (ret := (some .int)) (by decide) rfl ?_
  intro p e s m args below meth c s₁ B hml hv
  obtain ⟨rfl, hG, hP, hI, hA⟩ := hv
  have hx := B.exec
  have hb := B.bytes
  have hr := B.returns
  have hts := atoms_spec (ws := wsX4_clingingToStep) B.pre
  have hown : s.vm.findClass RX4 = some m.cls := findClass_of_methodNamed B.named
  have hlocks := B.notSynchronized
  have hK := hG.K
  have hS : va_S A s.heap s.heap [] := va_S.rf
  have hl := lv_entry ([.int p0]) (n := 1) (Nat.le_of_ble_eq_true rfl)
  rw [lg_entry_eq]
  generalize (lg_sl ([.int p0]) ++ List.replicate (1 - (lg_sl ([.int p0])).length) Slot.unset).toArray = ls at hl ⊢
  have hl : lv_has ls 1 [(0, .int p0)] := hl
  have hP : mP G.1 Mw s.heap := hP
  refine lv_iload_n hx hb dX4_clingingToStep_0 rfl (lv_at hl 0 rfl) ?_
  refine lv_bipush (v := (60)) hx hb dX4_clingingToStep_1 (by decide) ?_
  refine lv_icmp_ge (tgt := 19) hx hb dX4_clingingToStep_3 (by decide) (fun c1 => ?_) (fun c1 => ?_)
  · skip
    refine lv_iconst (v := 0) hx hb dX4_clingingToStep_19 (by decide) ?_
    refine W.widen (k := 0) (n := 0) (Nat.le_of_ble_eq_true rfl) (Nat.le_of_ble_eq_true rfl) ?_
    exact W.iret (v := 0) hx hb hr (fun t99 ht99 hW99 => ⟨⟨0, Mw, rfl, ⟨(if_pos c1).symm, rfl⟩, by rw [ht99]; exact hP, hI⟩, hS.F ht99⟩) hS.2.2 dX4_clingingToStep_20
  · skip
    refine lv_bipush (v := (60)) hx hb dX4_clingingToStep_6 (by decide) ?_
    refine lv_iload_n hx hb dX4_clingingToStep_8 rfl (lv_at hl 0 rfl) ?_
    refine lv_isub hx hb dX4_clingingToStep_9 ?_
    refine lv_bipush (v := (9)) hx hb dX4_clingingToStep_10 (by decide) ?_
    refine lv_iadd hx hb dX4_clingingToStep_12 ?_
    refine lv_bipush (v := (10)) hx hb dX4_clingingToStep_13 (by decide) ?_
    refine lv_idiv hx hb dX4_clingingToStep_15 (by decide) ?_
    refine lv_goto (tgt := 20) hx hb dX4_clingingToStep_16 (by decide) ?_
    refine W.widen (k := 0) (n := 0) (Nat.le_of_ble_eq_true rfl) (Nat.le_of_ble_eq_true rfl) ?_
    exact W.iret (v := ((60 - p0) + 9) / 10) hx hb hr (fun t99 ht99 hW99 => ⟨⟨((60 - p0) + 9) / 10, Mw, rfl, ⟨(if_neg c1).symm, rfl⟩, by rw [ht99]; exact hP, hI⟩, hS.F ht99⟩) hS.2.2 dX4_clingingToStep_20

set_option maxHeartbeats 4000000 in
set_option maxRecDepth 100000 in
theorem c_X4_tubeNumbered (l : Launch) (G : mg) (A : Nat → Prop) (Mw : mw) (hl9 : l.stackTraces = false) (p0 : Int32) {x0 ta0 ia0 : Nat} {tc0 ic0 air0 day0 stk0 spl0 bgt0 : Int32} (h_X : Mw x0 = some (.inr (4, [.ref ta0, .ref ia0, .int tc0, .int ic0, .int air0, .int day0, .int stk0, .int spl0, .int bgt0]))) {n8 : Nat} {tb8 : Nat → Nat} (hn8 : n8 ≤ 8) (h_TA : Mw ta0 = some (.inl (G.2.1 3, 8, .inr (.inr (.inr (.inr (qf n8 tb8))))))) : vx_Met l yX4_tubeNumbered wsX4_tubeNumbered ({ frames := 6, cells := 1, slots := 6, locals := 82 }) (va_Pc [.ref x0, .int p0] (mB G A Mw)) (va_Qq (fun r Mw1 => (tkN n8 p0 ∧ r = some (tb8 (ix p0))) ∧ Mw1 = Mw) (mE G A) A) (xX (fun E => E = "java/lang/IndexOutOfBoundsException" ∧ ¬ (tkN n8 p0)) G A Mw) 1 6 A := by
  refine vx_ofW (cc := cX4_tubeNumbered) (maxL := 2) (ret := (some (.object "Meniscus$Tube"))) (by decide) rfl ?_
  intro p e s m args below meth c s₁ B hml hxt hv
  obtain ⟨rfl, hG, hP, hI, hA⟩ := hv
  have hx := B.exec
  have hb := B.bytes
  have hr := B.returns
  have hts := atoms_spec (ws := wsX4_tubeNumbered) B.pre
  have hown : s.vm.findClass RX4 = some m.cls := findClass_of_methodNamed B.named
  have hlocks := B.notSynchronized
  have hK := hG.K
  have i_X4 : ∀ w ∈ wsX40, w ∈ wsX4_tubeNumbered := by decide +kernel
  have hS : va_S A s.heap s.heap [] := va_S.rf
  have hl := lv_entry ([.ref x0, .int p0]) (n := 2) (Nat.le_of_ble_eq_true rfl)
  rw [lg_entry_eq]
  generalize (lg_sl ([.ref x0, .int p0]) ++ List.replicate (2 - (lg_sl ([.ref x0, .int p0])).length) Slot.unset).toArray = ls at hl ⊢
  have hl : lv_has ls 2 [(0, .ref x0), (1, .int p0)] := hl
  have hP : mP G.1 Mw s.heap := hP
  refine lv_iload_n hx hb dX4_tubeNumbered_0 rfl (lv_at hl 1 rfl) ?_
  refine lv_if_lt (tgt := 22) hx hb dX4_tubeNumbered_1 (by decide) (fun c1 => ?_) (fun c1 => ?_)
  · skip
    obtain ⟨sa9, hsa9⟩ := hG.2.1.2.2.2.2.2.1 (290, "no such tube") (by decide +kernel)
    exact vx_throwSW (text := "no such tube") (names := ["java/lang/RuntimeException", "java/lang/Exception"]) hx hb hl9 hown (by decide +kernel) (by decide +kernel) (hts (.classLink RX4 288 "java/lang/IndexOutOfBoundsException") (by decide +kernel)) (hts (.initialized "java/lang/IndexOutOfBoundsException") (by decide +kernel)) hsa9 (m_hat hG (fun w h => hts w (List.mem_cons_of_mem _ (List.mem_append_right _ h))) (by decide +kernel) (by decide +kernel)) (by decide +kernel) hG.2.2.1 hG.2.2.2.1 hS (hl.1.trans hml.symm) dX4_tubeNumbered_22 dX4_tubeNumbered_25 dX4_tubeNumbered_26 dX4_tubeNumbered_29 dX4_tubeNumbered_32 (fun x hx9 => absurd hx9 (fun q => hxt x q)) (Nat.le_of_ble_eq_true rfl) (Nat.le_of_ble_eq_true rfl) (Nat.le_of_ble_eq_true rfl) (Nat.le_of_ble_eq_true rfl) hlocks (fun t9 _ h92 h93 => m_thrown (px := fun E => E = "java/lang/IndexOutOfBoundsException" ∧ ¬ (tkN n8 p0)) (E := "java/lang/IndexOutOfBoundsException") hP hI hS (⟨rfl, by first | exact tk_out (by assumption) | exact tk_neg (by assumption) | exact tk_big hn8 (by omega) (by assumption)⟩) t9 h92 h93) hS.2.2 (Nat.le_of_ble_eq_true rfl) (Nat.le_of_ble_eq_true rfl)
  · skip
    refine lv_iload_n hx hb dX4_tubeNumbered_4 rfl (lv_at hl 1 rfl) ?_
    refine lv_aload_n hx hb dX4_tubeNumbered_5 rfl (lv_at hl 0 rfl) ?_
    refine m_get (ci := 4) (v := .ref ta0) (C := RX4) (T := TX4) (N := 9) hx hb hts i_X4 hown hK (hP _ _ h_X) rfl 0 (by decide) (hts (.fieldLink RX4 11 "Meniscus" "tubes" "[LMeniscus$Tube;") (by decide +kernel)) (fun _ h9 => h9) rfl dX4_tubeNumbered_6 ?_
    refine m_alen (v := 8) hx hb hK 3 (hP _ _ h_TA) rfl rfl dX4_tubeNumbered_9 ?_
    refine lv_icmp_ge (tgt := 22) hx hb dX4_tubeNumbered_10 (by decide) (fun c2 => ?_) (fun c2 => ?_)
    · skip
      obtain ⟨sa9, hsa9⟩ := hG.2.1.2.2.2.2.2.1 (290, "no such tube") (by decide +kernel)
      exact vx_throwSW (text := "no such tube") (names := ["java/lang/RuntimeException", "java/lang/Exception"]) hx hb hl9 hown (by decide +kernel) (by decide +kernel) (hts (.classLink RX4 288 "java/lang/IndexOutOfBoundsException") (by decide +kernel)) (hts (.initialized "java/lang/IndexOutOfBoundsException") (by decide +kernel)) hsa9 (m_hat hG (fun w h => hts w (List.mem_cons_of_mem _ (List.mem_append_right _ h))) (by decide +kernel) (by decide +kernel)) (by decide +kernel) hG.2.2.1 hG.2.2.2.1 hS (hl.1.trans hml.symm) dX4_tubeNumbered_22 dX4_tubeNumbered_25 dX4_tubeNumbered_26 dX4_tubeNumbered_29 dX4_tubeNumbered_32 (fun x hx9 => absurd hx9 (fun q => hxt x q)) (Nat.le_of_ble_eq_true rfl) (Nat.le_of_ble_eq_true rfl) (Nat.le_of_ble_eq_true rfl) (Nat.le_of_ble_eq_true rfl) hlocks (fun t9 _ h92 h93 => m_thrown (px := fun E => E = "java/lang/IndexOutOfBoundsException" ∧ ¬ (tkN n8 p0)) (E := "java/lang/IndexOutOfBoundsException") hP hI hS (⟨rfl, by first | exact tk_out (by assumption) | exact tk_neg (by assumption) | exact tk_big hn8 (by omega) (by assumption)⟩) t9 h92 h93) hS.2.2 (Nat.le_of_ble_eq_true rfl) (Nat.le_of_ble_eq_true rfl)
    · skip
      refine lv_aload_n hx hb dX4_tubeNumbered_13 rfl (lv_at hl 0 rfl) ?_
      refine m_get (ci := 4) (v := .ref ta0) (C := RX4) (T := TX4) (N := 9) hx hb hts i_X4 hown hK (hP _ _ h_X) rfl 0 (by decide) (hts (.fieldLink RX4 11 "Meniscus" "tubes" "[LMeniscus$Tube;") (by decide +kernel)) (fun _ h9 => h9) rfl dX4_tubeNumbered_14 ?_
      refine lv_iload_n hx hb dX4_tubeNumbered_17 rfl (lv_at hl 1 rfl) ?_
      refine m_aldq hx hb hK 3 (hP _ _ h_TA) rfl (vin_of (by assumption) (by omega) (by assumption)) dX4_tubeNumbered_18 ?_
      rcases Nat.lt_or_ge (ix p0) n8 with hj9 | hj9
      · rw [qf_p hj9]
        refine lv_ifnonnull (tgt := 33) hx hb dX4_tubeNumbered_19 (by decide) ?_
        refine lv_aload_n hx hb dX4_tubeNumbered_33 rfl (lv_at hl 0 rfl) ?_
        refine m_get (ci := 4) (v := .ref ta0) (C := RX4) (T := TX4) (N := 9) hx hb hts i_X4 hown hK (hP _ _ h_X) rfl 0 (by decide) (hts (.fieldLink RX4 11 "Meniscus" "tubes" "[LMeniscus$Tube;") (by decide +kernel)) (fun _ h9 => h9) rfl dX4_tubeNumbered_34 ?_
        refine lv_iload_n hx hb dX4_tubeNumbered_37 rfl (lv_at hl 1 rfl) ?_
        refine m_aldq hx hb hK 3 (hP _ _ h_TA) rfl (vin_of (by assumption) (by omega) (by assumption)) dX4_tubeNumbered_38 ?_
        rw [qf_p hj9]
        refine W.widen (k := 1) (n := 6) (Nat.le_of_ble_eq_true rfl) (Nat.le_of_ble_eq_true rfl) ?_
        refine vx_ret ?_
        exact W.aret (v := .ref (tb8 (ix p0))) hx hb hr (Or.inl ⟨_, rfl⟩) (Or.inr ⟨_, rfl⟩) (fun t99 ht99 hW99 => ⟨⟨some (tb8 (ix p0)), Mw, rfl, ⟨⟨⟨by assumption, hj9⟩, rfl⟩, rfl⟩, by rw [ht99]; exact hP, hI⟩, hS.F ht99⟩) hS.2.2 dX4_tubeNumbered_39
      · rw [qf_n hj9]
        refine lv_ifnonnullN hx hb dX4_tubeNumbered_19 ?_
        obtain ⟨sa9, hsa9⟩ := hG.2.1.2.2.2.2.2.1 (290, "no such tube") (by decide +kernel)
        exact vx_throwSW (text := "no such tube") (names := ["java/lang/RuntimeException", "java/lang/Exception"]) hx hb hl9 hown (by decide +kernel) (by decide +kernel) (hts (.classLink RX4 288 "java/lang/IndexOutOfBoundsException") (by decide +kernel)) (hts (.initialized "java/lang/IndexOutOfBoundsException") (by decide +kernel)) hsa9 (m_hat hG (fun w h => hts w (List.mem_cons_of_mem _ (List.mem_append_right _ h))) (by decide +kernel) (by decide +kernel)) (by decide +kernel) hG.2.2.1 hG.2.2.2.1 hS (hl.1.trans hml.symm) dX4_tubeNumbered_22 dX4_tubeNumbered_25 dX4_tubeNumbered_26 dX4_tubeNumbered_29 dX4_tubeNumbered_32 (fun x hx9 => absurd hx9 (fun q => hxt x q)) (Nat.le_of_ble_eq_true rfl) (Nat.le_of_ble_eq_true rfl) (Nat.le_of_ble_eq_true rfl) (Nat.le_of_ble_eq_true rfl) hlocks (fun t9 _ h92 h93 => m_thrown (px := fun E => E = "java/lang/IndexOutOfBoundsException" ∧ ¬ (tkN n8 p0)) (E := "java/lang/IndexOutOfBoundsException") hP hI hS (⟨rfl, by first | exact tk_out (by assumption) | exact tk_neg (by assumption) | exact tk_big hn8 (by omega) (by assumption)⟩) t9 h92 h93) hS.2.2 (Nat.le_of_ble_eq_true rfl) (Nat.le_of_ble_eq_true rfl)
end
section
set_option maxHeartbeats 4000000 in
set_option maxRecDepth 100000 in
theorem c_X4_bore (l : Launch) (G : mg) (A : Nat → Prop) (Mw : mw) (hl9 : l.stackTraces = false) (st : St) (ad : adr) (p0 p1 : Int32) (hC : CS G st ad Mw) (hV : Inv st) : vx_Met l yX4_bore wsX4_bore ({ frames := 7, cells := 2, slots := 12, locals := 104 }) (va_Pc [.ref (ad 0 0), .int p0, .int p1] (mB G A Mw)) (va_Qi (fun r Mw1 => ∃ (s1 : St) (ad1 : adr), m_bore st p0 p1 = (0, r, s1) ∧ CS G s1 ad1 Mw1 ∧ ad1 0 0 = ad 0 0) (mE G A) A) (xX (fun E => exc ["java/lang/IndexOutOfBoundsException", "java/lang/IllegalArgumentException"] (m_bore st p0 p1) E) G A Mw) 2 12 A := by
  refine vx_ofW (cc := cX4_bore) (maxL := 4) (ret := (some .int)) (by decide) rfl ?_
  intro p e s m args below meth c s₁ B hml hxt hv
  obtain ⟨rfl, hG, hP, hI, hA⟩ := hv
  have hx := B.exec
  have hb := B.bytes
  have hr := B.returns
  have hts := atoms_spec (ws := wsX4_bore) B.pre
  have hown : s.vm.findClass RX4 = some m.cls := findClass_of_methodNamed B.named
  have hlocks := B.notSynchronized
  have hK := hG.K
  have hS : va_S A s.heap s.heap [] := va_S.rf
  have hl := lv_entry ([.ref (ad 0 0), .int p0, .int p1]) (n := 4) (Nat.le_of_ble_eq_true rfl)
  rw [lg_entry_eq]
  generalize (lg_sl ([.ref (ad 0 0), .int p0, .int p1]) ++ List.replicate (4 - (lg_sl ([.ref (ad 0 0), .int p0, .int p1])).length) Slot.unset).toArray = ls at hl ⊢
  have hl : lv_has ls 4 [(0, .ref (ad 0 0)), (1, .int p0), (2, .int p1)] := hl
  have hP : mP G.1 Mw s.heap := hP
  have h_X : Mw (ad 0 0) = some (.inr (4, [.ref (ad 1 0), .ref (ad 2 0), .int (nI (nT st)), .int (nI (nN st)), .int (gS st 0), .int (gS st 1), .int (gS st 2), .int (gS st 3), .int (gS st 4)])) := hC.1 0 0 (ok0 st)
  have h_TA : Mw (ad 1 0) = some (.inl (G.2.1 3, 8, .inr (.inr (.inr (.inr (qf (nT st) (ad 3))))))) := hC.1 1 0 (ok1 st)
  have h_IA : Mw (ad 2 0) = some (.inl (G.2.1 4, 6, .inr (.inr (.inr (.inr (qf (nN st) (ad 5))))))) := hC.1 2 0 (ok2 st)
  have hta9 := hC.ne (ok1 st) (ok2 st) (by omega)
  refine lv_aload_n hx hb dX4_bore_0 rfl (lv_at hl 0 rfl) ?_
  refine lv_iload_n hx hb dX4_bore_1 rfl (lv_at hl 1 rfl) ?_
  refine mx_callq (vx_runV (As := [.int p0]) (rest := []) ⟨hx, hb, hml, hown, hts⟩ (c_X4_tubeNumbered l G A Mw hl9  p0 h_X hV.1.1 h_TA) (cwV 1 hts gX4_bore_X4_tubeNumbered rfl rfl rfl (by decide +kernel) ⟨Nat.le_of_ble_eq_true rfl, Nat.le_of_ble_eq_true rfl⟩) (mPreV hG hS hP hI hA (hP _ _ h_X) (r := (RX4, TX4, 9)) rfl) rfl rfl hl.1 rfl (lv_room (Nat.le_of_ble_eq_true rfl)) dX4_bore_2 ⟨Nat.le_of_ble_eq_true rfl, Nat.le_of_ble_eq_true rfl⟩) hS (fun E9 ce9 q9 H locs hpx9 hP hI hS hc9 hv9 hcl9 => m_out (px := fun E => exc ["java/lang/IndexOutOfBoundsException", "java/lang/IllegalArgumentException"] (m_bore st p0 p1) E) (fun x hx9 => absurd hx9 (fun q => hxt x q)) hlocks hP hI hS hc9 hv9 hcl9 ((by obtain ⟨hE9, hn9⟩ := hpx9; subst hE9; exact exc_of (by unfold m_bore; first | (rw [chk_n hn9]; done) | (rw [chk_n hn9]; rfl)) rfl)) (Nat.le_of_ble_eq_true rfl) (Nat.le_of_ble_eq_true rfl)) (fun r1 Mw1 H locs hp_r1 hP hI hS => ?_)
  obtain ⟨⟨ht9, hr9⟩, hm9⟩ := hp_r1
  subst Mw1
  subst hr9
  have h_T : Mw (ad 3 (ix p0)) = some (.inr (3, [.ref (ad 4 (ix p0)), .int (usS st (ix p0))])) := hC.1 3 _ (ok3 ht9.2)
  have h_B : Mw (ad 4 (ix p0)) = some (.inl (G.2.1 0, 20, .inl (boS st (ix p0)))) := hC.1 4 _ (ok4 ht9.2)
  refine lv_astore_n (lv' := [(3, .ref (ad 3 (ix p0))), (0, .ref (ad 0 0)), (1, .int p0), (2, .int p1)]) hx hb dX4_bore_5 rfl hl (by decide) rfl (fun ls hl => ?_)
  refine lv_iload_n hx hb dX4_bore_6 rfl (lv_at hl 3 rfl) ?_
  refine lv_iconst (v := 0) hx hb dX4_bore_7 (by decide) ?_
  refine lv_bipush (v := (19)) hx hb dX4_bore_8 (by decide) ?_
  refine mx_callv (vx_runS (As := [.int p1, .int 0, .int 19]) (rest := []) ⟨hx, hb, hml, hown, hts⟩ (c_X4_demandRange l G A Mw hl9  p1 0 19) (va_cwS 3 hts gX4_bore_X4_demandRange rfl rfl rfl (by decide +kernel) ⟨Nat.le_of_ble_eq_true rfl, Nat.le_of_ble_eq_true rfl⟩) (mPreS hG hS hP hI hA) rfl rfl hl.1 rfl (lv_room (Nat.le_of_ble_eq_true rfl)) dX4_bore_10 ⟨Nat.le_of_ble_eq_true rfl, Nat.le_of_ble_eq_true rfl⟩) hS (fun E9 ce9 q9 H locs hpx9 hP hI hS hc9 hv9 hcl9 => m_out (px := fun E => exc ["java/lang/IndexOutOfBoundsException", "java/lang/IllegalArgumentException"] (m_bore st p0 p1) E) (fun x hx9 => absurd hx9 (fun q => hxt x q)) hlocks hP hI hS hc9 hv9 hcl9 ((by obtain ⟨hE9, hn9⟩ := hpx9; subst hE9; exact exc_of (by unfold m_bore; first | (rw [chk_p ht9, chk_n hn9]; done) | (rw [chk_p ht9, chk_n hn9]; rfl)) rfl)) (Nat.le_of_ble_eq_true rfl) (Nat.le_of_ble_eq_true rfl)) (fun Mw1 H locs hp_r2 hP hI hS => ?_)
  obtain ⟨hp_r2, hm9⟩ := hp_r2
  subst Mw1
  refine lv_aload_n hx hb dX4_bore_13 rfl (lv_at hl 0 rfl) ?_
  refine lv_iload_n hx hb dX4_bore_14 rfl (lv_at hl 3 rfl) ?_
  refine m_calli (va_runV (As := [.int p1]) (rest := []) ⟨hx, hb, hml, hown, hts⟩ (c_X3_boreOf l G A Mw  p1 h_T h_B) (cwV 1 hts gX4_bore_X3_boreOf rfl rfl rfl (by decide +kernel) ⟨Nat.le_of_ble_eq_true rfl, Nat.le_of_ble_eq_true rfl⟩) (mPreV hG hS hP hI hA (hP _ _ h_T) (r := (RX3, TX3, 2)) rfl) rfl rfl hl.1 rfl (lv_room (Nat.le_of_ble_eq_true rfl)) dX4_bore_15 ⟨Nat.le_of_ble_eq_true rfl, Nat.le_of_ble_eq_true rfl⟩) hS (fun r3 Mw1 H locs hp_r3 hP hI hS => ?_)
  obtain ⟨hp_r3, hm9⟩ := hp_r3
  subst Mw1
  refine W.widen (k := 2) (n := 12) (Nat.le_of_ble_eq_true rfl) (Nat.le_of_ble_eq_true rfl) ?_
  refine vx_ret ?_
  exact W.iret (v := r3) hx hb hr (fun t99 ht99 hW99 => ⟨⟨r3, Mw, rfl, ⟨st, ad, by unfold m_bore; first | (rw [chk_p ht9, chk_p hp_r2, hp_r3]; done) | (rw [chk_p ht9, chk_p hp_r2, hp_r3]; rfl), hC, rfl⟩, by rw [ht99]; exact hP, hI⟩, hS.F ht99⟩) hS.2.2 dX4_bore_18

set_option maxHeartbeats 4000000 in
set_option maxRecDepth 100000 in
theorem c_X4_volume (l : Launch) (G : mg) (A : Nat → Prop) (Mw : mw) (hl9 : l.stackTraces = false) (st : St) (ad : adr) (p0 p1 : Int32) (hC : CS G st ad Mw) (hV : Inv st) : vx_Met l yX4_volume wsX4_volume ({ frames := 8, cells := 2, slots := 12, locals := 124 }) (va_Pc [.ref (ad 0 0), .int p0, .int p1] (mB G A Mw)) (va_Qi (fun r Mw1 => ∃ (s1 : St) (ad1 : adr), m_volume st p0 p1 = (0, r, s1) ∧ CS G s1 ad1 Mw1 ∧ ad1 0 0 = ad 0 0) (mE G A) A) (xX (fun E => exc ["java/lang/IndexOutOfBoundsException", "java/lang/IllegalArgumentException"] (m_volume st p0 p1) E) G A Mw) 2 12 A := by
  refine vx_ofW (cc := cX4_volume) (maxL := 4) (ret := (some .int)) (by decide) rfl ?_
  intro p e s m args below meth c s₁ B hml hxt hv
  obtain ⟨rfl, hG, hP, hI, hA⟩ := hv
  have hx := B.exec
  have hb := B.bytes
  have hr := B.returns
  have hts := atoms_spec (ws := wsX4_volume) B.pre
  have hown : s.vm.findClass RX4 = some m.cls := findClass_of_methodNamed B.named
  have hlocks := B.notSynchronized
  have hK := hG.K
  have hS : va_S A s.heap s.heap [] := va_S.rf
  have hl := lv_entry ([.ref (ad 0 0), .int p0, .int p1]) (n := 4) (Nat.le_of_ble_eq_true rfl)
  rw [lg_entry_eq]
  generalize (lg_sl ([.ref (ad 0 0), .int p0, .int p1]) ++ List.replicate (4 - (lg_sl ([.ref (ad 0 0), .int p0, .int p1])).length) Slot.unset).toArray = ls at hl ⊢
  have hl : lv_has ls 4 [(0, .ref (ad 0 0)), (1, .int p0), (2, .int p1)] := hl
  have hP : mP G.1 Mw s.heap := hP
  have h_X : Mw (ad 0 0) = some (.inr (4, [.ref (ad 1 0), .ref (ad 2 0), .int (nI (nT st)), .int (nI (nN st)), .int (gS st 0), .int (gS st 1), .int (gS st 2), .int (gS st 3), .int (gS st 4)])) := hC.1 0 0 (ok0 st)
  have h_TA : Mw (ad 1 0) = some (.inl (G.2.1 3, 8, .inr (.inr (.inr (.inr (qf (nT st) (ad 3))))))) := hC.1 1 0 (ok1 st)
  have h_IA : Mw (ad 2 0) = some (.inl (G.2.1 4, 6, .inr (.inr (.inr (.inr (qf (nN st) (ad 5))))))) := hC.1 2 0 (ok2 st)
  have hta9 := hC.ne (ok1 st) (ok2 st) (by omega)
  refine lv_aload_n hx hb dX4_volume_0 rfl (lv_at hl 0 rfl) ?_
  refine lv_iload_n hx hb dX4_volume_1 rfl (lv_at hl 1 rfl) ?_
  refine mx_callq (vx_runV (As := [.int p0]) (rest := []) ⟨hx, hb, hml, hown, hts⟩ (c_X4_tubeNumbered l G A Mw hl9  p0 h_X hV.1.1 h_TA) (cwV 1 hts gX4_volume_X4_tubeNumbered rfl rfl rfl (by decide +kernel) ⟨Nat.le_of_ble_eq_true rfl, Nat.le_of_ble_eq_true rfl⟩) (mPreV hG hS hP hI hA (hP _ _ h_X) (r := (RX4, TX4, 9)) rfl) rfl rfl hl.1 rfl (lv_room (Nat.le_of_ble_eq_true rfl)) dX4_volume_2 ⟨Nat.le_of_ble_eq_true rfl, Nat.le_of_ble_eq_true rfl⟩) hS (fun E9 ce9 q9 H locs hpx9 hP hI hS hc9 hv9 hcl9 => m_out (px := fun E => exc ["java/lang/IndexOutOfBoundsException", "java/lang/IllegalArgumentException"] (m_volume st p0 p1) E) (fun x hx9 => absurd hx9 (fun q => hxt x q)) hlocks hP hI hS hc9 hv9 hcl9 ((by obtain ⟨hE9, hn9⟩ := hpx9; subst hE9; exact exc_of (by unfold m_volume; first | (rw [chk_n hn9]; done) | (rw [chk_n hn9]; rfl)) rfl)) (Nat.le_of_ble_eq_true rfl) (Nat.le_of_ble_eq_true rfl)) (fun r1 Mw1 H locs hp_r1 hP hI hS => ?_)
  obtain ⟨⟨ht9, hr9⟩, hm9⟩ := hp_r1
  subst Mw1
  subst hr9
  have h_T : Mw (ad 3 (ix p0)) = some (.inr (3, [.ref (ad 4 (ix p0)), .int (usS st (ix p0))])) := hC.1 3 _ (ok3 ht9.2)
  have h_B : Mw (ad 4 (ix p0)) = some (.inl (G.2.1 0, 20, .inl (boS st (ix p0)))) := hC.1 4 _ (ok4 ht9.2)
  refine lv_astore_n (lv' := [(3, .ref (ad 3 (ix p0))), (0, .ref (ad 0 0)), (1, .int p0), (2, .int p1)]) hx hb dX4_volume_5 rfl hl (by decide) rfl (fun ls hl => ?_)
  refine lv_iload_n hx hb dX4_volume_6 rfl (lv_at hl 3 rfl) ?_
  refine mx_callv (vx_runS (As := [.int p1]) (rest := []) ⟨hx, hb, hml, hown, hts⟩ (c_X4_demandPlace l G A Mw hl9  p1) (va_cwS 1 hts gX4_volume_X4_demandPlace rfl rfl rfl (by decide +kernel) ⟨Nat.le_of_ble_eq_true rfl, Nat.le_of_ble_eq_true rfl⟩) (mPreS hG hS hP hI hA) rfl rfl hl.1 rfl (lv_room (Nat.le_of_ble_eq_true rfl)) dX4_volume_7 ⟨Nat.le_of_ble_eq_true rfl, Nat.le_of_ble_eq_true rfl⟩) hS (fun E9 ce9 q9 H locs hpx9 hP hI hS hc9 hv9 hcl9 => m_out (px := fun E => exc ["java/lang/IndexOutOfBoundsException", "java/lang/IllegalArgumentException"] (m_volume st p0 p1) E) (fun x hx9 => absurd hx9 (fun q => hxt x q)) hlocks hP hI hS hc9 hv9 hcl9 ((by obtain ⟨hE9, hn9⟩ := hpx9; subst hE9; exact exc_of (by unfold m_volume; first | (rw [chk_p ht9, chk_n hn9]; done) | (rw [chk_p ht9, chk_n hn9]; rfl)) rfl)) (Nat.le_of_ble_eq_true rfl) (Nat.le_of_ble_eq_true rfl)) (fun Mw1 H locs hp_r2 hP hI hS => ?_)
  obtain ⟨hp_r2, hm9⟩ := hp_r2
  subst Mw1
  refine lv_aload_n hx hb dX4_volume_10 rfl (lv_at hl 0 rfl) ?_
  refine lv_iload_n hx hb dX4_volume_11 rfl (lv_at hl 3 rfl) ?_
  refine m_calli (va_runV (As := [.int p1]) (rest := []) ⟨hx, hb, hml, hown, hts⟩ (c_X3_volumeUpTo l G A Mw  p1 h_T h_B) (cwV 1 hts gX4_volume_X3_volumeUpTo rfl rfl rfl (by decide +kernel) ⟨Nat.le_of_ble_eq_true rfl, Nat.le_of_ble_eq_true rfl⟩) (mPreV hG hS hP hI hA (hP _ _ h_T) (r := (RX3, TX3, 2)) rfl) rfl rfl hl.1 rfl (lv_room (Nat.le_of_ble_eq_true rfl)) dX4_volume_12 ⟨Nat.le_of_ble_eq_true rfl, Nat.le_of_ble_eq_true rfl⟩) hS (fun r3 Mw1 H locs hp_r3 hP hI hS => ?_)
  obtain ⟨hp_r3, hm9⟩ := hp_r3
  subst Mw1
  refine W.widen (k := 2) (n := 12) (Nat.le_of_ble_eq_true rfl) (Nat.le_of_ble_eq_true rfl) ?_
  refine vx_ret ?_
  exact W.iret (v := r3) hx hb hr (fun t99 ht99 hW99 => ⟨⟨r3, Mw, rfl, ⟨st, ad, by unfold m_volume; first | (rw [chk_p ht9, chk_p hp_r2, hp_r3]; done) | (rw [chk_p ht9, chk_p hp_r2, hp_r3]; rfl), hC, rfl⟩, by rw [ht99]; exact hP, hI⟩, hS.F ht99⟩) hS.2.2 dX4_volume_15

set_option maxHeartbeats 4000000 in
set_option maxRecDepth 100000 in
theorem c_X4_widest (l : Launch) (G : mg) (A : Nat → Prop) (Mw : mw) (hl9 : l.stackTraces = false) (st : St) (ad : adr) (p0 : Int32) (hC : CS G st ad Mw) (hV : Inv st) : vx_Met l yX4_widest wsX4_widest ({ frames := 7, cells := 1, slots := 6, locals := 103 }) (va_Pc [.ref (ad 0 0), .int p0] (mB G A Mw)) (va_Qi (fun r Mw1 => ∃ (s1 : St) (ad1 : adr), m_widest st p0 = (0, r, s1) ∧ CS G s1 ad1 Mw1 ∧ ad1 0 0 = ad 0 0) (mE G A) A) (xX (fun E => exc ["java/lang/IndexOutOfBoundsException"] (m_widest st p0) E) G A Mw) 1 6 A := by
  refine vx_ofW (cc := cX4_widest) (maxL := 2) (ret := (some .int)) (by decide) rfl ?_
  intro p e s m args below meth c s₁ B hml hxt hv
  obtain ⟨rfl, hG, hP, hI, hA⟩ := hv
  have hx := B.exec
  have hb := B.bytes
  have hr := B.returns
  have hts := atoms_spec (ws := wsX4_widest) B.pre
  have hown : s.vm.findClass RX4 = some m.cls := findClass_of_methodNamed B.named
  have hlocks := B.notSynchronized
  have hK := hG.K
  have hS : va_S A s.heap s.heap [] := va_S.rf
  have hl := lv_entry ([.ref (ad 0 0), .int p0]) (n := 2) (Nat.le_of_ble_eq_true rfl)
  rw [lg_entry_eq]
  generalize (lg_sl ([.ref (ad 0 0), .int p0]) ++ List.replicate (2 - (lg_sl ([.ref (ad 0 0), .int p0])).length) Slot.unset).toArray = ls at hl ⊢
  have hl : lv_has ls 2 [(0, .ref (ad 0 0)), (1, .int p0)] := hl
  have hP : mP G.1 Mw s.heap := hP
  have h_X : Mw (ad 0 0) = some (.inr (4, [.ref (ad 1 0), .ref (ad 2 0), .int (nI (nT st)), .int (nI (nN st)), .int (gS st 0), .int (gS st 1), .int (gS st 2), .int (gS st 3), .int (gS st 4)])) := hC.1 0 0 (ok0 st)
  have h_TA : Mw (ad 1 0) = some (.inl (G.2.1 3, 8, .inr (.inr (.inr (.inr (qf (nT st) (ad 3))))))) := hC.1 1 0 (ok1 st)
  have h_IA : Mw (ad 2 0) = some (.inl (G.2.1 4, 6, .inr (.inr (.inr (.inr (qf (nN st) (ad 5))))))) := hC.1 2 0 (ok2 st)
  have hta9 := hC.ne (ok1 st) (ok2 st) (by omega)
  refine lv_aload_n hx hb dX4_widest_0 rfl (lv_at hl 0 rfl) ?_
  refine lv_iload_n hx hb dX4_widest_1 rfl (lv_at hl 1 rfl) ?_
  refine mx_callq (vx_runV (As := [.int p0]) (rest := []) ⟨hx, hb, hml, hown, hts⟩ (c_X4_tubeNumbered l G A Mw hl9  p0 h_X hV.1.1 h_TA) (cwV 1 hts gX4_widest_X4_tubeNumbered rfl rfl rfl (by decide +kernel) ⟨Nat.le_of_ble_eq_true rfl, Nat.le_of_ble_eq_true rfl⟩) (mPreV hG hS hP hI hA (hP _ _ h_X) (r := (RX4, TX4, 9)) rfl) rfl rfl hl.1 rfl (lv_room (Nat.le_of_ble_eq_true rfl)) dX4_widest_2 ⟨Nat.le_of_ble_eq_true rfl, Nat.le_of_ble_eq_true rfl⟩) hS (fun E9 ce9 q9 H locs hpx9 hP hI hS hc9 hv9 hcl9 => m_out (px := fun E => exc ["java/lang/IndexOutOfBoundsException"] (m_widest st p0) E) (fun x hx9 => absurd hx9 (fun q => hxt x q)) hlocks hP hI hS hc9 hv9 hcl9 ((by obtain ⟨hE9, hn9⟩ := hpx9; subst hE9; exact exc_of (by unfold m_widest; first | (rw [chk_n hn9]; done) | (rw [chk_n hn9]; rfl)) rfl)) (Nat.le_of_ble_eq_true rfl) (Nat.le_of_ble_eq_true rfl)) (fun r1 Mw1 H locs hp_r1 hP hI hS => ?_)
  obtain ⟨⟨ht9, hr9⟩, hm9⟩ := hp_r1
  subst Mw1
  subst hr9
  have h_T : Mw (ad 3 (ix p0)) = some (.inr (3, [.ref (ad 4 (ix p0)), .int (usS st (ix p0))])) := hC.1 3 _ (ok3 ht9.2)
  have h_B : Mw (ad 4 (ix p0)) = some (.inl (G.2.1 0, 20, .inl (boS st (ix p0)))) := hC.1 4 _ (ok4 ht9.2)
  refine m_calli (va_runV (As := []) (rest := []) ⟨hx, hb, hml, hown, hts⟩ (c_X3_widestSection l G A Mw  h_T h_B) (cwV 0 hts gX4_widest_X3_widestSection rfl rfl rfl (by decide +kernel) ⟨Nat.le_of_ble_eq_true rfl, Nat.le_of_ble_eq_true rfl⟩) (mPreV hG hS hP hI hA (hP _ _ h_T) (r := (RX3, TX3, 2)) rfl) rfl rfl hl.1 rfl (lv_room (Nat.le_of_ble_eq_true rfl)) dX4_widest_5 ⟨Nat.le_of_ble_eq_true rfl, Nat.le_of_ble_eq_true rfl⟩) hS (fun r2 Mw1 H locs hp_r2 hP hI hS => ?_)
  obtain ⟨hp_r2, hm9⟩ := hp_r2
  subst Mw1
  refine W.widen (k := 1) (n := 6) (Nat.le_of_ble_eq_true rfl) (Nat.le_of_ble_eq_true rfl) ?_
  refine vx_ret ?_
  exact W.iret (v := r2) hx hb hr (fun t99 ht99 hW99 => ⟨⟨r2, Mw, rfl, ⟨st, ad, by unfold m_widest; first | (rw [chk_p ht9, hp_r2]; done) | (rw [chk_p ht9, hp_r2]; rfl), hC, rfl⟩, by rw [ht99]; exact hP, hI⟩, hS.F ht99⟩) hS.2.2 dX4_widest_8

set_option maxHeartbeats 4000000 in
set_option maxRecDepth 100000 in
theorem c_X4_thread (l : Launch) (G : mg) (A : Nat → Prop) (Mw : mw) (hl9 : l.stackTraces = false) (st : St) (ad : adr) (p0 p1 p2 : Int32) (hC : CS G st ad Mw) (hV : Inv st) : vx_Met l yX4_thread wsX4_thread ({ frames := 8, cells := 4, slots := 24, locals := 124 }) (va_Pc [.ref (ad 0 0), .int p0, .int p1, .int p2] (mB G A Mw)) (va_Qi (fun r Mw1 => ∃ (s1 : St) (ad1 : adr), m_thread st p0 p1 p2 = (0, r, s1) ∧ CS G s1 ad1 Mw1 ∧ ad1 0 0 = ad 0 0) (mE G A) A) (xX (fun E => exc ["java/lang/IndexOutOfBoundsException", "java/lang/IllegalArgumentException", "java/util/NoSuchElementException"] (m_thread st p0 p1 p2) E) G A Mw) 4 24 A := by
  refine vx_ofW (cc := cX4_thread) (maxL := 6) (ret := (some .int)) (by decide) rfl ?_
  intro p e s m args below meth c s₁ B hml hxt hv
  obtain ⟨rfl, hG, hP, hI, hA⟩ := hv
  have hx := B.exec
  have hb := B.bytes
  have hr := B.returns
  have hts := atoms_spec (ws := wsX4_thread) B.pre
  have hown : s.vm.findClass RX4 = some m.cls := findClass_of_methodNamed B.named
  have hlocks := B.notSynchronized
  have hK := hG.K
  have hS : va_S A s.heap s.heap [] := va_S.rf
  have hl := lv_entry ([.ref (ad 0 0), .int p0, .int p1, .int p2]) (n := 6) (Nat.le_of_ble_eq_true rfl)
  rw [lg_entry_eq]
  generalize (lg_sl ([.ref (ad 0 0), .int p0, .int p1, .int p2]) ++ List.replicate (6 - (lg_sl ([.ref (ad 0 0), .int p0, .int p1, .int p2])).length) Slot.unset).toArray = ls at hl ⊢
  have hl : lv_has ls 6 [(0, .ref (ad 0 0)), (1, .int p0), (2, .int p1), (3, .int p2)] := hl
  have hP : mP G.1 Mw s.heap := hP
  have h_X : Mw (ad 0 0) = some (.inr (4, [.ref (ad 1 0), .ref (ad 2 0), .int (nI (nT st)), .int (nI (nN st)), .int (gS st 0), .int (gS st 1), .int (gS st 2), .int (gS st 3), .int (gS st 4)])) := hC.1 0 0 (ok0 st)
  have h_TA : Mw (ad 1 0) = some (.inl (G.2.1 3, 8, .inr (.inr (.inr (.inr (qf (nT st) (ad 3))))))) := hC.1 1 0 (ok1 st)
  have h_IA : Mw (ad 2 0) = some (.inl (G.2.1 4, 6, .inr (.inr (.inr (.inr (qf (nN st) (ad 5))))))) := hC.1 2 0 (ok2 st)
  have hta9 := hC.ne (ok1 st) (ok2 st) (by omega)
  refine lv_aload_n hx hb dX4_thread_0 rfl (lv_at hl 0 rfl) ?_
  refine lv_iload_n hx hb dX4_thread_1 rfl (lv_at hl 1 rfl) ?_
  refine mx_callq (vx_runV (As := [.int p0]) (rest := []) ⟨hx, hb, hml, hown, hts⟩ (c_X4_tubeNumbered l G A Mw hl9  p0 h_X hV.1.1 h_TA) (cwV 1 hts gX4_thread_X4_tubeNumbered rfl rfl rfl (by decide +kernel) ⟨Nat.le_of_ble_eq_true rfl, Nat.le_of_ble_eq_true rfl⟩) (mPreV hG hS hP hI hA (hP _ _ h_X) (r := (RX4, TX4, 9)) rfl) rfl rfl hl.1 rfl (lv_room (Nat.le_of_ble_eq_true rfl)) dX4_thread_2 ⟨Nat.le_of_ble_eq_true rfl, Nat.le_of_ble_eq_true rfl⟩) hS (fun E9 ce9 q9 H locs hpx9 hP hI hS hc9 hv9 hcl9 => m_out (px := fun E => exc ["java/lang/IndexOutOfBoundsException", "java/lang/IllegalArgumentException", "java/util/NoSuchElementException"] (m_thread st p0 p1 p2) E) (fun x hx9 => absurd hx9 (fun q => hxt x q)) hlocks hP hI hS hc9 hv9 hcl9 ((by obtain ⟨hE9, hn9⟩ := hpx9; subst hE9; exact exc_of (by unfold m_thread; first | (rw [chk_n hn9]; done) | (rw [chk_n hn9]; rfl)) rfl)) (Nat.le_of_ble_eq_true rfl) (Nat.le_of_ble_eq_true rfl)) (fun r1 Mw1 H locs hp_r1 hP hI hS => ?_)
  obtain ⟨⟨ht9, hr9⟩, hm9⟩ := hp_r1
  subst Mw1
  subst hr9
  have h_T : Mw (ad 3 (ix p0)) = some (.inr (3, [.ref (ad 4 (ix p0)), .int (usS st (ix p0))])) := hC.1 3 _ (ok3 ht9.2)
  have h_B : Mw (ad 4 (ix p0)) = some (.inl (G.2.1 0, 20, .inl (boS st (ix p0)))) := hC.1 4 _ (ok4 ht9.2)
  refine lv_astore (lv' := [(4, .ref (ad 3 (ix p0))), (0, .ref (ad 0 0)), (1, .int p0), (2, .int p1), (3, .int p2)]) hx hb dX4_thread_5 hl (by decide) rfl (fun ls hl => ?_)
  refine lv_iload_n hx hb dX4_thread_7 rfl (lv_at hl 3 rfl) ?_
  refine mx_callv (vx_runS (As := [.int p1]) (rest := []) ⟨hx, hb, hml, hown, hts⟩ (c_X4_demandPlace l G A Mw hl9  p1) (va_cwS 1 hts gX4_thread_X4_demandPlace rfl rfl rfl (by decide +kernel) ⟨Nat.le_of_ble_eq_true rfl, Nat.le_of_ble_eq_true rfl⟩) (mPreS hG hS hP hI hA) rfl rfl hl.1 rfl (lv_room (Nat.le_of_ble_eq_true rfl)) dX4_thread_8 ⟨Nat.le_of_ble_eq_true rfl, Nat.le_of_ble_eq_true rfl⟩) hS (fun E9 ce9 q9 H locs hpx9 hP hI hS hc9 hv9 hcl9 => m_out (px := fun E => exc ["java/lang/IndexOutOfBoundsException", "java/lang/IllegalArgumentException", "java/util/NoSuchElementException"] (m_thread st p0 p1 p2) E) (fun x hx9 => absurd hx9 (fun q => hxt x q)) hlocks hP hI hS hc9 hv9 hcl9 ((by obtain ⟨hE9, hn9⟩ := hpx9; subst hE9; exact exc_of (by unfold m_thread; first | (rw [chk_p ht9, chk_n hn9]; done) | (rw [chk_p ht9, chk_n hn9]; rfl)) rfl)) (Nat.le_of_ble_eq_true rfl) (Nat.le_of_ble_eq_true rfl)) (fun Mw1 H locs hp_r2 hP hI hS => ?_)
  obtain ⟨hp_r2, hm9⟩ := hp_r2
  subst Mw1
  refine lv_iload_n hx hb dX4_thread_11 rfl (lv_at hl 4 rfl) ?_
  refine lv_iconst (v := 1) hx hb dX4_thread_12 (by decide) ?_
  refine lv_ldc (v := 99999) hx hb hown (hts (.constant RX4 64 (99999)) (by decide +kernel)) dX4_thread_13 ?_
  refine mx_callv (vx_runS (As := [.int p2, .int 1, .int 99999]) (rest := []) ⟨hx, hb, hml, hown, hts⟩ (c_X4_demandRange l G A Mw hl9  p2 1 99999) (va_cwS 3 hts gX4_thread_X4_demandRange rfl rfl rfl (by decide +kernel) ⟨Nat.le_of_ble_eq_true rfl, Nat.le_of_ble_eq_true rfl⟩) (mPreS hG hS hP hI hA) rfl rfl hl.1 rfl (lv_room (Nat.le_of_ble_eq_true rfl)) dX4_thread_15 ⟨Nat.le_of_ble_eq_true rfl, Nat.le_of_ble_eq_true rfl⟩) hS (fun E9 ce9 q9 H locs hpx9 hP hI hS hc9 hv9 hcl9 => m_out (px := fun E => exc ["java/lang/IndexOutOfBoundsException", "java/lang/IllegalArgumentException", "java/util/NoSuchElementException"] (m_thread st p0 p1 p2) E) (fun x hx9 => absurd hx9 (fun q => hxt x q)) hlocks hP hI hS hc9 hv9 hcl9 ((by obtain ⟨hE9, hn9⟩ := hpx9; subst hE9; exact exc_of (by unfold m_thread; first | (rw [chk_p ht9, chk_p hp_r2, chk_n hn9]; done) | (rw [chk_p ht9, chk_p hp_r2, chk_n hn9]; rfl)) rfl)) (Nat.le_of_ble_eq_true rfl) (Nat.le_of_ble_eq_true rfl)) (fun Mw1 H locs hp_r3 hP hI hS => ?_)
  obtain ⟨hp_r3, hm9⟩ := hp_r3
  subst Mw1
  refine lv_aload hx hb dX4_thread_18 (lv_at hl 0 rfl) ?_
  refine lv_aload hx hb dX4_thread_20 (lv_at hl 0 rfl) ?_
  refine lv_iload_n hx hb dX4_thread_22 rfl (lv_at hl 3 rfl) ?_
  refine m_calli (va_runV (As := [.int p1]) (rest := [.ref (ad 3 (ix p0))]) ⟨hx, hb, hml, hown, hts⟩ (c_X3_volumeUpTo l G A Mw  p1 h_T h_B) (cwV 1 hts gX4_thread_X3_volumeUpTo rfl rfl rfl (by decide +kernel) ⟨Nat.le_of_ble_eq_true rfl, Nat.le_of_ble_eq_true rfl⟩) (mPreV hG hS hP hI hA (hP _ _ h_T) (r := (RX3, TX3, 2)) rfl) rfl rfl hl.1 rfl (lv_room (Nat.le_of_ble_eq_true rfl)) dX4_thread_23 ⟨Nat.le_of_ble_eq_true rfl, Nat.le_of_ble_eq_true rfl⟩) hS (fun r4 Mw1 H locs hp_r4 hP hI hS => ?_)
  obtain ⟨hp_r4, hm9⟩ := hp_r4
  subst Mw1
  refine lv_iload_n hx hb dX4_thread_26 rfl (lv_at hl 4 rfl) ?_
  refine lv_iadd hx hb dX4_thread_27 ?_
  refine m_calli (va_runV (As := [.int (r4 + p2)]) (rest := []) ⟨hx, hb, hml, hown, hts⟩ (c_X3_firstPlaceHolding l G A Mw  (r4 + p2) h_T h_B) (cwV 1 hts gX4_thread_X3_firstPlaceHolding rfl rfl rfl (by decide +kernel) ⟨Nat.le_of_ble_eq_true rfl, Nat.le_of_ble_eq_true rfl⟩) (mPreV hG hS hP hI hA (hP _ _ h_T) (r := (RX3, TX3, 2)) rfl) rfl rfl hl.1 rfl (lv_room (Nat.le_of_ble_eq_true rfl)) dX4_thread_28 ⟨Nat.le_of_ble_eq_true rfl, Nat.le_of_ble_eq_true rfl⟩) hS (fun r5 Mw1 H locs hp_r5 hP hI hS => ?_)
  obtain ⟨hp_r5, hm9⟩ := hp_r5
  subst Mw1
  refine lv_istore (lv' := [(5, .int r5), (4, .ref (ad 3 (ix p0))), (0, .ref (ad 0 0)), (1, .int p0), (2, .int p1), (3, .int p2)]) hx hb dX4_thread_31 hl (by decide) rfl (fun ls hl => ?_)
  refine lv_iload hx hb dX4_thread_33 (lv_at hl 0 rfl) ?_
  refine lv_iconst (v := (-1)) hx hb dX4_thread_35 (by decide) ?_
  refine lv_icmp_ne (tgt := 49) hx hb dX4_thread_36 (by decide) (fun c6 => ?_) (fun c6 => ?_)
  · skip
    have hf8 : fphR (boS st (ix p0)) (vsum (boS st (ix p0)) p1 20 + p2) r5 := by rw [← hp_r4]; exact hp_r5
    have hf9 := thr_eq hf8
    have hq9 : ¬ thr st (ix p0) p1 p2 = -1 := by rw [hf9]; exact c6
    refine lv_iload hx hb dX4_thread_49 (lv_at hl 0 rfl) ?_
    refine W.widen (k := 4) (n := 24) (Nat.le_of_ble_eq_true rfl) (Nat.le_of_ble_eq_true rfl) ?_
    refine vx_ret ?_
    exact W.iret (v := r5) hx hb hr (fun t99 ht99 hW99 => ⟨⟨r5, Mw, rfl, ⟨st, ad, by unfold m_thread; first | (rw [chk_p ht9, chk_p hp_r2, chk_p hp_r3, chk_p hq9, hf9]; done) | (rw [chk_p ht9, chk_p hp_r2, chk_p hp_r3, chk_p hq9, hf9]; rfl), hC, rfl⟩, by rw [ht99]; exact hP, hI⟩, hS.F ht99⟩) hS.2.2 dX4_thread_51
  · skip
    have hf8 : fphR (boS st (ix p0)) (vsum (boS st (ix p0)) p1 20 + p2) r5 := by rw [← hp_r4]; exact hp_r5
    have hf9 := thr_eq hf8
    rw [c6] at hf9
    obtain ⟨sa9, hsa9⟩ := hG.2.1.2.2.2.2.2.1 (70, "the thread goes beyond the tube") (by decide +kernel)
    exact vn_throwS (text := "the thread goes beyond the tube") hx hb hl9 hown (hts (.classLink RX4 68 "java/util/NoSuchElementException") (by decide +kernel)) (hts (.initialized "java/util/NoSuchElementException") (by decide +kernel)) hsa9 (m_hatN hG (fun w h => hts w (List.mem_cons_of_mem _ (List.mem_append_left _ (List.mem_append_left _ (List.mem_append_right _ h))))) (by decide +kernel) (by decide +kernel)) (by decide +kernel) hG.2.2.1 hG.2.2.2.1 hS (hl.1.trans hml.symm) dX4_thread_39 dX4_thread_42 dX4_thread_43 dX4_thread_45 dX4_thread_48 (fun x hx9 => absurd hx9 (fun q => hxt x q)) (Nat.le_of_ble_eq_true rfl) (Nat.le_of_ble_eq_true rfl) (Nat.le_of_ble_eq_true rfl) (Nat.le_of_ble_eq_true rfl) hlocks (fun t9 _ h92 h93 => m_thrown (px := fun E => exc ["java/lang/IndexOutOfBoundsException", "java/lang/IllegalArgumentException", "java/util/NoSuchElementException"] (m_thread st p0 p1 p2) E) (E := vnN) hP hI hS (exc_of (by unfold m_thread; first | (rw [chk_p ht9, chk_p hp_r2, chk_p hp_r3, chk_n (fun q9 => q9 hf9)]; done) | (rw [chk_p ht9, chk_p hp_r2, chk_p hp_r3, chk_n (fun q9 => q9 hf9)]; rfl)) rfl) t9 h92 h93) hS.2.2 (Nat.le_of_ble_eq_true rfl) (Nat.le_of_ble_eq_true rfl)

set_option maxHeartbeats 4000000 in
set_option maxRecDepth 100000 in
theorem c_X4_deliver (l : Launch) (G : mg) (A : Nat → Prop) (Mw : mw) (hl9 : l.stackTraces = false) (st : St) (ad : adr) (p0 p1 p2 p3 : Int32) (hC : CS G st ad Mw) (hV : Inv st) : vx_Met l yX4_deliver wsX4_deliver ({ frames := 8, cells := 5, slots := 30, locals := 124 }) (va_Pc [.ref (ad 0 0), .int p0, .int p1, .int p2, .int p3] (mB G A Mw)) (va_Qi (fun r Mw1 => ∃ (s1 : St) (ad1 : adr), m_deliver st p0 p1 p2 p3 = (0, r, s1) ∧ CS G s1 ad1 Mw1 ∧ ad1 0 0 = ad 0 0) (mE G A) A) (xX (fun E => exc ["java/lang/IndexOutOfBoundsException", "java/lang/IllegalArgumentException"] (m_deliver st p0 p1 p2 p3) E) G A Mw) 5 30 A := by
  refine vx_ofW (cc := cX4_deliver) (maxL := 7) (ret := (some .int)) (by decide) rfl ?_
  intro p e s m args below meth c s₁ B hml hxt hv
  obtain ⟨rfl, hG, hP, hI, hA⟩ := hv
  have hx := B.exec
  have hb := B.bytes
  have hr := B.returns
  have hts := atoms_spec (ws := wsX4_deliver) B.pre
  have hown : s.vm.findClass RX4 = some m.cls := findClass_of_methodNamed B.named
  have hlocks := B.notSynchronized
  have hK := hG.K
  have hS : va_S A s.heap s.heap [] := va_S.rf
  have hl := lv_entry ([.ref (ad 0 0), .int p0, .int p1, .int p2, .int p3]) (n := 7) (Nat.le_of_ble_eq_true rfl)
  rw [lg_entry_eq]
  generalize (lg_sl ([.ref (ad 0 0), .int p0, .int p1, .int p2, .int p3]) ++ List.replicate (7 - (lg_sl ([.ref (ad 0 0), .int p0, .int p1, .int p2, .int p3])).length) Slot.unset).toArray = ls at hl ⊢
  have hl : lv_has ls 7 [(0, .ref (ad 0 0)), (1, .int p0), (2, .int p1), (3, .int p2), (4, .int p3)] := hl
  have hP : mP G.1 Mw s.heap := hP
  have h_X : Mw (ad 0 0) = some (.inr (4, [.ref (ad 1 0), .ref (ad 2 0), .int (nI (nT st)), .int (nI (nN st)), .int (gS st 0), .int (gS st 1), .int (gS st 2), .int (gS st 3), .int (gS st 4)])) := hC.1 0 0 (ok0 st)
  have h_TA : Mw (ad 1 0) = some (.inl (G.2.1 3, 8, .inr (.inr (.inr (.inr (qf (nT st) (ad 3))))))) := hC.1 1 0 (ok1 st)
  have h_IA : Mw (ad 2 0) = some (.inl (G.2.1 4, 6, .inr (.inr (.inr (.inr (qf (nN st) (ad 5))))))) := hC.1 2 0 (ok2 st)
  have hta9 := hC.ne (ok1 st) (ok2 st) (by omega)
  refine lv_aload_n hx hb dX4_deliver_0 rfl (lv_at hl 0 rfl) ?_
  refine lv_iload_n hx hb dX4_deliver_1 rfl (lv_at hl 1 rfl) ?_
  refine mx_callq (vx_runV (As := [.int p0]) (rest := []) ⟨hx, hb, hml, hown, hts⟩ (c_X4_tubeNumbered l G A Mw hl9  p0 h_X hV.1.1 h_TA) (cwV 1 hts gX4_deliver_X4_tubeNumbered rfl rfl rfl (by decide +kernel) ⟨Nat.le_of_ble_eq_true rfl, Nat.le_of_ble_eq_true rfl⟩) (mPreV hG hS hP hI hA (hP _ _ h_X) (r := (RX4, TX4, 9)) rfl) rfl rfl hl.1 rfl (lv_room (Nat.le_of_ble_eq_true rfl)) dX4_deliver_2 ⟨Nat.le_of_ble_eq_true rfl, Nat.le_of_ble_eq_true rfl⟩) hS (fun E9 ce9 q9 H locs hpx9 hP hI hS hc9 hv9 hcl9 => m_out (px := fun E => exc ["java/lang/IndexOutOfBoundsException", "java/lang/IllegalArgumentException"] (m_deliver st p0 p1 p2 p3) E) (fun x hx9 => absurd hx9 (fun q => hxt x q)) hlocks hP hI hS hc9 hv9 hcl9 ((by obtain ⟨hE9, hn9⟩ := hpx9; subst hE9; exact exc_of (by unfold m_deliver; first | (rw [chk_n hn9]; done) | (rw [chk_n hn9]; rfl)) rfl)) (Nat.le_of_ble_eq_true rfl) (Nat.le_of_ble_eq_true rfl)) (fun r1 Mw1 H locs hp_r1 hP hI hS => ?_)
  obtain ⟨⟨ht9, hr9⟩, hm9⟩ := hp_r1
  subst Mw1
  subst hr9
  have h_T : Mw (ad 3 (ix p0)) = some (.inr (3, [.ref (ad 4 (ix p0)), .int (usS st (ix p0))])) := hC.1 3 _ (ok3 ht9.2)
  have h_B : Mw (ad 4 (ix p0)) = some (.inl (G.2.1 0, 20, .inl (boS st (ix p0)))) := hC.1 4 _ (ok4 ht9.2)
  refine lv_astore (lv' := [(5, .ref (ad 3 (ix p0))), (0, .ref (ad 0 0)), (1, .int p0), (2, .int p1), (3, .int p2), (4, .int p3)]) hx hb dX4_deliver_5 hl (by decide) rfl (fun ls hl => ?_)
  refine lv_iload_n hx hb dX4_deliver_7 rfl (lv_at hl 3 rfl) ?_
  refine mx_callv (vx_runS (As := [.int p1]) (rest := []) ⟨hx, hb, hml, hown, hts⟩ (c_X4_demandPlace l G A Mw hl9  p1) (va_cwS 1 hts gX4_deliver_X4_demandPlace rfl rfl rfl (by decide +kernel) ⟨Nat.le_of_ble_eq_true rfl, Nat.le_of_ble_eq_true rfl⟩) (mPreS hG hS hP hI hA) rfl rfl hl.1 rfl (lv_room (Nat.le_of_ble_eq_true rfl)) dX4_deliver_8 ⟨Nat.le_of_ble_eq_true rfl, Nat.le_of_ble_eq_true rfl⟩) hS (fun E9 ce9 q9 H locs hpx9 hP hI hS hc9 hv9 hcl9 => m_out (px := fun E => exc ["java/lang/IndexOutOfBoundsException", "java/lang/IllegalArgumentException"] (m_deliver st p0 p1 p2 p3) E) (fun x hx9 => absurd hx9 (fun q => hxt x q)) hlocks hP hI hS hc9 hv9 hcl9 ((by obtain ⟨hE9, hn9⟩ := hpx9; subst hE9; exact exc_of (by unfold m_deliver; first | (rw [chk_p ht9, chk_n hn9]; done) | (rw [chk_p ht9, chk_n hn9]; rfl)) rfl)) (Nat.le_of_ble_eq_true rfl) (Nat.le_of_ble_eq_true rfl)) (fun Mw1 H locs hp_r2 hP hI hS => ?_)
  obtain ⟨hp_r2, hm9⟩ := hp_r2
  subst Mw1
  refine lv_iload_n hx hb dX4_deliver_11 rfl (lv_at hl 4 rfl) ?_
  refine mx_callv (vx_runS (As := [.int p2]) (rest := []) ⟨hx, hb, hml, hown, hts⟩ (c_X4_demandPlace l G A Mw hl9  p2) (va_cwS 1 hts gX4_deliver_X4_demandPlace rfl rfl rfl (by decide +kernel) ⟨Nat.le_of_ble_eq_true rfl, Nat.le_of_ble_eq_true rfl⟩) (mPreS hG hS hP hI hA) rfl rfl hl.1 rfl (lv_room (Nat.le_of_ble_eq_true rfl)) dX4_deliver_12 ⟨Nat.le_of_ble_eq_true rfl, Nat.le_of_ble_eq_true rfl⟩) hS (fun E9 ce9 q9 H locs hpx9 hP hI hS hc9 hv9 hcl9 => m_out (px := fun E => exc ["java/lang/IndexOutOfBoundsException", "java/lang/IllegalArgumentException"] (m_deliver st p0 p1 p2 p3) E) (fun x hx9 => absurd hx9 (fun q => hxt x q)) hlocks hP hI hS hc9 hv9 hcl9 ((by obtain ⟨hE9, hn9⟩ := hpx9; subst hE9; exact exc_of (by unfold m_deliver; first | (rw [chk_p ht9, chk_p hp_r2, chk_n hn9]; done) | (rw [chk_p ht9, chk_p hp_r2, chk_n hn9]; rfl)) rfl)) (Nat.le_of_ble_eq_true rfl) (Nat.le_of_ble_eq_true rfl)) (fun Mw1 H locs hp_r3 hP hI hS => ?_)
  obtain ⟨hp_r3, hm9⟩ := hp_r3
  subst Mw1
  refine lv_iload hx hb dX4_deliver_15 (lv_at hl 5 rfl) ?_
  refine lv_iconst (v := 1) hx hb dX4_deliver_17 (by decide) ?_
  refine lv_sipush (v := (999)) hx hb dX4_deliver_18 (by decide) ?_
  refine mx_callv (vx_runS (As := [.int p3, .int 1, .int 999]) (rest := []) ⟨hx, hb, hml, hown, hts⟩ (c_X4_demandRange l G A Mw hl9  p3 1 999) (va_cwS 3 hts gX4_deliver_X4_demandRange rfl rfl rfl (by decide +kernel) ⟨Nat.le_of_ble_eq_true rfl, Nat.le_of_ble_eq_true rfl⟩) (mPreS hG hS hP hI hA) rfl rfl hl.1 rfl (lv_room (Nat.le_of_ble_eq_true rfl)) dX4_deliver_21 ⟨Nat.le_of_ble_eq_true rfl, Nat.le_of_ble_eq_true rfl⟩) hS (fun E9 ce9 q9 H locs hpx9 hP hI hS hc9 hv9 hcl9 => m_out (px := fun E => exc ["java/lang/IndexOutOfBoundsException", "java/lang/IllegalArgumentException"] (m_deliver st p0 p1 p2 p3) E) (fun x hx9 => absurd hx9 (fun q => hxt x q)) hlocks hP hI hS hc9 hv9 hcl9 ((by obtain ⟨hE9, hn9⟩ := hpx9; subst hE9; exact exc_of (by unfold m_deliver; first | (rw [chk_p ht9, chk_p hp_r2, chk_p hp_r3, chk_n hn9]; done) | (rw [chk_p ht9, chk_p hp_r2, chk_p hp_r3, chk_n hn9]; rfl)) rfl)) (Nat.le_of_ble_eq_true rfl) (Nat.le_of_ble_eq_true rfl)) (fun Mw1 H locs hp_r4 hP hI hS => ?_)
  obtain ⟨hp_r4, hm9⟩ := hp_r4
  subst Mw1
  refine lv_iload_n hx hb dX4_deliver_24 rfl (lv_at hl 4 rfl) ?_
  refine lv_iload_n hx hb dX4_deliver_25 rfl (lv_at hl 3 rfl) ?_
  refine lv_icmp_lt (tgt := 39) hx hb dX4_deliver_26 (by decide) (fun c5 => ?_) (fun c5 => ?_)
  · skip
    have hb_c5 := c5
    refine lv_aload hx hb dX4_deliver_39 (lv_at hl 0 rfl) ?_
    refine lv_iload_n hx hb dX4_deliver_41 rfl (lv_at hl 3 rfl) ?_
    refine m_calli (va_runV (As := [.int p1]) (rest := []) ⟨hx, hb, hml, hown, hts⟩ (c_X3_volumeUpTo l G A Mw  p1 h_T h_B) (cwV 1 hts gX4_deliver_X3_volumeUpTo rfl rfl rfl (by decide +kernel) ⟨Nat.le_of_ble_eq_true rfl, Nat.le_of_ble_eq_true rfl⟩) (mPreV hG hS hP hI hA (hP _ _ h_T) (r := (RX3, TX3, 2)) rfl) rfl rfl hl.1 rfl (lv_room (Nat.le_of_ble_eq_true rfl)) dX4_deliver_42 ⟨Nat.le_of_ble_eq_true rfl, Nat.le_of_ble_eq_true rfl⟩) hS (fun r6 Mw1 H locs hp_r6 hP hI hS => ?_)
    obtain ⟨hp_r6, hm9⟩ := hp_r6
    subst Mw1
    refine lv_aload hx hb dX4_deliver_45 (lv_at hl 0 rfl) ?_
    refine lv_iload_n hx hb dX4_deliver_47 rfl (lv_at hl 4 rfl) ?_
    refine m_calli (va_runV (As := [.int p2]) (rest := [.int r6]) ⟨hx, hb, hml, hown, hts⟩ (c_X3_volumeUpTo l G A Mw  p2 h_T h_B) (cwV 1 hts gX4_deliver_X3_volumeUpTo rfl rfl rfl (by decide +kernel) ⟨Nat.le_of_ble_eq_true rfl, Nat.le_of_ble_eq_true rfl⟩) (mPreV hG hS hP hI hA (hP _ _ h_T) (r := (RX3, TX3, 2)) rfl) rfl rfl hl.1 rfl (lv_room (Nat.le_of_ble_eq_true rfl)) dX4_deliver_48 ⟨Nat.le_of_ble_eq_true rfl, Nat.le_of_ble_eq_true rfl⟩) hS (fun r7 Mw1 H locs hp_r7 hP hI hS => ?_)
    obtain ⟨hp_r7, hm9⟩ := hp_r7
    subst Mw1
    refine lv_isub hx hb dX4_deliver_51 ?_
    refine lv_istore (lv' := [(6, .int (r6 - r7)), (5, .ref (ad 3 (ix p0))), (0, .ref (ad 0 0)), (1, .int p0), (2, .int p1), (3, .int p2), (4, .int p3)]) hx hb dX4_deliver_52 hl (by decide) rfl (fun ls hl => ?_)
    refine lv_iload hx hb dX4_deliver_54 (lv_at hl 0 rfl) ?_
    refine lv_aload hx hb dX4_deliver_56 (lv_at hl 1 rfl) ?_
    refine lv_iload_n hx hb dX4_deliver_58 rfl (lv_at hl 5 rfl) ?_
    refine lv_iload_n hx hb dX4_deliver_59 rfl (lv_at hl 4 rfl) ?_
    refine lv_iload hx hb dX4_deliver_60 (lv_at hl 6 rfl) ?_
    refine m_calli (va_runS (As := [.int p3]) (rest := [.int p1, .int p2, .ref (ad 3 (ix p0)), .int (r6 - r7)]) ⟨hx, hb, hml, hown, hts⟩ (c_X4_clingingToStep l G A Mw  p3) (va_cwS 1 hts gX4_deliver_X4_clingingToStep rfl rfl rfl (by decide +kernel) ⟨Nat.le_of_ble_eq_true rfl, Nat.le_of_ble_eq_true rfl⟩) (mPreS hG hS hP hI hA) rfl rfl hl.1 rfl (lv_room (Nat.le_of_ble_eq_true rfl)) dX4_deliver_62 ⟨Nat.le_of_ble_eq_true rfl, Nat.le_of_ble_eq_true rfl⟩) hS (fun r8 Mw1 H locs hp_r8 hP hI hS => ?_)
    obtain ⟨hp_r8, hm9⟩ := hp_r8
    subst Mw1
    refine m_calli (va_runV (As := [.int p2, .int p1, .int r8]) (rest := [.int (r6 - r7)]) ⟨hx, hb, hml, hown, hts⟩ (c_X3_clinging l G A Mw  p2 p1 r8 h_T h_B) (cwV 3 hts gX4_deliver_X3_clinging rfl rfl rfl (by decide +kernel) ⟨Nat.le_of_ble_eq_true rfl, Nat.le_of_ble_eq_true rfl⟩) (mPreV hG hS hP hI hA (hP _ _ h_T) (r := (RX3, TX3, 2)) rfl) rfl rfl hl.1 rfl (lv_room (Nat.le_of_ble_eq_true rfl)) dX4_deliver_65 ⟨Nat.le_of_ble_eq_true rfl, Nat.le_of_ble_eq_true rfl⟩) hS (fun r9 Mw1 H locs hp_r9 hP hI hS => ?_)
    obtain ⟨hp_r9, hm9⟩ := hp_r9
    subst Mw1
    refine lv_isub hx hb dX4_deliver_68 ?_
    refine W.widen (k := 5) (n := 30) (Nat.le_of_ble_eq_true rfl) (Nat.le_of_ble_eq_true rfl) ?_
    refine vx_ret ?_
    exact W.iret (v := (r6 - r7) - r9) hx hb hr (fun t99 ht99 hW99 => ⟨⟨(r6 - r7) - r9, Mw, rfl, ⟨st, ad, by unfold m_deliver; first | (rw [chk_p ht9, chk_p hp_r2, chk_p hp_r3, chk_p hp_r4, chk_p hb_c5, hp_r6, hp_r7, hp_r9, hp_r8]; done) | (rw [chk_p ht9, chk_p hp_r2, chk_p hp_r3, chk_p hp_r4, chk_p hb_c5, hp_r6, hp_r7, hp_r9, hp_r8]; rfl), hC, rfl⟩, by rw [ht99]; exact hP, hI⟩, hS.F ht99⟩) hS.2.2 dX4_deliver_69
  · skip
    obtain ⟨sa9, hsa9⟩ := hG.2.1.2.2.2.2.2.1 (79, "the second place is not lower") (by decide +kernel)
    exact vx_throwS (text := "the second place is not lower") (names := ["java/lang/RuntimeException", "java/lang/Exception"]) hx hb hl9 hown (by decide +kernel) (by decide +kernel) (hts (.classLink RX4 77 "java/lang/IllegalArgumentException") (by decide +kernel)) (hts (.initialized "java/lang/IllegalArgumentException") (by decide +kernel)) hsa9 (m_hat hG (fun w h => hts w (List.mem_cons_of_mem _ (List.mem_append_left _ (List.mem_append_right _ h)))) (by decide +kernel) (by decide +kernel)) (by decide +kernel) hG.2.2.1 hG.2.2.2.1 hS (hl.1.trans hml.symm) dX4_deliver_29 dX4_deliver_32 dX4_deliver_33 dX4_deliver_35 dX4_deliver_38 (fun x hx9 => absurd hx9 (fun q => hxt x q)) (Nat.le_of_ble_eq_true rfl) (Nat.le_of_ble_eq_true rfl) (Nat.le_of_ble_eq_true rfl) (Nat.le_of_ble_eq_true rfl) hlocks (fun t9 _ h92 h93 => m_thrown (px := fun E => exc ["java/lang/IndexOutOfBoundsException", "java/lang/IllegalArgumentException"] (m_deliver st p0 p1 p2 p3) E) (E := "java/lang/IllegalArgumentException") hP hI hS (exc_of (by unfold m_deliver; first | (rw [chk_p ht9, chk_p hp_r2, chk_p hp_r3, chk_p hp_r4, chk_n c5]; done) | (rw [chk_p ht9, chk_p hp_r2, chk_p hp_r3, chk_p hp_r4, chk_n c5]; rfl)) rfl) t9 h92 h93) hS.2.2 (Nat.le_of_ble_eq_true rfl) (Nat.le_of_ble_eq_true rfl)

set_option maxHeartbeats 4000000 in
set_option maxRecDepth 100000 in
theorem c_X4_section (l : Launch) (G : mg) (A : Nat → Prop) (Mw : mw) (hl9 : l.stackTraces = false) (st : St) (ad : adr) (p0 p1 p2 : Int32) (hC : CS G st ad Mw) (hV : Inv st) : vx_Met l yX4_section wsX4_section ({ frames := 7, cells := 4, slots := 24, locals := 104 }) (va_Pc [.ref (ad 0 0), .int p0, .int p1, .int p2] (mB G A Mw)) (va_Qi (fun r Mw1 => ∃ (s1 : St) (ad1 : adr), m_section st p0 p1 p2 = (0, r, s1) ∧ CS G s1 ad1 Mw1 ∧ ad1 0 0 = ad 0 0) (mE G A) A) (xX (fun E => exc ["java/lang/IndexOutOfBoundsException", "java/lang/IllegalArgumentException", "java/lang/UnsupportedOperationException"] (m_section st p0 p1 p2) E) G A Mw) 4 24 A := by
  refine vx_ofW (cc := cX4_section) (maxL := 6) (ret := (some .int)) (by decide) rfl ?_
  intro p e s m args below meth c s₁ B hml hxt hv
  obtain ⟨rfl, hG, hP, hI, hA⟩ := hv
  have hx := B.exec
  have hb := B.bytes
  have hr := B.returns
  have hts := atoms_spec (ws := wsX4_section) B.pre
  have hown : s.vm.findClass RX4 = some m.cls := findClass_of_methodNamed B.named
  have hlocks := B.notSynchronized
  have hK := hG.K
  have hS : va_S A s.heap s.heap [] := va_S.rf
  have hl := lv_entry ([.ref (ad 0 0), .int p0, .int p1, .int p2]) (n := 6) (Nat.le_of_ble_eq_true rfl)
  rw [lg_entry_eq]
  generalize (lg_sl ([.ref (ad 0 0), .int p0, .int p1, .int p2]) ++ List.replicate (6 - (lg_sl ([.ref (ad 0 0), .int p0, .int p1, .int p2])).length) Slot.unset).toArray = ls at hl ⊢
  have hl : lv_has ls 6 [(0, .ref (ad 0 0)), (1, .int p0), (2, .int p1), (3, .int p2)] := hl
  have hP : mP G.1 Mw s.heap := hP
  have h_X : Mw (ad 0 0) = some (.inr (4, [.ref (ad 1 0), .ref (ad 2 0), .int (nI (nT st)), .int (nI (nN st)), .int (gS st 0), .int (gS st 1), .int (gS st 2), .int (gS st 3), .int (gS st 4)])) := hC.1 0 0 (ok0 st)
  have h_TA : Mw (ad 1 0) = some (.inl (G.2.1 3, 8, .inr (.inr (.inr (.inr (qf (nT st) (ad 3))))))) := hC.1 1 0 (ok1 st)
  have h_IA : Mw (ad 2 0) = some (.inl (G.2.1 4, 6, .inr (.inr (.inr (.inr (qf (nN st) (ad 5))))))) := hC.1 2 0 (ok2 st)
  have hta9 := hC.ne (ok1 st) (ok2 st) (by omega)
  refine lv_aload_n hx hb dX4_section_0 rfl (lv_at hl 0 rfl) ?_
  refine lv_iload_n hx hb dX4_section_1 rfl (lv_at hl 1 rfl) ?_
  refine mx_callq (vx_runV (As := [.int p0]) (rest := []) ⟨hx, hb, hml, hown, hts⟩ (c_X4_tubeNumbered l G A Mw hl9  p0 h_X hV.1.1 h_TA) (cwV 1 hts gX4_section_X4_tubeNumbered rfl rfl rfl (by decide +kernel) ⟨Nat.le_of_ble_eq_true rfl, Nat.le_of_ble_eq_true rfl⟩) (mPreV hG hS hP hI hA (hP _ _ h_X) (r := (RX4, TX4, 9)) rfl) rfl rfl hl.1 rfl (lv_room (Nat.le_of_ble_eq_true rfl)) dX4_section_2 ⟨Nat.le_of_ble_eq_true rfl, Nat.le_of_ble_eq_true rfl⟩) hS (fun E9 ce9 q9 H locs hpx9 hP hI hS hc9 hv9 hcl9 => m_out (px := fun E => exc ["java/lang/IndexOutOfBoundsException", "java/lang/IllegalArgumentException", "java/lang/UnsupportedOperationException"] (m_section st p0 p1 p2) E) (fun x hx9 => absurd hx9 (fun q => hxt x q)) hlocks hP hI hS hc9 hv9 hcl9 ((by obtain ⟨hE9, hn9⟩ := hpx9; subst hE9; exact exc_of (by unfold m_section; first | (rw [chk_n hn9]; done) | (rw [chk_n hn9]; rfl)) rfl)) (Nat.le_of_ble_eq_true rfl) (Nat.le_of_ble_eq_true rfl)) (fun r1 Mw1 H locs hp_r1 hP hI hS => ?_)
  obtain ⟨⟨ht9, hr9⟩, hm9⟩ := hp_r1
  subst Mw1
  subst hr9
  have h_T : Mw (ad 3 (ix p0)) = some (.inr (3, [.ref (ad 4 (ix p0)), .int (usS st (ix p0))])) := hC.1 3 _ (ok3 ht9.2)
  have h_B : Mw (ad 4 (ix p0)) = some (.inl (G.2.1 0, 20, .inl (boS st (ix p0)))) := hC.1 4 _ (ok4 ht9.2)
  refine lv_astore (lv' := [(4, .ref (ad 3 (ix p0))), (0, .ref (ad 0 0)), (1, .int p0), (2, .int p1), (3, .int p2)]) hx hb dX4_section_5 hl (by decide) rfl (fun ls hl => ?_)
  refine lv_iload_n hx hb dX4_section_7 rfl (lv_at hl 3 rfl) ?_
  refine lv_iconst (v := 0) hx hb dX4_section_8 (by decide) ?_
  refine lv_bipush (v := (19)) hx hb dX4_section_9 (by decide) ?_
  refine mx_callv (vx_runS (As := [.int p1, .int 0, .int 19]) (rest := []) ⟨hx, hb, hml, hown, hts⟩ (c_X4_demandRange l G A Mw hl9  p1 0 19) (va_cwS 3 hts gX4_section_X4_demandRange rfl rfl rfl (by decide +kernel) ⟨Nat.le_of_ble_eq_true rfl, Nat.le_of_ble_eq_true rfl⟩) (mPreS hG hS hP hI hA) rfl rfl hl.1 rfl (lv_room (Nat.le_of_ble_eq_true rfl)) dX4_section_11 ⟨Nat.le_of_ble_eq_true rfl, Nat.le_of_ble_eq_true rfl⟩) hS (fun E9 ce9 q9 H locs hpx9 hP hI hS hc9 hv9 hcl9 => m_out (px := fun E => exc ["java/lang/IndexOutOfBoundsException", "java/lang/IllegalArgumentException", "java/lang/UnsupportedOperationException"] (m_section st p0 p1 p2) E) (fun x hx9 => absurd hx9 (fun q => hxt x q)) hlocks hP hI hS hc9 hv9 hcl9 ((by obtain ⟨hE9, hn9⟩ := hpx9; subst hE9; exact exc_of (by unfold m_section; first | (rw [chk_p ht9, chk_n hn9]; done) | (rw [chk_p ht9, chk_n hn9]; rfl)) rfl)) (Nat.le_of_ble_eq_true rfl) (Nat.le_of_ble_eq_true rfl)) (fun Mw1 H locs hp_r2 hP hI hS => ?_)
  obtain ⟨hp_r2, hm9⟩ := hp_r2
  subst Mw1
  refine lv_iload_n hx hb dX4_section_14 rfl (lv_at hl 4 rfl) ?_
  refine lv_iconst (v := 1) hx hb dX4_section_15 (by decide) ?_
  refine lv_bipush (v := (60)) hx hb dX4_section_16 (by decide) ?_
  refine mx_callv (vx_runS (As := [.int p2, .int 1, .int 60]) (rest := []) ⟨hx, hb, hml, hown, hts⟩ (c_X4_demandRange l G A Mw hl9  p2 1 60) (va_cwS 3 hts gX4_section_X4_demandRange rfl rfl rfl (by decide +kernel) ⟨Nat.le_of_ble_eq_true rfl, Nat.le_of_ble_eq_true rfl⟩) (mPreS hG hS hP hI hA) rfl rfl hl.1 rfl (lv_room (Nat.le_of_ble_eq_true rfl)) dX4_section_18 ⟨Nat.le_of_ble_eq_true rfl, Nat.le_of_ble_eq_true rfl⟩) hS (fun E9 ce9 q9 H locs hpx9 hP hI hS hc9 hv9 hcl9 => m_out (px := fun E => exc ["java/lang/IndexOutOfBoundsException", "java/lang/IllegalArgumentException", "java/lang/UnsupportedOperationException"] (m_section st p0 p1 p2) E) (fun x hx9 => absurd hx9 (fun q => hxt x q)) hlocks hP hI hS hc9 hv9 hcl9 ((by obtain ⟨hE9, hn9⟩ := hpx9; subst hE9; exact exc_of (by unfold m_section; first | (rw [chk_p ht9, chk_p hp_r2, chk_n hn9]; done) | (rw [chk_p ht9, chk_p hp_r2, chk_n hn9]; rfl)) rfl)) (Nat.le_of_ble_eq_true rfl) (Nat.le_of_ble_eq_true rfl)) (fun Mw1 H locs hp_r3 hP hI hS => ?_)
  obtain ⟨hp_r3, hm9⟩ := hp_r3
  subst Mw1
  refine lv_aload hx hb dX4_section_21 (lv_at hl 0 rfl) ?_
  refine mx_callv (vx_runS (As := [.ref (ad 3 (ix p0))]) (rest := []) ⟨hx, hb, hml, hown, hts⟩ (c_X4_demandUnused l G A Mw hl9  h_T) (va_cwS 1 hts gX4_section_X4_demandUnused rfl rfl rfl (by decide +kernel) ⟨Nat.le_of_ble_eq_true rfl, Nat.le_of_ble_eq_true rfl⟩) (mPreS hG hS hP hI hA) rfl rfl hl.1 rfl (lv_room (Nat.le_of_ble_eq_true rfl)) dX4_section_23 ⟨Nat.le_of_ble_eq_true rfl, Nat.le_of_ble_eq_true rfl⟩) hS (fun E9 ce9 q9 H locs hpx9 hP hI hS hc9 hv9 hcl9 => m_out (px := fun E => exc ["java/lang/IndexOutOfBoundsException", "java/lang/IllegalArgumentException", "java/lang/UnsupportedOperationException"] (m_section st p0 p1 p2) E) (fun x hx9 => absurd hx9 (fun q => hxt x q)) hlocks hP hI hS hc9 hv9 hcl9 ((by obtain ⟨hE9, hn9⟩ := hpx9; subst hE9; exact exc_of (by unfold m_section; first | (rw [chk_p ht9, chk_p hp_r2, chk_p hp_r3, chk_n hn9]; done) | (rw [chk_p ht9, chk_p hp_r2, chk_p hp_r3, chk_n hn9]; rfl)) rfl)) (Nat.le_of_ble_eq_true rfl) (Nat.le_of_ble_eq_true rfl)) (fun Mw1 H locs hp_r4 hP hI hS => ?_)
  obtain ⟨hp_r4, hm9⟩ := hp_r4
  subst Mw1
  refine lv_aload hx hb dX4_section_26 (lv_at hl 0 rfl) ?_
  refine lv_iload_n hx hb dX4_section_28 rfl (lv_at hl 3 rfl) ?_
  refine m_calli (va_runV (As := [.int p1]) (rest := []) ⟨hx, hb, hml, hown, hts⟩ (c_X3_boreOf l G A Mw  p1 h_T h_B) (cwV 1 hts gX4_section_X3_boreOf rfl rfl rfl (by decide +kernel) ⟨Nat.le_of_ble_eq_true rfl, Nat.le_of_ble_eq_true rfl⟩) (mPreV hG hS hP hI hA (hP _ _ h_T) (r := (RX3, TX3, 2)) rfl) rfl rfl hl.1 rfl (lv_room (Nat.le_of_ble_eq_true rfl)) dX4_section_29 ⟨Nat.le_of_ble_eq_true rfl, Nat.le_of_ble_eq_true rfl⟩) hS (fun r5 Mw1 H locs hp_r5 hP hI hS => ?_)
  obtain ⟨hp_r5, hm9⟩ := hp_r5
  subst Mw1
  refine lv_istore (lv' := [(5, .int r5), (4, .ref (ad 3 (ix p0))), (0, .ref (ad 0 0)), (1, .int p0), (2, .int p1), (3, .int p2)]) hx hb dX4_section_32 hl (by decide) rfl (fun ls hl => ?_)
  refine lv_aload hx hb dX4_section_34 (lv_at hl 1 rfl) ?_
  refine lv_iload_n hx hb dX4_section_36 rfl (lv_at hl 4 rfl) ?_
  refine lv_iload_n hx hb dX4_section_37 rfl (lv_at hl 5 rfl) ?_
  refine m_callv (va_runV (As := [.int p1, .int p2]) (rest := []) ⟨hx, hb, hml, hown, hts⟩ (c_X3_setBore l G A Mw  p1 p2 hp_r2.1 (i_nle (Int32.lt_of_le_of_lt hp_r2.2 (by decide))) h_T h_B) (cwV 2 hts gX4_section_X3_setBore rfl rfl rfl (by decide +kernel) ⟨Nat.le_of_ble_eq_true rfl, Nat.le_of_ble_eq_true rfl⟩) (mPreV hG hS hP hI hA (hP _ _ h_T) (r := (RX3, TX3, 2)) rfl) rfl rfl hl.1 rfl (lv_room (Nat.le_of_ble_eq_true rfl)) dX4_section_38 ⟨Nat.le_of_ble_eq_true rfl, Nat.le_of_ble_eq_true rfl⟩) hS (fun Mw1 H locs hp_r6 hP hI hS => ?_)
  subst Mw1
  have h_X := mu_k (e := .inl (G.2.1 0, 20, .inl (upd (boS st (ix p0)) p1.toNatClampNeg p2))) (kd_ne h_X h_B rfl) h_X
  have h_TA := mu_k (e := .inl (G.2.1 0, 20, .inl (upd (boS st (ix p0)) p1.toNatClampNeg p2))) (kd_ne h_TA h_B rfl) h_TA
  have h_IA := mu_k (e := .inl (G.2.1 0, 20, .inl (upd (boS st (ix p0)) p1.toNatClampNeg p2))) (kd_ne h_IA h_B rfl) h_IA
  have h_T := mu_k (e := .inl (G.2.1 0, 20, .inl (upd (boS st (ix p0)) p1.toNatClampNeg p2))) (kd_ne h_T h_B rfl) h_T
  have h_B : (mu Mw (ad 4 (ix p0)) (.inl (G.2.1 0, 20, .inl (upd (boS st (ix p0)) p1.toNatClampNeg p2)))) (ad 4 (ix p0)) = some (.inl (G.2.1 0, 20, .inl (upd (boS st (ix p0)) p1.toNatClampNeg p2))) := mu_s
  refine lv_iload hx hb dX4_section_41 (lv_at hl 0 rfl) ?_
  refine W.widen (k := 4) (n := 24) (Nat.le_of_ble_eq_true rfl) (Nat.le_of_ble_eq_true rfl) ?_
  refine vx_ret ?_
  exact W.iret (v := r5) hx hb hr (fun t99 ht99 hW99 => ⟨⟨r5, (mu Mw (ad 4 (ix p0)) (.inl (G.2.1 0, 20, .inl (upd (boS st (ix p0)) p1.toNatClampNeg p2)))), rfl, ⟨setB st (ix p0) p1 p2, ad, by unfold m_section; first | (rw [chk_p ht9, chk_p hp_r2, chk_p hp_r3, chk_p hp_r4, hp_r5]; done) | (rw [chk_p ht9, chk_p hp_r2, chk_p hp_r3, chk_p hp_r4, hp_r5]; rfl), hC.sbo ht9.2 p1 p2, rfl⟩, by rw [ht99]; exact hP, hI⟩, hS.F ht99⟩) hS.2.2 dX4_section_43

set_option maxHeartbeats 4000000 in
set_option maxRecDepth 100000 in
theorem c_X4_boiling (l : Launch) (G : mg) (A : Nat → Prop) (Mw : mw) (hl9 : l.stackTraces = false) (st : St) (ad : adr) (p0 : Int32) (hC : CS G st ad Mw) (hV : Inv st) : vx_Met l yX4_boiling wsX4_boiling ({ frames := 8, cells := 1, slots := 6, locals := 124 }) (va_Pc [.ref (ad 0 0), .int p0] (mB G A Mw)) (va_Qi (fun r Mw1 => ∃ (s1 : St) (ad1 : adr), m_boiling st p0 = (0, r, s1) ∧ CS G s1 ad1 Mw1 ∧ ad1 0 0 = ad 0 0) (mE G A) A) (xX (fun E => exc ["java/lang/IllegalArgumentException"] (m_boiling st p0) E) G A Mw) 1 6 A := by
  refine vx_ofW (cc := cX4_boiling) (maxL := 2) (ret := (some .int)) (by decide) rfl ?_
  intro p e s m args below meth c s₁ B hml hxt hv
  obtain ⟨rfl, hG, hP, hI, hA⟩ := hv
  have hx := B.exec
  have hb := B.bytes
  have hr := B.returns
  have hts := atoms_spec (ws := wsX4_boiling) B.pre
  have hown : s.vm.findClass RX4 = some m.cls := findClass_of_methodNamed B.named
  have hlocks := B.notSynchronized
  have hK := hG.K
  have hS : va_S A s.heap s.heap [] := va_S.rf
  have hl := lv_entry ([.ref (ad 0 0), .int p0]) (n := 2) (Nat.le_of_ble_eq_true rfl)
  rw [lg_entry_eq]
  generalize (lg_sl ([.ref (ad 0 0), .int p0]) ++ List.replicate (2 - (lg_sl ([.ref (ad 0 0), .int p0])).length) Slot.unset).toArray = ls at hl ⊢
  have hl : lv_has ls 2 [(0, .ref (ad 0 0)), (1, .int p0)] := hl
  have hP : mP G.1 Mw s.heap := hP
  have h_X : Mw (ad 0 0) = some (.inr (4, [.ref (ad 1 0), .ref (ad 2 0), .int (nI (nT st)), .int (nI (nN st)), .int (gS st 0), .int (gS st 1), .int (gS st 2), .int (gS st 3), .int (gS st 4)])) := hC.1 0 0 (ok0 st)
  have h_TA : Mw (ad 1 0) = some (.inl (G.2.1 3, 8, .inr (.inr (.inr (.inr (qf (nT st) (ad 3))))))) := hC.1 1 0 (ok1 st)
  have h_IA : Mw (ad 2 0) = some (.inl (G.2.1 4, 6, .inr (.inr (.inr (.inr (qf (nN st) (ad 5))))))) := hC.1 2 0 (ok2 st)
  have hta9 := hC.ne (ok1 st) (ok2 st) (by omega)
  refine lv_iload_n hx hb dX4_boiling_0 rfl (lv_at hl 1 rfl) ?_
  refine mx_callv (vx_runS (As := [.int p0]) (rest := []) ⟨hx, hb, hml, hown, hts⟩ (c_X4_demandPressure l G A Mw hl9  p0) (va_cwS 1 hts gX4_boiling_X4_demandPressure rfl rfl rfl (by decide +kernel) ⟨Nat.le_of_ble_eq_true rfl, Nat.le_of_ble_eq_true rfl⟩) (mPreS hG hS hP hI hA) rfl rfl hl.1 rfl (lv_room (Nat.le_of_ble_eq_true rfl)) dX4_boiling_1 ⟨Nat.le_of_ble_eq_true rfl, Nat.le_of_ble_eq_true rfl⟩) hS (fun E9 ce9 q9 H locs hpx9 hP hI hS hc9 hv9 hcl9 => m_out (px := fun E => exc ["java/lang/IllegalArgumentException"] (m_boiling st p0) E) (fun x hx9 => absurd hx9 (fun q => hxt x q)) hlocks hP hI hS hc9 hv9 hcl9 ((by obtain ⟨hE9, hn9⟩ := hpx9; subst hE9; exact exc_of (by unfold m_boiling; first | (rw [chk_n hn9]; done) | (rw [chk_n hn9]; rfl)) rfl)) (Nat.le_of_ble_eq_true rfl) (Nat.le_of_ble_eq_true rfl)) (fun Mw1 H locs hp_r1 hP hI hS => ?_)
  obtain ⟨hp_r1, hm9⟩ := hp_r1
  subst Mw1
  refine lv_iload_n hx hb dX4_boiling_4 rfl (lv_at hl 1 rfl) ?_
  refine m_calli (va_runS (As := [.int p0]) (rest := []) ⟨hx, hb, hml, hown, hts⟩ (c_X4_steamAt l G A Mw  p0) (va_cwS 1 hts gX4_boiling_X4_steamAt rfl rfl rfl (by decide +kernel) ⟨Nat.le_of_ble_eq_true rfl, Nat.le_of_ble_eq_true rfl⟩) (mPreS hG hS hP hI hA) rfl rfl hl.1 rfl (lv_room (Nat.le_of_ble_eq_true rfl)) dX4_boiling_5 ⟨Nat.le_of_ble_eq_true rfl, Nat.le_of_ble_eq_true rfl⟩) hS (fun r2 Mw1 H locs hp_r2 hP hI hS => ?_)
  obtain ⟨hp_r2, hm9⟩ := hp_r2
  subst Mw1
  refine W.widen (k := 1) (n := 6) (Nat.le_of_ble_eq_true rfl) (Nat.le_of_ble_eq_true rfl) ?_
  refine vx_ret ?_
  exact W.iret (v := r2) hx hb hr (fun t99 ht99 hW99 => ⟨⟨r2, Mw, rfl, ⟨st, ad, by unfold m_boiling; first | (rw [chk_p hp_r1, hp_r2]; done) | (rw [chk_p hp_r1, hp_r2]; rfl), hC, rfl⟩, by rw [ht99]; exact hP, hI⟩, hS.F ht99⟩) hS.2.2 dX4_boiling_8
end
section
set_option maxHeartbeats 4000000 in
set_option maxRecDepth 100000 in
theorem c_X4_barometer (l : Launch) (G : mg) (A : Nat → Prop) (Mw : mw) (hl9 : l.stackTraces = false) (st : St) (ad : adr) (p0 p1 p2 p3 : Int32) (hC : CS G st ad Mw) (hV : Inv st) : vx_Met l yX4_barometer wsX4_barometer ({ frames := 7, cells := 4, slots := 24, locals := 104 }) (va_Pc [.ref (ad 0 0), .int p0, .int p1, .int p2, .int p3] (mB G A Mw)) (va_Qi (fun r Mw1 => ∃ (s1 : St) (ad1 : adr), m_barometer st p0 p1 p2 p3 = (0, r, s1) ∧ CS G s1 ad1 Mw1 ∧ ad1 0 0 = ad 0 0) (mE G A) A) (xX (fun E => exc ["java/lang/IllegalArgumentException"] (m_barometer st p0 p1 p2 p3) E) G A Mw) 4 24 A := by
  refine vx_ofW (cc := cX4_barometer) (maxL := 6) (ret := (some .int)) (by decide) rfl ?_
  intro p e s m args below meth c s₁ B hml hxt hv
  obtain ⟨rfl, hG, hP, hI, hA⟩ := hv
  have hx := B.exec
  have hb := B.bytes
  have hr := B.returns
  have hts := atoms_spec (ws := wsX4_barometer) B.pre
  have hown : s.vm.findClass RX4 = some m.cls := findClass_of_methodNamed B.named
  have hlocks := B.notSynchronized
  have hK := hG.K
  have hS : va_S A s.heap s.heap [] := va_S.rf
  have hl := lv_entry ([.ref (ad 0 0), .int p0, .int p1, .int p2, .int p3]) (n := 6) (Nat.le_of_ble_eq_true rfl)
  rw [lg_entry_eq]
  generalize (lg_sl ([.ref (ad 0 0), .int p0, .int p1, .int p2, .int p3]) ++ List.replicate (6 - (lg_sl ([.ref (ad 0 0), .int p0, .int p1, .int p2, .int p3])).length) Slot.unset).toArray = ls at hl ⊢
  have hl : lv_has ls 6 [(0, .ref (ad 0 0)), (1, .int p0), (2, .int p1), (3, .int p2), (4, .int p3)] := hl
  have hP : mP G.1 Mw s.heap := hP
  have h_X : Mw (ad 0 0) = some (.inr (4, [.ref (ad 1 0), .ref (ad 2 0), .int (nI (nT st)), .int (nI (nN st)), .int (gS st 0), .int (gS st 1), .int (gS st 2), .int (gS st 3), .int (gS st 4)])) := hC.1 0 0 (ok0 st)
  have h_TA : Mw (ad 1 0) = some (.inl (G.2.1 3, 8, .inr (.inr (.inr (.inr (qf (nT st) (ad 3))))))) := hC.1 1 0 (ok1 st)
  have h_IA : Mw (ad 2 0) = some (.inl (G.2.1 4, 6, .inr (.inr (.inr (.inr (qf (nN st) (ad 5))))))) := hC.1 2 0 (ok2 st)
  have hta9 := hC.ne (ok1 st) (ok2 st) (by omega)
  refine lv_iload_n hx hb dX4_barometer_0 rfl (lv_at hl 1 rfl) ?_
  refine lv_sipush (v := (6000)) hx hb dX4_barometer_1 (by decide) ?_
  refine lv_sipush (v := (8000)) hx hb dX4_barometer_4 (by decide) ?_
  refine mx_callv (vx_runS (As := [.int p0, .int 6000, .int 8000]) (rest := []) ⟨hx, hb, hml, hown, hts⟩ (c_X4_demandRange l G A Mw hl9  p0 6000 8000) (va_cwS 3 hts gX4_barometer_X4_demandRange rfl rfl rfl (by decide +kernel) ⟨Nat.le_of_ble_eq_true rfl, Nat.le_of_ble_eq_true rfl⟩) (mPreS hG hS hP hI hA) rfl rfl hl.1 rfl (lv_room (Nat.le_of_ble_eq_true rfl)) dX4_barometer_7 ⟨Nat.le_of_ble_eq_true rfl, Nat.le_of_ble_eq_true rfl⟩) hS (fun E9 ce9 q9 H locs hpx9 hP hI hS hc9 hv9 hcl9 => m_out (px := fun E => exc ["java/lang/IllegalArgumentException"] (m_barometer st p0 p1 p2 p3) E) (fun x hx9 => absurd hx9 (fun q => hxt x q)) hlocks hP hI hS hc9 hv9 hcl9 ((by obtain ⟨hE9, hn9⟩ := hpx9; subst hE9; exact exc_of (by unfold m_barometer; first | (rw [chk_n hn9]; done) | (rw [chk_n hn9]; rfl)) rfl)) (Nat.le_of_ble_eq_true rfl) (Nat.le_of_ble_eq_true rfl)) (fun Mw1 H locs hp_r1 hP hI hS => ?_)
  obtain ⟨hp_r1, hm9⟩ := hp_r1
  subst Mw1
  refine lv_iload_n hx hb dX4_barometer_10 rfl (lv_at hl 2 rfl) ?_
  refine lv_bipush (v := (-20)) hx hb dX4_barometer_11 (by decide) ?_
  refine lv_bipush (v := (40)) hx hb dX4_barometer_13 (by decide) ?_
  refine mx_callv (vx_runS (As := [.int p1, .int ((-20)), .int 40]) (rest := []) ⟨hx, hb, hml, hown, hts⟩ (c_X4_demandRange l G A Mw hl9  p1 (-20) 40) (va_cwS 3 hts gX4_barometer_X4_demandRange rfl rfl rfl (by decide +kernel) ⟨Nat.le_of_ble_eq_true rfl, Nat.le_of_ble_eq_true rfl⟩) (mPreS hG hS hP hI hA) rfl rfl hl.1 rfl (lv_room (Nat.le_of_ble_eq_true rfl)) dX4_barometer_15 ⟨Nat.le_of_ble_eq_true rfl, Nat.le_of_ble_eq_true rfl⟩) hS (fun E9 ce9 q9 H locs hpx9 hP hI hS hc9 hv9 hcl9 => m_out (px := fun E => exc ["java/lang/IllegalArgumentException"] (m_barometer st p0 p1 p2 p3) E) (fun x hx9 => absurd hx9 (fun q => hxt x q)) hlocks hP hI hS hc9 hv9 hcl9 ((by obtain ⟨hE9, hn9⟩ := hpx9; subst hE9; exact exc_of (by unfold m_barometer; first | (rw [chk_p hp_r1, chk_n hn9]; done) | (rw [chk_p hp_r1, chk_n hn9]; rfl)) rfl)) (Nat.le_of_ble_eq_true rfl) (Nat.le_of_ble_eq_true rfl)) (fun Mw1 H locs hp_r2 hP hI hS => ?_)
  obtain ⟨hp_r2, hm9⟩ := hp_r2
  subst Mw1
  refine lv_iload_n hx hb dX4_barometer_18 rfl (lv_at hl 3 rfl) ?_
  refine lv_sipush (v := (9780)) hx hb dX4_barometer_19 (by decide) ?_
  refine lv_sipush (v := (9832)) hx hb dX4_barometer_22 (by decide) ?_
  refine mx_callv (vx_runS (As := [.int p2, .int 9780, .int 9832]) (rest := []) ⟨hx, hb, hml, hown, hts⟩ (c_X4_demandRange l G A Mw hl9  p2 9780 9832) (va_cwS 3 hts gX4_barometer_X4_demandRange rfl rfl rfl (by decide +kernel) ⟨Nat.le_of_ble_eq_true rfl, Nat.le_of_ble_eq_true rfl⟩) (mPreS hG hS hP hI hA) rfl rfl hl.1 rfl (lv_room (Nat.le_of_ble_eq_true rfl)) dX4_barometer_25 ⟨Nat.le_of_ble_eq_true rfl, Nat.le_of_ble_eq_true rfl⟩) hS (fun E9 ce9 q9 H locs hpx9 hP hI hS hc9 hv9 hcl9 => m_out (px := fun E => exc ["java/lang/IllegalArgumentException"] (m_barometer st p0 p1 p2 p3) E) (fun x hx9 => absurd hx9 (fun q => hxt x q)) hlocks hP hI hS hc9 hv9 hcl9 ((by obtain ⟨hE9, hn9⟩ := hpx9; subst hE9; exact exc_of (by unfold m_barometer; first | (rw [chk_p hp_r1, chk_p hp_r2, chk_n hn9]; done) | (rw [chk_p hp_r1, chk_p hp_r2, chk_n hn9]; rfl)) rfl)) (Nat.le_of_ble_eq_true rfl) (Nat.le_of_ble_eq_true rfl)) (fun Mw1 H locs hp_r3 hP hI hS => ?_)
  obtain ⟨hp_r3, hm9⟩ := hp_r3
  subst Mw1
  refine lv_iload hx hb dX4_barometer_28 (lv_at hl 4 rfl) ?_
  refine lv_iconst (v := 1) hx hb dX4_barometer_30 (by decide) ?_
  refine lv_bipush (v := (60)) hx hb dX4_barometer_31 (by decide) ?_
  refine mx_callv (vx_runS (As := [.int p3, .int 1, .int 60]) (rest := []) ⟨hx, hb, hml, hown, hts⟩ (c_X4_demandRange l G A Mw hl9  p3 1 60) (va_cwS 3 hts gX4_barometer_X4_demandRange rfl rfl rfl (by decide +kernel) ⟨Nat.le_of_ble_eq_true rfl, Nat.le_of_ble_eq_true rfl⟩) (mPreS hG hS hP hI hA) rfl rfl hl.1 rfl (lv_room (Nat.le_of_ble_eq_true rfl)) dX4_barometer_33 ⟨Nat.le_of_ble_eq_true rfl, Nat.le_of_ble_eq_true rfl⟩) hS (fun E9 ce9 q9 H locs hpx9 hP hI hS hc9 hv9 hcl9 => m_out (px := fun E => exc ["java/lang/IllegalArgumentException"] (m_barometer st p0 p1 p2 p3) E) (fun x hx9 => absurd hx9 (fun q => hxt x q)) hlocks hP hI hS hc9 hv9 hcl9 ((by obtain ⟨hE9, hn9⟩ := hpx9; subst hE9; exact exc_of (by unfold m_barometer; first | (rw [chk_p hp_r1, chk_p hp_r2, chk_p hp_r3, chk_n hn9]; done) | (rw [chk_p hp_r1, chk_p hp_r2, chk_p hp_r3, chk_n hn9]; rfl)) rfl)) (Nat.le_of_ble_eq_true rfl) (Nat.le_of_ble_eq_true rfl)) (fun Mw1 H locs hp_r4 hP hI hS => ?_)
  obtain ⟨hp_r4, hm9⟩ := hp_r4
  subst Mw1
  refine lv_iload_n hx hb dX4_barometer_36 rfl (lv_at hl 1 rfl) ?_
  refine lv_iload_n hx hb dX4_barometer_37 rfl (lv_at hl 1 rfl) ?_
  refine lv_bipush (v := (18)) hx hb dX4_barometer_38 (by decide) ?_
  refine lv_imul hx hb dX4_barometer_40 ?_
  refine lv_iload_n hx hb dX4_barometer_41 rfl (lv_at hl 2 rfl) ?_
  refine lv_imul hx hb dX4_barometer_42 ?_
  refine lv_ldcw (v := 100000) hx hb hown (hts (.constant RX4 265 (100000)) (by decide +kernel)) dX4_barometer_43 ?_
  refine lv_idiv hx hb dX4_barometer_46 (by decide) ?_
  refine lv_isub hx hb dX4_barometer_47 ?_
  refine lv_istore (lv' := [(5, .int (p0 - (((p0 * 18) * p1) / 100000))), (0, .ref (ad 0 0)), (1, .int p0), (2, .int p1), (3, .int p2), (4, .int p3)]) hx hb dX4_barometer_48 hl (by decide) rfl (fun ls hl => ?_)
  refine lv_iload hx hb dX4_barometer_50 (lv_at hl 0 rfl) ?_
  refine lv_iload_n hx hb dX4_barometer_52 rfl (lv_at hl 4 rfl) ?_
  refine lv_imul hx hb dX4_barometer_53 ?_
  refine lv_sipush (v := (9807)) hx hb dX4_barometer_54 (by decide) ?_
  refine lv_idiv hx hb dX4_barometer_57 (by decide) ?_
  refine lv_bipush (v := (60)) hx hb dX4_barometer_58 (by decide) ?_
  refine lv_iload hx hb dX4_barometer_60 (lv_at hl 5 rfl) ?_
  refine lv_idiv hx hb dX4_barometer_62 (fun q9 => by have h8 := hp_r4.1; rw [q9] at h8; exact h8 (by decide)) ?_
  refine lv_iadd hx hb dX4_barometer_63 ?_
  refine W.widen (k := 4) (n := 24) (Nat.le_of_ble_eq_true rfl) (Nat.le_of_ble_eq_true rfl) ?_
  refine vx_ret ?_
  exact W.iret (v := (((p0 - (((p0 * 18) * p1) / 100000)) * p2) / 9807) + (60 / p3)) hx hb hr (fun t99 ht99 hW99 => ⟨⟨(((p0 - (((p0 * 18) * p1) / 100000)) * p2) / 9807) + (60 / p3), Mw, rfl, ⟨st, ad, by unfold m_barometer; first | (rw [chk_p hp_r1, chk_p hp_r2, chk_p hp_r3, chk_p hp_r4]; done) | (rw [chk_p hp_r1, chk_p hp_r2, chk_p hp_r3, chk_p hp_r4]; rfl), hC, rfl⟩, by rw [ht99]; exact hP, hI⟩, hS.F ht99⟩) hS.2.2 dX4_barometer_64
end
section
set_option maxHeartbeats 4000000 in
set_option maxRecDepth 100000 in
theorem c_X4_instrumentsOfTube (l : Launch) (G : mg) (A : Nat → Prop) (Mw : mw) (p0 : Int32) (st : St) (ad : adr) (hC : CS G st ad Mw) (hV : Inv st) : Met l yX4_instrumentsOfTube wsX4_instrumentsOfTube ({ frames := 0, cells := 0, slots := 0, locals := 0 }) (va_Pc [.ref (ad 0 0), .int p0] (mB G A Mw)) (va_Qi (fun r Mw1 => r = (isum (fun i => if itS st i 0 = p0 then 1 else 0) (nN st)) ∧ Mw1 = Mw) (mE G A) A) 0 0 A := by
  refine Met.ofW (cc := cX4_instrumentsOfTube) (maxL := 7) (ret := (some .int)) (by decide) rfl ?_
  intro p e s m args below meth c s₁ B hml hv
  obtain ⟨rfl, hG, hP, hI, hA⟩ := hv
  have hx := B.exec
  have hb := B.bytes
  have hr := B.returns
  have hts := atoms_spec (ws := wsX4_instrumentsOfTube) B.pre
  have hown : s.vm.findClass RX4 = some m.cls := findClass_of_methodNamed B.named
  have hlocks := B.notSynchronized
  have hK := hG.K
  have i_X0 : ∀ w ∈ wsX00, w ∈ wsX4_instrumentsOfTube := by decide +kernel
  have i_X4 : ∀ w ∈ wsX40, w ∈ wsX4_instrumentsOfTube := by decide +kernel
  have hS : va_S A s.heap s.heap [] := va_S.rf
  have hl := lv_entry ([.ref (ad 0 0), .int p0]) (n := 7) (Nat.le_of_ble_eq_true rfl)
  rw [lg_entry_eq]
  generalize (lg_sl ([.ref (ad 0 0), .int p0]) ++ List.replicate (7 - (lg_sl ([.ref (ad 0 0), .int p0])).length) Slot.unset).toArray = ls at hl ⊢
  have hl : lv_has ls 7 [(0, .ref (ad 0 0)), (1, .int p0)] := hl
  have hP : mP G.1 Mw s.heap := hP
  have h_X : Mw (ad 0 0) = some (.inr (4, [.ref (ad 1 0), .ref (ad 2 0), .int (nI (nT st)), .int (nI (nN st)), .int (gS st 0), .int (gS st 1), .int (gS st 2), .int (gS st 3), .int (gS st 4)])) := hC.1 0 0 (ok0 st)
  have h_TA : Mw (ad 1 0) = some (.inl (G.2.1 3, 8, .inr (.inr (.inr (.inr (qf (nT st) (ad 3))))))) := hC.1 1 0 (ok1 st)
  have h_IA : Mw (ad 2 0) = some (.inl (G.2.1 4, 6, .inr (.inr (.inr (.inr (qf (nN st) (ad 5))))))) := hC.1 2 0 (ok2 st)
  have hta9 := hC.ne (ok1 st) (ok2 st) (by omega)
  refine lv_iconst (v := 0) hx hb dX4_instrumentsOfTube_0 (by decide) ?_
  refine lv_istore_n (lv' := [(2, .int 0), (0, .ref (ad 0 0)), (1, .int p0)]) hx hb dX4_instrumentsOfTube_1 rfl hl (by decide) rfl (fun ls hl => ?_)
  refine lv_aload_n hx hb dX4_instrumentsOfTube_2 rfl (lv_at hl 1 rfl) ?_
  refine m_get (ci := 4) (v := .ref (ad 2 0)) (C := RX4) (T := TX4) (N := 9) hx hb hts i_X4 hown hK (hP _ _ h_X) rfl 1 (by decide) (hts (.fieldLink RX4 17 "Meniscus" "instruments" "[LMeniscus$Instrument;") (by decide +kernel)) (fun _ h9 => h9) rfl dX4_instrumentsOfTube_3 ?_
  refine lv_astore_n (lv' := [(3, .ref (ad 2 0)), (2, .int 0), (0, .ref (ad 0 0)), (1, .int p0)]) hx hb dX4_instrumentsOfTube_6 rfl hl (by decide) rfl (fun ls hl => ?_)
  refine lv_aload_n hx hb dX4_instrumentsOfTube_7 rfl (lv_at hl 0 rfl) ?_
  refine m_alen (v := 6) hx hb hK 4 (hP _ _ h_IA) rfl rfl dX4_instrumentsOfTube_8 ?_
  refine lv_istore (lv' := [(4, .int 6), (3, .ref (ad 2 0)), (2, .int 0), (0, .ref (ad 0 0)), (1, .int p0)]) hx hb dX4_instrumentsOfTube_9 hl (by decide) rfl (fun ls hl => ?_)
  refine lv_iconst (v := 0) hx hb dX4_instrumentsOfTube_11 (by decide) ?_
  refine lv_istore (lv' := [(5, .int 0), (4, .int 6), (3, .ref (ad 2 0)), (2, .int 0), (0, .ref (ad 0 0)), (1, .int p0)]) hx hb dX4_instrumentsOfTube_12 hl (by decide) rfl (fun ls hl => ?_)
  have loop : ∀ (n k : Nat), k ≤ 6 → k + n = 6 + 1 → ∀ (H : Heap) (locs : List Loc) (ls : Array Slot), mP G.1 (Mw) H → mI A (Mw) → va_S A s.heap H locs → lv_has ls 7 [(0, .ref (ad 0 0)), (1, .int p0), (2, .int (isum (fun i => if itS st i 0 = p0 then 1 else 0) (min k (nN st)))), (3, .ref (ad 2 0)), (4, .int 6), (5, .int (nI k))] → W p l e ({ frames := 0, cells := 0, slots := 0, locals := 0 }) s m ([.ref (ad 0 0), .int p0] : List Value).toArray below meth c H locs 0 0 (MQ below (va_Qi (fun r Mw1 => r = (isum (fun i => if itS st i 0 = p0 then 1 else 0) (nN st)) ∧ Mw1 = Mw) (mE G A) A) ([.ref (ad 0 0), .int p0] : List Value).toArray s 0 0 A) (F0 m 14 ls []) := by
    intro n
    induction n with
    | zero => intro k hk1 hk2; omega
    | succ n ih_loop =>
      intro k hk1 hk2 H locs ls hP hI hS hl
      refine lv_iload hx hb dX4_instrumentsOfTube_14 (lv_at hl 5 rfl) ?_
      refine lv_iload hx hb dX4_instrumentsOfTube_16 (lv_at hl 4 rfl) ?_
      refine lv_icmp_ge (tgt := 50) hx hb dX4_instrumentsOfTube_18 (by decide) (fun c1 => ?_) (fun c1 => ?_)
      · skip
        have hk3 : 6 ≤ k := (nI_leI (a := 6) (b := k) (by omega) (by omega)).mp c1
        refine lv_iload_n hx hb dX4_instrumentsOfTube_50 rfl (lv_at hl 2 rfl) ?_
        refine W.widen (k := 0) (n := 0) (Nat.le_of_ble_eq_true rfl) (Nat.le_of_ble_eq_true rfl) ?_
        exact W.iret (v := isum (fun i => if itS st i 0 = p0 then 1 else 0) (min k (nN st))) hx hb hr (fun t99 ht99 hW99 => ⟨⟨isum (fun i => if itS st i 0 = p0 then 1 else 0) (min k (nN st)), Mw, rfl, ⟨by rw [show min k (nN st) = nN st by have := hV.1.2; omega], rfl⟩, by rw [ht99]; exact hP, hI⟩, hS.F ht99⟩) hS.2.2 dX4_instrumentsOfTube_51
      · skip
        have hk3 : k < 6 := Nat.lt_of_not_le (fun q => c1 (nI_le (a := 6) q (by omega)))
        refine lv_aload_n hx hb dX4_instrumentsOfTube_21 rfl (lv_at hl 3 rfl) ?_
        refine lv_iload hx hb dX4_instrumentsOfTube_22 (lv_at hl 5 rfl) ?_
        refine m_aldq hx hb hK 4 (hP _ _ h_IA) rfl (vp_in_nI (by omega) (by omega)) dX4_instrumentsOfTube_24 ?_
        rw [nI_clamp (show k < 2 ^ 31 by omega)]
        rcases Nat.lt_or_ge k (nN st) with hj9 | hj9
        · rw [qf_p hj9]
          have hT9 := hV.tb hj9
          have hn9 := hV.rn hj9
          have hve := hC.ne (ok8 hj9) (ok9 hj9) (by omega)
          have hvb := hC.ne (ok8 hj9) (ok4 hT9) (by omega)
          have heb := hC.ne (ok9 hj9) (ok4 hT9) (by omega)
          have h_I : Mw (ad 5 k) = some (.inr (0, [.int (itS st k 0), .ref (ad 3 (tbN st k)), .int (itS st k 1), .int (itS st k 2), .ref (ad 6 k), .ref (ad 7 k), .int (itS st k 3), .int (itS st k 4), .int (itS st k 5), .int (itS st k 6), .int (itS st k 7), .int (itS st k 8), .int (itS st k 9), .int (itS st k 10), .int (itS st k 11)])) := hC.1 5 _ (ok5 hj9)
          have h_S : Mw (ad 6 k) = some (.inr (2, [.ref (ad 3 (tbN st k)), .int (itS st k 12), .int (itS st k 13), .int (itS st k 14), .int (itS st k 15)])) := hC.1 6 _ (ok6 hj9)
          have h_R : Mw (ad 7 k) = some (.inr (1, [.ref (ad 8 k), .ref (ad 9 k), .int (nI (rnS st k))])) := hC.1 7 _ (ok7 hj9)
          have h_V : Mw (ad 8 k) = some (.inl (G.2.1 0, 8, .inl (rvS st k))) := hC.1 8 _ (ok8 hj9)
          have h_E : Mw (ad 9 k) = some (.inl (G.2.1 0, 8, .inl (reS st k))) := hC.1 9 _ (ok9 hj9)
          have h_T : Mw (ad 3 (tbN st k)) = some (.inr (3, [.ref (ad 4 (tbN st k)), .int (usS st (tbN st k))])) := hC.1 3 _ (ok3 hT9)
          have h_B : Mw (ad 4 (tbN st k)) = some (.inl (G.2.1 0, 20, .inl (boS st (tbN st k)))) := hC.1 4 _ (ok4 hT9)
          refine lv_astore (lv' := [(6, .ref (ad 5 k)), (0, .ref (ad 0 0)), (1, .int p0), (2, .int (isum (fun i => if itS st i 0 = p0 then 1 else 0) (min k (nN st)))), (3, .ref (ad 2 0)), (4, .int 6), (5, .int (nI k))]) hx hb dX4_instrumentsOfTube_25 hl (by decide) rfl (fun ls hl => ?_)
          refine lv_aload hx hb dX4_instrumentsOfTube_27 (lv_at hl 0 rfl) ?_
          refine lv_ifnull hx hb dX4_instrumentsOfTube_29 ?_
          refine lv_aload hx hb dX4_instrumentsOfTube_32 (lv_at hl 0 rfl) ?_
          refine m_getN (ci := 0) (v := .int (itS st k 0)) (C := RX0) (T := TX0) (N := 15) hx hb hts i_X0 hown hK (hP _ _ h_I) rfl 0 (by decide) (va_Nw.use rfl (hG.2.1.2.1 ("Meniscus", 282, "Meniscus$Instrument", "tubeNumber", "I", "Meniscus") (by decide +kernel))) (fun _ h9 => h9) rfl dX4_instrumentsOfTube_34 ?_
          refine lv_iload_n hx hb dX4_instrumentsOfTube_37 rfl (lv_at hl 2 rfl) ?_
          refine lv_icmp_ne (tgt := 44) hx hb dX4_instrumentsOfTube_38 (by decide) (fun c2 => ?_) (fun c2 => ?_)
          · skip
            refine lv_iinc (v := (nI k) + 1) (lv' := [(5, .int ((nI k) + 1)), (6, .ref (ad 5 k)), (0, .ref (ad 0 0)), (1, .int p0), (2, .int (isum (fun i => if itS st i 0 = p0 then 1 else 0) (min k (nN st)))), (3, .ref (ad 2 0)), (4, .int 6)]) hx hb dX4_instrumentsOfTube_44 hl (k := 6) rfl rfl (by decide) rfl (fun ls hl => ?_)
            refine lv_goto (tgt := 14) hx hb dX4_instrumentsOfTube_47 (by decide) ?_
            have e_5 : (nI k) + 1 = nI (k + 1) := nI_1 k
            rw [e_5] at hl
            have e_2 : isum (fun i => if itS st i 0 = p0 then 1 else 0) (min k (nN st)) = isum (fun i => if itS st i 0 = p0 then 1 else 0) (min (k + 1) (nN st)) := by rw [is_p _ hj9]; simp only [if_neg c2, Int32.add_zero]
            rw [e_2] at hl
            exact ih_loop (k + 1) (by omega) (by omega) H locs ls hP hI hS (lv_sub hl [2, 3, 4, 5, 6, 0] rfl)
          · skip
            refine lv_iinc (v := (isum (fun i => if itS st i 0 = p0 then 1 else 0) (min k (nN st))) + 1) (lv' := [(2, .int ((isum (fun i => if itS st i 0 = p0 then 1 else 0) (min k (nN st))) + 1)), (6, .ref (ad 5 k)), (0, .ref (ad 0 0)), (1, .int p0), (3, .ref (ad 2 0)), (4, .int 6), (5, .int (nI k))]) hx hb dX4_instrumentsOfTube_41 hl (k := 3) rfl rfl (by decide) rfl (fun ls hl => ?_)
            refine lv_iinc (v := (nI k) + 1) (lv' := [(5, .int ((nI k) + 1)), (2, .int ((isum (fun i => if itS st i 0 = p0 then 1 else 0) (min k (nN st))) + 1)), (6, .ref (ad 5 k)), (0, .ref (ad 0 0)), (1, .int p0), (3, .ref (ad 2 0)), (4, .int 6)]) hx hb dX4_instrumentsOfTube_44 hl (k := 6) rfl rfl (by decide) rfl (fun ls hl => ?_)
            refine lv_goto (tgt := 14) hx hb dX4_instrumentsOfTube_47 (by decide) ?_
            have e_5 : (nI k) + 1 = nI (k + 1) := nI_1 k
            rw [e_5] at hl
            have e_2 : (isum (fun i => if itS st i 0 = p0 then 1 else 0) (min k (nN st))) + 1 = isum (fun i => if itS st i 0 = p0 then 1 else 0) (min (k + 1) (nN st)) := by rw [is_p _ hj9]; simp only [if_pos c2]
            rw [e_2] at hl
            exact ih_loop (k + 1) (by omega) (by omega) H locs ls hP hI hS (lv_sub hl [3, 4, 1, 5, 6, 0] rfl)
        · rw [qf_n hj9]
          refine lv_astoreN (lv' := [(6, .null), (0, .ref (ad 0 0)), (1, .int p0), (2, .int (isum (fun i => if itS st i 0 = p0 then 1 else 0) (min k (nN st)))), (3, .ref (ad 2 0)), (4, .int 6), (5, .int (nI k))]) hx hb dX4_instrumentsOfTube_25 hl (by decide) rfl (fun ls hl => ?_)
          refine lv_aloadN hx hb dX4_instrumentsOfTube_27 (lv_at hl 0 rfl) ?_
          refine lv_ifnullN (tgt := 44) hx hb dX4_instrumentsOfTube_29 (by decide) ?_
          refine lv_iinc (v := (nI k) + 1) (lv' := [(5, .int ((nI k) + 1)), (6, .null), (0, .ref (ad 0 0)), (1, .int p0), (2, .int (isum (fun i => if itS st i 0 = p0 then 1 else 0) (min k (nN st)))), (3, .ref (ad 2 0)), (4, .int 6)]) hx hb dX4_instrumentsOfTube_44 hl (k := 6) rfl rfl (by decide) rfl (fun ls hl => ?_)
          refine lv_goto (tgt := 14) hx hb dX4_instrumentsOfTube_47 (by decide) ?_
          have e_5 : (nI k) + 1 = nI (k + 1) := nI_1 k
          rw [e_5] at hl
          have e_2 : isum (fun i => if itS st i 0 = p0 then 1 else 0) (min k (nN st)) = isum (fun i => if itS st i 0 = p0 then 1 else 0) (min (k + 1) (nN st)) := (is_n _ hj9).symm
          rw [e_2] at hl
          exact ih_loop (k + 1) (by omega) (by omega) H locs ls hP hI hS (lv_sub hl [2, 3, 4, 5, 6, 0] rfl)
  exact loop (6 + 1 - 0) 0 (by omega) (by omega) _ _ _ hP hI hS (lv_sub hl [4, 5, 3, 2, 1, 0] rfl)

set_option maxHeartbeats 4000000 in
set_option maxRecDepth 100000 in
theorem c_X4_isSound (l : Launch) (G : mg) (A : Nat → Prop) (Mw : mw) (st : St) (ad : adr) (hC : CS G st ad Mw) (hV : Inv st) : Met l yX4_isSound wsX4_isSound ({ frames := 2, cells := 0, slots := 0, locals := 40 }) (va_Pc [.ref (ad 0 0)] (mB G A Mw)) (va_Qi (fun r Mw1 => r = (1) ∧ Mw1 = Mw) (mE G A) A) 0 0 A := by
  refine Met.ofW (cc := cX4_isSound) (maxL := 6) (ret := (some .boolean)) (by decide) rfl ?_
  intro p e s m args below meth c s₁ B hml hv
  obtain ⟨rfl, hG, hP, hI, hA⟩ := hv
  have hx := B.exec
  have hb := B.bytes
  have hr := B.returns
  have hts := atoms_spec (ws := wsX4_isSound) B.pre
  have hown : s.vm.findClass RX4 = some m.cls := findClass_of_methodNamed B.named
  have hlocks := B.notSynchronized
  have hK := hG.K
  have i_X0 : ∀ w ∈ wsX00, w ∈ wsX4_isSound := by decide +kernel
  have i_X4 : ∀ w ∈ wsX40, w ∈ wsX4_isSound := by decide +kernel
  have hS : va_S A s.heap s.heap [] := va_S.rf
  have hl := lv_entry ([.ref (ad 0 0)]) (n := 6) (Nat.le_of_ble_eq_true rfl)
  rw [lg_entry_eq]
  generalize (lg_sl ([.ref (ad 0 0)]) ++ List.replicate (6 - (lg_sl ([.ref (ad 0 0)])).length) Slot.unset).toArray = ls at hl ⊢
  have hl : lv_has ls 6 [(0, .ref (ad 0 0))] := hl
  have hP : mP G.1 Mw s.heap := hP
  have h_X : Mw (ad 0 0) = some (.inr (4, [.ref (ad 1 0), .ref (ad 2 0), .int (nI (nT st)), .int (nI (nN st)), .int (gS st 0), .int (gS st 1), .int (gS st 2), .int (gS st 3), .int (gS st 4)])) := hC.1 0 0 (ok0 st)
  have h_TA : Mw (ad 1 0) = some (.inl (G.2.1 3, 8, .inr (.inr (.inr (.inr (qf (nT st) (ad 3))))))) := hC.1 1 0 (ok1 st)
  have h_IA : Mw (ad 2 0) = some (.inl (G.2.1 4, 6, .inr (.inr (.inr (.inr (qf (nN st) (ad 5))))))) := hC.1 2 0 (ok2 st)
  have hta9 := hC.ne (ok1 st) (ok2 st) (by omega)
  refine lv_aload_n hx hb dX4_isSound_0 rfl (lv_at hl 0 rfl) ?_
  refine m_get (ci := 4) (v := .int (gS st 2)) (C := RX4) (T := TX4) (N := 9) hx hb hts i_X4 hown hK (hP _ _ h_X) rfl 6 (by decide) (hts (.fieldLink RX4 109 "Meniscus" "stock" "I") (by decide +kernel)) (fun _ h9 => h9) rfl dX4_isSound_1 ?_
  refine lv_aload_n hx hb dX4_isSound_4 rfl (lv_at hl 0 rfl) ?_
  refine m_get (ci := 4) (v := .int (gS st 3)) (C := RX4) (T := TX4) (N := 9) hx hb hts i_X4 hown hK (hP _ _ h_X) rfl 7 (by decide) (hts (.fieldLink RX4 142 "Meniscus" "spilt" "I") (by decide +kernel)) (fun _ h9 => h9) rfl dX4_isSound_5 ?_
  refine lv_iadd hx hb dX4_isSound_8 ?_
  refine lv_istore_n (lv' := [(1, .int ((gS st 2) + (gS st 3))), (0, .ref (ad 0 0))]) hx hb dX4_isSound_9 rfl hl (by decide) rfl (fun ls hl => ?_)
  refine lv_aload_n hx hb dX4_isSound_10 rfl (lv_at hl 1 rfl) ?_
  refine m_get (ci := 4) (v := .ref (ad 2 0)) (C := RX4) (T := TX4) (N := 9) hx hb hts i_X4 hown hK (hP _ _ h_X) rfl 1 (by decide) (hts (.fieldLink RX4 17 "Meniscus" "instruments" "[LMeniscus$Instrument;") (by decide +kernel)) (fun _ h9 => h9) rfl dX4_isSound_11 ?_
  refine lv_astore_n (lv' := [(2, .ref (ad 2 0)), (1, .int ((gS st 2) + (gS st 3))), (0, .ref (ad 0 0))]) hx hb dX4_isSound_14 rfl hl (by decide) rfl (fun ls hl => ?_)
  refine lv_aload_n hx hb dX4_isSound_15 rfl (lv_at hl 0 rfl) ?_
  refine m_alen (v := 6) hx hb hK 4 (hP _ _ h_IA) rfl rfl dX4_isSound_16 ?_
  refine lv_istore_n (lv' := [(3, .int 6), (2, .ref (ad 2 0)), (1, .int ((gS st 2) + (gS st 3))), (0, .ref (ad 0 0))]) hx hb dX4_isSound_17 rfl hl (by decide) rfl (fun ls hl => ?_)
  refine lv_iconst (v := 0) hx hb dX4_isSound_18 (by decide) ?_
  refine lv_istore (lv' := [(4, .int 0), (3, .int 6), (2, .ref (ad 2 0)), (1, .int ((gS st 2) + (gS st 3))), (0, .ref (ad 0 0))]) hx hb dX4_isSound_19 hl (by decide) rfl (fun ls hl => ?_)
  have loop : ∀ (n k : Nat), k ≤ 6 → k + n = 6 + 1 → ∀ (H : Heap) (locs : List Loc) (ls : Array Slot), mP G.1 (Mw) H → mI A (Mw) → va_S A s.heap H locs → lv_has ls 6 [(0, .ref (ad 0 0)), (1, .int (gS st 2 + gS st 3 + hgS st (min k (nN st)))), (2, .ref (ad 2 0)), (3, .int 6), (4, .int (nI k))] → W p l e ({ frames := 2, cells := 0, slots := 0, locals := 40 }) s m ([.ref (ad 0 0)] : List Value).toArray below meth c H locs 0 0 (MQ below (va_Qi (fun r Mw1 => r = (1) ∧ Mw1 = Mw) (mE G A) A) ([.ref (ad 0 0)] : List Value).toArray s 0 0 A) (F0 m 21 ls []) := by
    intro n
    induction n with
    | zero => intro k hk1 hk2; omega
    | succ n ih_loop =>
      intro k hk1 hk2 H locs ls hP hI hS hl
      refine lv_iload hx hb dX4_isSound_21 (lv_at hl 4 rfl) ?_
      refine lv_iload_n hx hb dX4_isSound_23 rfl (lv_at hl 3 rfl) ?_
      refine lv_icmp_ge (tgt := 78) hx hb dX4_isSound_24 (by decide) (fun c1 => ?_) (fun c1 => ?_)
      · skip
        have hk3 : 6 ≤ k := (nI_leI (a := 6) (b := k) (by omega) (by omega)).mp c1
        refine lv_iload_n hx hb dX4_isSound_78 rfl (lv_at hl 1 rfl) ?_
        refine lv_aload_n hx hb dX4_isSound_79 rfl (lv_at hl 0 rfl) ?_
        refine m_get (ci := 4) (v := .int (gS st 4)) (C := RX4) (T := TX4) (N := 9) hx hb hts i_X4 hown hK (hP _ _ h_X) rfl 8 (by decide) (hts (.fieldLink RX4 106 "Meniscus" "bought" "I") (by decide +kernel)) (fun _ h9 => h9) rfl dX4_isSound_80 ?_
        refine lv_icmp_ne (tgt := 90) hx hb dX4_isSound_83 (by decide) (fun c2 => absurd c2 (fun q9 => q9 (by have h8 := hV.2.2.2.2; rw [show min k (nN st) = nN st by have := hV.1.2; omega]; exact h8))) (fun c2 => ?_)
        refine lv_iconst (v := 1) hx hb dX4_isSound_86 (by decide) ?_
        refine lv_goto (tgt := 91) hx hb dX4_isSound_87 (by decide) ?_
        refine W.widen (k := 0) (n := 0) (Nat.le_of_ble_eq_true rfl) (Nat.le_of_ble_eq_true rfl) ?_
        exact W.zret (v := 1) hx hb hr rfl (fun t99 ht99 hW99 => ⟨⟨1, Mw, rfl, ⟨rfl, rfl⟩, by rw [ht99]; exact hP, hI⟩, hS.F ht99⟩) hS.2.2 dX4_isSound_91
      · skip
        have hk3 : k < 6 := Nat.lt_of_not_le (fun q => c1 (nI_le (a := 6) q (by omega)))
        refine lv_aload_n hx hb dX4_isSound_27 rfl (lv_at hl 2 rfl) ?_
        refine lv_iload hx hb dX4_isSound_28 (lv_at hl 4 rfl) ?_
        refine m_aldq hx hb hK 4 (hP _ _ h_IA) rfl (vp_in_nI (by omega) (by omega)) dX4_isSound_30 ?_
        rw [nI_clamp (show k < 2 ^ 31 by omega)]
        rcases Nat.lt_or_ge k (nN st) with hj9 | hj9
        · rw [qf_p hj9]
          have hT9 := hV.tb hj9
          have hn9 := hV.rn hj9
          have hve := hC.ne (ok8 hj9) (ok9 hj9) (by omega)
          have hvb := hC.ne (ok8 hj9) (ok4 hT9) (by omega)
          have heb := hC.ne (ok9 hj9) (ok4 hT9) (by omega)
          have h_I : Mw (ad 5 k) = some (.inr (0, [.int (itS st k 0), .ref (ad 3 (tbN st k)), .int (itS st k 1), .int (itS st k 2), .ref (ad 6 k), .ref (ad 7 k), .int (itS st k 3), .int (itS st k 4), .int (itS st k 5), .int (itS st k 6), .int (itS st k 7), .int (itS st k 8), .int (itS st k 9), .int (itS st k 10), .int (itS st k 11)])) := hC.1 5 _ (ok5 hj9)
          have h_S : Mw (ad 6 k) = some (.inr (2, [.ref (ad 3 (tbN st k)), .int (itS st k 12), .int (itS st k 13), .int (itS st k 14), .int (itS st k 15)])) := hC.1 6 _ (ok6 hj9)
          have h_R : Mw (ad 7 k) = some (.inr (1, [.ref (ad 8 k), .ref (ad 9 k), .int (nI (rnS st k))])) := hC.1 7 _ (ok7 hj9)
          have h_V : Mw (ad 8 k) = some (.inl (G.2.1 0, 8, .inl (rvS st k))) := hC.1 8 _ (ok8 hj9)
          have h_E : Mw (ad 9 k) = some (.inl (G.2.1 0, 8, .inl (reS st k))) := hC.1 9 _ (ok9 hj9)
          have h_T : Mw (ad 3 (tbN st k)) = some (.inr (3, [.ref (ad 4 (tbN st k)), .int (usS st (tbN st k))])) := hC.1 3 _ (ok3 hT9)
          have h_B : Mw (ad 4 (tbN st k)) = some (.inl (G.2.1 0, 20, .inl (boS st (tbN st k)))) := hC.1 4 _ (ok4 hT9)
          refine lv_astore (lv' := [(5, .ref (ad 5 k)), (0, .ref (ad 0 0)), (1, .int (gS st 2 + gS st 3 + hgS st (min k (nN st)))), (2, .ref (ad 2 0)), (3, .int 6), (4, .int (nI k))]) hx hb dX4_isSound_31 hl (by decide) rfl (fun ls hl => ?_)
          refine lv_aload hx hb dX4_isSound_33 (lv_at hl 0 rfl) ?_
          refine lv_ifnonnull (tgt := 41) hx hb dX4_isSound_35 (by decide) ?_
          refine lv_iload_n hx hb dX4_isSound_41 rfl (lv_at hl 2 rfl) ?_
          refine lv_aload hx hb dX4_isSound_42 (lv_at hl 0 rfl) ?_
          refine m_calli (va_runV (As := []) (rest := [.int (gS st 2 + gS st 3 + hgS st (min k (nN st)))]) ⟨hx, hb, hml, hown, hts⟩ (c_X0_mercuryInside l G A Mw  h_I) (cwV 0 hts gX4_isSound_X0_mercuryInside rfl rfl rfl (by decide +kernel) ⟨Nat.le_of_ble_eq_true rfl, Nat.le_of_ble_eq_true rfl⟩) (mPreV hG hS hP hI hA (hP _ _ h_I) (r := (RX0, TX0, 15)) rfl) rfl rfl hl.1 rfl (lv_room (Nat.le_of_ble_eq_true rfl)) dX4_isSound_44 ⟨Nat.le_of_ble_eq_true rfl, Nat.le_of_ble_eq_true rfl⟩) hS (fun r3 Mw1 H locs hp_r3 hP hI hS => ?_)
          obtain ⟨hp_r3, hm9⟩ := hp_r3
          subst Mw1
          refine lv_iadd hx hb dX4_isSound_47 ?_
          refine lv_istore_n (lv' := [(1, .int ((gS st 2 + gS st 3 + hgS st (min k (nN st))) + r3)), (5, .ref (ad 5 k)), (0, .ref (ad 0 0)), (2, .ref (ad 2 0)), (3, .int 6), (4, .int (nI k))]) hx hb dX4_isSound_48 rfl hl (by decide) rfl (fun ls hl => ?_)
          refine lv_aload hx hb dX4_isSound_49 (lv_at hl 1 rfl) ?_
          refine m_calli (va_runV (As := []) (rest := []) ⟨hx, hb, hml, hown, hts⟩ (c_X0_isInBounds l G A Mw  h_I h_R) (cwV 0 hts gX4_isSound_X0_isInBounds rfl rfl rfl (by decide +kernel) ⟨Nat.le_of_ble_eq_true rfl, Nat.le_of_ble_eq_true rfl⟩) (mPreV hG hS hP hI hA (hP _ _ h_I) (r := (RX0, TX0, 15)) rfl) rfl rfl hl.1 rfl (lv_room (Nat.le_of_ble_eq_true rfl)) dX4_isSound_51 ⟨Nat.le_of_ble_eq_true rfl, Nat.le_of_ble_eq_true rfl⟩) hS (fun r4 Mw1 H locs hp_r4 hP hI hS => ?_)
          obtain ⟨hp_r4, hm9⟩ := hp_r4
          subst Mw1
          refine lv_if_eq (tgt := 70) hx hb dX4_isSound_54 (by decide) (fun c5 => absurd c5 (by rw [hp_r4, hV.bnd hj9]; decide)) (fun c5 => ?_)
          refine lv_aload_n hx hb dX4_isSound_57 rfl (lv_at hl 2 rfl) ?_
          refine lv_aload hx hb dX4_isSound_58 (lv_at hl 1 rfl) ?_
          refine m_getN (ci := 0) (v := .int (itS st k 0)) (C := RX0) (T := TX0) (N := 15) hx hb hts i_X0 hown hK (hP _ _ h_I) rfl 0 (by decide) (va_Nw.use rfl (hG.2.1.2.1 ("Meniscus", 282, "Meniscus$Instrument", "tubeNumber", "I", "Meniscus") (by decide +kernel))) (fun _ h9 => h9) rfl dX4_isSound_60 ?_
          refine m_calli (va_runV (As := [.int (itS st k 0)]) (rest := []) ⟨hx, hb, hml, hown, hts⟩ (c_X4_instrumentsOfTube l G A Mw  (itS st k 0) st ad hC hV) (cwV 1 hts gX4_isSound_X4_instrumentsOfTube rfl rfl rfl (by decide +kernel) ⟨Nat.le_of_ble_eq_true rfl, Nat.le_of_ble_eq_true rfl⟩) (mPreV hG hS hP hI hA (hP _ _ h_X) (r := (RX4, TX4, 9)) rfl) rfl rfl hl.1 rfl (lv_room (Nat.le_of_ble_eq_true rfl)) dX4_isSound_63 ⟨Nat.le_of_ble_eq_true rfl, Nat.le_of_ble_eq_true rfl⟩) hS (fun r6 Mw1 H locs hp_r6 hP hI hS => ?_)
          obtain ⟨hp_r6, hm9⟩ := hp_r6
          subst Mw1
          refine lv_iconst (v := 1) hx hb dX4_isSound_66 (by decide) ?_
          refine lv_icmp_le (tgt := 72) hx hb dX4_isSound_67 (by decide) (fun c7 => ?_) (fun c7 => absurd c7 (by rw [hp_r6]; exact fun q9 => q9 (hV.one k hj9)))
          refine lv_iinc (v := (nI k) + 1) (lv' := [(4, .int ((nI k) + 1)), (1, .int ((gS st 2 + gS st 3 + hgS st (min k (nN st))) + r3)), (5, .ref (ad 5 k)), (0, .ref (ad 0 0)), (2, .ref (ad 2 0)), (3, .int 6)]) hx hb dX4_isSound_72 hl (k := 5) rfl rfl (by decide) rfl (fun ls hl => ?_)
          refine lv_goto (tgt := 21) hx hb dX4_isSound_75 (by decide) ?_
          have e_4 : (nI k) + 1 = nI (k + 1) := nI_1 k
          rw [e_4] at hl
          have e_1 : (gS st 2 + gS st 3 + hgS st (min k (nN st))) + r3 = gS st 2 + gS st 3 + hgS st (min (k + 1) (nN st)) := by rw [hp_r3]; unfold hgS; rw [is_p _ hj9]; exact Int32.add_assoc _ _ _
          rw [e_1] at hl
          exact ih_loop (k + 1) (by omega) (by omega) H locs ls hP hI hS (lv_sub hl [3, 1, 4, 5, 0] rfl)
        · rw [qf_n hj9]
          refine lv_astoreN (lv' := [(5, .null), (0, .ref (ad 0 0)), (1, .int (gS st 2 + gS st 3 + hgS st (min k (nN st)))), (2, .ref (ad 2 0)), (3, .int 6), (4, .int (nI k))]) hx hb dX4_isSound_31 hl (by decide) rfl (fun ls hl => ?_)
          refine lv_aloadN hx hb dX4_isSound_33 (lv_at hl 0 rfl) ?_
          refine lv_ifnonnullN hx hb dX4_isSound_35 ?_
          refine lv_goto (tgt := 72) hx hb dX4_isSound_38 (by decide) ?_
          refine lv_iinc (v := (nI k) + 1) (lv' := [(4, .int ((nI k) + 1)), (5, .null), (0, .ref (ad 0 0)), (1, .int (gS st 2 + gS st 3 + hgS st (min k (nN st)))), (2, .ref (ad 2 0)), (3, .int 6)]) hx hb dX4_isSound_72 hl (k := 5) rfl rfl (by decide) rfl (fun ls hl => ?_)
          refine lv_goto (tgt := 21) hx hb dX4_isSound_75 (by decide) ?_
          have e_4 : (nI k) + 1 = nI (k + 1) := nI_1 k
          rw [e_4] at hl
          have e_1 : gS st 2 + gS st 3 + hgS st (min k (nN st)) = gS st 2 + gS st 3 + hgS st (min (k + 1) (nN st)) := by unfold hgS; rw [is_n _ hj9]
          rw [e_1] at hl
          exact ih_loop (k + 1) (by omega) (by omega) H locs ls hP hI hS (lv_sub hl [2, 3, 4, 5, 0] rfl)
  have e0_1 : ((gS st 2) + (gS st 3) : Int32) = gS st 2 + gS st 3 + hgS st (min 0 (nN st)) := (Int32.add_zero _).symm
  rw [show lv_has ls 6 [(4, .int 0), (3, .int 6), (2, .ref (ad 2 0)), (1, .int ((gS st 2) + (gS st 3))), (0, .ref (ad 0 0))] = lv_has ls 6 [(4, .int 0), (3, .int 6), (2, .ref (ad 2 0)), (1, .int (gS st 2 + gS st 3 + hgS st (min 0 (nN st)))), (0, .ref (ad 0 0))] from by rw [← e0_1]] at hl
  exact loop (6 + 1 - 0) 0 (by omega) (by omega) _ _ _ hP hI hS (lv_sub hl [4, 3, 2, 1, 0] rfl)
end
section
theorem nI_ltn {n N : Nat} (hn : n ≤ N) (hN : N < 100) (h : nI n < nI N) : n < N := by
  rcases Nat.lt_or_ge n N with q | q
  · exact q
  · have e : n = N := by omega
    subst e
    exact absurd h (i_nlt (i_le (fun q9 => i_nlt (nI_le (Nat.le_refl n) (by omega)) q9)))
set_option maxHeartbeats 4000000 in
set_option maxRecDepth 100000 in
theorem c_X4_draw (l : Launch) (G : mg) (A : Nat → Prop) (Mw : mw) (hl9 : l.stackTraces = false) (st : St) (ad : adr) (p0 p1 : Int32) (hC : CS G st ad Mw) (hV : Inv st) : vx_Met l yX4_draw wsX4_draw ({ frames := 7, cells := 4, slots := 34, locals := 104 }) (va_Pc [.ref (ad 0 0), .int p0, .int p1] (mB G A Mw)) (va_Qi (fun r Mw1 => ∃ (s1 : St) (ad1 : adr), m_draw st p0 p1 = (0, r, s1) ∧ CS G s1 ad1 Mw1 ∧ ad1 0 0 = ad 0 0) (mE G A) A) (xX (fun E => exc ["java/lang/IllegalArgumentException", "java/lang/IllegalStateException"] (m_draw st p0 p1) E) G A Mw) 4 34 A := by
  refine vx_ofW (cc := cX4_draw) (maxL := 4) (ret := (some .int)) (by decide) rfl ?_
  intro p e s m args below meth c s₁ B hml hxt hv
  obtain ⟨rfl, hG, hP, hI, hA⟩ := hv
  have hx := B.exec
  have hb := B.bytes
  have hr := B.returns
  have hts := atoms_spec (ws := wsX4_draw) B.pre
  have hown : s.vm.findClass RX4 = some m.cls := findClass_of_methodNamed B.named
  have hlocks := B.notSynchronized
  have hK := hG.K
  have i_X3 : ∀ w ∈ wsX30, w ∈ wsX4_draw := by decide +kernel
  have i_X4 : ∀ w ∈ wsX40, w ∈ wsX4_draw := by decide +kernel
  have hS : va_S A s.heap s.heap [] := va_S.rf
  have hl := lv_entry ([.ref (ad 0 0), .int p0, .int p1]) (n := 4) (Nat.le_of_ble_eq_true rfl)
  rw [lg_entry_eq]
  generalize (lg_sl ([.ref (ad 0 0), .int p0, .int p1]) ++ List.replicate (4 - (lg_sl ([.ref (ad 0 0), .int p0, .int p1])).length) Slot.unset).toArray = ls at hl ⊢
  have hl : lv_has ls 4 [(0, .ref (ad 0 0)), (1, .int p0), (2, .int p1)] := hl
  have hP : mP G.1 Mw s.heap := hP
  have h_X : Mw (ad 0 0) = some (.inr (4, [.ref (ad 1 0), .ref (ad 2 0), .int (nI (nT st)), .int (nI (nN st)), .int (gS st 0), .int (gS st 1), .int (gS st 2), .int (gS st 3), .int (gS st 4)])) := hC.1 0 0 (ok0 st)
  have h_TA : Mw (ad 1 0) = some (.inl (G.2.1 3, 8, .inr (.inr (.inr (.inr (qf (nT st) (ad 3))))))) := hC.1 1 0 (ok1 st)
  have h_IA : Mw (ad 2 0) = some (.inl (G.2.1 4, 6, .inr (.inr (.inr (.inr (qf (nN st) (ad 5))))))) := hC.1 2 0 (ok2 st)
  have hta9 := hC.ne (ok1 st) (ok2 st) (by omega)
  refine lv_iload_n hx hb dX4_draw_0 rfl (lv_at hl 1 rfl) ?_
  refine lv_iconst (v := 1) hx hb dX4_draw_1 (by decide) ?_
  refine lv_bipush (v := (40)) hx hb dX4_draw_2 (by decide) ?_
  refine mx_callv (vx_runS (As := [.int p0, .int 1, .int 40]) (rest := []) ⟨hx, hb, hml, hown, hts⟩ (c_X4_demandRange l G A Mw hl9  p0 1 40) (va_cwS 3 hts gX4_draw_X4_demandRange rfl rfl rfl (by decide +kernel) ⟨Nat.le_of_ble_eq_true rfl, Nat.le_of_ble_eq_true rfl⟩) (mPreS hG hS hP hI hA) rfl rfl hl.1 rfl (lv_room (Nat.le_of_ble_eq_true rfl)) dX4_draw_4 ⟨Nat.le_of_ble_eq_true rfl, Nat.le_of_ble_eq_true rfl⟩) hS (fun E9 ce9 q9 H locs hpx9 hP hI hS hc9 hv9 hcl9 => m_out (px := fun E => exc ["java/lang/IllegalArgumentException", "java/lang/IllegalStateException"] (m_draw st p0 p1) E) (fun x hx9 => absurd hx9 (fun q => hxt x q)) hlocks hP hI hS hc9 hv9 hcl9 ((by obtain ⟨hE9, hn9⟩ := hpx9; subst hE9; exact exc_of (by unfold m_draw; first | (rw [chk_n hn9]; done) | (rw [chk_n hn9]; rfl)) rfl)) (Nat.le_of_ble_eq_true rfl) (Nat.le_of_ble_eq_true rfl)) (fun Mw1 H locs hp_r1 hP hI hS => ?_)
  obtain ⟨hp_r1, hm9⟩ := hp_r1
  subst Mw1
  refine lv_iload_n hx hb dX4_draw_7 rfl (lv_at hl 2 rfl) ?_
  refine lv_bipush (v := (-2)) hx hb dX4_draw_8 (by decide) ?_
  refine lv_iconst (v := 2) hx hb dX4_draw_10 (by decide) ?_
  refine mx_callv (vx_runS (As := [.int p1, .int ((-2)), .int 2]) (rest := []) ⟨hx, hb, hml, hown, hts⟩ (c_X4_demandRange l G A Mw hl9  p1 (-2) 2) (va_cwS 3 hts gX4_draw_X4_demandRange rfl rfl rfl (by decide +kernel) ⟨Nat.le_of_ble_eq_true rfl, Nat.le_of_ble_eq_true rfl⟩) (mPreS hG hS hP hI hA) rfl rfl hl.1 rfl (lv_room (Nat.le_of_ble_eq_true rfl)) dX4_draw_11 ⟨Nat.le_of_ble_eq_true rfl, Nat.le_of_ble_eq_true rfl⟩) hS (fun E9 ce9 q9 H locs hpx9 hP hI hS hc9 hv9 hcl9 => m_out (px := fun E => exc ["java/lang/IllegalArgumentException", "java/lang/IllegalStateException"] (m_draw st p0 p1) E) (fun x hx9 => absurd hx9 (fun q => hxt x q)) hlocks hP hI hS hc9 hv9 hcl9 ((by obtain ⟨hE9, hn9⟩ := hpx9; subst hE9; exact exc_of (by unfold m_draw; first | (rw [chk_p hp_r1, chk_n hn9]; done) | (rw [chk_p hp_r1, chk_n hn9]; rfl)) rfl)) (Nat.le_of_ble_eq_true rfl) (Nat.le_of_ble_eq_true rfl)) (fun Mw1 H locs hp_r2 hP hI hS => ?_)
  obtain ⟨hp_r2, hm9⟩ := hp_r2
  subst Mw1
  refine lv_aload_n hx hb dX4_draw_14 rfl (lv_at hl 0 rfl) ?_
  refine m_get (ci := 4) (v := .int (nI (nT st))) (C := RX4) (T := TX4) (N := 9) hx hb hts i_X4 hown hK (hP _ _ h_X) rfl 2 (by decide) (hts (.fieldLink RX4 29 "Meniscus" "tubeCount" "I") (by decide +kernel)) (fun _ h9 => h9) rfl dX4_draw_15 ?_
  refine lv_aload_n hx hb dX4_draw_18 rfl (lv_at hl 0 rfl) ?_
  refine m_get (ci := 4) (v := .ref (ad 1 0)) (C := RX4) (T := TX4) (N := 9) hx hb hts i_X4 hown hK (hP _ _ h_X) rfl 0 (by decide) (hts (.fieldLink RX4 11 "Meniscus" "tubes" "[LMeniscus$Tube;") (by decide +kernel)) (fun _ h9 => h9) rfl dX4_draw_19 ?_
  refine m_alen (v := 8) hx hb hK 3 (hP _ _ h_TA) rfl rfl dX4_draw_22 ?_
  refine lv_icmp_lt (tgt := 36) hx hb dX4_draw_23 (by decide) (fun c3 => ?_) (fun c3 => ?_)
  · skip
    have hb_c3 : nT st < 8 := nI_ltn hV.1.1 (by decide) (show nI (nT st) < nI 8 from c3)
    refine lv_aload_n hx hb dX4_draw_36 rfl (lv_at hl 0 rfl) ?_
    refine m_get (ci := 4) (v := .int (nI (nT st))) (C := RX4) (T := TX4) (N := 9) hx hb hts i_X4 hown hK (hP _ _ h_X) rfl 2 (by decide) (hts (.fieldLink RX4 29 "Meniscus" "tubeCount" "I") (by decide +kernel)) (fun _ h9 => h9) rfl dX4_draw_37 ?_
    refine lv_istore_n (lv' := [(3, .int (nI (nT st))), (0, .ref (ad 0 0)), (1, .int p0), (2, .int p1)]) hx hb dX4_draw_40 rfl hl (by decide) rfl (fun ls hl => ?_)
    refine lv_aload_n hx hb dX4_draw_41 rfl (lv_at hl 1 rfl) ?_
    refine m_get (ci := 4) (v := .ref (ad 1 0)) (C := RX4) (T := TX4) (N := 9) hx hb hts i_X4 hown hK (hP _ _ h_X) rfl 0 (by decide) (hts (.fieldLink RX4 11 "Meniscus" "tubes" "[LMeniscus$Tube;") (by decide +kernel)) (fun _ h9 => h9) rfl dX4_draw_42 ?_
    refine lv_iload_n hx hb dX4_draw_45 rfl (lv_at hl 0 rfl) ?_
    refine m_new (ci := 3) (fs := [.null, .int 0]) (C := RX3) (T := TX3) (N := 2) hx hb hts i_X3 tyX3 tyX3_ok hown (hts (.classLink RX4 9 RX3) (by decide +kernel)) (hts (.instantiable RX3 2) (by decide +kernel)) (hts (.initialized RX3) (by decide +kernel)) hK hP hI hS hA rfl (fun j hj => by rcases (show j = 0 ∨ j = 1 by omega) with rfl | rfl <;> rfl) (Nat.le_of_ble_eq_true rfl) (Nat.le_of_ble_eq_true rfl) dX4_draw_46 (fun q4 H hn_q4 hP hI hS => ?_)
    have h_X := mu_x (e := .inr (3, [.null, .int 0])) h_X hn_q4
    have h_TA := mu_x (e := .inr (3, [.null, .int 0])) h_TA hn_q4
    have h_IA := mu_x (e := .inr (3, [.null, .int 0])) h_IA hn_q4
    have h_q4 : (mu Mw q4 (.inr (3, [.null, .int 0]))) q4 = some (.inr (3, [.null, .int 0])) := mu_s
    refine lv_dup hx hb dX4_draw_49 rfl ?_
    refine lv_iload_n hx hb dX4_draw_50 rfl (lv_at hl 2 rfl) ?_
    refine lv_iload_n hx hb dX4_draw_51 rfl (lv_at hl 3 rfl) ?_
    refine m_callv (va_runI (As := [.int p0, .int p1]) (rest := [.ref q4, .int (nI (nT st)), .ref (ad 1 0)]) ⟨hx, hb, hml, hown, hts⟩ (c_X3_init l G A (mu Mw q4 (.inr (3, [.null, .int 0])))  p0 p1 h_q4) (cwI 2 hts gX4_draw_X3_init rfl rfl rfl (hts (.initialized RX3) (by decide +kernel)) (hts (.methodLink RX4 39 yX3_init) (by decide +kernel)) (hts (.instanceMethod yX3_init) (by decide +kernel)) rfl (by decide +kernel) ⟨Nat.le_of_ble_eq_true rfl, Nat.le_of_ble_eq_true rfl⟩) (mPreS hG hS hP hI hA) rfl rfl hl.1 rfl (lv_room (Nat.le_of_ble_eq_true rfl)) dX4_draw_52 ⟨Nat.le_of_ble_eq_true rfl, Nat.le_of_ble_eq_true rfl⟩) hS (fun Mw1 H locs hp_r5 hP hI hS => ?_)
    obtain ⟨b0, hnb, hbt, hm9⟩ := hp_r5
    subst Mw1
    have hnb2 : (mu (mu Mw q4 (.inr (3, [.null, .int 0]))) q4 (.inr (3, [.ref b0, .int 0]))) b0 = none := (mu_n hbt).trans hnb
    have h_X := mu_k (e := .inr (3, [.ref b0, .int 0])) (kd_ne h_X h_q4 rfl) h_X
    have h_TA := mu_k (e := .inr (3, [.ref b0, .int 0])) (kd_ne h_TA h_q4 rfl) h_TA
    have h_IA := mu_k (e := .inr (3, [.ref b0, .int 0])) (kd_ne h_IA h_q4 rfl) h_IA
    have h_q4 : (mu (mu Mw q4 (.inr (3, [.null, .int 0]))) q4 (.inr (3, [.ref b0, .int 0]))) q4 = some (.inr (3, [.ref b0, .int 0])) := mu_s
    have h_X := mu_k (e := .inl (G.2.1 0, 20, .inl (dboU p0 p1 20))) (ne_none h_X hnb2) h_X
    have h_TA := mu_k (e := .inl (G.2.1 0, 20, .inl (dboU p0 p1 20))) (ne_none h_TA hnb2) h_TA
    have h_IA := mu_k (e := .inl (G.2.1 0, 20, .inl (dboU p0 p1 20))) (ne_none h_IA hnb2) h_IA
    have h_q4 := mu_k (e := .inl (G.2.1 0, 20, .inl (dboU p0 p1 20))) (ne_none h_q4 hnb2) h_q4
    have h_B : (mu (mu (mu Mw q4 (.inr (3, [.null, .int 0]))) q4 (.inr (3, [.ref b0, .int 0]))) b0 (.inl (G.2.1 0, 20, .inl (dboU p0 p1 20)))) b0 = some (.inl (G.2.1 0, 20, .inl (dboU p0 p1 20))) := mu_s
    refine m_astq hx hb hK hP hI hS 3 (r := (RX3, TX3, 2)) h_TA rfl h_q4 rfl (vp_in_nI (by assumption) (by omega)) dX4_draw_55 (fun H locs hP hI hS => ?_)
    have h_X := mu_k (e := .inl (G.2.1 3, 8, .inr (.inr (.inr (.inr (va_up (qf (nT st) (ad 3)) ((nI (nT st)).toNatClampNeg) (some q4))))))) (kd_ne h_X h_TA rfl) h_X
    have h_IA := mu_k (e := .inl (G.2.1 3, 8, .inr (.inr (.inr (.inr (va_up (qf (nT st) (ad 3)) ((nI (nT st)).toNatClampNeg) (some q4))))))) (Ne.symm hta9) h_IA
    have h_q4 := mu_k (e := .inl (G.2.1 3, 8, .inr (.inr (.inr (.inr (va_up (qf (nT st) (ad 3)) ((nI (nT st)).toNatClampNeg) (some q4))))))) (kd_ne h_q4 h_TA rfl) h_q4
    have h_B := mu_k (e := .inl (G.2.1 3, 8, .inr (.inr (.inr (.inr (va_up (qf (nT st) (ad 3)) ((nI (nT st)).toNatClampNeg) (some q4))))))) (kd_ne h_B h_TA rfl) h_B
    have h_TA : (mu (mu (mu (mu Mw q4 (.inr (3, [.null, .int 0]))) q4 (.inr (3, [.ref b0, .int 0]))) b0 (.inl (G.2.1 0, 20, .inl (dboU p0 p1 20)))) (ad 1 0) (.inl (G.2.1 3, 8, .inr (.inr (.inr (.inr (va_up (qf (nT st) (ad 3)) ((nI (nT st)).toNatClampNeg) (some q4)))))))) (ad 1 0) = some (.inl (G.2.1 3, 8, .inr (.inr (.inr (.inr (va_up (qf (nT st) (ad 3)) ((nI (nT st)).toNatClampNeg) (some q4))))))) := mu_s
    refine lv_aload_n hx hb dX4_draw_56 rfl (lv_at hl 1 rfl) ?_
    refine lv_dup hx hb dX4_draw_57 rfl ?_
    refine m_get (ci := 4) (v := .int (nI (nT st))) (C := RX4) (T := TX4) (N := 9) hx hb hts i_X4 hown hK (hP _ _ h_X) rfl 2 (by decide) (hts (.fieldLink RX4 29 "Meniscus" "tubeCount" "I") (by decide +kernel)) (fun _ h9 => h9) rfl dX4_draw_58 ?_
    refine lv_iconst (v := 1) hx hb dX4_draw_61 (by decide) ?_
    refine lv_iadd hx hb dX4_draw_62 ?_
    refine m_put (ci := 4) (v := .int ((nI (nT st)) + 1)) (ty := .int) (C := RX4) (T := TX4) (N := 9) hx hb hts i_X4 tyX4 tyX4_ok nmX4 hown hK hP hI hS h_X rfl 2 (by decide) (hts (.fieldLink RX4 29 "Meniscus" "tubeCount" "I") (by decide +kernel)) (fun _ h9 => h9) rfl (by decide +kernel) rfl rfl (Nat.le_of_ble_eq_true rfl) dX4_draw_63 (fun H locs hP hI hS => ?_)
    have hP : mP G.1 (mu (mu (mu (mu (mu Mw q4 (.inr (3, [.null, .int 0]))) q4 (.inr (3, [.ref b0, .int 0]))) b0 (.inl (G.2.1 0, 20, .inl (dboU p0 p1 20)))) (ad 1 0) (.inl (G.2.1 3, 8, .inr (.inr (.inr (.inr (va_up (qf (nT st) (ad 3)) ((nI (nT st)).toNatClampNeg) (some q4)))))))) (ad 0 0) (.inr (4, [.ref (ad 1 0), .ref (ad 2 0), .int ((nI (nT st)) + 1), .int (nI (nN st)), .int (gS st 0), .int (gS st 1), .int (gS st 2), .int (gS st 3), .int (gS st 4)]))) H := hP
    have hI : mI A (mu (mu (mu (mu (mu Mw q4 (.inr (3, [.null, .int 0]))) q4 (.inr (3, [.ref b0, .int 0]))) b0 (.inl (G.2.1 0, 20, .inl (dboU p0 p1 20)))) (ad 1 0) (.inl (G.2.1 3, 8, .inr (.inr (.inr (.inr (va_up (qf (nT st) (ad 3)) ((nI (nT st)).toNatClampNeg) (some q4)))))))) (ad 0 0) (.inr (4, [.ref (ad 1 0), .ref (ad 2 0), .int ((nI (nT st)) + 1), .int (nI (nN st)), .int (gS st 0), .int (gS st 1), .int (gS st 2), .int (gS st 3), .int (gS st 4)]))) := hI
    have h_TA := mu_k (e := .inr (4, [.ref (ad 1 0), .ref (ad 2 0), .int ((nI (nT st)) + 1), .int (nI (nN st)), .int (gS st 0), .int (gS st 1), .int (gS st 2), .int (gS st 3), .int (gS st 4)])) (kd_ne h_TA h_X rfl) h_TA
    have h_IA := mu_k (e := .inr (4, [.ref (ad 1 0), .ref (ad 2 0), .int ((nI (nT st)) + 1), .int (nI (nN st)), .int (gS st 0), .int (gS st 1), .int (gS st 2), .int (gS st 3), .int (gS st 4)])) (kd_ne h_IA h_X rfl) h_IA
    have h_q4 := mu_k (e := .inr (4, [.ref (ad 1 0), .ref (ad 2 0), .int ((nI (nT st)) + 1), .int (nI (nN st)), .int (gS st 0), .int (gS st 1), .int (gS st 2), .int (gS st 3), .int (gS st 4)])) (kd_ne h_q4 h_X rfl) h_q4
    have h_B := mu_k (e := .inr (4, [.ref (ad 1 0), .ref (ad 2 0), .int ((nI (nT st)) + 1), .int (nI (nN st)), .int (gS st 0), .int (gS st 1), .int (gS st 2), .int (gS st 3), .int (gS st 4)])) (kd_ne h_B h_X rfl) h_B
    have h_X : (mu (mu (mu (mu (mu Mw q4 (.inr (3, [.null, .int 0]))) q4 (.inr (3, [.ref b0, .int 0]))) b0 (.inl (G.2.1 0, 20, .inl (dboU p0 p1 20)))) (ad 1 0) (.inl (G.2.1 3, 8, .inr (.inr (.inr (.inr (va_up (qf (nT st) (ad 3)) ((nI (nT st)).toNatClampNeg) (some q4)))))))) (ad 0 0) (.inr (4, [.ref (ad 1 0), .ref (ad 2 0), .int ((nI (nT st)) + 1), .int (nI (nN st)), .int (gS st 0), .int (gS st 1), .int (gS st 2), .int (gS st 3), .int (gS st 4)]))) (ad 0 0) = some (.inr (4, [.ref (ad 1 0), .ref (ad 2 0), .int ((nI (nT st)) + 1), .int (nI (nN st)), .int (gS st 0), .int (gS st 1), .int (gS st 2), .int (gS st 3), .int (gS st 4)])) := mu_s
    refine lv_iload_n hx hb dX4_draw_66 rfl (lv_at hl 0 rfl) ?_
    refine W.widen (k := 4) (n := 34) (Nat.le_of_ble_eq_true rfl) (Nat.le_of_ble_eq_true rfl) ?_
    refine vx_ret ?_
    exact W.iret (v := nI (nT st)) hx hb hr (fun t99 ht99 hW99 => ⟨⟨nI (nT st), (mu (mu (mu (mu (mu Mw q4 (.inr (3, [.null, .int 0]))) q4 (.inr (3, [.ref b0, .int 0]))) b0 (.inl (G.2.1 0, 20, .inl (dboU p0 p1 20)))) (ad 1 0) (.inl (G.2.1 3, 8, .inr (.inr (.inr (.inr (va_up (qf (nT st) (ad 3)) ((nI (nT st)).toNatClampNeg) (some q4)))))))) (ad 0 0) (.inr (4, [.ref (ad 1 0), .ref (ad 2 0), .int ((nI (nT st)) + 1), .int (nI (nN st)), .int (gS st 0), .int (gS st 1), .int (gS st 2), .int (gS st 3), .int (gS st 4)]))), rfl, ⟨addT st p0 p1, adT ad (nT st) q4 b0, by unfold m_draw; first | (rw [chk_p hp_r1, chk_p hp_r2, chk_p hb_c3]; done) | (rw [chk_p hp_r1, chk_p hp_r2, chk_p hb_c3]; rfl), cs_addT hC hV hn_q4 (mu_none hnb).1 (Ne.symm (mu_none hnb).2) (h_X.trans (congrArg some (by rw [nI_1]))) (h_TA.trans (congrArg some (by rw [nI_clamp (show nT st < 2 ^ 31 by have := hV.1.1; omega)]))) h_q4 h_B (fun z h1 h2 h3 h4 => (mu_n h1).trans ((mu_n h2).trans ((mu_n h4).trans ((mu_n h3).trans ((mu_n h3).trans (rfl)))))), adT_o (Or.inl ⟨by decide, by decide⟩)⟩, by rw [ht99]; exact hP, hI⟩, hS.F ht99⟩) hS.2.2 dX4_draw_67
  · skip
    obtain ⟨sa9, hsa9⟩ := hG.2.1.2.2.2.2.2.1 (34, "no more tubes") (by decide +kernel)
    exact vx_throwS (text := "no more tubes") (names := ["java/lang/RuntimeException", "java/lang/Exception"]) hx hb hl9 hown (by decide +kernel) (by decide +kernel) (hts (.classLink RX4 32 "java/lang/IllegalStateException") (by decide +kernel)) (hts (.initialized "java/lang/IllegalStateException") (by decide +kernel)) hsa9 (m_hat hG (fun w h => hts w (List.mem_cons_of_mem _ (List.mem_append_left _ (List.mem_append_right _ h)))) (by decide +kernel) (by decide +kernel)) (by decide +kernel) hG.2.2.1 hG.2.2.2.1 hS (hl.1.trans hml.symm) dX4_draw_26 dX4_draw_29 dX4_draw_30 dX4_draw_32 dX4_draw_35 (fun x hx9 => absurd hx9 (fun q => hxt x q)) (Nat.le_of_ble_eq_true rfl) (Nat.le_of_ble_eq_true rfl) (Nat.le_of_ble_eq_true rfl) (Nat.le_of_ble_eq_true rfl) hlocks (fun t9 _ h92 h93 => m_thrown (px := fun E => exc ["java/lang/IllegalArgumentException", "java/lang/IllegalStateException"] (m_draw st p0 p1) E) (E := "java/lang/IllegalStateException") hP hI hS (exc_of (by unfold m_draw; first | (rw [chk_p hp_r1, chk_p hp_r2, chk_n (fun q9 => c3 (show nI (nT st) < nI 8 from nI_lt q9 (by omega)))]; done) | (rw [chk_p hp_r1, chk_p hp_r2, chk_n (fun q9 => c3 (show nI (nT st) < nI 8 from nI_lt q9 (by omega)))]; rfl)) rfl) t9 h92 h93) hS.2.2 (Nat.le_of_ble_eq_true rfl) (Nat.le_of_ble_eq_true rfl)

set_option maxHeartbeats 4000000 in
set_option maxRecDepth 100000 in
theorem c_X4_make (l : Launch) (G : mg) (A : Nat → Prop) (Mw : mw) (hl9 : l.stackTraces = false) (st : St) (ad : adr) (p0 p1 p2 : Int32) (hC : CS G st ad Mw) (hV : Inv st) : vx_Met l yX4_make wsX4_make ({ frames := 7, cells := 9, slots := 63, locals := 104 }) (va_Pc [.ref (ad 0 0), .int p0, .int p1, .int p2] (mB G A Mw)) (va_Qi (fun r Mw1 => ∃ (s1 : St) (ad1 : adr), m_make st p0 p1 p2 = (0, r, s1) ∧ CS G s1 ad1 Mw1 ∧ ad1 0 0 = ad 0 0) (mE G A) A) (xX (fun E => exc ["java/lang/IndexOutOfBoundsException", "java/lang/IllegalArgumentException", "java/lang/UnsupportedOperationException", "java/lang/IllegalStateException"] (m_make st p0 p1 p2) E) G A Mw) 9 63 A := by
  refine vx_ofW (cc := cX4_make) (maxL := 6) (ret := (some .int)) (by decide) rfl ?_
  intro p e s m args below meth c s₁ B hml hxt hv
  obtain ⟨rfl, hG, hP, hI, hA⟩ := hv
  have hx := B.exec
  have hb := B.bytes
  have hr := B.returns
  have hts := atoms_spec (ws := wsX4_make) B.pre
  have hown : s.vm.findClass RX4 = some m.cls := findClass_of_methodNamed B.named
  have hlocks := B.notSynchronized
  have hK := hG.K
  have i_X0 : ∀ w ∈ wsX00, w ∈ wsX4_make := by decide +kernel
  have i_X3 : ∀ w ∈ wsX30, w ∈ wsX4_make := by decide +kernel
  have i_X4 : ∀ w ∈ wsX40, w ∈ wsX4_make := by decide +kernel
  have hS : va_S A s.heap s.heap [] := va_S.rf
  have hl := lv_entry ([.ref (ad 0 0), .int p0, .int p1, .int p2]) (n := 6) (Nat.le_of_ble_eq_true rfl)
  rw [lg_entry_eq]
  generalize (lg_sl ([.ref (ad 0 0), .int p0, .int p1, .int p2]) ++ List.replicate (6 - (lg_sl ([.ref (ad 0 0), .int p0, .int p1, .int p2])).length) Slot.unset).toArray = ls at hl ⊢
  have hl : lv_has ls 6 [(0, .ref (ad 0 0)), (1, .int p0), (2, .int p1), (3, .int p2)] := hl
  have hP : mP G.1 Mw s.heap := hP
  have h_X : Mw (ad 0 0) = some (.inr (4, [.ref (ad 1 0), .ref (ad 2 0), .int (nI (nT st)), .int (nI (nN st)), .int (gS st 0), .int (gS st 1), .int (gS st 2), .int (gS st 3), .int (gS st 4)])) := hC.1 0 0 (ok0 st)
  have h_TA : Mw (ad 1 0) = some (.inl (G.2.1 3, 8, .inr (.inr (.inr (.inr (qf (nT st) (ad 3))))))) := hC.1 1 0 (ok1 st)
  have h_IA : Mw (ad 2 0) = some (.inl (G.2.1 4, 6, .inr (.inr (.inr (.inr (qf (nN st) (ad 5))))))) := hC.1 2 0 (ok2 st)
  have hta9 := hC.ne (ok1 st) (ok2 st) (by omega)
  refine lv_aload_n hx hb dX4_make_0 rfl (lv_at hl 0 rfl) ?_
  refine lv_iload_n hx hb dX4_make_1 rfl (lv_at hl 1 rfl) ?_
  refine mx_callq (vx_runV (As := [.int p0]) (rest := []) ⟨hx, hb, hml, hown, hts⟩ (c_X4_tubeNumbered l G A Mw hl9  p0 h_X hV.1.1 h_TA) (cwV 1 hts gX4_make_X4_tubeNumbered rfl rfl rfl (by decide +kernel) ⟨Nat.le_of_ble_eq_true rfl, Nat.le_of_ble_eq_true rfl⟩) (mPreV hG hS hP hI hA (hP _ _ h_X) (r := (RX4, TX4, 9)) rfl) rfl rfl hl.1 rfl (lv_room (Nat.le_of_ble_eq_true rfl)) dX4_make_2 ⟨Nat.le_of_ble_eq_true rfl, Nat.le_of_ble_eq_true rfl⟩) hS (fun E9 ce9 q9 H locs hpx9 hP hI hS hc9 hv9 hcl9 => m_out (px := fun E => exc ["java/lang/IndexOutOfBoundsException", "java/lang/IllegalArgumentException", "java/lang/UnsupportedOperationException", "java/lang/IllegalStateException"] (m_make st p0 p1 p2) E) (fun x hx9 => absurd hx9 (fun q => hxt x q)) hlocks hP hI hS hc9 hv9 hcl9 ((by obtain ⟨hE9, hn9⟩ := hpx9; subst hE9; exact exc_of (by unfold m_make; first | (rw [chk_n hn9]; done) | (rw [chk_n hn9]; rfl)) rfl)) (Nat.le_of_ble_eq_true rfl) (Nat.le_of_ble_eq_true rfl)) (fun r1 Mw1 H locs hp_r1 hP hI hS => ?_)
  obtain ⟨⟨ht9, hr9⟩, hm9⟩ := hp_r1
  subst Mw1
  subst hr9
  have h_T : Mw (ad 3 (ix p0)) = some (.inr (3, [.ref (ad 4 (ix p0)), .int (usS st (ix p0))])) := hC.1 3 _ (ok3 ht9.2)
  have h_B : Mw (ad 4 (ix p0)) = some (.inl (G.2.1 0, 20, .inl (boS st (ix p0)))) := hC.1 4 _ (ok4 ht9.2)
  refine lv_astore (lv' := [(4, .ref (ad 3 (ix p0))), (0, .ref (ad 0 0)), (1, .int p0), (2, .int p1), (3, .int p2)]) hx hb dX4_make_5 hl (by decide) rfl (fun ls hl => ?_)
  refine lv_iload_n hx hb dX4_make_7 rfl (lv_at hl 3 rfl) ?_
  refine lv_sipush (v := (1000)) hx hb dX4_make_8 (by decide) ?_
  refine lv_ldc (v := 50000) hx hb hown (hts (.constant RX4 89 (50000)) (by decide +kernel)) dX4_make_11 ?_
  refine mx_callv (vx_runS (As := [.int p1, .int 1000, .int 50000]) (rest := []) ⟨hx, hb, hml, hown, hts⟩ (c_X4_demandRange l G A Mw hl9  p1 1000 50000) (va_cwS 3 hts gX4_make_X4_demandRange rfl rfl rfl (by decide +kernel) ⟨Nat.le_of_ble_eq_true rfl, Nat.le_of_ble_eq_true rfl⟩) (mPreS hG hS hP hI hA) rfl rfl hl.1 rfl (lv_room (Nat.le_of_ble_eq_true rfl)) dX4_make_13 ⟨Nat.le_of_ble_eq_true rfl, Nat.le_of_ble_eq_true rfl⟩) hS (fun E9 ce9 q9 H locs hpx9 hP hI hS hc9 hv9 hcl9 => m_out (px := fun E => exc ["java/lang/IndexOutOfBoundsException", "java/lang/IllegalArgumentException", "java/lang/UnsupportedOperationException", "java/lang/IllegalStateException"] (m_make st p0 p1 p2) E) (fun x hx9 => absurd hx9 (fun q => hxt x q)) hlocks hP hI hS hc9 hv9 hcl9 ((by obtain ⟨hE9, hn9⟩ := hpx9; subst hE9; exact exc_of (by unfold m_make; first | (rw [chk_p ht9, chk_n hn9]; done) | (rw [chk_p ht9, chk_n hn9]; rfl)) rfl)) (Nat.le_of_ble_eq_true rfl) (Nat.le_of_ble_eq_true rfl)) (fun Mw1 H locs hp_r2 hP hI hS => ?_)
  obtain ⟨hp_r2, hm9⟩ := hp_r2
  subst Mw1
  refine lv_iload_n hx hb dX4_make_16 rfl (lv_at hl 4 rfl) ?_
  refine lv_bipush (v := (104)) hx hb dX4_make_17 (by decide) ?_
  refine lv_bipush (v := (115)) hx hb dX4_make_19 (by decide) ?_
  refine mx_callv (vx_runS (As := [.int p2, .int 104, .int 115]) (rest := []) ⟨hx, hb, hml, hown, hts⟩ (c_X4_demandEither l G A Mw hl9  p2 104 115) (va_cwS 3 hts gX4_make_X4_demandEither rfl rfl rfl (by decide +kernel) ⟨Nat.le_of_ble_eq_true rfl, Nat.le_of_ble_eq_true rfl⟩) (mPreS hG hS hP hI hA) rfl rfl hl.1 rfl (lv_room (Nat.le_of_ble_eq_true rfl)) dX4_make_21 ⟨Nat.le_of_ble_eq_true rfl, Nat.le_of_ble_eq_true rfl⟩) hS (fun E9 ce9 q9 H locs hpx9 hP hI hS hc9 hv9 hcl9 => m_out (px := fun E => exc ["java/lang/IndexOutOfBoundsException", "java/lang/IllegalArgumentException", "java/lang/UnsupportedOperationException", "java/lang/IllegalStateException"] (m_make st p0 p1 p2) E) (fun x hx9 => absurd hx9 (fun q => hxt x q)) hlocks hP hI hS hc9 hv9 hcl9 ((by obtain ⟨hE9, hn9⟩ := hpx9; subst hE9; exact exc_of (by unfold m_make; first | (rw [chk_p ht9, chk_p hp_r2, chk_n hn9]; done) | (rw [chk_p ht9, chk_p hp_r2, chk_n hn9]; rfl)) rfl)) (Nat.le_of_ble_eq_true rfl) (Nat.le_of_ble_eq_true rfl)) (fun Mw1 H locs hp_r3 hP hI hS => ?_)
  obtain ⟨hp_r3, hm9⟩ := hp_r3
  subst Mw1
  refine lv_aload hx hb dX4_make_24 (lv_at hl 0 rfl) ?_
  refine mx_callv (vx_runS (As := [.ref (ad 3 (ix p0))]) (rest := []) ⟨hx, hb, hml, hown, hts⟩ (c_X4_demandUnused l G A Mw hl9  h_T) (va_cwS 1 hts gX4_make_X4_demandUnused rfl rfl rfl (by decide +kernel) ⟨Nat.le_of_ble_eq_true rfl, Nat.le_of_ble_eq_true rfl⟩) (mPreS hG hS hP hI hA) rfl rfl hl.1 rfl (lv_room (Nat.le_of_ble_eq_true rfl)) dX4_make_26 ⟨Nat.le_of_ble_eq_true rfl, Nat.le_of_ble_eq_true rfl⟩) hS (fun E9 ce9 q9 H locs hpx9 hP hI hS hc9 hv9 hcl9 => m_out (px := fun E => exc ["java/lang/IndexOutOfBoundsException", "java/lang/IllegalArgumentException", "java/lang/UnsupportedOperationException", "java/lang/IllegalStateException"] (m_make st p0 p1 p2) E) (fun x hx9 => absurd hx9 (fun q => hxt x q)) hlocks hP hI hS hc9 hv9 hcl9 ((by obtain ⟨hE9, hn9⟩ := hpx9; subst hE9; exact exc_of (by unfold m_make; first | (rw [chk_p ht9, chk_p hp_r2, chk_p hp_r3, chk_n hn9]; done) | (rw [chk_p ht9, chk_p hp_r2, chk_p hp_r3, chk_n hn9]; rfl)) rfl)) (Nat.le_of_ble_eq_true rfl) (Nat.le_of_ble_eq_true rfl)) (fun Mw1 H locs hp_r4 hP hI hS => ?_)
  obtain ⟨hp_r4, hm9⟩ := hp_r4
  subst Mw1
  refine lv_aload_n hx hb dX4_make_29 rfl (lv_at hl 1 rfl) ?_
  refine m_get (ci := 4) (v := .int (nI (nN st))) (C := RX4) (T := TX4) (N := 9) hx hb hts i_X4 hown hK (hP _ _ h_X) rfl 3 (by decide) (hts (.fieldLink RX4 94 "Meniscus" "instrumentCount" "I") (by decide +kernel)) (fun _ h9 => h9) rfl dX4_make_30 ?_
  refine lv_aload_n hx hb dX4_make_33 rfl (lv_at hl 1 rfl) ?_
  refine m_get (ci := 4) (v := .ref (ad 2 0)) (C := RX4) (T := TX4) (N := 9) hx hb hts i_X4 hown hK (hP _ _ h_X) rfl 1 (by decide) (hts (.fieldLink RX4 17 "Meniscus" "instruments" "[LMeniscus$Instrument;") (by decide +kernel)) (fun _ h9 => h9) rfl dX4_make_34 ?_
  refine m_alen (v := 6) hx hb hK 4 (hP _ _ h_IA) rfl rfl dX4_make_37 ?_
  refine lv_icmp_lt (tgt := 51) hx hb dX4_make_38 (by decide) (fun c5 => ?_) (fun c5 => ?_)
  · skip
    have hb_c5 : nN st < 6 := nI_ltn hV.1.2 (by decide) (show nI (nN st) < nI 6 from c5)
    refine lv_aload_n hx hb dX4_make_51 rfl (lv_at hl 1 rfl) ?_
    refine m_get (ci := 4) (v := .int (nI (nN st))) (C := RX4) (T := TX4) (N := 9) hx hb hts i_X4 hown hK (hP _ _ h_X) rfl 3 (by decide) (hts (.fieldLink RX4 94 "Meniscus" "instrumentCount" "I") (by decide +kernel)) (fun _ h9 => h9) rfl dX4_make_52 ?_
    refine lv_istore (lv' := [(5, .int (nI (nN st))), (4, .ref (ad 3 (ix p0))), (0, .ref (ad 0 0)), (1, .int p0), (2, .int p1), (3, .int p2)]) hx hb dX4_make_55 hl (by decide) rfl (fun ls hl => ?_)
    refine lv_aload hx hb dX4_make_57 (lv_at hl 1 rfl) ?_
    refine lv_iconst (v := 1) hx hb dX4_make_59 (by decide) ?_
    refine m_putN (ci := 3) (v := .int 1) (ty := .boolean) (C := RX3) (T := TX3) (N := 2) hx hb hts i_X3 tyX3 tyX3_ok nmX3 hown hK hP hI hS h_T rfl 1 (by decide) (va_Nw.use rfl (hG.2.1.2.1 ("Meniscus", 99, "Meniscus$Tube", "used", "Z", "Meniscus") (by decide +kernel))) (fun _ h9 => h9) rfl (by decide +kernel) rfl rfl (Nat.le_of_ble_eq_true rfl) dX4_make_60 (fun H locs hP hI hS => ?_)
    have hP : mP G.1 (mu Mw (ad 3 (ix p0)) (.inr (3, [.ref (ad 4 (ix p0)), .int 1]))) H := hP
    have hI : mI A (mu Mw (ad 3 (ix p0)) (.inr (3, [.ref (ad 4 (ix p0)), .int 1]))) := hI
    have h_X := mu_k (e := .inr (3, [.ref (ad 4 (ix p0)), .int 1])) (kd_ne h_X h_T rfl) h_X
    have h_TA := mu_k (e := .inr (3, [.ref (ad 4 (ix p0)), .int 1])) (kd_ne h_TA h_T rfl) h_TA
    have h_IA := mu_k (e := .inr (3, [.ref (ad 4 (ix p0)), .int 1])) (kd_ne h_IA h_T rfl) h_IA
    have h_B := mu_k (e := .inr (3, [.ref (ad 4 (ix p0)), .int 1])) (kd_ne h_B h_T rfl) h_B
    have h_T : (mu Mw (ad 3 (ix p0)) (.inr (3, [.ref (ad 4 (ix p0)), .int 1]))) (ad 3 (ix p0)) = some (.inr (3, [.ref (ad 4 (ix p0)), .int 1])) := mu_s
    refine lv_aload_n hx hb dX4_make_63 rfl (lv_at hl 2 rfl) ?_
    refine m_get (ci := 4) (v := .ref (ad 2 0)) (C := RX4) (T := TX4) (N := 9) hx hb hts i_X4 hown hK (hP _ _ h_X) rfl 1 (by decide) (hts (.fieldLink RX4 17 "Meniscus" "instruments" "[LMeniscus$Instrument;") (by decide +kernel)) (fun _ h9 => h9) rfl dX4_make_64 ?_
    refine lv_iload hx hb dX4_make_67 (lv_at hl 0 rfl) ?_
    refine m_new (ci := 0) (fs := [.int 0, .null, .int 0, .int 0, .null, .null, .int 0, .int 0, .int 0, .int 0, .int 0, .int 0, .int 0, .int 0, .int 0]) (C := RX0) (T := TX0) (N := 15) hx hb hts i_X0 tyX0 tyX0_ok hown (hts (.classLink RX4 15 RX0) (by decide +kernel)) (hts (.instantiable RX0 15) (by decide +kernel)) (hts (.initialized RX0) (by decide +kernel)) hK hP hI hS hA rfl (fun j hj => by rcases (show j = 0 ∨ j = 1 ∨ j = 2 ∨ j = 3 ∨ j = 4 ∨ j = 5 ∨ j = 6 ∨ j = 7 ∨ j = 8 ∨ j = 9 ∨ j = 10 ∨ j = 11 ∨ j = 12 ∨ j = 13 ∨ j = 14 by omega) with rfl | rfl | rfl | rfl | rfl | rfl | rfl | rfl | rfl | rfl | rfl | rfl | rfl | rfl | rfl <;> rfl) (Nat.le_of_ble_eq_true rfl) (Nat.le_of_ble_eq_true rfl) dX4_make_69 (fun q6 H hn_q6 hP hI hS => ?_)
    have h_X := mu_x (e := .inr (0, [.int 0, .null, .int 0, .int 0, .null, .null, .int 0, .int 0, .int 0, .int 0, .int 0, .int 0, .int 0, .int 0, .int 0])) h_X hn_q6
    have h_TA := mu_x (e := .inr (0, [.int 0, .null, .int 0, .int 0, .null, .null, .int 0, .int 0, .int 0, .int 0, .int 0, .int 0, .int 0, .int 0, .int 0])) h_TA hn_q6
    have h_IA := mu_x (e := .inr (0, [.int 0, .null, .int 0, .int 0, .null, .null, .int 0, .int 0, .int 0, .int 0, .int 0, .int 0, .int 0, .int 0, .int 0])) h_IA hn_q6
    have h_T := mu_x (e := .inr (0, [.int 0, .null, .int 0, .int 0, .null, .null, .int 0, .int 0, .int 0, .int 0, .int 0, .int 0, .int 0, .int 0, .int 0])) h_T hn_q6
    have h_B := mu_x (e := .inr (0, [.int 0, .null, .int 0, .int 0, .null, .null, .int 0, .int 0, .int 0, .int 0, .int 0, .int 0, .int 0, .int 0, .int 0])) h_B hn_q6
    have h_q6 : (mu (mu Mw (ad 3 (ix p0)) (.inr (3, [.ref (ad 4 (ix p0)), .int 1]))) q6 (.inr (0, [.int 0, .null, .int 0, .int 0, .null, .null, .int 0, .int 0, .int 0, .int 0, .int 0, .int 0, .int 0, .int 0, .int 0]))) q6 = some (.inr (0, [.int 0, .null, .int 0, .int 0, .null, .null, .int 0, .int 0, .int 0, .int 0, .int 0, .int 0, .int 0, .int 0, .int 0])) := mu_s
    refine lv_dup hx hb dX4_make_72 rfl ?_
    refine lv_iload_n hx hb dX4_make_73 rfl (lv_at hl 3 rfl) ?_
    refine lv_aload hx hb dX4_make_74 (lv_at hl 1 rfl) ?_
    refine lv_iload_n hx hb dX4_make_76 rfl (lv_at hl 4 rfl) ?_
    refine lv_iload_n hx hb dX4_make_77 rfl (lv_at hl 5 rfl) ?_
    refine m_callv (va_runI (As := [.int p0, .ref (ad 3 (ix p0)), .int p1, .int p2]) (rest := [.ref q6, .int (nI (nN st)), .ref (ad 2 0)]) ⟨hx, hb, hml, hown, hts⟩ (c_X0_init l G A (mu (mu Mw (ad 3 (ix p0)) (.inr (3, [.ref (ad 4 (ix p0)), .int 1]))) q6 (.inr (0, [.int 0, .null, .int 0, .int 0, .null, .null, .int 0, .int 0, .int 0, .int 0, .int 0, .int 0, .int 0, .int 0, .int 0])))  p0 p1 p2 (ad 3 (ix p0)) (nch hp_r3 ⟨rfl, rfl⟩ ⟨rfl, rfl⟩) h_q6) (cwI 4 hts gX4_make_X0_init rfl rfl rfl (hts (.initialized RX0) (by decide +kernel)) (hts (.methodLink RX4 103 yX0_init) (by decide +kernel)) (hts (.instanceMethod yX0_init) (by decide +kernel)) rfl (by decide +kernel) ⟨Nat.le_of_ble_eq_true rfl, Nat.le_of_ble_eq_true rfl⟩) (mPreS hG hS hP hI hA) rfl rfl hl.1 rfl (lv_room (Nat.le_of_ble_eq_true rfl)) dX4_make_78 ⟨Nat.le_of_ble_eq_true rfl, Nat.le_of_ble_eq_true rfl⟩) hS (fun Mw1 H locs hp_r7 hP hI hS => ?_)
    obtain ⟨rd0, va0, er0, sc0, hnr, hnv, hne, hns, nx1, nx2, nx3, nx4, nx5, nx6, hm9⟩ := hp_r7
    subst Mw1
    have hnr2 : (mu (mu (mu Mw (ad 3 (ix p0)) (.inr (3, [.ref (ad 4 (ix p0)), .int 1]))) q6 (.inr (0, [.int 0, .null, .int 0, .int 0, .null, .null, .int 0, .int 0, .int 0, .int 0, .int 0, .int 0, .int 0, .int 0, .int 0]))) q6 (.inr (0, [.int p0, .ref (ad 3 (ix p0)), .int p1, .int p2, .ref sc0, .ref rd0, .int 0, .int 0, .int 0, .int 32, .int 0, .int 0, .int 0, .int ((-1)), .int ((-1))]))) rd0 = none := (mu_n (Ne.symm (ne_none h_q6 hnr))).trans hnr
    have hnv2 : (mu (mu (mu (mu Mw (ad 3 (ix p0)) (.inr (3, [.ref (ad 4 (ix p0)), .int 1]))) q6 (.inr (0, [.int 0, .null, .int 0, .int 0, .null, .null, .int 0, .int 0, .int 0, .int 0, .int 0, .int 0, .int 0, .int 0, .int 0]))) q6 (.inr (0, [.int p0, .ref (ad 3 (ix p0)), .int p1, .int p2, .ref sc0, .ref rd0, .int 0, .int 0, .int 0, .int 32, .int 0, .int 0, .int 0, .int ((-1)), .int ((-1))]))) rd0 (.inr (1, [.ref va0, .ref er0, .int 0]))) va0 = none := (mu_n (Ne.symm nx1)).trans ((mu_n (Ne.symm (ne_none h_q6 hnv))).trans hnv)
    have hne2 : (mu (mu (mu (mu (mu Mw (ad 3 (ix p0)) (.inr (3, [.ref (ad 4 (ix p0)), .int 1]))) q6 (.inr (0, [.int 0, .null, .int 0, .int 0, .null, .null, .int 0, .int 0, .int 0, .int 0, .int 0, .int 0, .int 0, .int 0, .int 0]))) q6 (.inr (0, [.int p0, .ref (ad 3 (ix p0)), .int p1, .int p2, .ref sc0, .ref rd0, .int 0, .int 0, .int 0, .int 32, .int 0, .int 0, .int 0, .int ((-1)), .int ((-1))]))) rd0 (.inr (1, [.ref va0, .ref er0, .int 0]))) va0 (.inl (G.2.1 0, 8, .inl (fun _ => 0)))) er0 = none := (mu_n (Ne.symm nx4)).trans ((mu_n (Ne.symm nx2)).trans ((mu_n (Ne.symm (ne_none h_q6 hne))).trans hne))
    have hns2 : (mu (mu (mu (mu (mu (mu Mw (ad 3 (ix p0)) (.inr (3, [.ref (ad 4 (ix p0)), .int 1]))) q6 (.inr (0, [.int 0, .null, .int 0, .int 0, .null, .null, .int 0, .int 0, .int 0, .int 0, .int 0, .int 0, .int 0, .int 0, .int 0]))) q6 (.inr (0, [.int p0, .ref (ad 3 (ix p0)), .int p1, .int p2, .ref sc0, .ref rd0, .int 0, .int 0, .int 0, .int 32, .int 0, .int 0, .int 0, .int ((-1)), .int ((-1))]))) rd0 (.inr (1, [.ref va0, .ref er0, .int 0]))) va0 (.inl (G.2.1 0, 8, .inl (fun _ => 0)))) er0 (.inl (G.2.1 0, 8, .inl (fun _ => 0)))) sc0 = none := (mu_n (Ne.symm nx6)).trans ((mu_n (Ne.symm nx5)).trans ((mu_n (Ne.symm nx3)).trans ((mu_n (Ne.symm (ne_none h_q6 hns))).trans hns)))
    have h_X := mu_k (e := .inr (0, [.int p0, .ref (ad 3 (ix p0)), .int p1, .int p2, .ref sc0, .ref rd0, .int 0, .int 0, .int 0, .int 32, .int 0, .int 0, .int 0, .int ((-1)), .int ((-1))])) (kd_ne h_X h_q6 rfl) h_X
    have h_TA := mu_k (e := .inr (0, [.int p0, .ref (ad 3 (ix p0)), .int p1, .int p2, .ref sc0, .ref rd0, .int 0, .int 0, .int 0, .int 32, .int 0, .int 0, .int 0, .int ((-1)), .int ((-1))])) (kd_ne h_TA h_q6 rfl) h_TA
    have h_IA := mu_k (e := .inr (0, [.int p0, .ref (ad 3 (ix p0)), .int p1, .int p2, .ref sc0, .ref rd0, .int 0, .int 0, .int 0, .int 32, .int 0, .int 0, .int 0, .int ((-1)), .int ((-1))])) (kd_ne h_IA h_q6 rfl) h_IA
    have h_T := mu_k (e := .inr (0, [.int p0, .ref (ad 3 (ix p0)), .int p1, .int p2, .ref sc0, .ref rd0, .int 0, .int 0, .int 0, .int 32, .int 0, .int 0, .int 0, .int ((-1)), .int ((-1))])) (kd_ne h_T h_q6 rfl) h_T
    have h_B := mu_k (e := .inr (0, [.int p0, .ref (ad 3 (ix p0)), .int p1, .int p2, .ref sc0, .ref rd0, .int 0, .int 0, .int 0, .int 32, .int 0, .int 0, .int 0, .int ((-1)), .int ((-1))])) (kd_ne h_B h_q6 rfl) h_B
    have h_q6 : (mu (mu (mu Mw (ad 3 (ix p0)) (.inr (3, [.ref (ad 4 (ix p0)), .int 1]))) q6 (.inr (0, [.int 0, .null, .int 0, .int 0, .null, .null, .int 0, .int 0, .int 0, .int 0, .int 0, .int 0, .int 0, .int 0, .int 0]))) q6 (.inr (0, [.int p0, .ref (ad 3 (ix p0)), .int p1, .int p2, .ref sc0, .ref rd0, .int 0, .int 0, .int 0, .int 32, .int 0, .int 0, .int 0, .int ((-1)), .int ((-1))]))) q6 = some (.inr (0, [.int p0, .ref (ad 3 (ix p0)), .int p1, .int p2, .ref sc0, .ref rd0, .int 0, .int 0, .int 0, .int 32, .int 0, .int 0, .int 0, .int ((-1)), .int ((-1))])) := mu_s
    have h_X := mu_k (e := .inr (1, [.ref va0, .ref er0, .int 0])) (ne_none h_X hnr2) h_X
    have h_TA := mu_k (e := .inr (1, [.ref va0, .ref er0, .int 0])) (ne_none h_TA hnr2) h_TA
    have h_IA := mu_k (e := .inr (1, [.ref va0, .ref er0, .int 0])) (ne_none h_IA hnr2) h_IA
    have h_T := mu_k (e := .inr (1, [.ref va0, .ref er0, .int 0])) (ne_none h_T hnr2) h_T
    have h_B := mu_k (e := .inr (1, [.ref va0, .ref er0, .int 0])) (ne_none h_B hnr2) h_B
    have h_q6 := mu_k (e := .inr (1, [.ref va0, .ref er0, .int 0])) (ne_none h_q6 hnr2) h_q6
    have h_R : (mu (mu (mu (mu Mw (ad 3 (ix p0)) (.inr (3, [.ref (ad 4 (ix p0)), .int 1]))) q6 (.inr (0, [.int 0, .null, .int 0, .int 0, .null, .null, .int 0, .int 0, .int 0, .int 0, .int 0, .int 0, .int 0, .int 0, .int 0]))) q6 (.inr (0, [.int p0, .ref (ad 3 (ix p0)), .int p1, .int p2, .ref sc0, .ref rd0, .int 0, .int 0, .int 0, .int 32, .int 0, .int 0, .int 0, .int ((-1)), .int ((-1))]))) rd0 (.inr (1, [.ref va0, .ref er0, .int 0]))) rd0 = some (.inr (1, [.ref va0, .ref er0, .int 0])) := mu_s
    have h_X := mu_k (e := .inl (G.2.1 0, 8, .inl (fun _ => 0))) (ne_none h_X hnv2) h_X
    have h_TA := mu_k (e := .inl (G.2.1 0, 8, .inl (fun _ => 0))) (ne_none h_TA hnv2) h_TA
    have h_IA := mu_k (e := .inl (G.2.1 0, 8, .inl (fun _ => 0))) (ne_none h_IA hnv2) h_IA
    have h_T := mu_k (e := .inl (G.2.1 0, 8, .inl (fun _ => 0))) (ne_none h_T hnv2) h_T
    have h_B := mu_k (e := .inl (G.2.1 0, 8, .inl (fun _ => 0))) (ne_none h_B hnv2) h_B
    have h_q6 := mu_k (e := .inl (G.2.1 0, 8, .inl (fun _ => 0))) (ne_none h_q6 hnv2) h_q6
    have h_R := mu_k (e := .inl (G.2.1 0, 8, .inl (fun _ => 0))) (ne_none h_R hnv2) h_R
    have h_V : (mu (mu (mu (mu (mu Mw (ad 3 (ix p0)) (.inr (3, [.ref (ad 4 (ix p0)), .int 1]))) q6 (.inr (0, [.int 0, .null, .int 0, .int 0, .null, .null, .int 0, .int 0, .int 0, .int 0, .int 0, .int 0, .int 0, .int 0, .int 0]))) q6 (.inr (0, [.int p0, .ref (ad 3 (ix p0)), .int p1, .int p2, .ref sc0, .ref rd0, .int 0, .int 0, .int 0, .int 32, .int 0, .int 0, .int 0, .int ((-1)), .int ((-1))]))) rd0 (.inr (1, [.ref va0, .ref er0, .int 0]))) va0 (.inl (G.2.1 0, 8, .inl (fun _ => 0)))) va0 = some (.inl (G.2.1 0, 8, .inl (fun _ => 0))) := mu_s
    have h_X := mu_k (e := .inl (G.2.1 0, 8, .inl (fun _ => 0))) (ne_none h_X hne2) h_X
    have h_TA := mu_k (e := .inl (G.2.1 0, 8, .inl (fun _ => 0))) (ne_none h_TA hne2) h_TA
    have h_IA := mu_k (e := .inl (G.2.1 0, 8, .inl (fun _ => 0))) (ne_none h_IA hne2) h_IA
    have h_T := mu_k (e := .inl (G.2.1 0, 8, .inl (fun _ => 0))) (ne_none h_T hne2) h_T
    have h_B := mu_k (e := .inl (G.2.1 0, 8, .inl (fun _ => 0))) (ne_none h_B hne2) h_B
    have h_q6 := mu_k (e := .inl (G.2.1 0, 8, .inl (fun _ => 0))) (ne_none h_q6 hne2) h_q6
    have h_R := mu_k (e := .inl (G.2.1 0, 8, .inl (fun _ => 0))) (ne_none h_R hne2) h_R
    have h_V := mu_k (e := .inl (G.2.1 0, 8, .inl (fun _ => 0))) (ne_none h_V hne2) h_V
    have h_E : (mu (mu (mu (mu (mu (mu Mw (ad 3 (ix p0)) (.inr (3, [.ref (ad 4 (ix p0)), .int 1]))) q6 (.inr (0, [.int 0, .null, .int 0, .int 0, .null, .null, .int 0, .int 0, .int 0, .int 0, .int 0, .int 0, .int 0, .int 0, .int 0]))) q6 (.inr (0, [.int p0, .ref (ad 3 (ix p0)), .int p1, .int p2, .ref sc0, .ref rd0, .int 0, .int 0, .int 0, .int 32, .int 0, .int 0, .int 0, .int ((-1)), .int ((-1))]))) rd0 (.inr (1, [.ref va0, .ref er0, .int 0]))) va0 (.inl (G.2.1 0, 8, .inl (fun _ => 0)))) er0 (.inl (G.2.1 0, 8, .inl (fun _ => 0)))) er0 = some (.inl (G.2.1 0, 8, .inl (fun _ => 0))) := mu_s
    have h_X := mu_k (e := .inr (2, [.ref (ad 3 (ix p0)), .int ((-1)), .int ((-1)), .int 0, .int 32])) (ne_none h_X hns2) h_X
    have h_TA := mu_k (e := .inr (2, [.ref (ad 3 (ix p0)), .int ((-1)), .int ((-1)), .int 0, .int 32])) (ne_none h_TA hns2) h_TA
    have h_IA := mu_k (e := .inr (2, [.ref (ad 3 (ix p0)), .int ((-1)), .int ((-1)), .int 0, .int 32])) (ne_none h_IA hns2) h_IA
    have h_T := mu_k (e := .inr (2, [.ref (ad 3 (ix p0)), .int ((-1)), .int ((-1)), .int 0, .int 32])) (ne_none h_T hns2) h_T
    have h_B := mu_k (e := .inr (2, [.ref (ad 3 (ix p0)), .int ((-1)), .int ((-1)), .int 0, .int 32])) (ne_none h_B hns2) h_B
    have h_q6 := mu_k (e := .inr (2, [.ref (ad 3 (ix p0)), .int ((-1)), .int ((-1)), .int 0, .int 32])) (ne_none h_q6 hns2) h_q6
    have h_R := mu_k (e := .inr (2, [.ref (ad 3 (ix p0)), .int ((-1)), .int ((-1)), .int 0, .int 32])) (ne_none h_R hns2) h_R
    have h_V := mu_k (e := .inr (2, [.ref (ad 3 (ix p0)), .int ((-1)), .int ((-1)), .int 0, .int 32])) (ne_none h_V hns2) h_V
    have h_E := mu_k (e := .inr (2, [.ref (ad 3 (ix p0)), .int ((-1)), .int ((-1)), .int 0, .int 32])) (ne_none h_E hns2) h_E
    have h_S : (mu (mu (mu (mu (mu (mu (mu Mw (ad 3 (ix p0)) (.inr (3, [.ref (ad 4 (ix p0)), .int 1]))) q6 (.inr (0, [.int 0, .null, .int 0, .int 0, .null, .null, .int 0, .int 0, .int 0, .int 0, .int 0, .int 0, .int 0, .int 0, .int 0]))) q6 (.inr (0, [.int p0, .ref (ad 3 (ix p0)), .int p1, .int p2, .ref sc0, .ref rd0, .int 0, .int 0, .int 0, .int 32, .int 0, .int 0, .int 0, .int ((-1)), .int ((-1))]))) rd0 (.inr (1, [.ref va0, .ref er0, .int 0]))) va0 (.inl (G.2.1 0, 8, .inl (fun _ => 0)))) er0 (.inl (G.2.1 0, 8, .inl (fun _ => 0)))) sc0 (.inr (2, [.ref (ad 3 (ix p0)), .int ((-1)), .int ((-1)), .int 0, .int 32]))) sc0 = some (.inr (2, [.ref (ad 3 (ix p0)), .int ((-1)), .int ((-1)), .int 0, .int 32])) := mu_s
    refine m_astq hx hb hK hP hI hS 4 (r := (RX0, TX0, 15)) h_IA rfl h_q6 rfl (vp_in_nI (by assumption) (by omega)) dX4_make_81 (fun H locs hP hI hS => ?_)
    have h_X := mu_k (e := .inl (G.2.1 4, 6, .inr (.inr (.inr (.inr (va_up (qf (nN st) (ad 5)) ((nI (nN st)).toNatClampNeg) (some q6))))))) (kd_ne h_X h_IA rfl) h_X
    have h_TA := mu_k (e := .inl (G.2.1 4, 6, .inr (.inr (.inr (.inr (va_up (qf (nN st) (ad 5)) ((nI (nN st)).toNatClampNeg) (some q6))))))) hta9 h_TA
    have h_T := mu_k (e := .inl (G.2.1 4, 6, .inr (.inr (.inr (.inr (va_up (qf (nN st) (ad 5)) ((nI (nN st)).toNatClampNeg) (some q6))))))) (kd_ne h_T h_IA rfl) h_T
    have h_B := mu_k (e := .inl (G.2.1 4, 6, .inr (.inr (.inr (.inr (va_up (qf (nN st) (ad 5)) ((nI (nN st)).toNatClampNeg) (some q6))))))) (kd_ne h_B h_IA rfl) h_B
    have h_q6 := mu_k (e := .inl (G.2.1 4, 6, .inr (.inr (.inr (.inr (va_up (qf (nN st) (ad 5)) ((nI (nN st)).toNatClampNeg) (some q6))))))) (kd_ne h_q6 h_IA rfl) h_q6
    have h_R := mu_k (e := .inl (G.2.1 4, 6, .inr (.inr (.inr (.inr (va_up (qf (nN st) (ad 5)) ((nI (nN st)).toNatClampNeg) (some q6))))))) (kd_ne h_R h_IA rfl) h_R
    have h_V := mu_k (e := .inl (G.2.1 4, 6, .inr (.inr (.inr (.inr (va_up (qf (nN st) (ad 5)) ((nI (nN st)).toNatClampNeg) (some q6))))))) (kd_ne h_V h_IA rfl) h_V
    have h_E := mu_k (e := .inl (G.2.1 4, 6, .inr (.inr (.inr (.inr (va_up (qf (nN st) (ad 5)) ((nI (nN st)).toNatClampNeg) (some q6))))))) (kd_ne h_E h_IA rfl) h_E
    have h_S := mu_k (e := .inl (G.2.1 4, 6, .inr (.inr (.inr (.inr (va_up (qf (nN st) (ad 5)) ((nI (nN st)).toNatClampNeg) (some q6))))))) (kd_ne h_S h_IA rfl) h_S
    have h_IA : (mu (mu (mu (mu (mu (mu (mu (mu Mw (ad 3 (ix p0)) (.inr (3, [.ref (ad 4 (ix p0)), .int 1]))) q6 (.inr (0, [.int 0, .null, .int 0, .int 0, .null, .null, .int 0, .int 0, .int 0, .int 0, .int 0, .int 0, .int 0, .int 0, .int 0]))) q6 (.inr (0, [.int p0, .ref (ad 3 (ix p0)), .int p1, .int p2, .ref sc0, .ref rd0, .int 0, .int 0, .int 0, .int 32, .int 0, .int 0, .int 0, .int ((-1)), .int ((-1))]))) rd0 (.inr (1, [.ref va0, .ref er0, .int 0]))) va0 (.inl (G.2.1 0, 8, .inl (fun _ => 0)))) er0 (.inl (G.2.1 0, 8, .inl (fun _ => 0)))) sc0 (.inr (2, [.ref (ad 3 (ix p0)), .int ((-1)), .int ((-1)), .int 0, .int 32]))) (ad 2 0) (.inl (G.2.1 4, 6, .inr (.inr (.inr (.inr (va_up (qf (nN st) (ad 5)) ((nI (nN st)).toNatClampNeg) (some q6)))))))) (ad 2 0) = some (.inl (G.2.1 4, 6, .inr (.inr (.inr (.inr (va_up (qf (nN st) (ad 5)) ((nI (nN st)).toNatClampNeg) (some q6))))))) := mu_s
    refine lv_aload_n hx hb dX4_make_82 rfl (lv_at hl 2 rfl) ?_
    refine lv_dup hx hb dX4_make_83 rfl ?_
    refine m_get (ci := 4) (v := .int (nI (nN st))) (C := RX4) (T := TX4) (N := 9) hx hb hts i_X4 hown hK (hP _ _ h_X) rfl 3 (by decide) (hts (.fieldLink RX4 94 "Meniscus" "instrumentCount" "I") (by decide +kernel)) (fun _ h9 => h9) rfl dX4_make_84 ?_
    refine lv_iconst (v := 1) hx hb dX4_make_87 (by decide) ?_
    refine lv_iadd hx hb dX4_make_88 ?_
    refine m_put (ci := 4) (v := .int ((nI (nN st)) + 1)) (ty := .int) (C := RX4) (T := TX4) (N := 9) hx hb hts i_X4 tyX4 tyX4_ok nmX4 hown hK hP hI hS h_X rfl 3 (by decide) (hts (.fieldLink RX4 94 "Meniscus" "instrumentCount" "I") (by decide +kernel)) (fun _ h9 => h9) rfl (by decide +kernel) rfl rfl (Nat.le_of_ble_eq_true rfl) dX4_make_89 (fun H locs hP hI hS => ?_)
    have hP : mP G.1 (mu (mu (mu (mu (mu (mu (mu (mu (mu Mw (ad 3 (ix p0)) (.inr (3, [.ref (ad 4 (ix p0)), .int 1]))) q6 (.inr (0, [.int 0, .null, .int 0, .int 0, .null, .null, .int 0, .int 0, .int 0, .int 0, .int 0, .int 0, .int 0, .int 0, .int 0]))) q6 (.inr (0, [.int p0, .ref (ad 3 (ix p0)), .int p1, .int p2, .ref sc0, .ref rd0, .int 0, .int 0, .int 0, .int 32, .int 0, .int 0, .int 0, .int ((-1)), .int ((-1))]))) rd0 (.inr (1, [.ref va0, .ref er0, .int 0]))) va0 (.inl (G.2.1 0, 8, .inl (fun _ => 0)))) er0 (.inl (G.2.1 0, 8, .inl (fun _ => 0)))) sc0 (.inr (2, [.ref (ad 3 (ix p0)), .int ((-1)), .int ((-1)), .int 0, .int 32]))) (ad 2 0) (.inl (G.2.1 4, 6, .inr (.inr (.inr (.inr (va_up (qf (nN st) (ad 5)) ((nI (nN st)).toNatClampNeg) (some q6)))))))) (ad 0 0) (.inr (4, [.ref (ad 1 0), .ref (ad 2 0), .int (nI (nT st)), .int ((nI (nN st)) + 1), .int (gS st 0), .int (gS st 1), .int (gS st 2), .int (gS st 3), .int (gS st 4)]))) H := hP
    have hI : mI A (mu (mu (mu (mu (mu (mu (mu (mu (mu Mw (ad 3 (ix p0)) (.inr (3, [.ref (ad 4 (ix p0)), .int 1]))) q6 (.inr (0, [.int 0, .null, .int 0, .int 0, .null, .null, .int 0, .int 0, .int 0, .int 0, .int 0, .int 0, .int 0, .int 0, .int 0]))) q6 (.inr (0, [.int p0, .ref (ad 3 (ix p0)), .int p1, .int p2, .ref sc0, .ref rd0, .int 0, .int 0, .int 0, .int 32, .int 0, .int 0, .int 0, .int ((-1)), .int ((-1))]))) rd0 (.inr (1, [.ref va0, .ref er0, .int 0]))) va0 (.inl (G.2.1 0, 8, .inl (fun _ => 0)))) er0 (.inl (G.2.1 0, 8, .inl (fun _ => 0)))) sc0 (.inr (2, [.ref (ad 3 (ix p0)), .int ((-1)), .int ((-1)), .int 0, .int 32]))) (ad 2 0) (.inl (G.2.1 4, 6, .inr (.inr (.inr (.inr (va_up (qf (nN st) (ad 5)) ((nI (nN st)).toNatClampNeg) (some q6)))))))) (ad 0 0) (.inr (4, [.ref (ad 1 0), .ref (ad 2 0), .int (nI (nT st)), .int ((nI (nN st)) + 1), .int (gS st 0), .int (gS st 1), .int (gS st 2), .int (gS st 3), .int (gS st 4)]))) := hI
    have h_TA := mu_k (e := .inr (4, [.ref (ad 1 0), .ref (ad 2 0), .int (nI (nT st)), .int ((nI (nN st)) + 1), .int (gS st 0), .int (gS st 1), .int (gS st 2), .int (gS st 3), .int (gS st 4)])) (kd_ne h_TA h_X rfl) h_TA
    have h_IA := mu_k (e := .inr (4, [.ref (ad 1 0), .ref (ad 2 0), .int (nI (nT st)), .int ((nI (nN st)) + 1), .int (gS st 0), .int (gS st 1), .int (gS st 2), .int (gS st 3), .int (gS st 4)])) (kd_ne h_IA h_X rfl) h_IA
    have h_T := mu_k (e := .inr (4, [.ref (ad 1 0), .ref (ad 2 0), .int (nI (nT st)), .int ((nI (nN st)) + 1), .int (gS st 0), .int (gS st 1), .int (gS st 2), .int (gS st 3), .int (gS st 4)])) (kd_ne h_T h_X rfl) h_T
    have h_B := mu_k (e := .inr (4, [.ref (ad 1 0), .ref (ad 2 0), .int (nI (nT st)), .int ((nI (nN st)) + 1), .int (gS st 0), .int (gS st 1), .int (gS st 2), .int (gS st 3), .int (gS st 4)])) (kd_ne h_B h_X rfl) h_B
    have h_q6 := mu_k (e := .inr (4, [.ref (ad 1 0), .ref (ad 2 0), .int (nI (nT st)), .int ((nI (nN st)) + 1), .int (gS st 0), .int (gS st 1), .int (gS st 2), .int (gS st 3), .int (gS st 4)])) (kd_ne h_q6 h_X rfl) h_q6
    have h_R := mu_k (e := .inr (4, [.ref (ad 1 0), .ref (ad 2 0), .int (nI (nT st)), .int ((nI (nN st)) + 1), .int (gS st 0), .int (gS st 1), .int (gS st 2), .int (gS st 3), .int (gS st 4)])) (kd_ne h_R h_X rfl) h_R
    have h_V := mu_k (e := .inr (4, [.ref (ad 1 0), .ref (ad 2 0), .int (nI (nT st)), .int ((nI (nN st)) + 1), .int (gS st 0), .int (gS st 1), .int (gS st 2), .int (gS st 3), .int (gS st 4)])) (kd_ne h_V h_X rfl) h_V
    have h_E := mu_k (e := .inr (4, [.ref (ad 1 0), .ref (ad 2 0), .int (nI (nT st)), .int ((nI (nN st)) + 1), .int (gS st 0), .int (gS st 1), .int (gS st 2), .int (gS st 3), .int (gS st 4)])) (kd_ne h_E h_X rfl) h_E
    have h_S := mu_k (e := .inr (4, [.ref (ad 1 0), .ref (ad 2 0), .int (nI (nT st)), .int ((nI (nN st)) + 1), .int (gS st 0), .int (gS st 1), .int (gS st 2), .int (gS st 3), .int (gS st 4)])) (kd_ne h_S h_X rfl) h_S
    have h_X : (mu (mu (mu (mu (mu (mu (mu (mu (mu Mw (ad 3 (ix p0)) (.inr (3, [.ref (ad 4 (ix p0)), .int 1]))) q6 (.inr (0, [.int 0, .null, .int 0, .int 0, .null, .null, .int 0, .int 0, .int 0, .int 0, .int 0, .int 0, .int 0, .int 0, .int 0]))) q6 (.inr (0, [.int p0, .ref (ad 3 (ix p0)), .int p1, .int p2, .ref sc0, .ref rd0, .int 0, .int 0, .int 0, .int 32, .int 0, .int 0, .int 0, .int ((-1)), .int ((-1))]))) rd0 (.inr (1, [.ref va0, .ref er0, .int 0]))) va0 (.inl (G.2.1 0, 8, .inl (fun _ => 0)))) er0 (.inl (G.2.1 0, 8, .inl (fun _ => 0)))) sc0 (.inr (2, [.ref (ad 3 (ix p0)), .int ((-1)), .int ((-1)), .int 0, .int 32]))) (ad 2 0) (.inl (G.2.1 4, 6, .inr (.inr (.inr (.inr (va_up (qf (nN st) (ad 5)) ((nI (nN st)).toNatClampNeg) (some q6)))))))) (ad 0 0) (.inr (4, [.ref (ad 1 0), .ref (ad 2 0), .int (nI (nT st)), .int ((nI (nN st)) + 1), .int (gS st 0), .int (gS st 1), .int (gS st 2), .int (gS st 3), .int (gS st 4)]))) (ad 0 0) = some (.inr (4, [.ref (ad 1 0), .ref (ad 2 0), .int (nI (nT st)), .int ((nI (nN st)) + 1), .int (gS st 0), .int (gS st 1), .int (gS st 2), .int (gS st 3), .int (gS st 4)])) := mu_s
    refine lv_iload hx hb dX4_make_92 (lv_at hl 0 rfl) ?_
    refine W.widen (k := 9) (n := 63) (Nat.le_of_ble_eq_true rfl) (Nat.le_of_ble_eq_true rfl) ?_
    refine vx_ret ?_
    exact W.iret (v := nI (nN st)) hx hb hr (fun t99 ht99 hW99 => ⟨⟨nI (nN st), (mu (mu (mu (mu (mu (mu (mu (mu (mu Mw (ad 3 (ix p0)) (.inr (3, [.ref (ad 4 (ix p0)), .int 1]))) q6 (.inr (0, [.int 0, .null, .int 0, .int 0, .null, .null, .int 0, .int 0, .int 0, .int 0, .int 0, .int 0, .int 0, .int 0, .int 0]))) q6 (.inr (0, [.int p0, .ref (ad 3 (ix p0)), .int p1, .int p2, .ref sc0, .ref rd0, .int 0, .int 0, .int 0, .int 32, .int 0, .int 0, .int 0, .int ((-1)), .int ((-1))]))) rd0 (.inr (1, [.ref va0, .ref er0, .int 0]))) va0 (.inl (G.2.1 0, 8, .inl (fun _ => 0)))) er0 (.inl (G.2.1 0, 8, .inl (fun _ => 0)))) sc0 (.inr (2, [.ref (ad 3 (ix p0)), .int ((-1)), .int ((-1)), .int 0, .int 32]))) (ad 2 0) (.inl (G.2.1 4, 6, .inr (.inr (.inr (.inr (va_up (qf (nN st) (ad 5)) ((nI (nN st)).toNatClampNeg) (some q6)))))))) (ad 0 0) (.inr (4, [.ref (ad 1 0), .ref (ad 2 0), .int (nI (nT st)), .int ((nI (nN st)) + 1), .int (gS st 0), .int (gS st 1), .int (gS st 2), .int (gS st 3), .int (gS st 4)]))), rfl, ⟨addI st p0 p1 p2, adI ad (nN st) (n5 q6 sc0 rd0 va0 er0), by unfold m_make; first | (rw [chk_p ht9, chk_p hp_r2, chk_p hp_r3, chk_p hp_r4, chk_p hb_c5]; done) | (rw [chk_p ht9, chk_p hp_r2, chk_p hp_r3, chk_p hp_r4, chk_p hb_c5]; rfl), cs_addI hC hV ht9.2 (mu_none hn_q6).1 (mu_none (mu_none hns).1).1 (mu_none (mu_none hnr).1).1 (mu_none (mu_none hnv).1).1 (mu_none (mu_none hne).1).1 (kd_ne h_q6 h_S rfl) (kd_ne h_q6 h_R rfl) (kd_ne h_q6 h_V rfl) (kd_ne h_q6 h_E rfl) (kd_ne h_S h_R rfl) (kd_ne h_S h_V rfl) (kd_ne h_S h_E rfl) (kd_ne h_R h_V rfl) (kd_ne h_R h_E rfl) nx4 (h_X.trans (congrArg some (by rw [nI_1]))) (h_IA.trans (congrArg some (by rw [nI_clamp (show nN st < 2 ^ 31 by have := hV.1.2; omega)]))) h_T h_q6 h_S h_R h_V h_E (fun z h1 h2 h3 h4 h5 h6 h7 h8 => (mu_n h1).trans ((mu_n h2).trans ((mu_n h5).trans ((mu_n h8).trans ((mu_n h7).trans ((mu_n h6).trans ((mu_n h4).trans ((mu_n h4).trans ((mu_n h3).trans (rfl)))))))))), adI_o (Or.inl (by decide))⟩, by rw [ht99]; exact hP, hI⟩, hS.F ht99⟩) hS.2.2 dX4_make_94
  · skip
    obtain ⟨sa9, hsa9⟩ := hG.2.1.2.2.2.2.2.1 (97, "no more instruments") (by decide +kernel)
    exact vx_throwS (text := "no more instruments") (names := ["java/lang/RuntimeException", "java/lang/Exception"]) hx hb hl9 hown (by decide +kernel) (by decide +kernel) (hts (.classLink RX4 32 "java/lang/IllegalStateException") (by decide +kernel)) (hts (.initialized "java/lang/IllegalStateException") (by decide +kernel)) hsa9 (m_hat hG (fun w h => hts w (List.mem_cons_of_mem _ (List.mem_append_left _ (List.mem_append_left _ (List.mem_append_left _ (List.mem_append_right _ h)))))) (by decide +kernel) (by decide +kernel)) (by decide +kernel) hG.2.2.1 hG.2.2.2.1 hS (hl.1.trans hml.symm) dX4_make_41 dX4_make_44 dX4_make_45 dX4_make_47 dX4_make_50 (fun x hx9 => absurd hx9 (fun q => hxt x q)) (Nat.le_of_ble_eq_true rfl) (Nat.le_of_ble_eq_true rfl) (Nat.le_of_ble_eq_true rfl) (Nat.le_of_ble_eq_true rfl) hlocks (fun t9 _ h92 h93 => m_thrown (px := fun E => exc ["java/lang/IndexOutOfBoundsException", "java/lang/IllegalArgumentException", "java/lang/UnsupportedOperationException", "java/lang/IllegalStateException"] (m_make st p0 p1 p2) E) (E := "java/lang/IllegalStateException") hP hI hS (exc_of (by unfold m_make; first | (rw [chk_p ht9, chk_p hp_r2, chk_p hp_r3, chk_p hp_r4, chk_n (fun q9 => c5 (show nI (nN st) < nI 6 from nI_lt q9 (by omega)))]; done) | (rw [chk_p ht9, chk_p hp_r2, chk_p hp_r3, chk_p hp_r4, chk_n (fun q9 => c5 (show nI (nN st) < nI 6 from nI_lt q9 (by omega)))]; rfl)) rfl) t9 h92 h93) hS.2.2 (Nat.le_of_ble_eq_true rfl) (Nat.le_of_ble_eq_true rfl)

set_option maxHeartbeats 4000000 in
set_option maxRecDepth 100000 in
theorem c_X4_init (l : Launch) (G : mg) (A : Nat → Prop) (Mw : mw) {x0 : Nat} (h_X : Mw x0 = some (.inr (4, [.null, .null, .int 0, .int 0, .int 0, .int 0, .int 0, .int 0, .int 0]))) : Met l yX4_init wsX4_init ({ frames := 1, cells := 2, slots := 14, locals := 20 }) (va_Pc [.ref x0] (mB G A Mw)) (va_Qv (fun Mw1 => ∃ ad : adr, ad 0 0 = x0 ∧ CS G stZ ad Mw1) (mE G A) A) 2 14 A := by
  refine Met.ofW (cc := cX4_init) (maxL := 1) (ret := none) (by decide) rfl ?_
  intro p e s m args below meth c s₁ B hml hv
  obtain ⟨rfl, hG, hP, hI, hA⟩ := hv
  have hx := B.exec
  have hb := B.bytes
  have hr := B.returns
  have hts := atoms_spec (ws := wsX4_init) B.pre
  have hown : s.vm.findClass RX4 = some m.cls := findClass_of_methodNamed B.named
  have hlocks := B.notSynchronized
  have hK := hG.K
  have hin : meth.name = "<init>" := (name_of_methodNamed B.named B.method).1
  have i_X4 : ∀ w ∈ wsX40, w ∈ wsX4_init := by decide +kernel
  have hS : va_S A s.heap s.heap [] := va_S.rf
  have hl := lv_entry ([.ref x0]) (n := 1) (Nat.le_of_ble_eq_true rfl)
  rw [lg_entry_eq]
  generalize (lg_sl ([.ref x0]) ++ List.replicate (1 - (lg_sl ([.ref x0])).length) Slot.unset).toArray = ls at hl ⊢
  have hl : lv_has ls 1 [(0, .ref x0)] := hl
  have hP : mP G.1 Mw s.heap := hP
  refine lv_aload_n hx hb dX4_init_0 rfl (lv_at hl 0 rfl) ?_
  refine W.objInit hx hb hown (hts (.methodLink RX4 3 objectInit) (by decide +kernel)) (hts (.instanceMethod objectInit) (by decide +kernel)) (hts (.code objectInit ⟨#[0xb1]⟩ 1 none) (by decide +kernel)) rfl (by rw [hml]; exact hl.1) rfl dX4_init_1 (Nat.le_of_ble_eq_true rfl) (Nat.le_of_ble_eq_true rfl) ?_
  refine W.eq (g2 := F0 m 4 ls []) rfl ?_
  refine lv_aload_n hx hb dX4_init_4 rfl (lv_at hl 0 rfl) ?_
  refine lv_bipush (v := (8)) hx hb dX4_init_5 (by decide) ?_
  refine m_newq (C := "Meniscus$Tube") (N' := 8) hx hb hown (hts (.classLink RX4 9 RX3) (by decide +kernel)) hG.2.1.2.2.2.2.2.2.2.1 hK hP hI hS hA 3 rfl (by decide) (by decide) (by decide) (Nat.le_of_ble_eq_true rfl) (Nat.le_of_ble_eq_true rfl) dX4_init_7 (fun q1 H hn_q1 hP hI hS => ?_)
  have h_X := mu_x (e := .inl (G.2.1 3, 8, .inr (.inr (.inr (.inr (fun _ => none)))))) h_X hn_q1
  have h_q1 : (mu Mw q1 (.inl (G.2.1 3, 8, .inr (.inr (.inr (.inr (fun _ => none))))))) q1 = some (.inl (G.2.1 3, 8, .inr (.inr (.inr (.inr (fun _ => none)))))) := mu_s
  refine m_putF (ci := 4) (v := .ref q1) (ty := .array (.object "Meniscus$Tube")) (C := RX4) (T := TX4) (N := 9) hx hb hts i_X4 tyX4 tyX4_ok nmX4 hown hK hP hI hS h_X rfl 0 (by decide) (hts (.fieldLink RX4 11 "Meniscus" "tubes" "[LMeniscus$Tube;") (by decide +kernel)) (fun _ h9 => h9) rfl hin rfl (by decide +kernel) rfl rfl (Nat.le_of_ble_eq_true rfl) dX4_init_10 (fun H locs hP hI hS => ?_)
  have hP : mP G.1 (mu (mu Mw q1 (.inl (G.2.1 3, 8, .inr (.inr (.inr (.inr (fun _ => none))))))) x0 (.inr (4, [.ref q1, .null, .int 0, .int 0, .int 0, .int 0, .int 0, .int 0, .int 0]))) H := hP
  have hI : mI A (mu (mu Mw q1 (.inl (G.2.1 3, 8, .inr (.inr (.inr (.inr (fun _ => none))))))) x0 (.inr (4, [.ref q1, .null, .int 0, .int 0, .int 0, .int 0, .int 0, .int 0, .int 0]))) := hI
  have h_q1 := mu_k (e := .inr (4, [.ref q1, .null, .int 0, .int 0, .int 0, .int 0, .int 0, .int 0, .int 0])) (kd_ne h_q1 h_X rfl) h_q1
  have h_X : (mu (mu Mw q1 (.inl (G.2.1 3, 8, .inr (.inr (.inr (.inr (fun _ => none))))))) x0 (.inr (4, [.ref q1, .null, .int 0, .int 0, .int 0, .int 0, .int 0, .int 0, .int 0]))) x0 = some (.inr (4, [.ref q1, .null, .int 0, .int 0, .int 0, .int 0, .int 0, .int 0, .int 0])) := mu_s
  refine lv_aload_n hx hb dX4_init_13 rfl (lv_at hl 0 rfl) ?_
  refine lv_bipush (v := (6)) hx hb dX4_init_14 (by decide) ?_
  refine m_newq (C := "Meniscus$Instrument") (N' := 6) hx hb hown (hts (.classLink RX4 15 RX0) (by decide +kernel)) hG.2.1.2.2.2.2.2.2.2.2.1 hK hP hI hS hA 4 rfl (by decide) (by decide) (by decide) (Nat.le_of_ble_eq_true rfl) (Nat.le_of_ble_eq_true rfl) dX4_init_16 (fun q2 H hn_q2 hP hI hS => ?_)
  have h_X := mu_x (e := .inl (G.2.1 4, 6, .inr (.inr (.inr (.inr (fun _ => none)))))) h_X hn_q2
  have h_q1 := mu_x (e := .inl (G.2.1 4, 6, .inr (.inr (.inr (.inr (fun _ => none)))))) h_q1 hn_q2
  have h_q2 : (mu (mu (mu Mw q1 (.inl (G.2.1 3, 8, .inr (.inr (.inr (.inr (fun _ => none))))))) x0 (.inr (4, [.ref q1, .null, .int 0, .int 0, .int 0, .int 0, .int 0, .int 0, .int 0]))) q2 (.inl (G.2.1 4, 6, .inr (.inr (.inr (.inr (fun _ => none))))))) q2 = some (.inl (G.2.1 4, 6, .inr (.inr (.inr (.inr (fun _ => none)))))) := mu_s
  refine m_putF (ci := 4) (v := .ref q2) (ty := .array (.object "Meniscus$Instrument")) (C := RX4) (T := TX4) (N := 9) hx hb hts i_X4 tyX4 tyX4_ok nmX4 hown hK hP hI hS h_X rfl 1 (by decide) (hts (.fieldLink RX4 17 "Meniscus" "instruments" "[LMeniscus$Instrument;") (by decide +kernel)) (fun _ h9 => h9) rfl hin rfl (by decide +kernel) rfl rfl (Nat.le_of_ble_eq_true rfl) dX4_init_19 (fun H locs hP hI hS => ?_)
  have hP : mP G.1 (mu (mu (mu (mu Mw q1 (.inl (G.2.1 3, 8, .inr (.inr (.inr (.inr (fun _ => none))))))) x0 (.inr (4, [.ref q1, .null, .int 0, .int 0, .int 0, .int 0, .int 0, .int 0, .int 0]))) q2 (.inl (G.2.1 4, 6, .inr (.inr (.inr (.inr (fun _ => none))))))) x0 (.inr (4, [.ref q1, .ref q2, .int 0, .int 0, .int 0, .int 0, .int 0, .int 0, .int 0]))) H := hP
  have hI : mI A (mu (mu (mu (mu Mw q1 (.inl (G.2.1 3, 8, .inr (.inr (.inr (.inr (fun _ => none))))))) x0 (.inr (4, [.ref q1, .null, .int 0, .int 0, .int 0, .int 0, .int 0, .int 0, .int 0]))) q2 (.inl (G.2.1 4, 6, .inr (.inr (.inr (.inr (fun _ => none))))))) x0 (.inr (4, [.ref q1, .ref q2, .int 0, .int 0, .int 0, .int 0, .int 0, .int 0, .int 0]))) := hI
  have h_q1 := mu_k (e := .inr (4, [.ref q1, .ref q2, .int 0, .int 0, .int 0, .int 0, .int 0, .int 0, .int 0])) (kd_ne h_q1 h_X rfl) h_q1
  have h_q2 := mu_k (e := .inr (4, [.ref q1, .ref q2, .int 0, .int 0, .int 0, .int 0, .int 0, .int 0, .int 0])) (kd_ne h_q2 h_X rfl) h_q2
  have h_X : (mu (mu (mu (mu Mw q1 (.inl (G.2.1 3, 8, .inr (.inr (.inr (.inr (fun _ => none))))))) x0 (.inr (4, [.ref q1, .null, .int 0, .int 0, .int 0, .int 0, .int 0, .int 0, .int 0]))) q2 (.inl (G.2.1 4, 6, .inr (.inr (.inr (.inr (fun _ => none))))))) x0 (.inr (4, [.ref q1, .ref q2, .int 0, .int 0, .int 0, .int 0, .int 0, .int 0, .int 0]))) x0 = some (.inr (4, [.ref q1, .ref q2, .int 0, .int 0, .int 0, .int 0, .int 0, .int 0, .int 0])) := mu_s
  refine lv_aload_n hx hb dX4_init_22 rfl (lv_at hl 0 rfl) ?_
  refine lv_sipush (v := (200)) hx hb dX4_init_23 (by decide) ?_
  refine m_put (ci := 4) (v := .int 200) (ty := .int) (C := RX4) (T := TX4) (N := 9) hx hb hts i_X4 tyX4 tyX4_ok nmX4 hown hK hP hI hS h_X rfl 4 (by decide) (hts (.fieldLink RX4 21 "Meniscus" "airTemperature" "I") (by decide +kernel)) (fun _ h9 => h9) rfl (by decide +kernel) rfl rfl (Nat.le_of_ble_eq_true rfl) dX4_init_26 (fun H locs hP hI hS => ?_)
  have hP : mP G.1 (mu (mu (mu (mu (mu Mw q1 (.inl (G.2.1 3, 8, .inr (.inr (.inr (.inr (fun _ => none))))))) x0 (.inr (4, [.ref q1, .null, .int 0, .int 0, .int 0, .int 0, .int 0, .int 0, .int 0]))) q2 (.inl (G.2.1 4, 6, .inr (.inr (.inr (.inr (fun _ => none))))))) x0 (.inr (4, [.ref q1, .ref q2, .int 0, .int 0, .int 0, .int 0, .int 0, .int 0, .int 0]))) x0 (.inr (4, [.ref q1, .ref q2, .int 0, .int 0, .int 200, .int 0, .int 0, .int 0, .int 0]))) H := hP
  have hI : mI A (mu (mu (mu (mu (mu Mw q1 (.inl (G.2.1 3, 8, .inr (.inr (.inr (.inr (fun _ => none))))))) x0 (.inr (4, [.ref q1, .null, .int 0, .int 0, .int 0, .int 0, .int 0, .int 0, .int 0]))) q2 (.inl (G.2.1 4, 6, .inr (.inr (.inr (.inr (fun _ => none))))))) x0 (.inr (4, [.ref q1, .ref q2, .int 0, .int 0, .int 0, .int 0, .int 0, .int 0, .int 0]))) x0 (.inr (4, [.ref q1, .ref q2, .int 0, .int 0, .int 200, .int 0, .int 0, .int 0, .int 0]))) := hI
  have h_q1 := mu_k (e := .inr (4, [.ref q1, .ref q2, .int 0, .int 0, .int 200, .int 0, .int 0, .int 0, .int 0])) (kd_ne h_q1 h_X rfl) h_q1
  have h_q2 := mu_k (e := .inr (4, [.ref q1, .ref q2, .int 0, .int 0, .int 200, .int 0, .int 0, .int 0, .int 0])) (kd_ne h_q2 h_X rfl) h_q2
  rw [mu_uu] at hP hI h_q1 h_q2
  have h_X : (mu (mu (mu (mu Mw q1 (.inl (G.2.1 3, 8, .inr (.inr (.inr (.inr (fun _ => none))))))) x0 (.inr (4, [.ref q1, .null, .int 0, .int 0, .int 0, .int 0, .int 0, .int 0, .int 0]))) q2 (.inl (G.2.1 4, 6, .inr (.inr (.inr (.inr (fun _ => none))))))) x0 (.inr (4, [.ref q1, .ref q2, .int 0, .int 0, .int 200, .int 0, .int 0, .int 0, .int 0]))) x0 = some (.inr (4, [.ref q1, .ref q2, .int 0, .int 0, .int 200, .int 0, .int 0, .int 0, .int 0])) := mu_s
  refine W.widen (k := 2) (n := 14) (Nat.le_of_ble_eq_true rfl) (Nat.le_of_ble_eq_true rfl) ?_
  exact W.vret hx hb hr (fun t99 ht99 hW99 => ⟨⟨(mu (mu (mu (mu Mw q1 (.inl (G.2.1 3, 8, .inr (.inr (.inr (.inr (fun _ => none))))))) x0 (.inr (4, [.ref q1, .null, .int 0, .int 0, .int 0, .int 0, .int 0, .int 0, .int 0]))) q2 (.inl (G.2.1 4, 6, .inr (.inr (.inr (.inr (fun _ => none))))))) x0 (.inr (4, [.ref q1, .ref q2, .int 0, .int 0, .int 200, .int 0, .int 0, .int 0, .int 0]))), rfl, ⟨ad3 x0 q1 q2, rfl, cs_start (kd_ne h_X h_q1 rfl) (kd_ne h_X h_q2 rfl) (Ne.symm (mu_none (mu_none hn_q2).1).2) h_X h_q1 h_q2⟩, by rw [ht99]; exact hP, hI⟩, hS.F ht99⟩) hS.2.2 dX4_init_29
end
section
/-- what a wrapper answers -/
def wan (o : Nat × Int32 × St) : Int32 := if o.1 = 0 then o.2.1 else -900000 - nI o.1
theorem wan_0 {r : Int32} {s : St} : wan (0, r, s) = r := rfl
theorem wan_k {o : Nat × Int32 × St} {k : Nat} (h : o.1 = k + 1) : wan o = -900000 - nI (k + 1) := by
  unfold wan
  rw [if_neg (by omega), h]

theorem rf_draw (st : St) (p0 p1 : Int32) : (m_draw st p0 p1).1 ≠ 0 → (m_draw st p0 p1).2.2 = st := by
  unfold m_draw
  first | exact chk_ref (ref_0) | exact chk_ref (chk_ref (ref_0)) | exact chk_ref (chk_ref (chk_ref (ref_0))) | exact chk_ref (chk_ref (chk_ref (chk_ref (ref_0)))) | exact chk_ref (chk_ref (chk_ref (chk_ref (chk_ref (ref_0))))) | exact chk_ref (chk_ref (chk_ref (chk_ref (chk_ref (chk_ref (ref_0)))))) | exact chk_ref (chk_ref (chk_ref (chk_ref (chk_ref (chk_ref (chk_ref (ref_0)))))))
set_option maxHeartbeats 4000000 in
set_option maxRecDepth 100000 in
theorem c_L_draw (l : Launch) (G : mg) (A : Nat → Prop) (Mw : mw) (hl9 : l.stackTraces = false) (st : St) (ad : adr) (p0 p1 : Int32) (hC : CS G st ad Mw) (hV : Inv st) : vx_Met l yL_draw wsL_draw ({ frames := 8, cells := 4, slots := 34, locals := 127 }) (va_Pc [.ref (ad 0 0), .int p0, .int p1] (mB G A Mw)) (va_Qi (fun r Mw1 => ∃ ad1 : adr, r = wan (m_draw st p0 p1) ∧ CS G (m_draw st p0 p1).2.2 ad1 Mw1 ∧ ad1 0 0 = ad 0 0) (mE G A) A) (xX (fun _ => False) G A Mw) 4 34 A := by
  refine vx_ofWH (cc := cL_draw) (maxL := 4) (ret := (some .int)) (by decide) rfl ?_
  intro p e s m args below meth c s₁ B hml hv
  obtain ⟨rfl, hG, hP, hI, hA⟩ := hv
  have hx := B.exec
  have hb := B.bytes
  have hr := B.returns
  have hts := atoms_spec (ws := wsL_draw) B.pre
  have hown : s.vm.findClass RL = some m.cls := findClass_of_methodNamed B.named
  have hlocks := B.notSynchronized
  have hK := hG.K
  have hS : va_S A s.heap s.heap [] := va_S.rf
  have hl := lv_entry ([.ref (ad 0 0), .int p0, .int p1]) (n := 4) (Nat.le_of_ble_eq_true rfl)
  rw [lg_entry_eq]
  generalize (lg_sl ([.ref (ad 0 0), .int p0, .int p1]) ++ List.replicate (4 - (lg_sl ([.ref (ad 0 0), .int p0, .int p1])).length) Slot.unset).toArray = ls at hl ⊢
  have hl : lv_has ls 4 [(0, .ref (ad 0 0)), (1, .int p0), (2, .int p1)] := hl
  have hP : mP G.1 Mw s.heap := hP
  refine lv_aload_n hx hb dL_draw_0 rfl (lv_at hl 0 rfl) ?_
  refine lv_iload_n hx hb dL_draw_1 rfl (lv_at hl 1 rfl) ?_
  refine lv_iload_n hx hb dL_draw_2 rfl (lv_at hl 2 rfl) ?_
  refine mx_calli (vx_runV (As := [.int p0, .int p1]) (rest := []) ⟨hx, hb, hml, hown, hts⟩ (c_X4_draw l G A Mw hl9 st ad p0 p1 hC hV) (cwV 2 hts gL_draw_X4_draw rfl rfl rfl (by decide +kernel) ⟨Nat.le_of_ble_eq_true rfl, Nat.le_of_ble_eq_true rfl⟩) (mPreV hG hS hP hI hA (hP (ad 0 0) _ (hC.1 0 0 (ok0 st))) (r := (RX4, TX4, 9)) rfl) rfl rfl hl.1 rfl (lv_room (Nat.le_of_ble_eq_true rfl)) dL_draw_3 ⟨Nat.le_of_ble_eq_true rfl, Nat.le_of_ble_eq_true rfl⟩) hS (fun E9 ce9 q9 H locs hpx9 hP hI hS hc9 hv9 hcl9 => ?_) (fun r9 Mw1 H locs hp9 hP hI hS => ?_)
  · obtain ⟨k9, hk9, hnm9⟩ := hpx9
    have hT : c.exceptionTable.toList = tableOf [(0, 6, 7, 15), (0, 6, 11, 18)] := vx_table (x := yL_draw) B (hts _ List.mem_cons_self)
    have hrf : (m_draw st p0 p1).2.2 = st := rf_draw st p0 p1 (by rw [hk9]; omega)
    match k9, hk9, hnm9 with
    | 0, hk9, hnm9 =>
      cases hnm9
      refine vx_catch (E := "java/lang/IllegalArgumentException") (name := "java/lang/IllegalArgumentException") hown [] ⟨0, 6, 7, 15⟩ [⟨0, 6, 11, 18⟩] hT (fun z hz => by cases hz) rfl (by decide) (hts (.classLink RL 15 "java/lang/IllegalArgumentException") (by decide +kernel)) (va_Nw.use rfl (hG.2.1.2.2.2.1 ("java/lang/IllegalArgumentException", "java/lang/IllegalArgumentException") (by decide +kernel))) hc9 hv9 hcl9 ?_
      refine lv_astore_n (lv' := [(3, .ref q9), (0, .ref (ad 0 0)), (1, .int p0), (2, .int p1)]) hx hb dL_draw_7 rfl hl (by decide) rfl (fun ls hl => ?_)
      refine lv_ldc (v := (-900001)) hx hb hown (hts (.constant RL 17 (-900001)) (by decide +kernel)) dL_draw_8 ?_
      refine W.widen (k := 4) (n := 34) (Nat.le_of_ble_eq_true rfl) (Nat.le_of_ble_eq_true rfl) ?_
      refine vx_ret ?_
      exact W.iret (v := (-900001)) hx hb hr (fun t99 ht99 hW99 => ⟨⟨(-900001), Mw, rfl, ⟨ad, by rw [wan_k hk9]; rfl, by rw [hrf]; exact hC, rfl⟩, by rw [ht99]; exact hP, hI⟩, hS.F ht99⟩) hS.2.2 dL_draw_10
    | 1, hk9, hnm9 =>
      cases hnm9
      refine vx_catch (E := "java/lang/IllegalStateException") (name := "java/lang/IllegalStateException") hown [⟨0, 6, 7, 15⟩] ⟨0, 6, 11, 18⟩ [] hT (List.forall_mem_cons.mpr ⟨Or.inr ⟨by decide, "java/lang/IllegalArgumentException", hts (.classLink RL 15 "java/lang/IllegalArgumentException") (by decide +kernel), hG.2.1.2.2.2.2.1 ("java/lang/IllegalStateException", "java/lang/IllegalArgumentException") (by decide +kernel)⟩, (fun z hz => by cases hz)⟩) rfl (by decide) (hts (.classLink RL 18 "java/lang/IllegalStateException") (by decide +kernel)) (va_Nw.use rfl (hG.2.1.2.2.2.1 ("java/lang/IllegalStateException", "java/lang/IllegalStateException") (by decide +kernel))) hc9 hv9 hcl9 ?_
      refine lv_astore_n (lv' := [(3, .ref q9), (0, .ref (ad 0 0)), (1, .int p0), (2, .int p1)]) hx hb dL_draw_11 rfl hl (by decide) rfl (fun ls hl => ?_)
      refine lv_ldc (v := (-900002)) hx hb hown (hts (.constant RL 20 (-900002)) (by decide +kernel)) dL_draw_12 ?_
      refine W.widen (k := 4) (n := 34) (Nat.le_of_ble_eq_true rfl) (Nat.le_of_ble_eq_true rfl) ?_
      refine vx_ret ?_
      exact W.iret (v := (-900002)) hx hb hr (fun t99 ht99 hW99 => ⟨⟨(-900002), Mw, rfl, ⟨ad, by rw [wan_k hk9]; rfl, by rw [hrf]; exact hC, rfl⟩, by rw [ht99]; exact hP, hI⟩, hS.F ht99⟩) hS.2.2 dL_draw_14
    | (k9 + 2), hk9, hnm9 => cases hnm9
  obtain ⟨s9, ad9, hop, hC9, ha9⟩ := hp9
  refine W.widen (k := 4) (n := 34) (Nat.le_of_ble_eq_true rfl) (Nat.le_of_ble_eq_true rfl) ?_
  refine vx_ret ?_
  exact W.iret (v := r9) hx hb hr (fun t99 ht99 hW99 => ⟨⟨r9, Mw1, rfl, ⟨ad9, by rw [hop]; rfl, by rw [hop]; exact hC9, ha9⟩, by rw [ht99]; exact hP, hI⟩, hS.F ht99⟩) hS.2.2 dL_draw_6

theorem rf_section (st : St) (p0 p1 p2 : Int32) : (m_section st p0 p1 p2).1 ≠ 0 → (m_section st p0 p1 p2).2.2 = st := by
  unfold m_section
  first | exact chk_ref (ref_0) | exact chk_ref (chk_ref (ref_0)) | exact chk_ref (chk_ref (chk_ref (ref_0))) | exact chk_ref (chk_ref (chk_ref (chk_ref (ref_0)))) | exact chk_ref (chk_ref (chk_ref (chk_ref (chk_ref (ref_0))))) | exact chk_ref (chk_ref (chk_ref (chk_ref (chk_ref (chk_ref (ref_0)))))) | exact chk_ref (chk_ref (chk_ref (chk_ref (chk_ref (chk_ref (chk_ref (ref_0)))))))
set_option maxHeartbeats 4000000 in
set_option maxRecDepth 100000 in
theorem c_L_section (l : Launch) (G : mg) (A : Nat → Prop) (Mw : mw) (hl9 : l.stackTraces = false) (st : St) (ad : adr) (p0 p1 p2 : Int32) (hC : CS G st ad Mw) (hV : Inv st) : vx_Met l yL_section wsL_section ({ frames := 8, cells := 4, slots := 24, locals := 129 }) (va_Pc [.ref (ad 0 0), .int p0, .int p1, .int p2] (mB G A Mw)) (va_Qi (fun r Mw1 => ∃ ad1 : adr, r = wan (m_section st p0 p1 p2) ∧ CS G (m_section st p0 p1 p2).2.2 ad1 Mw1 ∧ ad1 0 0 = ad 0 0) (mE G A) A) (xX (fun _ => False) G A Mw) 4 24 A := by
  refine vx_ofWH (cc := cL_section) (maxL := 5) (ret := (some .int)) (by decide) rfl ?_
  intro p e s m args below meth c s₁ B hml hv
  obtain ⟨rfl, hG, hP, hI, hA⟩ := hv
  have hx := B.exec
  have hb := B.bytes
  have hr := B.returns
  have hts := atoms_spec (ws := wsL_section) B.pre
  have hown : s.vm.findClass RL = some m.cls := findClass_of_methodNamed B.named
  have hlocks := B.notSynchronized
  have hK := hG.K
  have hS : va_S A s.heap s.heap [] := va_S.rf
  have hl := lv_entry ([.ref (ad 0 0), .int p0, .int p1, .int p2]) (n := 5) (Nat.le_of_ble_eq_true rfl)
  rw [lg_entry_eq]
  generalize (lg_sl ([.ref (ad 0 0), .int p0, .int p1, .int p2]) ++ List.replicate (5 - (lg_sl ([.ref (ad 0 0), .int p0, .int p1, .int p2])).length) Slot.unset).toArray = ls at hl ⊢
  have hl : lv_has ls 5 [(0, .ref (ad 0 0)), (1, .int p0), (2, .int p1), (3, .int p2)] := hl
  have hP : mP G.1 Mw s.heap := hP
  refine lv_aload_n hx hb dL_section_0 rfl (lv_at hl 0 rfl) ?_
  refine lv_iload_n hx hb dL_section_1 rfl (lv_at hl 1 rfl) ?_
  refine lv_iload_n hx hb dL_section_2 rfl (lv_at hl 2 rfl) ?_
  refine lv_iload_n hx hb dL_section_3 rfl (lv_at hl 3 rfl) ?_
  refine mx_calli (vx_runV (As := [.int p0, .int p1, .int p2]) (rest := []) ⟨hx, hb, hml, hown, hts⟩ (c_X4_section l G A Mw hl9 st ad p0 p1 p2 hC hV) (cwV 3 hts gL_section_X4_section rfl rfl rfl (by decide +kernel) ⟨Nat.le_of_ble_eq_true rfl, Nat.le_of_ble_eq_true rfl⟩) (mPreV hG hS hP hI hA (hP (ad 0 0) _ (hC.1 0 0 (ok0 st))) (r := (RX4, TX4, 9)) rfl) rfl rfl hl.1 rfl (lv_room (Nat.le_of_ble_eq_true rfl)) dL_section_4 ⟨Nat.le_of_ble_eq_true rfl, Nat.le_of_ble_eq_true rfl⟩) hS (fun E9 ce9 q9 H locs hpx9 hP hI hS hc9 hv9 hcl9 => ?_) (fun r9 Mw1 H locs hp9 hP hI hS => ?_)
  · obtain ⟨k9, hk9, hnm9⟩ := hpx9
    have hT : c.exceptionTable.toList = tableOf [(0, 7, 8, 25), (0, 7, 13, 15), (0, 7, 18, 27)] := vx_table (x := yL_section) B (hts _ List.mem_cons_self)
    have hrf : (m_section st p0 p1 p2).2.2 = st := rf_section st p0 p1 p2 (by rw [hk9]; omega)
    match k9, hk9, hnm9 with
    | 0, hk9, hnm9 =>
      cases hnm9
      refine vx_catch (E := "java/lang/IndexOutOfBoundsException") (name := "java/lang/IndexOutOfBoundsException") hown [] ⟨0, 7, 8, 25⟩ [⟨0, 7, 13, 15⟩, ⟨0, 7, 18, 27⟩] hT (fun z hz => by cases hz) rfl (by decide) (hts (.classLink RL 25 "java/lang/IndexOutOfBoundsException") (by decide +kernel)) (va_Nw.use rfl (hG.2.1.2.2.2.1 ("java/lang/IndexOutOfBoundsException", "java/lang/IndexOutOfBoundsException") (by decide +kernel))) hc9 hv9 hcl9 ?_
      refine lv_astore (lv' := [(4, .ref q9), (0, .ref (ad 0 0)), (1, .int p0), (2, .int p1), (3, .int p2)]) hx hb dL_section_8 hl (by decide) rfl (fun ls hl => ?_)
      refine lv_ldc (v := (-900001)) hx hb hown (hts (.constant RL 17 (-900001)) (by decide +kernel)) dL_section_10 ?_
      refine W.widen (k := 4) (n := 24) (Nat.le_of_ble_eq_true rfl) (Nat.le_of_ble_eq_true rfl) ?_
      refine vx_ret ?_
      exact W.iret (v := (-900001)) hx hb hr (fun t99 ht99 hW99 => ⟨⟨(-900001), Mw, rfl, ⟨ad, by rw [wan_k hk9]; rfl, by rw [hrf]; exact hC, rfl⟩, by rw [ht99]; exact hP, hI⟩, hS.F ht99⟩) hS.2.2 dL_section_12
    | 1, hk9, hnm9 =>
      cases hnm9
      refine vx_catch (E := "java/lang/IllegalArgumentException") (name := "java/lang/IllegalArgumentException") hown [⟨0, 7, 8, 25⟩] ⟨0, 7, 13, 15⟩ [⟨0, 7, 18, 27⟩] hT (List.forall_mem_cons.mpr ⟨Or.inr ⟨by decide, "java/lang/IndexOutOfBoundsException", hts (.classLink RL 25 "java/lang/IndexOutOfBoundsException") (by decide +kernel), hG.2.1.2.2.2.2.1 ("java/lang/IllegalArgumentException", "java/lang/IndexOutOfBoundsException") (by decide +kernel)⟩, (fun z hz => by cases hz)⟩) rfl (by decide) (hts (.classLink RL 15 "java/lang/IllegalArgumentException") (by decide +kernel)) (va_Nw.use rfl (hG.2.1.2.2.2.1 ("java/lang/IllegalArgumentException", "java/lang/IllegalArgumentException") (by decide +kernel))) hc9 hv9 hcl9 ?_
      refine lv_astore (lv' := [(4, .ref q9), (0, .ref (ad 0 0)), (1, .int p0), (2, .int p1), (3, .int p2)]) hx hb dL_section_13 hl (by decide) rfl (fun ls hl => ?_)
      refine lv_ldc (v := (-900002)) hx hb hown (hts (.constant RL 20 (-900002)) (by decide +kernel)) dL_section_15 ?_
      refine W.widen (k := 4) (n := 24) (Nat.le_of_ble_eq_true rfl) (Nat.le_of_ble_eq_true rfl) ?_
      refine vx_ret ?_
      exact W.iret (v := (-900002)) hx hb hr (fun t99 ht99 hW99 => ⟨⟨(-900002), Mw, rfl, ⟨ad, by rw [wan_k hk9]; rfl, by rw [hrf]; exact hC, rfl⟩, by rw [ht99]; exact hP, hI⟩, hS.F ht99⟩) hS.2.2 dL_section_17
    | 2, hk9, hnm9 =>
      cases hnm9
      refine vx_catch (E := "java/lang/UnsupportedOperationException") (name := "java/lang/UnsupportedOperationException") hown [⟨0, 7, 8, 25⟩, ⟨0, 7, 13, 15⟩] ⟨0, 7, 18, 27⟩ [] hT (List.forall_mem_cons.mpr ⟨Or.inr ⟨by decide, "java/lang/IndexOutOfBoundsException", hts (.classLink RL 25 "java/lang/IndexOutOfBoundsException") (by decide +kernel), hG.2.1.2.2.2.2.1 ("java/lang/UnsupportedOperationException", "java/lang/IndexOutOfBoundsException") (by decide +kernel)⟩, (List.forall_mem_cons.mpr ⟨Or.inr ⟨by decide, "java/lang/IllegalArgumentException", hts (.classLink RL 15 "java/lang/IllegalArgumentException") (by decide +kernel), hG.2.1.2.2.2.2.1 ("java/lang/UnsupportedOperationException", "java/lang/IllegalArgumentException") (by decide +kernel)⟩, (fun z hz => by cases hz)⟩)⟩) rfl (by decide) (hts (.classLink RL 27 "java/lang/UnsupportedOperationException") (by decide +kernel)) (va_Nw.use rfl (hG.2.1.2.2.2.1 ("java/lang/UnsupportedOperationException", "java/lang/UnsupportedOperationException") (by decide +kernel))) hc9 hv9 hcl9 ?_
      refine lv_astore (lv' := [(4, .ref q9), (0, .ref (ad 0 0)), (1, .int p0), (2, .int p1), (3, .int p2)]) hx hb dL_section_18 hl (by decide) rfl (fun ls hl => ?_)
      refine lv_ldc (v := (-900003)) hx hb hown (hts (.constant RL 29 (-900003)) (by decide +kernel)) dL_section_20 ?_
      refine W.widen (k := 4) (n := 24) (Nat.le_of_ble_eq_true rfl) (Nat.le_of_ble_eq_true rfl) ?_
      refine vx_ret ?_
      exact W.iret (v := (-900003)) hx hb hr (fun t99 ht99 hW99 => ⟨⟨(-900003), Mw, rfl, ⟨ad, by rw [wan_k hk9]; rfl, by rw [hrf]; exact hC, rfl⟩, by rw [ht99]; exact hP, hI⟩, hS.F ht99⟩) hS.2.2 dL_section_22
    | (k9 + 3), hk9, hnm9 => cases hnm9
  obtain ⟨s9, ad9, hop, hC9, ha9⟩ := hp9
  refine W.widen (k := 4) (n := 24) (Nat.le_of_ble_eq_true rfl) (Nat.le_of_ble_eq_true rfl) ?_
  refine vx_ret ?_
  exact W.iret (v := r9) hx hb hr (fun t99 ht99 hW99 => ⟨⟨r9, Mw1, rfl, ⟨ad9, by rw [hop]; rfl, by rw [hop]; exact hC9, ha9⟩, by rw [ht99]; exact hP, hI⟩, hS.F ht99⟩) hS.2.2 dL_section_7

theorem rf_bore (st : St) (p0 p1 : Int32) : (m_bore st p0 p1).1 ≠ 0 → (m_bore st p0 p1).2.2 = st := by
  unfold m_bore
  first | exact chk_ref (ref_0) | exact chk_ref (chk_ref (ref_0)) | exact chk_ref (chk_ref (chk_ref (ref_0))) | exact chk_ref (chk_ref (chk_ref (chk_ref (ref_0)))) | exact chk_ref (chk_ref (chk_ref (chk_ref (chk_ref (ref_0))))) | exact chk_ref (chk_ref (chk_ref (chk_ref (chk_ref (chk_ref (ref_0)))))) | exact chk_ref (chk_ref (chk_ref (chk_ref (chk_ref (chk_ref (chk_ref (ref_0)))))))
set_option maxHeartbeats 4000000 in
set_option maxRecDepth 100000 in
theorem c_L_bore (l : Launch) (G : mg) (A : Nat → Prop) (Mw : mw) (hl9 : l.stackTraces = false) (st : St) (ad : adr) (p0 p1 : Int32) (hC : CS G st ad Mw) (hV : Inv st) : vx_Met l yL_bore wsL_bore ({ frames := 8, cells := 2, slots := 12, locals := 127 }) (va_Pc [.ref (ad 0 0), .int p0, .int p1] (mB G A Mw)) (va_Qi (fun r Mw1 => ∃ ad1 : adr, r = wan (m_bore st p0 p1) ∧ CS G (m_bore st p0 p1).2.2 ad1 Mw1 ∧ ad1 0 0 = ad 0 0) (mE G A) A) (xX (fun _ => False) G A Mw) 2 12 A := by
  refine vx_ofWH (cc := cL_bore) (maxL := 4) (ret := (some .int)) (by decide) rfl ?_
  intro p e s m args below meth c s₁ B hml hv
  obtain ⟨rfl, hG, hP, hI, hA⟩ := hv
  have hx := B.exec
  have hb := B.bytes
  have hr := B.returns
  have hts := atoms_spec (ws := wsL_bore) B.pre
  have hown : s.vm.findClass RL = some m.cls := findClass_of_methodNamed B.named
  have hlocks := B.notSynchronized
  have hK := hG.K
  have hS : va_S A s.heap s.heap [] := va_S.rf
  have hl := lv_entry ([.ref (ad 0 0), .int p0, .int p1]) (n := 4) (Nat.le_of_ble_eq_true rfl)
  rw [lg_entry_eq]
  generalize (lg_sl ([.ref (ad 0 0), .int p0, .int p1]) ++ List.replicate (4 - (lg_sl ([.ref (ad 0 0), .int p0, .int p1])).length) Slot.unset).toArray = ls at hl ⊢
  have hl : lv_has ls 4 [(0, .ref (ad 0 0)), (1, .int p0), (2, .int p1)] := hl
  have hP : mP G.1 Mw s.heap := hP
  refine lv_aload_n hx hb dL_bore_0 rfl (lv_at hl 0 rfl) ?_
  refine lv_iload_n hx hb dL_bore_1 rfl (lv_at hl 1 rfl) ?_
  refine lv_iload_n hx hb dL_bore_2 rfl (lv_at hl 2 rfl) ?_
  refine mx_calli (vx_runV (As := [.int p0, .int p1]) (rest := []) ⟨hx, hb, hml, hown, hts⟩ (c_X4_bore l G A Mw hl9 st ad p0 p1 hC hV) (cwV 2 hts gL_bore_X4_bore rfl rfl rfl (by decide +kernel) ⟨Nat.le_of_ble_eq_true rfl, Nat.le_of_ble_eq_true rfl⟩) (mPreV hG hS hP hI hA (hP (ad 0 0) _ (hC.1 0 0 (ok0 st))) (r := (RX4, TX4, 9)) rfl) rfl rfl hl.1 rfl (lv_room (Nat.le_of_ble_eq_true rfl)) dL_bore_3 ⟨Nat.le_of_ble_eq_true rfl, Nat.le_of_ble_eq_true rfl⟩) hS (fun E9 ce9 q9 H locs hpx9 hP hI hS hc9 hv9 hcl9 => ?_) (fun r9 Mw1 H locs hp9 hP hI hS => ?_)
  · obtain ⟨k9, hk9, hnm9⟩ := hpx9
    have hT : c.exceptionTable.toList = tableOf [(0, 6, 7, 25), (0, 6, 11, 15)] := vx_table (x := yL_bore) B (hts _ List.mem_cons_self)
    have hrf : (m_bore st p0 p1).2.2 = st := rf_bore st p0 p1 (by rw [hk9]; omega)
    match k9, hk9, hnm9 with
    | 0, hk9, hnm9 =>
      cases hnm9
      refine vx_catch (E := "java/lang/IndexOutOfBoundsException") (name := "java/lang/IndexOutOfBoundsException") hown [] ⟨0, 6, 7, 25⟩ [⟨0, 6, 11, 15⟩] hT (fun z hz => by cases hz) rfl (by decide) (hts (.classLink RL 25 "java/lang/IndexOutOfBoundsException") (by decide +kernel)) (va_Nw.use rfl (hG.2.1.2.2.2.1 ("java/lang/IndexOutOfBoundsException", "java/lang/IndexOutOfBoundsException") (by decide +kernel))) hc9 hv9 hcl9 ?_
      refine lv_astore_n (lv' := [(3, .ref q9), (0, .ref (ad 0 0)), (1, .int p0), (2, .int p1)]) hx hb dL_bore_7 rfl hl (by decide) rfl (fun ls hl => ?_)
      refine lv_ldc (v := (-900001)) hx hb hown (hts (.constant RL 17 (-900001)) (by decide +kernel)) dL_bore_8 ?_
      refine W.widen (k := 2) (n := 12) (Nat.le_of_ble_eq_true rfl) (Nat.le_of_ble_eq_true rfl) ?_
      refine vx_ret ?_
      exact W.iret (v := (-900001)) hx hb hr (fun t99 ht99 hW99 => ⟨⟨(-900001), Mw, rfl, ⟨ad, by rw [wan_k hk9]; rfl, by rw [hrf]; exact hC, rfl⟩, by rw [ht99]; exact hP, hI⟩, hS.F ht99⟩) hS.2.2 dL_bore_10
    | 1, hk9, hnm9 =>
      cases hnm9
      refine vx_catch (E := "java/lang/IllegalArgumentException") (name := "java/lang/IllegalArgumentException") hown [⟨0, 6, 7, 25⟩] ⟨0, 6, 11, 15⟩ [] hT (List.forall_mem_cons.mpr ⟨Or.inr ⟨by decide, "java/lang/IndexOutOfBoundsException", hts (.classLink RL 25 "java/lang/IndexOutOfBoundsException") (by decide +kernel), hG.2.1.2.2.2.2.1 ("java/lang/IllegalArgumentException", "java/lang/IndexOutOfBoundsException") (by decide +kernel)⟩, (fun z hz => by cases hz)⟩) rfl (by decide) (hts (.classLink RL 15 "java/lang/IllegalArgumentException") (by decide +kernel)) (va_Nw.use rfl (hG.2.1.2.2.2.1 ("java/lang/IllegalArgumentException", "java/lang/IllegalArgumentException") (by decide +kernel))) hc9 hv9 hcl9 ?_
      refine lv_astore_n (lv' := [(3, .ref q9), (0, .ref (ad 0 0)), (1, .int p0), (2, .int p1)]) hx hb dL_bore_11 rfl hl (by decide) rfl (fun ls hl => ?_)
      refine lv_ldc (v := (-900002)) hx hb hown (hts (.constant RL 20 (-900002)) (by decide +kernel)) dL_bore_12 ?_
      refine W.widen (k := 2) (n := 12) (Nat.le_of_ble_eq_true rfl) (Nat.le_of_ble_eq_true rfl) ?_
      refine vx_ret ?_
      exact W.iret (v := (-900002)) hx hb hr (fun t99 ht99 hW99 => ⟨⟨(-900002), Mw, rfl, ⟨ad, by rw [wan_k hk9]; rfl, by rw [hrf]; exact hC, rfl⟩, by rw [ht99]; exact hP, hI⟩, hS.F ht99⟩) hS.2.2 dL_bore_14
    | (k9 + 2), hk9, hnm9 => cases hnm9
  obtain ⟨s9, ad9, hop, hC9, ha9⟩ := hp9
  refine W.widen (k := 2) (n := 12) (Nat.le_of_ble_eq_true rfl) (Nat.le_of_ble_eq_true rfl) ?_
  refine vx_ret ?_
  exact W.iret (v := r9) hx hb hr (fun t99 ht99 hW99 => ⟨⟨r9, Mw1, rfl, ⟨ad9, by rw [hop]; rfl, by rw [hop]; exact hC9, ha9⟩, by rw [ht99]; exact hP, hI⟩, hS.F ht99⟩) hS.2.2 dL_bore_6

theorem rf_volume (st : St) (p0 p1 : Int32) : (m_volume st p0 p1).1 ≠ 0 → (m_volume st p0 p1).2.2 = st := by
  unfold m_volume
  first | exact chk_ref (ref_0) | exact chk_ref (chk_ref (ref_0)) | exact chk_ref (chk_ref (chk_ref (ref_0))) | exact chk_ref (chk_ref (chk_ref (chk_ref (ref_0)))) | exact chk_ref (chk_ref (chk_ref (chk_ref (chk_ref (ref_0))))) | exact chk_ref (chk_ref (chk_ref (chk_ref (chk_ref (chk_ref (ref_0)))))) | exact chk_ref (chk_ref (chk_ref (chk_ref (chk_ref (chk_ref (chk_ref (ref_0)))))))
set_option maxHeartbeats 4000000 in
set_option maxRecDepth 100000 in
theorem c_L_volume (l : Launch) (G : mg) (A : Nat → Prop) (Mw : mw) (hl9 : l.stackTraces = false) (st : St) (ad : adr) (p0 p1 : Int32) (hC : CS G st ad Mw) (hV : Inv st) : vx_Met l yL_volume wsL_volume ({ frames := 9, cells := 2, slots := 12, locals := 147 }) (va_Pc [.ref (ad 0 0), .int p0, .int p1] (mB G A Mw)) (va_Qi (fun r Mw1 => ∃ ad1 : adr, r = wan (m_volume st p0 p1) ∧ CS G (m_volume st p0 p1).2.2 ad1 Mw1 ∧ ad1 0 0 = ad 0 0) (mE G A) A) (xX (fun _ => False) G A Mw) 2 12 A := by
  refine vx_ofWH (cc := cL_volume) (maxL := 4) (ret := (some .int)) (by decide) rfl ?_
  intro p e s m args below meth c s₁ B hml hv
  obtain ⟨rfl, hG, hP, hI, hA⟩ := hv
  have hx := B.exec
  have hb := B.bytes
  have hr := B.returns
  have hts := atoms_spec (ws := wsL_volume) B.pre
  have hown : s.vm.findClass RL = some m.cls := findClass_of_methodNamed B.named
  have hlocks := B.notSynchronized
  have hK := hG.K
  have hS : va_S A s.heap s.heap [] := va_S.rf
  have hl := lv_entry ([.ref (ad 0 0), .int p0, .int p1]) (n := 4) (Nat.le_of_ble_eq_true rfl)
  rw [lg_entry_eq]
  generalize (lg_sl ([.ref (ad 0 0), .int p0, .int p1]) ++ List.replicate (4 - (lg_sl ([.ref (ad 0 0), .int p0, .int p1])).length) Slot.unset).toArray = ls at hl ⊢
  have hl : lv_has ls 4 [(0, .ref (ad 0 0)), (1, .int p0), (2, .int p1)] := hl
  have hP : mP G.1 Mw s.heap := hP
  refine lv_aload_n hx hb dL_volume_0 rfl (lv_at hl 0 rfl) ?_
  refine lv_iload_n hx hb dL_volume_1 rfl (lv_at hl 1 rfl) ?_
  refine lv_iload_n hx hb dL_volume_2 rfl (lv_at hl 2 rfl) ?_
  refine mx_calli (vx_runV (As := [.int p0, .int p1]) (rest := []) ⟨hx, hb, hml, hown, hts⟩ (c_X4_volume l G A Mw hl9 st ad p0 p1 hC hV) (cwV 2 hts gL_volume_X4_volume rfl rfl rfl (by decide +kernel) ⟨Nat.le_of_ble_eq_true rfl, Nat.le_of_ble_eq_true rfl⟩) (mPreV hG hS hP hI hA (hP (ad 0 0) _ (hC.1 0 0 (ok0 st))) (r := (RX4, TX4, 9)) rfl) rfl rfl hl.1 rfl (lv_room (Nat.le_of_ble_eq_true rfl)) dL_volume_3 ⟨Nat.le_of_ble_eq_true rfl, Nat.le_of_ble_eq_true rfl⟩) hS (fun E9 ce9 q9 H locs hpx9 hP hI hS hc9 hv9 hcl9 => ?_) (fun r9 Mw1 H locs hp9 hP hI hS => ?_)
  · obtain ⟨k9, hk9, hnm9⟩ := hpx9
    have hT : c.exceptionTable.toList = tableOf [(0, 6, 7, 25), (0, 6, 11, 15)] := vx_table (x := yL_volume) B (hts _ List.mem_cons_self)
    have hrf : (m_volume st p0 p1).2.2 = st := rf_volume st p0 p1 (by rw [hk9]; omega)
    match k9, hk9, hnm9 with
    | 0, hk9, hnm9 =>
      cases hnm9
      refine vx_catch (E := "java/lang/IndexOutOfBoundsException") (name := "java/lang/IndexOutOfBoundsException") hown [] ⟨0, 6, 7, 25⟩ [⟨0, 6, 11, 15⟩] hT (fun z hz => by cases hz) rfl (by decide) (hts (.classLink RL 25 "java/lang/IndexOutOfBoundsException") (by decide +kernel)) (va_Nw.use rfl (hG.2.1.2.2.2.1 ("java/lang/IndexOutOfBoundsException", "java/lang/IndexOutOfBoundsException") (by decide +kernel))) hc9 hv9 hcl9 ?_
      refine lv_astore_n (lv' := [(3, .ref q9), (0, .ref (ad 0 0)), (1, .int p0), (2, .int p1)]) hx hb dL_volume_7 rfl hl (by decide) rfl (fun ls hl => ?_)
      refine lv_ldc (v := (-900001)) hx hb hown (hts (.constant RL 17 (-900001)) (by decide +kernel)) dL_volume_8 ?_
      refine W.widen (k := 2) (n := 12) (Nat.le_of_ble_eq_true rfl) (Nat.le_of_ble_eq_true rfl) ?_
      refine vx_ret ?_
      exact W.iret (v := (-900001)) hx hb hr (fun t99 ht99 hW99 => ⟨⟨(-900001), Mw, rfl, ⟨ad, by rw [wan_k hk9]; rfl, by rw [hrf]; exact hC, rfl⟩, by rw [ht99]; exact hP, hI⟩, hS.F ht99⟩) hS.2.2 dL_volume_10
    | 1, hk9, hnm9 =>
      cases hnm9
      refine vx_catch (E := "java/lang/IllegalArgumentException") (name := "java/lang/IllegalArgumentException") hown [⟨0, 6, 7, 25⟩] ⟨0, 6, 11, 15⟩ [] hT (List.forall_mem_cons.mpr ⟨Or.inr ⟨by decide, "java/lang/IndexOutOfBoundsException", hts (.classLink RL 25 "java/lang/IndexOutOfBoundsException") (by decide +kernel), hG.2.1.2.2.2.2.1 ("java/lang/IllegalArgumentException", "java/lang/IndexOutOfBoundsException") (by decide +kernel)⟩, (fun z hz => by cases hz)⟩) rfl (by decide) (hts (.classLink RL 15 "java/lang/IllegalArgumentException") (by decide +kernel)) (va_Nw.use rfl (hG.2.1.2.2.2.1 ("java/lang/IllegalArgumentException", "java/lang/IllegalArgumentException") (by decide +kernel))) hc9 hv9 hcl9 ?_
      refine lv_astore_n (lv' := [(3, .ref q9), (0, .ref (ad 0 0)), (1, .int p0), (2, .int p1)]) hx hb dL_volume_11 rfl hl (by decide) rfl (fun ls hl => ?_)
      refine lv_ldc (v := (-900002)) hx hb hown (hts (.constant RL 20 (-900002)) (by decide +kernel)) dL_volume_12 ?_
      refine W.widen (k := 2) (n := 12) (Nat.le_of_ble_eq_true rfl) (Nat.le_of_ble_eq_true rfl) ?_
      refine vx_ret ?_
      exact W.iret (v := (-900002)) hx hb hr (fun t99 ht99 hW99 => ⟨⟨(-900002), Mw, rfl, ⟨ad, by rw [wan_k hk9]; rfl, by rw [hrf]; exact hC, rfl⟩, by rw [ht99]; exact hP, hI⟩, hS.F ht99⟩) hS.2.2 dL_volume_14
    | (k9 + 2), hk9, hnm9 => cases hnm9
  obtain ⟨s9, ad9, hop, hC9, ha9⟩ := hp9
  refine W.widen (k := 2) (n := 12) (Nat.le_of_ble_eq_true rfl) (Nat.le_of_ble_eq_true rfl) ?_
  refine vx_ret ?_
  exact W.iret (v := r9) hx hb hr (fun t99 ht99 hW99 => ⟨⟨r9, Mw1, rfl, ⟨ad9, by rw [hop]; rfl, by rw [hop]; exact hC9, ha9⟩, by rw [ht99]; exact hP, hI⟩, hS.F ht99⟩) hS.2.2 dL_volume_6

theorem rf_thread (st : St) (p0 p1 p2 : Int32) : (m_thread st p0 p1 p2).1 ≠ 0 → (m_thread st p0 p1 p2).2.2 = st := by
  unfold m_thread
  first | exact chk_ref (ref_0) | exact chk_ref (chk_ref (ref_0)) | exact chk_ref (chk_ref (chk_ref (ref_0))) | exact chk_ref (chk_ref (chk_ref (chk_ref (ref_0)))) | exact chk_ref (chk_ref (chk_ref (chk_ref (chk_ref (ref_0))))) | exact chk_ref (chk_ref (chk_ref (chk_ref (chk_ref (chk_ref (ref_0)))))) | exact chk_ref (chk_ref (chk_ref (chk_ref (chk_ref (chk_ref (chk_ref (ref_0)))))))
set_option maxHeartbeats 4000000 in
set_option maxRecDepth 100000 in
theorem c_L_thread (l : Launch) (G : mg) (A : Nat → Prop) (Mw : mw) (hl9 : l.stackTraces = false) (st : St) (ad : adr) (p0 p1 p2 : Int32) (hC : CS G st ad Mw) (hV : Inv st) : vx_Met l yL_thread wsL_thread ({ frames := 9, cells := 4, slots := 24, locals := 149 }) (va_Pc [.ref (ad 0 0), .int p0, .int p1, .int p2] (mB G A Mw)) (va_Qi (fun r Mw1 => ∃ ad1 : adr, r = wan (m_thread st p0 p1 p2) ∧ CS G (m_thread st p0 p1 p2).2.2 ad1 Mw1 ∧ ad1 0 0 = ad 0 0) (mE G A) A) (xX (fun _ => False) G A Mw) 4 24 A := by
  refine vx_ofWH (cc := cL_thread) (maxL := 5) (ret := (some .int)) (by decide) rfl ?_
  intro p e s m args below meth c s₁ B hml hv
  obtain ⟨rfl, hG, hP, hI, hA⟩ := hv
  have hx := B.exec
  have hb := B.bytes
  have hr := B.returns
  have hts := atoms_spec (ws := wsL_thread) B.pre
  have hown : s.vm.findClass RL = some m.cls := findClass_of_methodNamed B.named
  have hlocks := B.notSynchronized
  have hK := hG.K
  have hS : va_S A s.heap s.heap [] := va_S.rf
  have hl := lv_entry ([.ref (ad 0 0), .int p0, .int p1, .int p2]) (n := 5) (Nat.le_of_ble_eq_true rfl)
  rw [lg_entry_eq]
  generalize (lg_sl ([.ref (ad 0 0), .int p0, .int p1, .int p2]) ++ List.replicate (5 - (lg_sl ([.ref (ad 0 0), .int p0, .int p1, .int p2])).length) Slot.unset).toArray = ls at hl ⊢
  have hl : lv_has ls 5 [(0, .ref (ad 0 0)), (1, .int p0), (2, .int p1), (3, .int p2)] := hl
  have hP : mP G.1 Mw s.heap := hP
  refine lv_aload_n hx hb dL_thread_0 rfl (lv_at hl 0 rfl) ?_
  refine lv_iload_n hx hb dL_thread_1 rfl (lv_at hl 1 rfl) ?_
  refine lv_iload_n hx hb dL_thread_2 rfl (lv_at hl 2 rfl) ?_
  refine lv_iload_n hx hb dL_thread_3 rfl (lv_at hl 3 rfl) ?_
  refine mx_calli (vx_runV (As := [.int p0, .int p1, .int p2]) (rest := []) ⟨hx, hb, hml, hown, hts⟩ (c_X4_thread l G A Mw hl9 st ad p0 p1 p2 hC hV) (cwV 3 hts gL_thread_X4_thread rfl rfl rfl (by decide +kernel) ⟨Nat.le_of_ble_eq_true rfl, Nat.le_of_ble_eq_true rfl⟩) (mPreV hG hS hP hI hA (hP (ad 0 0) _ (hC.1 0 0 (ok0 st))) (r := (RX4, TX4, 9)) rfl) rfl rfl hl.1 rfl (lv_room (Nat.le_of_ble_eq_true rfl)) dL_thread_4 ⟨Nat.le_of_ble_eq_true rfl, Nat.le_of_ble_eq_true rfl⟩) hS (fun E9 ce9 q9 H locs hpx9 hP hI hS hc9 hv9 hcl9 => ?_) (fun r9 Mw1 H locs hp9 hP hI hS => ?_)
  · obtain ⟨k9, hk9, hnm9⟩ := hpx9
    have hT : c.exceptionTable.toList = tableOf [(0, 7, 8, 25), (0, 7, 13, 15), (0, 7, 18, 39)] := vx_table (x := yL_thread) B (hts _ List.mem_cons_self)
    have hrf : (m_thread st p0 p1 p2).2.2 = st := rf_thread st p0 p1 p2 (by rw [hk9]; omega)
    match k9, hk9, hnm9 with
    | 0, hk9, hnm9 =>
      cases hnm9
      refine vx_catch (E := "java/lang/IndexOutOfBoundsException") (name := "java/lang/IndexOutOfBoundsException") hown [] ⟨0, 7, 8, 25⟩ [⟨0, 7, 13, 15⟩, ⟨0, 7, 18, 39⟩] hT (fun z hz => by cases hz) rfl (by decide) (hts (.classLink RL 25 "java/lang/IndexOutOfBoundsException") (by decide +kernel)) (va_Nw.use rfl (hG.2.1.2.2.2.1 ("java/lang/IndexOutOfBoundsException", "java/lang/IndexOutOfBoundsException") (by decide +kernel))) hc9 hv9 hcl9 ?_
      refine lv_astore (lv' := [(4, .ref q9), (0, .ref (ad 0 0)), (1, .int p0), (2, .int p1), (3, .int p2)]) hx hb dL_thread_8 hl (by decide) rfl (fun ls hl => ?_)
      refine lv_ldc (v := (-900001)) hx hb hown (hts (.constant RL 17 (-900001)) (by decide +kernel)) dL_thread_10 ?_
      refine W.widen (k := 4) (n := 24) (Nat.le_of_ble_eq_true rfl) (Nat.le_of_ble_eq_true rfl) ?_
      refine vx_ret ?_
      exact W.iret (v := (-900001)) hx hb hr (fun t99 ht99 hW99 => ⟨⟨(-900001), Mw, rfl, ⟨ad, by rw [wan_k hk9]; rfl, by rw [hrf]; exact hC, rfl⟩, by rw [ht99]; exact hP, hI⟩, hS.F ht99⟩) hS.2.2 dL_thread_12
    | 1, hk9, hnm9 =>
      cases hnm9
      refine vx_catch (E := "java/lang/IllegalArgumentException") (name := "java/lang/IllegalArgumentException") hown [⟨0, 7, 8, 25⟩] ⟨0, 7, 13, 15⟩ [⟨0, 7, 18, 39⟩] hT (List.forall_mem_cons.mpr ⟨Or.inr ⟨by decide, "java/lang/IndexOutOfBoundsException", hts (.classLink RL 25 "java/lang/IndexOutOfBoundsException") (by decide +kernel), hG.2.1.2.2.2.2.1 ("java/lang/IllegalArgumentException", "java/lang/IndexOutOfBoundsException") (by decide +kernel)⟩, (fun z hz => by cases hz)⟩) rfl (by decide) (hts (.classLink RL 15 "java/lang/IllegalArgumentException") (by decide +kernel)) (va_Nw.use rfl (hG.2.1.2.2.2.1 ("java/lang/IllegalArgumentException", "java/lang/IllegalArgumentException") (by decide +kernel))) hc9 hv9 hcl9 ?_
      refine lv_astore (lv' := [(4, .ref q9), (0, .ref (ad 0 0)), (1, .int p0), (2, .int p1), (3, .int p2)]) hx hb dL_thread_13 hl (by decide) rfl (fun ls hl => ?_)
      refine lv_ldc (v := (-900002)) hx hb hown (hts (.constant RL 20 (-900002)) (by decide +kernel)) dL_thread_15 ?_
      refine W.widen (k := 4) (n := 24) (Nat.le_of_ble_eq_true rfl) (Nat.le_of_ble_eq_true rfl) ?_
      refine vx_ret ?_
      exact W.iret (v := (-900002)) hx hb hr (fun t99 ht99 hW99 => ⟨⟨(-900002), Mw, rfl, ⟨ad, by rw [wan_k hk9]; rfl, by rw [hrf]; exact hC, rfl⟩, by rw [ht99]; exact hP, hI⟩, hS.F ht99⟩) hS.2.2 dL_thread_17
    | 2, hk9, hnm9 =>
      cases hnm9
      refine vx_catch (E := "java/util/NoSuchElementException") (name := "java/util/NoSuchElementException") hown [⟨0, 7, 8, 25⟩, ⟨0, 7, 13, 15⟩] ⟨0, 7, 18, 39⟩ [] hT (List.forall_mem_cons.mpr ⟨Or.inr ⟨by decide, "java/lang/IndexOutOfBoundsException", hts (.classLink RL 25 "java/lang/IndexOutOfBoundsException") (by decide +kernel), hG.2.1.2.2.2.2.1 ("java/util/NoSuchElementException", "java/lang/IndexOutOfBoundsException") (by decide +kernel)⟩, (List.forall_mem_cons.mpr ⟨Or.inr ⟨by decide, "java/lang/IllegalArgumentException", hts (.classLink RL 15 "java/lang/IllegalArgumentException") (by decide +kernel), hG.2.1.2.2.2.2.1 ("java/util/NoSuchElementException", "java/lang/IllegalArgumentException") (by decide +kernel)⟩, (fun z hz => by cases hz)⟩)⟩) rfl (by decide) (hts (.classLink RL 39 "java/util/NoSuchElementException") (by decide +kernel)) (va_Nw.use rfl (hG.2.1.2.2.2.1 ("java/util/NoSuchElementException", "java/util/NoSuchElementException") (by decide +kernel))) hc9 hv9 hcl9 ?_
      refine lv_astore (lv' := [(4, .ref q9), (0, .ref (ad 0 0)), (1, .int p0), (2, .int p1), (3, .int p2)]) hx hb dL_thread_18 hl (by decide) rfl (fun ls hl => ?_)
      refine lv_ldc (v := (-900003)) hx hb hown (hts (.constant RL 29 (-900003)) (by decide +kernel)) dL_thread_20 ?_
      refine W.widen (k := 4) (n := 24) (Nat.le_of_ble_eq_true rfl) (Nat.le_of_ble_eq_true rfl) ?_
      refine vx_ret ?_
      exact W.iret (v := (-900003)) hx hb hr (fun t99 ht99 hW99 => ⟨⟨(-900003), Mw, rfl, ⟨ad, by rw [wan_k hk9]; rfl, by rw [hrf]; exact hC, rfl⟩, by rw [ht99]; exact hP, hI⟩, hS.F ht99⟩) hS.2.2 dL_thread_22
    | (k9 + 3), hk9, hnm9 => cases hnm9
  obtain ⟨s9, ad9, hop, hC9, ha9⟩ := hp9
  refine W.widen (k := 4) (n := 24) (Nat.le_of_ble_eq_true rfl) (Nat.le_of_ble_eq_true rfl) ?_
  refine vx_ret ?_
  exact W.iret (v := r9) hx hb hr (fun t99 ht99 hW99 => ⟨⟨r9, Mw1, rfl, ⟨ad9, by rw [hop]; rfl, by rw [hop]; exact hC9, ha9⟩, by rw [ht99]; exact hP, hI⟩, hS.F ht99⟩) hS.2.2 dL_thread_7

theorem rf_widest (st : St) (p0 : Int32) : (m_widest st p0).1 ≠ 0 → (m_widest st p0).2.2 = st := by
  unfold m_widest
  first | exact chk_ref (ref_0) | exact chk_ref (chk_ref (ref_0)) | exact chk_ref (chk_ref (chk_ref (ref_0))) | exact chk_ref (chk_ref (chk_ref (chk_ref (ref_0)))) | exact chk_ref (chk_ref (chk_ref (chk_ref (chk_ref (ref_0))))) | exact chk_ref (chk_ref (chk_ref (chk_ref (chk_ref (chk_ref (ref_0)))))) | exact chk_ref (chk_ref (chk_ref (chk_ref (chk_ref (chk_ref (chk_ref (ref_0)))))))
set_option maxHeartbeats 4000000 in
set_option maxRecDepth 100000 in
theorem c_L_widest (l : Launch) (G : mg) (A : Nat → Prop) (Mw : mw) (hl9 : l.stackTraces = false) (st : St) (ad : adr) (p0 : Int32) (hC : CS G st ad Mw) (hV : Inv st) : vx_Met l yL_widest wsL_widest ({ frames := 8, cells := 1, slots := 6, locals := 124 }) (va_Pc [.ref (ad 0 0), .int p0] (mB G A Mw)) (va_Qi (fun r Mw1 => ∃ ad1 : adr, r = wan (m_widest st p0) ∧ CS G (m_widest st p0).2.2 ad1 Mw1 ∧ ad1 0 0 = ad 0 0) (mE G A) A) (xX (fun _ => False) G A Mw) 1 6 A := by
  refine vx_ofWH (cc := cL_widest) (maxL := 3) (ret := (some .int)) (by decide) rfl ?_
  intro p e s m args below meth c s₁ B hml hv
  obtain ⟨rfl, hG, hP, hI, hA⟩ := hv
  have hx := B.exec
  have hb := B.bytes
  have hr := B.returns
  have hts := atoms_spec (ws := wsL_widest) B.pre
  have hown : s.vm.findClass RL = some m.cls := findClass_of_methodNamed B.named
  have hlocks := B.notSynchronized
  have hK := hG.K
  have hS : va_S A s.heap s.heap [] := va_S.rf
  have hl := lv_entry ([.ref (ad 0 0), .int p0]) (n := 3) (Nat.le_of_ble_eq_true rfl)
  rw [lg_entry_eq]
  generalize (lg_sl ([.ref (ad 0 0), .int p0]) ++ List.replicate (3 - (lg_sl ([.ref (ad 0 0), .int p0])).length) Slot.unset).toArray = ls at hl ⊢
  have hl : lv_has ls 3 [(0, .ref (ad 0 0)), (1, .int p0)] := hl
  have hP : mP G.1 Mw s.heap := hP
  refine lv_aload_n hx hb dL_widest_0 rfl (lv_at hl 0 rfl) ?_
  refine lv_iload_n hx hb dL_widest_1 rfl (lv_at hl 1 rfl) ?_
  refine mx_calli (vx_runV (As := [.int p0]) (rest := []) ⟨hx, hb, hml, hown, hts⟩ (c_X4_widest l G A Mw hl9 st ad p0 hC hV) (cwV 1 hts gL_widest_X4_widest rfl rfl rfl (by decide +kernel) ⟨Nat.le_of_ble_eq_true rfl, Nat.le_of_ble_eq_true rfl⟩) (mPreV hG hS hP hI hA (hP (ad 0 0) _ (hC.1 0 0 (ok0 st))) (r := (RX4, TX4, 9)) rfl) rfl rfl hl.1 rfl (lv_room (Nat.le_of_ble_eq_true rfl)) dL_widest_2 ⟨Nat.le_of_ble_eq_true rfl, Nat.le_of_ble_eq_true rfl⟩) hS (fun E9 ce9 q9 H locs hpx9 hP hI hS hc9 hv9 hcl9 => ?_) (fun r9 Mw1 H locs hp9 hP hI hS => ?_)
  · obtain ⟨k9, hk9, hnm9⟩ := hpx9
    have hT : c.exceptionTable.toList = tableOf [(0, 5, 6, 25)] := vx_table (x := yL_widest) B (hts _ List.mem_cons_self)
    have hrf : (m_widest st p0).2.2 = st := rf_widest st p0 (by rw [hk9]; omega)
    match k9, hk9, hnm9 with
    | 0, hk9, hnm9 =>
      cases hnm9
      refine vx_catch (E := "java/lang/IndexOutOfBoundsException") (name := "java/lang/IndexOutOfBoundsException") hown [] ⟨0, 5, 6, 25⟩ [] hT (fun z hz => by cases hz) rfl (by decide) (hts (.classLink RL 25 "java/lang/IndexOutOfBoundsException") (by decide +kernel)) (va_Nw.use rfl (hG.2.1.2.2.2.1 ("java/lang/IndexOutOfBoundsException", "java/lang/IndexOutOfBoundsException") (by decide +kernel))) hc9 hv9 hcl9 ?_
      refine lv_astore_n (lv' := [(2, .ref q9), (0, .ref (ad 0 0)), (1, .int p0)]) hx hb dL_widest_6 rfl hl (by decide) rfl (fun ls hl => ?_)
      refine lv_ldc (v := (-900001)) hx hb hown (hts (.constant RL 17 (-900001)) (by decide +kernel)) dL_widest_7 ?_
      refine W.widen (k := 1) (n := 6) (Nat.le_of_ble_eq_true rfl) (Nat.le_of_ble_eq_true rfl) ?_
      refine vx_ret ?_
      exact W.iret (v := (-900001)) hx hb hr (fun t99 ht99 hW99 => ⟨⟨(-900001), Mw, rfl, ⟨ad, by rw [wan_k hk9]; rfl, by rw [hrf]; exact hC, rfl⟩, by rw [ht99]; exact hP, hI⟩, hS.F ht99⟩) hS.2.2 dL_widest_9
    | (k9 + 1), hk9, hnm9 => cases hnm9
  obtain ⟨s9, ad9, hop, hC9, ha9⟩ := hp9
  refine W.widen (k := 1) (n := 6) (Nat.le_of_ble_eq_true rfl) (Nat.le_of_ble_eq_true rfl) ?_
  refine vx_ret ?_
  exact W.iret (v := r9) hx hb hr (fun t99 ht99 hW99 => ⟨⟨r9, Mw1, rfl, ⟨ad9, by rw [hop]; rfl, by rw [hop]; exact hC9, ha9⟩, by rw [ht99]; exact hP, hI⟩, hS.F ht99⟩) hS.2.2 dL_widest_5

theorem rf_deliver (st : St) (p0 p1 p2 p3 : Int32) : (m_deliver st p0 p1 p2 p3).1 ≠ 0 → (m_deliver st p0 p1 p2 p3).2.2 = st := by
  unfold m_deliver
  first | exact chk_ref (ref_0) | exact chk_ref (chk_ref (ref_0)) | exact chk_ref (chk_ref (chk_ref (ref_0))) | exact chk_ref (chk_ref (chk_ref (chk_ref (ref_0)))) | exact chk_ref (chk_ref (chk_ref (chk_ref (chk_ref (ref_0))))) | exact chk_ref (chk_ref (chk_ref (chk_ref (chk_ref (chk_ref (ref_0)))))) | exact chk_ref (chk_ref (chk_ref (chk_ref (chk_ref (chk_ref (chk_ref (ref_0)))))))
set_option maxHeartbeats 4000000 in
set_option maxRecDepth 100000 in
theorem c_L_deliver (l : Launch) (G : mg) (A : Nat → Prop) (Mw : mw) (hl9 : l.stackTraces = false) (st : St) (ad : adr) (p0 p1 p2 p3 : Int32) (hC : CS G st ad Mw) (hV : Inv st) : vx_Met l yL_deliver wsL_deliver ({ frames := 9, cells := 5, slots := 30, locals := 150 }) (va_Pc [.ref (ad 0 0), .int p0, .int p1, .int p2, .int p3] (mB G A Mw)) (va_Qi (fun r Mw1 => ∃ ad1 : adr, r = wan (m_deliver st p0 p1 p2 p3) ∧ CS G (m_deliver st p0 p1 p2 p3).2.2 ad1 Mw1 ∧ ad1 0 0 = ad 0 0) (mE G A) A) (xX (fun _ => False) G A Mw) 5 30 A := by
  refine vx_ofWH (cc := cL_deliver) (maxL := 6) (ret := (some .int)) (by decide) rfl ?_
  intro p e s m args below meth c s₁ B hml hv
  obtain ⟨rfl, hG, hP, hI, hA⟩ := hv
  have hx := B.exec
  have hb := B.bytes
  have hr := B.returns
  have hts := atoms_spec (ws := wsL_deliver) B.pre
  have hown : s.vm.findClass RL = some m.cls := findClass_of_methodNamed B.named
  have hlocks := B.notSynchronized
  have hK := hG.K
  have hS : va_S A s.heap s.heap [] := va_S.rf
  have hl := lv_entry ([.ref (ad 0 0), .int p0, .int p1, .int p2, .int p3]) (n := 6) (Nat.le_of_ble_eq_true rfl)
  rw [lg_entry_eq]
  generalize (lg_sl ([.ref (ad 0 0), .int p0, .int p1, .int p2, .int p3]) ++ List.replicate (6 - (lg_sl ([.ref (ad 0 0), .int p0, .int p1, .int p2, .int p3])).length) Slot.unset).toArray = ls at hl ⊢
  have hl : lv_has ls 6 [(0, .ref (ad 0 0)), (1, .int p0), (2, .int p1), (3, .int p2), (4, .int p3)] := hl
  have hP : mP G.1 Mw s.heap := hP
  refine lv_aload_n hx hb dL_deliver_0 rfl (lv_at hl 0 rfl) ?_
  refine lv_iload_n hx hb dL_deliver_1 rfl (lv_at hl 1 rfl) ?_
  refine lv_iload_n hx hb dL_deliver_2 rfl (lv_at hl 2 rfl) ?_
  refine lv_iload_n hx hb dL_deliver_3 rfl (lv_at hl 3 rfl) ?_
  refine lv_iload hx hb dL_deliver_4 (lv_at hl 4 rfl) ?_
  refine mx_calli (vx_runV (As := [.int p0, .int p1, .int p2, .int p3]) (rest := []) ⟨hx, hb, hml, hown, hts⟩ (c_X4_deliver l G A Mw hl9 st ad p0 p1 p2 p3 hC hV) (cwV 4 hts gL_deliver_X4_deliver rfl rfl rfl (by decide +kernel) ⟨Nat.le_of_ble_eq_true rfl, Nat.le_of_ble_eq_true rfl⟩) (mPreV hG hS hP hI hA (hP (ad 0 0) _ (hC.1 0 0 (ok0 st))) (r := (RX4, TX4, 9)) rfl) rfl rfl hl.1 rfl (lv_room (Nat.le_of_ble_eq_true rfl)) dL_deliver_6 ⟨Nat.le_of_ble_eq_true rfl, Nat.le_of_ble_eq_true rfl⟩) hS (fun E9 ce9 q9 H locs hpx9 hP hI hS hc9 hv9 hcl9 => ?_) (fun r9 Mw1 H locs hp9 hP hI hS => ?_)
  · obtain ⟨k9, hk9, hnm9⟩ := hpx9
    have hT : c.exceptionTable.toList = tableOf [(0, 9, 10, 25), (0, 9, 15, 15)] := vx_table (x := yL_deliver) B (hts _ List.mem_cons_self)
    have hrf : (m_deliver st p0 p1 p2 p3).2.2 = st := rf_deliver st p0 p1 p2 p3 (by rw [hk9]; omega)
    match k9, hk9, hnm9 with
    | 0, hk9, hnm9 =>
      cases hnm9
      refine vx_catch (E := "java/lang/IndexOutOfBoundsException") (name := "java/lang/IndexOutOfBoundsException") hown [] ⟨0, 9, 10, 25⟩ [⟨0, 9, 15, 15⟩] hT (fun z hz => by cases hz) rfl (by decide) (hts (.classLink RL 25 "java/lang/IndexOutOfBoundsException") (by decide +kernel)) (va_Nw.use rfl (hG.2.1.2.2.2.1 ("java/lang/IndexOutOfBoundsException", "java/lang/IndexOutOfBoundsException") (by decide +kernel))) hc9 hv9 hcl9 ?_
      refine lv_astore (lv' := [(5, .ref q9), (0, .ref (ad 0 0)), (1, .int p0), (2, .int p1), (3, .int p2), (4, .int p3)]) hx hb dL_deliver_10 hl (by decide) rfl (fun ls hl => ?_)
      refine lv_ldc (v := (-900001)) hx hb hown (hts (.constant RL 17 (-900001)) (by decide +kernel)) dL_deliver_12 ?_
      refine W.widen (k := 5) (n := 30) (Nat.le_of_ble_eq_true rfl) (Nat.le_of_ble_eq_true rfl) ?_
      refine vx_ret ?_
      exact W.iret (v := (-900001)) hx hb hr (fun t99 ht99 hW99 => ⟨⟨(-900001), Mw, rfl, ⟨ad, by rw [wan_k hk9]; rfl, by rw [hrf]; exact hC, rfl⟩, by rw [ht99]; exact hP, hI⟩, hS.F ht99⟩) hS.2.2 dL_deliver_14
    | 1, hk9, hnm9 =>
      cases hnm9
      refine vx_catch (E := "java/lang/IllegalArgumentException") (name := "java/lang/IllegalArgumentException") hown [⟨0, 9, 10, 25⟩] ⟨0, 9, 15, 15⟩ [] hT (List.forall_mem_cons.mpr ⟨Or.inr ⟨by decide, "java/lang/IndexOutOfBoundsException", hts (.classLink RL 25 "java/lang/IndexOutOfBoundsException") (by decide +kernel), hG.2.1.2.2.2.2.1 ("java/lang/IllegalArgumentException", "java/lang/IndexOutOfBoundsException") (by decide +kernel)⟩, (fun z hz => by cases hz)⟩) rfl (by decide) (hts (.classLink RL 15 "java/lang/IllegalArgumentException") (by decide +kernel)) (va_Nw.use rfl (hG.2.1.2.2.2.1 ("java/lang/IllegalArgumentException", "java/lang/IllegalArgumentException") (by decide +kernel))) hc9 hv9 hcl9 ?_
      refine lv_astore (lv' := [(5, .ref q9), (0, .ref (ad 0 0)), (1, .int p0), (2, .int p1), (3, .int p2), (4, .int p3)]) hx hb dL_deliver_15 hl (by decide) rfl (fun ls hl => ?_)
      refine lv_ldc (v := (-900002)) hx hb hown (hts (.constant RL 20 (-900002)) (by decide +kernel)) dL_deliver_17 ?_
      refine W.widen (k := 5) (n := 30) (Nat.le_of_ble_eq_true rfl) (Nat.le_of_ble_eq_true rfl) ?_
      refine vx_ret ?_
      exact W.iret (v := (-900002)) hx hb hr (fun t99 ht99 hW99 => ⟨⟨(-900002), Mw, rfl, ⟨ad, by rw [wan_k hk9]; rfl, by rw [hrf]; exact hC, rfl⟩, by rw [ht99]; exact hP, hI⟩, hS.F ht99⟩) hS.2.2 dL_deliver_19
    | (k9 + 2), hk9, hnm9 => cases hnm9
  obtain ⟨s9, ad9, hop, hC9, ha9⟩ := hp9
  refine W.widen (k := 5) (n := 30) (Nat.le_of_ble_eq_true rfl) (Nat.le_of_ble_eq_true rfl) ?_
  refine vx_ret ?_
  exact W.iret (v := r9) hx hb hr (fun t99 ht99 hW99 => ⟨⟨r9, Mw1, rfl, ⟨ad9, by rw [hop]; rfl, by rw [hop]; exact hC9, ha9⟩, by rw [ht99]; exact hP, hI⟩, hS.F ht99⟩) hS.2.2 dL_deliver_9

theorem rf_make (st : St) (p0 p1 p2 : Int32) : (m_make st p0 p1 p2).1 ≠ 0 → (m_make st p0 p1 p2).2.2 = st := by
  unfold m_make
  first | exact chk_ref (ref_0) | exact chk_ref (chk_ref (ref_0)) | exact chk_ref (chk_ref (chk_ref (ref_0))) | exact chk_ref (chk_ref (chk_ref (chk_ref (ref_0)))) | exact chk_ref (chk_ref (chk_ref (chk_ref (chk_ref (ref_0))))) | exact chk_ref (chk_ref (chk_ref (chk_ref (chk_ref (chk_ref (ref_0)))))) | exact chk_ref (chk_ref (chk_ref (chk_ref (chk_ref (chk_ref (chk_ref (ref_0)))))))
set_option maxHeartbeats 4000000 in
set_option maxRecDepth 100000 in
theorem c_L_make (l : Launch) (G : mg) (A : Nat → Prop) (Mw : mw) (hl9 : l.stackTraces = false) (st : St) (ad : adr) (p0 p1 p2 : Int32) (hC : CS G st ad Mw) (hV : Inv st) : vx_Met l yL_make wsL_make ({ frames := 8, cells := 9, slots := 63, locals := 129 }) (va_Pc [.ref (ad 0 0), .int p0, .int p1, .int p2] (mB G A Mw)) (va_Qi (fun r Mw1 => ∃ ad1 : adr, r = wan (m_make st p0 p1 p2) ∧ CS G (m_make st p0 p1 p2).2.2 ad1 Mw1 ∧ ad1 0 0 = ad 0 0) (mE G A) A) (xX (fun _ => False) G A Mw) 9 63 A := by
  refine vx_ofWH (cc := cL_make) (maxL := 5) (ret := (some .int)) (by decide) rfl ?_
  intro p e s m args below meth c s₁ B hml hv
  obtain ⟨rfl, hG, hP, hI, hA⟩ := hv
  have hx := B.exec
  have hb := B.bytes
  have hr := B.returns
  have hts := atoms_spec (ws := wsL_make) B.pre
  have hown : s.vm.findClass RL = some m.cls := findClass_of_methodNamed B.named
  have hlocks := B.notSynchronized
  have hK := hG.K
  have hS : va_S A s.heap s.heap [] := va_S.rf
  have hl := lv_entry ([.ref (ad 0 0), .int p0, .int p1, .int p2]) (n := 5) (Nat.le_of_ble_eq_true rfl)
  rw [lg_entry_eq]
  generalize (lg_sl ([.ref (ad 0 0), .int p0, .int p1, .int p2]) ++ List.replicate (5 - (lg_sl ([.ref (ad 0 0), .int p0, .int p1, .int p2])).length) Slot.unset).toArray = ls at hl ⊢
  have hl : lv_has ls 5 [(0, .ref (ad 0 0)), (1, .int p0), (2, .int p1), (3, .int p2)] := hl
  have hP : mP G.1 Mw s.heap := hP
  refine lv_aload_n hx hb dL_make_0 rfl (lv_at hl 0 rfl) ?_
  refine lv_iload_n hx hb dL_make_1 rfl (lv_at hl 1 rfl) ?_
  refine lv_iload_n hx hb dL_make_2 rfl (lv_at hl 2 rfl) ?_
  refine lv_iload_n hx hb dL_make_3 rfl (lv_at hl 3 rfl) ?_
  refine mx_calli (vx_runV (As := [.int p0, .int p1, .int p2]) (rest := []) ⟨hx, hb, hml, hown, hts⟩ (c_X4_make l G A Mw hl9 st ad p0 p1 p2 hC hV) (cwV 3 hts gL_make_X4_make rfl rfl rfl (by decide +kernel) ⟨Nat.le_of_ble_eq_true rfl, Nat.le_of_ble_eq_true rfl⟩) (mPreV hG hS hP hI hA (hP (ad 0 0) _ (hC.1 0 0 (ok0 st))) (r := (RX4, TX4, 9)) rfl) rfl rfl hl.1 rfl (lv_room (Nat.le_of_ble_eq_true rfl)) dL_make_4 ⟨Nat.le_of_ble_eq_true rfl, Nat.le_of_ble_eq_true rfl⟩) hS (fun E9 ce9 q9 H locs hpx9 hP hI hS hc9 hv9 hcl9 => ?_) (fun r9 Mw1 H locs hp9 hP hI hS => ?_)
  · obtain ⟨k9, hk9, hnm9⟩ := hpx9
    have hT : c.exceptionTable.toList = tableOf [(0, 7, 8, 25), (0, 7, 13, 15), (0, 7, 18, 27), (0, 7, 23, 18)] := vx_table (x := yL_make) B (hts _ List.mem_cons_self)
    have hrf : (m_make st p0 p1 p2).2.2 = st := rf_make st p0 p1 p2 (by rw [hk9]; omega)
    match k9, hk9, hnm9 with
    | 0, hk9, hnm9 =>
      cases hnm9
      refine vx_catch (E := "java/lang/IndexOutOfBoundsException") (name := "java/lang/IndexOutOfBoundsException") hown [] ⟨0, 7, 8, 25⟩ [⟨0, 7, 13, 15⟩, ⟨0, 7, 18, 27⟩, ⟨0, 7, 23, 18⟩] hT (fun z hz => by cases hz) rfl (by decide) (hts (.classLink RL 25 "java/lang/IndexOutOfBoundsException") (by decide +kernel)) (va_Nw.use rfl (hG.2.1.2.2.2.1 ("java/lang/IndexOutOfBoundsException", "java/lang/IndexOutOfBoundsException") (by decide +kernel))) hc9 hv9 hcl9 ?_
      refine lv_astore (lv' := [(4, .ref q9), (0, .ref (ad 0 0)), (1, .int p0), (2, .int p1), (3, .int p2)]) hx hb dL_make_8 hl (by decide) rfl (fun ls hl => ?_)
      refine lv_ldc (v := (-900001)) hx hb hown (hts (.constant RL 17 (-900001)) (by decide +kernel)) dL_make_10 ?_
      refine W.widen (k := 9) (n := 63) (Nat.le_of_ble_eq_true rfl) (Nat.le_of_ble_eq_true rfl) ?_
      refine vx_ret ?_
      exact W.iret (v := (-900001)) hx hb hr (fun t99 ht99 hW99 => ⟨⟨(-900001), Mw, rfl, ⟨ad, by rw [wan_k hk9]; rfl, by rw [hrf]; exact hC, rfl⟩, by rw [ht99]; exact hP, hI⟩, hS.F ht99⟩) hS.2.2 dL_make_12
    | 1, hk9, hnm9 =>
      cases hnm9
      refine vx_catch (E := "java/lang/IllegalArgumentException") (name := "java/lang/IllegalArgumentException") hown [⟨0, 7, 8, 25⟩] ⟨0, 7, 13, 15⟩ [⟨0, 7, 18, 27⟩, ⟨0, 7, 23, 18⟩] hT (List.forall_mem_cons.mpr ⟨Or.inr ⟨by decide, "java/lang/IndexOutOfBoundsException", hts (.classLink RL 25 "java/lang/IndexOutOfBoundsException") (by decide +kernel), hG.2.1.2.2.2.2.1 ("java/lang/IllegalArgumentException", "java/lang/IndexOutOfBoundsException") (by decide +kernel)⟩, (fun z hz => by cases hz)⟩) rfl (by decide) (hts (.classLink RL 15 "java/lang/IllegalArgumentException") (by decide +kernel)) (va_Nw.use rfl (hG.2.1.2.2.2.1 ("java/lang/IllegalArgumentException", "java/lang/IllegalArgumentException") (by decide +kernel))) hc9 hv9 hcl9 ?_
      refine lv_astore (lv' := [(4, .ref q9), (0, .ref (ad 0 0)), (1, .int p0), (2, .int p1), (3, .int p2)]) hx hb dL_make_13 hl (by decide) rfl (fun ls hl => ?_)
      refine lv_ldc (v := (-900002)) hx hb hown (hts (.constant RL 20 (-900002)) (by decide +kernel)) dL_make_15 ?_
      refine W.widen (k := 9) (n := 63) (Nat.le_of_ble_eq_true rfl) (Nat.le_of_ble_eq_true rfl) ?_
      refine vx_ret ?_
      exact W.iret (v := (-900002)) hx hb hr (fun t99 ht99 hW99 => ⟨⟨(-900002), Mw, rfl, ⟨ad, by rw [wan_k hk9]; rfl, by rw [hrf]; exact hC, rfl⟩, by rw [ht99]; exact hP, hI⟩, hS.F ht99⟩) hS.2.2 dL_make_17
    | 2, hk9, hnm9 =>
      cases hnm9
      refine vx_catch (E := "java/lang/UnsupportedOperationException") (name := "java/lang/UnsupportedOperationException") hown [⟨0, 7, 8, 25⟩, ⟨0, 7, 13, 15⟩] ⟨0, 7, 18, 27⟩ [⟨0, 7, 23, 18⟩] hT (List.forall_mem_cons.mpr ⟨Or.inr ⟨by decide, "java/lang/IndexOutOfBoundsException", hts (.classLink RL 25 "java/lang/IndexOutOfBoundsException") (by decide +kernel), hG.2.1.2.2.2.2.1 ("java/lang/UnsupportedOperationException", "java/lang/IndexOutOfBoundsException") (by decide +kernel)⟩, (List.forall_mem_cons.mpr ⟨Or.inr ⟨by decide, "java/lang/IllegalArgumentException", hts (.classLink RL 15 "java/lang/IllegalArgumentException") (by decide +kernel), hG.2.1.2.2.2.2.1 ("java/lang/UnsupportedOperationException", "java/lang/IllegalArgumentException") (by decide +kernel)⟩, (fun z hz => by cases hz)⟩)⟩) rfl (by decide) (hts (.classLink RL 27 "java/lang/UnsupportedOperationException") (by decide +kernel)) (va_Nw.use rfl (hG.2.1.2.2.2.1 ("java/lang/UnsupportedOperationException", "java/lang/UnsupportedOperationException") (by decide +kernel))) hc9 hv9 hcl9 ?_
      refine lv_astore (lv' := [(4, .ref q9), (0, .ref (ad 0 0)), (1, .int p0), (2, .int p1), (3, .int p2)]) hx hb dL_make_18 hl (by decide) rfl (fun ls hl => ?_)
      refine lv_ldc (v := (-900003)) hx hb hown (hts (.constant RL 29 (-900003)) (by decide +kernel)) dL_make_20 ?_
      refine W.widen (k := 9) (n := 63) (Nat.le_of_ble_eq_true rfl) (Nat.le_of_ble_eq_true rfl) ?_
      refine vx_ret ?_
      exact W.iret (v := (-900003)) hx hb hr (fun t99 ht99 hW99 => ⟨⟨(-900003), Mw, rfl, ⟨ad, by rw [wan_k hk9]; rfl, by rw [hrf]; exact hC, rfl⟩, by rw [ht99]; exact hP, hI⟩, hS.F ht99⟩) hS.2.2 dL_make_22
    | 3, hk9, hnm9 =>
      cases hnm9
      refine vx_catch (E := "java/lang/IllegalStateException") (name := "java/lang/IllegalStateException") hown [⟨0, 7, 8, 25⟩, ⟨0, 7, 13, 15⟩, ⟨0, 7, 18, 27⟩] ⟨0, 7, 23, 18⟩ [] hT (List.forall_mem_cons.mpr ⟨Or.inr ⟨by decide, "java/lang/IndexOutOfBoundsException", hts (.classLink RL 25 "java/lang/IndexOutOfBoundsException") (by decide +kernel), hG.2.1.2.2.2.2.1 ("java/lang/IllegalStateException", "java/lang/IndexOutOfBoundsException") (by decide +kernel)⟩, (List.forall_mem_cons.mpr ⟨Or.inr ⟨by decide, "java/lang/IllegalArgumentException", hts (.classLink RL 15 "java/lang/IllegalArgumentException") (by decide +kernel), hG.2.1.2.2.2.2.1 ("java/lang/IllegalStateException", "java/lang/IllegalArgumentException") (by decide +kernel)⟩, (List.forall_mem_cons.mpr ⟨Or.inr ⟨by decide, "java/lang/UnsupportedOperationException", hts (.classLink RL 27 "java/lang/UnsupportedOperationException") (by decide +kernel), hG.2.1.2.2.2.2.1 ("java/lang/IllegalStateException", "java/lang/UnsupportedOperationException") (by decide +kernel)⟩, (fun z hz => by cases hz)⟩)⟩)⟩) rfl (by decide) (hts (.classLink RL 18 "java/lang/IllegalStateException") (by decide +kernel)) (va_Nw.use rfl (hG.2.1.2.2.2.1 ("java/lang/IllegalStateException", "java/lang/IllegalStateException") (by decide +kernel))) hc9 hv9 hcl9 ?_
      refine lv_astore (lv' := [(4, .ref q9), (0, .ref (ad 0 0)), (1, .int p0), (2, .int p1), (3, .int p2)]) hx hb dL_make_23 hl (by decide) rfl (fun ls hl => ?_)
      refine lv_ldc (v := (-900004)) hx hb hown (hts (.constant RL 53 (-900004)) (by decide +kernel)) dL_make_25 ?_
      refine W.widen (k := 9) (n := 63) (Nat.le_of_ble_eq_true rfl) (Nat.le_of_ble_eq_true rfl) ?_
      refine vx_ret ?_
      exact W.iret (v := (-900004)) hx hb hr (fun t99 ht99 hW99 => ⟨⟨(-900004), Mw, rfl, ⟨ad, by rw [wan_k hk9]; rfl, by rw [hrf]; exact hC, rfl⟩, by rw [ht99]; exact hP, hI⟩, hS.F ht99⟩) hS.2.2 dL_make_27
    | (k9 + 4), hk9, hnm9 => cases hnm9
  obtain ⟨s9, ad9, hop, hC9, ha9⟩ := hp9
  refine W.widen (k := 9) (n := 63) (Nat.le_of_ble_eq_true rfl) (Nat.le_of_ble_eq_true rfl) ?_
  refine vx_ret ?_
  exact W.iret (v := r9) hx hb hr (fun t99 ht99 hW99 => ⟨⟨r9, Mw1, rfl, ⟨ad9, by rw [hop]; rfl, by rw [hop]; exact hC9, ha9⟩, by rw [ht99]; exact hP, hI⟩, hS.F ht99⟩) hS.2.2 dL_make_7

theorem rf_boiling (st : St) (p0 : Int32) : (m_boiling st p0).1 ≠ 0 → (m_boiling st p0).2.2 = st := by
  unfold m_boiling
  first | exact chk_ref (ref_0) | exact chk_ref (chk_ref (ref_0)) | exact chk_ref (chk_ref (chk_ref (ref_0))) | exact chk_ref (chk_ref (chk_ref (chk_ref (ref_0)))) | exact chk_ref (chk_ref (chk_ref (chk_ref (chk_ref (ref_0))))) | exact chk_ref (chk_ref (chk_ref (chk_ref (chk_ref (chk_ref (ref_0)))))) | exact chk_ref (chk_ref (chk_ref (chk_ref (chk_ref (chk_ref (chk_ref (ref_0)))))))
set_option maxHeartbeats 4000000 in
set_option maxRecDepth 100000 in
theorem c_L_boiling (l : Launch) (G : mg) (A : Nat → Prop) (Mw : mw) (hl9 : l.stackTraces = false) (st : St) (ad : adr) (p0 : Int32) (hC : CS G st ad Mw) (hV : Inv st) : vx_Met l yL_boiling wsL_boiling ({ frames := 9, cells := 1, slots := 6, locals := 145 }) (va_Pc [.ref (ad 0 0), .int p0] (mB G A Mw)) (va_Qi (fun r Mw1 => ∃ ad1 : adr, r = wan (m_boiling st p0) ∧ CS G (m_boiling st p0).2.2 ad1 Mw1 ∧ ad1 0 0 = ad 0 0) (mE G A) A) (xX (fun _ => False) G A Mw) 1 6 A := by
  refine vx_ofWH (cc := cL_boiling) (maxL := 3) (ret := (some .int)) (by decide) rfl ?_
  intro p e s m args below meth c s₁ B hml hv
  obtain ⟨rfl, hG, hP, hI, hA⟩ := hv
  have hx := B.exec
  have hb := B.bytes
  have hr := B.returns
  have hts := atoms_spec (ws := wsL_boiling) B.pre
  have hown : s.vm.findClass RL = some m.cls := findClass_of_methodNamed B.named
  have hlocks := B.notSynchronized
  have hK := hG.K
  have hS : va_S A s.heap s.heap [] := va_S.rf
  have hl := lv_entry ([.ref (ad 0 0), .int p0]) (n := 3) (Nat.le_of_ble_eq_true rfl)
  rw [lg_entry_eq]
  generalize (lg_sl ([.ref (ad 0 0), .int p0]) ++ List.replicate (3 - (lg_sl ([.ref (ad 0 0), .int p0])).length) Slot.unset).toArray = ls at hl ⊢
  have hl : lv_has ls 3 [(0, .ref (ad 0 0)), (1, .int p0)] := hl
  have hP : mP G.1 Mw s.heap := hP
  refine lv_aload_n hx hb dL_boiling_0 rfl (lv_at hl 0 rfl) ?_
  refine lv_iload_n hx hb dL_boiling_1 rfl (lv_at hl 1 rfl) ?_
  refine mx_calli (vx_runV (As := [.int p0]) (rest := []) ⟨hx, hb, hml, hown, hts⟩ (c_X4_boiling l G A Mw hl9 st ad p0 hC hV) (cwV 1 hts gL_boiling_X4_boiling rfl rfl rfl (by decide +kernel) ⟨Nat.le_of_ble_eq_true rfl, Nat.le_of_ble_eq_true rfl⟩) (mPreV hG hS hP hI hA (hP (ad 0 0) _ (hC.1 0 0 (ok0 st))) (r := (RX4, TX4, 9)) rfl) rfl rfl hl.1 rfl (lv_room (Nat.le_of_ble_eq_true rfl)) dL_boiling_2 ⟨Nat.le_of_ble_eq_true rfl, Nat.le_of_ble_eq_true rfl⟩) hS (fun E9 ce9 q9 H locs hpx9 hP hI hS hc9 hv9 hcl9 => ?_) (fun r9 Mw1 H locs hp9 hP hI hS => ?_)
  · obtain ⟨k9, hk9, hnm9⟩ := hpx9
    have hT : c.exceptionTable.toList = tableOf [(0, 5, 6, 15)] := vx_table (x := yL_boiling) B (hts _ List.mem_cons_self)
    have hrf : (m_boiling st p0).2.2 = st := rf_boiling st p0 (by rw [hk9]; omega)
    match k9, hk9, hnm9 with
    | 0, hk9, hnm9 =>
      cases hnm9
      refine vx_catch (E := "java/lang/IllegalArgumentException") (name := "java/lang/IllegalArgumentException") hown [] ⟨0, 5, 6, 15⟩ [] hT (fun z hz => by cases hz) rfl (by decide) (hts (.classLink RL 15 "java/lang/IllegalArgumentException") (by decide +kernel)) (va_Nw.use rfl (hG.2.1.2.2.2.1 ("java/lang/IllegalArgumentException", "java/lang/IllegalArgumentException") (by decide +kernel))) hc9 hv9 hcl9 ?_
      refine lv_astore_n (lv' := [(2, .ref q9), (0, .ref (ad 0 0)), (1, .int p0)]) hx hb dL_boiling_6 rfl hl (by decide) rfl (fun ls hl => ?_)
      refine lv_ldc (v := (-900001)) hx hb hown (hts (.constant RL 17 (-900001)) (by decide +kernel)) dL_boiling_7 ?_
      refine W.widen (k := 1) (n := 6) (Nat.le_of_ble_eq_true rfl) (Nat.le_of_ble_eq_true rfl) ?_
      refine vx_ret ?_
      exact W.iret (v := (-900001)) hx hb hr (fun t99 ht99 hW99 => ⟨⟨(-900001), Mw, rfl, ⟨ad, by rw [wan_k hk9]; rfl, by rw [hrf]; exact hC, rfl⟩, by rw [ht99]; exact hP, hI⟩, hS.F ht99⟩) hS.2.2 dL_boiling_9
    | (k9 + 1), hk9, hnm9 => cases hnm9
  obtain ⟨s9, ad9, hop, hC9, ha9⟩ := hp9
  refine W.widen (k := 1) (n := 6) (Nat.le_of_ble_eq_true rfl) (Nat.le_of_ble_eq_true rfl) ?_
  refine vx_ret ?_
  exact W.iret (v := r9) hx hb hr (fun t99 ht99 hW99 => ⟨⟨r9, Mw1, rfl, ⟨ad9, by rw [hop]; rfl, by rw [hop]; exact hC9, ha9⟩, by rw [ht99]; exact hP, hI⟩, hS.F ht99⟩) hS.2.2 dL_boiling_5

theorem rf_barometer (st : St) (p0 p1 p2 p3 : Int32) : (m_barometer st p0 p1 p2 p3).1 ≠ 0 → (m_barometer st p0 p1 p2 p3).2.2 = st := by
  unfold m_barometer
  first | exact chk_ref (ref_0) | exact chk_ref (chk_ref (ref_0)) | exact chk_ref (chk_ref (chk_ref (ref_0))) | exact chk_ref (chk_ref (chk_ref (chk_ref (ref_0)))) | exact chk_ref (chk_ref (chk_ref (chk_ref (chk_ref (ref_0))))) | exact chk_ref (chk_ref (chk_ref (chk_ref (chk_ref (chk_ref (ref_0)))))) | exact chk_ref (chk_ref (chk_ref (chk_ref (chk_ref (chk_ref (chk_ref (ref_0)))))))
set_option maxHeartbeats 4000000 in
set_option maxRecDepth 100000 in
theorem c_L_barometer (l : Launch) (G : mg) (A : Nat → Prop) (Mw : mw) (hl9 : l.stackTraces = false) (st : St) (ad : adr) (p0 p1 p2 p3 : Int32) (hC : CS G st ad Mw) (hV : Inv st) : vx_Met l yL_barometer wsL_barometer ({ frames := 8, cells := 4, slots := 24, locals := 129 }) (va_Pc [.ref (ad 0 0), .int p0, .int p1, .int p2, .int p3] (mB G A Mw)) (va_Qi (fun r Mw1 => ∃ ad1 : adr, r = wan (m_barometer st p0 p1 p2 p3) ∧ CS G (m_barometer st p0 p1 p2 p3).2.2 ad1 Mw1 ∧ ad1 0 0 = ad 0 0) (mE G A) A) (xX (fun _ => False) G A Mw) 4 24 A := by
  refine vx_ofWH (cc := cL_barometer) (maxL := 6) (ret := (some .int)) (by decide) rfl ?_
  intro p e s m args below meth c s₁ B hml hv
  obtain ⟨rfl, hG, hP, hI, hA⟩ := hv
  have hx := B.exec
  have hb := B.bytes
  have hr := B.returns
  have hts := atoms_spec (ws := wsL_barometer) B.pre
  have hown : s.vm.findClass RL = some m.cls := findClass_of_methodNamed B.named
  have hlocks := B.notSynchronized
  have hK := hG.K
  have hS : va_S A s.heap s.heap [] := va_S.rf
  have hl := lv_entry ([.ref (ad 0 0), .int p0, .int p1, .int p2, .int p3]) (n := 6) (Nat.le_of_ble_eq_true rfl)
  rw [lg_entry_eq]
  generalize (lg_sl ([.ref (ad 0 0), .int p0, .int p1, .int p2, .int p3]) ++ List.replicate (6 - (lg_sl ([.ref (ad 0 0), .int p0, .int p1, .int p2, .int p3])).length) Slot.unset).toArray = ls at hl ⊢
  have hl : lv_has ls 6 [(0, .ref (ad 0 0)), (1, .int p0), (2, .int p1), (3, .int p2), (4, .int p3)] := hl
  have hP : mP G.1 Mw s.heap := hP
  refine lv_aload_n hx hb dL_barometer_0 rfl (lv_at hl 0 rfl) ?_
  refine lv_iload_n hx hb dL_barometer_1 rfl (lv_at hl 1 rfl) ?_
  refine lv_iload_n hx hb dL_barometer_2 rfl (lv_at hl 2 rfl) ?_
  refine lv_iload_n hx hb dL_barometer_3 rfl (lv_at hl 3 rfl) ?_
  refine lv_iload hx hb dL_barometer_4 (lv_at hl 4 rfl) ?_
  refine mx_calli (vx_runV (As := [.int p0, .int p1, .int p2, .int p3]) (rest := []) ⟨hx, hb, hml, hown, hts⟩ (c_X4_barometer l G A Mw hl9 st ad p0 p1 p2 p3 hC hV) (cwV 4 hts gL_barometer_X4_barometer rfl rfl rfl (by decide +kernel) ⟨Nat.le_of_ble_eq_true rfl, Nat.le_of_ble_eq_true rfl⟩) (mPreV hG hS hP hI hA (hP (ad 0 0) _ (hC.1 0 0 (ok0 st))) (r := (RX4, TX4, 9)) rfl) rfl rfl hl.1 rfl (lv_room (Nat.le_of_ble_eq_true rfl)) dL_barometer_6 ⟨Nat.le_of_ble_eq_true rfl, Nat.le_of_ble_eq_true rfl⟩) hS (fun E9 ce9 q9 H locs hpx9 hP hI hS hc9 hv9 hcl9 => ?_) (fun r9 Mw1 H locs hp9 hP hI hS => ?_)
  · obtain ⟨k9, hk9, hnm9⟩ := hpx9
    have hT : c.exceptionTable.toList = tableOf [(0, 9, 10, 15)] := vx_table (x := yL_barometer) B (hts _ List.mem_cons_self)
    have hrf : (m_barometer st p0 p1 p2 p3).2.2 = st := rf_barometer st p0 p1 p2 p3 (by rw [hk9]; omega)
    match k9, hk9, hnm9 with
    | 0, hk9, hnm9 =>
      cases hnm9
      refine vx_catch (E := "java/lang/IllegalArgumentException") (name := "java/lang/IllegalArgumentException") hown [] ⟨0, 9, 10, 15⟩ [] hT (fun z hz => by cases hz) rfl (by decide) (hts (.classLink RL 15 "java/lang/IllegalArgumentException") (by decide +kernel)) (va_Nw.use rfl (hG.2.1.2.2.2.1 ("java/lang/IllegalArgumentException", "java/lang/IllegalArgumentException") (by decide +kernel))) hc9 hv9 hcl9 ?_
      refine lv_astore (lv' := [(5, .ref q9), (0, .ref (ad 0 0)), (1, .int p0), (2, .int p1), (3, .int p2), (4, .int p3)]) hx hb dL_barometer_10 hl (by decide) rfl (fun ls hl => ?_)
      refine lv_ldc (v := (-900001)) hx hb hown (hts (.constant RL 17 (-900001)) (by decide +kernel)) dL_barometer_12 ?_
      refine W.widen (k := 4) (n := 24) (Nat.le_of_ble_eq_true rfl) (Nat.le_of_ble_eq_true rfl) ?_
      refine vx_ret ?_
      exact W.iret (v := (-900001)) hx hb hr (fun t99 ht99 hW99 => ⟨⟨(-900001), Mw, rfl, ⟨ad, by rw [wan_k hk9]; rfl, by rw [hrf]; exact hC, rfl⟩, by rw [ht99]; exact hP, hI⟩, hS.F ht99⟩) hS.2.2 dL_barometer_14
    | (k9 + 1), hk9, hnm9 => cases hnm9
  obtain ⟨s9, ad9, hop, hC9, ha9⟩ := hp9
  refine W.widen (k := 4) (n := 24) (Nat.le_of_ble_eq_true rfl) (Nat.le_of_ble_eq_true rfl) ?_
  refine vx_ret ?_
  exact W.iret (v := r9) hx hb hr (fun t99 ht99 hW99 => ⟨⟨r9, Mw1, rfl, ⟨ad9, by rw [hop]; rfl, by rw [hop]; exact hC9, ha9⟩, by rw [ht99]; exact hP, hI⟩, hS.F ht99⟩) hS.2.2 dL_barometer_9

set_option maxHeartbeats 4000000 in
set_option maxRecDepth 100000 in
theorem c_L_cell (l : Launch) (G : mg) (A : Nat → Prop) (Mw : mw) (p0 : Int32) (hi0 : ¬ p0 < 0) : Met l yL_cell wsL_cell ({ frames := 0, cells := 0, slots := 0, locals := 0 }) (va_Pc [.ref (G.2.2.2 0), .int p0] (mB G A Mw)) (va_Qi (fun _ Mw1 => Mw1 = Mw) (mE G A) A) 0 0 A := by
  refine Met.ofW (cc := cL_cell) (maxL := 3) (ret := (some .int)) (by decide) rfl ?_
  intro p e s m args below meth c s₁ B hml hv
  obtain ⟨rfl, hG, hP, hI, hA⟩ := hv
  have hx := B.exec
  have hb := B.bytes
  have hr := B.returns
  have hts := atoms_spec (ws := wsL_cell) B.pre
  have hown : s.vm.findClass RL = some m.cls := findClass_of_methodNamed B.named
  have hlocks := B.notSynchronized
  have hK := hG.K
  have hS : va_S A s.heap s.heap [] := va_S.rf
  have hl := lv_entry ([.ref (G.2.2.2 0), .int p0]) (n := 3) (Nat.le_of_ble_eq_true rfl)
  rw [lg_entry_eq]
  generalize (lg_sl ([.ref (G.2.2.2 0), .int p0]) ++ List.replicate (3 - (lg_sl ([.ref (G.2.2.2 0), .int p0])).length) Slot.unset).toArray = ls at hl ⊢
  have hl : lv_has ls 3 [(0, .ref (G.2.2.2 0)), (1, .int p0)] := hl
  have hP : mP G.1 Mw s.heap := hP
  refine lv_ldc (v := 69069) hx hb hown (hts (.constant RL 7 (69069)) (by decide +kernel)) dL_cell_0 ?_
  refine lv_iload_n hx hb dL_cell_2 rfl (lv_at hl 1 rfl) ?_
  refine lv_aload_n hx hb dL_cell_3 rfl (lv_at hl 0 rfl) ?_
  refine va_slen hx hb hG.2.2.2.2.1 hG.2.2.2.2.1.lt hG.2.2.2.2.2 hS dL_cell_4 ?_
  refine lv_icmp_ge (tgt := 14) hx hb dL_cell_5 (by decide) (fun c1 => ?_) (fun c1 => ?_)
  · skip
    refine lv_iconst (v := 0) hx hb dL_cell_14 (by decide) ?_
    refine lv_sipush (v := (1009)) hx hb dL_cell_15 (by decide) ?_
    refine lv_iload_n hx hb dL_cell_18 rfl (lv_at hl 1 rfl) ?_
    refine lv_imul hx hb dL_cell_19 ?_
    refine lv_iadd hx hb dL_cell_20 ?_
    refine lv_imul hx hb dL_cell_21 ?_
    refine lv_sipush (v := (12345)) hx hb dL_cell_22 (by decide) ?_
    refine lv_iadd hx hb dL_cell_25 ?_
    refine lv_istore_n (lv' := [(2, .int ((69069 * (0 + (1009 * p0))) + 12345)), (0, .ref (G.2.2.2 0)), (1, .int p0)]) hx hb dL_cell_26 rfl hl (by decide) rfl (fun ls hl => ?_)
    refine lv_iload_n hx hb dL_cell_27 rfl (lv_at hl 0 rfl) ?_
    refine lv_iload_n hx hb dL_cell_28 rfl (lv_at hl 0 rfl) ?_
    refine lv_bipush (v := (13)) hx hb dL_cell_29 (by decide) ?_
    refine lv_iushr (v := (((69069 * (0 + (1009 * p0))) + 12345).toUInt32 >>> ((13 : Int32).toUInt32 &&& Int32.toUInt32 31)).toInt32) hx hb dL_cell_31 rfl ?_
    refine lv_ixor hx hb dL_cell_32 ?_
    refine lv_ldc (v := 1103515245) hx hb hown (hts (.constant RL 8 (1103515245)) (by decide +kernel)) dL_cell_33 ?_
    refine lv_imul hx hb dL_cell_35 ?_
    refine lv_istore_n (lv' := [(2, .int ((((69069 * (0 + (1009 * p0))) + 12345) ^^^ ((((69069 * (0 + (1009 * p0))) + 12345).toUInt32 >>> ((13 : Int32).toUInt32 &&& Int32.toUInt32 31)).toInt32)) * 1103515245)), (0, .ref (G.2.2.2 0)), (1, .int p0)]) hx hb dL_cell_36 rfl hl (by decide) rfl (fun ls hl => ?_)
    refine lv_iload_n hx hb dL_cell_37 rfl (lv_at hl 0 rfl) ?_
    refine lv_iload_n hx hb dL_cell_38 rfl (lv_at hl 0 rfl) ?_
    refine lv_bipush (v := (16)) hx hb dL_cell_39 (by decide) ?_
    refine lv_iushr (v := (((((69069 * (0 + (1009 * p0))) + 12345) ^^^ ((((69069 * (0 + (1009 * p0))) + 12345).toUInt32 >>> ((13 : Int32).toUInt32 &&& Int32.toUInt32 31)).toInt32)) * 1103515245).toUInt32 >>> ((16 : Int32).toUInt32 &&& Int32.toUInt32 31)).toInt32) hx hb dL_cell_41 rfl ?_
    refine lv_ixor hx hb dL_cell_42 ?_
    refine W.widen (k := 0) (n := 0) (Nat.le_of_ble_eq_true rfl) (Nat.le_of_ble_eq_true rfl) ?_
    exact W.iret (v := ((((69069 * (0 + (1009 * p0))) + 12345) ^^^ ((((69069 * (0 + (1009 * p0))) + 12345).toUInt32 >>> ((13 : Int32).toUInt32 &&& Int32.toUInt32 31)).toInt32)) * 1103515245) ^^^ ((((((69069 * (0 + (1009 * p0))) + 12345) ^^^ ((((69069 * (0 + (1009 * p0))) + 12345).toUInt32 >>> ((13 : Int32).toUInt32 &&& Int32.toUInt32 31)).toInt32)) * 1103515245).toUInt32 >>> ((16 : Int32).toUInt32 &&& Int32.toUInt32 31)).toInt32)) hx hb hr (fun t99 ht99 hW99 => ⟨⟨((((69069 * (0 + (1009 * p0))) + 12345) ^^^ ((((69069 * (0 + (1009 * p0))) + 12345).toUInt32 >>> ((13 : Int32).toUInt32 &&& Int32.toUInt32 31)).toInt32)) * 1103515245) ^^^ ((((((69069 * (0 + (1009 * p0))) + 12345) ^^^ ((((69069 * (0 + (1009 * p0))) + 12345).toUInt32 >>> ((13 : Int32).toUInt32 &&& Int32.toUInt32 31)).toInt32)) * 1103515245).toUInt32 >>> ((16 : Int32).toUInt32 &&& Int32.toUInt32 31)).toInt32), Mw, rfl, rfl, by rw [ht99]; exact hP, hI⟩, hS.F ht99⟩) hS.2.2 dL_cell_43
  · skip
    refine lv_aload_n hx hb dL_cell_8 rfl (lv_at hl 0 rfl) ?_
    refine lv_iload_n hx hb dL_cell_9 rfl (lv_at hl 1 rfl) ?_
    refine va_sld hx hb hG.2.2.2.2.1 hG.2.2.2.2.1.lt hG.2.2.2.2.2 hS (vin_of hi0 (Nat.lt_of_le_of_lt hG.1 (by decide)) c1) dL_cell_10 ?_
    refine lv_topi (fun x5 ex5 => ?_)
    refine lv_goto (tgt := 15) hx hb dL_cell_11 (by decide) ?_
    refine lv_sipush (v := (1009)) hx hb dL_cell_15 (by decide) ?_
    refine lv_iload_n hx hb dL_cell_18 rfl (lv_at hl 1 rfl) ?_
    refine lv_imul hx hb dL_cell_19 ?_
    refine lv_iadd hx hb dL_cell_20 ?_
    refine lv_imul hx hb dL_cell_21 ?_
    refine lv_sipush (v := (12345)) hx hb dL_cell_22 (by decide) ?_
    refine lv_iadd hx hb dL_cell_25 ?_
    refine lv_istore_n (lv' := [(2, .int ((69069 * (x5 + (1009 * p0))) + 12345)), (0, .ref (G.2.2.2 0)), (1, .int p0)]) hx hb dL_cell_26 rfl hl (by decide) rfl (fun ls hl => ?_)
    refine lv_iload_n hx hb dL_cell_27 rfl (lv_at hl 0 rfl) ?_
    refine lv_iload_n hx hb dL_cell_28 rfl (lv_at hl 0 rfl) ?_
    refine lv_bipush (v := (13)) hx hb dL_cell_29 (by decide) ?_
    refine lv_iushr (v := (((69069 * (x5 + (1009 * p0))) + 12345).toUInt32 >>> ((13 : Int32).toUInt32 &&& Int32.toUInt32 31)).toInt32) hx hb dL_cell_31 rfl ?_
    refine lv_ixor hx hb dL_cell_32 ?_
    refine lv_ldc (v := 1103515245) hx hb hown (hts (.constant RL 8 (1103515245)) (by decide +kernel)) dL_cell_33 ?_
    refine lv_imul hx hb dL_cell_35 ?_
    refine lv_istore_n (lv' := [(2, .int ((((69069 * (x5 + (1009 * p0))) + 12345) ^^^ ((((69069 * (x5 + (1009 * p0))) + 12345).toUInt32 >>> ((13 : Int32).toUInt32 &&& Int32.toUInt32 31)).toInt32)) * 1103515245)), (0, .ref (G.2.2.2 0)), (1, .int p0)]) hx hb dL_cell_36 rfl hl (by decide) rfl (fun ls hl => ?_)
    refine lv_iload_n hx hb dL_cell_37 rfl (lv_at hl 0 rfl) ?_
    refine lv_iload_n hx hb dL_cell_38 rfl (lv_at hl 0 rfl) ?_
    refine lv_bipush (v := (16)) hx hb dL_cell_39 (by decide) ?_
    refine lv_iushr (v := (((((69069 * (x5 + (1009 * p0))) + 12345) ^^^ ((((69069 * (x5 + (1009 * p0))) + 12345).toUInt32 >>> ((13 : Int32).toUInt32 &&& Int32.toUInt32 31)).toInt32)) * 1103515245).toUInt32 >>> ((16 : Int32).toUInt32 &&& Int32.toUInt32 31)).toInt32) hx hb dL_cell_41 rfl ?_
    refine lv_ixor hx hb dL_cell_42 ?_
    refine W.widen (k := 0) (n := 0) (Nat.le_of_ble_eq_true rfl) (Nat.le_of_ble_eq_true rfl) ?_
    exact W.iret (v := ((((69069 * (x5 + (1009 * p0))) + 12345) ^^^ ((((69069 * (x5 + (1009 * p0))) + 12345).toUInt32 >>> ((13 : Int32).toUInt32 &&& Int32.toUInt32 31)).toInt32)) * 1103515245) ^^^ ((((((69069 * (x5 + (1009 * p0))) + 12345) ^^^ ((((69069 * (x5 + (1009 * p0))) + 12345).toUInt32 >>> ((13 : Int32).toUInt32 &&& Int32.toUInt32 31)).toInt32)) * 1103515245).toUInt32 >>> ((16 : Int32).toUInt32 &&& Int32.toUInt32 31)).toInt32)) hx hb hr (fun t99 ht99 hW99 => ⟨⟨((((69069 * (x5 + (1009 * p0))) + 12345) ^^^ ((((69069 * (x5 + (1009 * p0))) + 12345).toUInt32 >>> ((13 : Int32).toUInt32 &&& Int32.toUInt32 31)).toInt32)) * 1103515245) ^^^ ((((((69069 * (x5 + (1009 * p0))) + 12345) ^^^ ((((69069 * (x5 + (1009 * p0))) + 12345).toUInt32 >>> ((13 : Int32).toUInt32 &&& Int32.toUInt32 31)).toInt32)) * 1103515245).toUInt32 >>> ((16 : Int32).toUInt32 &&& Int32.toUInt32 31)).toInt32), Mw, rfl, rfl, by rw [ht99]; exact hP, hI⟩, hS.F ht99⟩) hS.2.2 dL_cell_43

theorem mod_b {x n : Int32} (h0 : 0 ≤ x.toInt) (hn : 0 < n.toInt) : (x - x / n * n).toInt = x.toInt % n.toInt := by
  have hn1 : n ≠ -1 := fun q => by rw [q] at hn; exact absurd hn (by decide)
  have e1 : (x / n).toInt = x.toInt / n.toInt := t_div h0 hn1
  have hm := Int.mul_ediv_add_emod x.toInt n.toInt
  have h1 := Int.emod_nonneg x.toInt (show n.toInt ≠ 0 by omega)
  have h2 := Int.emod_lt_of_pos x.toInt hn
  have h3 : 0 ≤ x.toInt / n.toInt := Int.ediv_nonneg h0 (by omega)
  have h4 : x.toInt < 2147483648 := x.toInt_lt
  have hc : x.toInt / n.toInt * n.toInt = n.toInt * (x.toInt / n.toInt) := Int.mul_comm _ _
  have h5 : 0 ≤ x.toInt / n.toInt * n.toInt := Int.mul_nonneg h3 (by omega)
  have e2 : (x / n * n).toInt = x.toInt / n.toInt * n.toInt := by
    rw [t_mul (by rw [e1]; omega) (by rw [e1]; omega), e1]
  rw [t_sub (by rw [e2]; omega) (by rw [e2]; omega), e2]
  omega
theorem in_b (x : Int32) {n : Int32} (hn : 0 < n.toInt) : 0 ≤ ((x &&& 2147483647) - (x &&& 2147483647) / n * n).toInt ∧ ((x &&& 2147483647) - (x &&& 2147483647) / n * n).toInt < n.toInt := by
  have h0 : 0 ≤ (x &&& 2147483647).toInt := by
    have e : (x &&& 2147483647).toBitVec.toNat = x.toBitVec.toNat &&& (2 ^ 31 - 1) := by
      show (x.toBitVec &&& (2147483647 : Int32).toBitVec).toNat = _
      rw [BitVec.toNat_and]
      rfl
    have e2 : (x &&& 2147483647).toBitVec.toNat < 2 ^ 31 := by
      rw [e, Nat.and_two_pow_sub_one_eq_mod]
      exact Nat.mod_lt _ (by decide)
    show 0 ≤ (x &&& 2147483647).toBitVec.toInt
    rw [BitVec.toInt_eq_toNat_of_lt (by omega)]
    omega
  rw [mod_b h0 hn]
  exact ⟨Int.emod_nonneg _ (by omega), Int.emod_lt_of_pos _ hn⟩

set_option maxHeartbeats 4000000 in
set_option maxRecDepth 100000 in
theorem c_L_in (l : Launch) (G : mg) (A : Nat → Prop) (Mw : mw) (p0 p1 : Int32) (hi0 : ¬ p0 < 0) (hn0 : 0 < p1.toInt) : Met l yL_in wsL_in ({ frames := 1, cells := 0, slots := 0, locals := 22 }) (va_Pc [.ref (G.2.2.2 0), .int p0, .int p1] (mB G A Mw)) (va_Qi (fun r Mw1 => (0 ≤ r.toInt ∧ r.toInt < p1.toInt) ∧ Mw1 = Mw) (mE G A) A) 0 0 A := by
  refine Met.ofW (cc := cL_in) (maxL := 3) (ret := (some .int)) (by decide) rfl ?_
  intro p e s m args below meth c s₁ B hml hv
  obtain ⟨rfl, hG, hP, hI, hA⟩ := hv
  have hx := B.exec
  have hb := B.bytes
  have hr := B.returns
  have hts := atoms_spec (ws := wsL_in) B.pre
  have hown : s.vm.findClass RL = some m.cls := findClass_of_methodNamed B.named
  have hlocks := B.notSynchronized
  have hK := hG.K
  have hS : va_S A s.heap s.heap [] := va_S.rf
  have hl := lv_entry ([.ref (G.2.2.2 0), .int p0, .int p1]) (n := 3) (Nat.le_of_ble_eq_true rfl)
  rw [lg_entry_eq]
  generalize (lg_sl ([.ref (G.2.2.2 0), .int p0, .int p1]) ++ List.replicate (3 - (lg_sl ([.ref (G.2.2.2 0), .int p0, .int p1])).length) Slot.unset).toArray = ls at hl ⊢
  have hl : lv_has ls 3 [(0, .ref (G.2.2.2 0)), (1, .int p0), (2, .int p1)] := hl
  have hP : mP G.1 Mw s.heap := hP
  refine lv_aload_n hx hb dL_in_0 rfl (lv_at hl 0 rfl) ?_
  refine lv_iload_n hx hb dL_in_1 rfl (lv_at hl 1 rfl) ?_
  refine m_calli (va_runS (As := [.ref (G.2.2.2 0), .int p0]) (rest := []) ⟨hx, hb, hml, hown, hts⟩ (c_L_cell l G A Mw p0 hi0) (va_cwS 2 hts gL_in_L_cell rfl rfl rfl (by decide +kernel) ⟨Nat.le_of_ble_eq_true rfl, Nat.le_of_ble_eq_true rfl⟩) (mPreS hG hS hP hI hA) rfl rfl hl.1 rfl (lv_room (Nat.le_of_ble_eq_true rfl)) dL_in_2 ⟨Nat.le_of_ble_eq_true rfl, Nat.le_of_ble_eq_true rfl⟩) hS (fun r1 Mw1 H locs hp_r1 hP hI hS => ?_)
  subst Mw1
  refine lv_ldc (v := 2147483647) hx hb hown (hts (.constant RL 66 (2147483647)) (by decide +kernel)) dL_in_5 ?_
  refine lv_iand hx hb dL_in_7 ?_
  refine lv_iload_n hx hb dL_in_8 rfl (lv_at hl 2 rfl) ?_
  refine lv_irem hx hb dL_in_9 (fun q => by rw [q] at hn0; exact absurd hn0 (by decide)) ?_
  refine W.widen (k := 0) (n := 0) (Nat.le_of_ble_eq_true rfl) (Nat.le_of_ble_eq_true rfl) ?_
  exact W.iret (v := (r1 &&& 2147483647) - (r1 &&& 2147483647) / p1 * p1) hx hb hr (fun t99 ht99 hW99 => ⟨⟨(r1 &&& 2147483647) - (r1 &&& 2147483647) / p1 * p1, Mw, rfl, ⟨in_b _ hn0, rfl⟩, by rw [ht99]; exact hP, hI⟩, hS.F ht99⟩) hS.2.2 dL_in_10
end
section
/-! ===== sums of bores, out of the rows of whole ===== -/
/-! ===== the reference: a tube, an instrument ===== -/
def msum (bf : Nat → Int32) : Nat → Int32
  | 0 => 0
  | k + 1 => msum bf k + bf (k / 10)
theorem nI_d10 {k : Nat} (h : k < 2 ^ 31) : nI k / 10 = nI (k / 10) := by
  rw [← Int32.toInt_inj, t_div (by rw [nI_toInt h]; omega) (by decide), nI_toInt h, nI_toInt (by omega)]
  rfl
/-! ===== the class's sums are the reference's ===== -/
theorem stp_s : ∀ n, n < 200 → ∀ k, k < 20 → stp (nI (n + 1)) (nI k) = stp (nI n) (nI k) + (if k = n / 10 then 1 else 0) := by decide +kernel
theorem stp_0 : ∀ k, k < 20 → stp (nI 0) (nI k) = 0 := by decide +kernel
theorem vs_s (bf : Nat → Int32) {n : Nat} (hn : n < 200) : ∀ m, m ≤ 20 → vsum bf (nI (n + 1)) m = vsum bf (nI n) m + (if n / 10 < m then bf (n / 10) else 0) := by
  intro m
  induction m with
  | zero =>
    intro _
    rw [if_neg (Nat.not_lt_zero _)]
    rfl
  | succ m ih =>
    intro hm
    show vsum bf (nI (n + 1)) m + bf m * stp (nI (n + 1)) (nI m) = vsum bf (nI n) m + bf m * stp (nI n) (nI m) + _
    rw [ih (by omega), stp_s n hn m (by omega), Int32.mul_add]
    by_cases h : m = n / 10
    · rw [if_pos h, if_neg (by omega), if_pos (by omega), ← h, Int32.mul_one, Int32.add_zero, Int32.add_assoc]
    · rw [if_neg h, Int32.mul_zero, Int32.add_zero]
      by_cases h2 : n / 10 < m
      · rw [if_pos h2, if_pos (by omega), i_arc]
      · rw [if_neg h2, if_neg (by omega), Int32.add_zero, Int32.add_zero]
theorem vs_0 (bf : Nat → Int32) : ∀ m, m ≤ 20 → vsum bf (nI 0) m = 0 := by
  intro m
  induction m with
  | zero => intro _; rfl
  | succ m ih =>
    intro hm
    show vsum bf (nI 0) m + bf m * stp (nI 0) (nI m) = 0
    rw [ih (by omega), stp_0 m (by omega), Int32.mul_zero]
    rfl
theorem vs_ms (bf : Nat → Int32) : ∀ n, n ≤ 200 → vsum bf (nI n) 20 = msum bf n := by
  intro n
  induction n with
  | zero => intro _; exact vs_0 bf 20 (by omega)
  | succ n ih =>
    intro hn
    rw [vs_s bf (by omega) 20 (by omega), ih (by omega), if_pos (by omega)]
    rfl
theorem ms_b {bf : Nat → Int32} (hb : ∀ k, k < 20 → 1 ≤ (bf k).toInt ∧ (bf k).toInt ≤ 60) : ∀ k : Nat, k ≤ 200 → (k : Int) ≤ (msum bf k).toInt ∧ (msum bf k).toInt ≤ 60 * k := by
  intro k
  induction k with
  | zero =>
    intro _
    have e : (msum bf 0).toInt = 0 := rfl
    omega
  | succ k ih =>
    intro hk
    have h := hb (k / 10) (by omega)
    have h2 := ih (by omega)
    have e : (msum bf (k + 1)).toInt = (msum bf k).toInt + (bf (k / 10)).toInt := t_add (a := msum bf k) (b := bf (k / 10)) (by omega) (by omega)
    omega
theorem ms_m {bf : Nat → Int32} (hb : ∀ k, k < 20 → 1 ≤ (bf k).toInt ∧ (bf k).toInt ≤ 60) {j : Nat} : ∀ k : Nat, j ≤ k → k ≤ 200 → (msum bf j).toInt ≤ (msum bf k).toInt := by
  intro k
  induction k with
  | zero => intro h _; rw [show j = 0 by omega]; exact Int.le_refl _
  | succ k ih =>
    intro h1 h2
    by_cases e : j = k + 1
    · rw [e]; exact Int.le_refl _
    · have h3 := ih (by omega) (by omega)
      have h := hb (k / 10) (by omega)
      have h4 := ms_b hb k (by omega)
      have e : (msum bf (k + 1)).toInt = (msum bf k).toInt + (bf (k / 10)).toInt := t_add (a := msum bf k) (b := bf (k / 10)) (by omega) (by omega)
      omega
/-! ===== the class's numbers are the reference's ===== -/
theorem i_0ix {x : Int32} {N : Int} (h0 : 0 ≤ x.toInt) : x = nI x.toNatClampNeg := nI_cl (fun q => by
  have := Int32.lt_iff_toInt_lt.mp q
  have e : (0 : Int32).toInt = 0 := rfl
  omega)
theorem ix_t {x : Int32} (h0 : 0 ≤ x.toInt) : (x.toNatClampNeg : Int) = x.toInt := by
  have e := i_0ix (N := 0) h0
  have l := Int32.toNatClampNeg_lt x
  have e2 := congrArg Int32.toInt e
  rw [nI_toInt l] at e2
  omega
/-- what is delivered -/
def dsum (bf : Nat → Int32) (c : Int32) (a : Nat) : Nat → Int32
  | 0 => 0
  | k + 1 => dsum bf c a k + m_max 0 (bf ((a + k) / 10) - c)
theorem cs_vs (bf : Nat → Int32) (lo up c : Int32) : ∀ m, csum bf lo up c m = vsum (fun k => m_min c (bf k)) up m - vsum (fun k => m_min c (bf k)) lo m := by
  intro m
  induction m with
  | zero => exact (Int32.sub_self 0).symm
  | succ m ih =>
    show csum bf lo up c m + (stp up (nI m) - stp lo (nI m)) * m_min c (bf m) = (vsum (fun k => m_min c (bf k)) up m + m_min c (bf m) * stp up (nI m)) - (vsum (fun k => m_min c (bf k)) lo m + m_min c (bf m) * stp lo (nI m))
    rw [ih, Int32.sub_mul, Int32.mul_comm (stp up (nI m)), Int32.mul_comm (stp lo (nI m))]
    generalize vsum (fun k => m_min c (bf k)) up m = a
    generalize vsum (fun k => m_min c (bf k)) lo m = b
    generalize m_min c (bf m) * stp up (nI m) = x
    generalize m_min c (bf m) * stp lo (nI m) = y
    simp only [Int32.sub_eq_add_neg, Int32.neg_add]
    ac_rfl
theorem mm_c {b c : Int32} (hb1 : 1 ≤ b.toInt) (hb2 : b.toInt ≤ 60) (hc1 : 0 ≤ c.toInt) (hc2 : c.toInt ≤ 100) : m_max 0 (b - c) = b - m_min c b := by
  have e : (b - c).toInt = b.toInt - c.toInt := t_sub (by omega) (by omega)
  show (if (0 : Int32) < b - c then b - c else 0) = b - (if b < c then b else c)
  by_cases h : b < c
  · have h' := Int32.lt_iff_toInt_lt.mp h
    rw [if_pos h, Int32.sub_self, if_neg (fun q => by have := Int32.lt_iff_toInt_lt.mp q; have z : (0 : Int32).toInt = 0 := rfl; omega)]
  · rw [if_neg h]
    have h' : ¬ b.toInt < c.toInt := fun q => h (Int32.lt_iff_toInt_lt.mpr q)
    by_cases h2 : (0 : Int32) < b - c
    · rw [if_pos h2]
    · rw [if_neg h2]
      have h3 : ¬ (0 : Int32).toInt < (b - c).toInt := fun q => h2 (Int32.lt_iff_toInt_lt.mpr q)
      refine Int32.toInt_inj.mp ?_
      have z : (0 : Int32).toInt = 0 := rfl
      omega
theorem ds_m {bf : Nat → Int32} (hb : ∀ k, k < 20 → 1 ≤ (bf k).toInt ∧ (bf k).toInt ≤ 60) {c : Int32} (hc1 : 0 ≤ c.toInt) (hc2 : c.toInt ≤ 100) {a : Nat} : ∀ n, a + n ≤ 200 → dsum bf c a n = (msum bf (a + n) - msum bf a) - (msum (fun k => m_min c (bf k)) (a + n) - msum (fun k => m_min c (bf k)) a) := by
  intro n
  induction n with
  | zero =>
    intro _
    show (0 : Int32) = msum bf a - msum bf a - (msum (fun k => m_min c (bf k)) a - msum (fun k => m_min c (bf k)) a)
    rw [Int32.sub_self, Int32.sub_self, Int32.sub_self]
  | succ n ih =>
    intro hn
    have h := hb ((a + n) / 10) (by omega)
    show dsum bf c a n + m_max 0 (bf ((a + n) / 10) - c) = (msum bf (a + n) + bf ((a + n) / 10) - msum bf a) - (msum (fun k => m_min c (bf k)) (a + n) + m_min c (bf ((a + n) / 10)) - msum (fun k => m_min c (bf k)) a)
    rw [ih (by omega), mm_c h.1 h.2 hc1 hc2]
    generalize msum bf (a + n) = x1
    generalize msum bf a = x2
    generalize msum (fun k => m_min c (bf k)) (a + n) = x3
    generalize msum (fun k => m_min c (bf k)) a = x4
    generalize m_min c (bf ((a + n) / 10)) = x5
    generalize bf ((a + n) / 10) = x6
    simp only [Int32.sub_eq_add_neg, Int32.neg_add, Int32.neg_neg]
    ac_rfl
/-- the widest section -/
theorem wid_r (bf : Nat → Int32) : ∀ k, k ≤ 20 → ∃ j : Nat, j < 20 ∧ wid bf k = nI j := by
  intro k
  induction k with
  | zero => intro _; exact ⟨0, by omega, rfl⟩
  | succ k ih =>
    intro hk
    show ∃ j : Nat, j < 20 ∧ (if brO bf (wid bf k) < bf k then nI k else wid bf k) = nI j
    split
    · exact ⟨k, by omega, rfl⟩
    · exact ih (by omega)
theorem brO_i (bf : Nat → Int32) {j : Nat} (hj : j < 20) : brO bf (nI j) = bf j := by
  unfold brO
  rw [if_neg (nI_pos (by omega)), if_neg (fun q => by have := (nI_leI (a := 20) (b := j) (by omega) (by omega)).mp q; omega), nI_clamp (by omega)]
/-! ===== the law: two sides, and two arrays between them ===== -/
abbrev aH (n : Nat) : Nat → Prop := fun q => n ≤ q
def aS (H : Heap) (M : mw) : Nat → Prop := fun q => H.size ≤ q ∨ M q ≠ none
theorem aS_sub {A : Nat → Prop} {H : Heap} {M : mw} (hA : ∀ q : Nat, H.size ≤ q → A q) (hI : mI A M) : ∀ q, aS H M q → A q := fun q h => h.elim (hA q) (fun z => by
  cases e : M q with
  | none => exact absurd e z
  | some x => exact hI q x e)
/-- the union of two worlds -/
def twU (M N : mw) : mw := fun q => match M q with | some e => some e | none => N q
theorem twU_l {M N : mw} {q : Nat} {e : va_E} (h : M q = some e) : twU M N q = some e := by unfold twU; rw [h]
theorem twU_r {M N : mw} {q : Nat} (h : M q = none) : twU M N q = N q := by unfold twU; rw [h]
theorem twU_n {M N : mw} {q : Nat} (h : twU M N q = none) : M q = none ∧ N q = none := by
  cases e : M q with
  | none => exact ⟨rfl, by rw [← twU_r (N := N) e]; exact h⟩
  | some x => rw [twU_l e] at h; cases h
theorem mP.twU {D : va_G} {M N : mw} {H : Heap} (h1 : mP D M H) (h2 : mP D N H) : mP D (twU M N) H := fun a e he => by
  cases q : M a with
  | none => rw [twU_r q] at he; exact h2 a e he
  | some x => rw [twU_l q] at he; cases he; exact h1 a _ q
theorem mI.twU {A : Nat → Prop} {M N : mw} (h1 : mI A M) (h2 : mI A N) : mI A (twU M N) := fun a e he => by
  cases q : M a with
  | none => rw [twU_r q] at he; exact h2 a e he
  | some x => exact h1 a x q
theorem mP_o {D : va_G} {M : mw} {H : Heap} {o : Nat} {e : va_E} (h : mP D M H) (ho : va_at D vwCl (o, e) H) : mP D (mu M o e) H := fun a x hx => by
  by_cases z : a = o
  · subst z
    rw [mu_s] at hx
    cases hx
    exact ho
  · rw [mu_n z] at hx
    exact h a x hx
section MCTX
variable {p : Program} {l : Launch} {e : Env} {R : Room} {s : State} {m : MethodId} {args : Array Value} {below : List Frame} {meth : Method} {c : Code} {H : Heap} {locs : List Loc} {cells slots : Nat} {Q : State → Prop}
variable {cc : ByteArray} {pc : Nat} {ls : Array Slot} {rest st0 : List Value} {a : Array Value} {A : Nat → Prop} {mc ms : Nat} {G : mg} {M : mw} {D : va_G} {tys : List (ClassId × FieldType)} {b : Nat}
theorem sPre (hG : GK G A s) (hS : va_S A s.heap H locs) (hP : mP G.1 M H) (hI : mI A M) (hA : ∀ q : Nat, s.heap.size ≤ q → A q) (U : State) (hU : U.heap = H) (hW : s.WarmedH U.vm) : mB G (aS H M) M U := by
  have hg := hG.move hS hU hW
  exact ⟨⟨hg.1, hg.2.1, hg.2.2.narrow (aS_sub (fun q hq => hA q (Nat.le_trans hS.1 hq)) hI)⟩, by rw [hU]; exact hP, fun a e he => Or.inr (by rw [he]; exact fun z => by cases z), fun q hq => Or.inl (by rw [← hU]; exact hq)⟩
theorem sPreS (hG : GK G A s) (hS : va_S A s.heap H locs) (hP : mP G.1 M H) (hI : mI A M) (hA : ∀ q : Nat, s.heap.size ≤ q → A q) {As : List Value} : PreS s H (va_Pc As (mB G (aS H M) M)) As :=
  ⟨fun a U g mk h => mB.blind a U g mk h, fun U hU hW => ⟨rfl, sPre hG hS hP hI hA U hU hW⟩⟩
theorem sPreV (hG : GK G A s) (hS : va_S A s.heap H locs) (hP : mP G.1 M H) (hI : mI A M) (hA : ∀ q : Nat, s.heap.size ≤ q → A q) {As : List Value} {b ci : Nat} {fs : List Value} (hb : va_at G.1 vwCl (b, .inr (ci, fs)) H) {r : vw_C} (hc : vwCl[ci]? = some r) : PreV s H r.1 b (va_Pc (.ref b :: As) (mB G (aS H M) M)) As :=
  ⟨fun a U g mk h => mB.blind a U g mk h, va_recv hG.K hb.one hc (q0 := 0) rfl, fun U hU hW => ⟨rfl, sPre hG hS hP hI hA U hU hW⟩⟩
theorem ls_calli {post : Int32 → mw → Prop} (hr : vx_Run p l e R s m args below meth c H locs cells slots mc ms (F0 m pc ls st0) rest (va_Qi post (mE G (aS H M)) (aS H M) a) (xX (fun _ => False) G (aS H M) M) (aS H M)) (hI : mI A M) (hS : va_S A s.heap H locs) (hA : ∀ q : Nat, s.heap.size ≤ q → A q)
    (kk : ∀ (r : Int32) (M1 : mw) (H1 : Heap) (locs1 : List Loc), post r M1 → mP G.1 M1 H1 → mI (aS H M) M1 → (∀ q : Nat, q < H.size → ¬ aS H M q → H1[q]? = H[q]?) → va_S A s.heap H1 locs1 → W p l e R s m args below meth c H1 locs1 (cells + mc) (slots + ms) Q (F0 m (pc + 3) ls (.int r :: rest))) : W p l e R s m args below meth c H locs cells slots Q (F0 m pc ls st0) :=
  have sub := aS_sub (fun q hq => hA q (Nat.le_trans hS.1 hq)) hI
  vx_calli hr hS (fun q _ h => sub q h) (fun q h => sub q h) (fun q _ h => sub q h) (fun _ _ _ _ _ _ _ _ _ hp _ _ _ _ _ _ _ => False.elim hp) (fun r u t H1 locs1 ht _ hp hB _ hk hS1 => kk r u H1 locs1 hp (by rw [← ht]; exact hB.1) hB.2 hk hS1)
theorem lm_calli {post : Int32 → mw → Prop} (hr : va_Run p l e R s m args below meth c H locs cells slots mc ms (F0 m pc ls st0) rest (va_Qi post (mE G (aS H M)) (aS H M) a) (aS H M)) (hI : mI A M) (hS : va_S A s.heap H locs) (hA : ∀ q : Nat, s.heap.size ≤ q → A q)
    (kk : ∀ (r : Int32) (M1 : mw) (H1 : Heap) (locs1 : List Loc), post r M1 → mP G.1 M1 H1 → mI (aS H M) M1 → (∀ q : Nat, q < H.size → ¬ aS H M q → H1[q]? = H[q]?) → va_S A s.heap H1 locs1 → W p l e R s m args below meth c H1 locs1 (cells + mc) (slots + ms) Q (F0 m (pc + 3) ls (.int r :: rest))) : W p l e R s m args below meth c H locs cells slots Q (F0 m pc ls st0) :=
  have sub := aS_sub (fun q hq => hA q (Nat.le_trans hS.1 hq)) hI
  va_calli hr hS (fun q _ h => sub q h) (fun q h => sub q h) (fun r u t H1 locs1 ht _ hp hB _ hk hS1 => kk r u H1 locs1 hp (by rw [← ht]; exact hB.1) hB.2 hk hS1)
theorem lm_callv {post : mw → Prop} (hr : va_Run p l e R s m args below meth c H locs cells slots mc ms (F0 m pc ls st0) rest (va_Qv post (mE G (aS H M)) (aS H M) a) (aS H M)) (hI : mI A M) (hS : va_S A s.heap H locs) (hA : ∀ q : Nat, s.heap.size ≤ q → A q)
    (kk : ∀ (M1 : mw) (H1 : Heap) (locs1 : List Loc), post M1 → mP G.1 M1 H1 → mI (aS H M) M1 → (∀ q : Nat, q < H.size → ¬ aS H M q → H1[q]? = H[q]?) → va_S A s.heap H1 locs1 → W p l e R s m args below meth c H1 locs1 (cells + mc) (slots + ms) Q (F0 m (pc + 3) ls rest)) : W p l e R s m args below meth c H locs cells slots Q (F0 m pc ls st0) :=
  have sub := aS_sub (fun q hq => hA q (Nat.le_trans hS.1 hq)) hI
  va_callv hr hS (fun q _ h => sub q h) (fun q h => sub q h) (fun u t H1 locs1 ht _ hp hB _ hk hS1 => kk u H1 locs1 hp (by rw [← ht]; exact hB.1) hB.2 hk hS1)
end MCTX
/-! ===== numbers of the law ===== -/
theorem nA (a b : Nat) : nI a + nI b = nI (a + b) := (Int32.ofNat_add a b).symm
theorem ng_add {a b : Nat} (h : a + b < 2 ^ 31) : ¬ nI a + nI b < 0 := by
  rw [nA]
  exact nI_pos h
theorem nI_ofb {x : Int32} {N : Nat} (h0 : 0 ≤ x.toInt) (h1 : x.toInt < N) : ∃ n, n < N ∧ x = nI n :=
  ⟨x.toNatClampNeg, by have := ix_t h0; omega, i_0ix (N := 0) h0⟩
theorem rg_n {n lo hi : Nat} (h1 : lo ≤ n) (h2 : n ≤ hi) (h3 : hi < 2 ^ 31) : rng (nI n) (nI lo) (nI hi) := ⟨nI_nlt h1 (by omega), nI_le h2 h3⟩
theorem nI_inj2 {a b : Nat} (ha : a < 2 ^ 31) (hb : b < 2 ^ 31) (h : nI a = nI b) : a = b := by
  rw [← nI_clamp ha, ← nI_clamp hb, h]
/-- the bores as the law says them -/
theorem dbo_lo {f t : Int32} {k : Nat} (h : ¬ 1 ≤ f + nI k * t) : dbo f t k = 1 := by
  have h1 := i_lt h
  show (if (1 : Int32) < (if f + nI k * t < 60 then f + nI k * t else 60) then (if f + nI k * t < 60 then f + nI k * t else 60) else 1) = 1
  rw [if_pos (show f + nI k * t < 60 from by
    rw [Int32.lt_iff_toInt_lt] at h1 ⊢
    have e1 : (1 : Int32).toInt = 1 := rfl
    have e2 : (60 : Int32).toInt = 60 := rfl
    omega)]
  exact if_neg (fun q => by
    rw [Int32.lt_iff_toInt_lt] at h1 q
    omega)
theorem dbo_hi {f t : Int32} {k : Nat} (h : ¬ f + nI k * t ≤ 60) : dbo f t k = 60 := by
  show (if (1 : Int32) < (if f + nI k * t < 60 then f + nI k * t else 60) then (if f + nI k * t < 60 then f + nI k * t else 60) else 1) = 60
  have h1 := i_lt h
  rw [if_neg (show ¬ f + nI k * t < 60 from fun q => by
    rw [Int32.lt_iff_toInt_lt] at h1 q
    omega)]
  exact if_pos (by decide)
theorem dbo_mid {f t : Int32} {k : Nat} (h : 1 ≤ f + nI k * t) (h2 : f + nI k * t ≤ 60) : dbo f t k = f + nI k * t := by
  show (if (1 : Int32) < (if f + nI k * t < 60 then f + nI k * t else 60) then (if f + nI k * t < 60 then f + nI k * t else 60) else 1) = f + nI k * t
  rw [Int32.le_iff_toInt_le] at h h2
  have e1 : (1 : Int32).toInt = 1 := rfl
  have e2 : (60 : Int32).toInt = 60 := rfl
  by_cases q : f + nI k * t < 60
  · rw [if_pos q]
    by_cases z : (1 : Int32) < f + nI k * t
    · exact if_pos z
    · rw [if_neg z]
      rw [Int32.lt_iff_toInt_lt] at z
      exact Int32.toInt_inj.mp (by omega)
  · rw [if_neg q, if_pos (by decide)]
    rw [Int32.lt_iff_toInt_lt] at q
    exact Int32.toInt_inj.mp (by omega)
/-- the widest section so far -/
theorem wd_st (bf : Nat → Int32) {k : Nat} (hk : k < 200) : (bf (k / 10) ≤ bf (wid bf ((k + 9) / 10)).toNatClampNeg → wid bf ((k + 1 + 9) / 10) = wid bf ((k + 9) / 10)) ∧ (¬ bf (k / 10) ≤ bf (wid bf ((k + 9) / 10)).toNatClampNeg → wid bf ((k + 1 + 9) / 10) = nI (k / 10)) := by
  have hbr : ∀ m, m ≤ 20 → brO bf (wid bf m) = bf (wid bf m).toNatClampNeg := fun m hm => by
    obtain ⟨j, hj, e⟩ := wid_r bf m hm
    rw [e, brO_i bf hj, nI_clamp (by omega)]
  have hw : ∀ m, wid bf (m + 1) = if brO bf (wid bf m) < bf m then nI m else wid bf m := fun _ => rfl
  by_cases h0 : k % 10 = 0
  · rw [show (k + 1 + 9) / 10 = k / 10 + 1 by omega, show (k + 9) / 10 = k / 10 by omega, hw, hbr (k / 10) (by omega)]
    exact ⟨fun h => if_neg (i_nlt h), fun h => if_pos (i_lt h)⟩
  · rw [show (k + 1 + 9) / 10 = k / 10 + 1 by omega, show (k + 9) / 10 = k / 10 + 1 by omega]
    refine ⟨fun _ => rfl, fun h => absurd ?_ h⟩
    rw [hw, hbr (k / 10) (by omega)]
    by_cases q : bf (wid bf (k / 10)).toNatClampNeg < bf (k / 10)
    · rw [if_pos q, nI_clamp (by omega)]
      exact Int32.le_refl _
    · rw [if_neg q]
      exact i_le q
theorem wd_in (bf : Nat → Int32) {k : Nat} (hk : k ≤ 200) : vp_in (wid bf ((k + 9) / 10)) 20 := by
  obtain ⟨j, hj, e⟩ := wid_r bf ((k + 9) / 10) (by omega)
  rw [e]
  exact vp_in_nI hj (by omega)
/-- a thread's end, place by place from the top -/
def TE (bf : Nat → Int32) (T : Int32) (k : Nat) (z : Int32) : Prop := (z = -900003 ∧ ∀ j, k ≤ j → j ≤ 200 → msum bf j < T) ∨ (∃ j, k ≤ j ∧ j ≤ 200 ∧ z = nI j ∧ ¬ msum bf j < T ∧ ∀ i, k ≤ i → i < j → msum bf i < T)
theorem TE_0 (bf : Nat → Int32) (T : Int32) : TE bf T 201 (-900003) := Or.inl ⟨rfl, fun j h1 h2 => by omega⟩
theorem TE_n {bf : Nat → Int32} {T z : Int32} {k : Nat} (h : TE bf T (k + 1) z) (q : msum bf k < T) : TE bf T k z := by
  rcases h with ⟨h1, h2⟩ | ⟨j, h1, h2, h3, h4, h5⟩
  · refine Or.inl ⟨h1, fun j a b => ?_⟩
    by_cases e : j = k
    · rw [e]; exact q
    · exact h2 j (by omega) b
  · refine Or.inr ⟨j, by omega, h2, h3, h4, fun i a b => ?_⟩
    by_cases e : i = k
    · rw [e]; exact q
    · exact h5 i (by omega) b
theorem TE_p {bf : Nat → Int32} {T z : Int32} {k : Nat} (_ : TE bf T (k + 1) z) (hk : k ≤ 200) (q : ¬ msum bf k < T) : TE bf T k (nI k) := Or.inr ⟨k, Nat.le_refl k, hk, rfl, q, fun i a b => by omega⟩
theorem TE_f {bf : Nat → Int32} (hb : ∀ k, k < 20 → 1 ≤ (bf k).toInt ∧ (bf k).toInt ≤ 60) {p : Nat} {v z : Int32} (hp : p ≤ 200) (h1 : 1 ≤ v.toInt) (h2 : v.toInt ≤ 99999) (h : TE bf (msum bf p + v) p z) :
    (∃ j, j ≤ 200 ∧ z = nI j ∧ fphR bf (vsum bf (nI p) 20 + v) (nI j)) ∨ (z = -900003 ∧ fphR bf (vsum bf (nI p) 20 + v) (-1)) := by
  have hbp := ms_b hb p hp
  have eg : (msum bf p + v).toInt = (msum bf p).toInt + v.toInt := t_add (by omega) (by omega)
  have low : ∀ j, j < p → msum bf j < msum bf p + v := fun j hj => by
    rw [Int32.lt_iff_toInt_lt, eg]
    have := ms_m hb p (j := j) (by omega) (by omega)
    omega
  unfold fphR
  rw [vs_ms bf p hp]
  rcases h with ⟨e1, e2⟩ | ⟨j, e1, e2, e3, e4, e5⟩
  · refine Or.inr ⟨e1, Or.inr ⟨rfl, fun j hj => ?_⟩⟩
    rw [vs_ms bf j (by omega)]
    by_cases q : j < p
    · exact low j q
    · exact e2 j (by omega) (by omega)
  · refine Or.inl ⟨j, e2, e3, Or.inl ⟨j, e2, rfl, by rw [vs_ms bf j e2]; exact e4, fun i hi => ?_⟩⟩
    rw [vs_ms bf i (by omega)]
    by_cases q : i < p
    · exact low i q
    · exact e5 i (by omega) hi
/-- what clings, and what is delivered -/
theorem cts_1 {x : Int32} (h : 60 ≤ x) : (0 : Int32) = cts x := (if_pos h).symm
theorem cts_2 {x : Int32} (h : ¬ 60 ≤ x) : (69 - x) / 10 = cts x := by
  unfold cts
  rw [if_neg h]
  congr 1
  rw [show (69 : Int32) = 60 + 9 from by decide, Int32.sub_eq_add_neg, Int32.sub_eq_add_neg, Int32.add_assoc, Int32.add_comm 9, ← Int32.add_assoc]
theorem cts_b {n : Nat} (hn : n < 90) : 0 ≤ (cts (nI (1 + n))).toInt ∧ (cts (nI (1 + n))).toInt ≤ 100 := by
  have key : ∀ n : Nat, n < 90 → 0 ≤ (cts (nI (1 + n))).toInt ∧ (cts (nI (1 + n))).toInt ≤ 100 := by decide +kernel
  exact key n hn
theorem dm_le {b c : Int32} (h : b ≤ c) (hb1 : 1 ≤ b.toInt) (hb2 : b.toInt ≤ 60) (hc1 : 0 ≤ c.toInt) (hc2 : c.toInt ≤ 100) : (0 : Int32) = m_max 0 (b - c) := by
  refine (if_neg (fun q => ?_)).symm
  rw [Int32.lt_iff_toInt_lt, t_sub (by omega) (by omega)] at q
  rw [Int32.le_iff_toInt_le] at h
  have z : (0 : Int32).toInt = 0 := rfl
  omega
theorem dm_gt {b c : Int32} (h : ¬ b ≤ c) (hb1 : 1 ≤ b.toInt) (hb2 : b.toInt ≤ 60) (hc1 : 0 ≤ c.toInt) (hc2 : c.toInt ≤ 100) : b - c = m_max 0 (b - c) := by
  refine (if_pos ?_).symm
  rw [Int32.lt_iff_toInt_lt, t_sub (by omega) (by omega)]
  rw [Int32.le_iff_toInt_le] at h
  have z : (0 : Int32).toInt = 0 := rfl
  omega
theorem dl_eq {bf : Nat → Int32} (hb : ∀ k, k < 20 → 1 ≤ (bf k).toInt ∧ (bf k).toInt ≤ 60) {c : Int32} (hc1 : 0 ≤ c.toInt) (hc2 : c.toInt ≤ 100) {t f : Nat} (h : t ≤ f) (hf : f ≤ 200) : vsum bf (nI f) 20 - vsum bf (nI t) 20 - csum bf (nI t) (nI f) c 20 = dsum bf c t (f - t) := by
  rw [cs_vs, vs_ms bf f hf, vs_ms bf t (by omega), vs_ms (fun k => m_min c (bf k)) f hf, vs_ms (fun k => m_min c (bf k)) t (by omega), ds_m hb hc1 hc2 (f - t) (by omega), show t + (f - t) = f by omega]
/-! ===== what the calls answer in the law's states ===== -/
theorem wan_1 {x : Int32} {s : St} : wan (1, x, s) = -900001 := (wan_k (k := 0) rfl).trans (by decide)
theorem wan_2 {x : Int32} {s : St} : wan (2, x, s) = -900002 := (wan_k (k := 1) rfl).trans (by decide)
theorem wan_3 {x : Int32} {s : St} : wan (3, x, s) = -900003 := (wan_k (k := 2) rfl).trans (by decide)
abbrev bnd (bo : Nat → Int32) : Prop := ∀ k, k < 20 → 1 ≤ (bo k).toInt ∧ (bo k).toInt ≤ 60
def pq (bo : Nat → Int32) (st : St) : Prop := nT st = 1 ∧ nN st = 0 ∧ usS st 0 = 0 ∧ boS st 0 = bo
def pr (st : St) : Prop := nT st = 1 ∧ nN st = 1 ∧ usS st 0 = 1
theorem pq_b {bo : Nat → Int32} {st : St} (h : pq bo st) (hV : Inv st) : bnd bo := by
  rw [← h.2.2.2]
  exact (hV.2.1 0 (by rw [h.1]; omega)).1
theorem z_ix : ix 0 = 0 := rfl
theorem tk_0 {st : St} (h : nT st = 1) : tok st 0 := ⟨by decide, by rw [h]; exact Nat.zero_lt_one⟩
theorem tk_1 {st : St} (h : nT st = 1) : ¬ tok st 1 := fun q => by
  have h2 : (1 : Nat) < nT st := q.2
  rw [h] at h2
  omega
theorem q_draw1 {st : St} {p0 p1 : Int32} (h : ¬ rng p0 1 40) : m_draw st p0 p1 = (1, 0, st) := chk_n h
theorem q_draw2 {st : St} {p0 p1 : Int32} (h0 : rng p0 1 40) (h : ¬ rng p1 (-2) 2) : m_draw st p0 p1 = (1, 0, st) := (chk_p h0).trans (chk_n h)
theorem q_draw {p0 p1 : Int32} (h0 : rng p0 1 40) (h : rng p1 (-2) 2) : m_draw stZ p0 p1 = (0, 0, addT stZ p0 p1) := (chk_p h0).trans ((chk_p h).trans ((chk_p (show nT stZ < 8 from by decide)).trans (by rw [show nI (nT stZ) = 0 from rfl])))
theorem pq_draw (p0 p1 : Int32) : pq (dboU p0 p1 20) (addT stZ p0 p1) := ⟨rfl, rfl, (show fu (usS stZ) 0 0 0 = 0 from fu_s), (show fu (boS stZ) 0 (dboU p0 p1 20) 0 = dboU p0 p1 20 from fu_s)⟩
theorem q_bore {bo : Nat → Int32} {st : St} (h : pq bo st) {k : Nat} (hk : k < 20) : m_bore st 0 (nI k) = (0, bo k, st) := by
  refine (chk_p (tk_0 h.1)).trans ((chk_p (rg_n (lo := 0) (hi := 19) (by omega) (by omega) (by omega))).trans ?_)
  show (0, brO (boS st 0) (nI k), st) = _
  rw [h.2.2.2, brO_i bo hk]
theorem q_bore1 {st : St} (h : nT st = 1) {k : Int32} : m_bore st 1 k = (1, 0, st) := chk_n (tk_1 h)
theorem q_bore2 {st : St} (h : nT st = 1) : m_bore st 0 20 = (2, 0, st) := (chk_p (tk_0 h)).trans (chk_n (by decide))
theorem q_section {bo : Nat → Int32} {st : St} (h : pq bo st) {k : Nat} (hk : k < 20) {v : Int32} (hv : rng v 1 60) : m_section st 0 (nI k) v = (0, bo k, setB st 0 (nI k) v) := by
  refine (chk_p (tk_0 h.1)).trans ((chk_p (rg_n (lo := 0) (hi := 19) (by omega) (by omega) (by omega))).trans ((chk_p hv).trans ((chk_p h.2.2.1).trans ?_)))
  show (0, brO (boS st 0) (nI k), setB st 0 (nI k) v) = _
  rw [h.2.2.2, brO_i bo hk]
theorem pq_section {bo : Nat → Int32} {st : St} (h : pq bo st) {k : Nat} (hk : k < 20) (v : Int32) : pq (upd bo k v) (setB st 0 (nI k) v) := by
  refine ⟨h.1, h.2.1, h.2.2.1, ?_⟩
  show fu (boS st) 0 (upd (boS st 0) (ix (nI k)) v) 0 = _
  rw [fu_s, h.2.2.2]
  show upd bo (nI k).toNatClampNeg v = _
  rw [nI_clamp (by omega)]
theorem q_section2 {st : St} (h : nT st = 1) {k v : Int32} (hv : ¬ rng k 0 19) : m_section st 0 k v = (2, 0, st) := (chk_p (tk_0 h)).trans (chk_n hv)
theorem q_section3 {st : St} (h : nT st = 1) {k v : Int32} (hk : rng k 0 19) (hv : ¬ rng v 1 60) : m_section st 0 k v = (2, 0, st) := (chk_p (tk_0 h)).trans ((chk_p hk).trans (chk_n hv))
theorem q_section4 {st : St} (h : nT st = 1) {k v : Int32} (hk : rng k 0 19) (hv : rng v 1 60) (hu : usS st 0 = 1) : m_section st 0 k v = (3, 0, st) := (chk_p (tk_0 h)).trans ((chk_p hk).trans ((chk_p hv).trans (chk_n (show ¬ usS st 0 = 0 from by rw [hu]; decide))))
theorem q_widest {bo : Nat → Int32} {st : St} (h : pq bo st) : m_widest st 0 = (0, wid bo 20, st) := by
  refine (chk_p (tk_0 h.1)).trans ?_
  show (0, wid (boS st 0) 20, st) = _
  rw [h.2.2.2]
theorem q_widest1 {st : St} (h : nT st = 1) : m_widest st 1 = (1, 0, st) := chk_n (tk_1 h)
theorem q_volume {bo : Nat → Int32} {st : St} (h : pq bo st) {k : Nat} (hk : k ≤ 200) : m_volume st 0 (nI k) = (0, msum bo k, st) := by
  refine (chk_p (tk_0 h.1)).trans ((chk_p (rg_n (lo := 0) (hi := 200) (by omega) hk (by omega))).trans ?_)
  show (0, vsum (boS st 0) (nI k) 20, st) = _
  rw [h.2.2.2, vs_ms bo k hk]
theorem q_volume2 {st : St} (h : nT st = 1) : m_volume st 0 201 = (2, 0, st) := (chk_p (tk_0 h)).trans (chk_n (by decide))
theorem q_thread {bo : Nat → Int32} {st : St} (h : pq bo st) (hV : Inv st) {p : Nat} (hp : p ≤ 200) {n : Nat} (h1 : 1 ≤ n) (h2 : n ≤ 99999) {z : Int32} (hz : TE bo (msum bo p + nI n) p z) : wan (m_thread st 0 (nI p) (nI n)) = z ∧ pq bo (m_thread st 0 (nI p) (nI n)).2.2 := by
  have hb := pq_b h hV
  have e0 : m_thread st 0 (nI p) (nI n) = chk (¬ thr st 0 (nI p) (nI n) = -1) 3 st (0, thr st 0 (nI p) (nI n), st) := (chk_p (tk_0 h.1)).trans ((chk_p (rg_n (lo := 0) (hi := 200) (by omega) hp (by omega))).trans (chk_p (rg_n (lo := 1) (hi := 99999) h1 h2 (by omega))))
  have en : (nI n).toInt = n := nI_toInt (by omega)
  rcases TE_f hb hp (by omega) (by omega) hz with ⟨j, hj, e1, e2⟩ | ⟨e1, e2⟩
  · have et : thr st 0 (nI p) (nI n) = nI j := thr_eq (by rw [h.2.2.2]; exact e2)
    rw [e0, et, chk_p (show ¬ nI j = -1 from fun q => by
      have := congrArg Int32.toInt q
      rw [nI_toInt (by omega)] at this
      have z1 : (-1 : Int32).toInt = -1 := rfl
      omega), e1]
    exact ⟨rfl, h⟩
  · have et : thr st 0 (nI p) (nI n) = -1 := thr_eq (by rw [h.2.2.2]; exact e2)
    rw [e0, et, chk_n (fun q => q rfl), e1]
    exact ⟨wan_3, h⟩
theorem q_thread2 {st : St} (h : nT st = 1) {p v : Int32} (hp : rng p 0 200) (hv : ¬ rng v 1 99999) : m_thread st 0 p v = (2, 0, st) := (chk_p (tk_0 h)).trans ((chk_p hp).trans (chk_n hv))
theorem q_deliver {bo : Nat → Int32} {st : St} (h : pq bo st) (hV : Inv st) {f t n : Nat} (hf : f ≤ 200) (hft : t < f) (hn : n < 90) : m_deliver st 0 (nI f) (nI t) (nI (1 + n)) = (0, dsum bo (cts (nI (1 + n))) t (f - t), st) := by
  refine (chk_p (tk_0 h.1)).trans ((chk_p (rg_n (lo := 0) (hi := 200) (by omega) hf (by omega))).trans ((chk_p (rg_n (lo := 0) (hi := 200) (by omega) (by omega) (by omega))).trans ((chk_p (rg_n (lo := 1) (hi := 999) (by omega) (by omega) (by omega))).trans ((chk_p (nI_lt hft (by omega))).trans ?_))))
  show (0, vsum (boS st 0) (nI f) 20 - vsum (boS st 0) (nI t) 20 - csum (boS st 0) (nI t) (nI f) (cts (nI (1 + n))) 20, st) = _
  rw [h.2.2.2, dl_eq (pq_b h hV) (cts_b hn).1 (cts_b hn).2 (Nat.le_of_lt hft) hf]
theorem q_deliver2 {st : St} (h : nT st = 1) {f t n : Nat} (hf : f ≤ 200) (ht : t ≤ 200) (hft : ¬ t < f) (hn : n < 90) : m_deliver st 0 (nI f) (nI t) (nI (1 + n)) = (2, 0, st) :=
  (chk_p (tk_0 h)).trans ((chk_p (rg_n (lo := 0) (hi := 200) (by omega) hf (by omega))).trans ((chk_p (rg_n (lo := 0) (hi := 200) (by omega) ht (by omega))).trans ((chk_p (rg_n (lo := 1) (hi := 999) (by omega) (by omega) (by omega))).trans (chk_n (nI_nlt (by omega) (by omega))))))
theorem q_deliver3 {st : St} (h : nT st = 1) {f t v : Int32} (hf : rng f 0 200) (ht : rng t 0 200) (hv : ¬ rng v 1 999) : m_deliver st 0 f t v = (2, 0, st) := (chk_p (tk_0 h)).trans ((chk_p hf).trans ((chk_p ht).trans (chk_n hv)))
theorem q_barometer {st : St} {p0 p1 p2 p3 : Int32} (h0 : rng p0 6000 8000) (h1 : rng p1 (-20) 40) (h2 : rng p2 9780 9832) (h3 : rng p3 1 60) : m_barometer st p0 p1 p2 p3 = (0, (p0 - p0 * 18 * p1 / 100000) * p2 / 9807 + 60 / p3, st) := (chk_p h0).trans ((chk_p h1).trans ((chk_p h2).trans (chk_p h3)))
theorem q_barometer1 {st : St} {p0 p1 p2 p3 : Int32} (h0 : ¬ rng p0 6000 8000) : m_barometer st p0 p1 p2 p3 = (1, 0, st) := chk_n h0
theorem q_boiling1 {st : St} {p0 : Int32} (h0 : ¬ rng p0 700 800) : m_boiling st p0 = (1, 0, st) := chk_n h0
theorem q_boiling {st : St} {p0 : Int32} (h0 : rng p0 700 800) : m_boiling st p0 = (0, 1000 + 37 * (p0 - 760) / 100, st) := chk_p h0
theorem q_make {bo : Nat → Int32} {st : St} (h : pq bo st) : m_make st 0 1000 104 = (0, 0, addI st 0 1000 104) := by
  refine (chk_p (tk_0 h.1)).trans ((chk_p (by decide)).trans ((chk_p (Or.inl rfl)).trans ((chk_p h.2.2.1).trans ((chk_p (by rw [h.2.1]; omega)).trans ?_))))
  rw [h.2.1]
  rfl
theorem pr_make {bo : Nat → Int32} {st : St} (h : pq bo st) : pr (addI st 0 1000 104) := ⟨h.1, congrArg (· + 1) h.2.1, (show fu (usS st) 0 1 0 = 1 from fu_s)⟩
theorem q_make3 {st : St} (h : pr st) : m_make st 0 1000 104 = (3, 0, st) := (chk_p (tk_0 h.1)).trans ((chk_p (by decide)).trans ((chk_p (Or.inl rfl)).trans (chk_n (show ¬ usS st 0 = 0 from by rw [h.2.2]; decide))))
theorem q_make2 {st : St} (h : pr st) : m_make st 0 999 104 = (2, 0, st) := (chk_p (tk_0 h.1)).trans (chk_n (by decide))
theorem q_make1 {st : St} (h : pr st) : m_make st 1 1000 104 = (1, 0, st) := chk_n (tk_1 h.1)
end
section
def wsL_law0_r1 : List Cond := [Cond.classLink RL 10 RX4, Cond.instantiable RX4 9, Cond.initialized RX4, Cond.constant RL 17 (-900001), Cond.constant RL 20 (-900002), Cond.arrayClass .int, Cond.constant RL 29 (-900003), Cond.constant RL 90 (100000), Cond.methodLink RL 67 yX4_init, Cond.instanceMethod yX4_init, Cond.code yX4_init cX4_init 1 none, Cond.methodLink RX4 3 objectInit, Cond.instanceMethod objectInit, Cond.code objectInit ⟨#[0xb1]⟩ 1 none, Cond.classLink RX4 9 RX3, Cond.fieldLink RX4 11 "Meniscus" "tubes" "[LMeniscus$Tube;", Cond.classLink RX4 15 RX0, Cond.fieldLink RX4 17 "Meniscus" "instruments" "[LMeniscus$Instrument;", Cond.fieldLink RX4 21 "Meniscus" "airTemperature" "I", Cond.methodLink RL 68 yL_in, Cond.static yL_in, Cond.initialized RL, Cond.code yL_in cL_in 3 (some .int), Cond.constant RL 66 (2147483647)]
def wsL_law0_r2 : List Cond := [Cond.methodLink RL 60 yL_cell, Cond.static yL_cell, Cond.code yL_cell cL_cell 3 (some .int), Cond.constant RL 7 (69069), Cond.constant RL 8 (1103515245), Cond.methodLink RL 72 yL_draw, Cond.static yL_draw, Cond.codeWith yL_draw cL_draw 4 (some .int) [(0, 6, 7, 15), (0, 6, 11, 18)], Cond.classLink RL 15 "java/lang/IllegalArgumentException", Cond.classLink RL 18 "java/lang/IllegalStateException", Cond.methodLink RL 9 yX4_draw, Cond.instanceMethod yX4_draw, Cond.selects RX4 yX4_draw yX4_draw, Cond.code yX4_draw cX4_draw 4 (some .int), Cond.classLink RX4 32 "java/lang/IllegalStateException", Cond.initialized "java/lang/IllegalStateException", Cond.fieldLink RX4 29 "Meniscus" "tubeCount" "I", Cond.instantiable RX3 2, Cond.initialized RX3, Cond.methodLink RX4 25 yX4_demandRange, Cond.static yX4_demandRange, Cond.code yX4_demandRange cX4_demandRange 3 none, Cond.classLink RX4 77 "java/lang/IllegalArgumentException", Cond.initialized "java/lang/IllegalArgumentException"]
def wsL_law0_r3 : List Cond := [Cond.methodLink RX4 39 yX3_init, Cond.instanceMethod yX3_init, Cond.code yX3_init cX3_init 4 none, Cond.methodLink RX3 3 objectInit, Cond.fieldLink RX3 9 "Meniscus$Tube" "bores" "[I", Cond.methodLink RX3 15 Lib.Math.min.name, Cond.static Lib.Math.min.name, Cond.initialized "java/lang/Math", Cond.code Lib.Math.min.name Lib.Math.min.code 2 (some .int), Cond.methodLink RX3 21 Lib.Math.max.name, Cond.static Lib.Math.max.name, Cond.code Lib.Math.max.name Lib.Math.max.code 2 (some .int), Cond.methodLink RL 75 yL_bore, Cond.static yL_bore, Cond.codeWith yL_bore cL_bore 4 (some .int) [(0, 6, 7, 25), (0, 6, 11, 15)], Cond.classLink RL 25 "java/lang/IndexOutOfBoundsException", Cond.methodLink RL 30 yX4_bore, Cond.instanceMethod yX4_bore, Cond.selects RX4 yX4_bore yX4_bore, Cond.code yX4_bore cX4_bore 4 (some .int), Cond.methodLink RX4 42 yX4_tubeNumbered, Cond.instanceMethod yX4_tubeNumbered, Cond.selects RX4 yX4_tubeNumbered yX4_tubeNumbered, Cond.code yX4_tubeNumbered cX4_tubeNumbered 2 (some (.object "Meniscus$Tube"))]
def wsL_law0_r4 : List Cond := [Cond.classLink RX4 288 "java/lang/IndexOutOfBoundsException", Cond.initialized "java/lang/IndexOutOfBoundsException", Cond.methodLink RX4 50 yX3_boreOf, Cond.instanceMethod yX3_boreOf, Cond.selects RX3 yX3_boreOf yX3_boreOf, Cond.code yX3_boreOf cX3_boreOf 2 (some .int), Cond.methodLink RL 77 yL_section, Cond.static yL_section, Cond.codeWith yL_section cL_section 5 (some .int) [(0, 7, 8, 25), (0, 7, 13, 15), (0, 7, 18, 27)], Cond.classLink RL 27 "java/lang/UnsupportedOperationException", Cond.methodLink RL 21 yX4_section, Cond.instanceMethod yX4_section, Cond.selects RX4 yX4_section yX4_section, Cond.code yX4_section cX4_section 6 (some .int), Cond.methodLink RX4 46 yX4_demandUnused, Cond.static yX4_demandUnused, Cond.code yX4_demandUnused cX4_demandUnused 1 none, Cond.classLink RX4 122 "java/lang/UnsupportedOperationException", Cond.initialized "java/lang/UnsupportedOperationException", Cond.methodLink RX4 54 yX3_setBore, Cond.instanceMethod yX3_setBore, Cond.selects RX3 yX3_setBore yX3_setBore, Cond.code yX3_setBore cX3_setBore 3 none, Cond.methodLink RL 80 yL_widest]
def wsL_law0_r5 : List Cond := [Cond.static yL_widest, Cond.codeWith yL_widest cL_widest 3 (some .int) [(0, 5, 6, 25)], Cond.methodLink RL 41 yX4_widest, Cond.instanceMethod yX4_widest, Cond.selects RX4 yX4_widest yX4_widest, Cond.code yX4_widest cX4_widest 2 (some .int), Cond.methodLink RX4 73 yX3_widestSection, Cond.instanceMethod yX3_widestSection, Cond.selects RX3 yX3_widestSection yX3_widestSection, Cond.code yX3_widestSection cX3_widestSection 3 (some .int), Cond.methodLink RX3 31 yX3_boreOf, Cond.methodLink RL 83 yL_volume, Cond.static yL_volume, Cond.codeWith yL_volume cL_volume 4 (some .int) [(0, 6, 7, 25), (0, 6, 11, 15)], Cond.methodLink RL 33 yX4_volume, Cond.instanceMethod yX4_volume, Cond.selects RX4 yX4_volume yX4_volume, Cond.code yX4_volume cX4_volume 4 (some .int), Cond.methodLink RX4 57 yX4_demandPlace, Cond.static yX4_demandPlace, Cond.code yX4_demandPlace cX4_demandPlace 1 none, Cond.methodLink RX4 61 yX3_volumeUpTo, Cond.instanceMethod yX3_volumeUpTo, Cond.selects RX3 yX3_volumeUpTo yX3_volumeUpTo]
def wsL_law0_r6 : List Cond := [Cond.code yX3_volumeUpTo cX3_volumeUpTo 4 (some .int), Cond.methodLink RX3 24 yX3_stepsBelow, Cond.static yX3_stepsBelow, Cond.code yX3_stepsBelow cX3_stepsBelow 2 (some .int), Cond.methodLink RL 85 yL_thread, Cond.static yL_thread, Cond.codeWith yL_thread cL_thread 5 (some .int) [(0, 7, 8, 25), (0, 7, 13, 15), (0, 7, 18, 39)], Cond.classLink RL 39 "java/util/NoSuchElementException", Cond.methodLink RL 36 yX4_thread, Cond.instanceMethod yX4_thread, Cond.selects RX4 yX4_thread yX4_thread, Cond.code yX4_thread cX4_thread 6 (some .int), Cond.classLink RX4 68 "java/util/NoSuchElementException", Cond.initialized "java/util/NoSuchElementException", Cond.constant RX4 64 (99999), Cond.methodLink RX4 65 yX3_firstPlaceHolding, Cond.instanceMethod yX3_firstPlaceHolding, Cond.selects RX3 yX3_firstPlaceHolding yX3_firstPlaceHolding, Cond.code yX3_firstPlaceHolding cX3_firstPlaceHolding 3 (some .int), Cond.methodLink RX3 27 yX3_volumeUpTo, Cond.methodLink RL 87 yL_deliver, Cond.static yL_deliver, Cond.codeWith yL_deliver cL_deliver 6 (some .int) [(0, 9, 10, 25), (0, 9, 15, 15)], Cond.methodLink RL 45 yX4_deliver]
def wsL_law0_r7 : List Cond := [Cond.instanceMethod yX4_deliver, Cond.selects RX4 yX4_deliver yX4_deliver, Cond.code yX4_deliver cX4_deliver 7 (some .int), Cond.methodLink RX4 82 yX4_clingingToStep, Cond.static yX4_clingingToStep, Cond.code yX4_clingingToStep cX4_clingingToStep 1 (some .int), Cond.methodLink RX4 85 yX3_clinging, Cond.instanceMethod yX3_clinging, Cond.selects RX3 yX3_clinging yX3_clinging, Cond.code yX3_clinging cX3_clinging 7 (some .int), Cond.methodLink RL 91 yL_barometer, Cond.static yL_barometer, Cond.codeWith yL_barometer cL_barometer 6 (some .int) [(0, 9, 10, 15)], Cond.methodLink RL 57 yX4_barometer, Cond.instanceMethod yX4_barometer, Cond.selects RX4 yX4_barometer yX4_barometer, Cond.code yX4_barometer cX4_barometer 6 (some .int), Cond.constant RX4 265 (100000), Cond.methodLink RL 93 yL_boiling, Cond.static yL_boiling, Cond.codeWith yL_boiling cL_boiling 3 (some .int) [(0, 5, 6, 15)], Cond.methodLink RL 54 yX4_boiling, Cond.instanceMethod yX4_boiling, Cond.selects RX4 yX4_boiling yX4_boiling]
def wsL_law0_r8 : List Cond := [Cond.code yX4_boiling cX4_boiling 2 (some .int), Cond.methodLink RX4 182 yX4_demandPressure, Cond.static yX4_demandPressure, Cond.code yX4_demandPressure cX4_demandPressure 1 none, Cond.methodLink RX4 185 yX4_steamAt, Cond.static yX4_steamAt, Cond.code yX4_steamAt cX4_steamAt 1 (some .int), Cond.methodLink RL 95 yL_make, Cond.static yL_make, Cond.codeWith yL_make cL_make 5 (some .int) [(0, 7, 8, 25), (0, 7, 13, 15), (0, 7, 18, 27), (0, 7, 23, 18)], Cond.constant RL 53 (-900004), Cond.methodLink RL 49 yX4_make, Cond.instanceMethod yX4_make, Cond.selects RX4 yX4_make yX4_make, Cond.code yX4_make cX4_make 6 (some .int), Cond.constant RX4 89 (50000), Cond.fieldLink RX4 94 "Meniscus" "instrumentCount" "I", Cond.instantiable RX0 15, Cond.initialized RX0, Cond.methodLink RX4 90 yX4_demandEither, Cond.static yX4_demandEither, Cond.code yX4_demandEither cX4_demandEither 3 none, Cond.methodLink RX4 103 yX0_init, Cond.instanceMethod yX0_init]
def wsL_law0_r9 : List Cond := [Cond.code yX0_init cX0_init 5 none, Cond.methodLink RX0 3 objectInit, Cond.classLink RX0 9 RX1, Cond.instantiable RX1 3, Cond.initialized RX1, Cond.fieldLink RX0 12 "Meniscus$Instrument" "readings" "LMeniscus$Readings;", Cond.fieldLink RX0 18 "Meniscus$Instrument" "liquid" "C", Cond.fieldLink RX0 22 "Meniscus$Instrument" "greatestLevel" "I", Cond.fieldLink RX0 26 "Meniscus$Instrument" "certificateEnd" "I", Cond.fieldLink RX0 29 "Meniscus$Instrument" "tubeNumber" "I", Cond.fieldLink RX0 32 "Meniscus$Instrument" "tube" "LMeniscus$Tube;", Cond.fieldLink RX0 36 "Meniscus$Instrument" "bulb" "I", Cond.fieldLink RX0 39 "Meniscus$Instrument" "glass" "C", Cond.classLink RX0 42 RX2, Cond.instantiable RX2 5, Cond.initialized RX2, Cond.fieldLink RX0 47 "Meniscus$Instrument" "scale" "LMeniscus$Scale;", Cond.instanceMethod yX1_init, Cond.code yX1_init cX1_init 1 none, Cond.methodLink RX1 3 objectInit, Cond.fieldLink RX1 9 "Meniscus$Readings" "values" "[I", Cond.fieldLink RX1 15 "Meniscus$Readings" "errors" "[I", Cond.methodLink RX0 44 yX2_init, Cond.instanceMethod yX2_init]
def wsL_law0_r10 : List Cond := [Cond.code yX2_init cX2_init 2 none, Cond.methodLink RX2 3 objectInit, Cond.fieldLink RX2 9 "Meniscus$Scale" "icePlace" "I", Cond.fieldLink RX2 15 "Meniscus$Scale" "steamPlace" "I", Cond.fieldLink RX2 18 "Meniscus$Scale" "kind" "C", Cond.fieldLink RX2 22 "Meniscus$Scale" "tube" "LMeniscus$Tube;", Cond.methodLink RL 98 yX4_isSound, Cond.instanceMethod yX4_isSound, Cond.selects RX4 yX4_isSound yX4_isSound, Cond.code yX4_isSound cX4_isSound 6 (some .boolean), Cond.fieldLink RX4 109 "Meniscus" "stock" "I", Cond.fieldLink RX4 142 "Meniscus" "spilt" "I", Cond.fieldLink RX4 106 "Meniscus" "bought" "I", Cond.methodLink RX4 145 yX0_mercuryInside, Cond.instanceMethod yX0_mercuryInside, Cond.selects RX0 yX0_mercuryInside yX0_mercuryInside, Cond.code yX0_mercuryInside cX0_mercuryInside 1 (some .int), Cond.fieldLink RX0 68 "Meniscus$Instrument" "inside" "I", Cond.methodLink RX4 279 yX0_isInBounds, Cond.instanceMethod yX0_isInBounds, Cond.selects RX0 yX0_isInBounds yX0_isInBounds, Cond.code yX0_isInBounds cX0_isInBounds 1 (some .boolean), Cond.fieldLink RX0 51 "Meniscus$Instrument" "crept" "I", Cond.methodLink RX0 54 yX0_creepsInAll]
def wsL_law0_r11 : List Cond := [Cond.instanceMethod yX0_creepsInAll, Cond.selects RX0 yX0_creepsInAll yX0_creepsInAll, Cond.code yX0_creepsInAll cX0_creepsInAll 1 (some .int), Cond.methodLink RX4 285 yX4_instrumentsOfTube, Cond.instanceMethod yX4_instrumentsOfTube, Cond.selects RX4 yX4_instrumentsOfTube yX4_instrumentsOfTube, Cond.code yX4_instrumentsOfTube cX4_instrumentsOfTube 7 (some .int)]
def wsL_law0 : List Cond := (wsL_law0_r1 ++ (wsL_law0_r2 ++ (wsL_law0_r3 ++ (wsL_law0_r4 ++ (wsL_law0_r5 ++ (wsL_law0_r6 ++ (wsL_law0_r7 ++ (wsL_law0_r8 ++ (wsL_law0_r9 ++ (wsL_law0_r10 ++ wsL_law0_r11)))))))))) ++ wsX40 ++ wsX30 ++ wsX00 ++ wsX10 ++ wsX20 ++ ([] : List Cond)
def wsL_law : List Cond := wsL_law0 ++ (vx_atS RX4 36 "java/lang/IllegalStateException" ["java/lang/RuntimeException", "java/lang/Exception"]).filter goodWord ++ (vx_atS RX4 81 "java/lang/IllegalArgumentException" ["java/lang/RuntimeException", "java/lang/Exception"]).filter goodWord ++ (vx_atS RX4 292 "java/lang/IndexOutOfBoundsException" ["java/lang/RuntimeException", "java/lang/Exception"]).filter goodWord ++ (vx_atS RX4 126 "java/lang/UnsupportedOperationException" ["java/lang/RuntimeException", "java/lang/Exception"]).filter goodWord ++ vn_at.filter goodWord
set_option maxRecDepth 100000 in
theorem wsL_law0_r1_in : ∀ w ∈ wsL_law0_r1, w ∈ lw_tbl := fun w h => (goodIn_r (big := lw_tbl) wsL_law0_r1 [18, 19, 4, 194, 195, 193, 252, 463, 20, 21, 22, 23, 24, 25, 26, 30, 28, 31, 34, 454, 455, 3, 456, 462] (by decide +kernel) (by decide +kernel) w h).1
set_option maxRecDepth 100000 in
theorem wsL_law0_r2_in : ∀ w ∈ wsL_law0_r2, w ∈ lw_tbl := fun w h => (goodIn_r (big := lw_tbl) wsL_law0_r2 [457, 458, 459, 460, 461, 77, 78, 79, 80, 81, 82, 83, 84, 85, 159, 9, 32, 175, 10, 86, 87, 88, 89, 8] (by decide +kernel) (by decide +kernel) w h).1
set_option maxRecDepth 100000 in
theorem wsL_law0_r3_in : ∀ w ∈ wsL_law0_r3, w ∈ lw_tbl := fun w h => (goodIn_r (big := lw_tbl) wsL_law0_r3 [176, 177, 178, 179, 186, 180, 181, 11, 182, 183, 184, 185, 253, 254, 255, 199, 256, 257, 258, 259, 205, 207, 2, 208] (by decide +kernel) (by decide +kernel) w h).1
set_option maxRecDepth 100000 in
theorem wsL_law0_r4_in : ∀ w ∈ wsL_law0_r4, w ∈ lw_tbl := fun w h => (goodIn_r (big := lw_tbl) wsL_law0_r4 [209, 12, 244, 245, 246, 247, 196, 197, 198, 200, 201, 202, 203, 204, 225, 226, 227, 228, 13, 248, 249, 250, 251, 307] (by decide +kernel) (by decide +kernel) w h).1
set_option maxRecDepth 100000 in
theorem wsL_law0_r5_in : ∀ w ∈ wsL_law0_r5, w ∈ lw_tbl := fun w h => (goodIn_r (big := lw_tbl) wsL_law0_r5 [308, 309, 310, 311, 312, 313, 314, 315, 316, 317, 318, 260, 261, 262, 263, 264, 265, 266, 267, 268, 269, 270, 271, 272] (by decide +kernel) (by decide +kernel) w h).1
set_option maxRecDepth 100000 in
theorem wsL_law0_r6_in : ∀ w ∈ wsL_law0_r6, w ∈ lw_tbl := fun w h => (goodIn_r (big := lw_tbl) wsL_law0_r6 [273, 274, 275, 276, 277, 278, 279, 280, 281, 282, 283, 284, 291, 14, 285, 286, 287, 288, 289, 290, 319, 320, 321, 322] (by decide +kernel) (by decide +kernel) w h).1
set_option maxRecDepth 100000 in
theorem wsL_law0_r7_in : ∀ w ∈ wsL_law0_r7, w ∈ lw_tbl := fun w h => (goodIn_r (big := lw_tbl) wsL_law0_r7 [323, 324, 325, 327, 328, 329, 330, 331, 332, 333, 446, 447, 448, 449, 450, 451, 452, 453, 433, 434, 435, 436, 437, 438] (by decide +kernel) (by decide +kernel) w h).1
set_option maxRecDepth 100000 in
theorem wsL_law0_r8_in : ∀ w ∈ wsL_law0_r8, w ∈ lw_tbl := fun w h => (goodIn_r (big := lw_tbl) wsL_law0_r8 [439, 440, 441, 442, 443, 444, 445, 334, 335, 336, 432, 337, 338, 339, 340, 341, 33, 347, 15, 342, 343, 344, 348, 349] (by decide +kernel) (by decide +kernel) w h).1
set_option maxRecDepth 100000 in
theorem wsL_law0_r9_in : ∀ w ∈ wsL_law0_r9, w ∈ lw_tbl := fun w h => (goodIn_r (big := lw_tbl) wsL_law0_r9 [350, 351, 352, 353, 16, 395, 397, 399, 400, 389, 391, 392, 393, 368, 369, 17, 394, 355, 356, 357, 358, 359, 370, 371] (by decide +kernel) (by decide +kernel) w h).1
set_option maxRecDepth 100000 in
theorem wsL_law0_r10_in : ∀ w ∈ wsL_law0_r10, w ∈ lw_tbl := fun w h => (goodIn_r (big := lw_tbl) wsL_law0_r10 [372, 373, 375, 376, 377, 374, 57, 58, 59, 60, 35, 36, 37, 61, 62, 63, 64, 398, 65, 66, 67, 68, 396, 69] (by decide +kernel) (by decide +kernel) w h).1
set_option maxRecDepth 100000 in
theorem wsL_law0_r11_in : ∀ w ∈ wsL_law0_r11, w ∈ lw_tbl := fun w h => (goodIn_r (big := lw_tbl) wsL_law0_r11 [70, 71, 72, 73, 75, 0, 76] (by decide +kernel) (by decide +kernel) w h).1
set_option maxRecDepth 100000 in
theorem wsX40_inT : ∀ w ∈ wsX40, w ∈ lw_tbl := by decide +kernel
set_option maxRecDepth 100000 in
theorem wsX30_inT : ∀ w ∈ wsX30, w ∈ lw_tbl := by decide +kernel
set_option maxRecDepth 100000 in
theorem wsX00_inT : ∀ w ∈ wsX00, w ∈ lw_tbl := by decide +kernel
set_option maxRecDepth 100000 in
theorem wsX10_inT : ∀ w ∈ wsX10, w ∈ lw_tbl := by decide +kernel
set_option maxRecDepth 100000 in
theorem wsX20_inT : ∀ w ∈ wsX20, w ∈ lw_tbl := by decide +kernel
theorem wsL_law_in0 : ∀ w ∈ wsL_law0, w ∈ lw_tbl := fun w h => (List.mem_append.mp h).elim (fun h => (List.mem_append.mp h).elim (fun h => (List.mem_append.mp h).elim (fun h => (List.mem_append.mp h).elim (fun h => (List.mem_append.mp h).elim (fun h => (List.mem_append.mp h).elim (fun h => (List.mem_append.mp h).elim (fun h => wsL_law0_r1_in w h) (fun h => (List.mem_append.mp h).elim (fun h => wsL_law0_r2_in w h) (fun h => (List.mem_append.mp h).elim (fun h => wsL_law0_r3_in w h) (fun h => (List.mem_append.mp h).elim (fun h => wsL_law0_r4_in w h) (fun h => (List.mem_append.mp h).elim (fun h => wsL_law0_r5_in w h) (fun h => (List.mem_append.mp h).elim (fun h => wsL_law0_r6_in w h) (fun h => (List.mem_append.mp h).elim (fun h => wsL_law0_r7_in w h) (fun h => (List.mem_append.mp h).elim (fun h => wsL_law0_r8_in w h) (fun h => (List.mem_append.mp h).elim (fun h => wsL_law0_r9_in w h) (fun h => (List.mem_append.mp h).elim (fun h => wsL_law0_r10_in w h) (fun h => wsL_law0_r11_in w h))))))))))) (fun h => wsX40_inT w h)) (fun h => wsX30_inT w h)) (fun h => wsX00_inT w h)) (fun h => wsX10_inT w h)) (fun h => wsX20_inT w h)) (fun h => nomatch h)
theorem wsL_law_x0 : ∀ w ∈ (vx_atS RX4 36 "java/lang/IllegalStateException" ["java/lang/RuntimeException", "java/lang/Exception"]).filter goodWord, w ∈ lw_tbl := by decide +kernel
theorem wsL_law_x1 : ∀ w ∈ (vx_atS RX4 81 "java/lang/IllegalArgumentException" ["java/lang/RuntimeException", "java/lang/Exception"]).filter goodWord, w ∈ lw_tbl := by decide +kernel
theorem wsL_law_x2 : ∀ w ∈ (vx_atS RX4 292 "java/lang/IndexOutOfBoundsException" ["java/lang/RuntimeException", "java/lang/Exception"]).filter goodWord, w ∈ lw_tbl := by decide +kernel
theorem wsL_law_x3 : ∀ w ∈ (vx_atS RX4 126 "java/lang/UnsupportedOperationException" ["java/lang/RuntimeException", "java/lang/Exception"]).filter goodWord, w ∈ lw_tbl := by decide +kernel
theorem wsL_law_x4 : ∀ w ∈ vn_at.filter goodWord, w ∈ lw_tbl := by decide +kernel
theorem wsL_law_in : ∀ w ∈ wsL_law, w ∈ lw_tbl := fun w h => (List.mem_append.mp h).elim (fun h => (List.mem_append.mp h).elim (fun h => (List.mem_append.mp h).elim (fun h => (List.mem_append.mp h).elim (fun h => (List.mem_append.mp h).elim (fun h => wsL_law_in0 w h) (fun h => wsL_law_x0 w h)) (fun h => wsL_law_x1 w h)) (fun h => wsL_law_x2 w h)) (fun h => wsL_law_x3 w h)) (fun h => wsL_law_x4 w h)
theorem inlX0 : ∀ w ∈ wsX00, w ∈ wsL_law := fun _ h => List.mem_append_left _ (List.mem_append_left _ (List.mem_append_left _ (List.mem_append_left _ (List.mem_append_left _ (List.mem_append_left _ (List.mem_append_left _ (List.mem_append_left _ (List.mem_append_right _ h))))))))
theorem inX0 : ∀ w ∈ wsX00, w ∈ lw_tbl := fun w h => wsL_law_in w (inlX0 w h)
theorem inlX1 : ∀ w ∈ wsX10, w ∈ wsL_law := fun _ h => List.mem_append_left _ (List.mem_append_left _ (List.mem_append_left _ (List.mem_append_left _ (List.mem_append_left _ (List.mem_append_left _ (List.mem_append_left _ (List.mem_append_right _ h)))))))
theorem inX1 : ∀ w ∈ wsX10, w ∈ lw_tbl := fun w h => wsL_law_in w (inlX1 w h)
theorem inlX2 : ∀ w ∈ wsX20, w ∈ wsL_law := fun _ h => List.mem_append_left _ (List.mem_append_left _ (List.mem_append_left _ (List.mem_append_left _ (List.mem_append_left _ (List.mem_append_left _ (List.mem_append_right _ h))))))
theorem inX2 : ∀ w ∈ wsX20, w ∈ lw_tbl := fun w h => wsL_law_in w (inlX2 w h)
theorem inlX3 : ∀ w ∈ wsX30, w ∈ wsL_law := fun _ h => List.mem_append_left _ (List.mem_append_left _ (List.mem_append_left _ (List.mem_append_left _ (List.mem_append_left _ (List.mem_append_left _ (List.mem_append_left _ (List.mem_append_left _ (List.mem_append_left _ (List.mem_append_right _ h)))))))))
theorem inX3 : ∀ w ∈ wsX30, w ∈ lw_tbl := fun w h => wsL_law_in w (inlX3 w h)
theorem inlX4 : ∀ w ∈ wsX40, w ∈ wsL_law := fun _ h => List.mem_append_left _ (List.mem_append_left _ (List.mem_append_left _ (List.mem_append_left _ (List.mem_append_left _ (List.mem_append_left _ (List.mem_append_left _ (List.mem_append_left _ (List.mem_append_left _ (List.mem_append_left _ (List.mem_append_right _ h))))))))))
theorem inX4 : ∀ w ∈ wsX40, w ∈ lw_tbl := fun w h => wsL_law_in w (inlX4 w h)
end
section
set_option maxRecDepth 20000 in
theorem ggL_law_X4_init : GoodIn wsL_law wsX4_init := goodIn_r _ [10, 11, 12, 13, 14, 15, 16, 17, 18, 247, 248, 249, 250, 251, 252, 253, 254, 255] (by decide +kernel) (by decide +kernel)
set_option maxRecDepth 20000 in
theorem gL_law_X4_init : GoodIn wsL_law (wsX4_init) := ggL_law_X4_init
set_option maxRecDepth 20000 in
theorem ggL_law_L_in : GoodIn wsL_law wsL_in := goodIn_r _ [22, 23, 24, 25, 21, 26, 27, 28] (by decide +kernel) (by decide +kernel)
set_option maxRecDepth 20000 in
theorem gL_law_L_in : GoodIn wsL_law (va_wsS RL 68 yL_in wsL_in) := goodIn_app (goodIn_of _ (by decide +kernel)) ggL_law_L_in
set_option maxRecDepth 20000 in
theorem ggL_law_L_draw : GoodIn wsL_law wsL_draw := goodIn_ca (goodIn_ca (goodIn_r _ [31, 32, 33, 3, 4, 34, 35, 36, 2, 37, 38, 39, 40, 15, 14, 41, 42, 43, 44, 45, 46, 47, 48, 49, 50, 51, 12, 13, 5, 52, 53, 54, 55, 56, 57, 58, 59, 247, 248, 249, 250, 251, 252, 253, 254, 255, 256, 257] (by decide +kernel) (by decide +kernel)) (goodIn_sub (fun _ h => List.mem_append_left _ (List.mem_append_left _ (List.mem_append_left _ (List.mem_append_left _ (List.mem_append_right _ h))))) (by decide +kernel))) (goodIn_sub (fun _ h => List.mem_append_left _ (List.mem_append_left _ (List.mem_append_left _ (List.mem_append_right _ h)))) (by decide +kernel))
set_option maxRecDepth 20000 in
theorem gL_law_L_draw : GoodIn wsL_law (va_wsS RL 72 yL_draw wsL_draw) := goodIn_app (goodIn_of _ (by decide +kernel)) ggL_law_L_draw
set_option maxRecDepth 20000 in
theorem ggL_law_L_bore : GoodIn wsL_law wsL_bore := goodIn_ca (goodIn_ca (goodIn_r _ [62, 63, 32, 3, 4, 64, 65, 66, 2, 67, 68, 69, 70, 71, 72, 73, 15, 43, 44, 45, 46, 47, 74, 75, 76, 42, 77, 52, 247, 248, 249, 250, 251, 252, 253, 254, 255, 256, 257] (by decide +kernel) (by decide +kernel)) (goodIn_sub (fun _ h => List.mem_append_left _ (List.mem_append_left _ (List.mem_append_right _ h))) (by decide +kernel))) (goodIn_sub (fun _ h => List.mem_append_left _ (List.mem_append_left _ (List.mem_append_left _ (List.mem_append_right _ h)))) (by decide +kernel))
set_option maxRecDepth 20000 in
theorem gL_law_L_bore : GoodIn wsL_law (va_wsS RL 75 yL_bore wsL_bore) := goodIn_app (goodIn_of _ (by decide +kernel)) ggL_law_L_bore
set_option maxRecDepth 20000 in
theorem ggL_law_L_section : GoodIn wsL_law wsL_section := goodIn_ca (goodIn_ca (goodIn_ca (goodIn_r _ [80, 63, 32, 81, 3, 4, 6, 82, 83, 84, 2, 85, 68, 69, 70, 71, 72, 73, 15, 43, 44, 45, 46, 47, 86, 87, 88, 89, 90, 74, 75, 76, 42, 77, 52, 91, 92, 93, 94, 247, 248, 249, 250, 251, 252, 253, 254, 255, 256, 257] (by decide +kernel) (by decide +kernel)) (goodIn_sub (fun _ h => List.mem_append_left _ (List.mem_append_left _ (List.mem_append_right _ h))) (by decide +kernel))) (goodIn_sub (fun _ h => List.mem_append_left _ (List.mem_append_left _ (List.mem_append_left _ (List.mem_append_right _ h)))) (by decide +kernel))) (goodIn_sub (fun _ h => List.mem_append_left _ (List.mem_append_right _ h)) (by decide +kernel))
set_option maxRecDepth 20000 in
theorem gL_law_L_section : GoodIn wsL_law (va_wsS RL 77 yL_section wsL_section) := goodIn_app (goodIn_of _ (by decide +kernel)) ggL_law_L_section
set_option maxRecDepth 20000 in
theorem ggL_law_L_widest : GoodIn wsL_law wsL_widest := goodIn_ca (goodIn_r _ [97, 63, 3, 98, 99, 100, 2, 101, 68, 69, 70, 71, 72, 73, 15, 102, 103, 104, 42, 105, 52, 106, 75, 76, 77, 247, 248, 249, 250, 251, 252, 253, 254, 255, 256, 257] (by decide +kernel) (by decide +kernel)) (goodIn_sub (fun _ h => List.mem_append_left _ (List.mem_append_left _ (List.mem_append_right _ h))) (by decide +kernel))
set_option maxRecDepth 20000 in
theorem gL_law_L_widest : GoodIn wsL_law (va_wsS RL 80 yL_widest wsL_widest) := goodIn_app (goodIn_of _ (by decide +kernel)) ggL_law_L_widest
end
section
set_option maxRecDepth 20000 in
theorem ggL_law_L_volume : GoodIn wsL_law wsL_volume := goodIn_ca (goodIn_ca (goodIn_r _ [109, 63, 32, 3, 4, 110, 111, 112, 2, 113, 68, 69, 70, 71, 72, 73, 15, 114, 115, 116, 43, 44, 45, 46, 47, 117, 118, 119, 42, 120, 52, 121, 122, 123, 53, 54, 55, 56, 57, 58, 59, 247, 248, 249, 250, 251, 252, 253, 254, 255, 256, 257] (by decide +kernel) (by decide +kernel)) (goodIn_sub (fun _ h => List.mem_append_left _ (List.mem_append_left _ (List.mem_append_right _ h))) (by decide +kernel))) (goodIn_sub (fun _ h => List.mem_append_left _ (List.mem_append_left _ (List.mem_append_left _ (List.mem_append_right _ h)))) (by decide +kernel))
set_option maxRecDepth 20000 in
theorem gL_law_L_volume : GoodIn wsL_law (va_wsS RL 83 yL_volume wsL_volume) := goodIn_app (goodIn_of _ (by decide +kernel)) ggL_law_L_volume
set_option maxRecDepth 20000 in
theorem ggL_law_L_thread : GoodIn wsL_law wsL_thread := goodIn_ca (goodIn_ca (goodIn_ca (goodIn_r _ [126, 63, 32, 127, 3, 4, 6, 128, 129, 130, 2, 131, 132, 133, 134, 68, 69, 70, 71, 72, 73, 15, 114, 115, 116, 43, 44, 45, 46, 47, 117, 118, 119, 42, 120, 52, 121, 122, 123, 53, 54, 55, 56, 57, 58, 59, 135, 136, 137, 138, 139, 247, 248, 249, 250, 251, 252, 253, 254, 255, 256, 257] (by decide +kernel) (by decide +kernel)) (goodIn_sub (fun _ h => List.mem_append_right _ h) (by decide +kernel))) (goodIn_sub (fun _ h => List.mem_append_left _ (List.mem_append_left _ (List.mem_append_right _ h))) (by decide +kernel))) (goodIn_sub (fun _ h => List.mem_append_left _ (List.mem_append_left _ (List.mem_append_left _ (List.mem_append_right _ h)))) (by decide +kernel))
set_option maxRecDepth 20000 in
theorem gL_law_L_thread : GoodIn wsL_law (va_wsS RL 85 yL_thread wsL_thread) := goodIn_app (goodIn_of _ (by decide +kernel)) ggL_law_L_thread
set_option maxRecDepth 20000 in
theorem ggL_law_L_deliver : GoodIn wsL_law wsL_deliver := goodIn_ca (goodIn_ca (goodIn_r _ [142, 63, 32, 3, 4, 143, 144, 145, 2, 146, 46, 47, 68, 69, 70, 71, 72, 73, 15, 114, 115, 116, 43, 44, 45, 117, 118, 119, 42, 120, 52, 121, 122, 123, 53, 54, 55, 56, 57, 58, 59, 147, 148, 149, 150, 151, 152, 153, 247, 248, 249, 250, 251, 252, 253, 254, 255, 256, 257] (by decide +kernel) (by decide +kernel)) (goodIn_sub (fun _ h => List.mem_append_left _ (List.mem_append_left _ (List.mem_append_left _ (List.mem_append_right _ h)))) (by decide +kernel))) (goodIn_sub (fun _ h => List.mem_append_left _ (List.mem_append_left _ (List.mem_append_right _ h))) (by decide +kernel))
set_option maxRecDepth 20000 in
theorem gL_law_L_deliver : GoodIn wsL_law (va_wsS RL 87 yL_deliver wsL_deliver) := goodIn_app (goodIn_of _ (by decide +kernel)) ggL_law_L_deliver
set_option maxRecDepth 20000 in
theorem ggL_law_L_barometer : GoodIn wsL_law wsL_barometer := goodIn_ca (goodIn_r _ [156, 32, 3, 157, 158, 159, 2, 160, 161, 43, 44, 45, 46, 47] (by decide +kernel) (by decide +kernel)) (goodIn_sub (fun _ h => List.mem_append_left _ (List.mem_append_left _ (List.mem_append_left _ (List.mem_append_right _ h)))) (by decide +kernel))
set_option maxRecDepth 20000 in
theorem gL_law_L_barometer : GoodIn wsL_law (va_wsS RL 91 yL_barometer wsL_barometer) := goodIn_app (goodIn_of _ (by decide +kernel)) ggL_law_L_barometer
set_option maxRecDepth 20000 in
theorem ggL_law_L_boiling : GoodIn wsL_law wsL_boiling := goodIn_ca (goodIn_r _ [164, 32, 3, 165, 166, 167, 2, 168, 169, 170, 171, 43, 44, 45, 46, 47, 172, 173, 174] (by decide +kernel) (by decide +kernel)) (goodIn_sub (fun _ h => List.mem_append_left _ (List.mem_append_left _ (List.mem_append_left _ (List.mem_append_right _ h)))) (by decide +kernel))
set_option maxRecDepth 20000 in
theorem gL_law_L_boiling : GoodIn wsL_law (va_wsS RL 93 yL_boiling wsL_boiling) := goodIn_app (goodIn_of _ (by decide +kernel)) ggL_law_L_boiling
set_option maxRecDepth 20000 in
theorem ggL_law_L_make : GoodIn wsL_law wsL_make := goodIn_ca (goodIn_ca (goodIn_ca (goodIn_ca (goodIn_r _ [177, 63, 32, 81, 33, 3, 4, 6, 178, 179, 180, 181, 2, 182, 38, 39, 183, 184, 17, 16, 185, 186, 68, 69, 70, 71, 72, 73, 15, 43, 44, 45, 46, 47, 187, 188, 189, 86, 87, 88, 89, 90, 190, 191, 192, 193, 12, 13, 194, 195, 196, 197, 198, 199, 200, 201, 202, 203, 204, 205, 206, 207, 208, 209, 210, 211, 5, 212, 213, 214, 215, 216, 217, 218, 219, 220, 221, 247, 248, 249, 250, 251, 252, 253, 254, 255, 256, 257, 258, 259, 260, 261, 262, 263, 264, 265, 266, 267, 268, 269, 270, 271, 272, 273, 274, 275, 276, 277, 278, 279, 280] (by decide +kernel) (by decide +kernel)) (goodIn_sub (fun _ h => List.mem_append_left _ (List.mem_append_left _ (List.mem_append_left _ (List.mem_append_left _ (List.mem_append_right _ h))))) (by decide +kernel))) (goodIn_sub (fun _ h => List.mem_append_left _ (List.mem_append_left _ (List.mem_append_right _ h))) (by decide +kernel))) (goodIn_sub (fun _ h => List.mem_append_left _ (List.mem_append_left _ (List.mem_append_left _ (List.mem_append_right _ h)))) (by decide +kernel))) (goodIn_sub (fun _ h => List.mem_append_left _ (List.mem_append_right _ h)) (by decide +kernel))
set_option maxRecDepth 20000 in
theorem gL_law_L_make : GoodIn wsL_law (va_wsS RL 95 yL_make wsL_make) := goodIn_app (goodIn_of _ (by decide +kernel)) ggL_law_L_make
set_option maxRecDepth 20000 in
theorem ggL_law_X4_isSound : GoodIn wsL_law wsX4_isSound := goodIn_r _ [225, 226, 227, 17, 228, 229, 230, 231, 186, 232, 198, 233, 234, 235, 236, 237, 238, 197, 239, 240, 241, 242, 203, 204, 243, 244, 245, 2, 246, 247, 248, 249, 250, 251, 252, 253, 254, 255, 258, 259, 260, 261, 262, 263, 264, 265, 266, 267, 268, 269, 270, 271, 272, 273, 274, 275] (by decide +kernel) (by decide +kernel)
set_option maxRecDepth 20000 in
theorem gL_law_X4_isSound : GoodIn wsL_law (wsV RL 98 RX4 yX4_isSound wsX4_isSound) := goodIn_app (goodIn_of _ (by decide +kernel)) ggL_law_X4_isSound
end
section
theorem gk_F {b : Nat} {s : State} (hts : ∀ w ∈ lw_tbl, w.before #[Value.ref b] s = true) : ∀ q ∈ gnF, va_Nw (.fieldLinkNest q.1 q.2.1 q.2.2.1 q.2.2.2.1 q.2.2.2.2.1 q.2.2.2.2.2) s := by
  have h : ∀ q ∈ gnF, Jvm.Cond.fieldLinkNest q.1 q.2.1 q.2.2.1 q.2.2.2.1 q.2.2.2.2.1 q.2.2.2.2.2 ∈ lw_tbl := by decide +kernel
  exact fun q hq => va_Nw.of rfl (hts _ (h q hq))
theorem gk_M {b : Nat} {s : State} (hts : ∀ w ∈ lw_tbl, w.before #[Value.ref b] s = true) : ∀ q ∈ gnM, va_Nw (.methodLinkNest q.1 q.2.1 q.2.2.1 q.2.2.2) s := by
  have h : ∀ q ∈ gnM, Jvm.Cond.methodLinkNest q.1 q.2.1 q.2.2.1 q.2.2.2 ∈ lw_tbl := by decide +kernel
  exact fun q hq => va_Nw.of rfl (hts _ (h q hq))
theorem gk_C {b : Nat} {s : State} (hts : ∀ w ∈ lw_tbl, w.before #[Value.ref b] s = true) : ∀ q ∈ gcast, va_Nw (.castable q.1 q.2) s := by
  have h : ∀ q ∈ gcast, Jvm.Cond.castable q.1 q.2 ∈ lw_tbl := by decide +kernel
  exact fun q hq => va_Nw.of rfl (hts _ (h q hq))
theorem gk_D {b : Nat} {s : State} (hts : ∀ w ∈ lw_tbl, w.before #[Value.ref b] s = true) : ∀ q ∈ gdecl, va_Nw (.declares q) s := by
  have h : ∀ q ∈ gdecl, Jvm.Cond.declares q ∈ lw_tbl := by decide +kernel
  exact fun q hq => va_Nw.of rfl (hts _ (h q hq))
theorem gk_S {b : Nat} {s : State} (hts : ∀ w ∈ lw_tbl, w.before #[Value.ref b] s = true) {cM : ClassId} (hM : s.vm.findClass "Meniscus" = some cM) : ∀ q ∈ gstr, ∃ sa : Nat, vk_R "Meniscus" q.1 q.2 sa s := by
  have h : ∀ q ∈ gstr, Jvm.Cond.stringRef "Meniscus" q.1 q.2 ∈ lw_tbl := by decide +kernel
  intro q hq
  have h1 := hts _ (h q hq)
  obtain ⟨-, -, -, sa, -, -, -, -, -, hev⟩ := Cond.stringRef_spec hM h1
  exact ⟨sa, vk_R.of h1 hev⟩
theorem gk_nc {b : Nat} {s : State} (hgv : (Jvm.Cond.and given_1 narrow_1).before #[Value.ref b] s = true) : ∀ q ∈ gnc, va_Nc q.1 q.2 s := by
  have hs := flat_of_before _ hgv
  exact (List.forall_mem_cons.mpr ⟨va_Nc.of (hs (.not (.castable "java/lang/IllegalArgumentException" "java/lang/IllegalStateException")) (by decide +kernel)), (List.forall_mem_cons.mpr ⟨va_Nc.of (hs (.not (.castable "java/lang/IllegalArgumentException" "java/lang/IndexOutOfBoundsException")) (by decide +kernel)), (List.forall_mem_cons.mpr ⟨va_Nc.of (hs (.not (.castable "java/lang/IllegalArgumentException" "java/lang/UnsupportedOperationException")) (by decide +kernel)), (List.forall_mem_cons.mpr ⟨va_Nc.of (hs (.not (.castable "java/lang/IllegalArgumentException" "java/util/NoSuchElementException")) (by decide +kernel)), (List.forall_mem_cons.mpr ⟨va_Nc.of (hs (.not (.castable "java/lang/IllegalStateException" "java/lang/IllegalArgumentException")) (by decide +kernel)), (List.forall_mem_cons.mpr ⟨va_Nc.of (hs (.not (.castable "java/lang/IllegalStateException" "java/lang/IndexOutOfBoundsException")) (by decide +kernel)), (List.forall_mem_cons.mpr ⟨va_Nc.of (hs (.not (.castable "java/lang/IllegalStateException" "java/lang/UnsupportedOperationException")) (by decide +kernel)), (List.forall_mem_cons.mpr ⟨va_Nc.of (hs (.not (.castable "java/lang/IllegalStateException" "java/util/NoSuchElementException")) (by decide +kernel)), (List.forall_mem_cons.mpr ⟨va_Nc.of (hs (.not (.castable "java/lang/IndexOutOfBoundsException" "java/lang/IllegalArgumentException")) (by decide +kernel)), (List.forall_mem_cons.mpr ⟨va_Nc.of (hs (.not (.castable "java/lang/IndexOutOfBoundsException" "java/lang/IllegalStateException")) (by decide +kernel)), (List.forall_mem_cons.mpr ⟨va_Nc.of (hs (.not (.castable "java/lang/IndexOutOfBoundsException" "java/lang/UnsupportedOperationException")) (by decide +kernel)), (List.forall_mem_cons.mpr ⟨va_Nc.of (hs (.not (.castable "java/lang/IndexOutOfBoundsException" "java/util/NoSuchElementException")) (by decide +kernel)), (List.forall_mem_cons.mpr ⟨va_Nc.of (hs (.not (.castable "java/lang/UnsupportedOperationException" "java/lang/IllegalArgumentException")) (by decide +kernel)), (List.forall_mem_cons.mpr ⟨va_Nc.of (hs (.not (.castable "java/lang/UnsupportedOperationException" "java/lang/IllegalStateException")) (by decide +kernel)), (List.forall_mem_cons.mpr ⟨va_Nc.of (hs (.not (.castable "java/lang/UnsupportedOperationException" "java/lang/IndexOutOfBoundsException")) (by decide +kernel)), (List.forall_mem_cons.mpr ⟨va_Nc.of (hs (.not (.castable "java/lang/UnsupportedOperationException" "java/util/NoSuchElementException")) (by decide +kernel)), (List.forall_mem_cons.mpr ⟨va_Nc.of (hs (.not (.castable "java/util/NoSuchElementException" "java/lang/IllegalArgumentException")) (by decide +kernel)), (List.forall_mem_cons.mpr ⟨va_Nc.of (hs (.not (.castable "java/util/NoSuchElementException" "java/lang/IllegalStateException")) (by decide +kernel)), (List.forall_mem_cons.mpr ⟨va_Nc.of (hs (.not (.castable "java/util/NoSuchElementException" "java/lang/IndexOutOfBoundsException")) (by decide +kernel)), (List.forall_mem_cons.mpr ⟨va_Nc.of (hs (.not (.castable "java/util/NoSuchElementException" "java/lang/UnsupportedOperationException")) (by decide +kernel)), (fun q hq => nomatch hq)⟩)⟩)⟩)⟩)⟩)⟩)⟩)⟩)⟩)⟩)⟩)⟩)⟩)⟩)⟩)⟩)⟩)⟩)⟩)⟩)
theorem gk_prim {b : Nat} {s : State} {ty : FieldType} (h : (Cond.arrayClass ty).before #[Value.ref b] s = true) : ∃ cA : ClassId, s.vm.findClass ("[" ++ ty.toString) = some cA ∧ ArrOfT s cA ty := by
  obtain ⟨cA, kA, comp, f1, f2, f3⟩ := Cond.arrayClass_spec h
  exact ⟨cA, f1, fun N z => ⟨(fun k h => by cases h), kA, f2, comp, f3⟩⟩
theorem gk_obj {b : Nat} {s : State} {C : String} (h : (Cond.arrayOver (.object C)).before #[Value.ref b] s = true) : ∃ cA : ClassId, va_RA s cA (.object C) ∧ ArrOfT s cA (.object C) := by
  obtain ⟨comp, cA, kA, f1, -, f2, f3, f4⟩ := Cond.arrayOver_spec h
  exact ⟨cA, ⟨kA, comp, f2, f3, f1, f4⟩, fun N z => ⟨(fun k h => by cases h), kA, f2, comp, f3⟩⟩
set_option maxHeartbeats 4000000 in
set_option maxRecDepth 100000 in
theorem GK_at {b L : Nat} {xs : Nat → Int32} {s : State} (hts : ∀ w ∈ lw_tbl, w.before #[Value.ref b] s = true) (hgv : (Jvm.Cond.and given_1 narrow_1).before #[Value.ref b] s = true) (hX : va_X b L xs s s.heap) (hL : L ≤ 260) : ∃ G : mg, GK G (aH s.heap.size) s ∧ G.2.2.2 0 = b := by
  have hs := flat_of_before _ hgv
  have hA : ∀ a : Nat, a < s.heap.size → ¬ aH s.heap.size a := fun a h => Nat.not_le.mpr h
  obtain ⟨c0, i0, hK0⟩ := u_known (C := RX0) (T := TX0) (N := 15) (n := 15) hts wsX00_inT (hts (.instantiable RX0 15) (by decide +kernel))
  obtain ⟨c1, i1, hK1⟩ := u_known (C := RX1) (T := TX1) (N := 3) (n := 3) hts wsX10_inT (hts (.instantiable RX1 3) (by decide +kernel))
  obtain ⟨c2, i2, hK2⟩ := u_known (C := RX2) (T := TX2) (N := 5) (n := 5) hts wsX20_inT (hts (.instantiable RX2 5) (by decide +kernel))
  obtain ⟨c3, i3, hK3⟩ := u_known (C := RX3) (T := TX3) (N := 2) (n := 2) hts wsX30_inT (hts (.instantiable RX3 2) (by decide +kernel))
  obtain ⟨c4, i4, hK4⟩ := u_known (C := RX4) (T := TX4) (N := 9) (n := 9) hts wsX40_inT (hts (.instantiable RX4 9) (by decide +kernel))
  obtain ⟨D, hD⟩ : ∃ D : va_G, ∀ (k : Nat) (q : vw_C), vwCl[k]? = some q → u_Kn s q.1 q.2.1 q.2.2 (D.1 k) (D.2 k) := by
    refine ⟨(fun k => match k with | 0 => c0 | 1 => c1 | 2 => c2 | 3 => c3 | _ => c4, fun k => match k with | 0 => i0 | 1 => i1 | 2 => i2 | 3 => i3 | _ => i4), ?_⟩
    intro k q hq
    match k, hq with
    | 0, hq => cases hq; exact hK0
    | 1, hq => cases hq; exact hK1
    | 2, hq => cases hq; exact hK2
    | 3, hq => cases hq; exact hK3
    | 4, hq => cases hq; exact hK4
    | k + 5, hq => simp [vwCl] at hq
  obtain ⟨a0, ha0, hb0⟩ := gk_prim (hts (.arrayClass .int) (by decide +kernel))
  obtain ⟨a3, ha3, hb3⟩ := gk_obj (C := "Meniscus$Tube") (hts (.arrayOver (.object "Meniscus$Tube")) (by decide +kernel))
  obtain ⟨a4, ha4, hb4⟩ := gk_obj (C := "Meniscus$Instrument") (hts (.arrayOver (.object "Meniscus$Instrument")) (by decide +kernel))
  refine ⟨(D, (fun k => match k with | 0 => a0 | 3 => a3 | _ => a4), xs, (fun k => if k = 0 then b else L)), ⟨hL, ⟨⟨hD, fun k q hq => ?_⟩, gk_F hts, gk_M hts, gk_C hts, gk_nc hgv, gk_S hts (cM := c4) hK4.2.1, trivial, va_AO.of (hts (.arrayOver (.object "Meniscus$Tube")) (by decide +kernel)), va_AO.of (hts (.arrayOver (.object "Meniscus$Instrument")) (by decide +kernel)), trivial, trivial, gk_D hts⟩, ⟨?_, ?_, hX, hA b hX.lt⟩⟩, rfl⟩
  · match k, hq with
    | 0, hq => cases hq; exact ⟨hb0, ha0⟩
    | 1, hq => cases hq; exact ⟨hb0, ha0⟩
    | 2, hq => cases hq; exact ⟨hb0, ha0⟩
    | 3, hq => cases hq; exact ⟨hb3, ha3⟩
    | 4, hq => cases hq; exact ⟨hb4, ha4⟩
    | k + 5, hq => simp [gtys] at hq
  · exact vx_Zqof (hts _ (by decide +kernel)) (hts _ (by decide +kernel)) (hs _ (by decide +kernel)) hA
  · exact vx_Zqof (hts _ (by decide +kernel)) (hts _ (by decide +kernel)) (hs _ (by decide +kernel)) hA
end
section
/-- the machine and the law's words -/
def TwC (p : Program) (l : Launch) (s : State) (m : MethodId) (c : Code) (b : Nat) (G : mg) : Prop :=
  p.tables.exec = Jvm.exec ∧ c.code = cL_law ∧ c.maxLocals = 22 ∧ s.vm.findClass RL = some m.cls ∧ (∀ w ∈ wsL_law, w.before #[Value.ref b] s = true) ∧ GK G (aH s.heap.size) s ∧ G.2.2.2 0 = b ∧ l.stackTraces = false
/-- the law's world: the class's cells, which hold a state, and cells of the law's own beside them -/
def LwX (G : mg) (n0 : Nat) (H : Heap) (cw : Nat) (F : St → Prop) (X : mw) : Prop :=
  ∃ (st : St) (ad : adr) (Mc : mw), F st ∧ Inv st ∧ CS G st ad Mc ∧ ad 0 0 = cw ∧ (∀ q, X q ≠ none → Mc q = none) ∧ mP G.1 (twU X Mc) H ∧ mI (aH n0) (twU X Mc)
theorem LwX.st {G : mg} {n0 : Nat} {H : Heap} {cw : Nat} {F : St → Prop} {X : mw} (h : LwX G n0 H cw F X) : ∃ st, F st ∧ Inv st := by
  obtain ⟨st, ad, Mc, hF, hV, -⟩ := h
  exact ⟨st, hF, hV⟩
theorem tw_r {X M : mw} (hd : ∀ q, X q ≠ none → M q = none) {a : Nat} {e : va_E} (h : M a = some e) : twU X M a = some e := by
  rw [twU_r]
  · exact h
  · cases q : X a with
    | none => rfl
    | some x =>
      have := hd a (by rw [q]; exact fun z => by cases z)
      rw [h] at this
      cases this
theorem tw_mu {X M : mw} {a : Nat} {e : va_E} : mu (twU X M) a e = twU (mu X a e) M := by
  funext q
  by_cases h : q = a
  · subst h
    rw [mu_s, twU_l mu_s]
  · rw [mu_n h]
    cases z : X q with
    | none => rw [twU_r z, twU_r (by rw [mu_n h]; exact z)]
    | some x => rw [twU_l z, twU_l (by rw [mu_n h]; exact z)]
theorem tw_mv {D : va_G} {n0 : Nat} {H H1 : Heap} {X M M1 : mw} (hz : n0 ≤ H.size) (hd : ∀ q, X q ≠ none → M q = none) (hP : mP D (twU X M) H) (hI : mI (aH n0) (twU X M)) (hP1 : mP D M1 H1) (hI1 : mI (aS H M) M1) (hk : ∀ q : Nat, q < H.size → ¬ aS H M q → H1[q]? = H[q]?) :
    (∀ q, X q ≠ none → M1 q = none) ∧ mP D (twU X M1) H1 ∧ mI (aH n0) (twU X M1) := by
  have hx : ∀ q x, X q = some x → q < H.size ∧ ¬ aS H M q := fun q x h => by
    have h1 := hP.lt (twU_l (N := M) h)
    exact ⟨h1, fun z => z.elim (fun z => by omega) (fun z => z (hd q (by rw [h]; exact fun w => by cases w)))⟩
  refine ⟨fun q hq => ?_, fun a e he => ?_, fun a e he => ?_⟩
  · cases z : M1 q with
    | none => rfl
    | some y =>
      cases w : X q with
      | none => exact absurd w hq
      | some x => exact absurd (hI1 q y z) (hx q x w).2
  · cases w : X a with
    | none =>
      rw [twU_r w] at he
      exact hP1 a e he
    | some x =>
      rw [twU_l w] at he
      cases he
      exact (hP a _ (twU_l w)).kept (hk a (hx a _ w).1 (hx a _ w).2)
  · cases w : X a with
    | none =>
      rw [twU_r w] at he
      rcases hI1 a e he with z | z
      · exact Nat.le_trans hz z
      · cases v : M a with
        | none => exact absurd v z
        | some y => exact hI a y (tw_r hd v)
    | some x => exact hI a x (twU_l w)
abbrev E43 (G : mg) (n : Nat) (f : Nat → Int32) : va_E := .inl (G.2.1 0, n, .inl f)
section LX
variable {p : Program} {l : Launch} {e : Env} {s : State} {m : MethodId} {below : List Frame} {meth : Method} {c : Code} {Q : State → Prop} {b : Nat} {G : mg} {H : Heap} {locs : List Loc} {cells slots : Nat} {pc : Nat} {ls : Array Slot} {rest : List Value} {lv : List (Nat × Value)} {cw : Nat} {F : St → Prop} {X : mw}
theorem lx_iald (C0 : TwC p l s m c b G) (hdg : decode cL_law pc = .ok (.iaload, 1)) (hX : LwX G s.heap.size H cw F X) {a n : Nat} {f : Nat → Int32} (ha : X a = some (E43 G n f)) {i : Int32} (hin : vp_in i n) {v : Int32} (hv : f i.toNatClampNeg = v)
    (kk : W p l e room_1 s m #[Value.ref b] below meth c H locs cells slots Q (F0 m (pc + 1) ls (.int v :: rest))) : W p l e room_1 s m #[Value.ref b] below meth c H locs cells slots Q (F0 m pc ls (.int i :: .ref a :: rest)) := by
  obtain ⟨hx, hb, hml, hown, hts, hG, hb0, hl9⟩ := C0
  obtain ⟨st, ad, Mc, hF, hV, hC, hw, hd, hP, hI⟩ := hX
  refine m_iald hx hb hG.K 0 (hP a _ (twU_l ha)) rfl hin hdg ?_
  rw [hv]
  exact kk
theorem lx_iast (C0 : TwC p l s m c b G) (hdg : decode cL_law pc = .ok (.iastore, 1)) (hX : LwX G s.heap.size H cw F X) (hS : va_S (aH s.heap.size) s.heap H locs) {a n : Nat} {f : Nat → Int32} (ha : X a = some (E43 G n f)) {i x : Int32} (hin : vp_in i n) {k : Nat} (hk : i.toNatClampNeg = k)
    (kk : ∀ (H1 : Heap) (locs1 : List Loc), LwX G s.heap.size H1 cw F (mu X a (E43 G n (upd f k x))) → va_S (aH s.heap.size) s.heap H1 locs1 → W p l e room_1 s m #[Value.ref b] below meth c H1 locs1 cells slots Q (F0 m (pc + 1) ls rest)) : W p l e room_1 s m #[Value.ref b] below meth c H locs cells slots Q (F0 m pc ls (.int x :: .int i :: .ref a :: rest)) := by
  obtain ⟨hx, hb, hml, hown, hts, hG, hb0, hl9⟩ := C0
  obtain ⟨st, ad, Mc, hF, hV, hC, hw, hd, hP, hI⟩ := hX
  subst hk
  refine m_iast hx hb hG.K hP hI hS 0 (twU_l ha) rfl hin hdg (fun H1 locs1 hP1 hI1 hS1 => ?_)
  rw [tw_mu] at hP1 hI1
  refine kk H1 locs1 ⟨st, ad, Mc, hF, hV, hC, hw, fun q hq => ?_, hP1, hI1⟩ hS1
  by_cases z : q = a
  · rw [z]
    exact hd a (by rw [ha]; exact fun w => by cases w)
  · rw [mu_n z] at hq
    exact hd q hq
theorem lx_newa (C0 : TwC p l s m c b G) (hdg : decode cL_law pc = .ok (.newarray .int, 2)) (hX : LwX G s.heap.size H cw F X) (hS : va_S (aH s.heap.size) s.heap H locs) {n : Int32} {N : Nat} (hn : ¬ n < 0) (hN : n.toNatClampNeg = N) (hby : N * componentBytes .int ≤ 536870912) (hcs : cells + 1 ≤ 624961 ∧ slots + N ≤ 7226742)
    (kk : ∀ (q : Nat) (H1 : Heap), X q = none → LwX G s.heap.size H1 cw F (mu X q (E43 G N (fun _ => 0))) → va_S (aH s.heap.size) s.heap H1 locs → W p l e room_1 s m #[Value.ref b] below meth c H1 locs (cells + 1) (slots + N) Q (F0 m (pc + 2) ls (.ref q :: rest))) : W p l e room_1 s m #[Value.ref b] below meth c H locs cells slots Q (F0 m pc ls (.int n :: rest)) := by
  obtain ⟨hx, hb, hml, hown, hts, hG, hb0, hl9⟩ := C0
  obtain ⟨st, ad, Mc, hF, hV, hC, hw, hd, hP, hI⟩ := hX
  have hK := hG.K
  have hA : ∀ q : Nat, s.heap.size ≤ q → aH s.heap.size q := fun _ h => h
  refine m_newa (atype := .int) (a0 := (N, .inl (fun _ => 0))) hx hb (hts (.arrayClass .int) (by decide +kernel)) rfl hK hP hI hS hA (hK.2 0 _ rfl).2 (fun _ => rfl) hn hN hby hcs.1 hcs.2 hdg (fun q H1 hq hP1 hI1 hS1 => ?_)
  rw [tw_mu] at hP1 hI1
  refine kk q H1 (twU_n hq).1 ⟨st, ad, Mc, hF, hV, hC, hw, fun z hz => ?_, hP1, hI1⟩ hS1
  by_cases y : z = q
  · rw [y]
    exact (twU_n hq).2
  · rw [mu_n y] at hz
    exact hd z hz
theorem lx_in0 (C0 : TwC p l s m c b G) (hdg : decode cL_law pc = .ok (.invokestatic 68, 3)) (hX : LwX G s.heap.size H cw F X) (hS : va_S (aH s.heap.size) s.heap H locs) (hl : lv_has ls 22 lv) (hcs : cells ≤ 624961 ∧ slots ≤ 7226742) {i n : Int32} (hi : ¬ i < 0) (N : Nat) (hn : n = nI N) (hN : 0 < N ∧ N < 2 ^ 31)
    (kk : ∀ (a : Nat) (H1 : Heap) (locs1 : List Loc), a < N → LwX G s.heap.size H1 cw F X → va_S (aH s.heap.size) s.heap H1 locs1 → W p l e room_1 s m #[Value.ref b] below meth c H1 locs1 cells slots Q (F0 m (pc + 3) ls (.int (nI a) :: []))) : W p l e room_1 s m #[Value.ref b] below meth c H locs cells slots Q (F0 m pc ls (.int n :: .int i :: .ref b :: [])) := by
  obtain ⟨hx, hb, hml, hown, hts, hG, hb0, hl9⟩ := C0
  obtain ⟨st, ad, Mc, hF, hV, hC, hw, hd, hP, hI⟩ := hX
  have hA : ∀ q : Nat, s.heap.size ≤ q → aH s.heap.size q := fun _ h => h
  subst hb0
  have hnt : n.toInt = N := by rw [hn, nI_toInt hN.2]
  refine m_calli (va_runS (As := [.ref (G.2.2.2 0), .int i, .int n]) (rest := []) ⟨hx, hb, hml, hown, hts⟩ (c_L_in l G (aH s.heap.size) (twU X Mc) i n hi (by omega)) (va_cwS 3 hts gL_law_L_in rfl rfl rfl (by decide +kernel) ⟨Nat.le_of_ble_eq_true rfl, Nat.le_of_ble_eq_true rfl⟩) (mPreS hG hS hP hI hA) rfl rfl hl.1 rfl (lv_room (Nat.le_of_ble_eq_true rfl)) hdg ⟨by show cells + 0 ≤ 624961; omega, by show slots + 0 ≤ 7226742; omega⟩) hS (fun r M1 H1 locs1 hp hP1 hI1 hS1 => ?_)
  obtain ⟨⟨hr0, hr1⟩, hm⟩ := hp
  subst hm
  obtain ⟨a, ha, hra⟩ := nI_ofb (N := N) hr0 (by omega)
  subst hra
  exact kk a H1 locs1 ha ⟨st, ad, Mc, hF, hV, hC, hw, hd, hP1, hI1⟩ hS1
theorem lx_in1 (C0 : TwC p l s m c b G) (hdg : decode cL_law pc = .ok (.invokestatic 68, 3)) (hX : LwX G s.heap.size H cw F X) (hS : va_S (aH s.heap.size) s.heap H locs) (hl : lv_has ls 22 lv) (hcs : cells ≤ 624961 ∧ slots ≤ 7226742) {x9 : Int32} {i n : Int32} (hi : ¬ i < 0) (N : Nat) (hn : n = nI N) (hN : 0 < N ∧ N < 2 ^ 31)
    (kk : ∀ (a : Nat) (H1 : Heap) (locs1 : List Loc), a < N → LwX G s.heap.size H1 cw F X → va_S (aH s.heap.size) s.heap H1 locs1 → W p l e room_1 s m #[Value.ref b] below meth c H1 locs1 cells slots Q (F0 m (pc + 3) ls (.int (nI a) :: [.int x9]))) : W p l e room_1 s m #[Value.ref b] below meth c H locs cells slots Q (F0 m pc ls (.int n :: .int i :: .ref b :: [.int x9])) := by
  obtain ⟨hx, hb, hml, hown, hts, hG, hb0, hl9⟩ := C0
  obtain ⟨st, ad, Mc, hF, hV, hC, hw, hd, hP, hI⟩ := hX
  have hA : ∀ q : Nat, s.heap.size ≤ q → aH s.heap.size q := fun _ h => h
  subst hb0
  have hnt : n.toInt = N := by rw [hn, nI_toInt hN.2]
  refine m_calli (va_runS (As := [.ref (G.2.2.2 0), .int i, .int n]) (rest := [.int x9]) ⟨hx, hb, hml, hown, hts⟩ (c_L_in l G (aH s.heap.size) (twU X Mc) i n hi (by omega)) (va_cwS 3 hts gL_law_L_in rfl rfl rfl (by decide +kernel) ⟨Nat.le_of_ble_eq_true rfl, Nat.le_of_ble_eq_true rfl⟩) (mPreS hG hS hP hI hA) rfl rfl hl.1 rfl (lv_room (Nat.le_of_ble_eq_true rfl)) hdg ⟨by show cells + 0 ≤ 624961; omega, by show slots + 0 ≤ 7226742; omega⟩) hS (fun r M1 H1 locs1 hp hP1 hI1 hS1 => ?_)
  obtain ⟨⟨hr0, hr1⟩, hm⟩ := hp
  subst hm
  obtain ⟨a, ha, hra⟩ := nI_ofb (N := N) hr0 (by omega)
  subst hra
  exact kk a H1 locs1 ha ⟨st, ad, Mc, hF, hV, hC, hw, hd, hP1, hI1⟩ hS1
theorem lx_draw0 (C0 : TwC p l s m c b G) (hdg : decode cL_law pc = .ok (.invokestatic 72, 3)) (hX : LwX G s.heap.size H cw F X) (hS : va_S (aH s.heap.size) s.heap H locs) (hl : lv_has ls 22 lv) (hcs : cells + 100 ≤ 624961 ∧ slots + 1000 ≤ 7226742) {a0 a1 : Int32} (v : Int32) (F1 : St → Prop) (hop : ∀ st, F st → Inv st → wan (m_draw st a0 a1) = v ∧ F1 (m_draw st a0 a1).2.2)
    (kk : ∀ (H1 : Heap) (locs1 : List Loc), LwX G s.heap.size H1 cw F1 X → va_S (aH s.heap.size) s.heap H1 locs1 → W p l e room_1 s m #[Value.ref b] below meth c H1 locs1 (cells + 100) (slots + 1000) Q (F0 m (pc + 3) ls (.int v :: []))) : W p l e room_1 s m #[Value.ref b] below meth c H locs cells slots Q (F0 m pc ls (.int a1 :: .int a0 :: .ref cw :: [])) := by
  obtain ⟨hx, hb, hml, hown, hts, hG, hb0, hl9⟩ := C0
  obtain ⟨st, ad, Mc, hF, hV, hC, rfl, hd, hP, hI⟩ := hX
  have hA : ∀ q : Nat, s.heap.size ≤ q → aH s.heap.size q := fun _ h => h
  have hPc : mP G.1 Mc H := fun a e he => hP a e (tw_r hd he)
  have hIc : mI (aH s.heap.size) Mc := fun a e he => hI a e (tw_r hd he)
  refine ls_calli (vx_runSX (As := [.ref (ad 0 0), .int a0, .int a1]) (rest := []) ⟨hx, hb, hml, hown, hts⟩ (c_L_draw l G (aS H Mc) Mc hl9 st ad a0 a1 hC hV) (vx_cwSW 3 hts gL_law_L_draw rfl rfl rfl (by decide +kernel) ⟨Nat.le_of_ble_eq_true rfl, Nat.le_of_ble_eq_true rfl⟩) (sPreS hG hS hPc hIc hA) rfl rfl hl.1 rfl (lv_room (Nat.le_of_ble_eq_true rfl)) hdg ⟨by show cells + 4 ≤ 624961; omega, by show slots + 34 ≤ 7226742; omega⟩) hIc hS hA (fun r M9 H1 locs1 hp hP9 hI9 hk9 hS1 => ?_)
  obtain ⟨ad1, hr, hC1, ha1⟩ := hp
  have ho := hop st hF hV
  rw [hr, ho.1]
  refine W.widen (k := cells + 100) (n := slots + 1000) (by omega) (by omega) ?_
  obtain ⟨hd1, hP1, hI1⟩ := tw_mv hS.1 hd hP hI hP9 hI9 hk9
  exact kk H1 locs1 ⟨_, ad1, M9, ho.2, (I_draw hV a0 a1), hC1, ha1, hd1, hP1, hI1⟩ hS1
theorem lx_draw1 (C0 : TwC p l s m c b G) (hdg : decode cL_law pc = .ok (.invokestatic 72, 3)) (hX : LwX G s.heap.size H cw F X) (hS : va_S (aH s.heap.size) s.heap H locs) (hl : lv_has ls 22 lv) (hcs : cells + 100 ≤ 624961 ∧ slots + 1000 ≤ 7226742) {x9 : Int32} {a0 a1 : Int32} (v : Int32) (F1 : St → Prop) (hop : ∀ st, F st → Inv st → wan (m_draw st a0 a1) = v ∧ F1 (m_draw st a0 a1).2.2)
    (kk : ∀ (H1 : Heap) (locs1 : List Loc), LwX G s.heap.size H1 cw F1 X → va_S (aH s.heap.size) s.heap H1 locs1 → W p l e room_1 s m #[Value.ref b] below meth c H1 locs1 (cells + 100) (slots + 1000) Q (F0 m (pc + 3) ls (.int v :: [.int x9]))) : W p l e room_1 s m #[Value.ref b] below meth c H locs cells slots Q (F0 m pc ls (.int a1 :: .int a0 :: .ref cw :: [.int x9])) := by
  obtain ⟨hx, hb, hml, hown, hts, hG, hb0, hl9⟩ := C0
  obtain ⟨st, ad, Mc, hF, hV, hC, rfl, hd, hP, hI⟩ := hX
  have hA : ∀ q : Nat, s.heap.size ≤ q → aH s.heap.size q := fun _ h => h
  have hPc : mP G.1 Mc H := fun a e he => hP a e (tw_r hd he)
  have hIc : mI (aH s.heap.size) Mc := fun a e he => hI a e (tw_r hd he)
  refine ls_calli (vx_runSX (As := [.ref (ad 0 0), .int a0, .int a1]) (rest := [.int x9]) ⟨hx, hb, hml, hown, hts⟩ (c_L_draw l G (aS H Mc) Mc hl9 st ad a0 a1 hC hV) (vx_cwSW 3 hts gL_law_L_draw rfl rfl rfl (by decide +kernel) ⟨Nat.le_of_ble_eq_true rfl, Nat.le_of_ble_eq_true rfl⟩) (sPreS hG hS hPc hIc hA) rfl rfl hl.1 rfl (lv_room (Nat.le_of_ble_eq_true rfl)) hdg ⟨by show cells + 4 ≤ 624961; omega, by show slots + 34 ≤ 7226742; omega⟩) hIc hS hA (fun r M9 H1 locs1 hp hP9 hI9 hk9 hS1 => ?_)
  obtain ⟨ad1, hr, hC1, ha1⟩ := hp
  have ho := hop st hF hV
  rw [hr, ho.1]
  refine W.widen (k := cells + 100) (n := slots + 1000) (by omega) (by omega) ?_
  obtain ⟨hd1, hP1, hI1⟩ := tw_mv hS.1 hd hP hI hP9 hI9 hk9
  exact kk H1 locs1 ⟨_, ad1, M9, ho.2, (I_draw hV a0 a1), hC1, ha1, hd1, hP1, hI1⟩ hS1
theorem lx_section0 (C0 : TwC p l s m c b G) (hdg : decode cL_law pc = .ok (.invokestatic 77, 3)) (hX : LwX G s.heap.size H cw F X) (hS : va_S (aH s.heap.size) s.heap H locs) (hl : lv_has ls 22 lv) (hcs : cells + 100 ≤ 624961 ∧ slots + 1000 ≤ 7226742) {a0 a1 a2 : Int32} (v : Int32) (F1 : St → Prop) (hop : ∀ st, F st → Inv st → wan (m_section st a0 a1 a2) = v ∧ F1 (m_section st a0 a1 a2).2.2)
    (kk : ∀ (H1 : Heap) (locs1 : List Loc), LwX G s.heap.size H1 cw F1 X → va_S (aH s.heap.size) s.heap H1 locs1 → W p l e room_1 s m #[Value.ref b] below meth c H1 locs1 (cells + 100) (slots + 1000) Q (F0 m (pc + 3) ls (.int v :: []))) : W p l e room_1 s m #[Value.ref b] below meth c H locs cells slots Q (F0 m pc ls (.int a2 :: .int a1 :: .int a0 :: .ref cw :: [])) := by
  obtain ⟨hx, hb, hml, hown, hts, hG, hb0, hl9⟩ := C0
  obtain ⟨st, ad, Mc, hF, hV, hC, rfl, hd, hP, hI⟩ := hX
  have hA : ∀ q : Nat, s.heap.size ≤ q → aH s.heap.size q := fun _ h => h
  have hPc : mP G.1 Mc H := fun a e he => hP a e (tw_r hd he)
  have hIc : mI (aH s.heap.size) Mc := fun a e he => hI a e (tw_r hd he)
  refine ls_calli (vx_runSX (As := [.ref (ad 0 0), .int a0, .int a1, .int a2]) (rest := []) ⟨hx, hb, hml, hown, hts⟩ (c_L_section l G (aS H Mc) Mc hl9 st ad a0 a1 a2 hC hV) (vx_cwSW 4 hts gL_law_L_section rfl rfl rfl (by decide +kernel) ⟨Nat.le_of_ble_eq_true rfl, Nat.le_of_ble_eq_true rfl⟩) (sPreS hG hS hPc hIc hA) rfl rfl hl.1 rfl (lv_room (Nat.le_of_ble_eq_true rfl)) hdg ⟨by show cells + 4 ≤ 624961; omega, by show slots + 24 ≤ 7226742; omega⟩) hIc hS hA (fun r M9 H1 locs1 hp hP9 hI9 hk9 hS1 => ?_)
  obtain ⟨ad1, hr, hC1, ha1⟩ := hp
  have ho := hop st hF hV
  rw [hr, ho.1]
  refine W.widen (k := cells + 100) (n := slots + 1000) (by omega) (by omega) ?_
  obtain ⟨hd1, hP1, hI1⟩ := tw_mv hS.1 hd hP hI hP9 hI9 hk9
  exact kk H1 locs1 ⟨_, ad1, M9, ho.2, (I_section hV a0 a1 a2), hC1, ha1, hd1, hP1, hI1⟩ hS1
theorem lx_section1 (C0 : TwC p l s m c b G) (hdg : decode cL_law pc = .ok (.invokestatic 77, 3)) (hX : LwX G s.heap.size H cw F X) (hS : va_S (aH s.heap.size) s.heap H locs) (hl : lv_has ls 22 lv) (hcs : cells + 100 ≤ 624961 ∧ slots + 1000 ≤ 7226742) {x9 : Int32} {a0 a1 a2 : Int32} (v : Int32) (F1 : St → Prop) (hop : ∀ st, F st → Inv st → wan (m_section st a0 a1 a2) = v ∧ F1 (m_section st a0 a1 a2).2.2)
    (kk : ∀ (H1 : Heap) (locs1 : List Loc), LwX G s.heap.size H1 cw F1 X → va_S (aH s.heap.size) s.heap H1 locs1 → W p l e room_1 s m #[Value.ref b] below meth c H1 locs1 (cells + 100) (slots + 1000) Q (F0 m (pc + 3) ls (.int v :: [.int x9]))) : W p l e room_1 s m #[Value.ref b] below meth c H locs cells slots Q (F0 m pc ls (.int a2 :: .int a1 :: .int a0 :: .ref cw :: [.int x9])) := by
  obtain ⟨hx, hb, hml, hown, hts, hG, hb0, hl9⟩ := C0
  obtain ⟨st, ad, Mc, hF, hV, hC, rfl, hd, hP, hI⟩ := hX
  have hA : ∀ q : Nat, s.heap.size ≤ q → aH s.heap.size q := fun _ h => h
  have hPc : mP G.1 Mc H := fun a e he => hP a e (tw_r hd he)
  have hIc : mI (aH s.heap.size) Mc := fun a e he => hI a e (tw_r hd he)
  refine ls_calli (vx_runSX (As := [.ref (ad 0 0), .int a0, .int a1, .int a2]) (rest := [.int x9]) ⟨hx, hb, hml, hown, hts⟩ (c_L_section l G (aS H Mc) Mc hl9 st ad a0 a1 a2 hC hV) (vx_cwSW 4 hts gL_law_L_section rfl rfl rfl (by decide +kernel) ⟨Nat.le_of_ble_eq_true rfl, Nat.le_of_ble_eq_true rfl⟩) (sPreS hG hS hPc hIc hA) rfl rfl hl.1 rfl (lv_room (Nat.le_of_ble_eq_true rfl)) hdg ⟨by show cells + 4 ≤ 624961; omega, by show slots + 24 ≤ 7226742; omega⟩) hIc hS hA (fun r M9 H1 locs1 hp hP9 hI9 hk9 hS1 => ?_)
  obtain ⟨ad1, hr, hC1, ha1⟩ := hp
  have ho := hop st hF hV
  rw [hr, ho.1]
  refine W.widen (k := cells + 100) (n := slots + 1000) (by omega) (by omega) ?_
  obtain ⟨hd1, hP1, hI1⟩ := tw_mv hS.1 hd hP hI hP9 hI9 hk9
  exact kk H1 locs1 ⟨_, ad1, M9, ho.2, (I_section hV a0 a1 a2), hC1, ha1, hd1, hP1, hI1⟩ hS1
theorem rI_bore {st : St} {a0 a1 : Int32} (hV : Inv st) : Inv (m_bore st a0 a1).2.2 := by
  unfold m_bore
  first | exact chk_I hV (fun _ => hV) | exact chk_I hV (fun _ => chk_I hV (fun _ => hV)) | exact chk_I hV (fun _ => chk_I hV (fun _ => chk_I hV (fun _ => hV))) | exact chk_I hV (fun _ => chk_I hV (fun _ => chk_I hV (fun _ => chk_I hV (fun _ => hV)))) | exact chk_I hV (fun _ => chk_I hV (fun _ => chk_I hV (fun _ => chk_I hV (fun _ => chk_I hV (fun _ => hV))))) | exact chk_I hV (fun _ => chk_I hV (fun _ => chk_I hV (fun _ => chk_I hV (fun _ => chk_I hV (fun _ => chk_I hV (fun _ => hV))))))
theorem lx_bore0 (C0 : TwC p l s m c b G) (hdg : decode cL_law pc = .ok (.invokestatic 75, 3)) (hX : LwX G s.heap.size H cw F X) (hS : va_S (aH s.heap.size) s.heap H locs) (hl : lv_has ls 22 lv) (hcs : cells + 100 ≤ 624961 ∧ slots + 1000 ≤ 7226742) {a0 a1 : Int32} (v : Int32) (F1 : St → Prop) (hop : ∀ st, F st → Inv st → wan (m_bore st a0 a1) = v ∧ F1 (m_bore st a0 a1).2.2)
    (kk : ∀ (H1 : Heap) (locs1 : List Loc), LwX G s.heap.size H1 cw F1 X → va_S (aH s.heap.size) s.heap H1 locs1 → W p l e room_1 s m #[Value.ref b] below meth c H1 locs1 (cells + 100) (slots + 1000) Q (F0 m (pc + 3) ls (.int v :: []))) : W p l e room_1 s m #[Value.ref b] below meth c H locs cells slots Q (F0 m pc ls (.int a1 :: .int a0 :: .ref cw :: [])) := by
  obtain ⟨hx, hb, hml, hown, hts, hG, hb0, hl9⟩ := C0
  obtain ⟨st, ad, Mc, hF, hV, hC, rfl, hd, hP, hI⟩ := hX
  have hA : ∀ q : Nat, s.heap.size ≤ q → aH s.heap.size q := fun _ h => h
  have hPc : mP G.1 Mc H := fun a e he => hP a e (tw_r hd he)
  have hIc : mI (aH s.heap.size) Mc := fun a e he => hI a e (tw_r hd he)
  refine ls_calli (vx_runSX (As := [.ref (ad 0 0), .int a0, .int a1]) (rest := []) ⟨hx, hb, hml, hown, hts⟩ (c_L_bore l G (aS H Mc) Mc hl9 st ad a0 a1 hC hV) (vx_cwSW 3 hts gL_law_L_bore rfl rfl rfl (by decide +kernel) ⟨Nat.le_of_ble_eq_true rfl, Nat.le_of_ble_eq_true rfl⟩) (sPreS hG hS hPc hIc hA) rfl rfl hl.1 rfl (lv_room (Nat.le_of_ble_eq_true rfl)) hdg ⟨by show cells + 2 ≤ 624961; omega, by show slots + 12 ≤ 7226742; omega⟩) hIc hS hA (fun r M9 H1 locs1 hp hP9 hI9 hk9 hS1 => ?_)
  obtain ⟨ad1, hr, hC1, ha1⟩ := hp
  have ho := hop st hF hV
  rw [hr, ho.1]
  refine W.widen (k := cells + 100) (n := slots + 1000) (by omega) (by omega) ?_
  obtain ⟨hd1, hP1, hI1⟩ := tw_mv hS.1 hd hP hI hP9 hI9 hk9
  exact kk H1 locs1 ⟨_, ad1, M9, ho.2, (rI_bore hV), hC1, ha1, hd1, hP1, hI1⟩ hS1
theorem lx_bore1 (C0 : TwC p l s m c b G) (hdg : decode cL_law pc = .ok (.invokestatic 75, 3)) (hX : LwX G s.heap.size H cw F X) (hS : va_S (aH s.heap.size) s.heap H locs) (hl : lv_has ls 22 lv) (hcs : cells + 100 ≤ 624961 ∧ slots + 1000 ≤ 7226742) {x9 : Int32} {a0 a1 : Int32} (v : Int32) (F1 : St → Prop) (hop : ∀ st, F st → Inv st → wan (m_bore st a0 a1) = v ∧ F1 (m_bore st a0 a1).2.2)
    (kk : ∀ (H1 : Heap) (locs1 : List Loc), LwX G s.heap.size H1 cw F1 X → va_S (aH s.heap.size) s.heap H1 locs1 → W p l e room_1 s m #[Value.ref b] below meth c H1 locs1 (cells + 100) (slots + 1000) Q (F0 m (pc + 3) ls (.int v :: [.int x9]))) : W p l e room_1 s m #[Value.ref b] below meth c H locs cells slots Q (F0 m pc ls (.int a1 :: .int a0 :: .ref cw :: [.int x9])) := by
  obtain ⟨hx, hb, hml, hown, hts, hG, hb0, hl9⟩ := C0
  obtain ⟨st, ad, Mc, hF, hV, hC, rfl, hd, hP, hI⟩ := hX
  have hA : ∀ q : Nat, s.heap.size ≤ q → aH s.heap.size q := fun _ h => h
  have hPc : mP G.1 Mc H := fun a e he => hP a e (tw_r hd he)
  have hIc : mI (aH s.heap.size) Mc := fun a e he => hI a e (tw_r hd he)
  refine ls_calli (vx_runSX (As := [.ref (ad 0 0), .int a0, .int a1]) (rest := [.int x9]) ⟨hx, hb, hml, hown, hts⟩ (c_L_bore l G (aS H Mc) Mc hl9 st ad a0 a1 hC hV) (vx_cwSW 3 hts gL_law_L_bore rfl rfl rfl (by decide +kernel) ⟨Nat.le_of_ble_eq_true rfl, Nat.le_of_ble_eq_true rfl⟩) (sPreS hG hS hPc hIc hA) rfl rfl hl.1 rfl (lv_room (Nat.le_of_ble_eq_true rfl)) hdg ⟨by show cells + 2 ≤ 624961; omega, by show slots + 12 ≤ 7226742; omega⟩) hIc hS hA (fun r M9 H1 locs1 hp hP9 hI9 hk9 hS1 => ?_)
  obtain ⟨ad1, hr, hC1, ha1⟩ := hp
  have ho := hop st hF hV
  rw [hr, ho.1]
  refine W.widen (k := cells + 100) (n := slots + 1000) (by omega) (by omega) ?_
  obtain ⟨hd1, hP1, hI1⟩ := tw_mv hS.1 hd hP hI hP9 hI9 hk9
  exact kk H1 locs1 ⟨_, ad1, M9, ho.2, (rI_bore hV), hC1, ha1, hd1, hP1, hI1⟩ hS1
theorem rI_volume {st : St} {a0 a1 : Int32} (hV : Inv st) : Inv (m_volume st a0 a1).2.2 := by
  unfold m_volume
  first | exact chk_I hV (fun _ => hV) | exact chk_I hV (fun _ => chk_I hV (fun _ => hV)) | exact chk_I hV (fun _ => chk_I hV (fun _ => chk_I hV (fun _ => hV))) | exact chk_I hV (fun _ => chk_I hV (fun _ => chk_I hV (fun _ => chk_I hV (fun _ => hV)))) | exact chk_I hV (fun _ => chk_I hV (fun _ => chk_I hV (fun _ => chk_I hV (fun _ => chk_I hV (fun _ => hV))))) | exact chk_I hV (fun _ => chk_I hV (fun _ => chk_I hV (fun _ => chk_I hV (fun _ => chk_I hV (fun _ => chk_I hV (fun _ => hV))))))
theorem lx_volume0 (C0 : TwC p l s m c b G) (hdg : decode cL_law pc = .ok (.invokestatic 83, 3)) (hX : LwX G s.heap.size H cw F X) (hS : va_S (aH s.heap.size) s.heap H locs) (hl : lv_has ls 22 lv) (hcs : cells + 100 ≤ 624961 ∧ slots + 1000 ≤ 7226742) {a0 a1 : Int32} (v : Int32) (F1 : St → Prop) (hop : ∀ st, F st → Inv st → wan (m_volume st a0 a1) = v ∧ F1 (m_volume st a0 a1).2.2)
    (kk : ∀ (H1 : Heap) (locs1 : List Loc), LwX G s.heap.size H1 cw F1 X → va_S (aH s.heap.size) s.heap H1 locs1 → W p l e room_1 s m #[Value.ref b] below meth c H1 locs1 (cells + 100) (slots + 1000) Q (F0 m (pc + 3) ls (.int v :: []))) : W p l e room_1 s m #[Value.ref b] below meth c H locs cells slots Q (F0 m pc ls (.int a1 :: .int a0 :: .ref cw :: [])) := by
  obtain ⟨hx, hb, hml, hown, hts, hG, hb0, hl9⟩ := C0
  obtain ⟨st, ad, Mc, hF, hV, hC, rfl, hd, hP, hI⟩ := hX
  have hA : ∀ q : Nat, s.heap.size ≤ q → aH s.heap.size q := fun _ h => h
  have hPc : mP G.1 Mc H := fun a e he => hP a e (tw_r hd he)
  have hIc : mI (aH s.heap.size) Mc := fun a e he => hI a e (tw_r hd he)
  refine ls_calli (vx_runSX (As := [.ref (ad 0 0), .int a0, .int a1]) (rest := []) ⟨hx, hb, hml, hown, hts⟩ (c_L_volume l G (aS H Mc) Mc hl9 st ad a0 a1 hC hV) (vx_cwSW 3 hts gL_law_L_volume rfl rfl rfl (by decide +kernel) ⟨Nat.le_of_ble_eq_true rfl, Nat.le_of_ble_eq_true rfl⟩) (sPreS hG hS hPc hIc hA) rfl rfl hl.1 rfl (lv_room (Nat.le_of_ble_eq_true rfl)) hdg ⟨by show cells + 2 ≤ 624961; omega, by show slots + 12 ≤ 7226742; omega⟩) hIc hS hA (fun r M9 H1 locs1 hp hP9 hI9 hk9 hS1 => ?_)
  obtain ⟨ad1, hr, hC1, ha1⟩ := hp
  have ho := hop st hF hV
  rw [hr, ho.1]
  refine W.widen (k := cells + 100) (n := slots + 1000) (by omega) (by omega) ?_
  obtain ⟨hd1, hP1, hI1⟩ := tw_mv hS.1 hd hP hI hP9 hI9 hk9
  exact kk H1 locs1 ⟨_, ad1, M9, ho.2, (rI_volume hV), hC1, ha1, hd1, hP1, hI1⟩ hS1
theorem lx_volume1 (C0 : TwC p l s m c b G) (hdg : decode cL_law pc = .ok (.invokestatic 83, 3)) (hX : LwX G s.heap.size H cw F X) (hS : va_S (aH s.heap.size) s.heap H locs) (hl : lv_has ls 22 lv) (hcs : cells + 100 ≤ 624961 ∧ slots + 1000 ≤ 7226742) {x9 : Int32} {a0 a1 : Int32} (v : Int32) (F1 : St → Prop) (hop : ∀ st, F st → Inv st → wan (m_volume st a0 a1) = v ∧ F1 (m_volume st a0 a1).2.2)
    (kk : ∀ (H1 : Heap) (locs1 : List Loc), LwX G s.heap.size H1 cw F1 X → va_S (aH s.heap.size) s.heap H1 locs1 → W p l e room_1 s m #[Value.ref b] below meth c H1 locs1 (cells + 100) (slots + 1000) Q (F0 m (pc + 3) ls (.int v :: [.int x9]))) : W p l e room_1 s m #[Value.ref b] below meth c H locs cells slots Q (F0 m pc ls (.int a1 :: .int a0 :: .ref cw :: [.int x9])) := by
  obtain ⟨hx, hb, hml, hown, hts, hG, hb0, hl9⟩ := C0
  obtain ⟨st, ad, Mc, hF, hV, hC, rfl, hd, hP, hI⟩ := hX
  have hA : ∀ q : Nat, s.heap.size ≤ q → aH s.heap.size q := fun _ h => h
  have hPc : mP G.1 Mc H := fun a e he => hP a e (tw_r hd he)
  have hIc : mI (aH s.heap.size) Mc := fun a e he => hI a e (tw_r hd he)
  refine ls_calli (vx_runSX (As := [.ref (ad 0 0), .int a0, .int a1]) (rest := [.int x9]) ⟨hx, hb, hml, hown, hts⟩ (c_L_volume l G (aS H Mc) Mc hl9 st ad a0 a1 hC hV) (vx_cwSW 3 hts gL_law_L_volume rfl rfl rfl (by decide +kernel) ⟨Nat.le_of_ble_eq_true rfl, Nat.le_of_ble_eq_true rfl⟩) (sPreS hG hS hPc hIc hA) rfl rfl hl.1 rfl (lv_room (Nat.le_of_ble_eq_true rfl)) hdg ⟨by show cells + 2 ≤ 624961; omega, by show slots + 12 ≤ 7226742; omega⟩) hIc hS hA (fun r M9 H1 locs1 hp hP9 hI9 hk9 hS1 => ?_)
  obtain ⟨ad1, hr, hC1, ha1⟩ := hp
  have ho := hop st hF hV
  rw [hr, ho.1]
  refine W.widen (k := cells + 100) (n := slots + 1000) (by omega) (by omega) ?_
  obtain ⟨hd1, hP1, hI1⟩ := tw_mv hS.1 hd hP hI hP9 hI9 hk9
  exact kk H1 locs1 ⟨_, ad1, M9, ho.2, (rI_volume hV), hC1, ha1, hd1, hP1, hI1⟩ hS1
theorem rI_thread {st : St} {a0 a1 a2 : Int32} (hV : Inv st) : Inv (m_thread st a0 a1 a2).2.2 := by
  unfold m_thread
  first | exact chk_I hV (fun _ => hV) | exact chk_I hV (fun _ => chk_I hV (fun _ => hV)) | exact chk_I hV (fun _ => chk_I hV (fun _ => chk_I hV (fun _ => hV))) | exact chk_I hV (fun _ => chk_I hV (fun _ => chk_I hV (fun _ => chk_I hV (fun _ => hV)))) | exact chk_I hV (fun _ => chk_I hV (fun _ => chk_I hV (fun _ => chk_I hV (fun _ => chk_I hV (fun _ => hV))))) | exact chk_I hV (fun _ => chk_I hV (fun _ => chk_I hV (fun _ => chk_I hV (fun _ => chk_I hV (fun _ => chk_I hV (fun _ => hV))))))
theorem lx_thread0 (C0 : TwC p l s m c b G) (hdg : decode cL_law pc = .ok (.invokestatic 85, 3)) (hX : LwX G s.heap.size H cw F X) (hS : va_S (aH s.heap.size) s.heap H locs) (hl : lv_has ls 22 lv) (hcs : cells + 100 ≤ 624961 ∧ slots + 1000 ≤ 7226742) {a0 a1 a2 : Int32} (v : Int32) (F1 : St → Prop) (hop : ∀ st, F st → Inv st → wan (m_thread st a0 a1 a2) = v ∧ F1 (m_thread st a0 a1 a2).2.2)
    (kk : ∀ (H1 : Heap) (locs1 : List Loc), LwX G s.heap.size H1 cw F1 X → va_S (aH s.heap.size) s.heap H1 locs1 → W p l e room_1 s m #[Value.ref b] below meth c H1 locs1 (cells + 100) (slots + 1000) Q (F0 m (pc + 3) ls (.int v :: []))) : W p l e room_1 s m #[Value.ref b] below meth c H locs cells slots Q (F0 m pc ls (.int a2 :: .int a1 :: .int a0 :: .ref cw :: [])) := by
  obtain ⟨hx, hb, hml, hown, hts, hG, hb0, hl9⟩ := C0
  obtain ⟨st, ad, Mc, hF, hV, hC, rfl, hd, hP, hI⟩ := hX
  have hA : ∀ q : Nat, s.heap.size ≤ q → aH s.heap.size q := fun _ h => h
  have hPc : mP G.1 Mc H := fun a e he => hP a e (tw_r hd he)
  have hIc : mI (aH s.heap.size) Mc := fun a e he => hI a e (tw_r hd he)
  refine ls_calli (vx_runSX (As := [.ref (ad 0 0), .int a0, .int a1, .int a2]) (rest := []) ⟨hx, hb, hml, hown, hts⟩ (c_L_thread l G (aS H Mc) Mc hl9 st ad a0 a1 a2 hC hV) (vx_cwSW 4 hts gL_law_L_thread rfl rfl rfl (by decide +kernel) ⟨Nat.le_of_ble_eq_true rfl, Nat.le_of_ble_eq_true rfl⟩) (sPreS hG hS hPc hIc hA) rfl rfl hl.1 rfl (lv_room (Nat.le_of_ble_eq_true rfl)) hdg ⟨by show cells + 4 ≤ 624961; omega, by show slots + 24 ≤ 7226742; omega⟩) hIc hS hA (fun r M9 H1 locs1 hp hP9 hI9 hk9 hS1 => ?_)
  obtain ⟨ad1, hr, hC1, ha1⟩ := hp
  have ho := hop st hF hV
  rw [hr, ho.1]
  refine W.widen (k := cells + 100) (n := slots + 1000) (by omega) (by omega) ?_
  obtain ⟨hd1, hP1, hI1⟩ := tw_mv hS.1 hd hP hI hP9 hI9 hk9
  exact kk H1 locs1 ⟨_, ad1, M9, ho.2, (rI_thread hV), hC1, ha1, hd1, hP1, hI1⟩ hS1
theorem lx_thread1 (C0 : TwC p l s m c b G) (hdg : decode cL_law pc = .ok (.invokestatic 85, 3)) (hX : LwX G s.heap.size H cw F X) (hS : va_S (aH s.heap.size) s.heap H locs) (hl : lv_has ls 22 lv) (hcs : cells + 100 ≤ 624961 ∧ slots + 1000 ≤ 7226742) {x9 : Int32} {a0 a1 a2 : Int32} (v : Int32) (F1 : St → Prop) (hop : ∀ st, F st → Inv st → wan (m_thread st a0 a1 a2) = v ∧ F1 (m_thread st a0 a1 a2).2.2)
    (kk : ∀ (H1 : Heap) (locs1 : List Loc), LwX G s.heap.size H1 cw F1 X → va_S (aH s.heap.size) s.heap H1 locs1 → W p l e room_1 s m #[Value.ref b] below meth c H1 locs1 (cells + 100) (slots + 1000) Q (F0 m (pc + 3) ls (.int v :: [.int x9]))) : W p l e room_1 s m #[Value.ref b] below meth c H locs cells slots Q (F0 m pc ls (.int a2 :: .int a1 :: .int a0 :: .ref cw :: [.int x9])) := by
  obtain ⟨hx, hb, hml, hown, hts, hG, hb0, hl9⟩ := C0
  obtain ⟨st, ad, Mc, hF, hV, hC, rfl, hd, hP, hI⟩ := hX
  have hA : ∀ q : Nat, s.heap.size ≤ q → aH s.heap.size q := fun _ h => h
  have hPc : mP G.1 Mc H := fun a e he => hP a e (tw_r hd he)
  have hIc : mI (aH s.heap.size) Mc := fun a e he => hI a e (tw_r hd he)
  refine ls_calli (vx_runSX (As := [.ref (ad 0 0), .int a0, .int a1, .int a2]) (rest := [.int x9]) ⟨hx, hb, hml, hown, hts⟩ (c_L_thread l G (aS H Mc) Mc hl9 st ad a0 a1 a2 hC hV) (vx_cwSW 4 hts gL_law_L_thread rfl rfl rfl (by decide +kernel) ⟨Nat.le_of_ble_eq_true rfl, Nat.le_of_ble_eq_true rfl⟩) (sPreS hG hS hPc hIc hA) rfl rfl hl.1 rfl (lv_room (Nat.le_of_ble_eq_true rfl)) hdg ⟨by show cells + 4 ≤ 624961; omega, by show slots + 24 ≤ 7226742; omega⟩) hIc hS hA (fun r M9 H1 locs1 hp hP9 hI9 hk9 hS1 => ?_)
  obtain ⟨ad1, hr, hC1, ha1⟩ := hp
  have ho := hop st hF hV
  rw [hr, ho.1]
  refine W.widen (k := cells + 100) (n := slots + 1000) (by omega) (by omega) ?_
  obtain ⟨hd1, hP1, hI1⟩ := tw_mv hS.1 hd hP hI hP9 hI9 hk9
  exact kk H1 locs1 ⟨_, ad1, M9, ho.2, (rI_thread hV), hC1, ha1, hd1, hP1, hI1⟩ hS1
theorem rI_widest {st : St} {a0 : Int32} (hV : Inv st) : Inv (m_widest st a0).2.2 := by
  unfold m_widest
  first | exact chk_I hV (fun _ => hV) | exact chk_I hV (fun _ => chk_I hV (fun _ => hV)) | exact chk_I hV (fun _ => chk_I hV (fun _ => chk_I hV (fun _ => hV))) | exact chk_I hV (fun _ => chk_I hV (fun _ => chk_I hV (fun _ => chk_I hV (fun _ => hV)))) | exact chk_I hV (fun _ => chk_I hV (fun _ => chk_I hV (fun _ => chk_I hV (fun _ => chk_I hV (fun _ => hV))))) | exact chk_I hV (fun _ => chk_I hV (fun _ => chk_I hV (fun _ => chk_I hV (fun _ => chk_I hV (fun _ => chk_I hV (fun _ => hV))))))
theorem lx_widest0 (C0 : TwC p l s m c b G) (hdg : decode cL_law pc = .ok (.invokestatic 80, 3)) (hX : LwX G s.heap.size H cw F X) (hS : va_S (aH s.heap.size) s.heap H locs) (hl : lv_has ls 22 lv) (hcs : cells + 100 ≤ 624961 ∧ slots + 1000 ≤ 7226742) {a0 : Int32} (v : Int32) (F1 : St → Prop) (hop : ∀ st, F st → Inv st → wan (m_widest st a0) = v ∧ F1 (m_widest st a0).2.2)
    (kk : ∀ (H1 : Heap) (locs1 : List Loc), LwX G s.heap.size H1 cw F1 X → va_S (aH s.heap.size) s.heap H1 locs1 → W p l e room_1 s m #[Value.ref b] below meth c H1 locs1 (cells + 100) (slots + 1000) Q (F0 m (pc + 3) ls (.int v :: []))) : W p l e room_1 s m #[Value.ref b] below meth c H locs cells slots Q (F0 m pc ls (.int a0 :: .ref cw :: [])) := by
  obtain ⟨hx, hb, hml, hown, hts, hG, hb0, hl9⟩ := C0
  obtain ⟨st, ad, Mc, hF, hV, hC, rfl, hd, hP, hI⟩ := hX
  have hA : ∀ q : Nat, s.heap.size ≤ q → aH s.heap.size q := fun _ h => h
  have hPc : mP G.1 Mc H := fun a e he => hP a e (tw_r hd he)
  have hIc : mI (aH s.heap.size) Mc := fun a e he => hI a e (tw_r hd he)
  refine ls_calli (vx_runSX (As := [.ref (ad 0 0), .int a0]) (rest := []) ⟨hx, hb, hml, hown, hts⟩ (c_L_widest l G (aS H Mc) Mc hl9 st ad a0 hC hV) (vx_cwSW 2 hts gL_law_L_widest rfl rfl rfl (by decide +kernel) ⟨Nat.le_of_ble_eq_true rfl, Nat.le_of_ble_eq_true rfl⟩) (sPreS hG hS hPc hIc hA) rfl rfl hl.1 rfl (lv_room (Nat.le_of_ble_eq_true rfl)) hdg ⟨by show cells + 1 ≤ 624961; omega, by show slots + 6 ≤ 7226742; omega⟩) hIc hS hA (fun r M9 H1 locs1 hp hP9 hI9 hk9 hS1 => ?_)
  obtain ⟨ad1, hr, hC1, ha1⟩ := hp
  have ho := hop st hF hV
  rw [hr, ho.1]
  refine W.widen (k := cells + 100) (n := slots + 1000) (by omega) (by omega) ?_
  obtain ⟨hd1, hP1, hI1⟩ := tw_mv hS.1 hd hP hI hP9 hI9 hk9
  exact kk H1 locs1 ⟨_, ad1, M9, ho.2, (rI_widest hV), hC1, ha1, hd1, hP1, hI1⟩ hS1
theorem lx_widest1 (C0 : TwC p l s m c b G) (hdg : decode cL_law pc = .ok (.invokestatic 80, 3)) (hX : LwX G s.heap.size H cw F X) (hS : va_S (aH s.heap.size) s.heap H locs) (hl : lv_has ls 22 lv) (hcs : cells + 100 ≤ 624961 ∧ slots + 1000 ≤ 7226742) {x9 : Int32} {a0 : Int32} (v : Int32) (F1 : St → Prop) (hop : ∀ st, F st → Inv st → wan (m_widest st a0) = v ∧ F1 (m_widest st a0).2.2)
    (kk : ∀ (H1 : Heap) (locs1 : List Loc), LwX G s.heap.size H1 cw F1 X → va_S (aH s.heap.size) s.heap H1 locs1 → W p l e room_1 s m #[Value.ref b] below meth c H1 locs1 (cells + 100) (slots + 1000) Q (F0 m (pc + 3) ls (.int v :: [.int x9]))) : W p l e room_1 s m #[Value.ref b] below meth c H locs cells slots Q (F0 m pc ls (.int a0 :: .ref cw :: [.int x9])) := by
  obtain ⟨hx, hb, hml, hown, hts, hG, hb0, hl9⟩ := C0
  obtain ⟨st, ad, Mc, hF, hV, hC, rfl, hd, hP, hI⟩ := hX
  have hA : ∀ q : Nat, s.heap.size ≤ q → aH s.heap.size q := fun _ h => h
  have hPc : mP G.1 Mc H := fun a e he => hP a e (tw_r hd he)
  have hIc : mI (aH s.heap.size) Mc := fun a e he => hI a e (tw_r hd he)
  refine ls_calli (vx_runSX (As := [.ref (ad 0 0), .int a0]) (rest := [.int x9]) ⟨hx, hb, hml, hown, hts⟩ (c_L_widest l G (aS H Mc) Mc hl9 st ad a0 hC hV) (vx_cwSW 2 hts gL_law_L_widest rfl rfl rfl (by decide +kernel) ⟨Nat.le_of_ble_eq_true rfl, Nat.le_of_ble_eq_true rfl⟩) (sPreS hG hS hPc hIc hA) rfl rfl hl.1 rfl (lv_room (Nat.le_of_ble_eq_true rfl)) hdg ⟨by show cells + 1 ≤ 624961; omega, by show slots + 6 ≤ 7226742; omega⟩) hIc hS hA (fun r M9 H1 locs1 hp hP9 hI9 hk9 hS1 => ?_)
  obtain ⟨ad1, hr, hC1, ha1⟩ := hp
  have ho := hop st hF hV
  rw [hr, ho.1]
  refine W.widen (k := cells + 100) (n := slots + 1000) (by omega) (by omega) ?_
  obtain ⟨hd1, hP1, hI1⟩ := tw_mv hS.1 hd hP hI hP9 hI9 hk9
  exact kk H1 locs1 ⟨_, ad1, M9, ho.2, (rI_widest hV), hC1, ha1, hd1, hP1, hI1⟩ hS1
theorem rI_deliver {st : St} {a0 a1 a2 a3 : Int32} (hV : Inv st) : Inv (m_deliver st a0 a1 a2 a3).2.2 := by
  unfold m_deliver
  first | exact chk_I hV (fun _ => hV) | exact chk_I hV (fun _ => chk_I hV (fun _ => hV)) | exact chk_I hV (fun _ => chk_I hV (fun _ => chk_I hV (fun _ => hV))) | exact chk_I hV (fun _ => chk_I hV (fun _ => chk_I hV (fun _ => chk_I hV (fun _ => hV)))) | exact chk_I hV (fun _ => chk_I hV (fun _ => chk_I hV (fun _ => chk_I hV (fun _ => chk_I hV (fun _ => hV))))) | exact chk_I hV (fun _ => chk_I hV (fun _ => chk_I hV (fun _ => chk_I hV (fun _ => chk_I hV (fun _ => chk_I hV (fun _ => hV))))))
theorem lx_deliver0 (C0 : TwC p l s m c b G) (hdg : decode cL_law pc = .ok (.invokestatic 87, 3)) (hX : LwX G s.heap.size H cw F X) (hS : va_S (aH s.heap.size) s.heap H locs) (hl : lv_has ls 22 lv) (hcs : cells + 100 ≤ 624961 ∧ slots + 1000 ≤ 7226742) {a0 a1 a2 a3 : Int32} (v : Int32) (F1 : St → Prop) (hop : ∀ st, F st → Inv st → wan (m_deliver st a0 a1 a2 a3) = v ∧ F1 (m_deliver st a0 a1 a2 a3).2.2)
    (kk : ∀ (H1 : Heap) (locs1 : List Loc), LwX G s.heap.size H1 cw F1 X → va_S (aH s.heap.size) s.heap H1 locs1 → W p l e room_1 s m #[Value.ref b] below meth c H1 locs1 (cells + 100) (slots + 1000) Q (F0 m (pc + 3) ls (.int v :: []))) : W p l e room_1 s m #[Value.ref b] below meth c H locs cells slots Q (F0 m pc ls (.int a3 :: .int a2 :: .int a1 :: .int a0 :: .ref cw :: [])) := by
  obtain ⟨hx, hb, hml, hown, hts, hG, hb0, hl9⟩ := C0
  obtain ⟨st, ad, Mc, hF, hV, hC, rfl, hd, hP, hI⟩ := hX
  have hA : ∀ q : Nat, s.heap.size ≤ q → aH s.heap.size q := fun _ h => h
  have hPc : mP G.1 Mc H := fun a e he => hP a e (tw_r hd he)
  have hIc : mI (aH s.heap.size) Mc := fun a e he => hI a e (tw_r hd he)
  refine ls_calli (vx_runSX (As := [.ref (ad 0 0), .int a0, .int a1, .int a2, .int a3]) (rest := []) ⟨hx, hb, hml, hown, hts⟩ (c_L_deliver l G (aS H Mc) Mc hl9 st ad a0 a1 a2 a3 hC hV) (vx_cwSW 5 hts gL_law_L_deliver rfl rfl rfl (by decide +kernel) ⟨Nat.le_of_ble_eq_true rfl, Nat.le_of_ble_eq_true rfl⟩) (sPreS hG hS hPc hIc hA) rfl rfl hl.1 rfl (lv_room (Nat.le_of_ble_eq_true rfl)) hdg ⟨by show cells + 5 ≤ 624961; omega, by show slots + 30 ≤ 7226742; omega⟩) hIc hS hA (fun r M9 H1 locs1 hp hP9 hI9 hk9 hS1 => ?_)
  obtain ⟨ad1, hr, hC1, ha1⟩ := hp
  have ho := hop st hF hV
  rw [hr, ho.1]
  refine W.widen (k := cells + 100) (n := slots + 1000) (by omega) (by omega) ?_
  obtain ⟨hd1, hP1, hI1⟩ := tw_mv hS.1 hd hP hI hP9 hI9 hk9
  exact kk H1 locs1 ⟨_, ad1, M9, ho.2, (rI_deliver hV), hC1, ha1, hd1, hP1, hI1⟩ hS1
theorem lx_deliver1 (C0 : TwC p l s m c b G) (hdg : decode cL_law pc = .ok (.invokestatic 87, 3)) (hX : LwX G s.heap.size H cw F X) (hS : va_S (aH s.heap.size) s.heap H locs) (hl : lv_has ls 22 lv) (hcs : cells + 100 ≤ 624961 ∧ slots + 1000 ≤ 7226742) {x9 : Int32} {a0 a1 a2 a3 : Int32} (v : Int32) (F1 : St → Prop) (hop : ∀ st, F st → Inv st → wan (m_deliver st a0 a1 a2 a3) = v ∧ F1 (m_deliver st a0 a1 a2 a3).2.2)
    (kk : ∀ (H1 : Heap) (locs1 : List Loc), LwX G s.heap.size H1 cw F1 X → va_S (aH s.heap.size) s.heap H1 locs1 → W p l e room_1 s m #[Value.ref b] below meth c H1 locs1 (cells + 100) (slots + 1000) Q (F0 m (pc + 3) ls (.int v :: [.int x9]))) : W p l e room_1 s m #[Value.ref b] below meth c H locs cells slots Q (F0 m pc ls (.int a3 :: .int a2 :: .int a1 :: .int a0 :: .ref cw :: [.int x9])) := by
  obtain ⟨hx, hb, hml, hown, hts, hG, hb0, hl9⟩ := C0
  obtain ⟨st, ad, Mc, hF, hV, hC, rfl, hd, hP, hI⟩ := hX
  have hA : ∀ q : Nat, s.heap.size ≤ q → aH s.heap.size q := fun _ h => h
  have hPc : mP G.1 Mc H := fun a e he => hP a e (tw_r hd he)
  have hIc : mI (aH s.heap.size) Mc := fun a e he => hI a e (tw_r hd he)
  refine ls_calli (vx_runSX (As := [.ref (ad 0 0), .int a0, .int a1, .int a2, .int a3]) (rest := [.int x9]) ⟨hx, hb, hml, hown, hts⟩ (c_L_deliver l G (aS H Mc) Mc hl9 st ad a0 a1 a2 a3 hC hV) (vx_cwSW 5 hts gL_law_L_deliver rfl rfl rfl (by decide +kernel) ⟨Nat.le_of_ble_eq_true rfl, Nat.le_of_ble_eq_true rfl⟩) (sPreS hG hS hPc hIc hA) rfl rfl hl.1 rfl (lv_room (Nat.le_of_ble_eq_true rfl)) hdg ⟨by show cells + 5 ≤ 624961; omega, by show slots + 30 ≤ 7226742; omega⟩) hIc hS hA (fun r M9 H1 locs1 hp hP9 hI9 hk9 hS1 => ?_)
  obtain ⟨ad1, hr, hC1, ha1⟩ := hp
  have ho := hop st hF hV
  rw [hr, ho.1]
  refine W.widen (k := cells + 100) (n := slots + 1000) (by omega) (by omega) ?_
  obtain ⟨hd1, hP1, hI1⟩ := tw_mv hS.1 hd hP hI hP9 hI9 hk9
  exact kk H1 locs1 ⟨_, ad1, M9, ho.2, (rI_deliver hV), hC1, ha1, hd1, hP1, hI1⟩ hS1
theorem lx_make0 (C0 : TwC p l s m c b G) (hdg : decode cL_law pc = .ok (.invokestatic 95, 3)) (hX : LwX G s.heap.size H cw F X) (hS : va_S (aH s.heap.size) s.heap H locs) (hl : lv_has ls 22 lv) (hcs : cells + 100 ≤ 624961 ∧ slots + 1000 ≤ 7226742) {a0 a1 a2 : Int32} (v : Int32) (F1 : St → Prop) (hop : ∀ st, F st → Inv st → wan (m_make st a0 a1 a2) = v ∧ F1 (m_make st a0 a1 a2).2.2)
    (kk : ∀ (H1 : Heap) (locs1 : List Loc), LwX G s.heap.size H1 cw F1 X → va_S (aH s.heap.size) s.heap H1 locs1 → W p l e room_1 s m #[Value.ref b] below meth c H1 locs1 (cells + 100) (slots + 1000) Q (F0 m (pc + 3) ls (.int v :: []))) : W p l e room_1 s m #[Value.ref b] below meth c H locs cells slots Q (F0 m pc ls (.int a2 :: .int a1 :: .int a0 :: .ref cw :: [])) := by
  obtain ⟨hx, hb, hml, hown, hts, hG, hb0, hl9⟩ := C0
  obtain ⟨st, ad, Mc, hF, hV, hC, rfl, hd, hP, hI⟩ := hX
  have hA : ∀ q : Nat, s.heap.size ≤ q → aH s.heap.size q := fun _ h => h
  have hPc : mP G.1 Mc H := fun a e he => hP a e (tw_r hd he)
  have hIc : mI (aH s.heap.size) Mc := fun a e he => hI a e (tw_r hd he)
  refine ls_calli (vx_runSX (As := [.ref (ad 0 0), .int a0, .int a1, .int a2]) (rest := []) ⟨hx, hb, hml, hown, hts⟩ (c_L_make l G (aS H Mc) Mc hl9 st ad a0 a1 a2 hC hV) (vx_cwSW 4 hts gL_law_L_make rfl rfl rfl (by decide +kernel) ⟨Nat.le_of_ble_eq_true rfl, Nat.le_of_ble_eq_true rfl⟩) (sPreS hG hS hPc hIc hA) rfl rfl hl.1 rfl (lv_room (Nat.le_of_ble_eq_true rfl)) hdg ⟨by show cells + 9 ≤ 624961; omega, by show slots + 63 ≤ 7226742; omega⟩) hIc hS hA (fun r M9 H1 locs1 hp hP9 hI9 hk9 hS1 => ?_)
  obtain ⟨ad1, hr, hC1, ha1⟩ := hp
  have ho := hop st hF hV
  rw [hr, ho.1]
  refine W.widen (k := cells + 100) (n := slots + 1000) (by omega) (by omega) ?_
  obtain ⟨hd1, hP1, hI1⟩ := tw_mv hS.1 hd hP hI hP9 hI9 hk9
  exact kk H1 locs1 ⟨_, ad1, M9, ho.2, (I_make hV a0 a1 a2), hC1, ha1, hd1, hP1, hI1⟩ hS1
theorem lx_make1 (C0 : TwC p l s m c b G) (hdg : decode cL_law pc = .ok (.invokestatic 95, 3)) (hX : LwX G s.heap.size H cw F X) (hS : va_S (aH s.heap.size) s.heap H locs) (hl : lv_has ls 22 lv) (hcs : cells + 100 ≤ 624961 ∧ slots + 1000 ≤ 7226742) {x9 : Int32} {a0 a1 a2 : Int32} (v : Int32) (F1 : St → Prop) (hop : ∀ st, F st → Inv st → wan (m_make st a0 a1 a2) = v ∧ F1 (m_make st a0 a1 a2).2.2)
    (kk : ∀ (H1 : Heap) (locs1 : List Loc), LwX G s.heap.size H1 cw F1 X → va_S (aH s.heap.size) s.heap H1 locs1 → W p l e room_1 s m #[Value.ref b] below meth c H1 locs1 (cells + 100) (slots + 1000) Q (F0 m (pc + 3) ls (.int v :: [.int x9]))) : W p l e room_1 s m #[Value.ref b] below meth c H locs cells slots Q (F0 m pc ls (.int a2 :: .int a1 :: .int a0 :: .ref cw :: [.int x9])) := by
  obtain ⟨hx, hb, hml, hown, hts, hG, hb0, hl9⟩ := C0
  obtain ⟨st, ad, Mc, hF, hV, hC, rfl, hd, hP, hI⟩ := hX
  have hA : ∀ q : Nat, s.heap.size ≤ q → aH s.heap.size q := fun _ h => h
  have hPc : mP G.1 Mc H := fun a e he => hP a e (tw_r hd he)
  have hIc : mI (aH s.heap.size) Mc := fun a e he => hI a e (tw_r hd he)
  refine ls_calli (vx_runSX (As := [.ref (ad 0 0), .int a0, .int a1, .int a2]) (rest := [.int x9]) ⟨hx, hb, hml, hown, hts⟩ (c_L_make l G (aS H Mc) Mc hl9 st ad a0 a1 a2 hC hV) (vx_cwSW 4 hts gL_law_L_make rfl rfl rfl (by decide +kernel) ⟨Nat.le_of_ble_eq_true rfl, Nat.le_of_ble_eq_true rfl⟩) (sPreS hG hS hPc hIc hA) rfl rfl hl.1 rfl (lv_room (Nat.le_of_ble_eq_true rfl)) hdg ⟨by show cells + 9 ≤ 624961; omega, by show slots + 63 ≤ 7226742; omega⟩) hIc hS hA (fun r M9 H1 locs1 hp hP9 hI9 hk9 hS1 => ?_)
  obtain ⟨ad1, hr, hC1, ha1⟩ := hp
  have ho := hop st hF hV
  rw [hr, ho.1]
  refine W.widen (k := cells + 100) (n := slots + 1000) (by omega) (by omega) ?_
  obtain ⟨hd1, hP1, hI1⟩ := tw_mv hS.1 hd hP hI hP9 hI9 hk9
  exact kk H1 locs1 ⟨_, ad1, M9, ho.2, (I_make hV a0 a1 a2), hC1, ha1, hd1, hP1, hI1⟩ hS1
theorem rI_boiling {st : St} {a0 : Int32} (hV : Inv st) : Inv (m_boiling st a0).2.2 := by
  unfold m_boiling
  first | exact chk_I hV (fun _ => hV) | exact chk_I hV (fun _ => chk_I hV (fun _ => hV)) | exact chk_I hV (fun _ => chk_I hV (fun _ => chk_I hV (fun _ => hV))) | exact chk_I hV (fun _ => chk_I hV (fun _ => chk_I hV (fun _ => chk_I hV (fun _ => hV)))) | exact chk_I hV (fun _ => chk_I hV (fun _ => chk_I hV (fun _ => chk_I hV (fun _ => chk_I hV (fun _ => hV))))) | exact chk_I hV (fun _ => chk_I hV (fun _ => chk_I hV (fun _ => chk_I hV (fun _ => chk_I hV (fun _ => chk_I hV (fun _ => hV))))))
theorem lx_boiling0 (C0 : TwC p l s m c b G) (hdg : decode cL_law pc = .ok (.invokestatic 93, 3)) (hX : LwX G s.heap.size H cw F X) (hS : va_S (aH s.heap.size) s.heap H locs) (hl : lv_has ls 22 lv) (hcs : cells + 100 ≤ 624961 ∧ slots + 1000 ≤ 7226742) {a0 : Int32} (v : Int32) (F1 : St → Prop) (hop : ∀ st, F st → Inv st → wan (m_boiling st a0) = v ∧ F1 (m_boiling st a0).2.2)
    (kk : ∀ (H1 : Heap) (locs1 : List Loc), LwX G s.heap.size H1 cw F1 X → va_S (aH s.heap.size) s.heap H1 locs1 → W p l e room_1 s m #[Value.ref b] below meth c H1 locs1 (cells + 100) (slots + 1000) Q (F0 m (pc + 3) ls (.int v :: []))) : W p l e room_1 s m #[Value.ref b] below meth c H locs cells slots Q (F0 m pc ls (.int a0 :: .ref cw :: [])) := by
  obtain ⟨hx, hb, hml, hown, hts, hG, hb0, hl9⟩ := C0
  obtain ⟨st, ad, Mc, hF, hV, hC, rfl, hd, hP, hI⟩ := hX
  have hA : ∀ q : Nat, s.heap.size ≤ q → aH s.heap.size q := fun _ h => h
  have hPc : mP G.1 Mc H := fun a e he => hP a e (tw_r hd he)
  have hIc : mI (aH s.heap.size) Mc := fun a e he => hI a e (tw_r hd he)
  refine ls_calli (vx_runSX (As := [.ref (ad 0 0), .int a0]) (rest := []) ⟨hx, hb, hml, hown, hts⟩ (c_L_boiling l G (aS H Mc) Mc hl9 st ad a0 hC hV) (vx_cwSW 2 hts gL_law_L_boiling rfl rfl rfl (by decide +kernel) ⟨Nat.le_of_ble_eq_true rfl, Nat.le_of_ble_eq_true rfl⟩) (sPreS hG hS hPc hIc hA) rfl rfl hl.1 rfl (lv_room (Nat.le_of_ble_eq_true rfl)) hdg ⟨by show cells + 1 ≤ 624961; omega, by show slots + 6 ≤ 7226742; omega⟩) hIc hS hA (fun r M9 H1 locs1 hp hP9 hI9 hk9 hS1 => ?_)
  obtain ⟨ad1, hr, hC1, ha1⟩ := hp
  have ho := hop st hF hV
  rw [hr, ho.1]
  refine W.widen (k := cells + 100) (n := slots + 1000) (by omega) (by omega) ?_
  obtain ⟨hd1, hP1, hI1⟩ := tw_mv hS.1 hd hP hI hP9 hI9 hk9
  exact kk H1 locs1 ⟨_, ad1, M9, ho.2, (rI_boiling hV), hC1, ha1, hd1, hP1, hI1⟩ hS1
theorem lx_boiling1 (C0 : TwC p l s m c b G) (hdg : decode cL_law pc = .ok (.invokestatic 93, 3)) (hX : LwX G s.heap.size H cw F X) (hS : va_S (aH s.heap.size) s.heap H locs) (hl : lv_has ls 22 lv) (hcs : cells + 100 ≤ 624961 ∧ slots + 1000 ≤ 7226742) {x9 : Int32} {a0 : Int32} (v : Int32) (F1 : St → Prop) (hop : ∀ st, F st → Inv st → wan (m_boiling st a0) = v ∧ F1 (m_boiling st a0).2.2)
    (kk : ∀ (H1 : Heap) (locs1 : List Loc), LwX G s.heap.size H1 cw F1 X → va_S (aH s.heap.size) s.heap H1 locs1 → W p l e room_1 s m #[Value.ref b] below meth c H1 locs1 (cells + 100) (slots + 1000) Q (F0 m (pc + 3) ls (.int v :: [.int x9]))) : W p l e room_1 s m #[Value.ref b] below meth c H locs cells slots Q (F0 m pc ls (.int a0 :: .ref cw :: [.int x9])) := by
  obtain ⟨hx, hb, hml, hown, hts, hG, hb0, hl9⟩ := C0
  obtain ⟨st, ad, Mc, hF, hV, hC, rfl, hd, hP, hI⟩ := hX
  have hA : ∀ q : Nat, s.heap.size ≤ q → aH s.heap.size q := fun _ h => h
  have hPc : mP G.1 Mc H := fun a e he => hP a e (tw_r hd he)
  have hIc : mI (aH s.heap.size) Mc := fun a e he => hI a e (tw_r hd he)
  refine ls_calli (vx_runSX (As := [.ref (ad 0 0), .int a0]) (rest := [.int x9]) ⟨hx, hb, hml, hown, hts⟩ (c_L_boiling l G (aS H Mc) Mc hl9 st ad a0 hC hV) (vx_cwSW 2 hts gL_law_L_boiling rfl rfl rfl (by decide +kernel) ⟨Nat.le_of_ble_eq_true rfl, Nat.le_of_ble_eq_true rfl⟩) (sPreS hG hS hPc hIc hA) rfl rfl hl.1 rfl (lv_room (Nat.le_of_ble_eq_true rfl)) hdg ⟨by show cells + 1 ≤ 624961; omega, by show slots + 6 ≤ 7226742; omega⟩) hIc hS hA (fun r M9 H1 locs1 hp hP9 hI9 hk9 hS1 => ?_)
  obtain ⟨ad1, hr, hC1, ha1⟩ := hp
  have ho := hop st hF hV
  rw [hr, ho.1]
  refine W.widen (k := cells + 100) (n := slots + 1000) (by omega) (by omega) ?_
  obtain ⟨hd1, hP1, hI1⟩ := tw_mv hS.1 hd hP hI hP9 hI9 hk9
  exact kk H1 locs1 ⟨_, ad1, M9, ho.2, (rI_boiling hV), hC1, ha1, hd1, hP1, hI1⟩ hS1
theorem rI_barometer {st : St} {a0 a1 a2 a3 : Int32} (hV : Inv st) : Inv (m_barometer st a0 a1 a2 a3).2.2 := by
  unfold m_barometer
  first | exact chk_I hV (fun _ => hV) | exact chk_I hV (fun _ => chk_I hV (fun _ => hV)) | exact chk_I hV (fun _ => chk_I hV (fun _ => chk_I hV (fun _ => hV))) | exact chk_I hV (fun _ => chk_I hV (fun _ => chk_I hV (fun _ => chk_I hV (fun _ => hV)))) | exact chk_I hV (fun _ => chk_I hV (fun _ => chk_I hV (fun _ => chk_I hV (fun _ => chk_I hV (fun _ => hV))))) | exact chk_I hV (fun _ => chk_I hV (fun _ => chk_I hV (fun _ => chk_I hV (fun _ => chk_I hV (fun _ => chk_I hV (fun _ => hV))))))
theorem lx_barometer0 (C0 : TwC p l s m c b G) (hdg : decode cL_law pc = .ok (.invokestatic 91, 3)) (hX : LwX G s.heap.size H cw F X) (hS : va_S (aH s.heap.size) s.heap H locs) (hl : lv_has ls 22 lv) (hcs : cells + 100 ≤ 624961 ∧ slots + 1000 ≤ 7226742) {a0 a1 a2 a3 : Int32} (v : Int32) (F1 : St → Prop) (hop : ∀ st, F st → Inv st → wan (m_barometer st a0 a1 a2 a3) = v ∧ F1 (m_barometer st a0 a1 a2 a3).2.2)
    (kk : ∀ (H1 : Heap) (locs1 : List Loc), LwX G s.heap.size H1 cw F1 X → va_S (aH s.heap.size) s.heap H1 locs1 → W p l e room_1 s m #[Value.ref b] below meth c H1 locs1 (cells + 100) (slots + 1000) Q (F0 m (pc + 3) ls (.int v :: []))) : W p l e room_1 s m #[Value.ref b] below meth c H locs cells slots Q (F0 m pc ls (.int a3 :: .int a2 :: .int a1 :: .int a0 :: .ref cw :: [])) := by
  obtain ⟨hx, hb, hml, hown, hts, hG, hb0, hl9⟩ := C0
  obtain ⟨st, ad, Mc, hF, hV, hC, rfl, hd, hP, hI⟩ := hX
  have hA : ∀ q : Nat, s.heap.size ≤ q → aH s.heap.size q := fun _ h => h
  have hPc : mP G.1 Mc H := fun a e he => hP a e (tw_r hd he)
  have hIc : mI (aH s.heap.size) Mc := fun a e he => hI a e (tw_r hd he)
  refine ls_calli (vx_runSX (As := [.ref (ad 0 0), .int a0, .int a1, .int a2, .int a3]) (rest := []) ⟨hx, hb, hml, hown, hts⟩ (c_L_barometer l G (aS H Mc) Mc hl9 st ad a0 a1 a2 a3 hC hV) (vx_cwSW 5 hts gL_law_L_barometer rfl rfl rfl (by decide +kernel) ⟨Nat.le_of_ble_eq_true rfl, Nat.le_of_ble_eq_true rfl⟩) (sPreS hG hS hPc hIc hA) rfl rfl hl.1 rfl (lv_room (Nat.le_of_ble_eq_true rfl)) hdg ⟨by show cells + 4 ≤ 624961; omega, by show slots + 24 ≤ 7226742; omega⟩) hIc hS hA (fun r M9 H1 locs1 hp hP9 hI9 hk9 hS1 => ?_)
  obtain ⟨ad1, hr, hC1, ha1⟩ := hp
  have ho := hop st hF hV
  rw [hr, ho.1]
  refine W.widen (k := cells + 100) (n := slots + 1000) (by omega) (by omega) ?_
  obtain ⟨hd1, hP1, hI1⟩ := tw_mv hS.1 hd hP hI hP9 hI9 hk9
  exact kk H1 locs1 ⟨_, ad1, M9, ho.2, (rI_barometer hV), hC1, ha1, hd1, hP1, hI1⟩ hS1
theorem lx_barometer1 (C0 : TwC p l s m c b G) (hdg : decode cL_law pc = .ok (.invokestatic 91, 3)) (hX : LwX G s.heap.size H cw F X) (hS : va_S (aH s.heap.size) s.heap H locs) (hl : lv_has ls 22 lv) (hcs : cells + 100 ≤ 624961 ∧ slots + 1000 ≤ 7226742) {x9 : Int32} {a0 a1 a2 a3 : Int32} (v : Int32) (F1 : St → Prop) (hop : ∀ st, F st → Inv st → wan (m_barometer st a0 a1 a2 a3) = v ∧ F1 (m_barometer st a0 a1 a2 a3).2.2)
    (kk : ∀ (H1 : Heap) (locs1 : List Loc), LwX G s.heap.size H1 cw F1 X → va_S (aH s.heap.size) s.heap H1 locs1 → W p l e room_1 s m #[Value.ref b] below meth c H1 locs1 (cells + 100) (slots + 1000) Q (F0 m (pc + 3) ls (.int v :: [.int x9]))) : W p l e room_1 s m #[Value.ref b] below meth c H locs cells slots Q (F0 m pc ls (.int a3 :: .int a2 :: .int a1 :: .int a0 :: .ref cw :: [.int x9])) := by
  obtain ⟨hx, hb, hml, hown, hts, hG, hb0, hl9⟩ := C0
  obtain ⟨st, ad, Mc, hF, hV, hC, rfl, hd, hP, hI⟩ := hX
  have hA : ∀ q : Nat, s.heap.size ≤ q → aH s.heap.size q := fun _ h => h
  have hPc : mP G.1 Mc H := fun a e he => hP a e (tw_r hd he)
  have hIc : mI (aH s.heap.size) Mc := fun a e he => hI a e (tw_r hd he)
  refine ls_calli (vx_runSX (As := [.ref (ad 0 0), .int a0, .int a1, .int a2, .int a3]) (rest := [.int x9]) ⟨hx, hb, hml, hown, hts⟩ (c_L_barometer l G (aS H Mc) Mc hl9 st ad a0 a1 a2 a3 hC hV) (vx_cwSW 5 hts gL_law_L_barometer rfl rfl rfl (by decide +kernel) ⟨Nat.le_of_ble_eq_true rfl, Nat.le_of_ble_eq_true rfl⟩) (sPreS hG hS hPc hIc hA) rfl rfl hl.1 rfl (lv_room (Nat.le_of_ble_eq_true rfl)) hdg ⟨by show cells + 4 ≤ 624961; omega, by show slots + 24 ≤ 7226742; omega⟩) hIc hS hA (fun r M9 H1 locs1 hp hP9 hI9 hk9 hS1 => ?_)
  obtain ⟨ad1, hr, hC1, ha1⟩ := hp
  have ho := hop st hF hV
  rw [hr, ho.1]
  refine W.widen (k := cells + 100) (n := slots + 1000) (by omega) (by omega) ?_
  obtain ⟨hd1, hP1, hI1⟩ := tw_mv hS.1 hd hP hI hP9 hI9 hk9
  exact kk H1 locs1 ⟨_, ad1, M9, ho.2, (rI_barometer hV), hC1, ha1, hd1, hP1, hI1⟩ hS1
theorem lx_sound (C0 : TwC p l s m c b G) (hdg : decode cL_law pc = .ok (.invokevirtual 98, 3)) (hX : LwX G s.heap.size H cw F X) (hS : va_S (aH s.heap.size) s.heap H locs) (hl : lv_has ls 22 lv) (hcs : cells ≤ 624961 ∧ slots ≤ 7226742)
    (kk : ∀ (H1 : Heap) (locs1 : List Loc), va_S (aH s.heap.size) s.heap H1 locs1 → W p l e room_1 s m #[Value.ref b] below meth c H1 locs1 cells slots Q (F0 m (pc + 3) ls (.int 1 :: []))) : W p l e room_1 s m #[Value.ref b] below meth c H locs cells slots Q (F0 m pc ls (.ref cw :: [])) := by
  obtain ⟨hx, hb, hml, hown, hts, hG, hb0, hl9⟩ := C0
  obtain ⟨st, ad, Mc, hF, hV, hC, rfl, hd, hP, hI⟩ := hX
  have hA : ∀ q : Nat, s.heap.size ≤ q → aH s.heap.size q := fun _ h => h
  have hPc : mP G.1 Mc H := fun a e he => hP a e (tw_r hd he)
  have hIc : mI (aH s.heap.size) Mc := fun a e he => hI a e (tw_r hd he)
  refine lm_calli (va_runV (As := []) (rest := []) ⟨hx, hb, hml, hown, hts⟩ (c_X4_isSound l G (aS H Mc) Mc st ad hC hV) (cwV 0 hts gL_law_X4_isSound rfl rfl rfl (by decide +kernel) ⟨Nat.le_of_ble_eq_true rfl, Nat.le_of_ble_eq_true rfl⟩) (sPreV hG hS hPc hIc hA (hPc (ad 0 0) _ (hC.1 0 0 (ok0 st))) (r := (RX4, TX4, 9)) rfl) rfl rfl hl.1 rfl (lv_room (Nat.le_of_ble_eq_true rfl)) hdg ⟨by show cells + 0 ≤ 624961; omega, by show slots + 0 ≤ 7226742; omega⟩) hIc hS hA (fun r M9 H1 locs1 hp hP9 hI9 hk9 hS1 => ?_)
  obtain ⟨hr, -⟩ := hp
  subst hr
  exact kk H1 locs1 hS1
end LX
end
