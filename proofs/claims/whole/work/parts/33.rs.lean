/-! ===== how the reference holds the state ===== -/
/-- addresses; which arrays are there; mod counts; certificates; the Integers of readings and of heats; what was thrown -/
abbrev gR : Type := adr × (Nat → Nat → Nat) × (Nat → Nat → Int32) × (Nat → Int32) × (Nat → Nat → Nat) × (Nat → Nat → Nat) × Int32
abbrev flR (g : gR) : Nat → Nat → Nat := g.2.1
abbrev mcR (g : gR) : Nat → Nat → Int32 := g.2.2.1
abbrev ceR (g : gR) : Nat → Int32 := g.2.2.2.1
abbrev ivR (g : gR) : Nat → Nat → Nat := g.2.2.2.2.1
abbrev ihR (g : gR) : Nat → Nat → Nat := g.2.2.2.2.2.1
abbrev thR (g : gR) : Int32 := g.2.2.2.2.2.2
abbrev tG (g : gR) (k : Int32) : gR := (g.1, g.2.1, g.2.2.1, g.2.2.2.1, g.2.2.2.2.1, g.2.2.2.2.2.1, k)
abbrev cG (g : gR) (c : Nat → Int32) (k : Int32) : gR := (g.1, g.2.1, g.2.2.1, c, g.2.2.2.2.1, g.2.2.2.2.2.1, k)
def celI (s : St) (g : gR) (i : Nat) : va_E := .inr (8, [.ref (g.1 5 (tbN s i)), .int (itS s i 1), .int (sof (itS s i 2)), .int (itS s i 3), .int (itS s i 7), .int (itS s i 6), .int (itS s i 5), .int (itS s i 12), .int (itS s i 13), .int (itS s i 14), .int (itS s i 15), .int (itS s i 8), .int (itS s i 9), .int (itS s i 10), .int (ceR g i), .ref (g.1 8 i), .ref (g.1 9 i)])
/-- the reference's cells: 0 the model, 1, 2 the lists, 3, 4 their arrays, 5 a tube, 6 its bores, 7 an instrument, 8, 9 its lists, 10, 11 their arrays -/
def celR (G : mg) (s : St) (g : gR) : Nat → Nat → va_E
  | 0, _ => .inr (10, [.ref (g.1 1 0), .ref (g.1 2 0), .int (gS s 2), .int (gS s 3), .int (gS s 1), .int (gS s 0), .int (thR g)])
  | 1, _ => .inr (2, [.int (mcR g 1 0), .ref (g.1 3 0), .int (nI (nT s))])
  | 2, _ => .inr (2, [.int (mcR g 2 0), .ref (g.1 4 0), .int (nI (nN s))])
  | 3, _ => .inl (G.2.1 5, 10, .inr (.inr (.inr (.inr (qf (nT s) (g.1 5))))))
  | 4, _ => .inl (G.2.1 5, 10, .inr (.inr (.inr (.inr (qf (nN s) (g.1 7))))))
  | 5, i => .inr (9, [.ref (g.1 6 i), .int (usS s i)])
  | 6, i => .inl (G.2.1 0, 20, .inl (boS s i))
  | 7, i => celI s g i
  | 8, i => .inr (2, [.int (mcR g 8 i), .ref (g.1 10 i), .int (nI (rnS s i))])
  | 9, i => .inr (2, [.int (mcR g 9 i), .ref (g.1 11 i), .int (nI (rnS s i))])
  | 10, i => .inl (G.2.1 5, 10, .inr (.inr (.inr (.inr (qf (rnS s i) (ivR g i))))))
  | _, i => .inl (G.2.1 5, 10, .inr (.inr (.inr (.inr (qf (rnS s i) (ihR g i))))))
theorem celR_0 (G : mg) (s : St) (g : gR) (i : Nat) : celR G s g 0 i = .inr (10, [.ref (g.1 1 0), .ref (g.1 2 0), .int (gS s 2), .int (gS s 3), .int (gS s 1), .int (gS s 0), .int (thR g)]) := rfl
theorem celR_1 (G : mg) (s : St) (g : gR) (i : Nat) : celR G s g 1 i = .inr (2, [.int (mcR g 1 0), .ref (g.1 3 0), .int (nI (nT s))]) := rfl
theorem celR_2 (G : mg) (s : St) (g : gR) (i : Nat) : celR G s g 2 i = .inr (2, [.int (mcR g 2 0), .ref (g.1 4 0), .int (nI (nN s))]) := rfl
theorem celR_3 (G : mg) (s : St) (g : gR) (i : Nat) : celR G s g 3 i = .inl (G.2.1 5, 10, .inr (.inr (.inr (.inr (qf (nT s) (g.1 5)))))) := rfl
theorem celR_4 (G : mg) (s : St) (g : gR) (i : Nat) : celR G s g 4 i = .inl (G.2.1 5, 10, .inr (.inr (.inr (.inr (qf (nN s) (g.1 7)))))) := rfl
theorem celR_5 (G : mg) (s : St) (g : gR) (i : Nat) : celR G s g 5 i = .inr (9, [.ref (g.1 6 i), .int (usS s i)]) := rfl
theorem celR_6 (G : mg) (s : St) (g : gR) (i : Nat) : celR G s g 6 i = .inl (G.2.1 0, 20, .inl (boS s i)) := rfl
theorem celR_7 (G : mg) (s : St) (g : gR) (i : Nat) : celR G s g 7 i = celI s g i := rfl
theorem celR_8 (G : mg) (s : St) (g : gR) (i : Nat) : celR G s g 8 i = .inr (2, [.int (mcR g 8 i), .ref (g.1 10 i), .int (nI (rnS s i))]) := rfl
theorem celR_9 (G : mg) (s : St) (g : gR) (i : Nat) : celR G s g 9 i = .inr (2, [.int (mcR g 9 i), .ref (g.1 11 i), .int (nI (rnS s i))]) := rfl
theorem celR_10 (G : mg) (s : St) (g : gR) (i : Nat) : celR G s g 10 i = .inl (G.2.1 5, 10, .inr (.inr (.inr (.inr (qf (rnS s i) (ivR g i)))))) := rfl
theorem celR_11 (G : mg) (s : St) (g : gR) (k i : Nat) : celR G s g (k + 11) i = .inl (G.2.1 5, 10, .inr (.inr (.inr (.inr (qf (rnS s i) (ihR g i)))))) := rfl
theorem celR_kd (G : mg) (s : St) (g : gR) (k i : Nat) : kd (celR G s g k i) ≠ 5 := by
  match k with
  | 0 => exact fun h => absurd (show (15 : Nat) = 5 from h) (by omega)
  | 1 | 2 | 8 | 9 => exact fun h => absurd (show (7 : Nat) = 5 from h) (by omega)
  | 3 | 4 | 10 => exact fun h => absurd (show (4 : Nat) = 5 from h) (by omega)
  | 5 => exact fun h => absurd (show (14 : Nat) = 5 from h) (by omega)
  | 6 => exact fun h => absurd (show (0 : Nat) = 5 from h) (by omega)
  | 7 => exact fun h => absurd (show (13 : Nat) = 5 from h) (by omega)
  | (k + 11) => exact fun h => absurd (show (4 : Nat) = 5 from h) (by omega)
def okR (s : St) (fl : Nat → Nat → Nat) (k i : Nat) : Prop := (k < 5 ∧ i = 0 ∧ (3 ≤ k → fl k 0 = 1)) ∨ ((k = 5 ∨ k = 6) ∧ i < nT s) ∨ ((7 ≤ k ∧ k ≤ 11) ∧ i < nN s ∧ (10 ≤ k → fl 10 i = 1))
abbrev IC (G : mg) (M : mw) (y : Nat) (v : Int32) : Prop := M y = some (.inr (0, [.int v])) ∨ G.2.2.1 y = some (.inr (0, [.int v]))
def sdR (G : mg) (s : St) (g : gR) (M : mw) : Prop :=
  (flR g 3 0 = 1 ∨ (g.1 3 0 = G.2.2.2 1 ∧ nT s = 0)) ∧ (flR g 4 0 = 1 ∨ (g.1 4 0 = G.2.2.2 1 ∧ nN s = 0)) ∧
  ∀ i, i < nN s → (flR g 10 i = 1 ∨ (g.1 10 i = G.2.2.2 1 ∧ g.1 11 i = G.2.2.2 1 ∧ rnS s i = 0)) ∧ (itS s i 5 = 0 → ceR g i = itS s i 11) ∧ ∀ j, j < rnS s i → IC G M (ivR g i j) (rvS s i j) ∧ IC G M (ihR g i j) (rhS s i j)
def RS (G : mg) (s : St) (g : gR) (M : mw) : Prop := (∀ k i, okR s g.2.1 k i → M (g.1 k i) = some (celR G s g k i)) ∧ (∀ k i k' i', okR s g.2.1 k i → okR s g.2.1 k' i' → g.1 k i = g.1 k' i' → k = k' ∧ i = i') ∧ sdR G s g M
theorem ro0 {s : St} {fl : Nat → Nat → Nat} : okR s fl 0 0 := Or.inl ⟨by omega, rfl, fun h => absurd h (by omega)⟩
theorem ro1 {s : St} {fl : Nat → Nat → Nat} : okR s fl 1 0 := Or.inl ⟨by omega, rfl, fun h => absurd h (by omega)⟩
theorem ro2 {s : St} {fl : Nat → Nat → Nat} : okR s fl 2 0 := Or.inl ⟨by omega, rfl, fun h => absurd h (by omega)⟩
theorem ro3 {s : St} {fl : Nat → Nat → Nat} (h : fl 3 0 = 1) : okR s fl 3 0 := Or.inl ⟨by omega, rfl, fun _ => h⟩
theorem ro4 {s : St} {fl : Nat → Nat → Nat} (h : fl 4 0 = 1) : okR s fl 4 0 := Or.inl ⟨by omega, rfl, fun _ => h⟩
theorem ro5 {s : St} {fl : Nat → Nat → Nat} {i : Nat} (h : i < nT s) : okR s fl 5 i := Or.inr (Or.inl ⟨Or.inl rfl, h⟩)
theorem ro6 {s : St} {fl : Nat → Nat → Nat} {i : Nat} (h : i < nT s) : okR s fl 6 i := Or.inr (Or.inl ⟨Or.inr rfl, h⟩)
theorem ro7 {s : St} {fl : Nat → Nat → Nat} {i : Nat} (h : i < nN s) : okR s fl 7 i := Or.inr (Or.inr ⟨⟨by omega, by omega⟩, h, fun q => absurd q (by omega)⟩)
theorem ro8 {s : St} {fl : Nat → Nat → Nat} {i : Nat} (h : i < nN s) : okR s fl 8 i := Or.inr (Or.inr ⟨⟨by omega, by omega⟩, h, fun q => absurd q (by omega)⟩)
theorem ro9 {s : St} {fl : Nat → Nat → Nat} {i : Nat} (h : i < nN s) : okR s fl 9 i := Or.inr (Or.inr ⟨⟨by omega, by omega⟩, h, fun q => absurd q (by omega)⟩)
theorem ro10 {s : St} {fl : Nat → Nat → Nat} {i : Nat} (h : i < nN s) (hf : fl 10 i = 1) : okR s fl 10 i := Or.inr (Or.inr ⟨⟨by omega, by omega⟩, h, fun _ => hf⟩)
theorem ro11 {s : St} {fl : Nat → Nat → Nat} {i : Nat} (h : i < nN s) (hf : fl 10 i = 1) : okR s fl 11 i := Or.inr (Or.inr ⟨⟨by omega, by omega⟩, h, fun _ => hf⟩)
theorem RS.ne {G : mg} {s : St} {g : gR} {M : mw} (h : RS G s g M) {k i k' i' : Nat} (h1 : okR s g.2.1 k i) (h2 : okR s g.2.1 k' i') (hn : k ≠ k') : g.1 k i ≠ g.1 k' i' := fun q => hn (h.2.1 k i k' i' h1 h2 q).1
theorem RS.f3 {G : mg} {s : St} {g : gR} {M : mw} (h : RS G s g M) {i : Nat} (hi : i < nT s) : flR g 3 0 = 1 := h.2.2.1.resolve_right (fun q => by omega)
theorem RS.f4 {G : mg} {s : St} {g : gR} {M : mw} (h : RS G s g M) {i : Nat} (hi : i < nN s) : flR g 4 0 = 1 := h.2.2.2.1.resolve_right (fun q => by omega)
theorem RS.f10 {G : mg} {s : St} {g : gR} {M : mw} (h : RS G s g M) {i : Nat} (hi : i < nN s) (hr : rnS s i ≠ 0) : flR g 10 i = 1 := (h.2.2.2.2 i hi).1.resolve_right (fun q => hr q.2.2)
/-- a cell of an Integer is none of those that change -/
theorem IC.next {G : mg} {s : St} {g : gR} {M M1 : mw} (h : ∀ k i, okR s g.2.1 k i → M (g.1 k i) = some (celR G s g k i)) {r1 : adr} (L : List (Nat × Nat)) (hf : ∀ x e, M x = some e → (∀ q ∈ L, x ≠ r1 q.1 q.2) → M1 x = some e) (hd : ∀ q ∈ L, (okR s g.2.1 q.1 q.2 ∧ r1 q.1 q.2 = g.1 q.1 q.2) ∨ M (r1 q.1 q.2) = none) {y : Nat} {v : Int32} (hy : IC G M y v) : IC G M1 y v := by
  rcases hy with hy | hy
  · refine Or.inl (hf _ _ hy (fun q hq e => ?_))
    rcases hd q hq with ⟨h1, h2⟩ | h1
    · rw [e, h2, h _ _ h1] at hy
      exact celR_kd G s g q.1 q.2 (by rw [Option.some.inj hy]; rfl)
    · rw [e, h1] at hy
      cases hy
  · exact Or.inr hy
theorem RS.next {G : mg} {s s1 : St} {g g1 : gR} {M M1 : mw} (h : RS G s g M) (L : List (Nat × Nat))
    (h1 : ∀ q ∈ L, M1 (g1.1 q.1 q.2) = some (celR G s1 g1 q.1 q.2))
    (hf : ∀ x e, M x = some e → (∀ q ∈ L, x ≠ g1.1 q.1 q.2) → M1 x = some e)
    (hok : ∀ k i, okR s1 g1.2.1 k i → (k, i) ∉ L → okR s g.2.1 k i ∧ g1.1 k i = g.1 k i ∧ celR G s1 g1 k i = celR G s g k i)
    (hd : ∀ q ∈ L, (okR s g.2.1 q.1 q.2 ∧ g1.1 q.1 q.2 = g.1 q.1 q.2) ∨ M (g1.1 q.1 q.2) = none)
    (hn : ∀ q ∈ L, ∀ q2 ∈ L, M (g1.1 q.1 q.2) = none → M (g1.1 q2.1 q2.2) = none → g1.1 q.1 q.2 = g1.1 q2.1 q2.2 → q = q2)
    (hs : sdR G s1 g1 M1) : RS G s1 g1 M1 := by
  have key : ∀ k i, okR s1 g1.2.1 k i → (k, i) ∉ L → ∀ q ∈ L, g1.1 k i ≠ g1.1 q.1 q.2 := fun k i ho hl q hq e => by
    obtain ⟨o2, a2, -⟩ := hok k i ho hl
    rcases hd q hq with ⟨z1, z2⟩ | z1
    · rw [a2, z2] at e
      obtain ⟨e1, e2⟩ := h.2.1 _ _ _ _ o2 z1 e
      exact hl (by rw [e1, e2]; exact hq)
    · rw [a2] at e
      rw [← e, h.1 _ _ o2] at z1
      cases z1
  refine ⟨fun k i ho => ?_, fun k i k' i' ho ho' e => ?_, hs⟩
  · by_cases z : (k, i) ∈ L
    · exact h1 _ z
    · obtain ⟨o2, a2, c2⟩ := hok k i ho z
      have hk := key k i ho z
      rw [a2] at hk
      rw [a2, c2]
      exact hf _ _ (h.1 k i o2) hk
  · by_cases z : (k, i) ∈ L
    · by_cases z' : (k', i') ∈ L
      · have fin : ((k, i) : Nat × Nat) = (k', i') → k = k' ∧ i = i' := fun q => ⟨congrArg Prod.fst q, congrArg Prod.snd q⟩
        rcases hd _ z with ⟨p1, p2⟩ | p1
        · rcases hd _ z' with ⟨q1, q2⟩ | q1
          · rw [p2, q2] at e
            exact h.2.1 _ _ _ _ p1 q1 e
          · rw [p2] at e
            rw [← e, h.1 _ _ p1] at q1
            cases q1
        · rcases hd _ z' with ⟨q1, q2⟩ | q1
          · rw [q2] at e
            rw [e, h.1 _ _ q1] at p1
            cases p1
          · exact fin (hn _ z _ z' p1 q1 e)
      · exact absurd e.symm (key k' i' ho' z' _ z)
    · by_cases z' : (k', i') ∈ L
      · exact absurd e (key k i ho z _ z')
      · obtain ⟨o2, a2, -⟩ := hok k i ho z
        obtain ⟨o3, a3, -⟩ := hok k' i' ho' z'
        rw [a2, a3] at e
        exact h.2.1 _ _ _ _ o2 o3 e
/-- cells change in their places: the lists stay -/
theorem RS.put {G : mg} {s s1 : St} {g g1 : gR} {M M1 : mw} (h : RS G s g M) (hT : nT s1 = nT s) (hN : nN s1 = nN s) (hr : rnS s1 = rnS s) (hv : rvS s1 = rvS s) (hh : rhS s1 = rhS s) (ha : g1.1 = g.1) (hfl : g1.2.1 = g.2.1) (hiv : ivR g1 = ivR g) (hih : ihR g1 = ihR g) (L : List (Nat × Nat)) (hL : ∀ q ∈ L, okR s g.2.1 q.1 q.2)
    (h1 : ∀ q ∈ L, M1 (g.1 q.1 q.2) = some (celR G s1 g1 q.1 q.2)) (hf : ∀ x e, M x = some e → (∀ q ∈ L, x ≠ g.1 q.1 q.2) → M1 x = some e) (hok : ∀ k i, okR s g.2.1 k i → (k, i) ∉ L → celR G s1 g1 k i = celR G s g k i) (hce : ∀ i, i < nN s → itS s1 i 5 = 0 → ceR g1 i = itS s1 i 11) : RS G s1 g1 M1 := by
  have hoks : ∀ k i, okR s1 g1.2.1 k i → okR s g.2.1 k i := fun k i q => by
    unfold okR at q ⊢
    rw [hT, hN, hfl] at q
    exact q
  have hd : ∀ q ∈ L, (okR s g.2.1 q.1 q.2 ∧ g1.1 q.1 q.2 = g.1 q.1 q.2) ∨ M (g1.1 q.1 q.2) = none := fun q hq => Or.inl ⟨hL q hq, by rw [ha]⟩
  have hf' : ∀ x e, M x = some e → (∀ q ∈ L, x ≠ g1.1 q.1 q.2) → M1 x = some e := by rw [ha]; exact hf
  refine h.next L (by rw [ha]; exact h1) hf' (fun k i q hn => ⟨hoks k i q, by rw [ha], hok k i (hoks k i q) hn⟩) hd (fun q hq q2 hq2 z => ?_) ?_
  · rw [ha, h.1 _ _ (hL q hq)] at z
    cases z
  · obtain ⟨s1', s2', s3'⟩ := h.2.2
    refine ⟨?_, ?_, fun i hi => ?_⟩
    · show g1.2.1 3 0 = 1 ∨ _
      rw [ha, hfl, hT]
      exact s1'
    · show g1.2.1 4 0 = 1 ∨ _
      rw [ha, hfl, hN]
      exact s2'
    · rw [hN] at hi
      obtain ⟨t1, t2, t3⟩ := s3' i hi
      refine ⟨?_, hce i hi, fun j hj => ?_⟩
      · show g1.2.1 10 i = 1 ∨ _
        rw [ha, hfl, hr]
        exact t1
      · rw [hr] at hj
        rw [hiv, hih, hv, hh]
        exact ⟨IC.next h.1 L hf' hd (t3 j hj).1, IC.next h.1 L hf' hd (t3 j hj).2⟩
theorem celI_s {s s1 : St} {g g1 : gR} {i : Nat} {gi : Nat → Int32} (e : itS s1 i = gi) (h0 : gi 0 = itS s i 0) (ha : g1.1 = g.1) {c : Int32} (hc : ceR g1 i = c) : celI s1 g1 i = .inr (8, [.ref (g.1 5 (tbN s i)), .int (gi 1), .int (sof (gi 2)), .int (gi 3), .int (gi 7), .int (gi 6), .int (gi 5), .int (gi 12), .int (gi 13), .int (gi 14), .int (gi 15), .int (gi 8), .int (gi 9), .int (gi 10), .int c, .ref (g.1 8 i), .ref (g.1 9 i)]) := by
  unfold celI tbN
  rw [e, h0, ha, hc]
theorem celI_o {s s1 : St} {g g1 : gR} {i : Nat} (e : itS s1 i = itS s i) (ha : g1.1 = g.1) (hc : ceR g1 i = ceR g i) : celI s1 g1 i = celI s g i := by
  unfold celI tbN
  rw [e, ha, hc]
/-- globals and what was thrown -/
theorem RS.gl {G : mg} {s : St} {g : gR} {M M1 : mw} (h : RS G s g M) (gl : Nat → Int32) (k : Int32) (hX : M1 (g.1 0 0) = some (.inr (10, [.ref (g.1 1 0), .ref (g.1 2 0), .int (gl 2), .int (gl 3), .int (gl 1), .int (gl 0), .int k]))) (hf : ∀ x e, M x = some e → x ≠ g.1 0 0 → M1 x = some e) : RS G (gl, s.2) (tG g k) M1 := by
  refine h.put (s1 := (gl, s.2)) (g1 := tG g k) rfl rfl rfl rfl rfl rfl rfl rfl rfl [(0, 0)] (fun q hq => ?_) (fun q hq => ?_) (fun x e hx hq => hf x e hx (hq (0, 0) List.mem_cons_self)) (fun k' i' hk hn => ?_) (fun i hi q => (h.2.2.2.2 i hi).2.1 q)
  · cases List.mem_singleton.mp hq
    exact ro0
  · cases List.mem_singleton.mp hq
    exact hX
  · match k', hk, hn with
    | 0, hk, hn =>
      rcases hk with ⟨-, rfl, -⟩ | ⟨q, -⟩ | ⟨q, -⟩
      · exact absurd List.mem_cons_self hn
      · omega
      · omega
    | 1, _, _ => first | (rw [celR_1, celR_1]; done) | (rw [celR_1, celR_1]; rfl)
    | 2, _, _ => first | (rw [celR_2, celR_2]; done) | (rw [celR_2, celR_2]; rfl)
    | 3, _, _ => first | (rw [celR_3, celR_3]; done) | (rw [celR_3, celR_3]; rfl)
    | 4, _, _ => first | (rw [celR_4, celR_4]; done) | (rw [celR_4, celR_4]; rfl)
    | 5, _, _ => first | (rw [celR_5, celR_5]; done) | (rw [celR_5, celR_5]; rfl)
    | 6, _, _ => first | (rw [celR_6, celR_6]; done) | (rw [celR_6, celR_6]; rfl)
    | 7, _, _ => first | (rw [celR_7, celR_7]; done) | (rw [celR_7, celR_7]; rfl)
    | 8, _, _ => first | (rw [celR_8, celR_8]; done) | (rw [celR_8, celR_8]; rfl)
    | 9, _, _ => first | (rw [celR_9, celR_9]; done) | (rw [celR_9, celR_9]; rfl)
    | 10, _, _ => first | (rw [celR_10, celR_10]; done) | (rw [celR_10, celR_10]; rfl)
    | (k + 11), _, _ => first | (rw [celR_11, celR_11]; done) | (rw [celR_11, celR_11]; rfl)
theorem RS.th {G : mg} {s : St} {g : gR} {M M1 : mw} (h : RS G s g M) (k : Int32) (hX : M1 (g.1 0 0) = some (.inr (10, [.ref (g.1 1 0), .ref (g.1 2 0), .int (gS s 2), .int (gS s 3), .int (gS s 1), .int (gS s 0), .int k]))) (hf : ∀ x e, M x = some e → x ≠ g.1 0 0 → M1 x = some e) : RS G s (tG g k) M1 := h.gl (gS s) k hX hf
/-- an instrument, globals, what was thrown -/
theorem RS.io {G : mg} {s : St} {g : gR} {M M1 : mw} (h : RS G s g M) {i : Nat} (hi : i < nN s) (gl gi : Nat → Int32) (h0 : gi 0 = itS s i 0) (c k : Int32) (hX : M1 (g.1 0 0) = some (.inr (10, [.ref (g.1 1 0), .ref (g.1 2 0), .int (gl 2), .int (gl 3), .int (gl 1), .int (gl 0), .int k])))
    (hI : M1 (g.1 7 i) = some (.inr (8, [.ref (g.1 5 (tbN s i)), .int (gi 1), .int (sof (gi 2)), .int (gi 3), .int (gi 7), .int (gi 6), .int (gi 5), .int (gi 12), .int (gi 13), .int (gi 14), .int (gi 15), .int (gi 8), .int (gi 9), .int (gi 10), .int c, .ref (g.1 8 i), .ref (g.1 9 i)])))
    (hf : ∀ x e, M x = some e → x ≠ g.1 0 0 → x ≠ g.1 7 i → M1 x = some e) (hc : gi 5 = 0 → c = gi 11) : RS G (sIt (gl, s.2) i gi) (cG g (fu (ceR g) i c) k) M1 := by
  have e7 : itS (sIt (gl, s.2) i gi) i = gi := fu_s
  have c7 : ceR (cG g (fu (ceR g) i c) k) i = c := fu_s
  refine h.put (s1 := sIt (gl, s.2) i gi) (g1 := cG g (fu (ceR g) i c) k) rfl rfl rfl rfl rfl rfl rfl rfl rfl [(0, 0), (7, i)] (fun q hq => ?_) (fun q hq => ?_) (fun x e hx hq => hf x e hx (hq (0, 0) (by simp)) (hq (7, i) (by simp))) (fun k' i' hk hn => ?_) (fun i' hi' q => ?_)
  · simp only [List.mem_cons, List.not_mem_nil, or_false] at hq
    rcases hq with rfl | rfl
    · exact ro0
    · exact ro7 hi
  · simp only [List.mem_cons, List.not_mem_nil, or_false] at hq
    rcases hq with rfl | rfl
    · exact hX
    · exact hI.trans (congrArg some (celI_s (s := s) (s1 := sIt (gl, s.2) i gi) (g := g) (g1 := cG g (fu (ceR g) i c) k) e7 h0 rfl c7).symm)
  · simp only [List.mem_cons, List.not_mem_nil, or_false, not_or, Prod.mk.injEq, not_and] at hn
    match k', hk, hn with
    | 0, hk, hn =>
      rcases hk with ⟨-, rfl, -⟩ | ⟨q, -⟩ | ⟨q, -⟩
      · exact absurd rfl (hn.1 rfl)
      · omega
      · omega
    | 7, _, hn => rw [celR_7, celR_7]; exact celI_o (fu_o (hn.2 rfl)) rfl (fu_o (hn.2 rfl))
    | 1, _, _ => first | (rw [celR_1, celR_1]; done) | (rw [celR_1, celR_1]; rfl)
    | 2, _, _ => first | (rw [celR_2, celR_2]; done) | (rw [celR_2, celR_2]; rfl)
    | 3, _, _ => first | (rw [celR_3, celR_3]; done) | (rw [celR_3, celR_3]; rfl)
    | 4, _, _ => first | (rw [celR_4, celR_4]; done) | (rw [celR_4, celR_4]; rfl)
    | 5, _, _ => first | (rw [celR_5, celR_5]; done) | (rw [celR_5, celR_5]; rfl)
    | 6, _, _ => first | (rw [celR_6, celR_6]; done) | (rw [celR_6, celR_6]; rfl)
    | 8, _, _ => first | (rw [celR_8, celR_8]; done) | (rw [celR_8, celR_8]; rfl)
    | 9, _, _ => first | (rw [celR_9, celR_9]; done) | (rw [celR_9, celR_9]; rfl)
    | 10, _, _ => first | (rw [celR_10, celR_10]; done) | (rw [celR_10, celR_10]; rfl)
    | (k + 11), _, _ => first | (rw [celR_11, celR_11]; done) | (rw [celR_11, celR_11]; rfl)
  · by_cases z : i' = i
    · subst z
      rw [e7] at q ⊢
      rw [c7]
      exact hc q
    · have e2 : itS (sIt (gl, s.2) i gi) i' = itS s i' := fu_o z
      have c2 : ceR (cG g (fu (ceR g) i c) k) i' = ceR g i' := fu_o z
      rw [e2] at q ⊢
      rw [c2]
      exact (h.2.2.2.2 i' hi').2.1 q
/-- bores of a tube -/
theorem RS.bo {G : mg} {s : St} {g : gR} {M M1 : mw} (h : RS G s g M) {i : Nat} (hi : i < nT s) (p v k : Int32) (hX : M1 (g.1 0 0) = some (.inr (10, [.ref (g.1 1 0), .ref (g.1 2 0), .int (gS s 2), .int (gS s 3), .int (gS s 1), .int (gS s 0), .int k])))
    (hB : M1 (g.1 6 i) = some (.inl (G.2.1 0, 20, .inl (upd (boS s i) (ix p) v)))) (hf : ∀ x e, M x = some e → x ≠ g.1 0 0 → x ≠ g.1 6 i → M1 x = some e) : RS G (setB s i p v) (tG g k) M1 := by
  refine h.put (s1 := setB s i p v) (g1 := tG g k) rfl rfl rfl rfl rfl rfl rfl rfl rfl [(0, 0), (6, i)] (fun q hq => ?_) (fun q hq => ?_) (fun x e hx hq => hf x e hx (hq (0, 0) (by simp)) (hq (6, i) (by simp))) (fun k' i' hk hn => ?_) (fun i' hi' q => (h.2.2.2.2 i' hi').2.1 q)
  · simp only [List.mem_cons, List.not_mem_nil, or_false] at hq
    rcases hq with rfl | rfl
    · exact ro0
    · exact ro6 hi
  · simp only [List.mem_cons, List.not_mem_nil, or_false] at hq
    rcases hq with rfl | rfl
    · exact hX
    · refine hB.trans ?_
      rw [celR_6]
      simp only [boS, setB, fu_s]
  · simp only [List.mem_cons, List.not_mem_nil, or_false, not_or, Prod.mk.injEq, not_and] at hn
    match k', hk, hn with
    | 0, hk, hn =>
      rcases hk with ⟨-, rfl, -⟩ | ⟨q, -⟩ | ⟨q, -⟩
      · exact absurd rfl (hn.1 rfl)
      · omega
      · omega
    | 6, _, hn => rw [celR_6, celR_6]; simp only [boS, setB, fu_o (hn.2 rfl)]
    | 1, _, _ => first | (rw [celR_1, celR_1]; done) | (rw [celR_1, celR_1]; rfl)
    | 2, _, _ => first | (rw [celR_2, celR_2]; done) | (rw [celR_2, celR_2]; rfl)
    | 3, _, _ => first | (rw [celR_3, celR_3]; done) | (rw [celR_3, celR_3]; rfl)
    | 4, _, _ => first | (rw [celR_4, celR_4]; done) | (rw [celR_4, celR_4]; rfl)
    | 5, _, _ => first | (rw [celR_5, celR_5]; done) | (rw [celR_5, celR_5]; rfl)
    | 7, _, _ => first | (rw [celR_7, celR_7]; done) | (rw [celR_7, celR_7]; rfl)
    | 8, _, _ => first | (rw [celR_8, celR_8]; done) | (rw [celR_8, celR_8]; rfl)
    | 9, _, _ => first | (rw [celR_9, celR_9]; done) | (rw [celR_9, celR_9]; rfl)
    | 10, _, _ => first | (rw [celR_10, celR_10]; done) | (rw [celR_10, celR_10]; rfl)
    | (k + 11), _, _ => first | (rw [celR_11, celR_11]; done) | (rw [celR_11, celR_11]; rfl)
/-- what a call of the reference leaves -/
def RP (G : mg) (o : Nat × Int32 × St) (g : gR) (r : Int32) (M1 : mw) : Prop := ∃ g1 : gR, RS G o.2.2 g1 M1 ∧ thR g1 = nI o.1 ∧ (o.1 = 0 → r = o.2.1) ∧ g1.1 0 0 = g.1 0 0
theorem RP.no {G : mg} {o : Nat × Int32 × St} {g : gR} {r : Int32} {M1 : mw} {k : Nat} {x : Int32} {s : St} (h : o = (k, x, s)) (hk : k ≠ 0) {g1 : gR} (hR : RS G s g1 M1) (ht : thR g1 = nI k) (ha : g1.1 0 0 = g.1 0 0) : RP G o g r M1 := by
  subst h
  exact ⟨g1, hR, ht, fun q => absurd q hk, ha⟩
theorem RP.ok {G : mg} {o : Nat × Int32 × St} {g : gR} {r : Int32} {M1 : mw} {s : St} (h : o = (0, r, s)) {g1 : gR} (hR : RS G s g1 M1) (ht : thR g1 = 0) (ha : g1.1 0 0 = g.1 0 0) : RP G o g r M1 := by
  subst h
  exact ⟨g1, hR, ht, fun _ => rfl, ha⟩
theorem chk_c {P Q : Prop} {k : Nat} {s : St} {r : Nat × Int32 × St} : chk P k s (chk Q k s r) = chk Q k s (chk P k s r) := by
  by_cases p : P
  · rw [chk_p p, chk_p p]
  · rw [chk_n p, chk_n p]
    by_cases q : Q
    · rw [chk_p q]
    · rw [chk_n q]
/-! ===== calls through an interface ===== -/
section MW
variable {p : Program} {l : Launch} {e : Env} {R : Room} {s : State} {m : MethodId} {args : Array Value} {below : List Frame} {meth : Method} {c : Code} {H : Heap} {locs : List Loc} {cells slots : Nat} {Q : State → Prop}
variable {pc : Nat} {ls : Array Slot} {rest st0 : List Value} {a : Array Value} {A : Nat → Prop} {mc ms : Nat} {G : mg} {M : mw}
theorem mf_calli {post : Int32 → mw → Prop} (hr : va_Run5 p l e R s m args below meth c H locs cells slots mc ms (F0 m pc ls st0) rest (va_Qi post (mE G A) A a) A) (hS : va_S A s.heap H locs)
    (kk : ∀ (r : Int32) (M1 : mw) (H1 : Heap) (locs1 : List Loc), post r M1 → mP G.1 M1 H1 → mI A M1 → va_S A s.heap H1 locs1 → W p l e R s m args below meth c H1 locs1 (cells + mc) (slots + ms) Q (F0 m (pc + 5) ls (.int r :: rest))) : W p l e R s m args below meth c H locs cells slots Q (F0 m pc ls st0) :=
  va_callFi hr hS (fun _ _ h => h) (fun _ h => h) (fun r u t H1 locs1 ht _ hp hB _ _ hS1 => kk r u H1 locs1 hp (by rw [← ht]; exact hB.1) hB.2 hS1)
theorem mf_callq {post : Option Nat → mw → Prop} (hr : va_Run5 p l e R s m args below meth c H locs cells slots mc ms (F0 m pc ls st0) rest (va_Qq post (mE G A) A a) A) (hS : va_S A s.heap H locs)
    (kk : ∀ (r : Option Nat) (M1 : mw) (H1 : Heap) (locs1 : List Loc), post r M1 → mP G.1 M1 H1 → mI A M1 → va_S A s.heap H1 locs1 → W p l e R s m args below meth c H1 locs1 (cells + mc) (slots + ms) Q (F0 m (pc + 5) ls (va_rf r :: rest))) : W p l e R s m args below meth c H locs cells slots Q (F0 m pc ls st0) :=
  va_callFq hr hS (fun _ _ h => h) (fun _ h => h) (fun r u t H1 locs1 ht _ hp hB _ _ hS1 => kk r u H1 locs1 hp (by rw [← ht]; exact hB.1) hB.2 hS1)
end MW
/-! ===== what the checks say ===== -/
theorem i200 : (200 : Int32) = nI 200 := rfl
theorem i19 : (19 : Int32) = nI 19 := rfl
theorem rg_ix {p q : Int32} {N : Nat} (hN : N < 2 ^ 31) (hq : q = nI N) (h : rng p 0 q) : ix p ≤ N := by
  have h2 := h.2
  rw [nI_cl h.1, hq] at h2
  exact (nI_leI (Int32.toNatClampNeg_lt p) hN).mp h2
theorem rg200 {p : Int32} (h : rng p 0 200) : ix p ≤ 200 := rg_ix (by omega) i200 h
theorem rg19 {p : Int32} (h : rng p 0 19) : ix p < 20 := Nat.lt_succ_of_le (rg_ix (N := 19) (by omega) i19 h)
theorem tk_rg {n : Nat} (hn : n ≤ 8) {p : Int32} : rng p 0 (nI n - 1) ↔ tkN n p := by
  constructor
  · rintro ⟨h1, h2⟩
    refine ⟨h1, ?_⟩
    match n, hn, h2 with
    | 0, _, h2 =>
      exfalso
      refine h1 (Int32.lt_of_le_of_lt h2 (by decide))
    | n + 1, hn, h2 =>
      rw [nI_pred, nI_cl h1] at h2
      exact Nat.lt_succ_of_le ((nI_leI (Int32.toNatClampNeg_lt p) (by omega)).mp h2)
  · rintro ⟨h1, h2⟩
    refine ⟨h1, ?_⟩
    match n, hn, h2 with
    | n + 1, hn, h2 =>
      rw [nI_pred, nI_cl h1]
      exact nI_le (Nat.le_of_lt_succ h2) (by omega)
theorem vs_i (bf : Nat → Int32) {p : Int32} (h : rng p 0 200) : vsum bf p 20 = msum bf (ix p) := by
  have e := vs_ms bf (ix p) (rg200 h)
  rw [← nI_cl h.1] at e
  exact e
theorem Inv.fil {s : St} (h : Inv s) {i : Nat} (hi : i < nN s) : mfi (itS s i 6) (itS s i 5) = 0 ↔ itS s i 4 = 0 := by
  have v := ivG_of (h.2.2.1 i hi)
  unfold ivG at v
  obtain ⟨-, -, -, -, v4, v5, v6, v46, -⟩ := v
  unfold mfi
  by_cases a : itS s i 6 = 32
  · rw [if_pos a]
    refine ⟨fun _ => v4.resolve_right (fun q => (v46.mp q).1 a), fun _ => rfl⟩
  · rw [if_neg a]
    by_cases b : itS s i 5 = 0
    · rw [if_pos b, v46.mpr ⟨a, b⟩]
    · rw [if_neg b]
      refine ⟨fun _ => v4.resolve_right (fun q => b (v46.mp q).2), fun _ => rfl⟩
