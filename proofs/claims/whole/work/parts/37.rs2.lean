/-! ===== new tubes, new instruments, readings of the reference ===== -/
theorem qf_add (n : Nat) (f f1 : Nat → Nat) (v : Nat) (h1 : f1 n = v) (h2 : ∀ j, j < n → f1 j = f j) : va_up (qf n f) n (some v) = qf (n + 1) f1 := by
  funext j
  unfold va_up
  by_cases h : j = n
  · rw [if_pos h, qf_p (by omega), h, h1]
  · rw [if_neg h]
    by_cases q : j < n
    · rw [qf_p q, qf_p (by omega), h2 j q]
    · rw [qf_n (by omega), qf_n (by omega)]
theorem qf_add8 (f f1 : Nat → Nat) (v : Nat) (h1 : f1 7 = v) (h2 : ∀ j, j < 7 → f1 j = f (j + 1)) : va_up (va_up (va_cpy (qf 8 f) (qf 8 f) 1 0 7) 7 none) 7 (some v) = qf 8 f1 := by
  funext j
  unfold va_up va_cpy
  by_cases h : j = 7
  · rw [if_pos h, qf_p (by omega), h, h1]
  · rw [if_neg h, if_neg h]
    by_cases q : j < 7
    · rw [if_pos ⟨Nat.zero_le j, by omega⟩, qf_p (by omega), qf_p (by omega), h2 j q, show 1 + (j - 0) = j + 1 by omega]
    · rw [if_neg (by omega), qf_n (by omega), qf_n (by omega)]
theorem clq_qf (n : Nat) (f f1 : Nat → Nat) : clq (qf n f) n = qf 0 f1 := by
  funext j
  unfold clq
  rw [qf_n (Nat.zero_le j)]
  by_cases h : j < n
  · rw [if_pos h]
  · rw [if_neg h, qf_n (by omega)]
/-- the addresses behind a new tube -/
def aT (a : adr) (n d q b : Nat) : adr := fun k i => if k = 3 then d else if k = 5 ∧ i = n then q else if k = 6 ∧ i = n then b else a k i
def flT (f : Nat → Nat → Nat) (k0 : Nat) : Nat → Nat → Nat := fun k i => if k = k0 then 1 else f k i
def mcT (f : Nat → Nat → Int32) (k0 i0 : Nat) (m : Int32) : Nat → Nat → Int32 := fun k i => if k = k0 ∧ i = i0 then m else f k i
abbrev gaT (s : St) (g : gR) (d q b : Nat) (m : Int32) : gR := (aT g.1 (nT s) d q b, flT g.2.1 3, mcT g.2.2.1 1 0 m, g.2.2.2.1, g.2.2.2.2.1, g.2.2.2.2.2.1, 0)
theorem aT_3 {a : adr} {n d q b i : Nat} : aT a n d q b 3 i = d := if_pos rfl
theorem aT_5 {a : adr} {n d q b : Nat} : aT a n d q b 5 n = q := (if_neg (by omega)).trans (if_pos ⟨rfl, rfl⟩)
theorem aT_6 {a : adr} {n d q b : Nat} : aT a n d q b 6 n = b := (if_neg (by omega)).trans ((if_neg (by omega)).trans (if_pos ⟨rfl, rfl⟩))
theorem aT_o {a : adr} {n d q b k i : Nat} (h3 : k ≠ 3) (h5 : (k = 5 ∨ k = 6) → i ≠ n) : aT a n d q b k i = a k i := (if_neg h3).trans ((if_neg (fun z => h5 (Or.inl z.1) z.2)).trans (if_neg (fun z => h5 (Or.inr z.1) z.2)))
theorem RS.adT {G : mg} {s : St} {g : gR} {M M1 : mw} (h : RS G s g M) (hV : Inv s) {d q b : Nat} {m : Int32} {bo : Nat → Int32} (hd : (flR g 3 0 = 1 ∧ d = g.1 3 0) ∨ (M d = none ∧ d ≠ q ∧ d ≠ b)) (hq : M q = none) (hb : M b = none) (hqb : q ≠ b)
    (hX : M1 (g.1 0 0) = some (.inr (10, [.ref (g.1 1 0), .ref (g.1 2 0), .int (gS s 2), .int (gS s 3), .int (gS s 1), .int (gS s 0), .int 0])))
    (hL : M1 (g.1 1 0) = some (.inr (2, [.int m, .ref d, .int (nI (nT s + 1))])))
    (hD : M1 d = some (.inl (G.2.1 5, 10, .inr (.inr (.inr (.inr (va_up (qf (nT s) (g.1 5)) (nT s) (some q))))))))
    (hT : M1 q = some (.inr (9, [.ref b, .int 0]))) (hB : M1 b = some (.inl (G.2.1 0, 20, .inl bo)))
    (hf : ∀ x e, M x = some e → x ≠ g.1 0 0 → x ≠ g.1 1 0 → x ≠ d → M1 x = some e) : RS G (s.1, (nT s + 1, fu (boS s) (nT s) bo, fu (usS s) (nT s) 0), s.2.2) (gaT s g d q b m) M1 := by
  have n0 : ∀ k i, k ≠ 3 → k < 5 → aT g.1 (nT s) d q b k i = g.1 k i := fun k i h1 h2 => aT_o h1 (fun z => by omega)
  have nk : ∀ k i, 7 ≤ k → aT g.1 (nT s) d q b k i = g.1 k i := fun k i h1 => aT_o (by omega) (fun z => by omega)
  have e0 := n0 0 0 (by omega) (by omega)
  have e1 := n0 1 0 (by omega) (by omega)
  have e2 := n0 2 0 (by omega) (by omega)
  have e4 := n0 4 0 (by omega) (by omega)
  have eA : ((aT g.1 (nT s) d q b) 5) = fu (g.1 5) (nT s) q := by
    funext i
    by_cases z : i = nT s
    · rw [z, aT_5, fu_s]
    · rw [aT_o (by omega) (fun _ => z), fu_n z]
  have a3 : aT g.1 (nT s) d q b 3 0 = d := aT_3
  have a5 : aT g.1 (nT s) d q b 5 (nT s) = q := aT_5
  have a6 : aT g.1 (nT s) d q b 6 (nT s) = b := aT_6
  have hdL : ∀ x ∈ [((0, 0) : Nat × Nat), (1, 0), (3, 0), (5, nT s), (6, nT s)], (okR s g.2.1 x.1 x.2 ∧ (gaT s g d q b m).1 x.1 x.2 = g.1 x.1 x.2) ∨ M ((gaT s g d q b m).1 x.1 x.2) = none := by
    intro x hx
    simp only [List.mem_cons, List.not_mem_nil, or_false] at hx
    rcases hx with rfl | rfl | rfl | rfl | rfl
    · exact Or.inl ⟨ro0, e0⟩
    · exact Or.inl ⟨ro1, e1⟩
    · rcases hd with ⟨z1, z2⟩ | ⟨z1, -, -⟩
      · exact Or.inl ⟨ro3 z1, a3.trans z2⟩
      · exact Or.inr ((congrArg M a3).trans z1)
    · exact Or.inr ((congrArg M a5).trans hq)
    · exact Or.inr ((congrArg M a6).trans hb)
  have hfL : ∀ x e, M x = some e → (∀ y ∈ [((0, 0) : Nat × Nat), (1, 0), (3, 0), (5, nT s), (6, nT s)], x ≠ (gaT s g d q b m).1 y.1 y.2) → M1 x = some e := by
    intro x e hx hy
    refine hf x e hx ?_ ?_ ?_
    · have := hy (0, 0) (by simp)
      exact fun z => this (z.trans e0.symm)
    · have := hy (1, 0) (by simp)
      exact fun z => this (z.trans e1.symm)
    · have := hy (3, 0) (by simp)
      exact fun z => this (z.trans a3.symm)
  refine h.next (s1 := (s.1, (nT s + 1, fu (boS s) (nT s) bo, fu (usS s) (nT s) 0), s.2.2)) (g1 := gaT s g d q b m) [(0, 0), (1, 0), (3, 0), (5, nT s), (6, nT s)] ?_ hfL ?_ hdL ?_ ?_
  · intro x hx
    simp only [List.mem_cons, List.not_mem_nil, or_false] at hx
    rcases hx with rfl | rfl | rfl | rfl | rfl
    · refine (congrArg M1 e0).trans (hX.trans (congrArg some ?_))
      show _ = Sum.inr (10, [Value.ref (aT g.1 (nT s) d q b 1 0), Value.ref (aT g.1 (nT s) d q b 2 0), _, _, _, _, _])
      rw [e1, e2]
    · refine (congrArg M1 e1).trans (hL.trans (congrArg some ?_))
      show _ = Sum.inr (2, [Value.int (mcT g.2.2.1 1 0 m 1 0), Value.ref (aT g.1 (nT s) d q b 3 0), _])
      rw [aT_3]
      rfl
    · refine (congrArg M1 a3).trans (hD.trans (congrArg some ?_))
      show _ = Sum.inl (G.2.1 5, 10, Sum.inr (Sum.inr (Sum.inr (Sum.inr (qf (nT s + 1) (aT g.1 (nT s) d q b 5))))))
      rw [eA, qf_add (nT s) (g.1 5) (fu (g.1 5) (nT s) q) q fu_s (fun j hj => fu_n (by omega))]
    · refine (congrArg M1 a5).trans (hT.trans (congrArg some ?_))
      show _ = Sum.inr (9, [Value.ref (aT g.1 (nT s) d q b 6 (nT s)), Value.int (fu (usS s) (nT s) 0 (nT s))])
      rw [aT_6, fu_s]
    · refine (congrArg M1 a6).trans (hB.trans (congrArg some ?_))
      show _ = Sum.inl (G.2.1 0, 20, Sum.inl (fu (boS s) (nT s) bo (nT s)))
      rw [fu_s]
  · intro k i ho hn
    simp only [List.mem_cons, List.not_mem_nil, or_false, not_or, Prod.mk.injEq, not_and] at hn
    obtain ⟨n1, n2, n3, n4, n5⟩ := hn
    have hok : okR s g.2.1 k i := by
      unfold okR at ho ⊢
      rcases ho with ⟨a1, a2, a3⟩ | ⟨a1, a2⟩ | ⟨a1, a2, a3⟩
      · refine Or.inl ⟨a1, a2, fun z => ?_⟩
        have z3 : k ≠ 3 := fun w => n3 w a2
        exact (show flT g.2.1 3 k 0 = g.2.1 k 0 from if_neg z3).symm.trans (a3 z)
      · refine Or.inr (Or.inl ⟨a1, ?_⟩)
        have a2' : i < nT s + 1 := a2
        have : i ≠ nT s := fun w => a1.elim (fun w1 => n4 w1 w) (fun w1 => n5 w1 w)
        omega
      · refine Or.inr (Or.inr ⟨a1, a2, fun z => ?_⟩)
        exact (show flT g.2.1 3 10 i = g.2.1 10 i from if_neg (by omega)).symm.trans (a3 z)
    have hk3 : k ≠ 3 := fun w => by
      subst w
      rcases ho with ⟨-, a2, -⟩ | ⟨a1, -⟩ | ⟨a1, -⟩
      · exact n3 rfl a2
      · omega
      · omega
    have hk5 : (k = 5 ∨ k = 6) → i ≠ nT s := fun w z => w.elim (fun w1 => n4 w1 z) (fun w1 => n5 w1 z)
    refine ⟨hok, aT_o hk3 hk5, ?_⟩
    match k, hok, hk3, hk5, n1, n2 with
    | 0, hok, _, _, n1, _ =>
      rcases hok with ⟨-, a2, -⟩ | ⟨a1, -⟩ | ⟨a1, -⟩
      · exact absurd a2 (n1 rfl)
      · omega
      · omega
    | 1, hok, _, _, _, n2 =>
      rcases hok with ⟨-, a2, -⟩ | ⟨a1, -⟩ | ⟨a1, -⟩
      · exact absurd a2 (n2 rfl)
      · omega
      · omega
    | 2, _, _, _, _, _ =>
      show Sum.inr (2, [Value.int (mcT g.2.2.1 1 0 m 2 0), Value.ref (aT g.1 (nT s) d q b 4 0), _]) = _
      rw [e4]
      rfl
    | 3, _, hk3, _, _, _ => exact absurd rfl hk3
    | 4, _, _, _, _, _ =>
      show Sum.inl (G.2.1 5, 10, Sum.inr (Sum.inr (Sum.inr (Sum.inr (qf (nN s) (aT g.1 (nT s) d q b 7)))))) = _
      rw [show aT g.1 (nT s) d q b 7 = g.1 7 from funext (fun i => nk 7 i (by omega))]
      rfl
    | 5, _, _, hk5, _, _ =>
      have hi := hk5 (Or.inl rfl)
      show Sum.inr (9, [Value.ref (aT g.1 (nT s) d q b 6 i), Value.int (fu (usS s) (nT s) 0 i)]) = _
      rw [aT_o (by omega) (fun _ => hi), fu_n hi]
      rfl
    | 6, _, _, hk5, _, _ =>
      have hi := hk5 (Or.inr rfl)
      show Sum.inl (G.2.1 0, 20, Sum.inl (fu (boS s) (nT s) bo i)) = _
      rw [fu_n hi]
      rfl
    | 7, hok, _, _, _, _ =>
      have hi : i < nN s := by
        rcases hok with ⟨a1, -, -⟩ | ⟨a1, -⟩ | ⟨-, a1, -⟩
        · omega
        · omega
        · exact a1
      have ht := hV.tb hi
      show Sum.inr (8, [Value.ref (aT g.1 (nT s) d q b 5 (tbN s i)), _, _, _, _, _, _, _, _, _, _, _, _, _, _, Value.ref (aT g.1 (nT s) d q b 8 i), Value.ref (aT g.1 (nT s) d q b 9 i)]) = _
      rw [aT_o (k := 5) (by omega) (fun _ => by omega), nk 8 i (by omega), nk 9 i (by omega)]
      rfl
    | 8, _, _, _, _, _ =>
      show Sum.inr (2, [Value.int (mcT g.2.2.1 1 0 m 8 i), Value.ref (aT g.1 (nT s) d q b 10 i), _]) = _
      rw [nk 10 i (by omega)]
      rfl
    | 9, _, _, _, _, _ =>
      show Sum.inr (2, [Value.int (mcT g.2.2.1 1 0 m 9 i), Value.ref (aT g.1 (nT s) d q b 11 i), _]) = _
      rw [nk 11 i (by omega)]
      rfl
    | 10, _, _, _, _, _ | (k + 11), _, _, _, _, _ => rfl
  · intro x hx y hy z1 z2 z3
    simp only [List.mem_cons, List.not_mem_nil, or_false] at hx hy
    have k0 : M ((gaT s g d q b m).1 0 0) ≠ none := fun w => by
      have := (congrArg M e0).symm.trans w
      rw [h.1 0 0 ro0] at this
      cases this
    have k1 : M ((gaT s g d q b m).1 1 0) ≠ none := fun w => by
      have := (congrArg M e1).symm.trans w
      rw [h.1 1 0 ro1] at this
      cases this
    have d3 : M d = none → d ≠ q ∧ d ≠ b := fun w => by
      rcases hd with ⟨y1, y2⟩ | ⟨-, y2⟩
      · rw [y2, h.1 3 0 (ro3 y1)] at w
        cases w
      · exact y2
    rcases hx with rfl | rfl | rfl | rfl | rfl <;> rcases hy with rfl | rfl | rfl | rfl | rfl <;> first | rfl | exact absurd z1 k0 | exact absurd z2 k0 | exact absurd z1 k1 | exact absurd z2 k1 | (exfalso; first | exact (d3 ((congrArg M a3).symm.trans z1)).1 (a3.symm.trans (z3.trans a5)) | exact (d3 ((congrArg M a3).symm.trans z1)).2 (a3.symm.trans (z3.trans a6)) | exact (d3 ((congrArg M a3).symm.trans z2)).1 (a3.symm.trans (z3.symm.trans a5)) | exact (d3 ((congrArg M a3).symm.trans z2)).2 (a3.symm.trans (z3.symm.trans a6)) | exact hqb (a5.symm.trans (z3.trans a6)) | exact hqb (a5.symm.trans (z3.symm.trans a6)))
  · obtain ⟨s1, s2, s3⟩ := h.2.2
    refine ⟨Or.inl rfl, ?_, fun i hi => ?_⟩
    · show g.2.1 4 0 = 1 ∨ (aT g.1 (nT s) d q b 4 0 = _ ∧ _)
      rw [e4]
      exact s2
    · obtain ⟨t1, t2, t3⟩ := s3 i hi
      refine ⟨?_, t2, fun j hj => ⟨IC.next h.1 _ hfL hdL (t3 j hj).1, IC.next h.1 _ hfL hdL (t3 j hj).2⟩⟩
      show g.2.1 10 i = 1 ∨ (aT g.1 (nT s) d q b 10 i = _ ∧ aT g.1 (nT s) d q b 11 i = _ ∧ _)
      rw [nk 10 i (by omega), nk 11 i (by omega)]
      exact t1
/-- the addresses behind a new instrument -/
def aI (a : adr) (n d q l1 l2 e : Nat) : adr := fun k i => if k = 4 then d else if k = 7 ∧ i = n then q else if k = 8 ∧ i = n then l1 else if k = 9 ∧ i = n then l2 else if (k = 10 ∨ k = 11) ∧ i = n then e else a k i
def flI (f : Nat → Nat → Nat) (n : Nat) : Nat → Nat → Nat := fun k i => if k = 4 then 1 else if k = 10 ∧ i = n then 0 else f k i
def mcI (f : Nat → Nat → Int32) (n : Nat) (m : Int32) : Nat → Nat → Int32 := fun k i => if k = 2 then m else if (k = 8 ∨ k = 9) ∧ i = n then 0 else f k i
abbrev gaI (s : St) (g : gR) (d q l1 l2 e : Nat) (m : Int32) : gR := (aI g.1 (nN s) d q l1 l2 e, flI g.2.1 (nN s), mcI g.2.2.1 (nN s) m, fu g.2.2.2.1 (nN s) (-1), g.2.2.2.2.1, g.2.2.2.2.2.1, 0)
theorem aI_4 {a : adr} {n d q l1 l2 e i : Nat} : aI a n d q l1 l2 e 4 i = d := if_pos rfl
theorem aI_7 {a : adr} {n d q l1 l2 e : Nat} : aI a n d q l1 l2 e 7 n = q := (if_neg (by omega)).trans (if_pos ⟨rfl, rfl⟩)
theorem aI_8 {a : adr} {n d q l1 l2 e : Nat} : aI a n d q l1 l2 e 8 n = l1 := (if_neg (by omega)).trans ((if_neg (by omega)).trans (if_pos ⟨rfl, rfl⟩))
theorem aI_9 {a : adr} {n d q l1 l2 e : Nat} : aI a n d q l1 l2 e 9 n = l2 := (if_neg (by omega)).trans ((if_neg (by omega)).trans ((if_neg (by omega)).trans (if_pos ⟨rfl, rfl⟩)))
theorem aI_10 {a : adr} {n d q l1 l2 e k : Nat} (hk : k = 10 ∨ k = 11) : aI a n d q l1 l2 e k n = e := (if_neg (by omega)).trans ((if_neg (by omega)).trans ((if_neg (by omega)).trans ((if_neg (by omega)).trans (if_pos ⟨hk, rfl⟩))))
theorem aI_o {a : adr} {n d q l1 l2 e k i : Nat} (h4 : k ≠ 4) (h7 : 7 ≤ k → i ≠ n) : aI a n d q l1 l2 e k i = a k i := (if_neg h4).trans ((if_neg (fun z => h7 (by omega) z.2)).trans ((if_neg (fun z => h7 (by omega) z.2)).trans ((if_neg (fun z => h7 (by omega) z.2)).trans (if_neg (fun z => h7 (by omega) z.2)))))
theorem RS.adI {G : mg} {s : St} {g : gR} {M M1 : mw} (h : RS G s g M) (hV : Inv s) {p0 p1 p2 : Int32} (ht : ix p0 < nT s) {d q l1 l2 : Nat} {m : Int32} (hd : (flR g 4 0 = 1 ∧ d = g.1 4 0) ∨ (M d = none ∧ d ≠ q ∧ d ≠ l1 ∧ d ≠ l2)) (hq : M q = none) (h1n : M l1 = none) (h2n : M l2 = none) (q1 : q ≠ l1) (q2 : q ≠ l2) (q3 : l1 ≠ l2)
    (hX : M1 (g.1 0 0) = some (.inr (10, [.ref (g.1 1 0), .ref (g.1 2 0), .int (gS s 2), .int (gS s 3), .int (gS s 1), .int (gS s 0), .int 0])))
    (hL : M1 (g.1 2 0) = some (.inr (2, [.int m, .ref d, .int (nI (nN s + 1))])))
    (hD : M1 d = some (.inl (G.2.1 5, 10, .inr (.inr (.inr (.inr (va_up (qf (nN s) (g.1 7)) (nN s) (some q))))))))
    (hT : M1 (g.1 5 (ix p0)) = some (.inr (9, [.ref (g.1 6 (ix p0)), .int 1])))
    (hI : M1 q = some (.inr (8, [.ref (g.1 5 (ix p0)), .int p1, .int (sof p2), .int 0, .int 0, .int 32, .int 0, .int (-1), .int (-1), .int 0, .int 32, .int 0, .int 0, .int (-1), .int (-1), .ref l1, .ref l2])))
    (hA : M1 l1 = some (.inr (2, [.int 0, .ref (G.2.2.2 1), .int 0]))) (hB : M1 l2 = some (.inr (2, [.int 0, .ref (G.2.2.2 1), .int 0])))
    (hf : ∀ x e, M x = some e → x ≠ g.1 0 0 → x ≠ g.1 2 0 → x ≠ d → x ≠ g.1 5 (ix p0) → M1 x = some e) : RS G (addI s p0 p1 p2) (gaI s g d q l1 l2 (G.2.2.2 1) m) M1 := by
  have n0 : ∀ k i, k ≠ 4 → k < 7 → aI g.1 (nN s) d q l1 l2 (G.2.2.2 1) k i = g.1 k i := fun k i a1 a2 => aI_o a1 (fun z => by omega)
  have e0 := n0 0 0 (by omega) (by omega)
  have e1 := n0 1 0 (by omega) (by omega)
  have e2 := n0 2 0 (by omega) (by omega)
  have e3 := n0 3 0 (by omega) (by omega)
  have e5 := fun i => n0 5 i (by omega) (by omega)
  have e6 := fun i => n0 6 i (by omega) (by omega)
  have eA : ((aI g.1 (nN s) d q l1 l2 (G.2.2.2 1)) 7) = fu (g.1 7) (nN s) q := by
    funext i
    by_cases z : i = nN s
    · rw [z, aI_7, fu_s]
    · rw [aI_o (by omega) (fun _ => z), fu_n z]
  have a4 : aI g.1 (nN s) d q l1 l2 (G.2.2.2 1) 4 0 = d := aI_4
  have a7 : aI g.1 (nN s) d q l1 l2 (G.2.2.2 1) 7 (nN s) = q := aI_7
  have a8 : aI g.1 (nN s) d q l1 l2 (G.2.2.2 1) 8 (nN s) = l1 := aI_8
  have a9 : aI g.1 (nN s) d q l1 l2 (G.2.2.2 1) 9 (nN s) = l2 := aI_9
  have hdL : ∀ x ∈ [((0, 0) : Nat × Nat), (2, 0), (4, 0), (5, ix p0), (7, nN s), (8, nN s), (9, nN s)], (okR s g.2.1 x.1 x.2 ∧ (gaI s g d q l1 l2 (G.2.2.2 1) m).1 x.1 x.2 = g.1 x.1 x.2) ∨ M ((gaI s g d q l1 l2 (G.2.2.2 1) m).1 x.1 x.2) = none := by
    intro x hx
    simp only [List.mem_cons, List.not_mem_nil, or_false] at hx
    rcases hx with rfl | rfl | rfl | rfl | rfl | rfl | rfl
    · exact Or.inl ⟨ro0, e0⟩
    · exact Or.inl ⟨ro2, e2⟩
    · rcases hd with ⟨z1, z2⟩ | ⟨z1, -⟩
      · exact Or.inl ⟨ro4 z1, a4.trans z2⟩
      · exact Or.inr ((congrArg M a4).trans z1)
    · exact Or.inl ⟨ro5 ht, e5 _⟩
    · exact Or.inr ((congrArg M a7).trans hq)
    · exact Or.inr ((congrArg M a8).trans h1n)
    · exact Or.inr ((congrArg M a9).trans h2n)
  have hfL : ∀ x e, M x = some e → (∀ y ∈ [((0, 0) : Nat × Nat), (2, 0), (4, 0), (5, ix p0), (7, nN s), (8, nN s), (9, nN s)], x ≠ (gaI s g d q l1 l2 (G.2.2.2 1) m).1 y.1 y.2) → M1 x = some e := by
    intro x e hx hy
    refine hf x e hx ?_ ?_ ?_ ?_
    · have := hy (0, 0) (by simp)
      exact fun z => this (z.trans e0.symm)
    · have := hy (2, 0) (by simp)
      exact fun z => this (z.trans e2.symm)
    · have := hy (4, 0) (by simp)
      exact fun z => this (z.trans a4.symm)
    · have := hy (5, ix p0) (by simp)
      exact fun z => this (z.trans (e5 _).symm)
  have itn : itS (addI s p0 p1 p2) (nN s) = newI p0 p1 p2 := fu_s
  refine h.next (s1 := addI s p0 p1 p2) (g1 := gaI s g d q l1 l2 (G.2.2.2 1) m) [(0, 0), (2, 0), (4, 0), (5, ix p0), (7, nN s), (8, nN s), (9, nN s)] ?_ hfL ?_ hdL ?_ ?_
  · intro x hx
    simp only [List.mem_cons, List.not_mem_nil, or_false] at hx
    rcases hx with rfl | rfl | rfl | rfl | rfl | rfl | rfl
    · refine (congrArg M1 e0).trans (hX.trans (congrArg some ?_))
      show _ = Sum.inr (10, [Value.ref (aI g.1 (nN s) d q l1 l2 (G.2.2.2 1) 1 0), Value.ref (aI g.1 (nN s) d q l1 l2 (G.2.2.2 1) 2 0), _, _, _, _, _])
      rw [e1, e2]
      rfl
    · refine (congrArg M1 e2).trans (hL.trans (congrArg some ?_))
      show _ = Sum.inr (2, [Value.int (mcI g.2.2.1 (nN s) m 2 0), Value.ref (aI g.1 (nN s) d q l1 l2 (G.2.2.2 1) 4 0), _])
      rw [aI_4]
      rfl
    · refine (congrArg M1 a4).trans (hD.trans (congrArg some ?_))
      show _ = Sum.inl (G.2.1 5, 10, Sum.inr (Sum.inr (Sum.inr (Sum.inr (qf (nN s + 1) (aI g.1 (nN s) d q l1 l2 (G.2.2.2 1) 7))))))
      rw [eA, qf_add (nN s) (g.1 7) (fu (g.1 7) (nN s) q) q fu_s (fun j hj => fu_n (by omega))]
    · refine (congrArg M1 (e5 _)).trans (hT.trans (congrArg some ?_))
      show _ = Sum.inr (9, [Value.ref (aI g.1 (nN s) d q l1 l2 (G.2.2.2 1) 6 (ix p0)), Value.int (fu (usS s) (ix p0) 1 (ix p0))])
      rw [e6, fu_s]
    · refine (congrArg M1 a7).trans (hI.trans (congrArg some ?_))
      show _ = celI (addI s p0 p1 p2) (gaI s g d q l1 l2 (G.2.2.2 1) m) (nN s)
      unfold celI tbN
      rw [itn]
      show _ = Sum.inr (8, [Value.ref (aI g.1 (nN s) d q l1 l2 (G.2.2.2 1) 5 (ix p0)), Value.int p1, Value.int (sof p2), Value.int 0, Value.int 0, Value.int 32, Value.int 0, Value.int (-1), Value.int (-1), Value.int 0, Value.int 32, Value.int 0, Value.int 0, Value.int (-1), Value.int (fu g.2.2.2.1 (nN s) (-1) (nN s)), Value.ref (aI g.1 (nN s) d q l1 l2 (G.2.2.2 1) 8 (nN s)), Value.ref (aI g.1 (nN s) d q l1 l2 (G.2.2.2 1) 9 (nN s))])
      rw [e5, aI_8, aI_9, fu_s]
    · refine (congrArg M1 a8).trans (hA.trans (congrArg some ?_))
      show _ = Sum.inr (2, [Value.int (mcI g.2.2.1 (nN s) m 8 (nN s)), Value.ref (aI g.1 (nN s) d q l1 l2 (G.2.2.2 1) 10 (nN s)), Value.int (nI (fu (rnS s) (nN s) 0 (nN s)))])
      rw [aI_10 (Or.inl rfl), fu_s, show mcI g.2.2.1 (nN s) m 8 (nN s) = 0 from (if_neg (by omega)).trans (if_pos ⟨Or.inl rfl, rfl⟩)]
      rfl
    · refine (congrArg M1 a9).trans (hB.trans (congrArg some ?_))
      show _ = Sum.inr (2, [Value.int (mcI g.2.2.1 (nN s) m 9 (nN s)), Value.ref (aI g.1 (nN s) d q l1 l2 (G.2.2.2 1) 11 (nN s)), Value.int (nI (fu (rnS s) (nN s) 0 (nN s)))])
      rw [aI_10 (Or.inr rfl), fu_s, show mcI g.2.2.1 (nN s) m 9 (nN s) = 0 from (if_neg (by omega)).trans (if_pos ⟨Or.inr rfl, rfl⟩)]
      rfl
  · intro k i ho hn
    simp only [List.mem_cons, List.not_mem_nil, or_false, not_or, Prod.mk.injEq, not_and] at hn
    obtain ⟨n1, n2, n3, n4, n5, n6, n7⟩ := hn
    have hk4 : k ≠ 4 := fun w => by
      subst w
      rcases ho with ⟨-, a2, -⟩ | ⟨a1, -⟩ | ⟨a1, -⟩
      · exact n3 rfl a2
      · omega
      · omega
    have hk7 : 7 ≤ k → i ≠ nN s := fun w z => by
      rcases ho with ⟨a1, -⟩ | ⟨a1, -⟩ | ⟨⟨-, a1⟩, -, a3⟩
      · omega
      · omega
      · rcases Nat.lt_or_ge k 10 with y | y
        · rcases (show k = 7 ∨ k = 8 ∨ k = 9 by omega) with y | y | y
          · exact n5 y z
          · exact n6 y z
          · exact n7 y z
        · exact absurd ((show flI g.2.1 (nN s) 10 i = 0 from (if_neg (by omega)).trans (if_pos ⟨rfl, z⟩)).symm.trans (a3 y)) (by omega)
    have hok : okR s g.2.1 k i := by
      unfold okR at ho ⊢
      rcases ho with ⟨a1, a2, a3⟩ | ⟨a1, a2⟩ | ⟨a1, a2, a3⟩
      · refine Or.inl ⟨a1, a2, fun z => ?_⟩
        exact (show flI g.2.1 (nN s) k 0 = g.2.1 k 0 from (if_neg hk4).trans (if_neg (fun w => by omega))).symm.trans (a3 z)
      · exact Or.inr (Or.inl ⟨a1, a2⟩)
      · have a2' : i < nN s + 1 := a2
        have a5 := hk7 (by omega)
        refine Or.inr (Or.inr ⟨a1, by omega, fun z => ?_⟩)
        exact (show flI g.2.1 (nN s) 10 i = g.2.1 10 i from (if_neg (by omega)).trans (if_neg (fun w => a5 w.2))).symm.trans (a3 z)
    refine ⟨hok, aI_o hk4 hk7, ?_⟩
    match k, hok, hk4, hk7, n1, n2, n4 with
    | 0, hok, _, _, n1, _, _ =>
      rcases hok with ⟨-, a2, -⟩ | ⟨a1, -⟩ | ⟨a1, -⟩
      · exact absurd a2 (n1 rfl)
      · omega
      · omega
    | 2, hok, _, _, _, n2, _ =>
      rcases hok with ⟨-, a2, -⟩ | ⟨a1, -⟩ | ⟨a1, -⟩
      · exact absurd a2 (n2 rfl)
      · omega
      · omega
    | 1, _, _, _, _, _, _ =>
      show Sum.inr (2, [Value.int (mcI g.2.2.1 (nN s) m 1 0), Value.ref (aI g.1 (nN s) d q l1 l2 (G.2.2.2 1) 3 0), _]) = _
      rw [e3]
      rfl
    | 3, _, _, _, _, _, _ =>
      show Sum.inl (G.2.1 5, 10, Sum.inr (Sum.inr (Sum.inr (Sum.inr (qf (nT s) (aI g.1 (nN s) d q l1 l2 (G.2.2.2 1) 5)))))) = _
      rw [show aI g.1 (nN s) d q l1 l2 (G.2.2.2 1) 5 = g.1 5 from funext (fun i => e5 i)]
      rfl
    | 4, _, hk4, _, _, _, _ => exact absurd rfl hk4
    | 5, _, _, _, _, _, n4 =>
      have hi : i ≠ ix p0 := n4 rfl
      show Sum.inr (9, [Value.ref (aI g.1 (nN s) d q l1 l2 (G.2.2.2 1) 6 i), Value.int (fu (usS s) (ix p0) 1 i)]) = _
      rw [e6, fu_n hi]
      rfl
    | 6, _, _, _, _, _, _ => rfl
    | 7, _, _, hk7, _, _, _ =>
      have hi := hk7 (by omega)
      have e7 : itS (addI s p0 p1 p2) i = itS s i := fu_n hi
      show celI (addI s p0 p1 p2) (gaI s g d q l1 l2 (G.2.2.2 1) m) i = celI s g i
      unfold celI tbN
      rw [e7]
      show Sum.inr (8, [Value.ref (aI g.1 (nN s) d q l1 l2 (G.2.2.2 1) 5 _), _, _, _, _, _, _, _, _, _, _, _, _, _, Value.int (fu g.2.2.2.1 (nN s) (-1) i), Value.ref (aI g.1 (nN s) d q l1 l2 (G.2.2.2 1) 8 i), Value.ref (aI g.1 (nN s) d q l1 l2 (G.2.2.2 1) 9 i)]) = _
      rw [e5, aI_o (k := 8) (by omega) (fun _ => hi), aI_o (k := 9) (by omega) (fun _ => hi), fu_n hi]
    | 8, _, _, hk7, _, _, _ =>
      have hi := hk7 (by omega)
      show Sum.inr (2, [Value.int (mcI g.2.2.1 (nN s) m 8 i), Value.ref (aI g.1 (nN s) d q l1 l2 (G.2.2.2 1) 10 i), Value.int (nI (fu (rnS s) (nN s) 0 i))]) = _
      rw [aI_o (k := 10) (by omega) (fun _ => hi), fu_n hi, show mcI g.2.2.1 (nN s) m 8 i = g.2.2.1 8 i from (if_neg (by omega)).trans (if_neg (fun z => hi z.2))]
      rfl
    | 9, _, _, hk7, _, _, _ =>
      have hi := hk7 (by omega)
      show Sum.inr (2, [Value.int (mcI g.2.2.1 (nN s) m 9 i), Value.ref (aI g.1 (nN s) d q l1 l2 (G.2.2.2 1) 11 i), Value.int (nI (fu (rnS s) (nN s) 0 i))]) = _
      rw [aI_o (k := 11) (by omega) (fun _ => hi), fu_n hi, show mcI g.2.2.1 (nN s) m 9 i = g.2.2.1 9 i from (if_neg (by omega)).trans (if_neg (fun z => hi z.2))]
      rfl
    | 10, _, _, hk7, _, _, _ =>
      have hi := hk7 (by omega)
      show Sum.inl (G.2.1 5, 10, Sum.inr (Sum.inr (Sum.inr (Sum.inr (qf (fu (rnS s) (nN s) 0 i) (ivR g i)))))) = _
      rw [fu_n hi]
      rfl
    | (k + 11), _, _, hk7, _, _, _ =>
      have hi := hk7 (by omega)
      show Sum.inl (G.2.1 5, 10, Sum.inr (Sum.inr (Sum.inr (Sum.inr (qf (fu (rnS s) (nN s) 0 i) (ihR g i)))))) = _
      rw [fu_n hi]
      rfl
  · intro x hx y hy z1 z2 z3
    simp only [List.mem_cons, List.not_mem_nil, or_false] at hx hy
    have k0 : M ((gaI s g d q l1 l2 (G.2.2.2 1) m).1 0 0) ≠ none := fun w => by
      have := (congrArg M e0).symm.trans w
      rw [h.1 0 0 ro0] at this
      cases this
    have k1 : M ((gaI s g d q l1 l2 (G.2.2.2 1) m).1 2 0) ≠ none := fun w => by
      have := (congrArg M e2).symm.trans w
      rw [h.1 2 0 ro2] at this
      cases this
    have k5 : M ((gaI s g d q l1 l2 (G.2.2.2 1) m).1 5 (ix p0)) ≠ none := fun w => by
      have := (congrArg M (e5 (ix p0))).symm.trans w
      rw [h.1 5 _ (ro5 ht)] at this
      cases this
    have d3 : M d = none → d ≠ q ∧ d ≠ l1 ∧ d ≠ l2 := fun w => by
      rcases hd with ⟨y1, y2⟩ | ⟨-, y2⟩
      · rw [y2, h.1 4 0 (ro4 y1)] at w
        cases w
      · exact y2
    rcases hx with rfl | rfl | rfl | rfl | rfl | rfl | rfl <;> rcases hy with rfl | rfl | rfl | rfl | rfl | rfl | rfl <;> first | rfl | exact absurd z1 k0 | exact absurd z2 k0 | exact absurd z1 k1 | exact absurd z2 k1 | exact absurd z1 k5 | exact absurd z2 k5 | (exfalso; first | exact (d3 ((congrArg M a4).symm.trans z1)).1 (a4.symm.trans (z3.trans a7)) | exact (d3 ((congrArg M a4).symm.trans z2)).1 (a4.symm.trans (z3.symm.trans a7)) | exact (d3 ((congrArg M a4).symm.trans z1)).2.1 (a4.symm.trans (z3.trans a8)) | exact (d3 ((congrArg M a4).symm.trans z2)).2.1 (a4.symm.trans (z3.symm.trans a8)) | exact (d3 ((congrArg M a4).symm.trans z1)).2.2 (a4.symm.trans (z3.trans a9)) | exact (d3 ((congrArg M a4).symm.trans z2)).2.2 (a4.symm.trans (z3.symm.trans a9)) | exact q1 (a7.symm.trans (z3.trans a8)) | exact q1 (a7.symm.trans (z3.symm.trans a8)) | exact q2 (a7.symm.trans (z3.trans a9)) | exact q2 (a7.symm.trans (z3.symm.trans a9)) | exact q3 (a8.symm.trans (z3.trans a9)) | exact q3 (a8.symm.trans (z3.symm.trans a9)))
  · obtain ⟨s1, s2, s3⟩ := h.2.2
    refine ⟨?_, Or.inl rfl, fun i hi => ?_⟩
    · show flI g.2.1 (nN s) 3 0 = 1 ∨ (aI g.1 (nN s) d q l1 l2 (G.2.2.2 1) 3 0 = _ ∧ _)
      rw [e3]
      exact s1
    · by_cases z : i = nN s
      · subst z
        refine ⟨Or.inr ⟨(aI_10 (Or.inl rfl) : aI g.1 (nN s) d q l1 l2 (G.2.2.2 1) 10 (nN s) = G.2.2.2 1), (aI_10 (Or.inr rfl) : aI g.1 (nN s) d q l1 l2 (G.2.2.2 1) 11 (nN s) = G.2.2.2 1), fu_s⟩, fun _ => ?_, fun j hj => ?_⟩
        · show fu g.2.2.2.1 (nN s) (-1) (nN s) = itS (addI s p0 p1 p2) (nN s) 11
          rw [itn, fu_s]
          rfl
        · exfalso
          have hj2 : j < fu (rnS s) (nN s) 0 (nN s) := hj
          rw [fu_s] at hj2
          omega
      · have hi2 : i < nN s + 1 := hi
        obtain ⟨t1, t2, t3⟩ := s3 i (by omega)
        have e7 : itS (addI s p0 p1 p2) i = itS s i := fu_n z
        refine ⟨?_, ?_, fun j hj => ?_⟩
        · show flI g.2.1 (nN s) 10 i = 1 ∨ (aI g.1 (nN s) d q l1 l2 (G.2.2.2 1) 10 i = _ ∧ aI g.1 (nN s) d q l1 l2 (G.2.2.2 1) 11 i = _ ∧ fu (rnS s) (nN s) 0 i = 0)
          rw [aI_o (k := 10) (by omega) (fun _ => z), aI_o (k := 11) (by omega) (fun _ => z), fu_n z, show flI g.2.1 (nN s) 10 i = g.2.1 10 i from (if_neg (by omega)).trans (if_neg (fun y => z y.2))]
          exact t1
        · rw [e7]
          intro y
          show fu g.2.2.2.1 (nN s) (-1) i = _
          rw [fu_n z]
          exact t2 y
        · have hj2 : j < fu (rnS s) (nN s) 0 i := hj
          rw [fu_n z] at hj2
          show IC G M1 (ivR g i j) (fu (rvS s) (nN s) (fun _ => 0) i j) ∧ IC G M1 (ihR g i j) (fu (rhS s) (nN s) (fun _ => 0) i j)
          rw [fu_n z, fu_n z]
          exact ⟨IC.next h.1 _ hfL hdL (t3 j hj2).1, IC.next h.1 _ hfL hdL (t3 j hj2).2⟩
/-- Itrs come, go and move: nothing of the state -/
theorem RS.fr {G : mg} {s : St} {g : gR} {M M1 : mw} (h : RS G s g M) (hf : ∀ x e, M x = some e → kd e ≠ 6 → M1 x = some e) : RS G s g M1 := by
  have hk : ∀ k i, kd (celR G s g k i) ≠ 6 := fun k i => by
    match k with
    | 0 => exact fun h => absurd (show (15 : Nat) = 6 from h) (by omega)
    | 1 | 2 | 8 | 9 => exact fun h => absurd (show (7 : Nat) = 6 from h) (by omega)
    | 3 | 4 | 10 => exact fun h => absurd (show (4 : Nat) = 6 from h) (by omega)
    | 5 => exact fun h => absurd (show (14 : Nat) = 6 from h) (by omega)
    | 6 => exact fun h => absurd (show (0 : Nat) = 6 from h) (by omega)
    | 7 => exact fun h => absurd (show (13 : Nat) = 6 from h) (by omega)
    | (k + 11) => exact fun h => absurd (show (4 : Nat) = 6 from h) (by omega)
  have hi : ∀ (y : Nat) (v : Int32), IC G M y v → IC G M1 y v := fun y v q => q.imp (fun z => hf _ _ z (by show (5 : Nat) ≠ 6; omega)) id
  obtain ⟨h1, h2, s1, s2, s3⟩ := h
  exact ⟨fun k i q => hf _ _ (h1 k i q) (hk k i), h2, s1, s2, fun i q => ⟨(s3 i q).1, (s3 i q).2.1, fun j z => ⟨hi _ _ ((s3 i q).2.2 j z).1, hi _ _ ((s3 i q).2.2 j z).2⟩⟩⟩
theorem ne_it {M : mw} {x q : Nat} {e f : va_E} (hx : M x = some e) (hq : M q = some f) (hk : kd e ≠ 6) (hf : kd f = 6) : x ≠ q := fun z => by
  rw [z, hq] at hx
  rw [← Option.some.inj hx] at hk
  exact hk hf
/-- the readings of one instrument -/
def aRd (a : adr) (i d1 d2 : Nat) : adr := fun k j => if k = 10 ∧ j = i then d1 else if k = 11 ∧ j = i then d2 else a k j
def flRd (f : Nat → Nat → Nat) (i : Nat) : Nat → Nat → Nat := fun k j => if k = 10 ∧ j = i then 1 else f k j
def mcRd (f : Nat → Nat → Int32) (i : Nat) (m8 m9 : Int32) : Nat → Nat → Int32 := fun k j => if k = 8 ∧ j = i then m8 else if k = 9 ∧ j = i then m9 else f k j
abbrev gaRd (g : gR) (i d1 d2 : Nat) (m8 m9 c : Int32) (iv1 ih1 : Nat → Nat) : gR := (aRd g.1 i d1 d2, flRd g.2.1 i, mcRd g.2.2.1 i m8 m9, fu g.2.2.2.1 i c, fu g.2.2.2.2.1 i iv1, fu g.2.2.2.2.2.1 i ih1, 0)
theorem aRd_10 {a : adr} {i d1 d2 : Nat} : aRd a i d1 d2 10 i = d1 := if_pos ⟨rfl, rfl⟩
theorem aRd_11 {a : adr} {i d1 d2 : Nat} : aRd a i d1 d2 11 i = d2 := (if_neg (by omega)).trans (if_pos ⟨rfl, rfl⟩)
theorem aRd_o {a : adr} {i d1 d2 k j : Nat} (h : 10 ≤ k → j ≠ i) : aRd a i d1 d2 k j = a k j := (if_neg (fun z => h (by omega) z.2)).trans (if_neg (fun z => h (by omega) z.2))
theorem RS.rd {G : mg} {s : St} {g : gR} {M M1 : mw} (h : RS G s g M) {i : Nat} (hi : i < nN s) (gl gi : Nat → Int32) (h0 : gi 0 = itS s i 0) (c : Int32) (n1 : Nat) (rv1 rh1 : Nat → Int32) (iv1 ih1 : Nat → Nat) {m8 m9 : Int32} {d1 d2 : Nat}
    (hd : (flR g 10 i = 1 ∧ d1 = g.1 10 i ∧ d2 = g.1 11 i) ∨ (M d1 = none ∧ M d2 = none ∧ d1 ≠ d2))
    (hX : M1 (g.1 0 0) = some (.inr (10, [.ref (g.1 1 0), .ref (g.1 2 0), .int (gl 2), .int (gl 3), .int (gl 1), .int (gl 0), .int 0])))
    (hI : M1 (g.1 7 i) = some (.inr (8, [.ref (g.1 5 (tbN s i)), .int (gi 1), .int (sof (gi 2)), .int (gi 3), .int (gi 7), .int (gi 6), .int (gi 5), .int (gi 12), .int (gi 13), .int (gi 14), .int (gi 15), .int (gi 8), .int (gi 9), .int (gi 10), .int c, .ref (g.1 8 i), .ref (g.1 9 i)])))
    (hL : M1 (g.1 8 i) = some (.inr (2, [.int m8, .ref d1, .int (nI n1)]))) (hH : M1 (g.1 9 i) = some (.inr (2, [.int m9, .ref d2, .int (nI n1)])))
    (hD : M1 d1 = some (.inl (G.2.1 5, 10, .inr (.inr (.inr (.inr (qf n1 iv1))))))) (hE : M1 d2 = some (.inl (G.2.1 5, 10, .inr (.inr (.inr (.inr (qf n1 ih1)))))))
    (hf : ∀ x e, M x = some e → x ≠ g.1 0 0 → x ≠ g.1 7 i → x ≠ g.1 8 i → x ≠ g.1 9 i → x ≠ d1 → x ≠ d2 → M1 x = some e)
    (hc : gi 5 = 0 → c = gi 11) (hJ : ∀ j, j < n1 → IC G M1 (iv1 j) (rv1 j) ∧ IC G M1 (ih1 j) (rh1 j)) :
    RS G (gl, s.2.1, (nN s, fu (itS s) i gi), (fu (rnS s) i n1, fu (rvS s) i rv1, fu (rhS s) i rh1)) (gaRd g i d1 d2 m8 m9 c iv1 ih1) M1 := by
  have eo : ∀ k j, k < 10 → aRd g.1 i d1 d2 k j = g.1 k j := fun k j a1 => aRd_o (fun z => by omega)
  have a10 : aRd g.1 i d1 d2 10 i = d1 := aRd_10
  have a11 : aRd g.1 i d1 d2 11 i = d2 := aRd_11
  have hdL : ∀ x ∈ [((0, 0) : Nat × Nat), (7, i), (8, i), (9, i), (10, i), (11, i)], (okR s g.2.1 x.1 x.2 ∧ (gaRd g i d1 d2 m8 m9 c iv1 ih1).1 x.1 x.2 = g.1 x.1 x.2) ∨ M ((gaRd g i d1 d2 m8 m9 c iv1 ih1).1 x.1 x.2) = none := by
    intro x hx
    simp only [List.mem_cons, List.not_mem_nil, or_false] at hx
    rcases hx with rfl | rfl | rfl | rfl | rfl | rfl
    · exact Or.inl ⟨ro0, eo 0 0 (by omega)⟩
    · exact Or.inl ⟨ro7 hi, eo 7 i (by omega)⟩
    · exact Or.inl ⟨ro8 hi, eo 8 i (by omega)⟩
    · exact Or.inl ⟨ro9 hi, eo 9 i (by omega)⟩
    · rcases hd with ⟨z1, z2, -⟩ | ⟨z1, -, -⟩
      · exact Or.inl ⟨ro10 hi z1, a10.trans z2⟩
      · exact Or.inr ((congrArg M a10).trans z1)
    · rcases hd with ⟨z1, -, z2⟩ | ⟨-, z1, -⟩
      · exact Or.inl ⟨ro11 hi z1, a11.trans z2⟩
      · exact Or.inr ((congrArg M a11).trans z1)
  have hfL : ∀ x e, M x = some e → (∀ y ∈ [((0, 0) : Nat × Nat), (7, i), (8, i), (9, i), (10, i), (11, i)], x ≠ (gaRd g i d1 d2 m8 m9 c iv1 ih1).1 y.1 y.2) → M1 x = some e := by
    intro x e hx hy
    refine hf x e hx ?_ ?_ ?_ ?_ ?_ ?_
    · have := hy (0, 0) (by simp)
      exact fun z => this (z.trans (eo 0 0 (by omega)).symm)
    · have := hy (7, i) (by simp)
      exact fun z => this (z.trans (eo 7 i (by omega)).symm)
    · have := hy (8, i) (by simp)
      exact fun z => this (z.trans (eo 8 i (by omega)).symm)
    · have := hy (9, i) (by simp)
      exact fun z => this (z.trans (eo 9 i (by omega)).symm)
    · have := hy (10, i) (by simp)
      exact fun z => this (z.trans a10.symm)
    · have := hy (11, i) (by simp)
      exact fun z => this (z.trans a11.symm)
  have hfj : ∀ j, j ≠ i → flRd g.2.1 i 10 j = g.2.1 10 j := fun j z => if_neg (fun y => z y.2)
  refine h.next (s1 := (gl, s.2.1, (nN s, fu (itS s) i gi), (fu (rnS s) i n1, fu (rvS s) i rv1, fu (rhS s) i rh1))) (g1 := gaRd g i d1 d2 m8 m9 c iv1 ih1) [(0, 0), (7, i), (8, i), (9, i), (10, i), (11, i)] ?_ hfL ?_ hdL ?_ ?_
  · intro x hx
    simp only [List.mem_cons, List.not_mem_nil, or_false] at hx
    rcases hx with rfl | rfl | rfl | rfl | rfl | rfl
    · refine (congrArg M1 (eo 0 0 (by omega))).trans (hX.trans (congrArg some ?_))
      show _ = Sum.inr (10, [Value.ref (aRd g.1 i d1 d2 1 0), Value.ref (aRd g.1 i d1 d2 2 0), _, _, _, _, _])
      rw [eo 1 0 (by omega), eo 2 0 (by omega)]
    · refine (congrArg M1 (eo 7 i (by omega))).trans (hI.trans (congrArg some ?_))
      show _ = celI (gl, s.2.1, (nN s, fu (itS s) i gi), (fu (rnS s) i n1, fu (rvS s) i rv1, fu (rhS s) i rh1)) (gaRd g i d1 d2 m8 m9 c iv1 ih1) i
      have e7 : itS (gl, s.2.1, (nN s, fu (itS s) i gi), (fu (rnS s) i n1, fu (rvS s) i rv1, fu (rhS s) i rh1)) i = gi := fu_s
      unfold celI tbN
      rw [e7, h0]
      show _ = Sum.inr (8, [Value.ref (aRd g.1 i d1 d2 5 (tbN s i)), _, _, _, _, _, _, _, _, _, _, _, _, _, Value.int (fu g.2.2.2.1 i c i), Value.ref (aRd g.1 i d1 d2 8 i), Value.ref (aRd g.1 i d1 d2 9 i)])
      rw [eo 5 _ (by omega), eo 8 i (by omega), eo 9 i (by omega), fu_s]
    · refine (congrArg M1 (eo 8 i (by omega))).trans (hL.trans (congrArg some ?_))
      show _ = Sum.inr (2, [Value.int (mcRd g.2.2.1 i m8 m9 8 i), Value.ref (aRd g.1 i d1 d2 10 i), Value.int (nI (fu (rnS s) i n1 i))])
      rw [aRd_10, fu_s, show mcRd g.2.2.1 i m8 m9 8 i = m8 from if_pos ⟨rfl, rfl⟩]
    · refine (congrArg M1 (eo 9 i (by omega))).trans (hH.trans (congrArg some ?_))
      show _ = Sum.inr (2, [Value.int (mcRd g.2.2.1 i m8 m9 9 i), Value.ref (aRd g.1 i d1 d2 11 i), Value.int (nI (fu (rnS s) i n1 i))])
      rw [aRd_11, fu_s, show mcRd g.2.2.1 i m8 m9 9 i = m9 from (if_neg (by omega)).trans (if_pos ⟨rfl, rfl⟩)]
    · refine (congrArg M1 a10).trans (hD.trans (congrArg some ?_))
      show _ = Sum.inl (G.2.1 5, 10, Sum.inr (Sum.inr (Sum.inr (Sum.inr (qf (fu (rnS s) i n1 i) (fu g.2.2.2.2.1 i iv1 i))))))
      rw [fu_s, fu_s]
    · refine (congrArg M1 a11).trans (hE.trans (congrArg some ?_))
      show _ = Sum.inl (G.2.1 5, 10, Sum.inr (Sum.inr (Sum.inr (Sum.inr (qf (fu (rnS s) i n1 i) (fu g.2.2.2.2.2.1 i ih1 i))))))
      rw [fu_s, fu_s]
  · intro k j ho hn
    simp only [List.mem_cons, List.not_mem_nil, or_false, not_or, Prod.mk.injEq, not_and] at hn
    obtain ⟨n1', n2, n3, n4, n5, n6⟩ := hn
    have hk7 : 7 ≤ k → j ≠ i := fun w z => by
      rcases ho with ⟨a1, -⟩ | ⟨a1, -⟩ | ⟨⟨-, a1⟩, -⟩
      · omega
      · omega
      · rcases (show k = 7 ∨ k = 8 ∨ k = 9 ∨ k = 10 ∨ k = 11 by omega) with y | y | y | y | y
        · exact n2 y z
        · exact n3 y z
        · exact n4 y z
        · exact n5 y z
        · exact n6 y z
    have hok : okR s g.2.1 k j := by
      unfold okR at ho ⊢
      rcases ho with ⟨a1, a2, a3⟩ | ⟨a1, a2⟩ | ⟨a1, a2, a3⟩
      · refine Or.inl ⟨a1, a2, fun z => ?_⟩
        exact (show flRd g.2.1 i k 0 = g.2.1 k 0 from if_neg (fun w => by omega)).symm.trans (a3 z)
      · exact Or.inr (Or.inl ⟨a1, a2⟩)
      · refine Or.inr (Or.inr ⟨a1, a2, fun z => ?_⟩)
        rw [← hfj j (hk7 (by omega))]
        exact a3 z
    refine ⟨hok, aRd_o (fun w => hk7 (by omega)), ?_⟩
    match k, hok, hk7, n1' with
    | 0, hok, _, n1' =>
      rcases hok with ⟨-, a2, -⟩ | ⟨a1, -⟩ | ⟨a1, -⟩
      · exact absurd a2 (n1' rfl)
      · omega
      · omega
    | 1, _, _, _ =>
      show Sum.inr (2, [Value.int (mcRd g.2.2.1 i m8 m9 1 0), Value.ref (aRd g.1 i d1 d2 3 0), _]) = _
      rw [eo 3 0 (by omega)]
      rfl
    | 2, _, _, _ =>
      show Sum.inr (2, [Value.int (mcRd g.2.2.1 i m8 m9 2 0), Value.ref (aRd g.1 i d1 d2 4 0), _]) = _
      rw [eo 4 0 (by omega)]
      rfl
    | 3, _, _, _ =>
      show Sum.inl (G.2.1 5, 10, Sum.inr (Sum.inr (Sum.inr (Sum.inr (qf (nT s) (aRd g.1 i d1 d2 5)))))) = _
      rw [show aRd g.1 i d1 d2 5 = g.1 5 from funext (fun j => eo 5 j (by omega))]
      rfl
    | 4, _, _, _ =>
      show Sum.inl (G.2.1 5, 10, Sum.inr (Sum.inr (Sum.inr (Sum.inr (qf (nN s) (aRd g.1 i d1 d2 7)))))) = _
      rw [show aRd g.1 i d1 d2 7 = g.1 7 from funext (fun j => eo 7 j (by omega))]
      rfl
    | 5, _, _, _ =>
      show Sum.inr (9, [Value.ref (aRd g.1 i d1 d2 6 j), _]) = _
      rw [eo 6 j (by omega)]
      rfl
    | 6, _, _, _ => rfl
    | 7, _, hk7, _ =>
      have hj := hk7 (by omega)
      have e7 : itS (gl, s.2.1, (nN s, fu (itS s) i gi), (fu (rnS s) i n1, fu (rvS s) i rv1, fu (rhS s) i rh1)) j = itS s j := fu_n hj
      show celI (gl, s.2.1, (nN s, fu (itS s) i gi), (fu (rnS s) i n1, fu (rvS s) i rv1, fu (rhS s) i rh1)) (gaRd g i d1 d2 m8 m9 c iv1 ih1) j = celI s g j
      unfold celI tbN
      rw [e7]
      show Sum.inr (8, [Value.ref (aRd g.1 i d1 d2 5 _), _, _, _, _, _, _, _, _, _, _, _, _, _, Value.int (fu g.2.2.2.1 i c j), Value.ref (aRd g.1 i d1 d2 8 j), Value.ref (aRd g.1 i d1 d2 9 j)]) = _
      rw [eo 5 _ (by omega), eo 8 j (by omega), eo 9 j (by omega), fu_n hj]
    | 8, _, hk7, _ =>
      have hj := hk7 (by omega)
      show Sum.inr (2, [Value.int (mcRd g.2.2.1 i m8 m9 8 j), Value.ref (aRd g.1 i d1 d2 10 j), Value.int (nI (fu (rnS s) i n1 j))]) = _
      rw [aRd_o (fun _ => hj), fu_n hj, show mcRd g.2.2.1 i m8 m9 8 j = g.2.2.1 8 j from (if_neg (fun z => hj z.2)).trans (if_neg (fun z => hj z.2))]
      rfl
    | 9, _, hk7, _ =>
      have hj := hk7 (by omega)
      show Sum.inr (2, [Value.int (mcRd g.2.2.1 i m8 m9 9 j), Value.ref (aRd g.1 i d1 d2 11 j), Value.int (nI (fu (rnS s) i n1 j))]) = _
      rw [aRd_o (fun _ => hj), fu_n hj, show mcRd g.2.2.1 i m8 m9 9 j = g.2.2.1 9 j from (if_neg (fun z => hj z.2)).trans (if_neg (fun z => hj z.2))]
      rfl
    | 10, _, hk7, _ =>
      have hj := hk7 (by omega)
      show Sum.inl (G.2.1 5, 10, Sum.inr (Sum.inr (Sum.inr (Sum.inr (qf (fu (rnS s) i n1 j) (fu g.2.2.2.2.1 i iv1 j)))))) = _
      rw [fu_n hj, fu_n hj]
      rfl
    | (k + 11), _, hk7, _ =>
      have hj := hk7 (by omega)
      show Sum.inl (G.2.1 5, 10, Sum.inr (Sum.inr (Sum.inr (Sum.inr (qf (fu (rnS s) i n1 j) (fu g.2.2.2.2.2.1 i ih1 j)))))) = _
      rw [fu_n hj, fu_n hj]
      rfl
  · intro x hx y hy z1 z2 z3
    simp only [List.mem_cons, List.not_mem_nil, or_false] at hx hy
    have kk : ∀ k j, k < 10 → okR s g.2.1 k j → M ((gaRd g i d1 d2 m8 m9 c iv1 ih1).1 k j) ≠ none := fun k j a1 a2 w => by
      have := (congrArg M (eo k j a1)).symm.trans w
      rw [h.1 k j a2] at this
      cases this
    have k0 := kk 0 0 (by omega) ro0
    have k7 := kk 7 i (by omega) (ro7 hi)
    have k8 := kk 8 i (by omega) (ro8 hi)
    have k9 := kk 9 i (by omega) (ro9 hi)
    have d3 : M d1 = none → d1 ≠ d2 := fun w => by
      rcases hd with ⟨y1, y2, -⟩ | ⟨-, -, y2⟩
      · rw [y2, h.1 10 i (ro10 hi y1)] at w
        cases w
      · exact y2
    rcases hx with rfl | rfl | rfl | rfl | rfl | rfl <;> rcases hy with rfl | rfl | rfl | rfl | rfl | rfl <;> first | rfl | exact absurd z1 k0 | exact absurd z2 k0 | exact absurd z1 k7 | exact absurd z2 k7 | exact absurd z1 k8 | exact absurd z2 k8 | exact absurd z1 k9 | exact absurd z2 k9 | (exfalso; first | exact d3 ((congrArg M a10).symm.trans z1) (a10.symm.trans (z3.trans a11)) | exact d3 ((congrArg M a10).symm.trans z2) (a10.symm.trans (z3.symm.trans a11)))
  · obtain ⟨s1, s2, s3⟩ := h.2.2
    refine ⟨?_, ?_, fun j hj => ?_⟩
    · show flRd g.2.1 i 3 0 = 1 ∨ (aRd g.1 i d1 d2 3 0 = _ ∧ _)
      rw [eo 3 0 (by omega), show flRd g.2.1 i 3 0 = g.2.1 3 0 from if_neg (by omega)]
      exact s1
    · show flRd g.2.1 i 4 0 = 1 ∨ (aRd g.1 i d1 d2 4 0 = _ ∧ _)
      rw [eo 4 0 (by omega), show flRd g.2.1 i 4 0 = g.2.1 4 0 from if_neg (by omega)]
      exact s2
    · by_cases z : j = i
      · subst z
        refine ⟨Or.inl (if_pos ⟨rfl, rfl⟩), fun y => ?_, fun t ht => ?_⟩
        · have y2 : fu (itS s) j gi j 5 = 0 := y
          rw [fu_s] at y2
          show fu g.2.2.2.1 j c j = fu (itS s) j gi j 11
          rw [fu_s, fu_s]
          exact hc y2
        · have ht2 : t < fu (rnS s) j n1 j := ht
          rw [fu_s] at ht2
          show IC G M1 (fu g.2.2.2.2.1 j iv1 j t) (fu (rvS s) j rv1 j t) ∧ IC G M1 (fu g.2.2.2.2.2.1 j ih1 j t) (fu (rhS s) j rh1 j t)
          rw [fu_s, fu_s, fu_s, fu_s]
          exact hJ t ht2
      · have hj2 : j < nN s := hj
        obtain ⟨t1, t2, t3⟩ := s3 j hj2
        have e7 : itS (gl, s.2.1, (nN s, fu (itS s) i gi), (fu (rnS s) i n1, fu (rvS s) i rv1, fu (rhS s) i rh1)) j = itS s j := fu_n z
        refine ⟨?_, ?_, fun t ht => ?_⟩
        · show flRd g.2.1 i 10 j = 1 ∨ (aRd g.1 i d1 d2 10 j = _ ∧ aRd g.1 i d1 d2 11 j = _ ∧ fu (rnS s) i n1 j = 0)
          rw [hfj j z, aRd_o (fun _ => z), aRd_o (fun _ => z), fu_n z]
          exact t1
        · rw [e7]
          intro y
          show fu g.2.2.2.1 i c j = _
          rw [fu_n z]
          exact t2 y
        · have ht2 : t < fu (rnS s) i n1 j := ht
          rw [fu_n z] at ht2
          show IC G M1 (fu g.2.2.2.2.1 i iv1 j t) (fu (rvS s) i rv1 j t) ∧ IC G M1 (fu g.2.2.2.2.2.1 i ih1 j t) (fu (rhS s) i rh1 j t)
          rw [fu_n z, fu_n z, fu_n z, fu_n z]
          exact ⟨IC.next h.1 _ hfL hdL (t3 t ht2).1, IC.next h.1 _ hfL hdL (t3 t ht2).2⟩
/-- readings cleared where there never were any -/
theorem RS.begE {G : mg} {s : St} {g : gR} {M M1 : mw} (h : RS G s g M) {i : Nat} (hi : i < nN s) (hz : rnS s i = 0) (hfl : ¬ flR g 10 i = 1) {m8 m9 : Int32}
    (hX : M1 (g.1 0 0) = some (.inr (10, [.ref (g.1 1 0), .ref (g.1 2 0), .int (gS s 2), .int (gS s 3), .int (gS s 1), .int (gS s 0), .int 0])))
    (hL : M1 (g.1 8 i) = some (.inr (2, [.int m8, .ref (g.1 10 i), .int 0]))) (hH : M1 (g.1 9 i) = some (.inr (2, [.int m9, .ref (g.1 11 i), .int 0])))
    (hf : ∀ x e, M x = some e → x ≠ g.1 0 0 → x ≠ g.1 8 i → x ≠ g.1 9 i → M1 x = some e) : RS G (begS s i) (g.1, g.2.1, mcRd g.2.2.1 i m8 m9, g.2.2.2.1, g.2.2.2.2.1, g.2.2.2.2.2.1, 0) M1 := by
  have er : fu (rnS s) i 0 = rnS s := by rw [← hz]; exact fu_id
  have e8 : mcRd g.2.2.1 i m8 m9 8 i = m8 := if_pos ⟨rfl, rfl⟩
  have e9 : mcRd g.2.2.1 i m8 m9 9 i = m9 := (if_neg (by omega)).trans (if_pos ⟨rfl, rfl⟩)
  refine h.put (s1 := begS s i) (g1 := (g.1, g.2.1, mcRd g.2.2.1 i m8 m9, g.2.2.2.1, g.2.2.2.2.1, g.2.2.2.2.2.1, 0)) rfl rfl er rfl rfl rfl rfl rfl rfl [(0, 0), (8, i), (9, i)] (fun q hq => ?_) (fun q hq => ?_) (fun x e hx hq => hf x e hx (hq (0, 0) (by simp)) (hq (8, i) (by simp)) (hq (9, i) (by simp))) (fun k' i' hk hn => ?_) (fun i' hi' q => (h.2.2.2.2 i' hi').2.1 q)
  · simp only [List.mem_cons, List.not_mem_nil, or_false] at hq
    rcases hq with rfl | rfl | rfl
    · exact ro0
    · exact ro8 hi
    · exact ro9 hi
  · simp only [List.mem_cons, List.not_mem_nil, or_false] at hq
    rcases hq with rfl | rfl | rfl
    · exact hX
    · refine hL.trans (congrArg some ?_)
      show _ = Sum.inr (2, [Value.int (mcRd g.2.2.1 i m8 m9 8 i), Value.ref (g.1 10 i), Value.int (nI (fu (rnS s) i 0 i))])
      rw [e8, fu_s]
      rfl
    · refine hH.trans (congrArg some ?_)
      show _ = Sum.inr (2, [Value.int (mcRd g.2.2.1 i m8 m9 9 i), Value.ref (g.1 11 i), Value.int (nI (fu (rnS s) i 0 i))])
      rw [e9, fu_s]
      rfl
  · simp only [List.mem_cons, List.not_mem_nil, or_false, not_or, Prod.mk.injEq, not_and] at hn
    obtain ⟨n1, n2, n3⟩ := hn
    match k', hk, n1, n2, n3 with
    | 0, hk, n1, _, _ =>
      rcases hk with ⟨-, a2, -⟩ | ⟨a1, -⟩ | ⟨a1, -⟩
      · exact absurd a2 (n1 rfl)
      · omega
      · omega
    | 1, _, _, _, _ => rfl
    | 2, _, _, _, _ => rfl
    | 3, _, _, _, _ => rfl
    | 4, _, _, _, _ => rfl
    | 5, _, _, _, _ => rfl
    | 6, _, _, _, _ => rfl
    | 7, _, _, _, _ => rfl
    | 8, _, _, n2, _ =>
      have hj := n2 rfl
      show Sum.inr (2, [Value.int (mcRd g.2.2.1 i m8 m9 8 i'), Value.ref (g.1 10 i'), Value.int (nI (fu (rnS s) i 0 i'))]) = _
      rw [er, show mcRd g.2.2.1 i m8 m9 8 i' = g.2.2.1 8 i' from (if_neg (fun z => hj z.2)).trans (if_neg (fun z => hj z.2))]
      rfl
    | 9, _, _, _, n3 =>
      have hj := n3 rfl
      show Sum.inr (2, [Value.int (mcRd g.2.2.1 i m8 m9 9 i'), Value.ref (g.1 11 i'), Value.int (nI (fu (rnS s) i 0 i'))]) = _
      rw [er, show mcRd g.2.2.1 i m8 m9 9 i' = g.2.2.1 9 i' from (if_neg (fun z => hj z.2)).trans (if_neg (fun z => hj z.2))]
      rfl
    | 10, _, _, _, _ =>
      show Sum.inl (G.2.1 5, 10, Sum.inr (Sum.inr (Sum.inr (Sum.inr (qf (fu (rnS s) i 0 i') (ivR g i')))))) = _
      rw [er]
      rfl
    | (k + 11), _, _, _, _ =>
      show Sum.inl (G.2.1 5, 10, Sum.inr (Sum.inr (Sum.inr (Sum.inr (qf (fu (rnS s) i 0 i') (ihR g i')))))) = _
      rw [er]
      rfl
/-- bulbs have crept, each by its own count -/
def crS (s : St) (f : Nat → Nat) : St := (s.1, s.2.1, (nN s, fun i => if i < nN s then fu (itS s i) 3 (crp (itS s i 1) (itS s i 2) (itS s i 3) (f i)) else itS s i), s.2.2.2)
theorem crS_0 (s : St) : crS s (fun _ => 0) = s := by
  have e : (fun i => if i < nN s then fu (itS s i) 3 (crp (itS s i 1) (itS s i 2) (itS s i 3) 0) else itS s i) = itS s := by
    funext i
    by_cases z : i < nN s
    · rw [if_pos z]
      exact fu_id
    · rw [if_neg z]
  unfold crS
  rw [e]
theorem crS_c {s : St} {f f1 : Nat → Nat} (h : ∀ i, i < nN s → f i = f1 i) : crS s f = crS s f1 := by
  have e : (fun i => if i < nN s then fu (itS s i) 3 (crp (itS s i 1) (itS s i 2) (itS s i 3) (f i)) else itS s i) = fun i => if i < nN s then fu (itS s i) 3 (crp (itS s i 1) (itS s i 2) (itS s i 3) (f1 i)) else itS s i := by
    funext i
    by_cases z : i < nN s
    · rw [if_pos z, if_pos z, h i z]
    · rw [if_neg z, if_neg z]
  unfold crS
  rw [e]
theorem crS_i {s : St} {f : Nat → Nat} {i : Nat} (hi : i < nN s) : itS (crS s f) i = fu (itS s i) 3 (crp (itS s i 1) (itS s i 2) (itS s i 3) (f i)) := if_pos hi
theorem RS.cr {G : mg} {s : St} {g : gR} {M M1 : mw} {f : Nat → Nat} (h : RS G (crS s f) g M) {i : Nat} (hi : i < nN s)
    (hI : M1 (g.1 7 i) = some (.inr (8, [.ref (g.1 5 (tbN s i)), .int (itS s i 1), .int (sof (itS s i 2)), .int (crp (itS s i 1) (itS s i 2) (itS s i 3) (f i + 1)), .int (itS s i 7), .int (itS s i 6), .int (itS s i 5), .int (itS s i 12), .int (itS s i 13), .int (itS s i 14), .int (itS s i 15), .int (itS s i 8), .int (itS s i 9), .int (itS s i 10), .int (ceR g i), .ref (g.1 8 i), .ref (g.1 9 i)])))
    (hf : ∀ x e, M x = some e → kd e ≠ 6 → x ≠ g.1 7 i → M1 x = some e) (f1 : Nat → Nat) (h1 : f1 i = f i + 1) (h2 : ∀ j, j < nN s → j ≠ i → f1 j = f j) : RS G (crS s f1) g M1 := by
  have h' : RS G (crS s f) g (fun x => if x = g.1 7 i then M x else M1 x) := h.fr (fun x e hx hk => by
    show (if x = g.1 7 i then M x else M1 x) = some e
    by_cases z : x = g.1 7 i
    · rw [if_pos z]; exact hx
    · rw [if_neg z]; exact hf x e hx hk z)
  refine h'.put (s1 := crS s f1) (g1 := g) rfl rfl rfl rfl rfl rfl rfl rfl rfl [(7, i)] (fun q hq => ?_) (fun q hq => ?_) (fun x e hx hq => ?_) (fun k' i' hk hn => ?_) (fun i' hi' q => ?_)
  · cases List.mem_singleton.mp hq
    exact ro7 hi
  · cases List.mem_singleton.mp hq
    refine hI.trans (congrArg some ?_)
    show _ = celI (crS s f1) g i
    unfold celI tbN
    rw [crS_i hi, h1]
    rfl
  · have hx2 : (if x = g.1 7 i then M x else M1 x) = some e := hx
    rw [if_neg (hq (7, i) List.mem_cons_self)] at hx2
    exact hx2
  · have hn2 : k' = 7 → i' ≠ i := fun z y => hn (by rw [z, y]; exact List.mem_cons_self)
    match k', hk, hn2 with
    | 7, hk, hn2 =>
      have hj := hn2 rfl
      have hi2 : i' < nN s := by
        rcases hk with ⟨a1, -⟩ | ⟨a1, -⟩ | ⟨-, a1, -⟩
        · omega
        · omega
        · exact a1
      show celI (crS s f1) g i' = celI (crS s f) g i'
      unfold celI tbN
      rw [crS_i hi2, crS_i hi2, h2 i' hi2 hj]
    | 0, _, _ => rw [celR_0, celR_0]; rfl
    | 1, _, _ => rw [celR_1, celR_1]; rfl
    | 2, _, _ => rw [celR_2, celR_2]; rfl
    | 3, _, _ => rw [celR_3, celR_3]; rfl
    | 4, _, _ => rw [celR_4, celR_4]; rfl
    | 5, _, _ => rw [celR_5, celR_5]; rfl
    | 6, _, _ => rw [celR_6, celR_6]; rfl
    | 8, _, _ => rw [celR_8, celR_8]; rfl
    | 9, _, _ => rw [celR_9, celR_9]; rfl
    | 10, _, _ => rw [celR_10, celR_10]; rfl
    | (k + 11), _, _ => rw [celR_11, celR_11]; rfl
  · have hi2 : i' < nN s := hi'
    have b := (h'.2.2.2.2 i' hi').2.1
    rw [crS_i hi2] at b q ⊢
    exact b q
/-- where an iterator stands: what it gave last -/
def lrI : Nat → Int32
  | 0 => -1
  | k + 1 => nI k
theorem hx_01 {c n : Nat} (hc : c ≤ n) (hn : n ≤ 8) {r : Int32} (h : r = if nI c = nI n then 0 else 1) : (r = 0 ∧ c = n) ∨ (r = 1 ∧ c < n) := by
  by_cases z : c = n
  · rw [z, if_pos rfl] at h
    exact Or.inl ⟨h, z⟩
  · rw [if_neg (fun q => z ((nI_eq (by omega) (by omega)).mp q))] at h
    exact Or.inr ⟨h, by omega⟩
