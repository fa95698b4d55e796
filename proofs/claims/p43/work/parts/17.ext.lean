/-! ===== something new in the works ===== -/
theorem CS.ext {G : mg} {s s1 : St} {ad ad1 : adr} {M M1 : mw} (h : CS G s ad M) (L : List (Nat × Nat)) (h1 : ∀ q ∈ L, M1 (ad1 q.1 q.2) = some (cel G s1 ad1 q.1 q.2)) (hf : ∀ x, (∀ q ∈ L, x ≠ ad1 q.1 q.2) → M1 x = M x) (hL : ∀ q ∈ L, okS s q.1 q.2 ∨ M (ad1 q.1 q.2) = none) (hok : ∀ k i, okS s1 k i → okS s k i ∨ (k, i) ∈ L) (had : ∀ k i, okS s k i → ad1 k i = ad k i) (ho : ∀ k i, okS s k i → (k, i) ∉ L → cel G s1 ad1 k i = cel G s ad k i) (hinj : ∀ q ∈ L, ∀ q' ∈ L, ¬ okS s q.1 q.2 → ¬ okS s q'.1 q'.2 → ad1 q.1 q.2 = ad1 q'.1 q'.2 → q = q') : CS G s1 ad1 M1 := by
  classical
  have hM : ∀ k i, okS s k i → M (ad k i) ≠ none := fun k i q z => by rw [h.1 k i q] at z; cases z
  have key : ∀ k i k' i', okS s1 k i → okS s1 k' i' → ad1 k i = ad1 k' i' → k = k' ∧ i = i' := by
    intro k i k' i' q1 q2 e
    by_cases o1 : okS s k i
    · by_cases o2 : okS s k' i'
      · exact h.2 _ _ _ _ o1 o2 (by rw [← had _ _ o1, ← had _ _ o2]; exact e)
      · have m2 := (hok _ _ q2).resolve_left o2
        have n2 := (hL _ m2).resolve_left o2
        exact absurd (by rw [← had _ _ o1, e]; exact n2) (hM _ _ o1)
    · have m1 := (hok _ _ q1).resolve_left o1
      have n1 := (hL _ m1).resolve_left o1
      by_cases o2 : okS s k' i'
      · exact absurd (by rw [← had _ _ o2, ← e]; exact n1) (hM _ _ o2)
      · have m2 := (hok _ _ q2).resolve_left o2
        have e9 := hinj _ m1 _ m2 o1 o2 e
        exact ⟨congrArg Prod.fst e9, congrArg Prod.snd e9⟩
  refine ⟨fun k i q => ?_, key⟩
  by_cases z : (k, i) ∈ L
  · exact h1 _ z
  · have o := (hok _ _ q).resolve_right z
    have hn : ∀ q2 ∈ L, ad1 k i ≠ ad1 q2.1 q2.2 := fun q2 hq2 w => by
      rcases hL q2 hq2 with o2 | n2
      · have e := h.2 k i q2.1 q2.2 o o2 (by rw [← had _ _ o, ← had _ _ o2]; exact w)
        exact z (by rw [show (k, i) = q2 from Prod.ext e.1 e.2]; exact hq2)
      · exact hM k i o (by rw [← had _ _ o, w]; exact n2)
    rw [hf _ hn, ho _ _ o z, had _ _ o]
    exact h.1 k i o
theorem qf_up {n q : Nat} {f f1 : Nat → Nat} (hq : f1 n = q) (ho : ∀ j, j < n → f1 j = f j) : va_up (qf n f) n (some q) = qf (n + 1) f1 := by
  funext j
  unfold va_up
  by_cases z : j = n
  · subst z
    rw [if_pos rfl, qf_p (Nat.lt_succ_self _), hq]
  · rw [if_neg z]
    by_cases y : j < n
    · rw [qf_p y, qf_p (by omega), ho j y]
    · rw [qf_n (by omega), qf_n (by omega)]
theorem qf_c {n : Nat} {f f1 : Nat → Nat} (ho : ∀ j, j < n → f1 j = f j) : qf n f1 = qf n f := by
  funext j
  by_cases y : j < n
  · rw [qf_p y, qf_p y, ho j y]
  · rw [qf_n (by omega), qf_n (by omega)]
theorem ok_1 {s : St} {k i : Nat} (h : okS s k i) (hk : k < 3) : i = 0 := by
  unfold okS at h
  omega
theorem ok_3 {s : St} {k i : Nat} (h : okS s k i) (hk : k = 3 ∨ k = 4) : i < nT s := by
  unfold okS at h
  omega
theorem ok_5 {s : St} {k i : Nat} (h : okS s k i) (hk : 5 ≤ k) : k ≤ 9 ∧ i < nN s := by
  unfold okS at h
  omega
theorem nok {s : St} {k i : Nat} (hk : k = 3 ∨ k = 4) (h : nT s ≤ i) : ¬ okS s k i := fun q => by
  have := ok_3 q hk
  omega
theorem nok5 {s : St} {k i : Nat} (hk : 5 ≤ k) (h : nN s ≤ i) : ¬ okS s k i := fun q => by
  have := (ok_5 q hk).2
  omega
/-- a tube more -/
def adT (ad : adr) (n q b : Nat) : adr := fun k i => if i = n then (if k = 3 then q else if k = 4 then b else ad k i) else ad k i
theorem adT_o {ad : adr} {n q b k i : Nat} (h : (k ≠ 3 ∧ k ≠ 4) ∨ i ≠ n) : adT ad n q b k i = ad k i := by
  unfold adT
  by_cases e : i = n
  · rw [if_pos e, if_neg (by omega), if_neg (by omega)]
  · rw [if_neg e]
theorem adT_3 {ad : adr} {n q b : Nat} : adT ad n q b 3 n = q := by
  unfold adT
  rw [if_pos rfl, if_pos rfl]
theorem adT_4 {ad : adr} {n q b : Nat} : adT ad n q b 4 n = b := by
  unfold adT
  rw [if_pos rfl, if_neg (by decide), if_pos rfl]
theorem cs_addT {G : mg} {s : St} {ad : adr} {M M1 : mw} (h : CS G s ad M) (hV : Inv s) {q b : Nat} {p0 p1 : Int32} (hq : M q = none) (hb : M b = none) (hqb : q ≠ b)
    (h0 : M1 (ad 0 0) = some (.inr (4, [.ref (ad 1 0), .ref (ad 2 0), .int (nI (nT s + 1)), .int (nI (nN s)), .int (gS s 0), .int (gS s 1), .int (gS s 2), .int (gS s 3), .int (gS s 4)])))
    (h1 : M1 (ad 1 0) = some (.inl (G.2.1 3, 8, .inr (.inr (.inr (.inr (va_up (qf (nT s) (ad 3)) (nT s) (some q))))))))
    (h3 : M1 q = some (.inr (3, [.ref b, .int 0]))) (h4 : M1 b = some (.inl (G.2.1 0, 20, .inl (dboU p0 p1 20))))
    (hf : ∀ x, x ≠ ad 0 0 → x ≠ ad 1 0 → x ≠ q → x ≠ b → M1 x = M x) : CS G (addT s p0 p1) (adT ad (nT s) q b) M1 := by
  have eo : ∀ k i, okS s k i → adT ad (nT s) q b k i = ad k i := fun k i o => adT_o (by
    by_cases hk : k = 3 ∨ k = 4
    · have := ok_3 o hk
      omega
    · omega)
  refine CS.ext h [(0, 0), (1, 0), (3, nT s), (4, nT s)] ?_ ?_ ?_ ?_ eo ?_ ?_
  · intro x hx
    simp only [List.mem_cons, List.not_mem_nil, or_false] at hx
    rcases hx with rfl | rfl | rfl | rfl
    · show M1 (adT ad (nT s) q b 0 0) = some (cel G _ _ 0 0)
      rw [cel_0, eo 0 0 (ok0 s), eo 1 0 (ok1 s), eo 2 0 (ok2 s)]
      exact h0
    · show M1 (adT ad (nT s) q b 1 0) = some (cel G _ _ 1 0)
      rw [cel_1, eo 1 0 (ok1 s), h1]
      exact congrArg (fun z => some (Sum.inl (G.2.1 3, 8, Sum.inr (Sum.inr (Sum.inr (Sum.inr z)))))) (qf_up adT_3 (fun j hj => adT_o (Or.inr (by omega))))
    · show M1 (adT ad (nT s) q b 3 (nT s)) = some (cel G _ _ 3 (nT s))
      rw [cel_3, adT_3, adT_4, h3]
      exact congrArg (fun z => some (Sum.inr (3, [Value.ref b, Value.int z]))) fu_s.symm
    · show M1 (adT ad (nT s) q b 4 (nT s)) = some (cel G _ _ 4 (nT s))
      rw [cel_4, adT_4, h4]
      exact congrArg (fun z => some (Sum.inl (G.2.1 0, 20, Sum.inl z))) fu_s.symm
  · intro x hx
    refine hf x ?_ ?_ ?_ ?_
    · have := hx (0, 0) (List.mem_cons_self ..)
      rw [eo 0 0 (ok0 s)] at this
      exact this
    · have := hx (1, 0) (List.mem_cons_of_mem _ (List.mem_cons_self ..))
      rw [eo 1 0 (ok1 s)] at this
      exact this
    · have := hx (3, nT s) (List.mem_cons_of_mem _ (List.mem_cons_of_mem _ (List.mem_cons_self ..)))
      rw [adT_3] at this
      exact this
    · have := hx (4, nT s) (List.mem_cons_of_mem _ (List.mem_cons_of_mem _ (List.mem_cons_of_mem _ (List.mem_cons_self ..))))
      rw [adT_4] at this
      exact this
  · intro x hx
    simp only [List.mem_cons, List.not_mem_nil, or_false] at hx
    rcases hx with rfl | rfl | rfl | rfl
    · exact Or.inl (ok0 s)
    · exact Or.inl (ok1 s)
    · right
      rw [adT_3]
      exact hq
    · right
      rw [adT_4]
      exact hb
  · intro k i o
    simp only [List.mem_cons, List.not_mem_nil, or_false, Prod.mk.injEq]
    have e1 : nT (addT s p0 p1) = nT s + 1 := rfl
    have e2 : nN (addT s p0 p1) = nN s := rfl
    unfold okS at o ⊢
    rw [e1, e2] at o
    omega
  · intro k i o z
    simp only [List.mem_cons, List.not_mem_nil, or_false, Prod.mk.injEq] at z
    match k, o, z with
    | 0, o, z => exact absurd (ok_1 o (by omega)) (by omega)
    | 1, o, z => exact absurd (ok_1 o (by omega)) (by omega)
    | 2, o, z =>
      rw [cel_2, cel_2]
      exact congrArg (fun z => Sum.inl (G.2.1 4, 6, Sum.inr (Sum.inr (Sum.inr (Sum.inr z))))) (qf_c (fun j _ => adT_o (by omega)))
    | 3, o, z =>
      have hi := ok_3 o (by omega)
      rw [cel_3, cel_3, eo 4 i (ok4 hi)]
      exact congrArg (fun z => Sum.inr (3, [Value.ref (ad 4 i), Value.int z])) (fu_n (by omega))
    | 4, o, z =>
      have hi := ok_3 o (by omega)
      rw [cel_4, cel_4]
      exact congrArg (fun z => Sum.inl (G.2.1 0, 20, Sum.inl z)) (fu_n (by omega))
    | 5, o, z =>
      have hi := (ok_5 o (by omega)).2
      have ht := hV.tb hi
      rw [cel_5, cel_5]
      unfold cI
      rw [show tbN (addT s p0 p1) i = tbN s i from rfl, eo 3 _ (ok3 ht), eo 6 i (ok6 hi), eo 7 i (ok7 hi)]
      rfl
    | 6, o, z =>
      have hi := (ok_5 o (by omega)).2
      have ht := hV.tb hi
      rw [cel_6, cel_6]
      unfold cSc
      rw [show tbN (addT s p0 p1) i = tbN s i from rfl, eo 3 _ (ok3 ht)]
      rfl
    | 7, o, z =>
      have hi := (ok_5 o (by omega)).2
      rw [cel_7, cel_7, eo 8 i (ok8 hi), eo 9 i (ok9 hi)]
      rfl
    | 8, o, z =>
      rw [cel_8, cel_8]
      rfl
    | (k + 9), o, z => rw [cel_9, cel_9]; rfl
  · intro x hx y hy nx ny e
    simp only [List.mem_cons, List.not_mem_nil, or_false] at hx hy
    rcases hx with rfl | rfl | rfl | rfl
    · exact absurd (ok0 s) nx
    · exact absurd (ok1 s) nx
    all_goals
      rcases hy with rfl | rfl | rfl | rfl
      · exact absurd (ok0 s) ny
      · exact absurd (ok1 s) ny
    · rfl
    · exact absurd (by rw [← adT_3 (ad := ad) (n := nT s) (q := q) (b := b), e, adT_4]) hqb
    · exact absurd (by rw [← adT_3 (ad := ad) (n := nT s) (q := q) (b := b), ← e, adT_4]) hqb
    · rfl

/-- an instrument more -/
def adI (ad : adr) (n : Nat) (f : Nat → Nat) : adr := fun k i => if 5 ≤ k ∧ i = n then f k else ad k i
theorem adI_o {ad : adr} {n k i : Nat} {f : Nat → Nat} (h : k < 5 ∨ i ≠ n) : adI ad n f k i = ad k i := by
  unfold adI
  rw [if_neg (by omega)]
theorem adI_s {ad : adr} {n k : Nat} {f : Nat → Nat} (h : 5 ≤ k) : adI ad n f k n = f k := by
  unfold adI
  rw [if_pos ⟨h, rfl⟩]
def n5 (a b c d e : Nat) : Nat → Nat := fun k => if k = 5 then a else if k = 6 then b else if k = 7 then c else if k = 8 then d else e
theorem okI_new {s s1 : St} {t k i : Nat} (e1 : nT s1 = nT s) (e2 : nN s1 = nN s + 1) (o : okS s1 k i) : okS s k i ∨ (k = 0 ∧ i = 0 ∨ k = 2 ∧ i = 0 ∨ k = 3 ∧ i = t ∨ k = 5 ∧ i = nN s ∨ k = 6 ∧ i = nN s ∨ k = 7 ∧ i = nN s ∨ k = 8 ∧ i = nN s ∨ k = 9 ∧ i = nN s) := by
  unfold okS at o ⊢
  rw [e1, e2] at o
  by_cases z : i = nN s
  · omega
  · left
    omega
theorem cs_addI {G : mg} {s : St} {ad : adr} {M M1 : mw} (h : CS G s ad M) (hV : Inv s) {p0 p1 p2 : Int32} (ht : ix p0 < nT s) {a b c d e : Nat} (ha : M a = none) (hb : M b = none) (hc : M c = none) (hd : M d = none) (he : M e = none)
    (hab : a ≠ b) (hac : a ≠ c) (had : a ≠ d) (hae : a ≠ e) (hbc : b ≠ c) (hbd : b ≠ d) (hbe : b ≠ e) (hcd : c ≠ d) (hce : c ≠ e) (hde : d ≠ e)
    (h0 : M1 (ad 0 0) = some (.inr (4, [.ref (ad 1 0), .ref (ad 2 0), .int (nI (nT s)), .int (nI (nN s + 1)), .int (gS s 0), .int (gS s 1), .int (gS s 2), .int (gS s 3), .int (gS s 4)])))
    (h2 : M1 (ad 2 0) = some (.inl (G.2.1 4, 6, .inr (.inr (.inr (.inr (va_up (qf (nN s) (ad 5)) (nN s) (some a))))))))
    (h3 : M1 (ad 3 (ix p0)) = some (.inr (3, [.ref (ad 4 (ix p0)), .int 1])))
    (h5 : M1 a = some (.inr (0, [.int p0, .ref (ad 3 (ix p0)), .int p1, .int p2, .ref b, .ref c, .int 0, .int 0, .int 0, .int 32, .int 0, .int 0, .int 0, .int (-1), .int (-1)])))
    (h6 : M1 b = some (.inr (2, [.ref (ad 3 (ix p0)), .int (-1), .int (-1), .int 0, .int 32])))
    (h7 : M1 c = some (.inr (1, [.ref d, .ref e, .int 0]))) (h8 : M1 d = some (.inl (G.2.1 0, 8, .inl (fun _ => 0)))) (h9 : M1 e = some (.inl (G.2.1 0, 8, .inl (fun _ => 0))))
    (hf : ∀ x, x ≠ ad 0 0 → x ≠ ad 2 0 → x ≠ ad 3 (ix p0) → x ≠ a → x ≠ b → x ≠ c → x ≠ d → x ≠ e → M1 x = M x) : CS G (addI s p0 p1 p2) (adI ad (nN s) (n5 a b c d e)) M1 := by
  have eo : ∀ k i, okS s k i → adI ad (nN s) (n5 a b c d e) k i = ad k i := fun k i o => adI_o (by
    by_cases hk : 5 ≤ k
    · have := (ok_5 o hk).2
      omega
    · omega)
  have e5 : adI ad (nN s) (n5 a b c d e) 5 (nN s) = a := adI_s (by omega)
  have e6 : adI ad (nN s) (n5 a b c d e) 6 (nN s) = b := adI_s (by omega)
  have e7 : adI ad (nN s) (n5 a b c d e) 7 (nN s) = c := adI_s (by omega)
  have e8 : adI ad (nN s) (n5 a b c d e) 8 (nN s) = d := adI_s (by omega)
  have e9 : adI ad (nN s) (n5 a b c d e) 9 (nN s) = e := adI_s (by omega)
  have eI : itS (addI s p0 p1 p2) (nN s) = newI p0 p1 p2 := fu_s
  have eIo : ∀ i, i < nN s → itS (addI s p0 p1 p2) i = itS s i := fun i hi => fu_n (by omega)
  have eN : rnS (addI s p0 p1 p2) (nN s) = 0 := fu_s
  have eT : tbN (addI s p0 p1 p2) (nN s) = ix p0 := by
    show (itS (addI s p0 p1 p2) (nN s) 0).toNatClampNeg = _
    rw [eI]
    rfl
  have eTo : ∀ i, i < nN s → tbN (addI s p0 p1 p2) i = tbN s i := fun i hi => by
    show (itS (addI s p0 p1 p2) i 0).toNatClampNeg = _
    rw [eIo i hi]
  refine CS.ext h [(0, 0), (2, 0), (3, ix p0), (5, nN s), (6, nN s), (7, nN s), (8, nN s), (9, nN s)] ?_ ?_ ?_ ?_ eo ?_ ?_
  · intro x hx
    simp only [List.mem_cons, List.not_mem_nil, or_false] at hx
    rcases hx with rfl | rfl | rfl | rfl | rfl | rfl | rfl | rfl
    · show M1 (adI ad (nN s) (n5 a b c d e) 0 0) = some (cel G _ _ 0 0)
      rw [cel_0, eo 0 0 (ok0 s), eo 1 0 (ok1 s), eo 2 0 (ok2 s)]
      exact h0
    · show M1 (adI ad (nN s) (n5 a b c d e) 2 0) = some (cel G _ _ 2 0)
      rw [cel_2, eo 2 0 (ok2 s), h2]
      exact congrArg (fun z => some (Sum.inl (G.2.1 4, 6, Sum.inr (Sum.inr (Sum.inr (Sum.inr z)))))) (qf_up e5 (fun j hj => adI_o (Or.inr (by omega))))
    · show M1 (adI ad (nN s) (n5 a b c d e) 3 (ix p0)) = some (cel G _ _ 3 (ix p0))
      rw [cel_3, eo 3 _ (ok3 ht), eo 4 _ (ok4 ht), h3]
      exact congrArg (fun z => some (Sum.inr (3, [Value.ref (ad 4 (ix p0)), Value.int z]))) fu_s.symm
    · show M1 (adI ad (nN s) (n5 a b c d e) 5 (nN s)) = some (cel G _ _ 5 (nN s))
      rw [cel_5, e5, h5]
      unfold cI
      rw [eT, e6, e7, eo 3 _ (ok3 ht), eI]
      rfl
    · show M1 (adI ad (nN s) (n5 a b c d e) 6 (nN s)) = some (cel G _ _ 6 (nN s))
      rw [cel_6, e6, h6]
      unfold cSc
      rw [eT, eo 3 _ (ok3 ht), eI]
      rfl
    · show M1 (adI ad (nN s) (n5 a b c d e) 7 (nN s)) = some (cel G _ _ 7 (nN s))
      rw [cel_7, e7, e8, e9, h7, eN]
      rfl
    · show M1 (adI ad (nN s) (n5 a b c d e) 8 (nN s)) = some (cel G _ _ 8 (nN s))
      rw [cel_8, e8, h8]
      exact congrArg (fun z => some (Sum.inl (G.2.1 0, 8, Sum.inl z))) fu_s.symm
    · show M1 (adI ad (nN s) (n5 a b c d e) 9 (nN s)) = some (cel G _ _ (0 + 9) (nN s))
      rw [cel_9, e9, h9]
      refine congrArg (fun z => some (Sum.inl (G.2.1 0, 8, Sum.inl z))) ?_
      funext j
      show (0 : Int32) = rvS (addI s p0 p1 p2) (nN s) j - rhS (addI s p0 p1 p2) (nN s) j
      rw [show rvS (addI s p0 p1 p2) (nN s) = fun _ => 0 from fu_s, show rhS (addI s p0 p1 p2) (nN s) = fun _ => 0 from fu_s]
      show (0 : Int32) = 0 - 0
      decide
  · intro x hx
    have hx' : ∀ k i, (k, i) ∈ [(0, 0), (2, 0), (3, ix p0), (5, nN s), (6, nN s), (7, nN s), (8, nN s), (9, nN s)] → x ≠ adI ad (nN s) (n5 a b c d e) k i := fun k i q => hx (k, i) q
    refine hf x ?_ ?_ ?_ ?_ ?_ ?_ ?_ ?_
    · rw [← eo 0 0 (ok0 s)]
      exact hx' _ _ (by simp)
    · rw [← eo 2 0 (ok2 s)]
      exact hx' _ _ (by simp)
    · rw [← eo 3 _ (ok3 ht)]
      exact hx' _ _ (by simp)
    · rw [← e5]
      exact hx' _ _ (by simp)
    · rw [← e6]
      exact hx' _ _ (by simp)
    · rw [← e7]
      exact hx' _ _ (by simp)
    · rw [← e8]
      exact hx' _ _ (by simp)
    · rw [← e9]
      exact hx' _ _ (by simp)
  · intro x hx
    simp only [List.mem_cons, List.not_mem_nil, or_false] at hx
    rcases hx with rfl | rfl | rfl | rfl | rfl | rfl | rfl | rfl
    · exact Or.inl (ok0 s)
    · exact Or.inl (ok2 s)
    · exact Or.inl (ok3 ht)
    · right
      show M (adI ad (nN s) (n5 a b c d e) 5 (nN s)) = none
      rw [e5]
      exact ha
    · right
      show M (adI ad (nN s) (n5 a b c d e) 6 (nN s)) = none
      rw [e6]
      exact hb
    · right
      show M (adI ad (nN s) (n5 a b c d e) 7 (nN s)) = none
      rw [e7]
      exact hc
    · right
      show M (adI ad (nN s) (n5 a b c d e) 8 (nN s)) = none
      rw [e8]
      exact hd
    · right
      show M (adI ad (nN s) (n5 a b c d e) 9 (nN s)) = none
      rw [e9]
      exact he
  · intro k i o
    simp only [List.mem_cons, List.not_mem_nil, or_false, Prod.mk.injEq]
    exact okI_new (s1 := addI s p0 p1 p2) rfl rfl o
  · intro k i o z
    simp only [List.mem_cons, List.not_mem_nil, or_false, Prod.mk.injEq] at z
    match k, o, z with
    | 0, o, z => exact absurd (ok_1 o (by omega)) (by omega)
    | 1, o, z =>
      rw [cel_1, cel_1]
      exact congrArg (fun z => Sum.inl (G.2.1 3, 8, Sum.inr (Sum.inr (Sum.inr (Sum.inr z))))) (qf_c (fun j _ => adI_o (by omega)))
    | 2, o, z => exact absurd (ok_1 o (by omega)) (by omega)
    | 3, o, z =>
      have hi := ok_3 o (by omega)
      rw [cel_3, cel_3, eo 4 i (ok4 hi)]
      exact congrArg (fun z => Sum.inr (3, [Value.ref (ad 4 i), Value.int z])) (fu_n (by omega))
    | 4, o, z =>
      rw [cel_4, cel_4]
      rfl
    | 5, o, z =>
      have hi := (ok_5 o (by omega)).2
      rw [cel_5, cel_5]
      unfold cI
      rw [eTo i hi, eIo i hi, eo 3 _ (ok3 (hV.tb hi)), eo 6 i (ok6 hi), eo 7 i (ok7 hi)]
    | 6, o, z =>
      have hi := (ok_5 o (by omega)).2
      rw [cel_6, cel_6]
      unfold cSc
      rw [eTo i hi, eIo i hi, eo 3 _ (ok3 (hV.tb hi))]
    | 7, o, z =>
      have hi := (ok_5 o (by omega)).2
      rw [cel_7, cel_7, eo 8 i (ok8 hi), eo 9 i (ok9 hi), show rnS (addI s p0 p1 p2) i = rnS s i from fu_n (by omega)]
    | 8, o, z =>
      have hi := (ok_5 o (by omega)).2
      rw [cel_8, cel_8, show rvS (addI s p0 p1 p2) i = rvS s i from fu_n (by omega)]
    | (k + 9), o, z =>
      have hi := (ok_5 o (by omega)).2
      rw [cel_9, cel_9]
      show (Sum.inl (G.2.1 0, 8, Sum.inl (fun j => rvS (addI s p0 p1 p2) i j - rhS (addI s p0 p1 p2) i j)) : va_E) = _
      rw [show rvS (addI s p0 p1 p2) i = rvS s i from fu_n (by omega), show rhS (addI s p0 p1 p2) i = rhS s i from fu_n (by omega)]
  · intro x hx y hy nx ny e0
    simp only [List.mem_cons, List.not_mem_nil, or_false] at hx hy
    have hz : ∀ z, z ∈ [(0, 0), (2, 0), (3, ix p0), (5, nN s), (6, nN s), (7, nN s), (8, nN s), (9, nN s)] → ¬ okS s z.1 z.2 → ∃ k, 5 ≤ k ∧ k ≤ 9 ∧ z = (k, nN s) := by
      intro z hz nz
      simp only [List.mem_cons, List.not_mem_nil, or_false] at hz
      rcases hz with rfl | rfl | rfl | rfl | rfl | rfl | rfl | rfl
      · exact absurd (ok0 s) nz
      · exact absurd (ok2 s) nz
      · exact absurd (ok3 ht) nz
      · exact ⟨5, by omega, by omega, rfl⟩
      · exact ⟨6, by omega, by omega, rfl⟩
      · exact ⟨7, by omega, by omega, rfl⟩
      · exact ⟨8, by omega, by omega, rfl⟩
      · exact ⟨9, by omega, by omega, rfl⟩
    obtain ⟨k, k1, k2, rfl⟩ := hz x (by simpa using hx) nx
    obtain ⟨l, l1, l2, rfl⟩ := hz y (by simpa using hy) ny
    have e1 : n5 a b c d e k = n5 a b c d e l := by
      exact ((adI_s (ad := ad) (n := nN s) (f := n5 a b c d e) k1).symm.trans e0).trans (adI_s l1)
    have hkl : k = l := by
      rcases (show k = 5 ∨ k = 6 ∨ k = 7 ∨ k = 8 ∨ k = 9 by omega) with rfl | rfl | rfl | rfl | rfl
      · rcases (show l = 5 ∨ l = 6 ∨ l = 7 ∨ l = 8 ∨ l = 9 by omega) with rfl | rfl | rfl | rfl | rfl
        · rfl
        · exact absurd (show a = b from e1) hab
        · exact absurd (show a = c from e1) hac
        · exact absurd (show a = d from e1) had
        · exact absurd (show a = e from e1) hae
      · rcases (show l = 5 ∨ l = 6 ∨ l = 7 ∨ l = 8 ∨ l = 9 by omega) with rfl | rfl | rfl | rfl | rfl
        · exact absurd (show b = a from e1) (Ne.symm hab)
        · rfl
        · exact absurd (show b = c from e1) hbc
        · exact absurd (show b = d from e1) hbd
        · exact absurd (show b = e from e1) hbe
      · rcases (show l = 5 ∨ l = 6 ∨ l = 7 ∨ l = 8 ∨ l = 9 by omega) with rfl | rfl | rfl | rfl | rfl
        · exact absurd (show c = a from e1) (Ne.symm hac)
        · exact absurd (show c = b from e1) (Ne.symm hbc)
        · rfl
        · exact absurd (show c = d from e1) hcd
        · exact absurd (show c = e from e1) hce
      · rcases (show l = 5 ∨ l = 6 ∨ l = 7 ∨ l = 8 ∨ l = 9 by omega) with rfl | rfl | rfl | rfl | rfl
        · exact absurd (show d = a from e1) (Ne.symm had)
        · exact absurd (show d = b from e1) (Ne.symm hbd)
        · exact absurd (show d = c from e1) (Ne.symm hcd)
        · rfl
        · exact absurd (show d = e from e1) hde
      · rcases (show l = 5 ∨ l = 6 ∨ l = 7 ∨ l = 8 ∨ l = 9 by omega) with rfl | rfl | rfl | rfl | rfl
        · exact absurd (show e = a from e1) (Ne.symm hae)
        · exact absurd (show e = b from e1) (Ne.symm hbe)
        · exact absurd (show e = c from e1) (Ne.symm hce)
        · exact absurd (show e = d from e1) (Ne.symm hde)
        · rfl
    rw [hkl]
/-- the works at their start -/
def stZ : St := (fun k => if k = 0 then 200 else 0, (0, fun _ _ => 0, fun _ => 0), (0, fun _ _ => 0), (fun _ => 0, fun _ _ => 0, fun _ _ => 0))
def ad3 (a b c : Nat) : adr := fun k _ => if k = 0 then a else if k = 1 then b else c
theorem qf_0 {f : Nat → Nat} : (fun _ => none) = qf 0 f := by
  funext j
  rw [qf_n (Nat.zero_le _)]
theorem cs_start {G : mg} {M1 : mw} {a b c : Nat} (hab : a ≠ b) (hac : a ≠ c) (hbc : b ≠ c)
    (h0 : M1 a = some (.inr (4, [.ref b, .ref c, .int 0, .int 0, .int 200, .int 0, .int 0, .int 0, .int 0])))
    (h1 : M1 b = some (.inl (G.2.1 3, 8, .inr (.inr (.inr (.inr (fun _ => none))))))) (h2 : M1 c = some (.inl (G.2.1 4, 6, .inr (.inr (.inr (.inr (fun _ => none))))))) : CS G stZ (ad3 a b c) M1 := by
  have ok : ∀ k i, okS stZ k i → (k = 0 ∨ k = 1 ∨ k = 2) ∧ i = 0 := fun k i o => by
    have e1 : nT stZ = 0 := rfl
    have e2 : nN stZ = 0 := rfl
    unfold okS at o
    rw [e1, e2] at o
    omega
  refine ⟨fun k i o => ?_, fun k i k' i' o o' e => ?_⟩
  · obtain ⟨hk, rfl⟩ := ok k i o
    rcases hk with rfl | rfl | rfl
    · rw [cel_0]
      exact h0
    · rw [cel_1, show nT stZ = 0 from rfl, ← qf_0]
      exact h1
    · rw [cel_2, show nN stZ = 0 from rfl, ← qf_0]
      exact h2
  · obtain ⟨hk, rfl⟩ := ok k i o
    obtain ⟨hk', rfl⟩ := ok k' i' o'
    refine ⟨?_, rfl⟩
    rcases hk with rfl | rfl | rfl <;> rcases hk' with rfl | rfl | rfl <;> first | rfl | (exfalso; simp [ad3] at e; first | exact hab e | exact hac e | exact hbc e | exact hab e.symm | exact hac e.symm | exact hbc e.symm)
theorem stZ_inv : Inv stZ := by
  refine ⟨⟨by show 0 ≤ 8; omega, by show 0 ≤ 6; omega⟩, fun i hi => absurd hi (by show ¬ i < 0; omega), fun i hi => absurd hi (by show ¬ i < 0; omega), fun i j hi => absurd hi (by show ¬ i < 0; omega), ?_⟩
  rfl

section MW
variable {p : Program} {l : Launch} {e : Env} {R : Room} {s : State} {m : MethodId} {args : Array Value} {below : List Frame} {meth : Method} {c : Code} {H : Heap} {locs : List Loc} {cells slots : Nat} {Q : State → Prop}
variable {cc : ByteArray} {pc : Nat} {ls : Array Slot} {rest : List Value} {D : va_G} {A : Nat → Prop} {a : Nat} {tys : List (ClassId × FieldType)} {M : mw} {H0 : Heap}
theorem m_newq (hexec : p.tables.exec = Jvm.exec) (hb : c.code = cc) {own C : String} {index : Nat} (hown : s.vm.findClass own = some m.cls) (hclink : (Cond.classLink own index C).before args s = true) (hover : va_AO C s) (hK : va_K D vwCl tys s) (hP : mP D M H) (hI : mI A M) (hS : va_S A H0 H locs) (hA : ∀ q, H0.size ≤ q → A q) (t0 : Nat) {cI : ClassId} (hcI : tys[t0]? = some (cI, .object C))
    {n : Int32} {N' : Nat} (hn : ¬ n < 0) (hN : n.toNatClampNeg = N') (hbytes : N' * 4 ≤ 536870912) (hcells : cells + 1 ≤ R.cells) (hslots : slots + N' ≤ R.slots) (hdg : decode cc pc = .ok (.anewarray index, 3))
    (kk : ∀ (q : Nat) (H1 : Heap), M q = none → mP D (mu M q (.inl (cI, N', .inr (.inr (.inr (.inr (fun _ => none))))))) H1 → mI A (mu M q (.inl (cI, N', .inr (.inr (.inr (.inr (fun _ => none))))))) → va_S A H0 H1 locs →
      W p l e R s m args below meth c H1 locs (cells + 1) (slots + N') Q (F0 m (pc + 3) ls (.ref q :: rest))) : W p l e R s m args below meth c H locs cells slots Q (F0 m pc ls (.int n :: rest)) := by
  obtain ⟨ws, hL, hPw, hDw⟩ := mL_ex hP
  refine va_newq hexec hb hown hclink hover hK hPw (hDw A hI) hS hA hn hN hbytes hcells hslots hdg (fun q cA H1 h0 h1 h2 h3 => ?_)
  have hR := (h0.2 tys.length (cA, .object C) (by rw [List.getElem?_append_right (Nat.le_refl _), Nat.sub_self]; rfl)).2
  have hR2 := (hK.2 t0 _ hcI).2
  obtain ⟨-, -, -, -, -, h4⟩ := hR
  obtain ⟨-, -, -, -, -, h5⟩ := hR2
  have hcA : cA = cI := Option.some.inj (h4.symm.trans h5)
  subst hcA
  exact kk q H1 (hL.fresh h2) (hL.push h1) (hI.mu (h2.2 ws.length (q, _) (by rw [List.getElem?_append_right (Nat.le_refl _), Nat.sub_self]; rfl))) h3
end MW
