theorem nn_of {M M1 : mw} {q : Nat} (hf : ∀ e, M q = some e → M1 q = some e) (h : M1 q = none) : M q = none := by
  cases e : M q with
  | none => rfl
  | some x =>
    rw [hf x e] at h
    cases h
def adR0 (x a b e : Nat) : adr := fun k _ => if k = 0 then x else if k = 1 then a else if k = 2 then b else e
theorem rs_start {G : mg} {M1 : mw} {x a b : Nat} (hxa : x ≠ a) (hxb : x ≠ b) (hab : a ≠ b)
    (h0 : M1 x = some (.inr (10, [.ref a, .ref b, .int 0, .int 0, .int 0, .int 200, .int 0])))
    (h1 : M1 a = some (.inr (2, [.int 0, .ref (G.2.2.2 1), .int 0]))) (h2 : M1 b = some (.inr (2, [.int 0, .ref (G.2.2.2 1), .int 0]))) :
    RS G stZ (adR0 x a b (G.2.2.2 1), (fun _ _ => 0), (fun _ _ => 0), (fun _ => 0), (fun _ _ => 0), (fun _ _ => 0), 0) M1 := by
  have ok : ∀ k i, okR stZ (fun _ _ => 0) k i → (k = 0 ∨ k = 1 ∨ k = 2) ∧ i = 0 := fun k i o => by
    have e1 : nT stZ = 0 := rfl
    have e2 : nN stZ = 0 := rfl
    unfold okR at o
    rw [e1, e2] at o
    rcases o with ⟨a1, a2, a3⟩ | ⟨-, a2⟩ | ⟨-, a2, -⟩
    · refine ⟨?_, a2⟩
      rcases Nat.lt_or_ge k 3 with q | q
      · omega
      · exact absurd (show (0 : Nat) = 1 from a3 q) (by omega)
    · omega
    · omega
  refine ⟨fun k i o => ?_, fun k i k' i' o o' e => ?_, Or.inr ⟨rfl, rfl⟩, Or.inr ⟨rfl, rfl⟩, fun i hi => absurd hi (Nat.not_lt_zero i)⟩
  · obtain ⟨hk, rfl⟩ := ok k i o
    rcases hk with rfl | rfl | rfl
    · exact h0
    · exact h1
    · exact h2
  · obtain ⟨hk, hi⟩ := ok k i o
    obtain ⟨hk', hi'⟩ := ok k' i' o'
    refine ⟨?_, hi.trans hi'.symm⟩
    have t0 : adR0 x a b (G.2.2.2 1) 0 = fun _ => x := rfl
    have t1 : adR0 x a b (G.2.2.2 1) 1 = fun _ => a := rfl
    have t2 : adR0 x a b (G.2.2.2 1) 2 = fun _ => b := rfl
    have e2 : adR0 x a b (G.2.2.2 1) k i = adR0 x a b (G.2.2.2 1) k' i' := e
    rcases hk with rfl | rfl | rfl <;> rcases hk' with rfl | rfl | rfl <;> first | rfl | (exfalso; first | exact hxa e2 | exact hxa e2.symm | exact hxb e2 | exact hxb e2.symm | exact hab e2 | exact hab e2.symm)
theorem RS.begF {G : mg} {s : St} {g : gR} {M M1 : mw} (h : RS G s g M) {i : Nat} (hi : i < nN s) (hfl : flR g 10 i = 1) {m8 m9 : Int32}
    (hX : M1 (g.1 0 0) = some (.inr (10, [.ref (g.1 1 0), .ref (g.1 2 0), .int (gS s 2), .int (gS s 3), .int (gS s 1), .int (gS s 0), .int 0])))
    (hI : M1 (g.1 7 i) = some (.inr (8, [.ref (g.1 5 (tbN s i)), .int (itS s i 1), .int (sof (itS s i 2)), .int (itS s i 3), .int (itS s i 7), .int (itS s i 6), .int (itS s i 5), .int (itS s i 12), .int (itS s i 13), .int (itS s i 14), .int (itS s i 15), .int (itS s i 8), .int (itS s i 9), .int (itS s i 10), .int (ceR g i), .ref (g.1 8 i), .ref (g.1 9 i)])))
    (hL : M1 (g.1 8 i) = some (.inr (2, [.int m8, .ref (g.1 10 i), .int 0]))) (hH : M1 (g.1 9 i) = some (.inr (2, [.int m9, .ref (g.1 11 i), .int 0])))
    (hD : M1 (g.1 10 i) = some (.inl (G.2.1 5, 10, .inr (.inr (.inr (.inr (clq (qf (rnS s i) (ivR g i)) (rnS s i)))))))) (hE : M1 (g.1 11 i) = some (.inl (G.2.1 5, 10, .inr (.inr (.inr (.inr (clq (qf (rnS s i) (ihR g i)) (rnS s i))))))))
    (hf : ∀ x e, M x = some e → x ≠ g.1 0 0 → x ≠ g.1 8 i → x ≠ g.1 9 i → x ≠ g.1 10 i → x ≠ g.1 11 i → M1 x = some e) : RS G (begS s i) (gaRd g i (g.1 10 i) (g.1 11 i) m8 m9 (ceR g i) (ivR g i) (ihR g i)) M1 := by
  have k := h.rd (M1 := M1) hi (gS s) (itS s i) rfl (ceR g i) 0 (rvS s i) (rhS s i) (ivR g i) (ihR g i) (m8 := m8) (m9 := m9) (Or.inl ⟨hfl, rfl, rfl⟩) hX hI hL hH (by rw [hD, clq_qf (f1 := ivR g i)]) (by rw [hE, clq_qf (f1 := ihR g i)]) (fun x e hx a0 _ a8 a9 a10 a11 => hf x e hx a0 a8 a9 a10 a11) ((h.2.2.2.2 i hi).2.1) (fun j hj => absurd hj (Nat.not_lt_zero j))
  rw [fu_id, fu_id, fu_id] at k
  exact k
/-- a cell that may be a constant is none of another kind -/
theorem or_kd {G : mg} {A : Nat → Prop} {U : State} {H : Heap} {M : mw} {v a : Nat} {e f : va_E} (hG : GKh G A U H) (hI : mI A M) (h : M v = some e ∨ G.2.2.1 v = some e) (ha : M a = some f) (hk : (kd e == kd f) = false) : v ≠ a := by
  rcases h with h | h
  · exact kd_ne h ha hk
  · exact fun z => (hG.2.2.2.2.2 v e h).2 (by rw [z]; exact hI a f ha)
theorem vo_fr {M M1 C : mw} {q : Nat} {e : va_E} (h : (M1 = M ∧ C q = some e) ∨ (M q = none ∧ M1 = mu M q e)) : ∀ x f, M x = some f → M1 x = some f := by
  intro x f hx
  rcases h with ⟨h1, -⟩ | ⟨h1, h2⟩
  · rw [h1]; exact hx
  · rw [h2]; exact mu_x hx h1
theorem vo_ic {M M1 C : mw} {q : Nat} {e : va_E} (h : (M1 = M ∧ C q = some e) ∨ (M q = none ∧ M1 = mu M q e)) : M1 q = some e ∨ C q = some e := by
  rcases h with ⟨-, h1⟩ | ⟨h1, h2⟩
  · exact Or.inr h1
  · refine Or.inl ?_
    rw [h2]
    exact mu_s
/-- a reading is put behind the others -/
def pushI (n : Nat) (f : Nat → Nat) (y : Nat) : Nat → Nat := if n < 8 then fu f n y else fun j => if j = 7 then y else f (j + 1)
theorem pushI_p {n : Nat} {f : Nat → Nat} {y : Nat} (h : n < 8) : va_up (qf n f) n (some y) = qf (n + 1) (pushI n f y) := by
  unfold pushI
  rw [if_pos h]
  exact qf_add n f _ y fu_s (fun j hj => fu_n (by omega))
theorem pushI_0 {n : Nat} {f : Nat → Nat} {y : Nat} (h : n = 0) : va_up (fun _ => none) 0 (some y) = qf (n + 1) (pushI n f y) := by
  subst h
  rw [← pushI_p (by omega), ← qf_0 (f := f)]
theorem pushI_8 {n : Nat} {f : Nat → Nat} {y : Nat} (h : n = 8) : va_up (va_up (va_cpy (qf n f) (qf n f) 1 0 7) 7 none) 7 (some y) = qf 8 (pushI n f y) := by
  subst h
  unfold pushI
  rw [if_neg (by omega)]
  exact qf_add8 f _ y (if_pos rfl) (fun j hj => if_neg (by omega))
theorem pushI_ic {G : mg} {M : mw} {n : Nat} (hn : n ≤ 8) {f : Nat → Nat} {y : Nat} {rv : Nat → Int32} {v : Int32} (hy : IC G M y v) (hf : ∀ j, j < n → IC G M (f j) (rv j)) : ∀ j, j < apN n → IC G M (pushI n f y j) (apV rv n v j) := by
  intro j hj
  by_cases h : n < 8
  · unfold apN at hj
    rw [if_pos h] at hj
    unfold pushI apV
    rw [if_pos h, if_pos h]
    by_cases q : j = n
    · rw [q, fu_s, show upd rv n v n = v from if_pos rfl]
      exact hy
    · rw [fu_n q, show upd rv n v j = rv j from if_neg q]
      exact hf j (by omega)
  · unfold apN at hj
    rw [if_neg h] at hj
    unfold pushI apV
    rw [if_neg h, if_neg h]
    by_cases q : j = 7
    · rw [q, show upd (losU rv 8) 7 v 7 = v from if_pos rfl, if_pos rfl]
      exact hy
    · rw [if_neg q, show upd (losU rv 8) 7 v j = losU rv 8 j from if_neg q, show losU rv 8 j = rv (j + 1) from if_pos (by omega)]
      exact hf (j + 1) (by omega)
theorem apN_p {n : Nat} (h : n < 8) : apN n = n + 1 := if_pos h
theorem apN_8 {n : Nat} (h : n = 8) : apN n = 8 := if_neg (by omega)
/-- the place that is read in a bath -/
theorem bat_k {s : St} (hV : Inv s) {i : Nat} (hi : i < nN s) (T l : Int32) (hl1 : -1 ≤ l.toInt) (hl2 : l.toInt ≤ 200) (hl : ¬ l = -1) : ∃ k : Nat, k ≤ 200 ∧ m_min 200 ((if itS s i 9 = 0 then l else m_max (itS s i 10) l) + (if T ≤ (-200) then 0 else itS s i 8)) = nI k := by
  have v := ivG_of (hV.2.2.1 i hi)
  unfold ivG at v
  obtain ⟨-, -, -, -, -, -, -, -, -, v8, -, v10, -⟩ := v
  obtain ⟨p1, p2⟩ := pt_of hl1 hl2 hl
  have e1 : (-1 : Int32).toInt = -1 := rfl
  have e0 : (0 : Int32).toInt = 0 := rfl
  have e2 : (200 : Int32).toInt = 200 := rfl
  have l0 : 0 ≤ l.toInt := by
    have := congrArg Int32.toInt p2
    rw [nI_toInt (Int32.toNatClampNeg_lt l)] at this
    omega
  have g1 : 0 ≤ (if T ≤ (-200) then (0 : Int32) else itS s i 8).toInt ∧ (if T ≤ (-200) then (0 : Int32) else itS s i 8).toInt ≤ 20 := by
    by_cases q : T ≤ (-200)
    · rw [if_pos q, e0]
      omega
    · rw [if_neg q]
      exact v8
  have g2 : 0 ≤ (if itS s i 9 = 0 then l else m_max (itS s i 10) l).toInt ∧ (if itS s i 9 = 0 then l else m_max (itS s i 10) l).toInt ≤ 200 := by
    by_cases q : itS s i 9 = 0
    · rw [if_pos q]
      omega
    · rw [if_neg q]
      show 0 ≤ (if itS s i 10 < l then l else itS s i 10).toInt ∧ (if itS s i 10 < l then l else itS s i 10).toInt ≤ 200
      by_cases z : itS s i 10 < l
      · rw [if_pos z]
        omega
      · rw [if_neg z]
        have z2 : ¬ (itS s i 10).toInt < l.toInt := fun w => z (Int32.lt_iff_toInt_lt.mpr w)
        omega
  generalize (if T ≤ (-200) then (0 : Int32) else itS s i 8) = ga at g1 ⊢
  generalize (if itS s i 9 = 0 then l else m_max (itS s i 10) l) = lv at g2 ⊢
  have e := t_add (a := lv) (b := ga) (by omega) (by omega)
  show ∃ k : Nat, k ≤ 200 ∧ (if lv + ga < 200 then lv + ga else 200) = nI k
  by_cases q : lv + ga < 200
  · rw [if_pos q]
    have q2 := Int32.lt_iff_toInt_lt.mp q
    have h0 : 0 ≤ (lv + ga).toInt := by omega
    have e3 := ix_t h0
    exact ⟨(lv + ga).toNatClampNeg, by omega, i_0ix (N := 0) h0⟩
  · rw [if_neg q]
    exact ⟨200, by omega, rfl⟩
