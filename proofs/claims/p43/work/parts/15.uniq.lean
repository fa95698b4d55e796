/-! ===== answers that are unique ===== -/
theorem fphR_u {bf : Nat → Int32} {v a b : Int32} (ha : fphR bf v a) (hb : fphR bf v b) : a = b := by
  rcases ha with ⟨k, hk, rfl, h1, h2⟩ | ⟨rfl, h1⟩ <;> rcases hb with ⟨k', hk', rfl, h3, h4⟩ | ⟨rfl, h3⟩
  · rcases Nat.lt_trichotomy k k' with q | q | q
    · exact absurd (h4 k q) h1
    · rw [q]
    · exact absurd (h2 k' q) h3
  · exact absurd (h3 k (by omega)) h1
  · exact absurd (h1 k' (by omega)) h3
  · rfl
theorem lpwR_u {bf : Nat → Int32} {rest : Int64} {a b : Int32} (ha : lpwR bf rest a) (hb : lpwR bf rest b) : a = b := by
  rcases ha with ⟨rfl, h1⟩ | ⟨h1, h2, k, hk, rfl, h3, h4⟩ <;> rcases hb with ⟨rfl, g1⟩ | ⟨g1, g2, k', hk', rfl, g3, g4⟩
  · rfl
  · rcases h1 with q | q
    · exact absurd q g1
    · exact absurd q g2
  · rcases g1 with q | q
    · exact absurd q h1
    · exact absurd q h2
  · rcases Nat.lt_trichotomy k k' with q | q | q
    · exact absurd (h4 (by omega)) (g3 (k + 1) (by omega) (by omega))
    · rw [q]
    · exact absurd (g4 (by omega)) (h3 (k' + 1) (by omega) (by omega))
theorem lvlR_u {bf : Nat → Int32} {ins bu cr li gl T dip air a b : Int32} (ha : lvlR bf ins bu cr li gl T dip air a) (hb : lvlR bf ins bu cr li gl T dip air b) : a = b := by
  obtain ⟨l1, h1, h2⟩ := ha
  obtain ⟨l2, g1, g2⟩ := hb
  have e := lpwR_u h1 g1
  subst e
  rcases h2 with ⟨h3, rfl⟩ | ⟨h3, h4⟩ <;> rcases g2 with ⟨g3, rfl⟩ | ⟨g3, g4⟩
  · rfl
  · exact absurd h3 g3
  · exact absurd g3 h3
  · exact lpwR_u h4 g4
theorem thr_eq {s : St} {i : Nat} {p v r : Int32} (h : fphR (boS s i) (vsum (boS s i) p 20 + v) r) : thr s i p v = r := theI_eq (fun _ _ => fphR_u) h
theorem lvl_eq {s : St} {i : Nat} {T dip r : Int32} (h : lvlP s i T dip r) : lvl s i T dip = r := theI_eq (fun _ _ => lvlR_u) h
theorem nb01 {x : Int32} (h : x = 0 ∨ x = 1) : narrow .boolean (.int x) = .int x ∧ fits .boolean (.int x) = true := by rcases h with rfl | rfl <;> exact ⟨rfl, rfl⟩
theorem crtO01 (a b c : Int32) : crtO a b c = 0 ∨ crtO a b c = 1 := by
  unfold crtO
  split
  · split
    · exact Or.inr rfl
    · exact Or.inl rfl
  · exact Or.inl rfl
theorem clsEc (a : Int32) : narrow .char (.int (clsE a)) = .int (clsE a) := by
  unfold clsE
  split
  · split
    · split <;> rfl
    · rfl
  · rfl
theorem nch {p a b : Int32} (h : eith p a b) (ha : narrow .char (.int a) = .int a ∧ fits .char (.int a) = true) (hb : narrow .char (.int b) = .int b ∧ fits .char (.int b) = true) : narrow .char (.int p) = .int p ∧ fits .char (.int p) = true := by rcases h with rfl | rfl <;> assumption
theorem fu_id {α : Type} {f : Nat → α} {k : Nat} : fu f k (f k) = f := by
  funext j
  by_cases h : j = k
  · subst h; exact fu_s
  · exact fu_n h
theorem filS_p {s : St} {i : Nat} {l a : Int32} (h : l = 109) : filS s i l a = sIt (sG s 2 (gS s 2 - a)) i (filG s i l a) := by
  show sIt (sG s 2 (if l = 109 then gS s 2 - a else gS s 2)) i (filG s i l a) = _
  rw [if_pos h]
theorem filS_n {s : St} {i : Nat} {l a : Int32} (h : ¬ l = 109) : filS s i l a = sIt s i (filG s i l a) := by
  show sIt (sG s 2 (if l = 109 then gS s 2 - a else gS s 2)) i (filG s i l a) = _
  rw [if_neg h]
  show sIt (fu s.1 2 (s.1 2), s.2) i (filG s i l a) = _
  rw [fu_id]
theorem Inv.ke {s : St} (h : Inv s) {i : Nat} (hi : i < nN s) : itS s i 9 = 0 ∨ itS s i 9 = 1 := (h.2.2.1 i hi).2.2.2.2.2.2.2.2.2.2.1
