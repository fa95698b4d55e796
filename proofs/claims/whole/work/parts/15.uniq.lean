/-! ===== answers that are unique ===== -/
theorem fphR_u {bf : Nat → Int32} {v a b : Int32} (ha : fphR bf v a) (hb : fphR bf v b) : a = b := by
  rcases ha with ⟨k, hk, rfl, h1, h2⟩ | ⟨rfl, h1⟩ <;> rcases hb with ⟨k', hk', rfl, h3, h4⟩ | ⟨rfl, h3⟩
  · rcases Nat.lt_trichotomy k k' with q | q | q
    · exact absurd (h4 k q) h1
    · rw [q]
    · exact absurd (h2 k' q) h3
  · exact absurd (h3 k (by omega)) h1
  · exact absurd (h1 k' (by omega)) h3
  · rfl
theorem lpwR_u {bf : Nat → Int32} {rest : Int64} {a b : Int32} (ha : lpwR bf rest a) (hb : lpwR bf rest b) : a = b := by
  rcases ha with ⟨rfl, h1⟩ | ⟨h1, h2, k, hk, rfl, h3, h4⟩ <;> rcases hb with ⟨rfl, g1⟩ | ⟨g1, g2, k', hk', rfl, g3, g4⟩
  · rfl
  · rcases h1 with q | q
    · exact absurd q g1
    · exact absurd q g2
  · rcases g1 with q | q
    · exact absurd q h1
    · exact absurd q h2
  · rcases Nat.lt_trichotomy k k' with q | q | q
    · exact absurd (h4 (by omega)) (g3 (k + 1) (by omega) (by omega))
    · rw [q]
    · exact absurd (g4 (by omega)) (h3 (k' + 1) (by omega) (by omega))
theorem lvlR_u {bf : Nat → Int32} {ins bu cr li gl T dip air a b : Int32} (ha : lvlR bf ins bu cr li gl T dip air a) (hb : lvlR bf ins bu cr li gl T dip air b) : a = b := by
  obtain ⟨l1, h1, h2⟩ := ha
  obtain ⟨l2, g1, g2⟩ := hb
  have e := lpwR_u h1 g1
  subst e
  rcases h2 with ⟨h3, rfl⟩ | ⟨h3, h4⟩ <;> rcases g2 with ⟨g3, rfl⟩ | ⟨g3, g4⟩
  · rfl
  · exact absurd h3 g3
  · exact absurd g3 h3
  · exact lpwR_u h4 g4
theorem thr_eq {s : St} {i : Nat} {p v r : Int32} (h : fphR (boS s i) (vsum (boS s i) p 20 + v) r) : thr s i p v = r := theI_eq (fun _ _ => fphR_u) h
theorem lvl_eq {s : St} {i : Nat} {T dip r : Int32} (h : lvlP s i T dip r) : lvl s i T dip = r := theI_eq (fun _ _ => lvlR_u) h
