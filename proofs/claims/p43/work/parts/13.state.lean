/-! ===== the state of the works, and how the class holds it ===== -/
abbrev rng (p lo hi : Int32) : Prop := ¬ p < lo ∧ p ≤ hi
abbrev eith (p a b : Int32) : Prop := p = a ∨ p = b
def sta (p : Int32) : Int32 := 1000 + 37 * (p - 760) / 100
def cts (s : Int32) : Int32 := if 60 ≤ s then 0 else (60 - s + 9) / 10
def clsE (p : Int32) : Int32 := if 2 < p then (if 5 < p then (if 10 < p then 88 else 67) else 66) else 65
def qf (n : Nat) (tb : Nat → Nat) : Nat → Option Nat := fun j => if j < n then some (tb j) else none
theorem qf_p {n : Nat} {tb : Nat → Nat} {j : Nat} (h : j < n) : qf n tb j = some (tb j) := if_pos h
theorem qf_n {n : Nat} {tb : Nat → Nat} {j : Nat} (h : n ≤ j) : qf n tb j = none := if_neg (by omega)
theorem nI_cl {p : Int32} (h : ¬ p < 0) : p = nI p.toNatClampNeg := by
  obtain ⟨j, hj, rfl⟩ := nI_of h
  rw [nI_clamp hj]
theorem no_neg {p : Int32} {n : Nat} (hn : n ≤ 8) (h : p < 0) : ∀ i, i < n → p ≠ nI i := fun i hi q => by
  rw [q] at h
  exact nI_pos (by omega) h
theorem no_big {p : Int32} {n N : Nat} (hn : n ≤ N) (hN : N < 100) (h : nI N ≤ p) : ∀ i, i < n → p ≠ nI i := fun i hi q => by
  rw [q] at h
  exact i_nlt h (nI_lt (by omega) (by omega))
theorem no_out {p : Int32} {n : Nat} (hn : n ≤ 8) (h : n ≤ p.toNatClampNeg) : ∀ i, i < n → p ≠ nI i := fun i hi q => by
  rw [q, nI_clamp (by omega)] at h
  omega
/-- a unique answer by what it must be -/
noncomputable def theI (P : Int32 → Prop) : Int32 := by classical exact if h : ∃ r, P r then Classical.choose h else 0
theorem theI_eq {P : Int32 → Prop} (hu : ∀ a b, P a → P b → a = b) {r : Int32} (h : P r) : theI P = r := by
  have hx : ∃ r, P r := ⟨r, h⟩
  have e : theI P = Classical.choose hx := by
    unfold theI
    simp only [hx, dif_pos]
  rw [e]
  exact hu _ _ (Classical.choose_spec hx) h
def fu {α : Type} (f : Nat → α) (k : Nat) (x : α) : Nat → α := fun j => if j = k then x else f j
theorem fu_s {α : Type} {f : Nat → α} {k : Nat} {x : α} : fu f k x k = x := if_pos rfl
theorem fu_n {α : Type} {f : Nat → α} {k j : Nat} {x : α} (h : j ≠ k) : fu f k x j = f j := if_neg h
/-- globals (0 air, 1 day, 2 stock, 3 spilt, 4 bought); tubes: number, bores, used; instruments: number, fields; readings: number, values, heats.
 fields: 0 tube, 1 bulb, 2 glass, 3 crept, 4 filled, 5 smashed, 6 liquid, 7 inside, 8 gap, 9 keeper, 10 greatest, 11 certificate, 12 ice, 13 steam, 14 steam's heat, 15 kind -/
abbrev St : Type := (Nat → Int32) × (Nat × (Nat → Nat → Int32) × (Nat → Int32)) × (Nat × (Nat → Nat → Int32)) × ((Nat → Nat) × (Nat → Nat → Int32) × (Nat → Nat → Int32))
abbrev gS (s : St) : Nat → Int32 := s.1
abbrev nT (s : St) : Nat := s.2.1.1
abbrev boS (s : St) : Nat → Nat → Int32 := s.2.1.2.1
abbrev usS (s : St) : Nat → Int32 := s.2.1.2.2
abbrev nN (s : St) : Nat := s.2.2.1.1
abbrev itS (s : St) : Nat → Nat → Int32 := s.2.2.1.2
abbrev rnS (s : St) : Nat → Nat := s.2.2.2.1
abbrev rvS (s : St) : Nat → Nat → Int32 := s.2.2.2.2.1
abbrev rhS (s : St) : Nat → Nat → Int32 := s.2.2.2.2.2
abbrev tbN (s : St) (i : Nat) : Nat := (itS s i 0).toNatClampNeg
abbrev reS (s : St) (i : Nat) : Nat → Int32 := fun j => rvS s i j - rhS s i j
abbrev sG (s : St) (k : Nat) (v : Int32) : St := (fu s.1 k v, s.2)
abbrev sIt (s : St) (i : Nat) (g : Nat → Int32) : St := (s.1, s.2.1, (s.2.2.1.1, fu s.2.2.1.2 i g), s.2.2.2)
abbrev adr : Type := Nat → Nat → Nat
def cI (s : St) (ad : adr) (i : Nat) : va_E := .inr (0, [.int (itS s i 0), .ref (ad 3 (tbN s i)), .int (itS s i 1), .int (itS s i 2), .ref (ad 6 i), .ref (ad 7 i), .int (itS s i 3), .int (itS s i 4), .int (itS s i 5), .int (itS s i 6), .int (itS s i 7), .int (itS s i 8), .int (itS s i 9), .int (itS s i 10), .int (itS s i 11)])
def cSc (s : St) (ad : adr) (i : Nat) : va_E := .inr (2, [.ref (ad 3 (tbN s i)), .int (itS s i 12), .int (itS s i 13), .int (itS s i 14), .int (itS s i 15)])
/-- the class's cells: by kind (0 the works, 1, 2 the arrays, 3 a tube, 4 its bores, 5 an instrument, 6 its scale, 7 its readings, 8 values, 9 errors) and number -/
def cel (G : mg) (s : St) (ad : adr) : Nat → Nat → va_E
  | 0, _ => .inr (4, [.ref (ad 1 0), .ref (ad 2 0), .int (nI (nT s)), .int (nI (nN s)), .int (gS s 0), .int (gS s 1), .int (gS s 2), .int (gS s 3), .int (gS s 4)])
  | 1, _ => .inl (G.2.1 3, 8, .inr (.inr (.inr (.inr (qf (nT s) (ad 3))))))
  | 2, _ => .inl (G.2.1 4, 6, .inr (.inr (.inr (.inr (qf (nN s) (ad 5))))))
  | 3, i => .inr (3, [.ref (ad 4 i), .int (usS s i)])
  | 4, i => .inl (G.2.1 0, 20, .inl (boS s i))
  | 5, i => cI s ad i
  | 6, i => cSc s ad i
  | 7, i => .inr (1, [.ref (ad 8 i), .ref (ad 9 i), .int (nI (rnS s i))])
  | 8, i => .inl (G.2.1 0, 8, .inl (rvS s i))
  | _, i => .inl (G.2.1 0, 8, .inl (reS s i))
def okS (s : St) (k i : Nat) : Prop := (k < 3 ∧ i = 0) ∨ ((k = 3 ∨ k = 4) ∧ i < nT s) ∨ (5 ≤ k ∧ k ≤ 9 ∧ i < nN s)
def CS (G : mg) (s : St) (ad : adr) (M : mw) : Prop := (∀ k i, okS s k i → M (ad k i) = some (cel G s ad k i)) ∧ ∀ k i k' i', okS s k i → okS s k' i' → ad k i = ad k' i' → k = k' ∧ i = i'
theorem ok0 (s : St) : okS s 0 0 := Or.inl ⟨by omega, rfl⟩
theorem ok1 (s : St) : okS s 1 0 := Or.inl ⟨by omega, rfl⟩
theorem ok2 (s : St) : okS s 2 0 := Or.inl ⟨by omega, rfl⟩
theorem ok3 {s : St} {i : Nat} (h : i < nT s) : okS s 3 i := Or.inr (Or.inl ⟨Or.inl rfl, h⟩)
theorem ok4 {s : St} {i : Nat} (h : i < nT s) : okS s 4 i := Or.inr (Or.inl ⟨Or.inr rfl, h⟩)
theorem ok5 {s : St} {i : Nat} (h : i < nN s) : okS s 5 i := Or.inr (Or.inr ⟨by omega, by omega, h⟩)
theorem ok6 {s : St} {i : Nat} (h : i < nN s) : okS s 6 i := Or.inr (Or.inr ⟨by omega, by omega, h⟩)
theorem ok7 {s : St} {i : Nat} (h : i < nN s) : okS s 7 i := Or.inr (Or.inr ⟨by omega, by omega, h⟩)
theorem ok8 {s : St} {i : Nat} (h : i < nN s) : okS s 8 i := Or.inr (Or.inr ⟨by omega, by omega, h⟩)
theorem ok9 {s : St} {i : Nat} (h : i < nN s) : okS s 9 i := Or.inr (Or.inr ⟨by omega, by omega, h⟩)
theorem CS.ne {G : mg} {s : St} {ad : adr} {M : mw} (h : CS G s ad M) {k i k' i' : Nat} (h1 : okS s k i) (h2 : okS s k' i') (hn : k ≠ k') : ad k i ≠ ad k' i' := fun q => hn (h.2 k i k' i' h1 h2 q).1
/-- one cell changes -/
theorem CS.put {G : mg} {s s1 : St} {ad : adr} {M : mw} (h : CS G s ad M) {k i : Nat} (hk : okS s k i) (hT : nT s1 = nT s) (hN : nN s1 = nN s) {e : va_E} (he : e = cel G s1 ad k i) (ho : ∀ k' i', okS s k' i' → ¬ (k' = k ∧ i' = i) → cel G s1 ad k' i' = cel G s ad k' i') : CS G s1 ad (mu M (ad k i) e) := by
  have hok : ∀ k' i', okS s1 k' i' → okS s k' i' := fun k' i' q => by unfold okS at q ⊢; rw [hT, hN] at q; exact q
  refine ⟨fun k' i' q => ?_, fun a b a' b' q1 q2 => h.2 a b a' b' (hok _ _ q1) (hok _ _ q2)⟩
  by_cases z : k' = k ∧ i' = i
  · obtain ⟨rfl, rfl⟩ := z
    rw [mu_s, he]
  · rw [mu_n (fun w => z (h.2 k' i' k i (hok _ _ q) hk w)), ho k' i' (hok _ _ q) z]
    exact h.1 k' i' (hok _ _ q)
/-- several cells change: what is known of the new world is enough -/
theorem CS.puts {G : mg} {s s1 : St} {ad : adr} {M M1 : mw} (h : CS G s ad M) (hT : nT s1 = nT s) (hN : nN s1 = nN s) (L : List (Nat × Nat)) (h1 : ∀ q ∈ L, M1 (ad q.1 q.2) = some (cel G s1 ad q.1 q.2)) (hf : ∀ x, (∀ q ∈ L, x ≠ ad q.1 q.2) → M1 x = M x) (hL : ∀ q ∈ L, okS s q.1 q.2) (ho : ∀ k' i', okS s k' i' → (k', i') ∉ L → cel G s1 ad k' i' = cel G s ad k' i') : CS G s1 ad M1 := by
  have hok : ∀ k' i', okS s1 k' i' → okS s k' i' := fun k' i' q => by unfold okS at q ⊢; rw [hT, hN] at q; exact q
  refine ⟨fun k' i' q => ?_, fun a b a' b' q1 q2 => h.2 a b a' b' (hok _ _ q1) (hok _ _ q2)⟩
  by_cases z : (k', i') ∈ L
  · exact h1 _ z
  · rw [hf _ (fun q2 hq2 w => z (by have := h.2 k' i' q2.1 q2.2 (hok _ _ q) (hL q2 hq2) w; rw [this.1, this.2]; exact hq2)), ho k' i' (hok _ _ q) z]
    exact h.1 k' i' (hok _ _ q)
/-- what every state keeps -/
def invI (s : St) (i : Nat) : Prop :=
  (∃ t, t < nT s ∧ itS s i 0 = nI t ∧ usS s t = 1) ∧ (1000 ≤ (itS s i 1).toInt ∧ (itS s i 1).toInt ≤ 50000) ∧ (itS s i 2 = 104 ∨ itS s i 2 = 115) ∧ (0 ≤ (itS s i 3).toInt ∧ (itS s i 3).toInt ≤ (cia (itS s i 1) (itS s i 2)).toInt) ∧
  (itS s i 4 = 0 ∨ itS s i 4 = 1) ∧ (itS s i 5 = 0 ∨ itS s i 5 = 1) ∧ (itS s i 6 = 32 ∨ itS s i 6 = 109 ∨ itS s i 6 = 115) ∧ (itS s i 4 = 1 ↔ itS s i 6 ≠ 32 ∧ itS s i 5 = 0) ∧ (itS s i 4 = 0 → itS s i 7 = 0) ∧
  (0 ≤ (itS s i 8).toInt ∧ (itS s i 8).toInt ≤ 20) ∧ (itS s i 9 = 0 ∨ itS s i 9 = 1) ∧ (-1 ≤ (itS s i 10).toInt ∧ (itS s i 10).toInt ≤ 200) ∧
  (-1 ≤ (itS s i 12).toInt ∧ (itS s i 12).toInt ≤ 200) ∧ (-1 ≤ (itS s i 13).toInt ∧ (itS s i 13).toInt ≤ 200) ∧ (0 ≤ (itS s i 14).toInt ∧ (itS s i 14).toInt ≤ 2000) ∧
  (itS s i 15 = 32 ∨ itS s i 15 = 108 ∨ itS s i 15 = 118) ∧ (itS s i 15 ≠ 32 → itS s i 12 ≠ -1 ∧ itS s i 13 ≠ -1 ∧ itS s i 12 ≠ itS s i 13) ∧ rnS s i ≤ 8
def hgS (s : St) (n : Nat) : Int32 := isum (fun k => if itS s k 6 = 109 then itS s k 7 else 0) n
def Inv (s : St) : Prop := (nT s ≤ 8 ∧ nN s ≤ 6) ∧ (∀ i, i < nT s → (∀ k, k < 20 → 1 ≤ (boS s i k).toInt ∧ (boS s i k).toInt ≤ 60) ∧ (usS s i = 0 ∨ usS s i = 1)) ∧ (∀ i, i < nN s → invI s i) ∧ (∀ i j, i < nN s → j < nN s → itS s i 0 = itS s j 0 → i = j) ∧ gS s 2 + gS s 3 + hgS s (nN s) = gS s 4
theorem Inv.tb {s : St} (h : Inv s) {i : Nat} (hi : i < nN s) : tbN s i < nT s := by
  obtain ⟨t, ht, h2, -⟩ := (h.2.2.1 i hi).1
  show (itS s i 0).toNatClampNeg < nT s
  rw [h2, nI_clamp (by have := h.1.1; omega)]
  exact ht
theorem Inv.rn {s : St} (h : Inv s) {i : Nat} (hi : i < nN s) : rnS s i ≤ 8 := (h.2.2.1 i hi).2.2.2.2.2.2.2.2.2.2.2.2.2.2.2.2.2
/-- a tube, an instrument of that number -/
abbrev ix (p : Int32) : Nat := p.toNatClampNeg
abbrev tkN (n : Nat) (p : Int32) : Prop := ¬ p < 0 ∧ ix p < n
abbrev tok (s : St) (p : Int32) : Prop := tkN (nT s) p
abbrev iok (s : St) (p : Int32) : Prop := tkN (nN s) p
theorem tk_neg {p : Int32} {n : Nat} (h : p < 0) : ¬ tkN n p := fun q => q.1 h
theorem tk_out {p : Int32} {n : Nat} (h : n ≤ ix p) : ¬ tkN n p := fun q => by have := q.2; omega
theorem tk_big {p : Int32} {n N : Nat} (hn : n ≤ N) (hN : N < 100) (h : nI N ≤ p) : ¬ tkN n p := fun q => by
  rw [nI_cl q.1] at h
  exact i_nlt h (nI_lt (Nat.lt_of_lt_of_le q.2 hn) (by omega))
/-- checks in their order: what is refused answers its number and changes nothing -/
noncomputable def chk (P : Prop) (k : Nat) (s : St) (r : Nat × Int32 × St) : Nat × Int32 × St := @ite _ P (Classical.propDecidable P) r (k, 0, s)
theorem chk_p {P : Prop} {k : Nat} {s : St} {r : Nat × Int32 × St} (h : P) : chk P k s r = r := by unfold chk; rw [if_pos h]
theorem chk_n {P : Prop} {k : Nat} {s : St} {r : Nat × Int32 × St} (h : ¬ P) : chk P k s r = (k, 0, s) := by unfold chk; rw [if_neg h]
def exc (L : List String) (o : Nat × Int32 × St) (E : String) : Prop := ∃ k, o.1 = k + 1 ∧ L[k]? = some E
theorem exc_of {L : List String} {o : Nat × Int32 × St} {E : String} {s : St} {k : Nat} (h : o = (k + 1, 0, s)) (hE : L[k]? = some E) : exc L o E := ⟨k, by rw [h], hE⟩
