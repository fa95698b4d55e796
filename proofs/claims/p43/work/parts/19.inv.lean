/-! ===== what every state keeps, kept ===== -/
theorem isum_c {f f1 : Nat → Int32} : ∀ n, (∀ j, j < n → f1 j = f j) → isum f1 n = isum f n := by
  intro n
  induction n with
  | zero => intro _; rfl
  | succ n ih =>
    intro h
    show isum f1 n + f1 n = isum f n + f n
    rw [ih (fun j hj => h j (by omega)), h n (by omega)]
theorem i_arc (a b c : Int32) : a + b + c = a + c + b := by rw [Int32.add_assoc, Int32.add_comm b, ← Int32.add_assoc]
theorem isum_u {f f1 : Nat → Int32} {i : Nat} (h : ∀ j, j ≠ i → f1 j = f j) : ∀ n, i < n → isum f1 n + f i = isum f n + f1 i := by
  intro n
  induction n with
  | zero => intro q; omega
  | succ n ih =>
    intro hi
    show isum f1 n + f1 n + f i = isum f n + f n + f1 i
    by_cases e : i = n
    · subst e
      rw [isum_c i (fun j hj => h j (by omega)), i_arc]
    · have e1 := ih (by omega)
      rw [h n (by omega), i_arc, e1, i_arc]
theorem hg_u {s s1 : St} {i : Nat} (hi : i < nN s) (ho : ∀ j, j ≠ i → itS s1 j = itS s j) : hgS s1 (nN s) + mer s i = hgS s (nN s) + mer s1 i :=
  isum_u (f := fun k => if itS s k 6 = 109 then itS s k 7 else 0) (f1 := fun k => if itS s1 k 6 = 109 then itS s1 k 7 else 0) (fun j hj => by rw [ho j hj]) (nN s) hi
theorem invI_o {s s1 : St} {j : Nat} (hT : nT s1 = nT s) (hU : usS s1 = usS s) (e : itS s1 j = itS s j) (er : rnS s1 j = rnS s j) (h : invI s j) : invI s1 j := by
  unfold invI at h ⊢
  rw [hT, hU, e, er]
  exact h
theorem Inv.glob {s : St} (h : Inv s) (g : Nat → Int32) (hg : g 2 + g 3 + gS s 4 = gS s 2 + gS s 3 + g 4) : Inv (g, s.2) := by
  obtain ⟨h1, h2, h3, h4, h5⟩ := h
  refine ⟨h1, h2, h3, h4, ?_⟩
  show g 2 + g 3 + hgS s (nN s) = g 4
  rw [← h5] at hg
  have e : g 2 + g 3 + hgS s (nN s) + (gS s 2 + gS s 3) = g 4 + (gS s 2 + gS s 3) := by
    rw [Int32.add_assoc, Int32.add_comm (hgS s (nN s)), hg, Int32.add_comm]
  exact (Int32.add_left_inj _).mp e
theorem Inv.upd {s s1 : St} (h : Inv s) {i : Nat} (hi : i < nN s) (hT : s1.2.1 = s.2.1) (hN : nN s1 = nN s) (ho : ∀ j, j ≠ i → itS s1 j = itS s j) (hro : ∀ j, j ≠ i → rnS s1 j = rnS s j) (h0 : itS s1 i 0 = itS s i 0) (hv : invI s1 i) (hm : gS s1 2 + gS s1 3 + mer s1 i + gS s 4 = gS s 2 + gS s 3 + mer s i + gS s1 4) : Inv s1 := by
  obtain ⟨h1, h2, h3, h4, h5⟩ := h
  have eT : nT s1 = nT s := by unfold nT; rw [hT]
  have eB : boS s1 = boS s := by unfold boS; rw [hT]
  have eU : usS s1 = usS s := by unfold usS; rw [hT]
  have e0 : ∀ j, itS s1 j 0 = itS s j 0 := fun j => by
    by_cases e : j = i
    · rw [e, h0]
    · rw [ho j e]
  refine ⟨by rw [eT, hN]; exact h1, by rw [eT, eB, eU]; exact h2, fun j hj => ?_, fun a b ha hb q => h4 a b (by omega) (by omega) (by rw [← e0, ← e0]; exact q), ?_⟩
  · by_cases e : j = i
    · rw [e]
      exact hv
    · exact invI_o eT eU (ho j e) (hro j e) (h3 j (by omega))
  · rw [hN]
    have e1 := hg_u hi ho
    have e : gS s1 2 + gS s1 3 + hgS s1 (nN s) + (mer s i + gS s 4) = gS s1 4 + (mer s i + gS s 4) := by
      have a1 : gS s1 2 + gS s1 3 + hgS s1 (nN s) + (mer s i + gS s 4) = (gS s1 2 + gS s1 3 + gS s 4) + (hgS s1 (nN s) + mer s i) := by ac_rfl
      have a2 : (gS s1 2 + gS s1 3 + gS s 4) + (hgS s (nN s) + mer s1 i) = (gS s1 2 + gS s1 3 + mer s1 i + gS s 4) + hgS s (nN s) := by ac_rfl
      have a3 : (gS s 2 + gS s 3 + mer s i + gS s1 4) + hgS s (nN s) = (gS s 2 + gS s 3 + hgS s (nN s)) + (gS s1 4 + mer s i) := by ac_rfl
      rw [a1, e1, a2, hm, a3, h5]
      ac_rfl
    exact (Int32.add_left_inj _).mp e
theorem theI_or (P : Int32 → Prop) : P (theI P) ∨ theI P = 0 := by
  by_cases h : ∃ r, P r
  · left
    have e : theI P = Classical.choose h := by
      unfold theI
      simp only [h, dif_pos]
    rw [e]
    exact Classical.choose_spec h
  · right
    unfold theI
    simp only [h, dif_neg, not_false_eq_true]
theorem lpw_r {bf : Nat → Int32} {rest : Int64} {r : Int32} (h : lpwR bf rest r) : r = -1 ∨ ∃ k : Nat, k ≤ 200 ∧ r = nI k := by
  rcases h with ⟨h1, -⟩ | ⟨-, -, k, hk, rfl, -⟩
  · exact Or.inl h1
  · exact Or.inr ⟨k, hk, rfl⟩
theorem lvl_r (s : St) (i : Nat) (T dip : Int32) : lvl s i T dip = -1 ∨ ∃ k : Nat, k ≤ 200 ∧ lvl s i T dip = nI k := by
  rcases theI_or (lvlP s i T dip) with ⟨l1, h1, h2⟩ | h
  · rcases h2 with ⟨-, h3⟩ | ⟨-, h3⟩
    · unfold lvl
      rw [h3]
      exact lpw_r h1
    · exact lpw_r h3
  · right
    exact ⟨0, by omega, h⟩
theorem lvl_b (s : St) (i : Nat) (T dip : Int32) : -1 ≤ (lvl s i T dip).toInt ∧ (lvl s i T dip).toInt ≤ 200 := by
  rcases lvl_r s i T dip with h | ⟨k, hk, h⟩
  · rw [h]
    decide
  · rw [h, nI_toInt (by omega)]
    omega

theorem chk_I {P : Prop} {k : Nat} {s : St} {r : Nat × Int32 × St} (h : Inv s) (hr : P → Inv r.2.2) : Inv (chk P k s r).2.2 := by
  by_cases q : P
  · rw [chk_p q]
    exact hr q
  · rw [chk_n q]
    exact h
/-- an instrument's fields by themselves -/
def ivG (s : St) (n : Nat) (g : Nat → Int32) : Prop :=
  (∃ t, t < nT s ∧ g 0 = nI t ∧ usS s t = 1) ∧ (1000 ≤ (g 1).toInt ∧ (g 1).toInt ≤ 50000) ∧ (g 2 = 104 ∨ g 2 = 115) ∧ (0 ≤ (g 3).toInt ∧ (g 3).toInt ≤ (cia (g 1) (g 2)).toInt) ∧
  (g 4 = 0 ∨ g 4 = 1) ∧ (g 5 = 0 ∨ g 5 = 1) ∧ (g 6 = 32 ∨ g 6 = 109 ∨ g 6 = 115) ∧ (g 4 = 1 ↔ g 6 ≠ 32 ∧ g 5 = 0) ∧ (g 4 = 0 → g 7 = 0) ∧
  (0 ≤ (g 8).toInt ∧ (g 8).toInt ≤ 20) ∧ (g 9 = 0 ∨ g 9 = 1) ∧ (-1 ≤ (g 10).toInt ∧ (g 10).toInt ≤ 200) ∧
  (-1 ≤ (g 12).toInt ∧ (g 12).toInt ≤ 200) ∧ (-1 ≤ (g 13).toInt ∧ (g 13).toInt ≤ 200) ∧ (0 ≤ (g 14).toInt ∧ (g 14).toInt ≤ 2000) ∧
  (g 15 = 32 ∨ g 15 = 108 ∨ g 15 = 118) ∧ (g 15 ≠ 32 → g 12 ≠ -1 ∧ g 13 ≠ -1 ∧ g 12 ≠ g 13) ∧ n ≤ 8
theorem ivG_of {s : St} {i : Nat} (h : invI s i) : ivG s (rnS s i) (itS s i) := h
theorem ivG_to {s s1 : St} {i n : Nat} {g : Nat → Int32} (hT : s1.2.1 = s.2.1) (e : itS s1 i = g) (er : rnS s1 i = n) (h : ivG s n g) : invI s1 i := by
  unfold ivG at h
  unfold invI nT usS
  rw [hT, e, er]
  exact h
def merG (g : Nat → Int32) : Int32 := if g 6 = 109 then g 7 else 0
theorem Inv.sit {s : St} (h : Inv s) {i : Nat} (hi : i < nN s) (gl g : Nat → Int32) (h0 : g 0 = itS s i 0) (hv : ivG s (rnS s i) g) (hm : gl 2 + gl 3 + merG g + gS s 4 = gS s 2 + gS s 3 + merG (itS s i) + gl 4) : Inv (sIt (gl, s.2) i g) := by
  have e : itS (sIt (gl, s.2) i g) i = g := fu_s
  refine h.upd hi rfl rfl (fun j hj => fu_n hj) (fun j _ => rfl) (by rw [e]; exact h0) (ivG_to rfl e rfl hv) ?_
  have em : mer (sIt (gl, s.2) i g) i = merG g := by
    unfold mer merG
    rw [e]
  rw [em]
  exact hm
theorem Inv.sit1 {s : St} (h : Inv s) {i : Nat} (hi : i < nN s) (g : Nat → Int32) (h0 : g 0 = itS s i 0) (hv : ivG s (rnS s i) g) (h6 : g 6 = itS s i 6) (h7 : g 7 = itS s i 7) : Inv (sIt s i g) :=
  h.sit hi s.1 g h0 hv (by unfold merG; rw [h6, h7])
theorem I_buy {s : St} (h : Inv s) (p0 : Int32) : Inv (m_buy s p0).2.2 := chk_I h fun _ => by
  refine h.glob (fu (fu (gS s) 4 (gS s 4 + p0)) 2 (gS s 2 + p0)) ?_
  show gS s 2 + p0 + gS s 3 + gS s 4 = gS s 2 + gS s 3 + (gS s 4 + p0)
  ac_rfl
theorem I_air {s : St} (h : Inv s) (p0 : Int32) : Inv (m_air s p0).2.2 := chk_I h fun _ => h.glob (fu (gS s) 0 p0) rfl
theorem I_fill {s : St} (h : Inv s) (p0 p1 p2 : Int32) : Inv (m_fill s p0 p1 p2).2.2 := by
  refine chk_I h fun hi => chk_I h fun hl => chk_I h fun _ => chk_I h fun h4 => chk_I h fun h5 => chk_I h fun _ => ?_
  obtain ⟨a, b, c, d, e, f, g, hh, ii, j, k, l, m, n, o, p, q, r⟩ := ivG_of (h.2.2.1 _ hi.2)
  have h6 : itS s (ix p0) 6 = 32 := by
    by_cases z : itS s (ix p0) 6 = 32
    · exact z
    · have := hh.mpr ⟨z, h5⟩
      rw [h4] at this
      exact absurd this (by decide)
  refine h.sit hi.2 (fu (gS s) 2 (if p1 = 109 then gS s 2 - amt s (ix p0) p2 else gS s 2)) (filG s (ix p0) p1 (amt s (ix p0) p2)) rfl ?_ ?_
  · have hp : p1 ≠ 32 := by rcases hl with z | z <;> rw [z] <;> decide
    exact ⟨a, b, c, d, Or.inr rfl, f, hl.elim (fun z => Or.inr (Or.inl z)) (fun z => Or.inr (Or.inr z)), ⟨fun _ => ⟨hp, h5⟩, fun _ => rfl⟩, fun z => absurd z (show ¬ (1 : Int32) = 0 by decide), j, k, l, m, n, o, p, q, r⟩
  · have e0 : merG (itS s (ix p0)) = 0 := by
      unfold merG
      rw [if_neg (by rw [h6]; decide)]
    rw [e0]
    show (if p1 = 109 then gS s 2 - amt s (ix p0) p2 else gS s 2) + gS s 3 + (if p1 = 109 then amt s (ix p0) p2 else 0) + gS s 4 = gS s 2 + gS s 3 + 0 + gS s 4
    by_cases z : p1 = 109
    · rw [if_pos z, if_pos z, i_arc (gS s 2 - amt s (ix p0) p2), Int32.sub_add_cancel, Int32.add_zero]
    · rw [if_neg z, if_neg z]
theorem I_smash {s : St} (h : Inv s) (p0 : Int32) : Inv (m_smash s p0).2.2 := by
  refine chk_I h fun hi => chk_I h fun h5 => ?_
  obtain ⟨a, b, c, d, e, f, g, hh, ii, j, k, l, m, n, o, p, q, r⟩ := ivG_of (h.2.2.1 _ hi.2)
  refine h.sit hi.2 (fu (gS s) 3 (gS s 3 + mer s (ix p0))) (smaG s (ix p0)) rfl ?_ ?_
  · exact ⟨a, b, c, d, Or.inl rfl, Or.inr rfl, g, ⟨fun z => absurd z (show ¬ (0 : Int32) = 1 by decide), fun z => absurd z.2 (show ¬ (1 : Int32) = 0 by decide)⟩, fun _ => rfl, j, k, l, m, n, o, p, q, r⟩
  · have e0 : merG (smaG s (ix p0)) = 0 := by
      unfold merG
      show (if itS s (ix p0) 6 = 109 then (0 : Int32) else 0) = 0
      split <;> rfl
    rw [e0]
    show gS s 2 + (gS s 3 + mer s (ix p0)) + 0 + gS s 4 = gS s 2 + gS s 3 + mer s (ix p0) + gS s 4
    rw [Int32.add_zero, ← Int32.add_assoc]
theorem I_ice {s : St} (h : Inv s) (p0 : Int32) : Inv (m_ice s p0).2.2 := by
  refine chk_I h fun hi => chk_I h fun _ => chk_I h fun _ => ?_
  obtain ⟨a, b, c, d, e, f, g, hh, ii, j, k, l, m, n, o, p, q, r⟩ := ivG_of (h.2.2.1 _ hi.2)
  exact h.sit1 hi.2 _ rfl ⟨a, b, c, d, e, f, g, hh, ii, j, k, l, lvl_b s _ _ _, n, o, Or.inl rfl, fun z => absurd rfl z, r⟩ rfl rfl
theorem rng_b {p lo hi : Int32} (h : rng p lo hi) : lo.toInt ≤ p.toInt ∧ p.toInt ≤ hi.toInt := by
  have h1 := h.1
  have h2 := h.2
  rw [Int32.lt_iff_toInt_lt] at h1
  rw [Int32.le_iff_toInt_le] at h2
  omega
theorem i_nn {p : Int32} (h : 0 ≤ p.toInt) : ∃ n : Nat, n < 2 ^ 31 ∧ p = nI n ∧ p.toInt = n := by
  have hp : ¬ p < 0 := fun q => by
    have := Int32.lt_iff_toInt_lt.mp q
    have e : (0 : Int32).toInt = 0 := rfl
    omega
  obtain ⟨n, hn, e⟩ := nI_of hp
  exact ⟨n, hn, e, by rw [e, nI_toInt hn]⟩
theorem sta_b {p : Int32} (h : rng p 700 800) : 0 ≤ (sta p).toInt ∧ (sta p).toInt ≤ 2000 := by
  have key : ∀ n, n < 101 → 0 ≤ (sta (nI (n + 700))).toInt ∧ (sta (nI (n + 700))).toInt ≤ 2000 := by decide +kernel
  have hb := rng_b h
  have e1 : (700 : Int32).toInt = 700 := rfl
  have e2 : (800 : Int32).toInt = 800 := rfl
  obtain ⟨n, hn, rfl, e⟩ := i_nn (p := p) (by omega)
  have h1 := key (n - 700) (by omega)
  rw [show n - 700 + 700 = n by omega] at h1
  exact h1
theorem I_steam {s : St} (h : Inv s) (p0 p1 : Int32) : Inv (m_steam s p0 p1).2.2 := by
  refine chk_I h fun hi => chk_I h fun hr => chk_I h fun _ => chk_I h fun _ => ?_
  obtain ⟨a, b, c, d, e, f, g, hh, ii, j, k, l, m, n, o, p, q, r⟩ := ivG_of (h.2.2.1 _ hi.2)
  exact h.sit1 hi.2 _ rfl ⟨a, b, c, d, e, f, g, hh, ii, j, k, l, m, lvl_b s _ _ _, sta_b hr, Or.inl rfl, fun z => absurd rfl z, r⟩ rfl rfl
theorem I_divide {s : St} (h : Inv s) (p0 p1 : Int32) : Inv (m_divide s p0 p1).2.2 := by
  refine chk_I h fun hi => chk_I h fun hk => chk_I h fun _ => chk_I h fun hu => ?_
  obtain ⟨a, b, c, d, e, f, g, hh, ii, j, k, l, m, n, o, p, q, r⟩ := ivG_of (h.2.2.1 _ hi.2)
  have hz : itS s (ix p0) 12 ≠ -1 ∧ itS s (ix p0) 13 ≠ -1 ∧ itS s (ix p0) 12 ≠ itS s (ix p0) 13 := by
    unfold unl at hu
    refine ⟨fun z => hu (by rw [if_pos z]), fun z => hu ?_, fun z => hu ?_⟩
    · by_cases y : itS s (ix p0) 12 = -1
      · rw [if_pos y]
      · rw [if_neg y, if_pos z]
    · by_cases y : itS s (ix p0) 12 = -1
      · rw [if_pos y]
      · rw [if_neg y]
        by_cases x : itS s (ix p0) 13 = -1
        · rw [if_pos x]
        · rw [if_neg x, if_pos z]
  exact h.sit1 hi.2 _ rfl ⟨a, b, c, d, e, f, g, hh, ii, j, k, l, m, n, o, hk.elim (fun z => Or.inr (Or.inl z)) (fun z => Or.inr (Or.inr z)), fun _ => hz, r⟩ rfl rfl
theorem I_certify {s : St} (h : Inv s) (p0 : Int32) : Inv (m_certify s p0).2.2 := by
  refine chk_I h fun hi => chk_I h fun _ => chk_I h fun _ => ?_
  obtain ⟨a, b, c, d, e, f, g, hh, ii, j, k, l, m, n, o, p, q, r⟩ := ivG_of (h.2.2.1 _ hi.2)
  exact h.sit1 hi.2 _ rfl ⟨a, b, c, d, e, f, g, hh, ii, j, k, l, m, n, o, p, q, r⟩ rfl rfl
theorem I_breakThread {s : St} (h : Inv s) (p0 p1 : Int32) : Inv (m_breakThread s p0 p1).2.2 := by
  refine chk_I h fun hi => chk_I h fun hr => chk_I h fun _ => ?_
  obtain ⟨a, b, c, d, e, f, g, hh, ii, j, k, l, m, n, o, p, q, r⟩ := ivG_of (h.2.2.1 _ hi.2)
  have hb := rng_b hr
  have e1 : (1 : Int32).toInt = 1 := rfl
  have e2 : (20 : Int32).toInt = 20 := rfl
  exact h.sit1 hi.2 _ rfl ⟨a, b, c, d, e, f, g, hh, ii, show 0 ≤ p1.toInt ∧ p1.toInt ≤ 20 by omega, k, l, m, n, o, p, q, r⟩ rfl rfl
theorem I_keep {s : St} (h : Inv s) (p0 p1 : Int32) (h01 : p1 = 0 ∨ p1 = 1) : Inv (m_keep s p0 p1).2.2 := by
  refine chk_I h fun hi => ?_
  obtain ⟨a, b, c, d, e, f, g, hh, ii, j, k, l, m, n, o, p, q, r⟩ := ivG_of (h.2.2.1 _ hi.2)
  exact h.sit1 hi.2 _ rfl ⟨a, b, c, d, e, f, g, hh, ii, j, h01, show -1 ≤ (-1 : Int32).toInt ∧ (-1 : Int32).toInt ≤ 200 by decide, m, n, o, p, q, r⟩ rfl rfl
theorem I_shake {s : St} (h : Inv s) (p0 : Int32) : Inv (m_shake s p0).2.2 := by
  refine chk_I h fun hi => chk_I h fun _ => chk_I h fun _ => ?_
  obtain ⟨a, b, c, d, e, f, g, hh, ii, j, k, l, m, n, o, p, q, r⟩ := ivG_of (h.2.2.1 _ hi.2)
  exact h.sit1 hi.2 _ rfl ⟨a, b, c, d, e, f, g, hh, ii, j, k, show -1 ≤ (-1 : Int32).toInt ∧ (-1 : Int32).toInt ≤ 200 by decide, m, n, o, p, q, r⟩ rfl rfl
theorem I_begin {s : St} (h : Inv s) (p0 : Int32) : Inv (m_begin s p0).2.2 := by
  refine chk_I h fun hi => ?_
  obtain ⟨a, b, c, d, e, f, g, hh, ii, j, k, l, m, n, o, p, q, r⟩ := ivG_of (h.2.2.1 _ hi.2)
  exact h.upd hi.2 rfl rfl (fun j _ => rfl) (fun j hj => fu_n hj) rfl (ivG_to (n := 0) rfl rfl fu_s ⟨a, b, c, d, e, f, g, hh, ii, j, k, l, m, n, o, p, q, by omega⟩) rfl

theorem t_add {a b : Int32} (h1 : -2147483648 ≤ a.toInt + b.toInt) (h2 : a.toInt + b.toInt < 2147483648) : (a + b).toInt = a.toInt + b.toInt := by
  rw [Int32.toInt_add]
  exact Int.bmod_eq_of_le (by omega) (by omega)
theorem t_sub {a b : Int32} (h1 : -2147483648 ≤ a.toInt - b.toInt) (h2 : a.toInt - b.toInt < 2147483648) : (a - b).toInt = a.toInt - b.toInt := by
  rw [Int32.toInt_sub]
  exact Int.bmod_eq_of_le (by omega) (by omega)
theorem t_mul {a b : Int32} (h1 : -2147483648 ≤ a.toInt * b.toInt) (h2 : a.toInt * b.toInt < 2147483648) : (a * b).toInt = a.toInt * b.toInt := by
  rw [Int32.toInt_mul]
  exact Int.bmod_eq_of_le (by omega) (by omega)
theorem t_div {a b : Int32} (h1 : 0 ≤ a.toInt) (hb : b ≠ -1) : (a / b).toInt = a.toInt / b.toInt := by
  rw [Int32.toInt_div_of_ne_right a b hb, Int.tdiv_eq_ediv_of_nonneg h1]
theorem cia_b {bu gl : Int32} (h1 : 1000 ≤ bu.toInt) (h2 : bu.toInt ≤ 50000) : 0 ≤ (cia bu gl).toInt ∧ (cia bu gl).toInt ≤ 300 := by
  unfold cia
  have e2 : (2 : Int32).toInt = 2 := rfl
  have e6 : (6 : Int32).toInt = 6 := rfl
  have e1 : (1000 : Int32).toInt = 1000 := rfl
  by_cases z : gl = 104
  · rw [if_pos z]
    have m := t_mul (a := bu) (b := 2) (by rw [e2]; omega) (by rw [e2]; omega)
    rw [e2] at m
    rw [t_div (by omega) (by decide), m, e1]
    omega
  · rw [if_neg z]
    have m := t_mul (a := bu) (b := 6) (by rw [e6]; omega) (by rw [e6]; omega)
    rw [e6] at m
    rw [t_div (by omega) (by decide), m, e1]
    omega
theorem crp_1 {a c : Int32} (h1 : 0 ≤ c.toInt) (h2 : c.toInt ≤ a.toInt) (h3 : a.toInt ≤ 300) : (c + (a - c + 19) / 20).toInt = c.toInt + (a.toInt - c.toInt + 19) / 20 := by
  have e19 : (19 : Int32).toInt = 19 := rfl
  have e20 : (20 : Int32).toInt = 20 := rfl
  have s := t_sub (a := a) (b := c) (by omega) (by omega)
  have s1 := t_add (a := a - c) (b := 19) (by omega) (by omega)
  have s2 := t_div (a := a - c + 19) (b := 20) (by omega) (by decide)
  rw [s1, s, e19, e20] at s2
  rw [t_add (by omega) (by omega), s2]
theorem crp_b {bu gl c : Int32} (hb1 : 1000 ≤ bu.toInt) (hb2 : bu.toInt ≤ 50000) (h1 : 0 ≤ c.toInt) (h2 : c.toInt ≤ (cia bu gl).toInt) : ∀ d, 0 ≤ (crp bu gl c d).toInt ∧ (crp bu gl c d).toInt ≤ (cia bu gl).toInt := by
  intro d
  induction d with
  | zero => exact ⟨h1, h2⟩
  | succ d ih =>
    have hc := cia_b (gl := gl) hb1 hb2
    show 0 ≤ (crp bu gl c d + (cia bu gl - crp bu gl c d + 19) / 20).toInt ∧ (crp bu gl c d + (cia bu gl - crp bu gl c d + 19) / 20).toInt ≤ _
    rw [crp_1 ih.1 ih.2 hc.2]
    omega
theorem I_days {s : St} (h : Inv s) (p0 : Int32) : Inv (m_days s p0).2.2 := by
  refine chk_I h fun hr => chk_I h fun _ => ?_
  obtain ⟨h1, h2, h3, h4, h5⟩ := h
  have e : ∀ j, j < nN s → itS (creS (sG s 1 (gS s 1 + p0)) (ix p0) (nN s)) j = creG s (ix p0) j := fun j hj => if_pos hj
  refine ⟨h1, h2, fun j hj => ?_, fun a b ha hb q => h4 a b ha hb ?_, ?_⟩
  · obtain ⟨a, b, c, d, r⟩ := ivG_of (h3 j hj)
    exact ivG_to (s := s) (n := rnS s j) rfl (e j hj) rfl ⟨a, b, c, crp_b b.1 b.2 d.1 d.2 _, r⟩
  · rw [e a ha, e b hb] at q
    exact q
  · have eh : hgS (creS (sG s 1 (gS s 1 + p0)) (ix p0) (nN s)) (nN s) = hgS s (nN s) := isum_c _ (fun j hj => by rw [e j hj]; rfl)
    show gS s 2 + gS s 3 + hgS (creS (sG s 1 (gS s 1 + p0)) (ix p0) (nN s)) (nN s) = gS s 4
    rw [eh]
    exact h5
theorem mx_b {x y : Int32} {lo hi : Int} (h1 : lo ≤ x.toInt ∧ x.toInt ≤ hi) (h2 : lo ≤ y.toInt ∧ y.toInt ≤ hi) : lo ≤ (m_max x y).toInt ∧ (m_max x y).toInt ≤ hi := by
  unfold m_max
  split
  · exact h2
  · exact h1
theorem dbo_b (b t : Int32) (k : Nat) : 1 ≤ (dbo b t k).toInt ∧ (dbo b t k).toInt ≤ 60 := by
  unfold dbo
  generalize b + nI k * t = x
  have e1 : (1 : Int32).toInt = 1 := rfl
  have e60 : (60 : Int32).toInt = 60 := rfl
  unfold m_max m_min
  by_cases z : x < 60
  · rw [if_pos z]
    have z1 := Int32.lt_iff_toInt_lt.mp z
    by_cases y : (1 : Int32) < x
    · rw [if_pos y]
      have y1 := Int32.lt_iff_toInt_lt.mp y
      omega
    · rw [if_neg y]
      decide
  · rw [if_neg z]
    decide
theorem I_draw {s : St} (h : Inv s) (p0 p1 : Int32) : Inv (m_draw s p0 p1).2.2 := by
  refine chk_I h fun _ => chk_I h fun _ => chk_I h fun hn => ?_
  obtain ⟨h1, h2, h3, h4, h5⟩ := h
  refine ⟨⟨hn, h1.2⟩, fun i hi => ?_, fun j hj => ?_, h4, h5⟩
  · have hi : i < nT s + 1 := hi
    by_cases e : i = nT s
    · subst e
      refine ⟨fun k hk => ?_, Or.inl fu_s⟩
      have eb : boS (addT s p0 p1) (nT s) = dboU p0 p1 20 := fu_s
      rw [eb, show dboU p0 p1 20 k = dbo p0 p1 k from if_pos hk]
      exact dbo_b p0 p1 k
    · have eb : boS (addT s p0 p1) i = boS s i := fu_n e
      have eu : usS (addT s p0 p1) i = usS s i := fu_n e
      rw [eb, eu]
      exact h2 i (by omega)
  · obtain ⟨⟨t, a, b, c⟩, r⟩ := h3 j hj
    exact ⟨⟨t, Nat.lt_succ_of_lt a, b, (show usS (addT s p0 p1) t = usS s t from fu_n (by omega)).trans c⟩, r⟩
theorem I_section {s : St} (h : Inv s) (p0 p1 p2 : Int32) : Inv (m_section s p0 p1 p2).2.2 := by
  refine chk_I h fun _ => chk_I h fun _ => chk_I h fun hr => chk_I h fun _ => ?_
  obtain ⟨h1, h2, h3, h4, h5⟩ := h
  have hb := rng_b hr
  have e1 : (1 : Int32).toInt = 1 := rfl
  have e60 : (60 : Int32).toInt = 60 := rfl
  refine ⟨h1, fun i hi => ⟨fun k hk => ?_, (h2 i hi).2⟩, h3, h4, h5⟩
  show 1 ≤ (fu (boS s) (ix p0) (upd (boS s (ix p0)) (ix p1) p2) i k).toInt ∧ (fu (boS s) (ix p0) (upd (boS s (ix p0)) (ix p1) p2) i k).toInt ≤ 60
  by_cases e : i = ix p0
  · subst e
    rw [fu_s]
    unfold upd
    split
    · omega
    · exact (h2 _ hi).1 k hk
  · rw [fu_n e]
    exact (h2 i hi).1 k hk
theorem I_make {s : St} (h : Inv s) (p0 p1 p2 : Int32) : Inv (m_make s p0 p1 p2).2.2 := by
  refine chk_I h fun ht => chk_I h fun hb => chk_I h fun hg => chk_I h fun hu => chk_I h fun hn => ?_
  obtain ⟨h1, h2, h3, h4, h5⟩ := h
  have hb := rng_b hb
  have e1 : (1000 : Int32).toInt = 1000 := rfl
  have e2 : (50000 : Int32).toInt = 50000 := rfl
  have eU : ∀ t, usS s t = 1 → usS (addI s p0 p1 p2) t = 1 := fun t q => by
    show fu (usS s) (ix p0) 1 t = 1
    by_cases e : t = ix p0
    · rw [e, fu_s]
    · rw [fu_n e]
      exact q
  have eI : itS (addI s p0 p1 p2) (nN s) = newI p0 p1 p2 := fu_s
  have eIo : ∀ i, i < nN s → itS (addI s p0 p1 p2) i = itS s i := fun i hi => fu_n (by omega)
  have new : ∀ j, j < nN s → itS s j 0 ≠ p0 := fun j hj q => by
    obtain ⟨⟨t, a, b, c⟩, -⟩ := h3 j hj
    rw [q] at b
    rw [b, show ix (nI t) = t from nI_clamp (by have := h1.1; omega)] at hu
    rw [hu] at c
    exact absurd c (by decide)
  refine ⟨⟨h1.1, hn⟩, fun i hi => ⟨(h2 i hi).1, ?_⟩, fun j hj => ?_, fun a b ha hb' q => ?_, ?_⟩
  · show fu (usS s) (ix p0) 1 i = 0 ∨ fu (usS s) (ix p0) 1 i = 1
    by_cases e : i = ix p0
    · rw [e, fu_s]
      exact Or.inr rfl
    · rw [fu_n e]
      exact (h2 i hi).2
  · have hj : j < nN s + 1 := hj
    by_cases e : j = nN s
    · subst e
      have er : rnS (addI s p0 p1 p2) (nN s) = 0 := fu_s
      unfold invI
      rw [eI, er]
      have hc := cia_b (gl := p2) (show 1000 ≤ p1.toInt by omega) (show p1.toInt ≤ 50000 by omega)
      exact ⟨⟨ix p0, ht.2, nI_cl ht.1, fu_s⟩, show 1000 ≤ p1.toInt ∧ p1.toInt ≤ 50000 by omega, hg, ⟨show (0 : Int) ≤ (0 : Int32).toInt by decide, hc.1⟩, Or.inl rfl, Or.inl rfl, Or.inl rfl, ⟨fun z => absurd z (show ¬ (0 : Int32) = 1 by decide), fun z => absurd rfl z.1⟩, fun _ => rfl, show (0 : Int) ≤ (0 : Int32).toInt ∧ (0 : Int32).toInt ≤ 20 by decide, Or.inl rfl, show -1 ≤ (-1 : Int32).toInt ∧ (-1 : Int32).toInt ≤ 200 by decide, show -1 ≤ (-1 : Int32).toInt ∧ (-1 : Int32).toInt ≤ 200 by decide, show -1 ≤ (-1 : Int32).toInt ∧ (-1 : Int32).toInt ≤ 200 by decide, show (0 : Int) ≤ (0 : Int32).toInt ∧ (0 : Int32).toInt ≤ 2000 by decide, Or.inl rfl, fun z => absurd rfl z, by omega⟩
    · have hj' : j < nN s := by omega
      obtain ⟨⟨t, a, b, c⟩, r⟩ := h3 j hj'
      have er : rnS (addI s p0 p1 p2) j = rnS s j := fu_n e
      unfold invI
      rw [eIo j hj', er]
      exact ⟨⟨t, a, b, eU t c⟩, r⟩
  · have ha : a < nN s + 1 := ha
    have hb' : b < nN s + 1 := hb'
    by_cases ea : a = nN s <;> by_cases eb : b = nN s
    · rw [ea, eb]
    · rw [ea, eI, eIo b (by omega)] at q
      exact absurd q.symm (new b (by omega))
    · rw [eb, eI, eIo a (by omega)] at q
      exact absurd q (new a (by omega))
    · rw [eIo a (by omega), eIo b (by omega)] at q
      exact h4 a b (by omega) (by omega) q
  · have eh : hgS (addI s p0 p1 p2) (nN s + 1) = hgS s (nN s) := by
      show isum _ (nN s) + (if itS (addI s p0 p1 p2) (nN s) 6 = 109 then itS (addI s p0 p1 p2) (nN s) 7 else 0) = _
      rw [eI, if_neg (show ¬ newI p0 p1 p2 6 = 109 from (by decide : ¬ (32 : Int32) = 109)), Int32.add_zero]
      exact isum_c _ (fun j hj => by rw [eIo j hj])
    show gS s 2 + gS s 3 + hgS (addI s p0 p1 p2) (nN s + 1) = gS s 4
    rw [eh]
    exact h5
theorem I_bath {s : St} (h : Inv s) (p0 p1 p2 : Int32) : Inv (m_bath s p0 p1 p2).2.2 := by
  refine chk_I h fun hi => chk_I h fun _ => chk_I h fun _ => chk_I h fun _ => chk_I h fun _ => chk_I h fun _ => ?_
  obtain ⟨a, b, c, d, e, f, g, hh, ii, j, k, l, m, n, o, p, q, r⟩ := ivG_of (h.2.2.1 _ hi.2)
  have hl := lvl_b s (ix p0) p1 p2
  refine h.upd hi.2 rfl rfl (fun j hj => fu_n hj) (fun j hj => fu_n hj) ?_ (ivG_to (n := apN (rnS s (ix p0))) (g := batG s (ix p0) p1 (lvl s (ix p0) p1 p2)) rfl fu_s fu_s ⟨a, b, c, ?_, e, f, g, hh, ii, ?_, k, ?_, m, n, o, p, q, ?_⟩) ?_
  · show fu (itS s) (ix p0) (batG s (ix p0) p1 (lvl s (ix p0) p1 p2)) (ix p0) 0 = _
    rw [fu_s]
    rfl
  · show 0 ≤ (if 2000 < p1 then itS s (ix p0) 3 / 2 else itS s (ix p0) 3).toInt ∧ (if 2000 < p1 then itS s (ix p0) 3 / 2 else itS s (ix p0) 3).toInt ≤ (cia (itS s (ix p0) 1) (itS s (ix p0) 2)).toInt
    split
    · have e2 : (2 : Int32).toInt = 2 := rfl
      rw [t_div d.1 (by decide), e2]
      omega
    · exact d
  · show 0 ≤ (if p1 ≤ (-200) then (0 : Int32) else itS s (ix p0) 8).toInt ∧ (if p1 ≤ (-200) then (0 : Int32) else itS s (ix p0) 8).toInt ≤ 20
    split
    · decide
    · exact j
  · show -1 ≤ (if itS s (ix p0) 9 = 0 then itS s (ix p0) 10 else m_max (itS s (ix p0) 10) (lvl s (ix p0) p1 p2)).toInt ∧ (if itS s (ix p0) 9 = 0 then itS s (ix p0) 10 else m_max (itS s (ix p0) 10) (lvl s (ix p0) p1 p2)).toInt ≤ 200
    split
    · exact l
    · exact mx_b l hl
  · unfold apN
    split <;> omega
  · have em : mer (batS s (ix p0) p1 (lvl s (ix p0) p1 p2)) (ix p0) = mer s (ix p0) := by
      unfold mer
      rw [show itS (batS s (ix p0) p1 (lvl s (ix p0) p1 p2)) (ix p0) = batG s (ix p0) p1 (lvl s (ix p0) p1 p2) from fu_s]
      rfl
    rw [em]
