/-! ===== quotients of counts are numbers ===== -/
theorem en_nz {n : Nat} (h : n % 2 ^ 63 ≤ 2047 * 2 ^ 52) : FP.Core.decode FP.Core.b64 n ≠ .nan := by
  intro q
  have e1 : FP.Core.b64.tails = 2 ^ 52 := by decide
  have e2 : FP.Core.b64.exps = 2048 := by decide
  unfold FP.Core.decode at q
  by_cases a : FP.Core.fieldE FP.Core.b64 n = FP.Core.b64.exps - 1
  · rw [if_pos a] at q
    by_cases b : FP.Core.fieldT FP.Core.b64 n = 0
    · rw [if_pos b] at q
      cases q
    · unfold FP.Core.fieldE at a
      unfold FP.Core.fieldT at b
      rw [e1, e2] at a
      rw [e1] at b
      omega
  · rw [if_neg a] at q
    by_cases b : FP.Core.fieldE FP.Core.b64 n = 0
    · rw [if_pos b] at q
      cases q
    · rw [if_neg b] at q
      cases q
def en_ok (d : FP.Core.Datum) : Prop := FP.Core.encode FP.Core.b64 d % 2 ^ 63 ≤ 2047 * 2 ^ 52 ∧ FP.Core.encode FP.Core.b64 d < 2 ^ 64
theorem as_ok {s : Bool} {e t : Nat} (h : e * 2 ^ 52 + t ≤ 2047 * 2 ^ 52) : FP.Core.assemble FP.Core.b64 s e t % 2 ^ 63 ≤ 2047 * 2 ^ 52 ∧ FP.Core.assemble FP.Core.b64 s e t < 2 ^ 64 := by
  have e1 : FP.Core.b64.tails = 2 ^ 52 := by decide
  have e2 : FP.Core.b64.exps = 2048 := by decide
  unfold FP.Core.assemble
  rw [e1, e2]
  cases s
  · have z : (Bool.toNat false * 2048 + e) * 2 ^ 52 + t = e * 2 ^ 52 + t := by
      show (0 * 2048 + e) * 2 ^ 52 + t = _
      omega
    rw [z]
    omega
  · have z : (Bool.toNat true * 2048 + e) * 2 ^ 52 + t = 2 ^ 63 + (e * 2 ^ 52 + t) := by
      show (1 * 2048 + e) * 2 ^ 52 + t = _
      omega
    rw [z]
    omega
theorem en_inf (s : Bool) : en_ok (.inf s) := by
  have e2 : FP.Core.b64.exps - 1 = 2047 := by decide
  unfold en_ok FP.Core.encode
  show FP.Core.assemble FP.Core.b64 s (FP.Core.b64.exps - 1) 0 % 2 ^ 63 ≤ _ ∧ FP.Core.assemble FP.Core.b64 s (FP.Core.b64.exps - 1) 0 < _
  rw [e2]
  exact as_ok (by omega)
theorem en_fin (s : Bool) (c : Nat) (q : Int) (hc : c < 2 ^ 53) (hq : q ≤ FP.Core.b64.qmax) : en_ok (.fin s c q) := by
  have e1 : FP.Core.b64.tails = 2 ^ 52 := by decide
  have e3 : FP.Core.b64.qmax = 971 := by decide
  have e4 : FP.Core.b64.qmin = -1074 := by decide
  rw [e3] at hq
  unfold en_ok
  by_cases z : c < FP.Core.b64.tails
  · rw [show FP.Core.encode FP.Core.b64 (.fin s c q) = FP.Core.assemble FP.Core.b64 s 0 c from if_pos z]
    rw [e1] at z
    exact as_ok (by omega)
  · rw [show FP.Core.encode FP.Core.b64 (.fin s c q) = FP.Core.assemble FP.Core.b64 s ((q - FP.Core.b64.qmin).toNat + 1) (c - FP.Core.b64.tails) from if_neg z]
    rw [e1] at z ⊢
    rw [e4]
    refine as_ok ?_
    have h1 : (q - -1074).toNat + 1 ≤ 2046 := by omega
    omega
theorem en_bound (s : Bool) (c : Nat) (q : Int) (hc : c < 2 ^ 53) : en_ok (FP.Core.bound FP.Core.b64 s c q) := by
  unfold FP.Core.bound
  by_cases z : q ≤ FP.Core.b64.qmax
  · rw [if_pos z]
    exact en_fin s c q hc z
  · rw [if_neg z]
    exact en_inf s
theorem en_round (s : Bool) (num den : Nat) (e : Int) : en_ok (FP.Core.roundRatio FP.Core.b64 s num den e) := by
  have e1 : FP.Core.b64.tails = 2 ^ 52 := by decide
  have e5 : FP.Core.b64.p = 53 := rfl
  unfold FP.Core.roundRatio
  by_cases z : num = 0
  · rw [if_pos z]
    exact en_fin s 0 _ (by decide) (by decide)
  · rw [if_neg z]
    unfold FP.Core.roundAt FP.Core.settle
    split
    · rename_i h
      rw [e5] at h
      exact en_bound s _ _ h
    · rw [e1]
      exact en_bound s _ _ (by decide)
def isP : FP.Core.Datum → Bool
  | .fin _ c _ => c != 0
  | _ => false
theorem en_quo {d1 d2 : FP.Core.Datum} (h1 : d1 ≠ .nan) (h2 : isP d2 = true) : en_ok (FP.Core.quotient FP.Core.b64 d1 d2) := by
  cases d2 with
  | nan => cases h2
  | inf s => cases h2
  | fin t d r =>
    have hd : d ≠ 0 := by
      intro z
      subst z
      cases h2
    cases d1 with
    | nan => exact absurd rfl h1
    | inf s => exact en_inf _
    | fin s c q =>
      show en_ok (if d = 0 then _ else _)
      rw [if_neg hd]
      exact en_round _ _ _ _
theorem n64_ok {n : Nat} (h : n % 2 ^ 63 ≤ 2047 * 2 ^ 52) (h2 : n < 2 ^ 64) : vf_n64 (UInt64.ofNat n) := by
  unfold vf_n64
  rw [UInt64.le_iff_toNat_le, UInt64.toNat_and, UInt64.toNat_ofNat']
  have e : (0x7fffffffffffffff : UInt64).toNat = 2 ^ 63 - 1 := rfl
  rw [e, Nat.and_two_pow_sub_one_eq_mod, Nat.mod_eq_of_lt (a := n) h2]
  exact h
theorem i2d_ok (x : Int32) : FP.Core.decode FP.Core.b64 (FP.i2d x).toNat ≠ .nan := by
  have h : en_ok (FP.Core.round FP.Core.b64 (FP.Core.ofInt x.toInt)) := en_round _ _ _ _
  have e : (FP.i2d x).toNat = FP.Core.encode FP.Core.b64 (FP.Core.round FP.Core.b64 (FP.Core.ofInt x.toInt)) := by
    show (UInt64.ofNat (FP.Core.encode FP.Core.b64 (FP.Core.round FP.Core.b64 (FP.Core.ofInt x.toInt)))).toNat = _
    rw [UInt64.toNat_ofNat', Nat.mod_eq_of_lt h.2]
  rw [e]
  exact en_nz h.1
theorem i2d_8 : ∀ n : Nat, n < 9 → n ≠ 0 → isP (FP.Core.decode FP.Core.b64 (FP.i2d (nI n)).toNat) = true := by decide +kernel
theorem ddiv_num (x : Int32) (n : Nat) (hn : n ≤ 8) (h0 : n ≠ 0) : vf_n64 (FP.ddiv (FP.i2d x) (FP.i2d (nI n))) := by
  have h := en_quo (i2d_ok x) (i2d_8 n (by omega) h0)
  exact n64_ok h.1 h.2
theorem share_n (a b : Nat) (ha : a ≤ 6) (hb : b ≤ 6) (h0 : b ≠ 0) : vf_n32 (FP.fdiv (FP.i2f (nI a)) (FP.i2f (nI b))) := by
  have key : ∀ a, a < 7 → ∀ b, b < 7 → b ≠ 0 → vf_n32 (FP.fdiv (FP.i2f (nI a)) (FP.i2f (nI b))) := by unfold vf_n32; decide +kernel
  exact key a (by omega) b (by omega) h0
/-- how many certificates hold: not more than there are instruments -/
theorem ho_n (s : St) : ∀ n, ∃ a, a ≤ n ∧ isum (fun i => crtO (itS s i 5) (itS s i 11) (gS s 1)) n = nI a := by
  intro n
  induction n with
  | zero => exact ⟨0, Nat.le_refl _, rfl⟩
  | succ n ih =>
    obtain ⟨a, ha, h⟩ := ih
    show ∃ a, a ≤ n + 1 ∧ isum (fun i => crtO (itS s i 5) (itS s i 11) (gS s 1)) n + crtO (itS s n 5) (itS s n 11) (gS s 1) = nI a
    rw [h]
    rcases crtO01 (itS s n 5) (itS s n 11) (gS s 1) with q | q
    · rw [q, Int32.add_zero]
      exact ⟨a, by omega, rfl⟩
    · rw [q]
      exact ⟨a + 1, by omega, nI_1 a⟩
