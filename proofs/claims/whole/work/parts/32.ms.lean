/-! ===== the class's sums are the reference's ===== -/
theorem stp_s : ∀ n, n < 200 → ∀ k, k < 20 → stp (nI (n + 1)) (nI k) = stp (nI n) (nI k) + (if k = n / 10 then 1 else 0) := by decide +kernel
theorem stp_0 : ∀ k, k < 20 → stp (nI 0) (nI k) = 0 := by decide +kernel
theorem vs_s (bf : Nat → Int32) {n : Nat} (hn : n < 200) : ∀ m, m ≤ 20 → vsum bf (nI (n + 1)) m = vsum bf (nI n) m + (if n / 10 < m then bf (n / 10) else 0) := by
  intro m
  induction m with
  | zero =>
    intro _
    rw [if_neg (Nat.not_lt_zero _)]
    rfl
  | succ m ih =>
    intro hm
    show vsum bf (nI (n + 1)) m + bf m * stp (nI (n + 1)) (nI m) = vsum bf (nI n) m + bf m * stp (nI n) (nI m) + _
    rw [ih (by omega), stp_s n hn m (by omega), Int32.mul_add]
    by_cases h : m = n / 10
    · rw [if_pos h, if_neg (by omega), if_pos (by omega), ← h, Int32.mul_one, Int32.add_zero, Int32.add_assoc]
    · rw [if_neg h, Int32.mul_zero, Int32.add_zero]
      by_cases h2 : n / 10 < m
      · rw [if_pos h2, if_pos (by omega), i_arc]
      · rw [if_neg h2, if_neg (by omega), Int32.add_zero, Int32.add_zero]
theorem vs_0 (bf : Nat → Int32) : ∀ m, m ≤ 20 → vsum bf (nI 0) m = 0 := by
  intro m
  induction m with
  | zero => intro _; rfl
  | succ m ih =>
    intro hm
    show vsum bf (nI 0) m + bf m * stp (nI 0) (nI m) = 0
    rw [ih (by omega), stp_0 m (by omega), Int32.mul_zero]
    rfl
theorem vs_ms (bf : Nat → Int32) : ∀ n, n ≤ 200 → vsum bf (nI n) 20 = msum bf n := by
  intro n
  induction n with
  | zero => intro _; exact vs_0 bf 20 (by omega)
  | succ n ih =>
    intro hn
    rw [vs_s bf (by omega) 20 (by omega), ih (by omega), if_pos (by omega)]
    rfl
