/-! ===== the class's sums are the reference's ===== -/
theorem stp_s : ∀ n, n < 200 → ∀ k, k < 20 → stp (nI (n + 1)) (nI k) = stp (nI n) (nI k) + (if k = n / 10 then 1 else 0) := by decide +kernel
theorem stp_0 : ∀ k, k < 20 → stp (nI 0) (nI k) = 0 := by decide +kernel
theorem vs_s (bf : Nat → Int32) {n : Nat} (hn : n < 200) : ∀ m, m ≤ 20 → vsum bf (nI (n + 1)) m = vsum bf (nI n) m + (if n / 10 < m then bf (n / 10) else 0) := by
  intro m
  induction m with
  | zero =>
    intro _
    rw [if_neg (Nat.not_lt_zero _)]
    rfl
  | succ m ih =>
    intro hm
    show vsum bf (nI (n + 1)) m + bf m * stp (nI (n + 1)) (nI m) = vsum bf (nI n) m + bf m * stp (nI n) (nI m) + _
    rw [ih (by omega), stp_s n hn m (by omega), Int32.mul_add]
    by_cases h : m = n / 10
    · rw [if_pos h, if_neg (by omega), if_pos (by omega), ← h, Int32.mul_one, Int32.add_zero, Int32.add_assoc]
    · rw [if_neg h, Int32.mul_zero, Int32.add_zero]
      by_cases h2 : n / 10 < m
      · rw [if_pos h2, if_pos (by omega), i_arc]
      · rw [if_neg h2, if_neg (by omega), Int32.add_zero, Int32.add_zero]
theorem vs_0 (bf : Nat → Int32) : ∀ m, m ≤ 20 → vsum bf (nI 0) m = 0 := by
  intro m
  induction m with
  | zero => intro _; rfl
  | succ m ih =>
    intro hm
    show vsum bf (nI 0) m + bf m * stp (nI 0) (nI m) = 0
    rw [ih (by omega), stp_0 m (by omega), Int32.mul_zero]
    rfl
theorem vs_ms (bf : Nat → Int32) : ∀ n, n ≤ 200 → vsum bf (nI n) 20 = msum bf n := by
  intro n
  induction n with
  | zero => intro _; exact vs_0 bf 20 (by omega)
  | succ n ih =>
    intro hn
    rw [vs_s bf (by omega) 20 (by omega), ih (by omega), if_pos (by omega)]
    rfl
theorem ms_b {bf : Nat → Int32} (hb : ∀ k, k < 20 → 1 ≤ (bf k).toInt ∧ (bf k).toInt ≤ 60) : ∀ k : Nat, k ≤ 200 → (k : Int) ≤ (msum bf k).toInt ∧ (msum bf k).toInt ≤ 60 * k := by
  intro k
  induction k with
  | zero =>
    intro _
    have e : (msum bf 0).toInt = 0 := rfl
    omega
  | succ k ih =>
    intro hk
    have h := hb (k / 10) (by omega)
    have h2 := ih (by omega)
    have e : (msum bf (k + 1)).toInt = (msum bf k).toInt + (bf (k / 10)).toInt := t_add (a := msum bf k) (b := bf (k / 10)) (by omega) (by omega)
    omega
theorem l_add {a b : Int32} (h1 : -2147483648 ≤ a.toInt + b.toInt) (h2 : a.toInt + b.toInt < 2147483648) : (a + b).toInt64 = a.toInt64 + b.toInt64 := Int64.toInt_inj.mp (by
  rw [Int32.toInt_toInt64, Int64.toInt_add, Int32.toInt_toInt64, Int32.toInt_toInt64, t_add h1 h2]
  exact (Int.bmod_eq_of_le (by omega) (by omega)).symm)
theorem mvl_ms {bf : Nat → Int32} (hb : ∀ k, k < 20 → 1 ≤ (bf k).toInt ∧ (bf k).toInt ≤ 60) : ∀ k : Nat, k ≤ 200 → mvl bf k = (msum bf k).toInt64 := by
  intro k
  induction k with
  | zero => intro _; rfl
  | succ k ih =>
    intro hk
    have h := hb (k / 10) (by omega)
    have h2 := ms_b hb k (by omega)
    rw [mvl_p (by omega), ih (by omega)]
    exact (l_add (a := msum bf k) (b := bf (k / 10)) (by omega) (by omega)).symm
theorem mvl_201 (bf : Nat → Int32) : mvl bf 201 = mvl bf 200 := by
  rw [mvl_n (by omega), Int64.add_zero]
theorem mlv_c (bf : Nat → Int32) (r : Int64) : ∀ K : Nat, (mlv bf r K = -1 ∧ ∀ j, j < K → r < mvl bf j) ∨ ∃ k, k < K ∧ mlv bf r K = nI k ∧ ¬ r < mvl bf k ∧ ∀ j, k < j → j < K → r < mvl bf j := by
  intro K
  induction K with
  | zero => exact Or.inl ⟨rfl, fun j hj => absurd hj (Nat.not_lt_zero j)⟩
  | succ K ih =>
    by_cases q : r < mvl bf K
    · rw [mlv_n q]
      rcases ih with ⟨h1, h2⟩ | ⟨k, hk, h1, h2, h3⟩
      · exact Or.inl ⟨h1, fun j hj => by
          by_cases e : j = K
          · rw [e]; exact q
          · exact h2 j (by omega)⟩
      · exact Or.inr ⟨k, by omega, h1, h2, fun j h4 h5 => by
          by_cases e : j = K
          · rw [e]; exact q
          · exact h3 j h4 (by omega)⟩
    · rw [mlv_p q]
      exact Or.inr ⟨K, by omega, rfl, q, fun j h4 h5 => by omega⟩
theorem mvl_t {bf : Nat → Int32} (hb : ∀ k, k < 20 → 1 ≤ (bf k).toInt ∧ (bf k).toInt ≤ 60) {k : Nat} (hk : k ≤ 200) : (mvl bf k).toInt = (msum bf k).toInt := by
  rw [mvl_ms hb k hk, Int32.toInt_toInt64]
theorem ms_m {bf : Nat → Int32} (hb : ∀ k, k < 20 → 1 ≤ (bf k).toInt ∧ (bf k).toInt ≤ 60) {j : Nat} : ∀ k : Nat, j ≤ k → k ≤ 200 → (msum bf j).toInt ≤ (msum bf k).toInt := by
  intro k
  induction k with
  | zero => intro h _; rw [show j = 0 by omega]; exact Int.le_refl _
  | succ k ih =>
    intro h1 h2
    by_cases e : j = k + 1
    · rw [e]; exact Int.le_refl _
    · have h3 := ih (by omega) (by omega)
      have h := hb (k / 10) (by omega)
      have h4 := ms_b hb k (by omega)
      have e : (msum bf (k + 1)).toInt = (msum bf k).toInt + (bf (k / 10)).toInt := t_add (a := msum bf k) (b := bf (k / 10)) (by omega) (by omega)
      omega
theorem lpw_mby {bf : Nat → Int32} (hb : ∀ k, k < 20 → 1 ≤ (bf k).toInt ∧ (bf k).toInt ≤ 60) (r : Int64) : lpwR bf r (mby bf r) := by
  have hV : ∀ j : Nat, j ≤ 200 → (vsum bf (nI j) 20).toInt64 = mvl bf j := fun j hj => by rw [vs_ms bf j hj, mvl_ms hb j hj]
  have h200 : (vsum bf 200 20).toInt64 = mvl bf 200 := hV 200 (by omega)
  have h0 : (mvl bf 0).toInt = 0 := rfl
  have e0 : (0 : Int64).toInt = 0 := rfl
  unfold mby lpwR
  rw [mvl_201, h200]
  by_cases q : mvl bf 200 < r
  · rw [if_pos q]
    exact Or.inl ⟨rfl, Or.inr q⟩
  · rw [if_neg q]
    rcases mlv_c bf r 201 with ⟨h1, h2⟩ | ⟨k, hk, h1, h2, h3⟩
    · exact Or.inl ⟨h1, Or.inl (h2 0 (by omega))⟩
    · have b := ms_b hb k (by omega)
      have t := mvl_t hb (k := k) (by omega)
      rw [Int64.lt_iff_toInt_lt] at h2
      refine Or.inr ⟨fun z => ?_, q, k, by omega, h1, fun j j1 j2 => ?_, fun z => ?_⟩
      · rw [Int64.lt_iff_toInt_lt] at z
        omega
      · rw [hV j (by omega), Int64.lt_iff_toInt_lt, mvl_t hb (by omega)]
        have m := ms_m hb k j2 (by omega)
        omega
      · rw [hV (k + 1) (by omega)]
        exact h3 (k + 1) (by omega) (by omega)
theorem l_ss (a b c : Int64) : a - b - c = a - (b + c) := by
  rw [Int64.sub_eq_add_neg, Int64.sub_eq_add_neg, Int64.sub_eq_add_neg, Int64.neg_add, Int64.sub_eq_add_neg, Int64.add_assoc]
theorem mrs_rst (ins bu cr li gl T : Int32) : mrs ins bu cr li gl T = rst ins bu cr li gl T := by
  unfold mrs rst grw ggr
  rw [l_ss]
theorem lvl_ml {bf : Nat → Int32} (hb : ∀ k, k < 20 → 1 ≤ (bf k).toInt ∧ (bf k).toInt ≤ 60) (ins bu cr li gl T air : Int32) {d : Nat} (hd : d ≤ 200) : lvlR bf ins bu cr li gl T (nI d) air (mlevel bf ins bu cr li gl T air d) := by
  refine ⟨mby bf (rst ins bu cr li gl T), lpw_mby hb _, ?_⟩
  unfold mlevel
  rw [mrs_rst]
  by_cases q : mby bf (rst ins bu cr li gl T) ≤ nI d
  · rw [if_pos q]
    exact Or.inl ⟨q, rfl⟩
  · rw [if_neg q]
    obtain ⟨j, hj, e⟩ := mby_r hd q
    refine Or.inr ⟨q, ?_⟩
    rw [e, nI_clamp (by omega), vs_ms bf j hj, vs_ms bf d hd]
    exact lpw_mby hb _
theorem lvl_m {s : St} (h : Inv s) {i : Nat} (hi : i < nN s) (T : Int32) {d : Nat} (hd : d ≤ 200) : lvl s i T (nI d) = mlevel (boS s (tbN s i)) (itS s i 7) (itS s i 1) (itS s i 3) (itS s i 6) (itS s i 2) T (gS s 0) d :=
  lvl_eq (lvl_ml (h.2.1 _ (h.tb hi)).1 _ _ _ _ _ _ _ hd)
