/-! ===== sums over what there is ===== -/
theorem mn_p {k n : Nat} (h : k < n) : min (k + 1) n = min k n + 1 := by omega
theorem mn_n {k n : Nat} (h : n ≤ k) : min (k + 1) n = min k n := by omega
theorem mn_k {k n : Nat} (h : k < n) : min k n = k := by omega
theorem is_p (f : Nat → Int32) {k n : Nat} (h : k < n) : isum f (min (k + 1) n) = isum f (min k n) + f k := by
  rw [mn_p h]
  show isum f (min k n) + f (min k n) = _
  rw [mn_k h]
theorem is_n (f : Nat → Int32) {k n : Nat} (h : n ≤ k) : isum f (min (k + 1) n) = isum f (min k n) := by rw [mn_n h]
def tsum (s : St) : Nat → Int64
  | 0 => 7
  | k + 1 => 31 * tsum s k + (vsum (boS s k) 200 20).toInt64
theorem ts_p (s : St) {k n : Nat} (h : k < n) : tsum s (min (k + 1) n) = 31 * tsum s (min k n) + (vsum (boS s k) 200 20).toInt64 := by
  rw [mn_p h]
  show 31 * tsum s (min k n) + (vsum (boS s (min k n)) 200 20).toInt64 = _
  rw [mn_k h]
theorem ts_n (s : St) {k n : Nat} (h : n ≤ k) : tsum s (min (k + 1) n) = tsum s (min k n) := by rw [mn_n h]
def csI (s : St) (z : Int64) : Nat → Int64
  | 0 => z
  | k + 1 => lsum (rvS s k) (31 * (31 * csI s z k + (itS s k 7).toInt64) + (itS s k 3).toInt64) (rnS s k)
theorem ci_p (s : St) (z : Int64) {k n : Nat} (h : k < n) : csI s z (min (k + 1) n) = lsum (rvS s k) (31 * (31 * csI s z (min k n) + (itS s k 7).toInt64) + (itS s k 3).toInt64) (rnS s k) := by
  rw [mn_p h]
  show lsum (rvS s (min k n)) (31 * (31 * csI s z (min k n) + (itS s (min k n) 7).toInt64) + (itS s (min k n) 3).toInt64) (rnS s (min k n)) = _
  rw [mn_k h]
theorem ci_n (s : St) (z : Int64) {k n : Nat} (h : n ≤ k) : csI s z (min (k + 1) n) = csI s z (min k n) := by rw [mn_n h]
/-- the checksum -/
def chS (s : St) : Int64 := 31 * (31 * csI s (tsum s (nT s)) (nN s) + (gS s 2).toInt64) + (gS s 1).toInt64
/-- the certificates that hold -/
def hoS (s : St) : Int32 := isum (fun i => crtO (itS s i 5) (itS s i 11) (gS s 1)) (nN s)
theorem Inv.bnd {s : St} (h : Inv s) {i : Nat} (hi : i < nN s) : inb (itS s i 3) (itS s i 1) (itS s i 2) (nI (rnS s i)) = 1 := by
  obtain ⟨-, -, -, ⟨h1, h2⟩, -⟩ := h.2.2.1 i hi
  have h3 := h.rn hi
  unfold inb
  rw [if_neg (fun q => by have := Int32.lt_iff_toInt_lt.mp q; have e : (0 : Int32).toInt = 0 := rfl; omega), if_neg (fun q => by have := Int32.lt_iff_toInt_lt.mp q; omega), if_neg (show ¬ (8 : Int32) < nI (rnS s i) from i_nlt (nI_le (b := 8) h3 (by omega)))]
theorem one_0 (s : St) (p : Int32) : ∀ n, (∀ i, i < n → itS s i 0 ≠ p) → isum (fun i => if itS s i 0 = p then 1 else 0) n = 0 := by
  intro n
  induction n with
  | zero => intro _; rfl
  | succ n ih =>
    intro h
    show isum _ n + (if itS s n 0 = p then 1 else 0) = 0
    rw [ih (fun i hi => h i (by omega)), if_neg (h n (by omega))]
    rfl
theorem one_1 (s : St) (p : Int32) : ∀ n, (∀ i j, i < n → j < n → itS s i 0 = p → itS s j 0 = p → i = j) → ¬ 1 < isum (fun i => if itS s i 0 = p then 1 else 0) n := by
  intro n
  induction n with
  | zero => intro _; show ¬ (1 : Int32) < 0; decide
  | succ n ih =>
    intro h
    show ¬ 1 < isum _ n + (if itS s n 0 = p then 1 else 0)
    by_cases q : itS s n 0 = p
    · rw [one_0 s p n (fun i hi z => by have := h i n (by omega) (by omega) z q; omega), if_pos q]
      decide
    · rw [if_neg q, Int32.add_zero]
      exact ih (fun i j hi hj => h i j (by omega) (by omega))
theorem Inv.one {s : St} (h : Inv s) (k : Nat) (hk : k < nN s) : isum (fun i => if itS s i 0 = itS s k 0 then 1 else 0) (nN s) ≤ 1 :=
  i_le (one_1 s _ _ (fun i j hi hj h1 h2 => h.2.2.2.1 i j hi hj (h1.trans h2.symm)))
/-- days go by: one instrument after another -/
theorem CS.cre {G : mg} {s : St} {ad : adr} {M : mw} {d k : Nat} (h : CS G (creS s d k) ad M) (hk : k < nN s) (g : Nat → Int32) (hg : g = creG s d k) : CS G (creS s d (k + 1)) ad (mu M (ad 5 k) (.inr (0, [.int (g 0), .ref (ad 3 (tbN s k)), .int (g 1), .int (g 2), .ref (ad 6 k), .ref (ad 7 k), .int (g 3), .int (g 4), .int (g 5), .int (g 6), .int (g 7), .int (g 8), .int (g 9), .int (g 10), .int (g 11)]))) := by
  subst hg
  have e : itS (creS s d (k + 1)) k = creG s d k := by
    show (if k < k + 1 then creG s d k else itS s k) = _
    rw [if_pos (by omega)]
  have eo : ∀ i', ¬ i' = k → itS (creS s d (k + 1)) i' = itS (creS s d k) i' := fun i' q => by
    show (if i' < k + 1 then creG s d i' else itS s i') = (if i' < k then creG s d i' else itS s i')
    by_cases z : i' < k
    · rw [if_pos (by omega), if_pos z]
    · rw [if_neg (by omega), if_neg z]
  have ek : itS (creS s d k) k = itS s k := by
    show (if k < k then creG s d k else itS s k) = _
    rw [if_neg (by omega)]
  refine h.put (s1 := creS s d (k + 1)) (ok5 (s := creS s d k) hk) rfl rfl (cI_s e rfl).symm (fun k' i' _ hn => ?_)
  match k', hn with
  | 0, _ => rw [cel_0, cel_0]
  | 1, _ => rw [cel_1, cel_1]
  | 2, _ => rw [cel_2, cel_2]
  | 3, _ => rw [cel_3, cel_3]
  | 4, _ => rw [cel_4, cel_4]
  | 7, _ => rw [cel_7, cel_7]
  | 8, _ => rw [cel_8, cel_8]
  | (k + 9), _ => rw [cel_9, cel_9]
  | 5, hn =>
    rw [cel_5, cel_5]
    exact cI_o (fun f _ => congrFun (eo i' (fun q => hn ⟨rfl, q⟩)) f)
  | 6, _ =>
    rw [cel_6, cel_6]
    by_cases q : i' = k
    · subst q
      exact cSc_o ((congrFun e 0).trans (congrFun ek 0).symm) ⟨(congrFun e 12).trans (congrFun ek 12).symm, (congrFun e 13).trans (congrFun ek 13).symm, (congrFun e 14).trans (congrFun ek 14).symm, (congrFun e 15).trans (congrFun ek 15).symm⟩
    · exact cSc_o (congrFun (eo i' q) 0) ⟨congrFun (eo i' q) 12, congrFun (eo i' q) 13, congrFun (eo i' q) 14, congrFun (eo i' q) 15⟩
theorem cre_at {G : mg} {s : St} {ad : adr} {M : mw} {d k : Nat} (h : CS G (creS s d k) ad M) (hk : k < nN s) : M (ad 5 k) = some (cI s ad k) := by
  have ek : itS (creS s d k) k = itS s k := by
    show (if k < k then creG s d k else itS s k) = _
    rw [if_neg (by omega)]
  rw [h.1 5 k (ok5 (s := creS s d k) hk), cel_5]
  exact congrArg some (cI_o (fun f _ => congrFun ek f))
theorem cre_0 {G : mg} {s : St} {ad : adr} {M : mw} {d : Nat} (h : CS G s ad M) : CS G (creS s d (min 0 (nN s))) ad M := by
  have e : creS s d (min 0 (nN s)) = s := by
    show (s.1, s.2.1, (nN s, fun i => if i < min 0 (nN s) then creG s d i else itS s i), s.2.2.2) = s
    have : (fun i => if i < min 0 (nN s) then creG s d i else itS s i) = itS s := by
      funext i
      rw [if_neg (by omega)]
    rw [this]
  rw [e]
  exact h
