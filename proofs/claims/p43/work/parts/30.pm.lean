/-! ===== sums of bores, out of the rows of whole ===== -/
/-! ===== the reference: a tube, an instrument ===== -/
def msum (bf : Nat → Int32) : Nat → Int32
  | 0 => 0
  | k + 1 => msum bf k + bf (k / 10)
theorem nI_d10 {k : Nat} (h : k < 2 ^ 31) : nI k / 10 = nI (k / 10) := by
  rw [← Int32.toInt_inj, t_div (by rw [nI_toInt h]; omega) (by decide), nI_toInt h, nI_toInt (by omega)]
  rfl
/-! ===== the class's sums are the reference's ===== -/
theorem stp_s : ∀ n, n < 200 → ∀ k, k < 20 → stp (nI (n + 1)) (nI k) = stp (nI n) (nI k) + (if k = n / 10 then 1 else 0) := by decide +kernel
theorem stp_0 : ∀ k, k < 20 → stp (nI 0) (nI k) = 0 := by decide +kernel
theorem vs_s (bf : Nat → Int32) {n : Nat} (hn : n < 200) : ∀ m, m ≤ 20 → vsum bf (nI (n + 1)) m = vsum bf (nI n) m + (if n / 10 < m then bf (n / 10) else 0) := by
  intro m
  induction m with
  | zero =>
    intro _
    rw [if_neg (Nat.not_lt_zero _)]
    rfl
  | succ m ih =>
    intro hm
    show vsum bf (nI (n + 1)) m + bf m * stp (nI (n + 1)) (nI m) = vsum bf (nI n) m + bf m * stp (nI n) (nI m) + _
    rw [ih (by omega), stp_s n hn m (by omega), Int32.mul_add]
    by_cases h : m = n / 10
    · rw [if_pos h, if_neg (by omega), if_pos (by omega), ← h, Int32.mul_one, Int32.add_zero, Int32.add_assoc]
    · rw [if_neg h, Int32.mul_zero, Int32.add_zero]
      by_cases h2 : n / 10 < m
      · rw [if_pos h2, if_pos (by omega), i_arc]
      · rw [if_neg h2, if_neg (by omega), Int32.add_zero, Int32.add_zero]
theorem vs_0 (bf : Nat → Int32) : ∀ m, m ≤ 20 → vsum bf (nI 0) m = 0 := by
  intro m
  induction m with
  | zero => intro _; rfl
  | succ m ih =>
    intro hm
    show vsum bf (nI 0) m + bf m * stp (nI 0) (nI m) = 0
    rw [ih (by omega), stp_0 m (by omega), Int32.mul_zero]
    rfl
theorem vs_ms (bf : Nat → Int32) : ∀ n, n ≤ 200 → vsum bf (nI n) 20 = msum bf n := by
  intro n
  induction n with
  | zero => intro _; exact vs_0 bf 20 (by omega)
  | succ n ih =>
    intro hn
    rw [vs_s bf (by omega) 20 (by omega), ih (by omega), if_pos (by omega)]
    rfl
theorem ms_b {bf : Nat → Int32} (hb : ∀ k, k < 20 → 1 ≤ (bf k).toInt ∧ (bf k).toInt ≤ 60) : ∀ k : Nat, k ≤ 200 → (k : Int) ≤ (msum bf k).toInt ∧ (msum bf k).toInt ≤ 60 * k := by
  intro k
  induction k with
  | zero =>
    intro _
    have e : (msum bf 0).toInt = 0 := rfl
    omega
  | succ k ih =>
    intro hk
    have h := hb (k / 10) (by omega)
    have h2 := ih (by omega)
    have e : (msum bf (k + 1)).toInt = (msum bf k).toInt + (bf (k / 10)).toInt := t_add (a := msum bf k) (b := bf (k / 10)) (by omega) (by omega)
    omega
theorem ms_m {bf : Nat → Int32} (hb : ∀ k, k < 20 → 1 ≤ (bf k).toInt ∧ (bf k).toInt ≤ 60) {j : Nat} : ∀ k : Nat, j ≤ k → k ≤ 200 → (msum bf j).toInt ≤ (msum bf k).toInt := by
  intro k
  induction k with
  | zero => intro h _; rw [show j = 0 by omega]; exact Int.le_refl _
  | succ k ih =>
    intro h1 h2
    by_cases e : j = k + 1
    · rw [e]; exact Int.le_refl _
    · have h3 := ih (by omega) (by omega)
      have h := hb (k / 10) (by omega)
      have h4 := ms_b hb k (by omega)
      have e : (msum bf (k + 1)).toInt = (msum bf k).toInt + (bf (k / 10)).toInt := t_add (a := msum bf k) (b := bf (k / 10)) (by omega) (by omega)
      omega
/-! ===== the class's numbers are the reference's ===== -/
theorem i_0ix {x : Int32} {N : Int} (h0 : 0 ≤ x.toInt) : x = nI x.toNatClampNeg := nI_cl (fun q => by
  have := Int32.lt_iff_toInt_lt.mp q
  have e : (0 : Int32).toInt = 0 := rfl
  omega)
theorem ix_t {x : Int32} (h0 : 0 ≤ x.toInt) : (x.toNatClampNeg : Int) = x.toInt := by
  have e := i_0ix (N := 0) h0
  have l := Int32.toNatClampNeg_lt x
  have e2 := congrArg Int32.toInt e
  rw [nI_toInt l] at e2
  omega
/-- what is delivered -/
def dsum (bf : Nat → Int32) (c : Int32) (a : Nat) : Nat → Int32
  | 0 => 0
  | k + 1 => dsum bf c a k + m_max 0 (bf ((a + k) / 10) - c)
theorem cs_vs (bf : Nat → Int32) (lo up c : Int32) : ∀ m, csum bf lo up c m = vsum (fun k => m_min c (bf k)) up m - vsum (fun k => m_min c (bf k)) lo m := by
  intro m
  induction m with
  | zero => exact (Int32.sub_self 0).symm
  | succ m ih =>
    show csum bf lo up c m + (stp up (nI m) - stp lo (nI m)) * m_min c (bf m) = (vsum (fun k => m_min c (bf k)) up m + m_min c (bf m) * stp up (nI m)) - (vsum (fun k => m_min c (bf k)) lo m + m_min c (bf m) * stp lo (nI m))
    rw [ih, Int32.sub_mul, Int32.mul_comm (stp up (nI m)), Int32.mul_comm (stp lo (nI m))]
    generalize vsum (fun k => m_min c (bf k)) up m = a
    generalize vsum (fun k => m_min c (bf k)) lo m = b
    generalize m_min c (bf m) * stp up (nI m) = x
    generalize m_min c (bf m) * stp lo (nI m) = y
    simp only [Int32.sub_eq_add_neg, Int32.neg_add]
    ac_rfl
theorem mm_c {b c : Int32} (hb1 : 1 ≤ b.toInt) (hb2 : b.toInt ≤ 60) (hc1 : 0 ≤ c.toInt) (hc2 : c.toInt ≤ 100) : m_max 0 (b - c) = b - m_min c b := by
  have e : (b - c).toInt = b.toInt - c.toInt := t_sub (by omega) (by omega)
  show (if (0 : Int32) < b - c then b - c else 0) = b - (if b < c then b else c)
  by_cases h : b < c
  · have h' := Int32.lt_iff_toInt_lt.mp h
    rw [if_pos h, Int32.sub_self, if_neg (fun q => by have := Int32.lt_iff_toInt_lt.mp q; have z : (0 : Int32).toInt = 0 := rfl; omega)]
  · rw [if_neg h]
    have h' : ¬ b.toInt < c.toInt := fun q => h (Int32.lt_iff_toInt_lt.mpr q)
    by_cases h2 : (0 : Int32) < b - c
    · rw [if_pos h2]
    · rw [if_neg h2]
      have h3 : ¬ (0 : Int32).toInt < (b - c).toInt := fun q => h2 (Int32.lt_iff_toInt_lt.mpr q)
      refine Int32.toInt_inj.mp ?_
      have z : (0 : Int32).toInt = 0 := rfl
      omega
theorem ds_m {bf : Nat → Int32} (hb : ∀ k, k < 20 → 1 ≤ (bf k).toInt ∧ (bf k).toInt ≤ 60) {c : Int32} (hc1 : 0 ≤ c.toInt) (hc2 : c.toInt ≤ 100) {a : Nat} : ∀ n, a + n ≤ 200 → dsum bf c a n = (msum bf (a + n) - msum bf a) - (msum (fun k => m_min c (bf k)) (a + n) - msum (fun k => m_min c (bf k)) a) := by
  intro n
  induction n with
  | zero =>
    intro _
    show (0 : Int32) = msum bf a - msum bf a - (msum (fun k => m_min c (bf k)) a - msum (fun k => m_min c (bf k)) a)
    rw [Int32.sub_self, Int32.sub_self, Int32.sub_self]
  | succ n ih =>
    intro hn
    have h := hb ((a + n) / 10) (by omega)
    show dsum bf c a n + m_max 0 (bf ((a + n) / 10) - c) = (msum bf (a + n) + bf ((a + n) / 10) - msum bf a) - (msum (fun k => m_min c (bf k)) (a + n) + m_min c (bf ((a + n) / 10)) - msum (fun k => m_min c (bf k)) a)
    rw [ih (by omega), mm_c h.1 h.2 hc1 hc2]
    generalize msum bf (a + n) = x1
    generalize msum bf a = x2
    generalize msum (fun k => m_min c (bf k)) (a + n) = x3
    generalize msum (fun k => m_min c (bf k)) a = x4
    generalize m_min c (bf ((a + n) / 10)) = x5
    generalize bf ((a + n) / 10) = x6
    simp only [Int32.sub_eq_add_neg, Int32.neg_add, Int32.neg_neg]
    ac_rfl
/-- the widest section -/
theorem wid_r (bf : Nat → Int32) : ∀ k, k ≤ 20 → ∃ j : Nat, j < 20 ∧ wid bf k = nI j := by
  intro k
  induction k with
  | zero => intro _; exact ⟨0, by omega, rfl⟩
  | succ k ih =>
    intro hk
    show ∃ j : Nat, j < 20 ∧ (if brO bf (wid bf k) < bf k then nI k else wid bf k) = nI j
    split
    · exact ⟨k, by omega, rfl⟩
    · exact ih (by omega)
theorem brO_i (bf : Nat → Int32) {j : Nat} (hj : j < 20) : brO bf (nI j) = bf j := by
  unfold brO
  rw [if_neg (nI_pos (by omega)), if_neg (fun q => by have := (nI_leI (a := 20) (b := j) (by omega) (by omega)).mp q; omega), nI_clamp (by omega)]
/-! ===== the law: two sides, and two arrays between them ===== -/
abbrev aH (n : Nat) : Nat → Prop := fun q => n ≤ q
def aS (H : Heap) (M : mw) : Nat → Prop := fun q => H.size ≤ q ∨ M q ≠ none
theorem aS_sub {A : Nat → Prop} {H : Heap} {M : mw} (hA : ∀ q : Nat, H.size ≤ q → A q) (hI : mI A M) : ∀ q, aS H M q → A q := fun q h => h.elim (hA q) (fun z => by
  cases e : M q with
  | none => exact absurd e z
  | some x => exact hI q x e)
/-- the union of two worlds -/
def twU (M N : mw) : mw := fun q => match M q with | some e => some e | none => N q
theorem twU_l {M N : mw} {q : Nat} {e : va_E} (h : M q = some e) : twU M N q = some e := by unfold twU; rw [h]
theorem twU_r {M N : mw} {q : Nat} (h : M q = none) : twU M N q = N q := by unfold twU; rw [h]
theorem twU_n {M N : mw} {q : Nat} (h : twU M N q = none) : M q = none ∧ N q = none := by
  cases e : M q with
  | none => exact ⟨rfl, by rw [← twU_r (N := N) e]; exact h⟩
  | some x => rw [twU_l e] at h; cases h
theorem mP.twU {D : va_G} {M N : mw} {H : Heap} (h1 : mP D M H) (h2 : mP D N H) : mP D (twU M N) H := fun a e he => by
  cases q : M a with
  | none => rw [twU_r q] at he; exact h2 a e he
  | some x => rw [twU_l q] at he; cases he; exact h1 a _ q
theorem mI.twU {A : Nat → Prop} {M N : mw} (h1 : mI A M) (h2 : mI A N) : mI A (twU M N) := fun a e he => by
  cases q : M a with
  | none => rw [twU_r q] at he; exact h2 a e he
  | some x => exact h1 a x q
theorem mP_o {D : va_G} {M : mw} {H : Heap} {o : Nat} {e : va_E} (h : mP D M H) (ho : va_at D vwCl (o, e) H) : mP D (mu M o e) H := fun a x hx => by
  by_cases z : a = o
  · subst z
    rw [mu_s] at hx
    cases hx
    exact ho
  · rw [mu_n z] at hx
    exact h a x hx
section MCTX
variable {p : Program} {l : Launch} {e : Env} {R : Room} {s : State} {m : MethodId} {args : Array Value} {below : List Frame} {meth : Method} {c : Code} {H : Heap} {locs : List Loc} {cells slots : Nat} {Q : State → Prop}
variable {cc : ByteArray} {pc : Nat} {ls : Array Slot} {rest st0 : List Value} {a : Array Value} {A : Nat → Prop} {mc ms : Nat} {G : mg} {M : mw} {D : va_G} {tys : List (ClassId × FieldType)} {b : Nat}
theorem sPre (hG : GK G A s) (hS : va_S A s.heap H locs) (hP : mP G.1 M H) (hI : mI A M) (hA : ∀ q : Nat, s.heap.size ≤ q → A q) (U : State) (hU : U.heap = H) (hW : s.WarmedH U.vm) : mB G (aS H M) M U := by
  have hg := hG.move hS hU hW
  exact ⟨⟨hg.1, hg.2.1, hg.2.2.narrow (aS_sub (fun q hq => hA q (Nat.le_trans hS.1 hq)) hI)⟩, by rw [hU]; exact hP, fun a e he => Or.inr (by rw [he]; exact fun z => by cases z), fun q hq => Or.inl (by rw [← hU]; exact hq)⟩
theorem sPreS (hG : GK G A s) (hS : va_S A s.heap H locs) (hP : mP G.1 M H) (hI : mI A M) (hA : ∀ q : Nat, s.heap.size ≤ q → A q) {As : List Value} : PreS s H (va_Pc As (mB G (aS H M) M)) As :=
  ⟨fun a U g mk h => mB.blind a U g mk h, fun U hU hW => ⟨rfl, sPre hG hS hP hI hA U hU hW⟩⟩
theorem sPreV (hG : GK G A s) (hS : va_S A s.heap H locs) (hP : mP G.1 M H) (hI : mI A M) (hA : ∀ q : Nat, s.heap.size ≤ q → A q) {As : List Value} {b ci : Nat} {fs : List Value} (hb : va_at G.1 vwCl (b, .inr (ci, fs)) H) {r : vw_C} (hc : vwCl[ci]? = some r) : PreV s H r.1 b (va_Pc (.ref b :: As) (mB G (aS H M) M)) As :=
  ⟨fun a U g mk h => mB.blind a U g mk h, va_recv hG.K hb.one hc (q0 := 0) rfl, fun U hU hW => ⟨rfl, sPre hG hS hP hI hA U hU hW⟩⟩
theorem ls_calli {post : Int32 → mw → Prop} (hr : vx_Run p l e R s m args below meth c H locs cells slots mc ms (F0 m pc ls st0) rest (va_Qi post (mE G (aS H M)) (aS H M) a) (xX (fun _ => False) G (aS H M) M) (aS H M)) (hI : mI A M) (hS : va_S A s.heap H locs) (hA : ∀ q : Nat, s.heap.size ≤ q → A q)
    (kk : ∀ (r : Int32) (M1 : mw) (H1 : Heap) (locs1 : List Loc), post r M1 → mP G.1 M1 H1 → mI (aS H M) M1 → (∀ q : Nat, q < H.size → ¬ aS H M q → H1[q]? = H[q]?) → va_S A s.heap H1 locs1 → W p l e R s m args below meth c H1 locs1 (cells + mc) (slots + ms) Q (F0 m (pc + 3) ls (.int r :: rest))) : W p l e R s m args below meth c H locs cells slots Q (F0 m pc ls st0) :=
  have sub := aS_sub (fun q hq => hA q (Nat.le_trans hS.1 hq)) hI
  vx_calli hr hS (fun q _ h => sub q h) (fun q h => sub q h) (fun q _ h => sub q h) (fun _ _ _ _ _ _ _ _ _ hp _ _ _ _ _ _ _ => False.elim hp) (fun r u t H1 locs1 ht _ hp hB _ hk hS1 => kk r u H1 locs1 hp (by rw [← ht]; exact hB.1) hB.2 hk hS1)
theorem lm_calli {post : Int32 → mw → Prop} (hr : va_Run p l e R s m args below meth c H locs cells slots mc ms (F0 m pc ls st0) rest (va_Qi post (mE G (aS H M)) (aS H M) a) (aS H M)) (hI : mI A M) (hS : va_S A s.heap H locs) (hA : ∀ q : Nat, s.heap.size ≤ q → A q)
    (kk : ∀ (r : Int32) (M1 : mw) (H1 : Heap) (locs1 : List Loc), post r M1 → mP G.1 M1 H1 → mI (aS H M) M1 → (∀ q : Nat, q < H.size → ¬ aS H M q → H1[q]? = H[q]?) → va_S A s.heap H1 locs1 → W p l e R s m args below meth c H1 locs1 (cells + mc) (slots + ms) Q (F0 m (pc + 3) ls (.int r :: rest))) : W p l e R s m args below meth c H locs cells slots Q (F0 m pc ls st0) :=
  have sub := aS_sub (fun q hq => hA q (Nat.le_trans hS.1 hq)) hI
  va_calli hr hS (fun q _ h => sub q h) (fun q h => sub q h) (fun r u t H1 locs1 ht _ hp hB _ hk hS1 => kk r u H1 locs1 hp (by rw [← ht]; exact hB.1) hB.2 hk hS1)
theorem lm_callv {post : mw → Prop} (hr : va_Run p l e R s m args below meth c H locs cells slots mc ms (F0 m pc ls st0) rest (va_Qv post (mE G (aS H M)) (aS H M) a) (aS H M)) (hI : mI A M) (hS : va_S A s.heap H locs) (hA : ∀ q : Nat, s.heap.size ≤ q → A q)
    (kk : ∀ (M1 : mw) (H1 : Heap) (locs1 : List Loc), post M1 → mP G.1 M1 H1 → mI (aS H M) M1 → (∀ q : Nat, q < H.size → ¬ aS H M q → H1[q]? = H[q]?) → va_S A s.heap H1 locs1 → W p l e R s m args below meth c H1 locs1 (cells + mc) (slots + ms) Q (F0 m (pc + 3) ls rest)) : W p l e R s m args below meth c H locs cells slots Q (F0 m pc ls st0) :=
  have sub := aS_sub (fun q hq => hA q (Nat.le_trans hS.1 hq)) hI
  va_callv hr hS (fun q _ h => sub q h) (fun q h => sub q h) (fun u t H1 locs1 ht _ hp hB _ hk hS1 => kk u H1 locs1 hp (by rw [← ht]; exact hB.1) hB.2 hk hS1)
end MCTX
/-! ===== numbers of the law ===== -/
theorem nA (a b : Nat) : nI a + nI b = nI (a + b) := (Int32.ofNat_add a b).symm
theorem ng_add {a b : Nat} (h : a + b < 2 ^ 31) : ¬ nI a + nI b < 0 := by
  rw [nA]
  exact nI_pos h
theorem nI_ofb {x : Int32} {N : Nat} (h0 : 0 ≤ x.toInt) (h1 : x.toInt < N) : ∃ n, n < N ∧ x = nI n :=
  ⟨x.toNatClampNeg, by have := ix_t h0; omega, i_0ix (N := 0) h0⟩
theorem rg_n {n lo hi : Nat} (h1 : lo ≤ n) (h2 : n ≤ hi) (h3 : hi < 2 ^ 31) : rng (nI n) (nI lo) (nI hi) := ⟨nI_nlt h1 (by omega), nI_le h2 h3⟩
theorem nI_inj2 {a b : Nat} (ha : a < 2 ^ 31) (hb : b < 2 ^ 31) (h : nI a = nI b) : a = b := by
  rw [← nI_clamp ha, ← nI_clamp hb, h]
/-- the bores as the law says them -/
theorem dbo_lo {f t : Int32} {k : Nat} (h : ¬ 1 ≤ f + nI k * t) : dbo f t k = 1 := by
  have h1 := i_lt h
  show (if (1 : Int32) < (if f + nI k * t < 60 then f + nI k * t else 60) then (if f + nI k * t < 60 then f + nI k * t else 60) else 1) = 1
  rw [if_pos (show f + nI k * t < 60 from by
    rw [Int32.lt_iff_toInt_lt] at h1 ⊢
    have e1 : (1 : Int32).toInt = 1 := rfl
    have e2 : (60 : Int32).toInt = 60 := rfl
    omega)]
  exact if_neg (fun q => by
    rw [Int32.lt_iff_toInt_lt] at h1 q
    omega)
theorem dbo_hi {f t : Int32} {k : Nat} (h : ¬ f + nI k * t ≤ 60) : dbo f t k = 60 := by
  show (if (1 : Int32) < (if f + nI k * t < 60 then f + nI k * t else 60) then (if f + nI k * t < 60 then f + nI k * t else 60) else 1) = 60
  have h1 := i_lt h
  rw [if_neg (show ¬ f + nI k * t < 60 from fun q => by
    rw [Int32.lt_iff_toInt_lt] at h1 q
    omega)]
  exact if_pos (by decide)
theorem dbo_mid {f t : Int32} {k : Nat} (h : 1 ≤ f + nI k * t) (h2 : f + nI k * t ≤ 60) : dbo f t k = f + nI k * t := by
  show (if (1 : Int32) < (if f + nI k * t < 60 then f + nI k * t else 60) then (if f + nI k * t < 60 then f + nI k * t else 60) else 1) = f + nI k * t
  rw [Int32.le_iff_toInt_le] at h h2
  have e1 : (1 : Int32).toInt = 1 := rfl
  have e2 : (60 : Int32).toInt = 60 := rfl
  by_cases q : f + nI k * t < 60
  · rw [if_pos q]
    by_cases z : (1 : Int32) < f + nI k * t
    · exact if_pos z
    · rw [if_neg z]
      rw [Int32.lt_iff_toInt_lt] at z
      exact Int32.toInt_inj.mp (by omega)
  · rw [if_neg q, if_pos (by decide)]
    rw [Int32.lt_iff_toInt_lt] at q
    exact Int32.toInt_inj.mp (by omega)
/-- the widest section so far -/
theorem wd_st (bf : Nat → Int32) {k : Nat} (hk : k < 200) : (bf (k / 10) ≤ bf (wid bf ((k + 9) / 10)).toNatClampNeg → wid bf ((k + 1 + 9) / 10) = wid bf ((k + 9) / 10)) ∧ (¬ bf (k / 10) ≤ bf (wid bf ((k + 9) / 10)).toNatClampNeg → wid bf ((k + 1 + 9) / 10) = nI (k / 10)) := by
  have hbr : ∀ m, m ≤ 20 → brO bf (wid bf m) = bf (wid bf m).toNatClampNeg := fun m hm => by
    obtain ⟨j, hj, e⟩ := wid_r bf m hm
    rw [e, brO_i bf hj, nI_clamp (by omega)]
  have hw : ∀ m, wid bf (m + 1) = if brO bf (wid bf m) < bf m then nI m else wid bf m := fun _ => rfl
  by_cases h0 : k % 10 = 0
  · rw [show (k + 1 + 9) / 10 = k / 10 + 1 by omega, show (k + 9) / 10 = k / 10 by omega, hw, hbr (k / 10) (by omega)]
    exact ⟨fun h => if_neg (i_nlt h), fun h => if_pos (i_lt h)⟩
  · rw [show (k + 1 + 9) / 10 = k / 10 + 1 by omega, show (k + 9) / 10 = k / 10 + 1 by omega]
    refine ⟨fun _ => rfl, fun h => absurd ?_ h⟩
    rw [hw, hbr (k / 10) (by omega)]
    by_cases q : bf (wid bf (k / 10)).toNatClampNeg < bf (k / 10)
    · rw [if_pos q, nI_clamp (by omega)]
      exact Int32.le_refl _
    · rw [if_neg q]
      exact i_le q
theorem wd_in (bf : Nat → Int32) {k : Nat} (hk : k ≤ 200) : vp_in (wid bf ((k + 9) / 10)) 20 := by
  obtain ⟨j, hj, e⟩ := wid_r bf ((k + 9) / 10) (by omega)
  rw [e]
  exact vp_in_nI hj (by omega)
/-- a thread's end, place by place from the top -/
def TE (bf : Nat → Int32) (T : Int32) (k : Nat) (z : Int32) : Prop := (z = -900003 ∧ ∀ j, k ≤ j → j ≤ 200 → msum bf j < T) ∨ (∃ j, k ≤ j ∧ j ≤ 200 ∧ z = nI j ∧ ¬ msum bf j < T ∧ ∀ i, k ≤ i → i < j → msum bf i < T)
theorem TE_0 (bf : Nat → Int32) (T : Int32) : TE bf T 201 (-900003) := Or.inl ⟨rfl, fun j h1 h2 => by omega⟩
theorem TE_n {bf : Nat → Int32} {T z : Int32} {k : Nat} (h : TE bf T (k + 1) z) (q : msum bf k < T) : TE bf T k z := by
  rcases h with ⟨h1, h2⟩ | ⟨j, h1, h2, h3, h4, h5⟩
  · refine Or.inl ⟨h1, fun j a b => ?_⟩
    by_cases e : j = k
    · rw [e]; exact q
    · exact h2 j (by omega) b
  · refine Or.inr ⟨j, by omega, h2, h3, h4, fun i a b => ?_⟩
    by_cases e : i = k
    · rw [e]; exact q
    · exact h5 i (by omega) b
theorem TE_p {bf : Nat → Int32} {T z : Int32} {k : Nat} (_ : TE bf T (k + 1) z) (hk : k ≤ 200) (q : ¬ msum bf k < T) : TE bf T k (nI k) := Or.inr ⟨k, Nat.le_refl k, hk, rfl, q, fun i a b => by omega⟩
theorem TE_f {bf : Nat → Int32} (hb : ∀ k, k < 20 → 1 ≤ (bf k).toInt ∧ (bf k).toInt ≤ 60) {p : Nat} {v z : Int32} (hp : p ≤ 200) (h1 : 1 ≤ v.toInt) (h2 : v.toInt ≤ 99999) (h : TE bf (msum bf p + v) p z) :
    (∃ j, j ≤ 200 ∧ z = nI j ∧ fphR bf (vsum bf (nI p) 20 + v) (nI j)) ∨ (z = -900003 ∧ fphR bf (vsum bf (nI p) 20 + v) (-1)) := by
  have hbp := ms_b hb p hp
  have eg : (msum bf p + v).toInt = (msum bf p).toInt + v.toInt := t_add (by omega) (by omega)
  have low : ∀ j, j < p → msum bf j < msum bf p + v := fun j hj => by
    rw [Int32.lt_iff_toInt_lt, eg]
    have := ms_m hb p (j := j) (by omega) (by omega)
    omega
  unfold fphR
  rw [vs_ms bf p hp]
  rcases h with ⟨e1, e2⟩ | ⟨j, e1, e2, e3, e4, e5⟩
  · refine Or.inr ⟨e1, Or.inr ⟨rfl, fun j hj => ?_⟩⟩
    rw [vs_ms bf j (by omega)]
    by_cases q : j < p
    · exact low j q
    · exact e2 j (by omega) (by omega)
  · refine Or.inl ⟨j, e2, e3, Or.inl ⟨j, e2, rfl, by rw [vs_ms bf j e2]; exact e4, fun i hi => ?_⟩⟩
    rw [vs_ms bf i (by omega)]
    by_cases q : i < p
    · exact low i q
    · exact e5 i (by omega) hi
/-- what clings, and what is delivered -/
theorem cts_1 {x : Int32} (h : 60 ≤ x) : (0 : Int32) = cts x := (if_pos h).symm
theorem cts_2 {x : Int32} (h : ¬ 60 ≤ x) : (69 - x) / 10 = cts x := by
  unfold cts
  rw [if_neg h]
  congr 1
  rw [show (69 : Int32) = 60 + 9 from by decide, Int32.sub_eq_add_neg, Int32.sub_eq_add_neg, Int32.add_assoc, Int32.add_comm 9, ← Int32.add_assoc]
theorem cts_b {n : Nat} (hn : n < 90) : 0 ≤ (cts (nI (1 + n))).toInt ∧ (cts (nI (1 + n))).toInt ≤ 100 := by
  have key : ∀ n : Nat, n < 90 → 0 ≤ (cts (nI (1 + n))).toInt ∧ (cts (nI (1 + n))).toInt ≤ 100 := by decide +kernel
  exact key n hn
theorem dm_le {b c : Int32} (h : b ≤ c) (hb1 : 1 ≤ b.toInt) (hb2 : b.toInt ≤ 60) (hc1 : 0 ≤ c.toInt) (hc2 : c.toInt ≤ 100) : (0 : Int32) = m_max 0 (b - c) := by
  refine (if_neg (fun q => ?_)).symm
  rw [Int32.lt_iff_toInt_lt, t_sub (by omega) (by omega)] at q
  rw [Int32.le_iff_toInt_le] at h
  have z : (0 : Int32).toInt = 0 := rfl
  omega
theorem dm_gt {b c : Int32} (h : ¬ b ≤ c) (hb1 : 1 ≤ b.toInt) (hb2 : b.toInt ≤ 60) (hc1 : 0 ≤ c.toInt) (hc2 : c.toInt ≤ 100) : b - c = m_max 0 (b - c) := by
  refine (if_pos ?_).symm
  rw [Int32.lt_iff_toInt_lt, t_sub (by omega) (by omega)]
  rw [Int32.le_iff_toInt_le] at h
  have z : (0 : Int32).toInt = 0 := rfl
  omega
theorem dl_eq {bf : Nat → Int32} (hb : ∀ k, k < 20 → 1 ≤ (bf k).toInt ∧ (bf k).toInt ≤ 60) {c : Int32} (hc1 : 0 ≤ c.toInt) (hc2 : c.toInt ≤ 100) {t f : Nat} (h : t ≤ f) (hf : f ≤ 200) : vsum bf (nI f) 20 - vsum bf (nI t) 20 - csum bf (nI t) (nI f) c 20 = dsum bf c t (f - t) := by
  rw [cs_vs, vs_ms bf f hf, vs_ms bf t (by omega), vs_ms (fun k => m_min c (bf k)) f hf, vs_ms (fun k => m_min c (bf k)) t (by omega), ds_m hb hc1 hc2 (f - t) (by omega), show t + (f - t) = f by omega]
/-! ===== what the calls answer in the law's states ===== -/
theorem wan_1 {x : Int32} {s : St} : wan (1, x, s) = -900001 := (wan_k (k := 0) rfl).trans (by decide)
theorem wan_2 {x : Int32} {s : St} : wan (2, x, s) = -900002 := (wan_k (k := 1) rfl).trans (by decide)
theorem wan_3 {x : Int32} {s : St} : wan (3, x, s) = -900003 := (wan_k (k := 2) rfl).trans (by decide)
abbrev bnd (bo : Nat → Int32) : Prop := ∀ k, k < 20 → 1 ≤ (bo k).toInt ∧ (bo k).toInt ≤ 60
def pq (bo : Nat → Int32) (st : St) : Prop := nT st = 1 ∧ nN st = 0 ∧ usS st 0 = 0 ∧ boS st 0 = bo
def pr (st : St) : Prop := nT st = 1 ∧ nN st = 1 ∧ usS st 0 = 1
theorem pq_b {bo : Nat → Int32} {st : St} (h : pq bo st) (hV : Inv st) : bnd bo := by
  rw [← h.2.2.2]
  exact (hV.2.1 0 (by rw [h.1]; omega)).1
theorem z_ix : ix 0 = 0 := rfl
theorem tk_0 {st : St} (h : nT st = 1) : tok st 0 := ⟨by decide, by rw [h]; exact Nat.zero_lt_one⟩
theorem tk_1 {st : St} (h : nT st = 1) : ¬ tok st 1 := fun q => by
  have h2 : (1 : Nat) < nT st := q.2
  rw [h] at h2
  omega
theorem q_draw1 {st : St} {p0 p1 : Int32} (h : ¬ rng p0 1 40) : m_draw st p0 p1 = (1, 0, st) := chk_n h
theorem q_draw2 {st : St} {p0 p1 : Int32} (h0 : rng p0 1 40) (h : ¬ rng p1 (-2) 2) : m_draw st p0 p1 = (1, 0, st) := (chk_p h0).trans (chk_n h)
theorem q_draw {p0 p1 : Int32} (h0 : rng p0 1 40) (h : rng p1 (-2) 2) : m_draw stZ p0 p1 = (0, 0, addT stZ p0 p1) := (chk_p h0).trans ((chk_p h).trans ((chk_p (show nT stZ < 8 from by decide)).trans (by rw [show nI (nT stZ) = 0 from rfl])))
theorem pq_draw (p0 p1 : Int32) : pq (dboU p0 p1 20) (addT stZ p0 p1) := ⟨rfl, rfl, (show fu (usS stZ) 0 0 0 = 0 from fu_s), (show fu (boS stZ) 0 (dboU p0 p1 20) 0 = dboU p0 p1 20 from fu_s)⟩
theorem q_bore {bo : Nat → Int32} {st : St} (h : pq bo st) {k : Nat} (hk : k < 20) : m_bore st 0 (nI k) = (0, bo k, st) := by
  refine (chk_p (tk_0 h.1)).trans ((chk_p (rg_n (lo := 0) (hi := 19) (by omega) (by omega) (by omega))).trans ?_)
  show (0, brO (boS st 0) (nI k), st) = _
  rw [h.2.2.2, brO_i bo hk]
theorem q_bore1 {st : St} (h : nT st = 1) {k : Int32} : m_bore st 1 k = (1, 0, st) := chk_n (tk_1 h)
theorem q_bore2 {st : St} (h : nT st = 1) : m_bore st 0 20 = (2, 0, st) := (chk_p (tk_0 h)).trans (chk_n (by decide))
theorem q_section {bo : Nat → Int32} {st : St} (h : pq bo st) {k : Nat} (hk : k < 20) {v : Int32} (hv : rng v 1 60) : m_section st 0 (nI k) v = (0, bo k, setB st 0 (nI k) v) := by
  refine (chk_p (tk_0 h.1)).trans ((chk_p (rg_n (lo := 0) (hi := 19) (by omega) (by omega) (by omega))).trans ((chk_p hv).trans ((chk_p h.2.2.1).trans ?_)))
  show (0, brO (boS st 0) (nI k), setB st 0 (nI k) v) = _
  rw [h.2.2.2, brO_i bo hk]
theorem pq_section {bo : Nat → Int32} {st : St} (h : pq bo st) {k : Nat} (hk : k < 20) (v : Int32) : pq (upd bo k v) (setB st 0 (nI k) v) := by
  refine ⟨h.1, h.2.1, h.2.2.1, ?_⟩
  show fu (boS st) 0 (upd (boS st 0) (ix (nI k)) v) 0 = _
  rw [fu_s, h.2.2.2]
  show upd bo (nI k).toNatClampNeg v = _
  rw [nI_clamp (by omega)]
theorem q_section2 {st : St} (h : nT st = 1) {k v : Int32} (hv : ¬ rng k 0 19) : m_section st 0 k v = (2, 0, st) := (chk_p (tk_0 h)).trans (chk_n hv)
theorem q_section3 {st : St} (h : nT st = 1) {k v : Int32} (hk : rng k 0 19) (hv : ¬ rng v 1 60) : m_section st 0 k v = (2, 0, st) := (chk_p (tk_0 h)).trans ((chk_p hk).trans (chk_n hv))
theorem q_section4 {st : St} (h : nT st = 1) {k v : Int32} (hk : rng k 0 19) (hv : rng v 1 60) (hu : usS st 0 = 1) : m_section st 0 k v = (3, 0, st) := (chk_p (tk_0 h)).trans ((chk_p hk).trans ((chk_p hv).trans (chk_n (show ¬ usS st 0 = 0 from by rw [hu]; decide))))
theorem q_widest {bo : Nat → Int32} {st : St} (h : pq bo st) : m_widest st 0 = (0, wid bo 20, st) := by
  refine (chk_p (tk_0 h.1)).trans ?_
  show (0, wid (boS st 0) 20, st) = _
  rw [h.2.2.2]
theorem q_widest1 {st : St} (h : nT st = 1) : m_widest st 1 = (1, 0, st) := chk_n (tk_1 h)
theorem q_volume {bo : Nat → Int32} {st : St} (h : pq bo st) {k : Nat} (hk : k ≤ 200) : m_volume st 0 (nI k) = (0, msum bo k, st) := by
  refine (chk_p (tk_0 h.1)).trans ((chk_p (rg_n (lo := 0) (hi := 200) (by omega) hk (by omega))).trans ?_)
  show (0, vsum (boS st 0) (nI k) 20, st) = _
  rw [h.2.2.2, vs_ms bo k hk]
theorem q_volume2 {st : St} (h : nT st = 1) : m_volume st 0 201 = (2, 0, st) := (chk_p (tk_0 h)).trans (chk_n (by decide))
theorem q_thread {bo : Nat → Int32} {st : St} (h : pq bo st) (hV : Inv st) {p : Nat} (hp : p ≤ 200) {n : Nat} (h1 : 1 ≤ n) (h2 : n ≤ 99999) {z : Int32} (hz : TE bo (msum bo p + nI n) p z) : wan (m_thread st 0 (nI p) (nI n)) = z ∧ pq bo (m_thread st 0 (nI p) (nI n)).2.2 := by
  have hb := pq_b h hV
  have e0 : m_thread st 0 (nI p) (nI n) = chk (¬ thr st 0 (nI p) (nI n) = -1) 3 st (0, thr st 0 (nI p) (nI n), st) := (chk_p (tk_0 h.1)).trans ((chk_p (rg_n (lo := 0) (hi := 200) (by omega) hp (by omega))).trans (chk_p (rg_n (lo := 1) (hi := 99999) h1 h2 (by omega))))
  have en : (nI n).toInt = n := nI_toInt (by omega)
  rcases TE_f hb hp (by omega) (by omega) hz with ⟨j, hj, e1, e2⟩ | ⟨e1, e2⟩
  · have et : thr st 0 (nI p) (nI n) = nI j := thr_eq (by rw [h.2.2.2]; exact e2)
    rw [e0, et, chk_p (show ¬ nI j = -1 from fun q => by
      have := congrArg Int32.toInt q
      rw [nI_toInt (by omega)] at this
      have z1 : (-1 : Int32).toInt = -1 := rfl
      omega), e1]
    exact ⟨rfl, h⟩
  · have et : thr st 0 (nI p) (nI n) = -1 := thr_eq (by rw [h.2.2.2]; exact e2)
    rw [e0, et, chk_n (fun q => q rfl), e1]
    exact ⟨wan_3, h⟩
theorem q_thread2 {st : St} (h : nT st = 1) {p v : Int32} (hp : rng p 0 200) (hv : ¬ rng v 1 99999) : m_thread st 0 p v = (2, 0, st) := (chk_p (tk_0 h)).trans ((chk_p hp).trans (chk_n hv))
theorem q_deliver {bo : Nat → Int32} {st : St} (h : pq bo st) (hV : Inv st) {f t n : Nat} (hf : f ≤ 200) (hft : t < f) (hn : n < 90) : m_deliver st 0 (nI f) (nI t) (nI (1 + n)) = (0, dsum bo (cts (nI (1 + n))) t (f - t), st) := by
  refine (chk_p (tk_0 h.1)).trans ((chk_p (rg_n (lo := 0) (hi := 200) (by omega) hf (by omega))).trans ((chk_p (rg_n (lo := 0) (hi := 200) (by omega) (by omega) (by omega))).trans ((chk_p (rg_n (lo := 1) (hi := 999) (by omega) (by omega) (by omega))).trans ((chk_p (nI_lt hft (by omega))).trans ?_))))
  show (0, vsum (boS st 0) (nI f) 20 - vsum (boS st 0) (nI t) 20 - csum (boS st 0) (nI t) (nI f) (cts (nI (1 + n))) 20, st) = _
  rw [h.2.2.2, dl_eq (pq_b h hV) (cts_b hn).1 (cts_b hn).2 (Nat.le_of_lt hft) hf]
theorem q_deliver2 {st : St} (h : nT st = 1) {f t n : Nat} (hf : f ≤ 200) (ht : t ≤ 200) (hft : ¬ t < f) (hn : n < 90) : m_deliver st 0 (nI f) (nI t) (nI (1 + n)) = (2, 0, st) :=
  (chk_p (tk_0 h)).trans ((chk_p (rg_n (lo := 0) (hi := 200) (by omega) hf (by omega))).trans ((chk_p (rg_n (lo := 0) (hi := 200) (by omega) ht (by omega))).trans ((chk_p (rg_n (lo := 1) (hi := 999) (by omega) (by omega) (by omega))).trans (chk_n (nI_nlt (by omega) (by omega))))))
theorem q_deliver3 {st : St} (h : nT st = 1) {f t v : Int32} (hf : rng f 0 200) (ht : rng t 0 200) (hv : ¬ rng v 1 999) : m_deliver st 0 f t v = (2, 0, st) := (chk_p (tk_0 h)).trans ((chk_p hf).trans ((chk_p ht).trans (chk_n hv)))
theorem q_barometer {st : St} {p0 p1 p2 p3 : Int32} (h0 : rng p0 6000 8000) (h1 : rng p1 (-20) 40) (h2 : rng p2 9780 9832) (h3 : rng p3 1 60) : m_barometer st p0 p1 p2 p3 = (0, (p0 - p0 * 18 * p1 / 100000) * p2 / 9807 + 60 / p3, st) := (chk_p h0).trans ((chk_p h1).trans ((chk_p h2).trans (chk_p h3)))
theorem q_barometer1 {st : St} {p0 p1 p2 p3 : Int32} (h0 : ¬ rng p0 6000 8000) : m_barometer st p0 p1 p2 p3 = (1, 0, st) := chk_n h0
theorem q_boiling1 {st : St} {p0 : Int32} (h0 : ¬ rng p0 700 800) : m_boiling st p0 = (1, 0, st) := chk_n h0
theorem q_boiling {st : St} {p0 : Int32} (h0 : rng p0 700 800) : m_boiling st p0 = (0, 1000 + 37 * (p0 - 760) / 100, st) := chk_p h0
theorem q_make {bo : Nat → Int32} {st : St} (h : pq bo st) : m_make st 0 1000 104 = (0, 0, addI st 0 1000 104) := by
  refine (chk_p (tk_0 h.1)).trans ((chk_p (by decide)).trans ((chk_p (Or.inl rfl)).trans ((chk_p h.2.2.1).trans ((chk_p (by rw [h.2.1]; omega)).trans ?_))))
  rw [h.2.1]
  rfl
theorem pr_make {bo : Nat → Int32} {st : St} (h : pq bo st) : pr (addI st 0 1000 104) := ⟨h.1, congrArg (· + 1) h.2.1, (show fu (usS st) 0 1 0 = 1 from fu_s)⟩
theorem q_make3 {st : St} (h : pr st) : m_make st 0 1000 104 = (3, 0, st) := (chk_p (tk_0 h.1)).trans ((chk_p (by decide)).trans ((chk_p (Or.inl rfl)).trans (chk_n (show ¬ usS st 0 = 0 from by rw [h.2.2]; decide))))
theorem q_make2 {st : St} (h : pr st) : m_make st 0 999 104 = (2, 0, st) := (chk_p (tk_0 h.1)).trans (chk_n (by decide))
theorem q_make1 {st : St} (h : pr st) : m_make st 1 1000 104 = (1, 0, st) := chk_n (tk_1 h.1)

