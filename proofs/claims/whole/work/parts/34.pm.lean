/-! ===== the class's numbers are the reference's ===== -/
theorem i_0ix {x : Int32} {N : Int} (h0 : 0 ≤ x.toInt) : x = nI x.toNatClampNeg := nI_cl (fun q => by
  have := Int32.lt_iff_toInt_lt.mp q
  have e : (0 : Int32).toInt = 0 := rfl
  omega)
theorem ix_t {x : Int32} (h0 : 0 ≤ x.toInt) : (x.toNatClampNeg : Int) = x.toInt := by
  have e := i_0ix (N := 0) h0
  have l := Int32.toNatClampNeg_lt x
  have e2 := congrArg Int32.toInt e
  rw [nI_toInt l] at e2
  omega
/-- points of a scale -/
theorem pt_of {x : Int32} (h1 : -1 ≤ x.toInt) (h2 : x.toInt ≤ 200) (hn : x ≠ -1) : ix x ≤ 200 ∧ x = nI (ix x) := by
  have h0 : 0 ≤ x.toInt := by
    rcases Int.lt_or_le x.toInt 0 with q | q
    · exfalso
      refine hn (Int32.toInt_inj.mp ?_)
      have e : (-1 : Int32).toInt = -1 := rfl
      omega
    · exact q
  have e := ix_t h0
  refine ⟨?_, i_0ix (N := 0) h0⟩
  show x.toNatClampNeg ≤ 200
  omega
theorem ms_s {bf : Nat → Int32} (hb : ∀ k, k < 20 → 1 ≤ (bf k).toInt ∧ (bf k).toInt ≤ 60) {j k : Nat} (h : j < k) (hk : k ≤ 200) : (msum bf j).toInt < (msum bf k).toInt := by
  have h1 := ms_m hb k (j := j + 1) h hk
  have h2 := hb (j / 10) (by omega)
  have h3 := ms_b hb j (by omega)
  have e : (msum bf (j + 1)).toInt = (msum bf j).toInt + (bf (j / 10)).toInt := t_add (a := msum bf j) (b := bf (j / 10)) (by omega) (by omega)
  omega
theorem ms_sub {bf : Nat → Int32} (hb : ∀ k, k < 20 → 1 ≤ (bf k).toInt ∧ (bf k).toInt ≤ 60) {a b : Nat} (ha : a ≤ 200) (hb2 : b ≤ 200) : (msum bf a - msum bf b).toInt = (msum bf a).toInt - (msum bf b).toInt := by
  have h1 := ms_b hb a ha
  have h2 := ms_b hb b hb2
  exact t_sub (by omega) (by omega)
theorem nI_sub {a b : Nat} (ha : a ≤ 200) (hb2 : b ≤ 200) : (nI a - nI b).toInt = (a : Int) - (b : Int) := by
  have e := t_sub (a := nI a) (b := nI b) (by rw [nI_toInt (by omega), nI_toInt (by omega)]; omega) (by rw [nI_toInt (by omega), nI_toInt (by omega)]; omega)
  rw [e, nI_toInt (by omega), nI_toInt (by omega)]
theorem far_m {kin : Int32} (hk : kin = 108 ∨ kin = 118) (bf : Nat → Int32) {e p : Nat} (he : e ≤ 200) (hp : p ≤ 200) : mfar kin bf e p = (far kin bf (nI e) (nI p)).toInt64 := by
  unfold mfar far
  rcases hk with rfl | rfl
  · rw [if_pos rfl, if_neg (by decide)]
  · rw [if_neg (by decide), if_pos rfl, vs_ms bf p hp, vs_ms bf e he]
theorem far_b {kin : Int32} (hk : kin = 108 ∨ kin = 118) {bf : Nat → Int32} (hb : ∀ k, k < 20 → 1 ≤ (bf k).toInt ∧ (bf k).toInt ≤ 60) {e p : Nat} (he : e ≤ 200) (hp : p ≤ 200) : -12000 ≤ (far kin bf (nI e) (nI p)).toInt ∧ (far kin bf (nI e) (nI p)).toInt ≤ 12000 ∧ (e ≠ p → (far kin bf (nI e) (nI p)).toInt ≠ 0) := by
  unfold far
  rcases hk with rfl | rfl
  · rw [if_neg (by decide), nI_sub hp he]
    omega
  · rw [if_pos rfl, vs_ms bf p hp, vs_ms bf e he, ms_sub hb hp he]
    have h1 := ms_b hb p hp
    have h2 := ms_b hb e he
    refine ⟨by omega, by omega, fun hn => ?_⟩
    rcases Nat.lt_or_ge e p with q | q
    · have := ms_s hb q hp
      omega
    · have := ms_s hb (show p < e by omega) he
      omega
theorem l_mulI {a b : Int32} (h1 : -2147483648 ≤ a.toInt * b.toInt) (h2 : a.toInt * b.toInt < 2147483648) : (a * b).toInt64 = a.toInt64 * b.toInt64 := Int64.toInt_inj.mp (by
  rw [Int32.toInt_toInt64, Int64.toInt_mul, Int32.toInt_toInt64, Int32.toInt_toInt64, t_mul h1 h2]
  exact (Int.bmod_eq_of_le (by omega) (by omega)).symm)
theorem l_divI {a b : Int32} (hb : b ≠ 0) (ha : a.toInt ≠ -2147483648) : (a.toInt64 / b.toInt64).toInt32 = a / b := by
  have hb0 : b.toInt ≠ 0 := fun q => hb (Int32.toInt_inj.mp q)
  have r1 := Int32.le_toInt a
  have r2 := Int32.toInt_lt a
  have hq : (a.toInt.tdiv b.toInt).natAbs ≤ a.toInt.natAbs := Int.natAbs_tdiv_le_natAbs _ _
  refine Int32.toInt_inj.mp ?_
  rw [Int64.toInt_toInt32, Int64.toInt_div, Int32.toInt_toInt64, Int32.toInt_toInt64, Int32.toInt_div]
  have e64 : (a.toInt.tdiv b.toInt).bmod (2 ^ 64) = a.toInt.tdiv b.toInt := Int.bmod_eq_of_le (by omega) (by omega)
  rw [e64]
/-- a reading -/
theorem rd_m {kin : Int32} (hk : kin = 108 ∨ kin = 118) {bf : Nat → Int32} (hb : ∀ k, k < 20 → 1 ≤ (bf k).toInt ∧ (bf k).toInt ≤ 60) {e s p : Nat} (he : e ≤ 200) (hs : s ≤ 200) (hp : p ≤ 200) (hes : e ≠ s) {stt : Int32} (h1 : 0 ≤ stt.toInt) (h2 : stt.toInt ≤ 2000) :
    mfar kin bf e s ≠ 0 ∧ (stt.toInt64 * mfar kin bf e p / mfar kin bf e s).toInt32 = rdg kin bf (nI e) (nI s) stt (nI p) := by
  obtain ⟨b1, b2, b3⟩ := far_b hk hb he hs
  obtain ⟨c1, c2, -⟩ := far_b hk hb he hp
  have hne : far kin bf (nI e) (nI s) ≠ 0 := fun q => b3 hes (by rw [q]; rfl)
  have m1 : stt.toInt * (far kin bf (nI e) (nI p)).toInt ≤ 2000 * 12000 := by
    refine Int.le_trans (Int.mul_le_mul_of_nonneg_left c2 h1) (Int.mul_le_mul_of_nonneg_right h2 (by omega))
  have m2 : -(2000 * 12000) ≤ stt.toInt * (far kin bf (nI e) (nI p)).toInt := by
    have q1 : stt.toInt * (-12000) ≤ stt.toInt * (far kin bf (nI e) (nI p)).toInt := Int.mul_le_mul_of_nonneg_left c1 h1
    omega
  constructor
  · rw [far_m hk bf he hs]
    intro q
    refine b3 hes ?_
    have q2 := congrArg Int64.toInt q
    rw [Int32.toInt_toInt64] at q2
    exact q2
  · rw [far_m hk bf he hs, far_m hk bf he hp, ← l_mulI (by omega) (by omega)]
    unfold rdg
    rw [if_neg hne, l_divI hne]
    rw [t_mul (by omega) (by omega)]
    omega
/-- the places of a thread -/
theorem thr_m {bf : Nat → Int32} (hb : ∀ k, k < 20 → 1 ≤ (bf k).toInt ∧ (bf k).toInt ≤ 60) {p e : Nat} {v : Int32} (hp : p ≤ e) (he : e ≤ 200) (h1 : 1 ≤ v.toInt) (h2 : v.toInt ≤ 99999) (hlow : ∀ j, p ≤ j → j < e → msum bf j < msum bf p + v) :
    (¬ msum bf e < msum bf p + v → fphR bf (vsum bf (nI p) 20 + v) (nI e)) ∧ (e = 200 → msum bf e < msum bf p + v → fphR bf (vsum bf (nI p) 20 + v) (-1)) := by
  have hbp := ms_b hb p (by omega)
  have eg : (msum bf p + v).toInt = (msum bf p).toInt + v.toInt := t_add (by omega) (by omega)
  have low : ∀ j, j < e → vsum bf (nI j) 20 < msum bf p + v := fun j hj => by
    rw [vs_ms bf j (by omega)]
    rcases Nat.lt_or_ge j p with q | q
    · rw [Int32.lt_iff_toInt_lt, eg]
      have := ms_m hb p (j := j) (by omega) (by omega)
      omega
    · exact hlow j q hj
  unfold fphR
  rw [vs_ms bf p (by omega)]
  refine ⟨fun h => Or.inl ⟨e, he, rfl, by rw [vs_ms bf e he]; exact h, low⟩, fun e2 h => Or.inr ⟨rfl, fun j hj => ?_⟩⟩
  rcases Nat.lt_or_ge j e with q | q
  · exact low j q
  · rw [show j = e by omega, vs_ms bf e he]
    exact h
/-- what is delivered -/
def dsum (bf : Nat → Int32) (c : Int32) (a : Nat) : Nat → Int32
  | 0 => 0
  | k + 1 => dsum bf c a k + m_max 0 (bf ((a + k) / 10) - c)
theorem msum_f (bf : Nat → Int32) (c : Int32) : ∀ n, n ≤ 200 → msum (fun k => m_min c (bf k)) n = msum (fun k => m_min c (bf k)) n := fun _ _ => rfl
theorem cs_vs (bf : Nat → Int32) (lo up c : Int32) : ∀ m, csum bf lo up c m = vsum (fun k => m_min c (bf k)) up m - vsum (fun k => m_min c (bf k)) lo m := by
  intro m
  induction m with
  | zero => exact (Int32.sub_self 0).symm
  | succ m ih =>
    show csum bf lo up c m + (stp up (nI m) - stp lo (nI m)) * m_min c (bf m) = (vsum (fun k => m_min c (bf k)) up m + m_min c (bf m) * stp up (nI m)) - (vsum (fun k => m_min c (bf k)) lo m + m_min c (bf m) * stp lo (nI m))
    rw [ih, Int32.sub_mul, Int32.mul_comm (stp up (nI m)), Int32.mul_comm (stp lo (nI m))]
    generalize vsum (fun k => m_min c (bf k)) up m = a
    generalize vsum (fun k => m_min c (bf k)) lo m = b
    generalize m_min c (bf m) * stp up (nI m) = x
    generalize m_min c (bf m) * stp lo (nI m) = y
    simp only [Int32.sub_eq_add_neg, Int32.neg_add]
    ac_rfl
theorem mm_c {b c : Int32} (hb1 : 1 ≤ b.toInt) (hb2 : b.toInt ≤ 60) (hc1 : 0 ≤ c.toInt) (hc2 : c.toInt ≤ 100) : m_max 0 (b - c) = b - m_min c b := by
  have e : (b - c).toInt = b.toInt - c.toInt := t_sub (by omega) (by omega)
  show (if (0 : Int32) < b - c then b - c else 0) = b - (if b < c then b else c)
  by_cases h : b < c
  · have h' := Int32.lt_iff_toInt_lt.mp h
    rw [if_pos h, Int32.sub_self, if_neg (fun q => by have := Int32.lt_iff_toInt_lt.mp q; have z : (0 : Int32).toInt = 0 := rfl; omega)]
  · rw [if_neg h]
    have h' : ¬ b.toInt < c.toInt := fun q => h (Int32.lt_iff_toInt_lt.mpr q)
    by_cases h2 : (0 : Int32) < b - c
    · rw [if_pos h2]
    · rw [if_neg h2]
      have h3 : ¬ (0 : Int32).toInt < (b - c).toInt := fun q => h2 (Int32.lt_iff_toInt_lt.mpr q)
      refine Int32.toInt_inj.mp ?_
      have z : (0 : Int32).toInt = 0 := rfl
      omega
theorem ds_m {bf : Nat → Int32} (hb : ∀ k, k < 20 → 1 ≤ (bf k).toInt ∧ (bf k).toInt ≤ 60) {c : Int32} (hc1 : 0 ≤ c.toInt) (hc2 : c.toInt ≤ 100) {a : Nat} : ∀ n, a + n ≤ 200 → dsum bf c a n = (msum bf (a + n) - msum bf a) - (msum (fun k => m_min c (bf k)) (a + n) - msum (fun k => m_min c (bf k)) a) := by
  intro n
  induction n with
  | zero =>
    intro _
    show (0 : Int32) = msum bf a - msum bf a - (msum (fun k => m_min c (bf k)) a - msum (fun k => m_min c (bf k)) a)
    rw [Int32.sub_self, Int32.sub_self, Int32.sub_self]
  | succ n ih =>
    intro hn
    have h := hb ((a + n) / 10) (by omega)
    show dsum bf c a n + m_max 0 (bf ((a + n) / 10) - c) = (msum bf (a + n) + bf ((a + n) / 10) - msum bf a) - (msum (fun k => m_min c (bf k)) (a + n) + m_min c (bf ((a + n) / 10)) - msum (fun k => m_min c (bf k)) a)
    rw [ih (by omega), mm_c h.1 h.2 hc1 hc2]
    generalize msum bf (a + n) = x1
    generalize msum bf a = x2
    generalize msum (fun k => m_min c (bf k)) (a + n) = x3
    generalize msum (fun k => m_min c (bf k)) a = x4
    generalize m_min c (bf ((a + n) / 10)) = x5
    generalize bf ((a + n) / 10) = x6
    simp only [Int32.sub_eq_add_neg, Int32.neg_add, Int32.neg_neg]
    ac_rfl
theorem cts_m {s : Int32} (h1 : 1 ≤ s.toInt) (h2 : s.toInt ≤ 999) : m_max 0 ((60 - s + 9) / 10) = cts s ∧ 0 ≤ (cts s).toInt ∧ (cts s).toInt ≤ 100 := by
  have key : ∀ n : Nat, n < 1000 → 1 ≤ n → m_max 0 ((60 - nI n + 9) / 10) = cts (nI n) ∧ 0 ≤ (cts (nI n)).toInt ∧ (cts (nI n)).toInt ≤ 100 := by decide +kernel
  have e := i_0ix (N := 0) (x := s) (by omega)
  have e2 := ix_t (x := s) (by omega)
  rw [e]
  exact key _ (by omega) (by omega)
/-- the widest section -/
theorem wid_r (bf : Nat → Int32) : ∀ k, k ≤ 20 → ∃ j : Nat, j < 20 ∧ wid bf k = nI j := by
  intro k
  induction k with
  | zero => intro _; exact ⟨0, by omega, rfl⟩
  | succ k ih =>
    intro hk
    show ∃ j : Nat, j < 20 ∧ (if brO bf (wid bf k) < bf k then nI k else wid bf k) = nI j
    split
    · exact ⟨k, by omega, rfl⟩
    · exact ih (by omega)
theorem brO_i (bf : Nat → Int32) {j : Nat} (hj : j < 20) : brO bf (nI j) = bf j := by
  unfold brO
  rw [if_neg (nI_pos (by omega)), if_neg (fun q => by have := (nI_leI (a := 20) (b := j) (by omega) (by omega)).mp q; omega), nI_clamp (by omega)]
theorem unl_1 {a b : Int32} (h : a = -1) : unl a b = 0 := if_pos h
theorem unl_2 {a b : Int32} (h : b = -1) : unl a b = 0 := by
  unfold unl
  by_cases z : a = -1
  · rw [if_pos z]
  · rw [if_neg z, if_pos h]
theorem unl_3 {a b : Int32} (h : a = b) : unl a b = 0 := by
  unfold unl
  by_cases z : a = -1
  · rw [if_pos z]
  · rw [if_neg z]
    by_cases y : b = -1
    · rw [if_pos y]
    · rw [if_neg y, if_pos h]
theorem unl_p {a b : Int32} (h1 : ¬ a = -1) (h2 : ¬ b = -1) (h3 : ¬ a = b) : ¬ unl a b = 0 := by
  unfold unl
  rw [if_neg h1, if_neg h2, if_neg h3]
  decide
/-- a scale's points, by what every state keeps -/
theorem Inv.sc {s : St} (h : Inv s) {i : Nat} (hi : i < nN s) (hk : ¬ itS s i 15 = 32) : (itS s i 15 = 108 ∨ itS s i 15 = 118) ∧ ix (itS s i 12) ≤ 200 ∧ ix (itS s i 13) ≤ 200 ∧ itS s i 12 = nI (ix (itS s i 12)) ∧ itS s i 13 = nI (ix (itS s i 13)) ∧ ix (itS s i 12) ≠ ix (itS s i 13) ∧ 0 ≤ (itS s i 14).toInt ∧ (itS s i 14).toInt ≤ 2000 := by
  have v := ivG_of (h.2.2.1 i hi)
  unfold ivG at v
  obtain ⟨-, -, -, -, -, -, -, -, -, -, -, -, v12, v13, v14, v15, vk, -⟩ := v
  obtain ⟨k1, k2, k3⟩ := vk hk
  obtain ⟨p1, p2⟩ := pt_of v12.1 v12.2 k1
  obtain ⟨q1, q2⟩ := pt_of v13.1 v13.2 k2
  refine ⟨v15.resolve_left hk, p1, q1, p2, q2, fun z => k3 ?_, v14.1, v14.2⟩
  rw [p2, q2, z]
theorem fill_n {s : St} (h : Inv s) {i : Nat} (hi : i < nN s) (hx : ¬ itS s i 6 = 32 ∨ ¬ itS s i 5 = 0) {r : Nat × Int32 × St} : chk (itS s i 4 = 0) 3 s (chk (itS s i 5 = 0) 3 s r) = (3, 0, s) := by
  by_cases a : itS s i 4 = 0
  · rw [chk_p a]
    by_cases b : itS s i 5 = 0
    · exfalso
      have v := (h.fil hi).mpr a
      unfold mfi at v
      rw [if_neg (hx.resolve_right (fun q => q b)), if_pos b] at v
      exact absurd v (by decide)
    · rw [chk_n b]
  · rw [chk_n a]
theorem fill_p {s : St} (h : Inv s) {i : Nat} (hi : i < nN s) (hx : itS s i 6 = 32) : itS s i 4 = 0 := (h.fil hi).mp (by unfold mfi; rw [if_pos hx])
