/-! ===== plain facts and the pure pictures of the leaves ===== -/
theorem i_nlt {x y : Int32} (h : x ≤ y) : ¬ y < x := fun q => by
  have h1 := Int32.le_iff_toInt_le.mp h
  have h2 := Int32.lt_iff_toInt_lt.mp q
  omega
theorem i_le {x y : Int32} (h : ¬ y < x) : x ≤ y := by
  rw [Int32.le_iff_toInt_le]
  rw [Int32.lt_iff_toInt_lt] at h
  omega
theorem i_lt {x y : Int32} (h : ¬ y ≤ x) : x < y := by
  rw [Int32.lt_iff_toInt_lt]
  rw [Int32.le_iff_toInt_le] at h
  omega
theorem i_nle {x y : Int32} (h : x < y) : ¬ y ≤ x := fun q => by
  have h1 := Int32.le_iff_toInt_le.mp q
  have h2 := Int32.lt_iff_toInt_lt.mp h
  omega
theorem vin_of {x : Int32} {n : Nat} (h0 : ¬ x < 0) (hn : n < 2 ^ 31) (h1 : ¬ nI n ≤ x) : vp_in x n := by
  obtain ⟨j, hj, rfl⟩ := nI_of h0
  exact vp_in_nI (Nat.lt_of_not_le (fun q => h1 (nI_le q hj))) hn
/-- steps of a section that lie below a place -/
def stp (p s : Int32) : Int32 := m_max 0 (m_min 10 (p - s * 10))
def vsum (bf : Nat → Int32) (p : Int32) : Nat → Int32
  | 0 => 0
  | k + 1 => vsum bf p k + bf k * stp p (nI k)
def brO (bf : Nat → Int32) (p : Int32) : Int32 := if p < 0 then 0 else if 20 ≤ p then 0 else bf p.toNatClampNeg
def wid (bf : Nat → Int32) : Nat → Int32
  | 0 => 0
  | k + 1 => if brO bf (wid bf k) < bf k then nI k else wid bf k
theorem wid_1 (bf : Nat → Int32) : (0 : Int32) = wid bf 1 := by
  show (0 : Int32) = if brO bf 0 < bf 0 then nI 0 else 0
  split
  · exact nI_0.symm
  · rfl
def csum (bf : Nat → Int32) (lo up ps : Int32) : Nat → Int32
  | 0 => 0
  | k + 1 => csum bf lo up ps k + (stp up (nI k) - stp lo (nI k)) * m_min ps (bf k)
/-- the first place that holds a volume, or -1 -/
def fphR (bf : Nat → Int32) (v r : Int32) : Prop := (∃ k : Nat, k ≤ 200 ∧ r = nI k ∧ ¬ vsum bf (nI k) 20 < v ∧ ∀ j, j < k → vsum bf (nI j) 20 < v) ∨ (r = -1 ∧ ∀ j, j < 201 → vsum bf (nI j) 20 < v)
/-- the last place within a rest, or -1 -/
def lpwR (bf : Nat → Int32) (rest : Int64) (r : Int32) : Prop := (r = -1 ∧ (rest < 0 ∨ (vsum bf 200 20).toInt64 < rest)) ∨ (¬ rest < 0 ∧ ¬ (vsum bf 200 20).toInt64 < rest ∧ ∃ k : Nat, k ≤ 200 ∧ r = nI k ∧ (∀ j, 1 ≤ j → j ≤ k → ¬ rest < (vsum bf (nI j) 20).toInt64) ∧ (k < 200 → rest < (vsum bf (nI (k + 1)) 20).toInt64))
/-- the bores as they are drawn -/
def dbo (bore taper : Int32) (k : Nat) : Int32 := m_max 1 (m_min 60 (bore + nI k * taper))
def dboU (bore taper : Int32) (n : Nat) : Nat → Int32 := fun j => if j < n then dbo bore taper j else 0
theorem dboU_0 (bore taper : Int32) : (fun _ => 0 : Nat → Int32) = dboU bore taper 0 := by
  funext j
  simp [dboU]
theorem dboU_s (bore taper : Int32) (k : Nat) : upd (dboU bore taper k) k (dbo bore taper k) = dboU bore taper (k + 1) := by
  funext j
  by_cases h : j = k
  · subst h; simp [upd, dboU]
  · by_cases h2 : j < k
    · have : j < k + 1 := by omega
      simp [upd, dboU, h, h2, this]
    · have : ¬ j < k + 1 := by omega
      simp [upd, dboU, h, h2, this]
/-- a world out of what is known of it -/
theorem mw_ext1 {M M1 : mw} {a : Nat} {x : va_E} (h1 : M1 a = some x) (hf : ∀ z, z ≠ a → M1 z = M z) : M1 = mu M a x := by
  funext z
  by_cases q : z = a
  · subst q; rw [mu_s, h1]
  · rw [mu_n q]; exact hf z q
theorem mw_ext2 {M M1 : mw} {a b : Nat} {x y : va_E} (h1 : M1 a = some x) (h2 : M1 b = some y) (hf : ∀ z, z ≠ a → z ≠ b → M1 z = M z) : M1 = mu (mu M a x) b y := by
  funext z
  by_cases q : z = b
  · subst q; rw [mu_s, h2]
  · rw [mu_n q]
    by_cases q2 : z = a
    · subst q2; rw [mu_s, h1]
    · rw [mu_n q2]; exact hf z q2 q
/-- the readings when the oldest is lost: k places moved -/
def losU (f : Nat → Int32) (n : Nat) : Nat → Int32 := fun j => if j + 1 < n then f (j + 1) else f j
theorem losU_1 (f : Nat → Int32) : f = losU f 1 := by
  funext j
  simp [losU]
theorem losU_s (f : Nat → Int32) (k : Nat) (hk : 1 ≤ k) : upd (losU f k) (k - 1) (losU f k k) = losU f (k + 1) := by
  funext j
  have e : losU f k k = f k := by
    have : ¬ k + 1 < k := by omega
    simp [losU, this]
  rw [e]
  by_cases h : j = k - 1
  · subst h
    have h2 : k - 1 + 1 = k := by omega
    simp [upd, losU, h2]
  · by_cases h2 : j + 1 < k
    · have : j + 1 < k + 1 := by omega
      simp [upd, losU, h, h2, this]
    · have : ¬ j + 1 < k + 1 := by omega
      simp [upd, losU, h, h2, this]
def gmax (f : Nat → Int32) : Nat → Int32
  | 0 => 0
  | k + 1 => m_max (gmax f k) (m_abs (f k))
def isum (f : Nat → Int32) : Nat → Int32
  | 0 => 0
  | k + 1 => isum f k + f k
def lsum (f : Nat → Int32) (z : Int64) : Nat → Int64
  | 0 => z
  | k + 1 => 31 * lsum f z k + (f k).toInt64
theorem mw_ext3 {M M1 : mw} {a b c : Nat} {x y z : va_E} (h1 : M1 a = some x) (h2 : M1 b = some y) (h3 : M1 c = some z) (hf : ∀ w, w ≠ a → w ≠ b → w ≠ c → M1 w = M w) : M1 = mu (mu (mu M a x) b y) c z := by
  funext w
  by_cases q : w = c
  · subst q; rw [mu_s, h3]
  · rw [mu_n q]
    by_cases q2 : w = b
    · subst q2; rw [mu_s, h2]
    · rw [mu_n q2]
      by_cases q3 : w = a
      · subst q3; rw [mu_s, h1]
      · rw [mu_n q3]; exact hf w q3 q2 q
theorem mw_ext4 {M M1 : mw} {a b c d : Nat} {x y z u : va_E} (h1 : M1 a = some x) (h2 : M1 b = some y) (h3 : M1 c = some z) (h4 : M1 d = some u) (hf : ∀ w, w ≠ a → w ≠ b → w ≠ c → w ≠ d → M1 w = M w) : M1 = mu (mu (mu (mu M a x) b y) c z) d u := by
  funext w
  by_cases q : w = d
  · subst q; rw [mu_s, h4]
  · rw [mu_n q]
    by_cases q1 : w = c
    · subst q1; rw [mu_s, h3]
    · rw [mu_n q1]
      by_cases q2 : w = b
      · subst q2; rw [mu_s, h2]
      · rw [mu_n q2]
        by_cases q3 : w = a
        · subst q3; rw [mu_s, h1]
        · rw [mu_n q3]; exact hf w q3 q2 q1 q
theorem mw_ext5 {M M1 : mw} {a b c d e : Nat} {x y z u v : va_E} (h1 : M1 a = some x) (h2 : M1 b = some y) (h3 : M1 c = some z) (h4 : M1 d = some u) (h5 : M1 e = some v) (hf : ∀ w, w ≠ a → w ≠ b → w ≠ c → w ≠ d → w ≠ e → M1 w = M w) : M1 = mu (mu (mu (mu (mu M a x) b y) c z) d u) e v := by
  funext w
  by_cases q : w = e
  · subst q; rw [mu_s, h5]
  · rw [mu_n q]
    by_cases q0 : w = d
    · subst q0; rw [mu_s, h4]
    · rw [mu_n q0]
      by_cases q1 : w = c
      · subst q1; rw [mu_s, h3]
      · rw [mu_n q1]
        by_cases q2 : w = b
        · subst q2; rw [mu_s, h2]
        · rw [mu_n q2]
          by_cases q3 : w = a
          · subst q3; rw [mu_s, h1]
          · rw [mu_n q3]; exact hf w q3 q2 q1 q0 q
def far (kin : Int32) (bf : Nat → Int32) (ice p : Int32) : Int32 := if kin = 118 then vsum bf p 20 - vsum bf ice 20 else p - ice
def rdg (kin : Int32) (bf : Nat → Int32) (ice stm stt p : Int32) : Int32 := if far kin bf ice stm = 0 then 0 else stt * far kin bf ice p / far kin bf ice stm
def unl (ice stm : Int32) : Int32 := if ice = -1 then 0 else if stm = -1 then 0 else if ice = stm then 0 else 1
def apV (f : Nat → Int32) (n : Nat) (x : Int32) : Nat → Int32 := if n < 8 then upd f n x else upd (losU f 8) 7 x
def apN (n : Nat) : Nat := if n < 8 then n + 1 else 8
def cia (bu gl : Int32) : Int32 := bu * (if gl = 104 then 2 else 6) / 1000
def crp (bu gl cr : Int32) : Nat → Int32
  | 0 => cr
  | k + 1 => crp bu gl cr k + (cia bu gl - crp bu gl cr k + 19) / 20
def lgr (li : Int32) : Int32 := if li = 109 then 18 else 110
def ggr (gl : Int32) : Int32 := if gl = 104 then 1 else 3
def grw (x : Int64) (g d : Int32) : Int64 := x * g.toInt64 * d.toInt64 / 1000000
def rst (ins bu cr li gl T : Int32) : Int64 := ins.toInt64 + grw ins.toInt64 (lgr li) T - (bu.toInt64 + grw bu.toInt64 (ggr gl) T) + cr.toInt64
def lvlR (bf : Nat → Int32) (ins bu cr li gl T dip air r : Int32) : Prop := ∃ l1 : Int32, lpwR bf (rst ins bu cr li gl T) l1 ∧ ((l1 ≤ dip ∧ r = l1) ∨ (¬ l1 ≤ dip ∧ lpwR bf (rst ins bu cr li gl T - grw (vsum bf l1 20 - vsum bf dip 20).toInt64 (lgr li) (T - air)) r))
def crtO (sm ce day : Int32) : Int32 := if sm = 0 then (if day ≤ ce then 1 else 0) else 0
theorem mu_none {M : mw} {a b : Nat} {e : va_E} (h : mu M a e b = none) : M b = none ∧ b ≠ a := by
  by_cases q : b = a
  · subst q; rw [mu_s] at h; cases h
  · rw [mu_n q] at h; exact ⟨h, q⟩
theorem ne_none {M : mw} {a b : Nat} {e : va_E} (h : M b = some e) (hn : M a = none) : b ≠ a := fun q => by rw [q, hn] at h; cases h
def inb (cr bu gl cnt : Int32) : Int32 := if cr < 0 then 0 else if cia bu gl < cr then 0 else if 8 < cnt then 0 else 1
