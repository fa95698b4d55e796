theorem thr_m2 {bf : Nat → Int32} (hb : ∀ k, k < 20 → 1 ≤ (bf k).toInt ∧ (bf k).toInt ≤ 60) {p v : Int32} (hp : rng p 0 200) (hv : rng v 1 99999) {e : Nat} (hpe : ix p ≤ e) (he : e ≤ 200) (hlow : ∀ j, ix p ≤ j → j < e → msum bf j < vsum bf p 20 + v) :
    (¬ msum bf e < vsum bf p 20 + v → fphR bf (vsum bf p 20 + v) (nI e)) ∧ (e = 200 → msum bf e < vsum bf p 20 + v → fphR bf (vsum bf p 20 + v) (-1)) := by
  have h1 : 1 ≤ v.toInt := by
    rcases Int.lt_or_le v.toInt 1 with q | q
    · exact absurd (Int32.lt_iff_toInt_lt.mpr (show v.toInt < (1 : Int32).toInt from q)) hv.1
    · exact q
  have h2 : v.toInt ≤ 99999 := Int32.le_iff_toInt_le.mp hv.2
  have k := thr_m hb (p := ix p) (e := e) (v := v) hpe he h1 h2 (by rw [← vs_i bf hp]; exact hlow)
  rw [← nI_cl hp.1, ← vs_i bf hp] at k
  exact k
theorem nI_nm1 {k : Nat} (hk : k < 2 ^ 31) : ¬ nI k = -1 := fun q => by
  have e := congrArg Int32.toInt q
  rw [nI_toInt hk] at e
  have z : (-1 : Int32).toInt = -1 := rfl
  omega
def dq (bf : Nat → Int32) (c : Int32) (a : Nat) : Nat → Int32
  | 0 => 0
  | k + 1 => if k < a then 0 else dq bf c a k + m_max 0 (bf (k / 10) - c)
theorem dq_0 (bf : Nat → Int32) (c : Int32) (a : Nat) : ∀ k, k ≤ a → dq bf c a k = 0
  | 0, _ => rfl
  | k + 1, h => if_pos h
theorem dq_s {bf : Nat → Int32} {c : Int32} {a k : Nat} (h : a ≤ k) : dq bf c a (k + 1) = dq bf c a k + m_max 0 (bf (k / 10) - c) := if_neg (by omega)
theorem dq_d (bf : Nat → Int32) (c : Int32) (a : Nat) : ∀ m, dq bf c a (a + m) = dsum bf c a m := by
  intro m
  induction m with
  | zero => exact dq_0 bf c a a (Nat.le_refl a)
  | succ m ih =>
    show dq bf c a (a + m + 1) = dsum bf c a m + m_max 0 (bf ((a + m) / 10) - c)
    rw [dq_s (by omega), ih]
theorem del_m {bf : Nat → Int32} (hb : ∀ k, k < 20 → 1 ≤ (bf k).toInt ∧ (bf k).toInt ≤ 60) {f t s : Int32} (hf : rng f 0 200) (ht : rng t 0 200) (hs : rng s 1 999) (h : t < f) :
    vsum bf f 20 - vsum bf t 20 - csum bf t f (cts s) 20 = dq bf (m_max 0 ((60 - s + 9) / 10)) (ix t) (ix f) := by
  have h1 : 1 ≤ s.toInt := by
    rcases Int.lt_or_le s.toInt 1 with q | q
    · exact absurd (Int32.lt_iff_toInt_lt.mpr (show s.toInt < (1 : Int32).toInt from q)) hs.1
    · exact q
  have h2 : s.toInt ≤ 999 := Int32.le_iff_toInt_le.mp hs.2
  obtain ⟨c1, c2, c3⟩ := cts_m h1 h2
  have hlt : ix t < ix f := by
    rw [nI_cl hf.1, nI_cl ht.1] at h
    exact (nI_ltI (Int32.toNatClampNeg_lt t) (Int32.toNatClampNeg_lt f)).mp h
  have hf2 := rg200 hf
  have e : ix f = ix t + (ix f - ix t) := by omega
  rw [c1, e, dq_d, ds_m hb c2 c3 (ix f - ix t) (by omega), ← e, cs_vs, vs_i _ hf, vs_i _ ht, vs_i _ hf, vs_i _ ht]
theorem lt_m1 {a b : Int32} (h : b < a) (ha : a.toInt ≤ 200) : True := trivial
set_option maxHeartbeats 4000000 in
set_option maxRecDepth 100000 in
theorem c_X7_thread (l : Launch) (G : mg) (A : Nat → Prop) (Mw : mw) (st : St) (g : gR) (p0 p1 p2 : Int32) (hR : RS G st g Mw) (hV : Inv st) : Met l yX7_thread wsX7_thread ({ frames := 3, cells := 0, slots := 0, locals := 64 }) (va_Pc [.ref (g.1 0 0), .int p0, .int p1, .int p2] (mB G A Mw)) (va_Qi (fun r Mw1 => RP G (m_thread st p0 p1 p2) g r Mw1) (mE G A) A) 0 0 A := by
  refine Met.ofW (cc := cX7_thread) (maxL := 6) (ret := (some .int)) (by decide) rfl ?_
  intro p e s m args below meth c s₁ B hml hv
  obtain ⟨rfl, hG, hP, hI, hA⟩ := hv
  have hx := B.exec
  have hb := B.bytes
  have hr := B.returns
  have hts := atoms_spec (ws := wsX7_thread) B.pre
  have hown : s.vm.findClass RX7 = some m.cls := findClass_of_methodNamed B.named
  have hlocks := B.notSynchronized
  have hK := hG.K
  have i_X7 : ∀ w ∈ wsX70, w ∈ wsX7_thread := by decide +kernel
  have hS : va_S A s.heap s.heap [] := va_S.rf
  have hl := lv_entry ([.ref (g.1 0 0), .int p0, .int p1, .int p2]) (n := 6) (Nat.le_of_ble_eq_true rfl)
  rw [lg_entry_eq]
  generalize (lg_sl ([.ref (g.1 0 0), .int p0, .int p1, .int p2]) ++ List.replicate (6 - (lg_sl ([.ref (g.1 0 0), .int p0, .int p1, .int p2])).length) Slot.unset).toArray = ls at hl ⊢
  have hl : lv_has ls 6 [(0, .ref (g.1 0 0)), (1, .int p0), (2, .int p1), (3, .int p2)] := hl
  have hP : mP G.1 Mw s.heap := hP
  have h_X : Mw (g.1 0 0) = some (.inr (10, [.ref (g.1 1 0), .ref (g.1 2 0), .int (gS st 2), .int (gS st 3), .int (gS st 1), .int (gS st 0), .int (thR g)])) := hR.1 0 0 ro0
  have h_TL : Mw (g.1 1 0) = some (.inr (2, [.int (mcR g 1 0), .ref (g.1 3 0), .int ((nI (nT st)))])) := hR.1 1 0 ro1
  have h_IL : Mw (g.1 2 0) = some (.inr (2, [.int (mcR g 2 0), .ref (g.1 4 0), .int ((nI (nN st)))])) := hR.1 2 0 ro2
  have hti9 := hR.ne ro1 ro2 (by omega)
  have hnT8 := hV.1.1
  have hnN8 := Nat.le_trans hV.1.2 (show 6 ≤ 8 by decide)
  refine lv_aload_n hx hb dX7_thread_0 rfl (lv_at hl 0 rfl) ?_
  refine lv_aload_n hx hb dX7_thread_1 rfl (lv_at hl 0 rfl) ?_
  refine lv_iload_n hx hb dX7_thread_2 rfl (lv_at hl 1 rfl) ?_
  refine m_calli (va_runV (As := [.int p0]) (rest := [.ref (g.1 0 0)]) ⟨hx, hb, hml, hown, hts⟩ (c_X7_isNoTube l G A Mw  p0 h_X h_TL hnT8) (cwV 1 hts gX7_thread_X7_isNoTube rfl rfl rfl (by decide +kernel) ⟨Nat.le_of_ble_eq_true rfl, Nat.le_of_ble_eq_true rfl⟩) (mPreV hG hS hP hI hA (hP _ _ h_X) (r := (RX7, TX7, 7)) rfl) rfl rfl hl.1 rfl (lv_room (Nat.le_of_ble_eq_true rfl)) dX7_thread_3 ⟨Nat.le_of_ble_eq_true rfl, Nat.le_of_ble_eq_true rfl⟩) hS (fun r1 Mw1 H locs hp_r1 hP hI hS => ?_)
  obtain ⟨hb9, hm9⟩ := hp_r1
  subst Mw1
  rcases hb9 with ⟨hr9, hq_r1⟩ | ⟨hr9, hq_r1⟩
  · subst hr9
    have ht9 := hq_r1
    have e_p0 : p0 = nI (ix p0) := nI_cl ht9.1
    rw [e_p0] at hl
    have hf3 := hR.f3 ht9.2
    have h_TD : Mw (g.1 3 0) = some (.inl (G.2.1 5, 10, .inr (.inr (.inr (.inr (qf (nT st) (g.1 5))))))) := hR.1 3 0 (ro3 hf3)
    have h_T : Mw (g.1 5 (ix p0)) = some (.inr (9, [.ref (g.1 6 (ix p0)), .int (usS st (ix p0))])) := hR.1 5 _ (ro5 ht9.2)
    have h_B : Mw (g.1 6 (ix p0)) = some (.inl (G.2.1 0, 20, .inl (boS st (ix p0)))) := hR.1 6 _ (ro6 ht9.2)
    refine lv_iconst (v := 1) hx hb dX7_thread_6 (by decide) ?_
    refine m_calli (va_runV (As := [.int 0, .int 1]) (rest := []) ⟨hx, hb, hml, hown, hts⟩ (c_X7_isThrown0 l G A Mw  1 h_X) (cwV 2 hts gX7_thread_X7_isThrown rfl rfl rfl (by decide +kernel) ⟨Nat.le_of_ble_eq_true rfl, Nat.le_of_ble_eq_true rfl⟩) (mPreV hG hS hP hI hA (hP _ _ h_X) (r := (RX7, TX7, 7)) rfl) rfl rfl hl.1 rfl (lv_room (Nat.le_of_ble_eq_true rfl)) dX7_thread_7 ⟨Nat.le_of_ble_eq_true rfl, Nat.le_of_ble_eq_true rfl⟩) hS (fun r2 Mw1 H locs hp_r2 hP hI hS => ?_)
    obtain ⟨hp_r2, hm9⟩ := hp_r2
    subst Mw1
    subst hp_r2
    have h_TL := mu_k (e := .inr (10, [.ref (g.1 1 0), .ref (g.1 2 0), .int (gS st 2), .int (gS st 3), .int (gS st 1), .int (gS st 0), .int 0])) (kd_ne h_TL h_X rfl) h_TL
    have h_IL := mu_k (e := .inr (10, [.ref (g.1 1 0), .ref (g.1 2 0), .int (gS st 2), .int (gS st 3), .int (gS st 1), .int (gS st 0), .int 0])) (kd_ne h_IL h_X rfl) h_IL
    have h_TD := mu_k (e := .inr (10, [.ref (g.1 1 0), .ref (g.1 2 0), .int (gS st 2), .int (gS st 3), .int (gS st 1), .int (gS st 0), .int 0])) (kd_ne h_TD h_X rfl) h_TD
    have h_T := mu_k (e := .inr (10, [.ref (g.1 1 0), .ref (g.1 2 0), .int (gS st 2), .int (gS st 3), .int (gS st 1), .int (gS st 0), .int 0])) (kd_ne h_T h_X rfl) h_T
    have h_B := mu_k (e := .inr (10, [.ref (g.1 1 0), .ref (g.1 2 0), .int (gS st 2), .int (gS st 3), .int (gS st 1), .int (gS st 0), .int 0])) (kd_ne h_B h_X rfl) h_B
    have h_X : (mu Mw (g.1 0 0) (.inr (10, [.ref (g.1 1 0), .ref (g.1 2 0), .int (gS st 2), .int (gS st 3), .int (gS st 1), .int (gS st 0), .int 0]))) (g.1 0 0) = some (.inr (10, [.ref (g.1 1 0), .ref (g.1 2 0), .int (gS st 2), .int (gS st 3), .int (gS st 1), .int (gS st 0), .int 0])) := mu_s
    refine lv_if_ne (tgt := 43) hx hb dX7_thread_10 (by decide) (fun h9 => absurd h9 (by decide)) (fun _ => ?_)
    refine lv_aload_n hx hb dX7_thread_13 rfl (lv_at hl 0 rfl) ?_
    refine lv_iload_n hx hb dX7_thread_14 rfl (lv_at hl 2 rfl) ?_
    refine m_calli (va_runS (As := [.int p1]) (rest := [.ref (g.1 0 0)]) ⟨hx, hb, hml, hown, hts⟩ (c_X7_isNoPlace l G A (mu Mw (g.1 0 0) (.inr (10, [.ref (g.1 1 0), .ref (g.1 2 0), .int (gS st 2), .int (gS st 3), .int (gS st 1), .int (gS st 0), .int 0])))  p1) (va_cwS 1 hts gX7_thread_X7_isNoPlace rfl rfl rfl (by decide +kernel) ⟨Nat.le_of_ble_eq_true rfl, Nat.le_of_ble_eq_true rfl⟩) (mPreS hG hS hP hI hA) rfl rfl hl.1 rfl (lv_room (Nat.le_of_ble_eq_true rfl)) dX7_thread_15 ⟨Nat.le_of_ble_eq_true rfl, Nat.le_of_ble_eq_true rfl⟩) hS (fun r3 Mw1 H locs hp_r3 hP hI hS => ?_)
    obtain ⟨hb9, hm9⟩ := hp_r3
    subst Mw1
    rcases hb9 with ⟨hr9, hq_r3⟩ | ⟨hr9, hq_r3⟩
    · subst hr9
      have e_p1 : p1 = nI (ix p1) := nI_cl hq_r3.1
      rw [e_p1] at hl
      have hk_p1 := rg200 hq_r3
      have hv_p1 := hq_r3
      refine lv_if_ne (tgt := 31) hx hb dX7_thread_18 (by decide) (fun h9 => absurd h9 (by decide)) (fun _ => ?_)
      refine lv_iload_n hx hb dX7_thread_21 rfl (lv_at hl 3 rfl) ?_
      refine lv_iconst (v := 1) hx hb dX7_thread_22 (by decide) ?_
      refine lv_ldc (v := 99999) hx hb hown (hts (.constant RX7 77 (99999)) (by decide +kernel)) dX7_thread_23 ?_
      refine m_calli (va_runS (As := [.int p2, .int 1, .int 99999]) (rest := [.ref (g.1 0 0)]) ⟨hx, hb, hml, hown, hts⟩ (c_X7_isIn l G A (mu Mw (g.1 0 0) (.inr (10, [.ref (g.1 1 0), .ref (g.1 2 0), .int (gS st 2), .int (gS st 3), .int (gS st 1), .int (gS st 0), .int 0])))  p2 1 99999) (va_cwS 3 hts gX7_thread_X7_isIn rfl rfl rfl (by decide +kernel) ⟨Nat.le_of_ble_eq_true rfl, Nat.le_of_ble_eq_true rfl⟩) (mPreS hG hS hP hI hA) rfl rfl hl.1 rfl (lv_room (Nat.le_of_ble_eq_true rfl)) dX7_thread_25 ⟨Nat.le_of_ble_eq_true rfl, Nat.le_of_ble_eq_true rfl⟩) hS (fun r4 Mw1 H locs hp_r4 hP hI hS => ?_)
      obtain ⟨hb9, hm9⟩ := hp_r4
      subst Mw1
      rcases hb9 with ⟨hr9, hq_r4⟩ | ⟨hr9, hq_r4⟩
      · subst hr9
        refine lv_if_ne (tgt := 35) hx hb dX7_thread_28 (by decide) (fun h9 => absurd h9 (by decide)) (fun _ => ?_)
        refine lv_iconst (v := 1) hx hb dX7_thread_31 (by decide) ?_
        refine lv_goto (tgt := 36) hx hb dX7_thread_32 (by decide) ?_
        refine lv_iconst (v := 2) hx hb dX7_thread_36 (by decide) ?_
        refine m_calli (va_runV (As := [.int 1, .int 2]) (rest := []) ⟨hx, hb, hml, hown, hts⟩ (c_X7_isThrown1 l G A (mu Mw (g.1 0 0) (.inr (10, [.ref (g.1 1 0), .ref (g.1 2 0), .int (gS st 2), .int (gS st 3), .int (gS st 1), .int (gS st 0), .int 0])))  2 h_X) (cwV 2 hts gX7_thread_X7_isThrown rfl rfl rfl (by decide +kernel) ⟨Nat.le_of_ble_eq_true rfl, Nat.le_of_ble_eq_true rfl⟩) (mPreV hG hS hP hI hA (hP _ _ h_X) (r := (RX7, TX7, 7)) rfl) rfl rfl hl.1 rfl (lv_room (Nat.le_of_ble_eq_true rfl)) dX7_thread_37 ⟨Nat.le_of_ble_eq_true rfl, Nat.le_of_ble_eq_true rfl⟩) hS (fun r5 Mw1 H locs hp_r5 hP hI hS => ?_)
        obtain ⟨hp_r5, hm9⟩ := hp_r5
        subst Mw1
        subst hp_r5
        have h_TL := mu_k (e := .inr (10, [.ref (g.1 1 0), .ref (g.1 2 0), .int (gS st 2), .int (gS st 3), .int (gS st 1), .int (gS st 0), .int 2])) (kd_ne h_TL h_X rfl) h_TL
        have h_IL := mu_k (e := .inr (10, [.ref (g.1 1 0), .ref (g.1 2 0), .int (gS st 2), .int (gS st 3), .int (gS st 1), .int (gS st 0), .int 2])) (kd_ne h_IL h_X rfl) h_IL
        have h_TD := mu_k (e := .inr (10, [.ref (g.1 1 0), .ref (g.1 2 0), .int (gS st 2), .int (gS st 3), .int (gS st 1), .int (gS st 0), .int 2])) (kd_ne h_TD h_X rfl) h_TD
        have h_T := mu_k (e := .inr (10, [.ref (g.1 1 0), .ref (g.1 2 0), .int (gS st 2), .int (gS st 3), .int (gS st 1), .int (gS st 0), .int 2])) (kd_ne h_T h_X rfl) h_T
        have h_B := mu_k (e := .inr (10, [.ref (g.1 1 0), .ref (g.1 2 0), .int (gS st 2), .int (gS st 3), .int (gS st 1), .int (gS st 0), .int 2])) (kd_ne h_B h_X rfl) h_B
        have h_X : (mu (mu Mw (g.1 0 0) (.inr (10, [.ref (g.1 1 0), .ref (g.1 2 0), .int (gS st 2), .int (gS st 3), .int (gS st 1), .int (gS st 0), .int 0]))) (g.1 0 0) (.inr (10, [.ref (g.1 1 0), .ref (g.1 2 0), .int (gS st 2), .int (gS st 3), .int (gS st 1), .int (gS st 0), .int 2]))) (g.1 0 0) = some (.inr (10, [.ref (g.1 1 0), .ref (g.1 2 0), .int (gS st 2), .int (gS st 3), .int (gS st 1), .int (gS st 0), .int 2])) := mu_s
        refine lv_if_eq (tgt := 45) hx hb dX7_thread_40 (by decide) (fun h9 => absurd h9 (by decide)) (fun _ => ?_)
        refine lv_iconst (v := 0) hx hb dX7_thread_43 (by decide) ?_
        refine W.widen (k := 0) (n := 0) (Nat.le_of_ble_eq_true rfl) (Nat.le_of_ble_eq_true rfl) ?_
        exact W.iret (v := 0) hx hb hr (fun t99 ht99 hW99 => ⟨⟨0, (mu (mu Mw (g.1 0 0) (.inr (10, [.ref (g.1 1 0), .ref (g.1 2 0), .int (gS st 2), .int (gS st 3), .int (gS st 1), .int (gS st 0), .int 0]))) (g.1 0 0) (.inr (10, [.ref (g.1 1 0), .ref (g.1 2 0), .int (gS st 2), .int (gS st 3), .int (gS st 1), .int (gS st 0), .int 2]))), rfl, RP.no (k := 2) (by unfold m_thread; first | (rw [chk_p ht9, chk_p hq_r3, chk_n hq_r4]; done) | (rw [chk_p ht9, chk_p hq_r3, chk_n hq_r4]; rfl)) (by decide) (hR.th 2 h_X (fun x9 e9 hx9 h0 => ((mu_n h0).trans ((mu_n h0).trans (rfl))).trans hx9)) rfl rfl, by rw [ht99]; exact hP, hI⟩, hS.F ht99⟩) hS.2.2 dX7_thread_44
      · subst hr9
        have hv_p2 := hq_r4
        refine lv_if_ne (tgt := 35) hx hb dX7_thread_28 (by decide) (fun _ => ?_) (fun h9 => absurd h9 (by decide))
        refine lv_iconst (v := 0) hx hb dX7_thread_35 (by decide) ?_
        refine lv_iconst (v := 2) hx hb dX7_thread_36 (by decide) ?_
        refine m_calli (va_runV (As := [.int 0, .int 2]) (rest := []) ⟨hx, hb, hml, hown, hts⟩ (c_X7_isThrown0 l G A (mu Mw (g.1 0 0) (.inr (10, [.ref (g.1 1 0), .ref (g.1 2 0), .int (gS st 2), .int (gS st 3), .int (gS st 1), .int (gS st 0), .int 0])))  2 h_X) (cwV 2 hts gX7_thread_X7_isThrown rfl rfl rfl (by decide +kernel) ⟨Nat.le_of_ble_eq_true rfl, Nat.le_of_ble_eq_true rfl⟩) (mPreV hG hS hP hI hA (hP _ _ h_X) (r := (RX7, TX7, 7)) rfl) rfl rfl hl.1 rfl (lv_room (Nat.le_of_ble_eq_true rfl)) dX7_thread_37 ⟨Nat.le_of_ble_eq_true rfl, Nat.le_of_ble_eq_true rfl⟩) hS (fun r6 Mw1 H locs hp_r6 hP hI hS => ?_)
        obtain ⟨hp_r6, hm9⟩ := hp_r6
        subst Mw1
        subst hp_r6
        have h_TL := mu_k (e := .inr (10, [.ref (g.1 1 0), .ref (g.1 2 0), .int (gS st 2), .int (gS st 3), .int (gS st 1), .int (gS st 0), .int 0])) (kd_ne h_TL h_X rfl) h_TL
        have h_IL := mu_k (e := .inr (10, [.ref (g.1 1 0), .ref (g.1 2 0), .int (gS st 2), .int (gS st 3), .int (gS st 1), .int (gS st 0), .int 0])) (kd_ne h_IL h_X rfl) h_IL
        have h_TD := mu_k (e := .inr (10, [.ref (g.1 1 0), .ref (g.1 2 0), .int (gS st 2), .int (gS st 3), .int (gS st 1), .int (gS st 0), .int 0])) (kd_ne h_TD h_X rfl) h_TD
        have h_T := mu_k (e := .inr (10, [.ref (g.1 1 0), .ref (g.1 2 0), .int (gS st 2), .int (gS st 3), .int (gS st 1), .int (gS st 0), .int 0])) (kd_ne h_T h_X rfl) h_T
        have h_B := mu_k (e := .inr (10, [.ref (g.1 1 0), .ref (g.1 2 0), .int (gS st 2), .int (gS st 3), .int (gS st 1), .int (gS st 0), .int 0])) (kd_ne h_B h_X rfl) h_B
        have h_X : (mu (mu Mw (g.1 0 0) (.inr (10, [.ref (g.1 1 0), .ref (g.1 2 0), .int (gS st 2), .int (gS st 3), .int (gS st 1), .int (gS st 0), .int 0]))) (g.1 0 0) (.inr (10, [.ref (g.1 1 0), .ref (g.1 2 0), .int (gS st 2), .int (gS st 3), .int (gS st 1), .int (gS st 0), .int 0]))) (g.1 0 0) = some (.inr (10, [.ref (g.1 1 0), .ref (g.1 2 0), .int (gS st 2), .int (gS st 3), .int (gS st 1), .int (gS st 0), .int 0])) := mu_s
        refine lv_if_eq (tgt := 45) hx hb dX7_thread_40 (by decide) (fun _ => ?_) (fun h9 => absurd h9 (by decide))
        refine lv_iload_n hx hb dX7_thread_45 rfl (lv_at hl 2 rfl) ?_
        refine lv_istore (lv' := [(4, .int (nI (ix p1))), (0, .ref (g.1 0 0)), (1, .int (nI (ix p0))), (2, .int (nI (ix p1))), (3, .int p2)]) hx hb dX7_thread_46 hl (by decide) rfl (fun ls hl => ?_)
        refine lv_aload_n hx hb dX7_thread_48 rfl (lv_at hl 1 rfl) ?_
        refine m_get (ci := 10) (v := .ref (g.1 1 0)) (C := RX7) (T := TX7) (N := 7) hx hb hts i_X7 hown hK (hP _ _ h_X) rfl 0 (by decide) (hts (.fieldLink RX7 10 "MeniscusModel" "tubes" "Ljava/util/ArrayList;") (by decide +kernel)) (fun _ h9 => h9) rfl dX7_thread_49 ?_
        refine lv_iload_n hx hb dX7_thread_52 rfl (lv_at hl 2 rfl) ?_
        refine m_callq (va_runV (As := [.int (nI (ix p0))]) (rest := []) ⟨hx, hb, hml, hown, hts⟩ (c_Jx4a65c_get_915e3 l G A (mu (mu Mw (g.1 0 0) (.inr (10, [.ref (g.1 1 0), .ref (g.1 2 0), .int (gS st 2), .int (gS st 3), .int (gS st 1), .int (gS st 0), .int 0]))) (g.1 0 0) (.inr (10, [.ref (g.1 1 0), .ref (g.1 2 0), .int (gS st 2), .int (gS st 3), .int (gS st 1), .int (gS st 0), .int 0])))  h_TL h_TD (ix p0) (g.1 5 (ix p0)) ht9.2 hnT8 (qf_p ht9.2)) (cwV 1 hts gX7_thread_Jx4a65c_get_915e3 rfl rfl rfl (by decide +kernel) ⟨Nat.le_of_ble_eq_true rfl, Nat.le_of_ble_eq_true rfl⟩) (mPreV hG hS hP hI hA (hP _ _ h_TL) (r := (RJx4a65c, TJx4a65c, 3)) rfl) rfl rfl hl.1 rfl (lv_room (Nat.le_of_ble_eq_true rfl)) dX7_thread_53 ⟨Nat.le_of_ble_eq_true rfl, Nat.le_of_ble_eq_true rfl⟩) hS (fun r7 Mw1 H locs hp_r7 hP hI hS => ?_)
        obtain ⟨hp_r7, hm9⟩ := hp_r7
        subst Mw1
        subst hp_r7
        refine va_castE hx hb hown (hts (.classLink RX7 38 RX6) (by decide +kernel)) (va_recv hK (va_at.one (hP _ _ h_T)) (q0 := 0) (q := (RX6, TX6, 2)) rfl rfl) dX7_thread_56 ?_
        refine lv_iload_n hx hb dX7_thread_59 rfl (lv_at hl 3 rfl) ?_
        refine m_calli (va_runV (As := [.int (nI (ix p1))]) (rest := []) ⟨hx, hb, hml, hown, hts⟩ (c_X6_volume l G A (mu (mu Mw (g.1 0 0) (.inr (10, [.ref (g.1 1 0), .ref (g.1 2 0), .int (gS st 2), .int (gS st 3), .int (gS st 1), .int (gS st 0), .int 0]))) (g.1 0 0) (.inr (10, [.ref (g.1 1 0), .ref (g.1 2 0), .int (gS st 2), .int (gS st 3), .int (gS st 1), .int (gS st 0), .int 0])))  (ix p1) hk_p1 h_T h_B) (cwV 1 hts gX7_thread_X6_volume rfl rfl rfl (by decide +kernel) ⟨Nat.le_of_ble_eq_true rfl, Nat.le_of_ble_eq_true rfl⟩) (mPreV hG hS hP hI hA (hP _ _ h_T) (r := (RX6, TX6, 2)) rfl) rfl rfl hl.1 rfl (lv_room (Nat.le_of_ble_eq_true rfl)) dX7_thread_60 ⟨Nat.le_of_ble_eq_true rfl, Nat.le_of_ble_eq_true rfl⟩) hS (fun r8 Mw1 H locs hp_r8 hP hI hS => ?_)
        obtain ⟨hp_r8, hm9⟩ := hp_r8
        subst Mw1
        rw [← vs_i _ hv_p1] at hp_r8
        subst hp_r8
        refine lv_iload_n hx hb dX7_thread_63 rfl (lv_at hl 4 rfl) ?_
        refine lv_iadd hx hb dX7_thread_64 ?_
        refine lv_istore (lv' := [(5, .int ((vsum (boS st (ix p0)) p1 20) + p2)), (4, .int (nI (ix p1))), (0, .ref (g.1 0 0)), (1, .int (nI (ix p0))), (2, .int (nI (ix p1))), (3, .int p2)]) hx hb dX7_thread_65 hl (by decide) rfl (fun ls hl => ?_)
        have loop : ∀ (n k : Nat) (hpe9 : ix p1 ≤ k) (hlow9 : ∀ j, ix p1 ≤ j → j < k → msum (boS st (ix p0)) j < vsum (boS st (ix p0)) p1 20 + p2), k ≤ 200 → k + n = 200 + 1 → ∀ (H : Heap) (locs : List Loc) (ls : Array Slot), mP G.1 (mu (mu Mw (g.1 0 0) (.inr (10, [.ref (g.1 1 0), .ref (g.1 2 0), .int (gS st 2), .int (gS st 3), .int (gS st 1), .int (gS st 0), .int 0]))) (g.1 0 0) (.inr (10, [.ref (g.1 1 0), .ref (g.1 2 0), .int (gS st 2), .int (gS st 3), .int (gS st 1), .int (gS st 0), .int 0]))) H → mI A (mu (mu Mw (g.1 0 0) (.inr (10, [.ref (g.1 1 0), .ref (g.1 2 0), .int (gS st 2), .int (gS st 3), .int (gS st 1), .int (gS st 0), .int 0]))) (g.1 0 0) (.inr (10, [.ref (g.1 1 0), .ref (g.1 2 0), .int (gS st 2), .int (gS st 3), .int (gS st 1), .int (gS st 0), .int 0]))) → va_S A s.heap H locs → lv_has ls 6 [(0, .ref (g.1 0 0)), (1, .int (nI (ix p0))), (2, .int (nI (ix p1))), (3, .int p2), (4, .int (nI k)), (5, .int (vsum (boS st (ix p0)) p1 20 + p2))] → W p l e ({ frames := 3, cells := 0, slots := 0, locals := 64 }) s m ([.ref (g.1 0 0), .int p0, .int p1, .int p2] : List Value).toArray below meth c H locs 0 0 (MQ below (va_Qi (fun r Mw1 => RP G (m_thread st p0 p1 p2) g r Mw1) (mE G A) A) ([.ref (g.1 0 0), .int p0, .int p1, .int p2] : List Value).toArray s 0 0 A) (F0 m 67 ls []) := by
          intro n
          induction n with
          | zero => intro k hpe9 hlow9 hk1 hk2; omega
          | succ n ih_loop =>
            intro k hpe9 hlow9 hk1 hk2 H locs ls hP hI hS hl
            refine lv_iload hx hb dX7_thread_67 (lv_at hl 4 rfl) ?_
            refine lv_sipush (v := (200)) hx hb dX7_thread_69 (by decide) ?_
            refine lv_icmp_ge (tgt := 102) hx hb dX7_thread_72 (by decide) (fun c9 => ?_) (fun c9 => ?_)
            · skip
              have hk9 : k = 200 := by have h8 : 200 ≤ k := Nat.le_of_not_lt (fun q => absurd c9 (i_nle (show nI k < nI 200 from nI_lt q (by omega)))); omega
              refine lv_aload_n hx hb dX7_thread_102 rfl (lv_at hl 0 rfl) ?_
              refine lv_aload_n hx hb dX7_thread_103 rfl (lv_at hl 0 rfl) ?_
              refine m_get (ci := 10) (v := .ref (g.1 1 0)) (C := RX7) (T := TX7) (N := 7) hx hb hts i_X7 hown hK (hP _ _ h_X) rfl 0 (by decide) (hts (.fieldLink RX7 10 "MeniscusModel" "tubes" "Ljava/util/ArrayList;") (by decide +kernel)) (fun _ h9 => h9) rfl dX7_thread_104 ?_
              refine lv_iload_n hx hb dX7_thread_107 rfl (lv_at hl 1 rfl) ?_
              refine m_callq (va_runV (As := [.int (nI (ix p0))]) (rest := [.ref (g.1 0 0)]) ⟨hx, hb, hml, hown, hts⟩ (c_Jx4a65c_get_915e3 l G A (mu (mu Mw (g.1 0 0) (.inr (10, [.ref (g.1 1 0), .ref (g.1 2 0), .int (gS st 2), .int (gS st 3), .int (gS st 1), .int (gS st 0), .int 0]))) (g.1 0 0) (.inr (10, [.ref (g.1 1 0), .ref (g.1 2 0), .int (gS st 2), .int (gS st 3), .int (gS st 1), .int (gS st 0), .int 0])))  h_TL h_TD (ix p0) (g.1 5 (ix p0)) ht9.2 hnT8 (qf_p ht9.2)) (cwV 1 hts gX7_thread_Jx4a65c_get_915e3 rfl rfl rfl (by decide +kernel) ⟨Nat.le_of_ble_eq_true rfl, Nat.le_of_ble_eq_true rfl⟩) (mPreV hG hS hP hI hA (hP _ _ h_TL) (r := (RJx4a65c, TJx4a65c, 3)) rfl) rfl rfl hl.1 rfl (lv_room (Nat.le_of_ble_eq_true rfl)) dX7_thread_108 ⟨Nat.le_of_ble_eq_true rfl, Nat.le_of_ble_eq_true rfl⟩) hS (fun r10 Mw1 H locs hp_r10 hP hI hS => ?_)
              obtain ⟨hp_r10, hm9⟩ := hp_r10
              subst Mw1
              subst hp_r10
              refine va_castE hx hb hown (hts (.classLink RX7 38 RX6) (by decide +kernel)) (va_recv hK (va_at.one (hP _ _ h_T)) (q0 := 0) (q := (RX6, TX6, 2)) rfl rfl) dX7_thread_111 ?_
              refine lv_iload hx hb dX7_thread_114 (lv_at hl 4 rfl) ?_
              refine m_calli (va_runV (As := [.int (nI k)]) (rest := [.ref (g.1 0 0)]) ⟨hx, hb, hml, hown, hts⟩ (c_X6_volume l G A (mu (mu Mw (g.1 0 0) (.inr (10, [.ref (g.1 1 0), .ref (g.1 2 0), .int (gS st 2), .int (gS st 3), .int (gS st 1), .int (gS st 0), .int 0]))) (g.1 0 0) (.inr (10, [.ref (g.1 1 0), .ref (g.1 2 0), .int (gS st 2), .int (gS st 3), .int (gS st 1), .int (gS st 0), .int 0])))  k (by omega) h_T h_B) (cwV 1 hts gX7_thread_X6_volume rfl rfl rfl (by decide +kernel) ⟨Nat.le_of_ble_eq_true rfl, Nat.le_of_ble_eq_true rfl⟩) (mPreV hG hS hP hI hA (hP _ _ h_T) (r := (RX6, TX6, 2)) rfl) rfl rfl hl.1 rfl (lv_room (Nat.le_of_ble_eq_true rfl)) dX7_thread_116 ⟨Nat.le_of_ble_eq_true rfl, Nat.le_of_ble_eq_true rfl⟩) hS (fun r11 Mw1 H locs hp_r11 hP hI hS => ?_)
              obtain ⟨hp_r11, hm9⟩ := hp_r11
              subst Mw1
              subst hp_r11
              refine lv_iload hx hb dX7_thread_119 (lv_at hl 5 rfl) ?_
              refine lv_icmp_ge (tgt := 128) hx hb dX7_thread_121 (by decide) (fun c12 => ?_) (fun c12 => ?_)
              · skip
                have hf9 : thr st (ix p0) p1 p2 = nI k := thr_eq ((thr_m2 (hV.2.1 _ ht9.2).1 hv_p1 hv_p2 hpe9 hk1 hlow9).1 (i_nlt c12))
                have hq9 : ¬ thr st (ix p0) p1 p2 = -1 := by rw [hf9]; exact nI_nm1 (by omega)
                refine lv_iconst (v := 0) hx hb dX7_thread_128 (by decide) ?_
                refine lv_iconst (v := 3) hx hb dX7_thread_129 (by decide) ?_
                refine m_calli (va_runV (As := [.int 0, .int 3]) (rest := []) ⟨hx, hb, hml, hown, hts⟩ (c_X7_isThrown0 l G A (mu (mu Mw (g.1 0 0) (.inr (10, [.ref (g.1 1 0), .ref (g.1 2 0), .int (gS st 2), .int (gS st 3), .int (gS st 1), .int (gS st 0), .int 0]))) (g.1 0 0) (.inr (10, [.ref (g.1 1 0), .ref (g.1 2 0), .int (gS st 2), .int (gS st 3), .int (gS st 1), .int (gS st 0), .int 0])))  3 h_X) (cwV 2 hts gX7_thread_X7_isThrown rfl rfl rfl (by decide +kernel) ⟨Nat.le_of_ble_eq_true rfl, Nat.le_of_ble_eq_true rfl⟩) (mPreV hG hS hP hI hA (hP _ _ h_X) (r := (RX7, TX7, 7)) rfl) rfl rfl hl.1 rfl (lv_room (Nat.le_of_ble_eq_true rfl)) dX7_thread_130 ⟨Nat.le_of_ble_eq_true rfl, Nat.le_of_ble_eq_true rfl⟩) hS (fun r13 Mw1 H locs hp_r13 hP hI hS => ?_)
                obtain ⟨hp_r13, hm9⟩ := hp_r13
                subst Mw1
                subst hp_r13
                have h_TL := mu_k (e := .inr (10, [.ref (g.1 1 0), .ref (g.1 2 0), .int (gS st 2), .int (gS st 3), .int (gS st 1), .int (gS st 0), .int 0])) (kd_ne h_TL h_X rfl) h_TL
                have h_IL := mu_k (e := .inr (10, [.ref (g.1 1 0), .ref (g.1 2 0), .int (gS st 2), .int (gS st 3), .int (gS st 1), .int (gS st 0), .int 0])) (kd_ne h_IL h_X rfl) h_IL
                have h_TD := mu_k (e := .inr (10, [.ref (g.1 1 0), .ref (g.1 2 0), .int (gS st 2), .int (gS st 3), .int (gS st 1), .int (gS st 0), .int 0])) (kd_ne h_TD h_X rfl) h_TD
                have h_T := mu_k (e := .inr (10, [.ref (g.1 1 0), .ref (g.1 2 0), .int (gS st 2), .int (gS st 3), .int (gS st 1), .int (gS st 0), .int 0])) (kd_ne h_T h_X rfl) h_T
                have h_B := mu_k (e := .inr (10, [.ref (g.1 1 0), .ref (g.1 2 0), .int (gS st 2), .int (gS st 3), .int (gS st 1), .int (gS st 0), .int 0])) (kd_ne h_B h_X rfl) h_B
                have h_X : (mu (mu (mu Mw (g.1 0 0) (.inr (10, [.ref (g.1 1 0), .ref (g.1 2 0), .int (gS st 2), .int (gS st 3), .int (gS st 1), .int (gS st 0), .int 0]))) (g.1 0 0) (.inr (10, [.ref (g.1 1 0), .ref (g.1 2 0), .int (gS st 2), .int (gS st 3), .int (gS st 1), .int (gS st 0), .int 0]))) (g.1 0 0) (.inr (10, [.ref (g.1 1 0), .ref (g.1 2 0), .int (gS st 2), .int (gS st 3), .int (gS st 1), .int (gS st 0), .int 0]))) (g.1 0 0) = some (.inr (10, [.ref (g.1 1 0), .ref (g.1 2 0), .int (gS st 2), .int (gS st 3), .int (gS st 1), .int (gS st 0), .int 0])) := mu_s
                refine lv_if_eq (tgt := 140) hx hb dX7_thread_133 (by decide) (fun _ => ?_) (fun h9 => absurd h9 (by decide))
                refine lv_iload hx hb dX7_thread_140 (lv_at hl 4 rfl) ?_
                refine W.widen (k := 0) (n := 0) (Nat.le_of_ble_eq_true rfl) (Nat.le_of_ble_eq_true rfl) ?_
                exact W.iret (v := nI k) hx hb hr (fun t99 ht99 hW99 => ⟨⟨nI k, (mu (mu (mu Mw (g.1 0 0) (.inr (10, [.ref (g.1 1 0), .ref (g.1 2 0), .int (gS st 2), .int (gS st 3), .int (gS st 1), .int (gS st 0), .int 0]))) (g.1 0 0) (.inr (10, [.ref (g.1 1 0), .ref (g.1 2 0), .int (gS st 2), .int (gS st 3), .int (gS st 1), .int (gS st 0), .int 0]))) (g.1 0 0) (.inr (10, [.ref (g.1 1 0), .ref (g.1 2 0), .int (gS st 2), .int (gS st 3), .int (gS st 1), .int (gS st 0), .int 0]))), rfl, RP.ok (by unfold m_thread; first | (rw [chk_p ht9, chk_p hq_r3, chk_p hq_r4, chk_p hq9, hf9]; done) | (rw [chk_p ht9, chk_p hq_r3, chk_p hq_r4, chk_p hq9, hf9]; rfl)) (hR.th 0 h_X (fun x9 e9 hx9 h0 => ((mu_n h0).trans ((mu_n h0).trans ((mu_n h0).trans (rfl)))).trans hx9)) rfl rfl, by rw [ht99]; exact hP, hI⟩, hS.F ht99⟩) hS.2.2 dX7_thread_142
              · skip
                have hf9 : thr st (ix p0) p1 p2 = -1 := thr_eq ((thr_m2 (hV.2.1 _ ht9.2).1 hv_p1 hv_p2 hpe9 hk1 hlow9).2 hk9 (i_lt c12))
                refine lv_iconst (v := 1) hx hb dX7_thread_124 (by decide) ?_
                refine lv_goto (tgt := 129) hx hb dX7_thread_125 (by decide) ?_
                refine lv_iconst (v := 3) hx hb dX7_thread_129 (by decide) ?_
                refine m_calli (va_runV (As := [.int 1, .int 3]) (rest := []) ⟨hx, hb, hml, hown, hts⟩ (c_X7_isThrown1 l G A (mu (mu Mw (g.1 0 0) (.inr (10, [.ref (g.1 1 0), .ref (g.1 2 0), .int (gS st 2), .int (gS st 3), .int (gS st 1), .int (gS st 0), .int 0]))) (g.1 0 0) (.inr (10, [.ref (g.1 1 0), .ref (g.1 2 0), .int (gS st 2), .int (gS st 3), .int (gS st 1), .int (gS st 0), .int 0])))  3 h_X) (cwV 2 hts gX7_thread_X7_isThrown rfl rfl rfl (by decide +kernel) ⟨Nat.le_of_ble_eq_true rfl, Nat.le_of_ble_eq_true rfl⟩) (mPreV hG hS hP hI hA (hP _ _ h_X) (r := (RX7, TX7, 7)) rfl) rfl rfl hl.1 rfl (lv_room (Nat.le_of_ble_eq_true rfl)) dX7_thread_130 ⟨Nat.le_of_ble_eq_true rfl, Nat.le_of_ble_eq_true rfl⟩) hS (fun r14 Mw1 H locs hp_r14 hP hI hS => ?_)
                obtain ⟨hp_r14, hm9⟩ := hp_r14
                subst Mw1
                subst hp_r14
                have h_TL := mu_k (e := .inr (10, [.ref (g.1 1 0), .ref (g.1 2 0), .int (gS st 2), .int (gS st 3), .int (gS st 1), .int (gS st 0), .int 3])) (kd_ne h_TL h_X rfl) h_TL
                have h_IL := mu_k (e := .inr (10, [.ref (g.1 1 0), .ref (g.1 2 0), .int (gS st 2), .int (gS st 3), .int (gS st 1), .int (gS st 0), .int 3])) (kd_ne h_IL h_X rfl) h_IL
                have h_TD := mu_k (e := .inr (10, [.ref (g.1 1 0), .ref (g.1 2 0), .int (gS st 2), .int (gS st 3), .int (gS st 1), .int (gS st 0), .int 3])) (kd_ne h_TD h_X rfl) h_TD
                have h_T := mu_k (e := .inr (10, [.ref (g.1 1 0), .ref (g.1 2 0), .int (gS st 2), .int (gS st 3), .int (gS st 1), .int (gS st 0), .int 3])) (kd_ne h_T h_X rfl) h_T
                have h_B := mu_k (e := .inr (10, [.ref (g.1 1 0), .ref (g.1 2 0), .int (gS st 2), .int (gS st 3), .int (gS st 1), .int (gS st 0), .int 3])) (kd_ne h_B h_X rfl) h_B
                have h_X : (mu (mu (mu Mw (g.1 0 0) (.inr (10, [.ref (g.1 1 0), .ref (g.1 2 0), .int (gS st 2), .int (gS st 3), .int (gS st 1), .int (gS st 0), .int 0]))) (g.1 0 0) (.inr (10, [.ref (g.1 1 0), .ref (g.1 2 0), .int (gS st 2), .int (gS st 3), .int (gS st 1), .int (gS st 0), .int 0]))) (g.1 0 0) (.inr (10, [.ref (g.1 1 0), .ref (g.1 2 0), .int (gS st 2), .int (gS st 3), .int (gS st 1), .int (gS st 0), .int 3]))) (g.1 0 0) = some (.inr (10, [.ref (g.1 1 0), .ref (g.1 2 0), .int (gS st 2), .int (gS st 3), .int (gS st 1), .int (gS st 0), .int 3])) := mu_s
                refine lv_if_eq (tgt := 140) hx hb dX7_thread_133 (by decide) (fun h9 => absurd h9 (by decide)) (fun _ => ?_)
                refine lv_iconst (v := 0) hx hb dX7_thread_136 (by decide) ?_
                refine lv_goto (tgt := 142) hx hb dX7_thread_137 (by decide) ?_
                refine W.widen (k := 0) (n := 0) (Nat.le_of_ble_eq_true rfl) (Nat.le_of_ble_eq_true rfl) ?_
                exact W.iret (v := 0) hx hb hr (fun t99 ht99 hW99 => ⟨⟨0, (mu (mu (mu Mw (g.1 0 0) (.inr (10, [.ref (g.1 1 0), .ref (g.1 2 0), .int (gS st 2), .int (gS st 3), .int (gS st 1), .int (gS st 0), .int 0]))) (g.1 0 0) (.inr (10, [.ref (g.1 1 0), .ref (g.1 2 0), .int (gS st 2), .int (gS st 3), .int (gS st 1), .int (gS st 0), .int 0]))) (g.1 0 0) (.inr (10, [.ref (g.1 1 0), .ref (g.1 2 0), .int (gS st 2), .int (gS st 3), .int (gS st 1), .int (gS st 0), .int 3]))), rfl, RP.no (k := 3) (by unfold m_thread; first | (rw [chk_p ht9, chk_p hq_r3, chk_p hq_r4, chk_n (fun q9 => q9 hf9)]; done) | (rw [chk_p ht9, chk_p hq_r3, chk_p hq_r4, chk_n (fun q9 => q9 hf9)]; rfl)) (by decide) (hR.th 3 h_X (fun x9 e9 hx9 h0 => ((mu_n h0).trans ((mu_n h0).trans ((mu_n h0).trans (rfl)))).trans hx9)) rfl rfl, by rw [ht99]; exact hP, hI⟩, hS.F ht99⟩) hS.2.2 dX7_thread_142
            · skip
              have hk9 : k < 200 := Nat.lt_of_not_le (fun q => c9 (show nI 200 ≤ nI k from nI_le q (by omega)))
              refine lv_aload_n hx hb dX7_thread_75 rfl (lv_at hl 0 rfl) ?_
              refine m_get (ci := 10) (v := .ref (g.1 1 0)) (C := RX7) (T := TX7) (N := 7) hx hb hts i_X7 hown hK (hP _ _ h_X) rfl 0 (by decide) (hts (.fieldLink RX7 10 "MeniscusModel" "tubes" "Ljava/util/ArrayList;") (by decide +kernel)) (fun _ h9 => h9) rfl dX7_thread_76 ?_
              refine lv_iload_n hx hb dX7_thread_79 rfl (lv_at hl 1 rfl) ?_
              refine m_callq (va_runV (As := [.int (nI (ix p0))]) (rest := []) ⟨hx, hb, hml, hown, hts⟩ (c_Jx4a65c_get_915e3 l G A (mu (mu Mw (g.1 0 0) (.inr (10, [.ref (g.1 1 0), .ref (g.1 2 0), .int (gS st 2), .int (gS st 3), .int (gS st 1), .int (gS st 0), .int 0]))) (g.1 0 0) (.inr (10, [.ref (g.1 1 0), .ref (g.1 2 0), .int (gS st 2), .int (gS st 3), .int (gS st 1), .int (gS st 0), .int 0])))  h_TL h_TD (ix p0) (g.1 5 (ix p0)) ht9.2 hnT8 (qf_p ht9.2)) (cwV 1 hts gX7_thread_Jx4a65c_get_915e3 rfl rfl rfl (by decide +kernel) ⟨Nat.le_of_ble_eq_true rfl, Nat.le_of_ble_eq_true rfl⟩) (mPreV hG hS hP hI hA (hP _ _ h_TL) (r := (RJx4a65c, TJx4a65c, 3)) rfl) rfl rfl hl.1 rfl (lv_room (Nat.le_of_ble_eq_true rfl)) dX7_thread_80 ⟨Nat.le_of_ble_eq_true rfl, Nat.le_of_ble_eq_true rfl⟩) hS (fun r15 Mw1 H locs hp_r15 hP hI hS => ?_)
              obtain ⟨hp_r15, hm9⟩ := hp_r15
              subst Mw1
              subst hp_r15
              refine va_castE hx hb hown (hts (.classLink RX7 38 RX6) (by decide +kernel)) (va_recv hK (va_at.one (hP _ _ h_T)) (q0 := 0) (q := (RX6, TX6, 2)) rfl rfl) dX7_thread_83 ?_
              refine lv_iload hx hb dX7_thread_86 (lv_at hl 4 rfl) ?_
              refine m_calli (va_runV (As := [.int (nI k)]) (rest := []) ⟨hx, hb, hml, hown, hts⟩ (c_X6_volume l G A (mu (mu Mw (g.1 0 0) (.inr (10, [.ref (g.1 1 0), .ref (g.1 2 0), .int (gS st 2), .int (gS st 3), .int (gS st 1), .int (gS st 0), .int 0]))) (g.1 0 0) (.inr (10, [.ref (g.1 1 0), .ref (g.1 2 0), .int (gS st 2), .int (gS st 3), .int (gS st 1), .int (gS st 0), .int 0])))  k (by omega) h_T h_B) (cwV 1 hts gX7_thread_X6_volume rfl rfl rfl (by decide +kernel) ⟨Nat.le_of_ble_eq_true rfl, Nat.le_of_ble_eq_true rfl⟩) (mPreV hG hS hP hI hA (hP _ _ h_T) (r := (RX6, TX6, 2)) rfl) rfl rfl hl.1 rfl (lv_room (Nat.le_of_ble_eq_true rfl)) dX7_thread_88 ⟨Nat.le_of_ble_eq_true rfl, Nat.le_of_ble_eq_true rfl⟩) hS (fun r16 Mw1 H locs hp_r16 hP hI hS => ?_)
              obtain ⟨hp_r16, hm9⟩ := hp_r16
              subst Mw1
              subst hp_r16
              refine lv_iload hx hb dX7_thread_91 (lv_at hl 5 rfl) ?_
              refine lv_icmp_ge (tgt := 102) hx hb dX7_thread_93 (by decide) (fun c17 => ?_) (fun c17 => ?_)
              · skip
                refine lv_aload_n hx hb dX7_thread_102 rfl (lv_at hl 0 rfl) ?_
                refine lv_aload_n hx hb dX7_thread_103 rfl (lv_at hl 0 rfl) ?_
                refine m_get (ci := 10) (v := .ref (g.1 1 0)) (C := RX7) (T := TX7) (N := 7) hx hb hts i_X7 hown hK (hP _ _ h_X) rfl 0 (by decide) (hts (.fieldLink RX7 10 "MeniscusModel" "tubes" "Ljava/util/ArrayList;") (by decide +kernel)) (fun _ h9 => h9) rfl dX7_thread_104 ?_
                refine lv_iload_n hx hb dX7_thread_107 rfl (lv_at hl 1 rfl) ?_
                refine m_callq (va_runV (As := [.int (nI (ix p0))]) (rest := [.ref (g.1 0 0)]) ⟨hx, hb, hml, hown, hts⟩ (c_Jx4a65c_get_915e3 l G A (mu (mu Mw (g.1 0 0) (.inr (10, [.ref (g.1 1 0), .ref (g.1 2 0), .int (gS st 2), .int (gS st 3), .int (gS st 1), .int (gS st 0), .int 0]))) (g.1 0 0) (.inr (10, [.ref (g.1 1 0), .ref (g.1 2 0), .int (gS st 2), .int (gS st 3), .int (gS st 1), .int (gS st 0), .int 0])))  h_TL h_TD (ix p0) (g.1 5 (ix p0)) ht9.2 hnT8 (qf_p ht9.2)) (cwV 1 hts gX7_thread_Jx4a65c_get_915e3 rfl rfl rfl (by decide +kernel) ⟨Nat.le_of_ble_eq_true rfl, Nat.le_of_ble_eq_true rfl⟩) (mPreV hG hS hP hI hA (hP _ _ h_TL) (r := (RJx4a65c, TJx4a65c, 3)) rfl) rfl rfl hl.1 rfl (lv_room (Nat.le_of_ble_eq_true rfl)) dX7_thread_108 ⟨Nat.le_of_ble_eq_true rfl, Nat.le_of_ble_eq_true rfl⟩) hS (fun r18 Mw1 H locs hp_r18 hP hI hS => ?_)
                obtain ⟨hp_r18, hm9⟩ := hp_r18
                subst Mw1
                subst hp_r18
                refine va_castE hx hb hown (hts (.classLink RX7 38 RX6) (by decide +kernel)) (va_recv hK (va_at.one (hP _ _ h_T)) (q0 := 0) (q := (RX6, TX6, 2)) rfl rfl) dX7_thread_111 ?_
                refine lv_iload hx hb dX7_thread_114 (lv_at hl 4 rfl) ?_
                refine m_calli (va_runV (As := [.int (nI k)]) (rest := [.ref (g.1 0 0)]) ⟨hx, hb, hml, hown, hts⟩ (c_X6_volume l G A (mu (mu Mw (g.1 0 0) (.inr (10, [.ref (g.1 1 0), .ref (g.1 2 0), .int (gS st 2), .int (gS st 3), .int (gS st 1), .int (gS st 0), .int 0]))) (g.1 0 0) (.inr (10, [.ref (g.1 1 0), .ref (g.1 2 0), .int (gS st 2), .int (gS st 3), .int (gS st 1), .int (gS st 0), .int 0])))  k (by omega) h_T h_B) (cwV 1 hts gX7_thread_X6_volume rfl rfl rfl (by decide +kernel) ⟨Nat.le_of_ble_eq_true rfl, Nat.le_of_ble_eq_true rfl⟩) (mPreV hG hS hP hI hA (hP _ _ h_T) (r := (RX6, TX6, 2)) rfl) rfl rfl hl.1 rfl (lv_room (Nat.le_of_ble_eq_true rfl)) dX7_thread_116 ⟨Nat.le_of_ble_eq_true rfl, Nat.le_of_ble_eq_true rfl⟩) hS (fun r19 Mw1 H locs hp_r19 hP hI hS => ?_)
                obtain ⟨hp_r19, hm9⟩ := hp_r19
                subst Mw1
                subst hp_r19
                refine lv_iload hx hb dX7_thread_119 (lv_at hl 5 rfl) ?_
                refine lv_icmp_ge (tgt := 128) hx hb dX7_thread_121 (by decide) (fun c20 => ?_) (fun c20 => absurd c20 (fun q9 => q9 c17))
                have hf9 : thr st (ix p0) p1 p2 = nI k := thr_eq ((thr_m2 (hV.2.1 _ ht9.2).1 hv_p1 hv_p2 hpe9 hk1 hlow9).1 (i_nlt c17))
                have hq9 : ¬ thr st (ix p0) p1 p2 = -1 := by rw [hf9]; exact nI_nm1 (by omega)
                refine lv_iconst (v := 0) hx hb dX7_thread_128 (by decide) ?_
                refine lv_iconst (v := 3) hx hb dX7_thread_129 (by decide) ?_
                refine m_calli (va_runV (As := [.int 0, .int 3]) (rest := []) ⟨hx, hb, hml, hown, hts⟩ (c_X7_isThrown0 l G A (mu (mu Mw (g.1 0 0) (.inr (10, [.ref (g.1 1 0), .ref (g.1 2 0), .int (gS st 2), .int (gS st 3), .int (gS st 1), .int (gS st 0), .int 0]))) (g.1 0 0) (.inr (10, [.ref (g.1 1 0), .ref (g.1 2 0), .int (gS st 2), .int (gS st 3), .int (gS st 1), .int (gS st 0), .int 0])))  3 h_X) (cwV 2 hts gX7_thread_X7_isThrown rfl rfl rfl (by decide +kernel) ⟨Nat.le_of_ble_eq_true rfl, Nat.le_of_ble_eq_true rfl⟩) (mPreV hG hS hP hI hA (hP _ _ h_X) (r := (RX7, TX7, 7)) rfl) rfl rfl hl.1 rfl (lv_room (Nat.le_of_ble_eq_true rfl)) dX7_thread_130 ⟨Nat.le_of_ble_eq_true rfl, Nat.le_of_ble_eq_true rfl⟩) hS (fun r21 Mw1 H locs hp_r21 hP hI hS => ?_)
                obtain ⟨hp_r21, hm9⟩ := hp_r21
                subst Mw1
                subst hp_r21
                have h_TL := mu_k (e := .inr (10, [.ref (g.1 1 0), .ref (g.1 2 0), .int (gS st 2), .int (gS st 3), .int (gS st 1), .int (gS st 0), .int 0])) (kd_ne h_TL h_X rfl) h_TL
                have h_IL := mu_k (e := .inr (10, [.ref (g.1 1 0), .ref (g.1 2 0), .int (gS st 2), .int (gS st 3), .int (gS st 1), .int (gS st 0), .int 0])) (kd_ne h_IL h_X rfl) h_IL
                have h_TD := mu_k (e := .inr (10, [.ref (g.1 1 0), .ref (g.1 2 0), .int (gS st 2), .int (gS st 3), .int (gS st 1), .int (gS st 0), .int 0])) (kd_ne h_TD h_X rfl) h_TD
                have h_T := mu_k (e := .inr (10, [.ref (g.1 1 0), .ref (g.1 2 0), .int (gS st 2), .int (gS st 3), .int (gS st 1), .int (gS st 0), .int 0])) (kd_ne h_T h_X rfl) h_T
                have h_B := mu_k (e := .inr (10, [.ref (g.1 1 0), .ref (g.1 2 0), .int (gS st 2), .int (gS st 3), .int (gS st 1), .int (gS st 0), .int 0])) (kd_ne h_B h_X rfl) h_B
                have h_X : (mu (mu (mu Mw (g.1 0 0) (.inr (10, [.ref (g.1 1 0), .ref (g.1 2 0), .int (gS st 2), .int (gS st 3), .int (gS st 1), .int (gS st 0), .int 0]))) (g.1 0 0) (.inr (10, [.ref (g.1 1 0), .ref (g.1 2 0), .int (gS st 2), .int (gS st 3), .int (gS st 1), .int (gS st 0), .int 0]))) (g.1 0 0) (.inr (10, [.ref (g.1 1 0), .ref (g.1 2 0), .int (gS st 2), .int (gS st 3), .int (gS st 1), .int (gS st 0), .int 0]))) (g.1 0 0) = some (.inr (10, [.ref (g.1 1 0), .ref (g.1 2 0), .int (gS st 2), .int (gS st 3), .int (gS st 1), .int (gS st 0), .int 0])) := mu_s
                refine lv_if_eq (tgt := 140) hx hb dX7_thread_133 (by decide) (fun _ => ?_) (fun h9 => absurd h9 (by decide))
                refine lv_iload hx hb dX7_thread_140 (lv_at hl 4 rfl) ?_
                refine W.widen (k := 0) (n := 0) (Nat.le_of_ble_eq_true rfl) (Nat.le_of_ble_eq_true rfl) ?_
                exact W.iret (v := nI k) hx hb hr (fun t99 ht99 hW99 => ⟨⟨nI k, (mu (mu (mu Mw (g.1 0 0) (.inr (10, [.ref (g.1 1 0), .ref (g.1 2 0), .int (gS st 2), .int (gS st 3), .int (gS st 1), .int (gS st 0), .int 0]))) (g.1 0 0) (.inr (10, [.ref (g.1 1 0), .ref (g.1 2 0), .int (gS st 2), .int (gS st 3), .int (gS st 1), .int (gS st 0), .int 0]))) (g.1 0 0) (.inr (10, [.ref (g.1 1 0), .ref (g.1 2 0), .int (gS st 2), .int (gS st 3), .int (gS st 1), .int (gS st 0), .int 0]))), rfl, RP.ok (by unfold m_thread; first | (rw [chk_p ht9, chk_p hq_r3, chk_p hq_r4, chk_p hq9, hf9]; done) | (rw [chk_p ht9, chk_p hq_r3, chk_p hq_r4, chk_p hq9, hf9]; rfl)) (hR.th 0 h_X (fun x9 e9 hx9 h0 => ((mu_n h0).trans ((mu_n h0).trans ((mu_n h0).trans (rfl)))).trans hx9)) rfl rfl, by rw [ht99]; exact hP, hI⟩, hS.F ht99⟩) hS.2.2 dX7_thread_142
              · skip
                refine lv_iinc (v := (nI k) + 1) (lv' := [(4, .int ((nI k) + 1)), (0, .ref (g.1 0 0)), (1, .int (nI (ix p0))), (2, .int (nI (ix p1))), (3, .int p2), (5, .int (vsum (boS st (ix p0)) p1 20 + p2))]) hx hb dX7_thread_96 hl (k := 4) rfl rfl (by decide) rfl (fun ls hl => ?_)
                refine lv_goto (tgt := 67) hx hb dX7_thread_99 (by decide) ?_
                have e_4 : (nI k) + 1 = nI (k + 1) := nI_1 k
                rw [e_4] at hl
                exact ih_loop (k + 1) (Nat.le_succ_of_le hpe9) (fun j9 hj8 hj7 => by rcases Nat.lt_or_ge j9 k with q9 | q9; exact hlow9 j9 hj8 q9; rw [show j9 = k by omega]; exact i_lt c17) (by omega) (by omega) H locs ls hP hI hS (lv_sub hl [1, 2, 3, 4, 0, 5] rfl)
        exact loop (200 + 1 - (ix p1)) (ix p1) (Nat.le_refl _) (fun j9 hj8 hj7 => absurd hj7 (by omega)) (by omega) (by omega) _ _ _ hP hI hS (lv_sub hl [2, 3, 4, 5, 1, 0] rfl)
    · subst hr9
      refine lv_if_ne (tgt := 31) hx hb dX7_thread_18 (by decide) (fun _ => ?_) (fun h9 => absurd h9 (by decide))
      refine lv_iconst (v := 1) hx hb dX7_thread_31 (by decide) ?_
      refine lv_goto (tgt := 36) hx hb dX7_thread_32 (by decide) ?_
      refine lv_iconst (v := 2) hx hb dX7_thread_36 (by decide) ?_
      refine m_calli (va_runV (As := [.int 1, .int 2]) (rest := []) ⟨hx, hb, hml, hown, hts⟩ (c_X7_isThrown1 l G A (mu Mw (g.1 0 0) (.inr (10, [.ref (g.1 1 0), .ref (g.1 2 0), .int (gS st 2), .int (gS st 3), .int (gS st 1), .int (gS st 0), .int 0])))  2 h_X) (cwV 2 hts gX7_thread_X7_isThrown rfl rfl rfl (by decide +kernel) ⟨Nat.le_of_ble_eq_true rfl, Nat.le_of_ble_eq_true rfl⟩) (mPreV hG hS hP hI hA (hP _ _ h_X) (r := (RX7, TX7, 7)) rfl) rfl rfl hl.1 rfl (lv_room (Nat.le_of_ble_eq_true rfl)) dX7_thread_37 ⟨Nat.le_of_ble_eq_true rfl, Nat.le_of_ble_eq_true rfl⟩) hS (fun r22 Mw1 H locs hp_r22 hP hI hS => ?_)
      obtain ⟨hp_r22, hm9⟩ := hp_r22
      subst Mw1
      subst hp_r22
      have h_TL := mu_k (e := .inr (10, [.ref (g.1 1 0), .ref (g.1 2 0), .int (gS st 2), .int (gS st 3), .int (gS st 1), .int (gS st 0), .int 2])) (kd_ne h_TL h_X rfl) h_TL
      have h_IL := mu_k (e := .inr (10, [.ref (g.1 1 0), .ref (g.1 2 0), .int (gS st 2), .int (gS st 3), .int (gS st 1), .int (gS st 0), .int 2])) (kd_ne h_IL h_X rfl) h_IL
      have h_TD := mu_k (e := .inr (10, [.ref (g.1 1 0), .ref (g.1 2 0), .int (gS st 2), .int (gS st 3), .int (gS st 1), .int (gS st 0), .int 2])) (kd_ne h_TD h_X rfl) h_TD
      have h_T := mu_k (e := .inr (10, [.ref (g.1 1 0), .ref (g.1 2 0), .int (gS st 2), .int (gS st 3), .int (gS st 1), .int (gS st 0), .int 2])) (kd_ne h_T h_X rfl) h_T
      have h_B := mu_k (e := .inr (10, [.ref (g.1 1 0), .ref (g.1 2 0), .int (gS st 2), .int (gS st 3), .int (gS st 1), .int (gS st 0), .int 2])) (kd_ne h_B h_X rfl) h_B
      have h_X : (mu (mu Mw (g.1 0 0) (.inr (10, [.ref (g.1 1 0), .ref (g.1 2 0), .int (gS st 2), .int (gS st 3), .int (gS st 1), .int (gS st 0), .int 0]))) (g.1 0 0) (.inr (10, [.ref (g.1 1 0), .ref (g.1 2 0), .int (gS st 2), .int (gS st 3), .int (gS st 1), .int (gS st 0), .int 2]))) (g.1 0 0) = some (.inr (10, [.ref (g.1 1 0), .ref (g.1 2 0), .int (gS st 2), .int (gS st 3), .int (gS st 1), .int (gS st 0), .int 2])) := mu_s
      refine lv_if_eq (tgt := 45) hx hb dX7_thread_40 (by decide) (fun h9 => absurd h9 (by decide)) (fun _ => ?_)
      refine lv_iconst (v := 0) hx hb dX7_thread_43 (by decide) ?_
      refine W.widen (k := 0) (n := 0) (Nat.le_of_ble_eq_true rfl) (Nat.le_of_ble_eq_true rfl) ?_
      exact W.iret (v := 0) hx hb hr (fun t99 ht99 hW99 => ⟨⟨0, (mu (mu Mw (g.1 0 0) (.inr (10, [.ref (g.1 1 0), .ref (g.1 2 0), .int (gS st 2), .int (gS st 3), .int (gS st 1), .int (gS st 0), .int 0]))) (g.1 0 0) (.inr (10, [.ref (g.1 1 0), .ref (g.1 2 0), .int (gS st 2), .int (gS st 3), .int (gS st 1), .int (gS st 0), .int 2]))), rfl, RP.no (k := 2) (by unfold m_thread; first | (rw [chk_p ht9, chk_n hq_r3]; done) | (rw [chk_p ht9, chk_n hq_r3]; rfl)) (by decide) (hR.th 2 h_X (fun x9 e9 hx9 h0 => ((mu_n h0).trans ((mu_n h0).trans (rfl))).trans hx9)) rfl rfl, by rw [ht99]; exact hP, hI⟩, hS.F ht99⟩) hS.2.2 dX7_thread_44
  · subst hr9
    refine lv_iconst (v := 1) hx hb dX7_thread_6 (by decide) ?_
    refine m_calli (va_runV (As := [.int 1, .int 1]) (rest := []) ⟨hx, hb, hml, hown, hts⟩ (c_X7_isThrown1 l G A Mw  1 h_X) (cwV 2 hts gX7_thread_X7_isThrown rfl rfl rfl (by decide +kernel) ⟨Nat.le_of_ble_eq_true rfl, Nat.le_of_ble_eq_true rfl⟩) (mPreV hG hS hP hI hA (hP _ _ h_X) (r := (RX7, TX7, 7)) rfl) rfl rfl hl.1 rfl (lv_room (Nat.le_of_ble_eq_true rfl)) dX7_thread_7 ⟨Nat.le_of_ble_eq_true rfl, Nat.le_of_ble_eq_true rfl⟩) hS (fun r23 Mw1 H locs hp_r23 hP hI hS => ?_)
    obtain ⟨hp_r23, hm9⟩ := hp_r23
    subst Mw1
    subst hp_r23
    have h_TL := mu_k (e := .inr (10, [.ref (g.1 1 0), .ref (g.1 2 0), .int (gS st 2), .int (gS st 3), .int (gS st 1), .int (gS st 0), .int 1])) (kd_ne h_TL h_X rfl) h_TL
    have h_IL := mu_k (e := .inr (10, [.ref (g.1 1 0), .ref (g.1 2 0), .int (gS st 2), .int (gS st 3), .int (gS st 1), .int (gS st 0), .int 1])) (kd_ne h_IL h_X rfl) h_IL
    have h_X : (mu Mw (g.1 0 0) (.inr (10, [.ref (g.1 1 0), .ref (g.1 2 0), .int (gS st 2), .int (gS st 3), .int (gS st 1), .int (gS st 0), .int 1]))) (g.1 0 0) = some (.inr (10, [.ref (g.1 1 0), .ref (g.1 2 0), .int (gS st 2), .int (gS st 3), .int (gS st 1), .int (gS st 0), .int 1])) := mu_s
    refine lv_if_ne (tgt := 43) hx hb dX7_thread_10 (by decide) (fun _ => ?_) (fun h9 => absurd h9 (by decide))
    refine lv_iconst (v := 0) hx hb dX7_thread_43 (by decide) ?_
    refine W.widen (k := 0) (n := 0) (Nat.le_of_ble_eq_true rfl) (Nat.le_of_ble_eq_true rfl) ?_
    exact W.iret (v := 0) hx hb hr (fun t99 ht99 hW99 => ⟨⟨0, (mu Mw (g.1 0 0) (.inr (10, [.ref (g.1 1 0), .ref (g.1 2 0), .int (gS st 2), .int (gS st 3), .int (gS st 1), .int (gS st 0), .int 1]))), rfl, RP.no (k := 1) (by unfold m_thread; first | (rw [chk_n hq_r1]; done) | (rw [chk_n hq_r1]; rfl)) (by decide) (hR.th 1 h_X (fun x9 e9 hx9 h0 => ((mu_n h0).trans (rfl)).trans hx9)) rfl rfl, by rw [ht99]; exact hP, hI⟩, hS.F ht99⟩) hS.2.2 dX7_thread_44

set_option maxHeartbeats 4000000 in
set_option maxRecDepth 100000 in
theorem c_X7_widest (l : Launch) (G : mg) (A : Nat → Prop) (Mw : mw) (st : St) (g : gR) (p0 : Int32) (hR : RS G st g Mw) (hV : Inv st) : Met l yX7_widest wsX7_widest ({ frames := 3, cells := 0, slots := 0, locals := 64 }) (va_Pc [.ref (g.1 0 0), .int p0] (mB G A Mw)) (va_Qi (fun r Mw1 => RP G (m_widest st p0) g r Mw1) (mE G A) A) 0 0 A := by
  refine Met.ofW (cc := cX7_widest) (maxL := 4) (ret := (some .int)) (by decide) rfl ?_
  intro p e s m args below meth c s₁ B hml hv
  obtain ⟨rfl, hG, hP, hI, hA⟩ := hv
  have hx := B.exec
  have hb := B.bytes
  have hr := B.returns
  have hts := atoms_spec (ws := wsX7_widest) B.pre
  have hown : s.vm.findClass RX7 = some m.cls := findClass_of_methodNamed B.named
  have hlocks := B.notSynchronized
  have hK := hG.K
  have i_X6 : ∀ w ∈ wsX60, w ∈ wsX7_widest := by decide +kernel
  have i_X7 : ∀ w ∈ wsX70, w ∈ wsX7_widest := by decide +kernel
  have hS : va_S A s.heap s.heap [] := va_S.rf
  have hl := lv_entry ([.ref (g.1 0 0), .int p0]) (n := 4) (Nat.le_of_ble_eq_true rfl)
  rw [lg_entry_eq]
  generalize (lg_sl ([.ref (g.1 0 0), .int p0]) ++ List.replicate (4 - (lg_sl ([.ref (g.1 0 0), .int p0])).length) Slot.unset).toArray = ls at hl ⊢
  have hl : lv_has ls 4 [(0, .ref (g.1 0 0)), (1, .int p0)] := hl
  have hP : mP G.1 Mw s.heap := hP
  have h_X : Mw (g.1 0 0) = some (.inr (10, [.ref (g.1 1 0), .ref (g.1 2 0), .int (gS st 2), .int (gS st 3), .int (gS st 1), .int (gS st 0), .int (thR g)])) := hR.1 0 0 ro0
  have h_TL : Mw (g.1 1 0) = some (.inr (2, [.int (mcR g 1 0), .ref (g.1 3 0), .int ((nI (nT st)))])) := hR.1 1 0 ro1
  have h_IL : Mw (g.1 2 0) = some (.inr (2, [.int (mcR g 2 0), .ref (g.1 4 0), .int ((nI (nN st)))])) := hR.1 2 0 ro2
  have hti9 := hR.ne ro1 ro2 (by omega)
  have hnT8 := hV.1.1
  have hnN8 := Nat.le_trans hV.1.2 (show 6 ≤ 8 by decide)
  refine lv_aload_n hx hb dX7_widest_0 rfl (lv_at hl 0 rfl) ?_
  refine lv_aload_n hx hb dX7_widest_1 rfl (lv_at hl 0 rfl) ?_
  refine lv_iload_n hx hb dX7_widest_2 rfl (lv_at hl 1 rfl) ?_
  refine m_calli (va_runV (As := [.int p0]) (rest := [.ref (g.1 0 0)]) ⟨hx, hb, hml, hown, hts⟩ (c_X7_isNoTube l G A Mw  p0 h_X h_TL hnT8) (cwV 1 hts gX7_widest_X7_isNoTube rfl rfl rfl (by decide +kernel) ⟨Nat.le_of_ble_eq_true rfl, Nat.le_of_ble_eq_true rfl⟩) (mPreV hG hS hP hI hA (hP _ _ h_X) (r := (RX7, TX7, 7)) rfl) rfl rfl hl.1 rfl (lv_room (Nat.le_of_ble_eq_true rfl)) dX7_widest_3 ⟨Nat.le_of_ble_eq_true rfl, Nat.le_of_ble_eq_true rfl⟩) hS (fun r1 Mw1 H locs hp_r1 hP hI hS => ?_)
  obtain ⟨hb9, hm9⟩ := hp_r1
  subst Mw1
  rcases hb9 with ⟨hr9, hq_r1⟩ | ⟨hr9, hq_r1⟩
  · subst hr9
    have ht9 := hq_r1
    have e_p0 : p0 = nI (ix p0) := nI_cl ht9.1
    rw [e_p0] at hl
    have hf3 := hR.f3 ht9.2
    have h_TD : Mw (g.1 3 0) = some (.inl (G.2.1 5, 10, .inr (.inr (.inr (.inr (qf (nT st) (g.1 5))))))) := hR.1 3 0 (ro3 hf3)
    have h_T : Mw (g.1 5 (ix p0)) = some (.inr (9, [.ref (g.1 6 (ix p0)), .int (usS st (ix p0))])) := hR.1 5 _ (ro5 ht9.2)
    have h_B : Mw (g.1 6 (ix p0)) = some (.inl (G.2.1 0, 20, .inl (boS st (ix p0)))) := hR.1 6 _ (ro6 ht9.2)
    refine lv_iconst (v := 1) hx hb dX7_widest_6 (by decide) ?_
    refine m_calli (va_runV (As := [.int 0, .int 1]) (rest := []) ⟨hx, hb, hml, hown, hts⟩ (c_X7_isThrown0 l G A Mw  1 h_X) (cwV 2 hts gX7_widest_X7_isThrown rfl rfl rfl (by decide +kernel) ⟨Nat.le_of_ble_eq_true rfl, Nat.le_of_ble_eq_true rfl⟩) (mPreV hG hS hP hI hA (hP _ _ h_X) (r := (RX7, TX7, 7)) rfl) rfl rfl hl.1 rfl (lv_room (Nat.le_of_ble_eq_true rfl)) dX7_widest_7 ⟨Nat.le_of_ble_eq_true rfl, Nat.le_of_ble_eq_true rfl⟩) hS (fun r2 Mw1 H locs hp_r2 hP hI hS => ?_)
    obtain ⟨hp_r2, hm9⟩ := hp_r2
    subst Mw1
    subst hp_r2
    have h_TL := mu_k (e := .inr (10, [.ref (g.1 1 0), .ref (g.1 2 0), .int (gS st 2), .int (gS st 3), .int (gS st 1), .int (gS st 0), .int 0])) (kd_ne h_TL h_X rfl) h_TL
    have h_IL := mu_k (e := .inr (10, [.ref (g.1 1 0), .ref (g.1 2 0), .int (gS st 2), .int (gS st 3), .int (gS st 1), .int (gS st 0), .int 0])) (kd_ne h_IL h_X rfl) h_IL
    have h_TD := mu_k (e := .inr (10, [.ref (g.1 1 0), .ref (g.1 2 0), .int (gS st 2), .int (gS st 3), .int (gS st 1), .int (gS st 0), .int 0])) (kd_ne h_TD h_X rfl) h_TD
    have h_T := mu_k (e := .inr (10, [.ref (g.1 1 0), .ref (g.1 2 0), .int (gS st 2), .int (gS st 3), .int (gS st 1), .int (gS st 0), .int 0])) (kd_ne h_T h_X rfl) h_T
    have h_B := mu_k (e := .inr (10, [.ref (g.1 1 0), .ref (g.1 2 0), .int (gS st 2), .int (gS st 3), .int (gS st 1), .int (gS st 0), .int 0])) (kd_ne h_B h_X rfl) h_B
    have h_X : (mu Mw (g.1 0 0) (.inr (10, [.ref (g.1 1 0), .ref (g.1 2 0), .int (gS st 2), .int (gS st 3), .int (gS st 1), .int (gS st 0), .int 0]))) (g.1 0 0) = some (.inr (10, [.ref (g.1 1 0), .ref (g.1 2 0), .int (gS st 2), .int (gS st 3), .int (gS st 1), .int (gS st 0), .int 0])) := mu_s
    refine lv_if_eq (tgt := 15) hx hb dX7_widest_10 (by decide) (fun _ => ?_) (fun h9 => absurd h9 (by decide))
    refine lv_iconst (v := 0) hx hb dX7_widest_15 (by decide) ?_
    refine lv_istore_n (lv' := [(2, .int 0), (0, .ref (g.1 0 0)), (1, .int (nI (ix p0)))]) hx hb dX7_widest_16 rfl hl (by decide) rfl (fun ls hl => ?_)
    refine lv_iconst (v := 1) hx hb dX7_widest_17 (by decide) ?_
    refine lv_istore_n (lv' := [(3, .int 1), (2, .int 0), (0, .ref (g.1 0 0)), (1, .int (nI (ix p0)))]) hx hb dX7_widest_18 rfl hl (by decide) rfl (fun ls hl => ?_)
    have loop : ∀ (n k : Nat), k ≤ 20 → k + n = 20 + 1 → ∀ (H : Heap) (locs : List Loc) (ls : Array Slot), mP G.1 (mu Mw (g.1 0 0) (.inr (10, [.ref (g.1 1 0), .ref (g.1 2 0), .int (gS st 2), .int (gS st 3), .int (gS st 1), .int (gS st 0), .int 0]))) H → mI A (mu Mw (g.1 0 0) (.inr (10, [.ref (g.1 1 0), .ref (g.1 2 0), .int (gS st 2), .int (gS st 3), .int (gS st 1), .int (gS st 0), .int 0]))) → va_S A s.heap H locs → lv_has ls 4 [(0, .ref (g.1 0 0)), (1, .int (nI (ix p0))), (2, .int (wid (boS st (ix p0)) k)), (3, .int (nI k))] → W p l e ({ frames := 3, cells := 0, slots := 0, locals := 64 }) s m ([.ref (g.1 0 0), .int p0] : List Value).toArray below meth c H locs 0 0 (MQ below (va_Qi (fun r Mw1 => RP G (m_widest st p0) g r Mw1) (mE G A) A) ([.ref (g.1 0 0), .int p0] : List Value).toArray s 0 0 A) (F0 m 19 ls []) := by
      intro n
      induction n with
      | zero => intro k hk1 hk2; omega
      | succ n ih_loop =>
        intro k hk1 hk2 H locs ls hP hI hS hl
        obtain ⟨j9, hj9, hw9⟩ := wid_r (boS st (ix p0)) k (by omega)
        refine lv_iload_n hx hb dX7_widest_19 rfl (lv_at hl 3 rfl) ?_
        refine lv_bipush (v := (20)) hx hb dX7_widest_20 (by decide) ?_
        refine lv_icmp_ge (tgt := 72) hx hb dX7_widest_22 (by decide) (fun c3 => ?_) (fun c3 => ?_)
        · skip
          have hk9 : k = 20 := by have h8 : 20 ≤ k := Nat.le_of_not_lt (fun q => absurd c3 (i_nle (show nI k < nI 20 from nI_lt q (by omega)))); omega
          refine lv_iload_n hx hb dX7_widest_72 rfl (lv_at hl 2 rfl) ?_
          refine W.widen (k := 0) (n := 0) (Nat.le_of_ble_eq_true rfl) (Nat.le_of_ble_eq_true rfl) ?_
          exact W.iret (v := wid (boS st (ix p0)) k) hx hb hr (fun t99 ht99 hW99 => ⟨⟨wid (boS st (ix p0)) k, (mu Mw (g.1 0 0) (.inr (10, [.ref (g.1 1 0), .ref (g.1 2 0), .int (gS st 2), .int (gS st 3), .int (gS st 1), .int (gS st 0), .int 0]))), rfl, RP.ok (by unfold m_widest; first | (rw [chk_p ht9, hk9]; done) | (rw [chk_p ht9, hk9]; rfl)) (hR.th 0 h_X (fun x9 e9 hx9 h0 => ((mu_n h0).trans (rfl)).trans hx9)) rfl rfl, by rw [ht99]; exact hP, hI⟩, hS.F ht99⟩) hS.2.2 dX7_widest_73
        · skip
          have hk9 : k < 20 := Nat.lt_of_not_le (fun q => c3 (show nI 20 ≤ nI k from nI_le q (by omega)))
          refine lv_aload_n hx hb dX7_widest_25 rfl (lv_at hl 0 rfl) ?_
          refine m_get (ci := 10) (v := .ref (g.1 1 0)) (C := RX7) (T := TX7) (N := 7) hx hb hts i_X7 hown hK (hP _ _ h_X) rfl 0 (by decide) (hts (.fieldLink RX7 10 "MeniscusModel" "tubes" "Ljava/util/ArrayList;") (by decide +kernel)) (fun _ h9 => h9) rfl dX7_widest_26 ?_
          refine lv_iload_n hx hb dX7_widest_29 rfl (lv_at hl 1 rfl) ?_
          refine m_callq (va_runV (As := [.int (nI (ix p0))]) (rest := []) ⟨hx, hb, hml, hown, hts⟩ (c_Jx4a65c_get_915e3 l G A (mu Mw (g.1 0 0) (.inr (10, [.ref (g.1 1 0), .ref (g.1 2 0), .int (gS st 2), .int (gS st 3), .int (gS st 1), .int (gS st 0), .int 0])))  h_TL h_TD (ix p0) (g.1 5 (ix p0)) ht9.2 hnT8 (qf_p ht9.2)) (cwV 1 hts gX7_widest_Jx4a65c_get_915e3 rfl rfl rfl (by decide +kernel) ⟨Nat.le_of_ble_eq_true rfl, Nat.le_of_ble_eq_true rfl⟩) (mPreV hG hS hP hI hA (hP _ _ h_TL) (r := (RJx4a65c, TJx4a65c, 3)) rfl) rfl rfl hl.1 rfl (lv_room (Nat.le_of_ble_eq_true rfl)) dX7_widest_30 ⟨Nat.le_of_ble_eq_true rfl, Nat.le_of_ble_eq_true rfl⟩) hS (fun r4 Mw1 H locs hp_r4 hP hI hS => ?_)
          obtain ⟨hp_r4, hm9⟩ := hp_r4
          subst Mw1
          subst hp_r4
          refine va_castE hx hb hown (hts (.classLink RX7 38 RX6) (by decide +kernel)) (va_recv hK (va_at.one (hP _ _ h_T)) (q0 := 0) (q := (RX6, TX6, 2)) rfl rfl) dX7_widest_33 ?_
          refine m_getN (ci := 9) (v := .ref (g.1 6 (ix p0))) (C := RX6) (T := TX6) (N := 2) hx hb hts i_X6 hown hK (hP _ _ h_T) rfl 0 (by decide) (va_Nw.use rfl (hG.2.1.2.1 ("MeniscusModel", 41, "MeniscusModel$Tube", "bores", "[I", "MeniscusModel") (by decide +kernel))) (fun _ h9 => h9) rfl dX7_widest_36 ?_
          refine lv_iload_n hx hb dX7_widest_39 rfl (lv_at hl 3 rfl) ?_
          refine m_iald hx hb hK 0 (hP _ _ h_B) rfl (vp_in_nI (by omega) (by omega)) dX7_widest_40 ?_
          rw [nI_clamp (show k < 2 ^ 31 by omega)]
          refine lv_aload_n hx hb dX7_widest_41 rfl (lv_at hl 0 rfl) ?_
          refine m_get (ci := 10) (v := .ref (g.1 1 0)) (C := RX7) (T := TX7) (N := 7) hx hb hts i_X7 hown hK (hP _ _ h_X) rfl 0 (by decide) (hts (.fieldLink RX7 10 "MeniscusModel" "tubes" "Ljava/util/ArrayList;") (by decide +kernel)) (fun _ h9 => h9) rfl dX7_widest_42 ?_
          refine lv_iload_n hx hb dX7_widest_45 rfl (lv_at hl 1 rfl) ?_
          refine m_callq (va_runV (As := [.int (nI (ix p0))]) (rest := [.int (boS st (ix p0) k)]) ⟨hx, hb, hml, hown, hts⟩ (c_Jx4a65c_get_915e3 l G A (mu Mw (g.1 0 0) (.inr (10, [.ref (g.1 1 0), .ref (g.1 2 0), .int (gS st 2), .int (gS st 3), .int (gS st 1), .int (gS st 0), .int 0])))  h_TL h_TD (ix p0) (g.1 5 (ix p0)) ht9.2 hnT8 (qf_p ht9.2)) (cwV 1 hts gX7_widest_Jx4a65c_get_915e3 rfl rfl rfl (by decide +kernel) ⟨Nat.le_of_ble_eq_true rfl, Nat.le_of_ble_eq_true rfl⟩) (mPreV hG hS hP hI hA (hP _ _ h_TL) (r := (RJx4a65c, TJx4a65c, 3)) rfl) rfl rfl hl.1 rfl (lv_room (Nat.le_of_ble_eq_true rfl)) dX7_widest_46 ⟨Nat.le_of_ble_eq_true rfl, Nat.le_of_ble_eq_true rfl⟩) hS (fun r5 Mw1 H locs hp_r5 hP hI hS => ?_)
          obtain ⟨hp_r5, hm9⟩ := hp_r5
          subst Mw1
          subst hp_r5
          refine va_castE hx hb hown (hts (.classLink RX7 38 RX6) (by decide +kernel)) (va_recv hK (va_at.one (hP _ _ h_T)) (q0 := 0) (q := (RX6, TX6, 2)) rfl rfl) dX7_widest_49 ?_
          refine m_getN (ci := 9) (v := .ref (g.1 6 (ix p0))) (C := RX6) (T := TX6) (N := 2) hx hb hts i_X6 hown hK (hP _ _ h_T) rfl 0 (by decide) (va_Nw.use rfl (hG.2.1.2.1 ("MeniscusModel", 41, "MeniscusModel$Tube", "bores", "[I", "MeniscusModel") (by decide +kernel))) (fun _ h9 => h9) rfl dX7_widest_52 ?_
          refine lv_iload_n hx hb dX7_widest_55 rfl (lv_at hl 2 rfl) ?_
          rw [hw9]
          refine m_iald hx hb hK 0 (hP _ _ h_B) rfl (vp_in_nI (by omega) (by omega)) dX7_widest_56 ?_
          rw [nI_clamp (show j9 < 2 ^ 31 by omega)]
          refine lv_icmp_le (tgt := 64) hx hb dX7_widest_57 (by decide) (fun c6 => ?_) (fun c6 => ?_)
          · skip
            refine lv_iload_n hx hb dX7_widest_64 rfl (lv_at hl 2 rfl) ?_
            refine lv_istore_n (lv' := [(2, .int (wid (boS st (ix p0)) k)), (0, .ref (g.1 0 0)), (1, .int (nI (ix p0))), (3, .int (nI k))]) hx hb dX7_widest_65 rfl hl (by decide) rfl (fun ls hl => ?_)
            refine lv_iinc (v := (nI k) + 1) (lv' := [(3, .int ((nI k) + 1)), (2, .int (wid (boS st (ix p0)) k)), (0, .ref (g.1 0 0)), (1, .int (nI (ix p0)))]) hx hb dX7_widest_66 hl (k := 3) rfl rfl (by decide) rfl (fun ls hl => ?_)
            refine lv_goto (tgt := 19) hx hb dX7_widest_69 (by decide) ?_
            have e_3 : (nI k) + 1 = nI (k + 1) := nI_1 k
            rw [e_3] at hl
            have e_2 : wid (boS st (ix p0)) k = wid (boS st (ix p0)) (k + 1) := (if_neg (by rw [hw9, brO_i _ hj9]; exact i_nlt c6)).symm
            rw [e_2] at hl
            exact ih_loop (k + 1) (by omega) (by omega) H locs ls hP hI hS (lv_sub hl [2, 3, 1, 0] rfl)
          · skip
            refine lv_iload_n hx hb dX7_widest_60 rfl (lv_at hl 3 rfl) ?_
            refine lv_goto (tgt := 65) hx hb dX7_widest_61 (by decide) ?_
            refine lv_istore_n (lv' := [(2, .int (nI k)), (0, .ref (g.1 0 0)), (1, .int (nI (ix p0))), (3, .int (nI k))]) hx hb dX7_widest_65 rfl hl (by decide) rfl (fun ls hl => ?_)
            refine lv_iinc (v := (nI k) + 1) (lv' := [(3, .int ((nI k) + 1)), (2, .int (nI k)), (0, .ref (g.1 0 0)), (1, .int (nI (ix p0)))]) hx hb dX7_widest_66 hl (k := 3) rfl rfl (by decide) rfl (fun ls hl => ?_)
            refine lv_goto (tgt := 19) hx hb dX7_widest_69 (by decide) ?_
            have e_3 : (nI k) + 1 = nI (k + 1) := nI_1 k
            rw [e_3] at hl
            have e_2 : nI k = wid (boS st (ix p0)) (k + 1) := (if_pos (by rw [hw9, brO_i _ hj9]; exact i_lt c6)).symm
            rw [e_2] at hl
            exact ih_loop (k + 1) (by omega) (by omega) H locs ls hP hI hS (lv_sub hl [2, 3, 1, 0] rfl)
    have e0_2 : (0 : Int32) = wid (boS st (ix p0)) 1 := wid_1 _
    rw [show lv_has ls 4 [(3, .int 1), (2, .int 0), (0, .ref (g.1 0 0)), (1, .int (nI (ix p0)))] = lv_has ls 4 [(3, .int 1), (2, .int (wid (boS st (ix p0)) 1)), (0, .ref (g.1 0 0)), (1, .int (nI (ix p0)))] from by rw [← e0_2]] at hl
    exact loop (20 + 1 - 1) 1 (by omega) (by omega) _ _ _ hP hI hS (lv_sub hl [2, 3, 1, 0] rfl)
  · subst hr9
    refine lv_iconst (v := 1) hx hb dX7_widest_6 (by decide) ?_
    refine m_calli (va_runV (As := [.int 1, .int 1]) (rest := []) ⟨hx, hb, hml, hown, hts⟩ (c_X7_isThrown1 l G A Mw  1 h_X) (cwV 2 hts gX7_widest_X7_isThrown rfl rfl rfl (by decide +kernel) ⟨Nat.le_of_ble_eq_true rfl, Nat.le_of_ble_eq_true rfl⟩) (mPreV hG hS hP hI hA (hP _ _ h_X) (r := (RX7, TX7, 7)) rfl) rfl rfl hl.1 rfl (lv_room (Nat.le_of_ble_eq_true rfl)) dX7_widest_7 ⟨Nat.le_of_ble_eq_true rfl, Nat.le_of_ble_eq_true rfl⟩) hS (fun r7 Mw1 H locs hp_r7 hP hI hS => ?_)
    obtain ⟨hp_r7, hm9⟩ := hp_r7
    subst Mw1
    subst hp_r7
    have h_TL := mu_k (e := .inr (10, [.ref (g.1 1 0), .ref (g.1 2 0), .int (gS st 2), .int (gS st 3), .int (gS st 1), .int (gS st 0), .int 1])) (kd_ne h_TL h_X rfl) h_TL
    have h_IL := mu_k (e := .inr (10, [.ref (g.1 1 0), .ref (g.1 2 0), .int (gS st 2), .int (gS st 3), .int (gS st 1), .int (gS st 0), .int 1])) (kd_ne h_IL h_X rfl) h_IL
    have h_X : (mu Mw (g.1 0 0) (.inr (10, [.ref (g.1 1 0), .ref (g.1 2 0), .int (gS st 2), .int (gS st 3), .int (gS st 1), .int (gS st 0), .int 1]))) (g.1 0 0) = some (.inr (10, [.ref (g.1 1 0), .ref (g.1 2 0), .int (gS st 2), .int (gS st 3), .int (gS st 1), .int (gS st 0), .int 1])) := mu_s
    refine lv_if_eq (tgt := 15) hx hb dX7_widest_10 (by decide) (fun h9 => absurd h9 (by decide)) (fun _ => ?_)
    refine lv_iconst (v := 0) hx hb dX7_widest_13 (by decide) ?_
    refine W.widen (k := 0) (n := 0) (Nat.le_of_ble_eq_true rfl) (Nat.le_of_ble_eq_true rfl) ?_
    exact W.iret (v := 0) hx hb hr (fun t99 ht99 hW99 => ⟨⟨0, (mu Mw (g.1 0 0) (.inr (10, [.ref (g.1 1 0), .ref (g.1 2 0), .int (gS st 2), .int (gS st 3), .int (gS st 1), .int (gS st 0), .int 1]))), rfl, RP.no (k := 1) (by unfold m_widest; first | (rw [chk_n hq_r1]; done) | (rw [chk_n hq_r1]; rfl)) (by decide) (hR.th 1 h_X (fun x9 e9 hx9 h0 => ((mu_n h0).trans (rfl)).trans hx9)) rfl rfl, by rw [ht99]; exact hP, hI⟩, hS.F ht99⟩) hS.2.2 dX7_widest_14

set_option maxHeartbeats 4000000 in
set_option maxRecDepth 100000 in
theorem c_X7_deliver (l : Launch) (G : mg) (A : Nat → Prop) (Mw : mw) (st : St) (g : gR) (p0 p1 p2 p3 : Int32) (hR : RS G st g Mw) (hV : Inv st) : Met l yX7_deliver wsX7_deliver ({ frames := 3, cells := 0, slots := 0, locals := 64 }) (va_Pc [.ref (g.1 0 0), .int p0, .int p1, .int p2, .int p3] (mB G A Mw)) (va_Qi (fun r Mw1 => RP G (m_deliver st p0 p1 p2 p3) g r Mw1) (mE G A) A) 0 0 A := by
  refine Met.ofW (cc := cX7_deliver) (maxL := 8) (ret := (some .int)) (by decide) rfl ?_
  intro p e s m args below meth c s₁ B hml hv
  obtain ⟨rfl, hG, hP, hI, hA⟩ := hv
  have hx := B.exec
  have hb := B.bytes
  have hr := B.returns
  have hts := atoms_spec (ws := wsX7_deliver) B.pre
  have hown : s.vm.findClass RX7 = some m.cls := findClass_of_methodNamed B.named
  have hlocks := B.notSynchronized
  have hK := hG.K
  have i_X6 : ∀ w ∈ wsX60, w ∈ wsX7_deliver := by decide +kernel
  have i_X7 : ∀ w ∈ wsX70, w ∈ wsX7_deliver := by decide +kernel
  have hS : va_S A s.heap s.heap [] := va_S.rf
  have hl := lv_entry ([.ref (g.1 0 0), .int p0, .int p1, .int p2, .int p3]) (n := 8) (Nat.le_of_ble_eq_true rfl)
  rw [lg_entry_eq]
  generalize (lg_sl ([.ref (g.1 0 0), .int p0, .int p1, .int p2, .int p3]) ++ List.replicate (8 - (lg_sl ([.ref (g.1 0 0), .int p0, .int p1, .int p2, .int p3])).length) Slot.unset).toArray = ls at hl ⊢
  have hl : lv_has ls 8 [(0, .ref (g.1 0 0)), (1, .int p0), (2, .int p1), (3, .int p2), (4, .int p3)] := hl
  have hP : mP G.1 Mw s.heap := hP
  have h_X : Mw (g.1 0 0) = some (.inr (10, [.ref (g.1 1 0), .ref (g.1 2 0), .int (gS st 2), .int (gS st 3), .int (gS st 1), .int (gS st 0), .int (thR g)])) := hR.1 0 0 ro0
  have h_TL : Mw (g.1 1 0) = some (.inr (2, [.int (mcR g 1 0), .ref (g.1 3 0), .int ((nI (nT st)))])) := hR.1 1 0 ro1
  have h_IL : Mw (g.1 2 0) = some (.inr (2, [.int (mcR g 2 0), .ref (g.1 4 0), .int ((nI (nN st)))])) := hR.1 2 0 ro2
  have hti9 := hR.ne ro1 ro2 (by omega)
  have hnT8 := hV.1.1
  have hnN8 := Nat.le_trans hV.1.2 (show 6 ≤ 8 by decide)
  refine lv_aload_n hx hb dX7_deliver_0 rfl (lv_at hl 0 rfl) ?_
  refine lv_aload_n hx hb dX7_deliver_1 rfl (lv_at hl 0 rfl) ?_
  refine lv_iload_n hx hb dX7_deliver_2 rfl (lv_at hl 1 rfl) ?_
  refine m_calli (va_runV (As := [.int p0]) (rest := [.ref (g.1 0 0)]) ⟨hx, hb, hml, hown, hts⟩ (c_X7_isNoTube l G A Mw  p0 h_X h_TL hnT8) (cwV 1 hts gX7_deliver_X7_isNoTube rfl rfl rfl (by decide +kernel) ⟨Nat.le_of_ble_eq_true rfl, Nat.le_of_ble_eq_true rfl⟩) (mPreV hG hS hP hI hA (hP _ _ h_X) (r := (RX7, TX7, 7)) rfl) rfl rfl hl.1 rfl (lv_room (Nat.le_of_ble_eq_true rfl)) dX7_deliver_3 ⟨Nat.le_of_ble_eq_true rfl, Nat.le_of_ble_eq_true rfl⟩) hS (fun r1 Mw1 H locs hp_r1 hP hI hS => ?_)
  obtain ⟨hb9, hm9⟩ := hp_r1
  subst Mw1
  rcases hb9 with ⟨hr9, hq_r1⟩ | ⟨hr9, hq_r1⟩
  · subst hr9
    have ht9 := hq_r1
    have e_p0 : p0 = nI (ix p0) := nI_cl ht9.1
    rw [e_p0] at hl
    have hf3 := hR.f3 ht9.2
    have h_TD : Mw (g.1 3 0) = some (.inl (G.2.1 5, 10, .inr (.inr (.inr (.inr (qf (nT st) (g.1 5))))))) := hR.1 3 0 (ro3 hf3)
    have h_T : Mw (g.1 5 (ix p0)) = some (.inr (9, [.ref (g.1 6 (ix p0)), .int (usS st (ix p0))])) := hR.1 5 _ (ro5 ht9.2)
    have h_B : Mw (g.1 6 (ix p0)) = some (.inl (G.2.1 0, 20, .inl (boS st (ix p0)))) := hR.1 6 _ (ro6 ht9.2)
    refine lv_iconst (v := 1) hx hb dX7_deliver_6 (by decide) ?_
    refine m_calli (va_runV (As := [.int 0, .int 1]) (rest := []) ⟨hx, hb, hml, hown, hts⟩ (c_X7_isThrown0 l G A Mw  1 h_X) (cwV 2 hts gX7_deliver_X7_isThrown rfl rfl rfl (by decide +kernel) ⟨Nat.le_of_ble_eq_true rfl, Nat.le_of_ble_eq_true rfl⟩) (mPreV hG hS hP hI hA (hP _ _ h_X) (r := (RX7, TX7, 7)) rfl) rfl rfl hl.1 rfl (lv_room (Nat.le_of_ble_eq_true rfl)) dX7_deliver_7 ⟨Nat.le_of_ble_eq_true rfl, Nat.le_of_ble_eq_true rfl⟩) hS (fun r2 Mw1 H locs hp_r2 hP hI hS => ?_)
    obtain ⟨hp_r2, hm9⟩ := hp_r2
    subst Mw1
    subst hp_r2
    have h_TL := mu_k (e := .inr (10, [.ref (g.1 1 0), .ref (g.1 2 0), .int (gS st 2), .int (gS st 3), .int (gS st 1), .int (gS st 0), .int 0])) (kd_ne h_TL h_X rfl) h_TL
    have h_IL := mu_k (e := .inr (10, [.ref (g.1 1 0), .ref (g.1 2 0), .int (gS st 2), .int (gS st 3), .int (gS st 1), .int (gS st 0), .int 0])) (kd_ne h_IL h_X rfl) h_IL
    have h_TD := mu_k (e := .inr (10, [.ref (g.1 1 0), .ref (g.1 2 0), .int (gS st 2), .int (gS st 3), .int (gS st 1), .int (gS st 0), .int 0])) (kd_ne h_TD h_X rfl) h_TD
    have h_T := mu_k (e := .inr (10, [.ref (g.1 1 0), .ref (g.1 2 0), .int (gS st 2), .int (gS st 3), .int (gS st 1), .int (gS st 0), .int 0])) (kd_ne h_T h_X rfl) h_T
    have h_B := mu_k (e := .inr (10, [.ref (g.1 1 0), .ref (g.1 2 0), .int (gS st 2), .int (gS st 3), .int (gS st 1), .int (gS st 0), .int 0])) (kd_ne h_B h_X rfl) h_B
    have h_X : (mu Mw (g.1 0 0) (.inr (10, [.ref (g.1 1 0), .ref (g.1 2 0), .int (gS st 2), .int (gS st 3), .int (gS st 1), .int (gS st 0), .int 0]))) (g.1 0 0) = some (.inr (10, [.ref (g.1 1 0), .ref (g.1 2 0), .int (gS st 2), .int (gS st 3), .int (gS st 1), .int (gS st 0), .int 0])) := mu_s
    refine lv_if_ne (tgt := 57) hx hb dX7_deliver_10 (by decide) (fun h9 => absurd h9 (by decide)) (fun _ => ?_)
    refine lv_aload_n hx hb dX7_deliver_13 rfl (lv_at hl 0 rfl) ?_
    refine lv_iload_n hx hb dX7_deliver_14 rfl (lv_at hl 2 rfl) ?_
    refine m_calli (va_runS (As := [.int p1]) (rest := [.ref (g.1 0 0)]) ⟨hx, hb, hml, hown, hts⟩ (c_X7_isNoPlace l G A (mu Mw (g.1 0 0) (.inr (10, [.ref (g.1 1 0), .ref (g.1 2 0), .int (gS st 2), .int (gS st 3), .int (gS st 1), .int (gS st 0), .int 0])))  p1) (va_cwS 1 hts gX7_deliver_X7_isNoPlace rfl rfl rfl (by decide +kernel) ⟨Nat.le_of_ble_eq_true rfl, Nat.le_of_ble_eq_true rfl⟩) (mPreS hG hS hP hI hA) rfl rfl hl.1 rfl (lv_room (Nat.le_of_ble_eq_true rfl)) dX7_deliver_15 ⟨Nat.le_of_ble_eq_true rfl, Nat.le_of_ble_eq_true rfl⟩) hS (fun r3 Mw1 H locs hp_r3 hP hI hS => ?_)
    obtain ⟨hb9, hm9⟩ := hp_r3
    subst Mw1
    rcases hb9 with ⟨hr9, hq_r3⟩ | ⟨hr9, hq_r3⟩
    · subst hr9
      have e_p1 : p1 = nI (ix p1) := nI_cl hq_r3.1
      rw [e_p1] at hl
      have hk_p1 := rg200 hq_r3
      have hv_p1 := hq_r3
      refine lv_if_ne (tgt := 45) hx hb dX7_deliver_18 (by decide) (fun h9 => absurd h9 (by decide)) (fun _ => ?_)
      refine lv_iload_n hx hb dX7_deliver_21 rfl (lv_at hl 3 rfl) ?_
      refine m_calli (va_runS (As := [.int p2]) (rest := [.ref (g.1 0 0)]) ⟨hx, hb, hml, hown, hts⟩ (c_X7_isNoPlace l G A (mu Mw (g.1 0 0) (.inr (10, [.ref (g.1 1 0), .ref (g.1 2 0), .int (gS st 2), .int (gS st 3), .int (gS st 1), .int (gS st 0), .int 0])))  p2) (va_cwS 1 hts gX7_deliver_X7_isNoPlace rfl rfl rfl (by decide +kernel) ⟨Nat.le_of_ble_eq_true rfl, Nat.le_of_ble_eq_true rfl⟩) (mPreS hG hS hP hI hA) rfl rfl hl.1 rfl (lv_room (Nat.le_of_ble_eq_true rfl)) dX7_deliver_22 ⟨Nat.le_of_ble_eq_true rfl, Nat.le_of_ble_eq_true rfl⟩) hS (fun r4 Mw1 H locs hp_r4 hP hI hS => ?_)
      obtain ⟨hb9, hm9⟩ := hp_r4
      subst Mw1
      rcases hb9 with ⟨hr9, hq_r4⟩ | ⟨hr9, hq_r4⟩
      · subst hr9
        have e_p2 : p2 = nI (ix p2) := nI_cl hq_r4.1
        rw [e_p2] at hl
        have hk_p2 := rg200 hq_r4
        have hv_p2 := hq_r4
        refine lv_if_ne (tgt := 45) hx hb dX7_deliver_25 (by decide) (fun h9 => absurd h9 (by decide)) (fun _ => ?_)
        refine lv_iload_n hx hb dX7_deliver_28 rfl (lv_at hl 3 rfl) ?_
        refine lv_iload_n hx hb dX7_deliver_29 rfl (lv_at hl 2 rfl) ?_
        refine lv_icmp_ge (tgt := 45) hx hb dX7_deliver_30 (by decide) (fun c5 => ?_) (fun c5 => ?_)
        · skip
          rw [← e_p1, ← e_p2] at c5
          refine lv_iconst (v := 1) hx hb dX7_deliver_45 (by decide) ?_
          refine lv_goto (tgt := 50) hx hb dX7_deliver_46 (by decide) ?_
          refine lv_iconst (v := 2) hx hb dX7_deliver_50 (by decide) ?_
          refine m_calli (va_runV (As := [.int 1, .int 2]) (rest := []) ⟨hx, hb, hml, hown, hts⟩ (c_X7_isThrown1 l G A (mu Mw (g.1 0 0) (.inr (10, [.ref (g.1 1 0), .ref (g.1 2 0), .int (gS st 2), .int (gS st 3), .int (gS st 1), .int (gS st 0), .int 0])))  2 h_X) (cwV 2 hts gX7_deliver_X7_isThrown rfl rfl rfl (by decide +kernel) ⟨Nat.le_of_ble_eq_true rfl, Nat.le_of_ble_eq_true rfl⟩) (mPreV hG hS hP hI hA (hP _ _ h_X) (r := (RX7, TX7, 7)) rfl) rfl rfl hl.1 rfl (lv_room (Nat.le_of_ble_eq_true rfl)) dX7_deliver_51 ⟨Nat.le_of_ble_eq_true rfl, Nat.le_of_ble_eq_true rfl⟩) hS (fun r6 Mw1 H locs hp_r6 hP hI hS => ?_)
          obtain ⟨hp_r6, hm9⟩ := hp_r6
          subst Mw1
          subst hp_r6
          have h_TL := mu_k (e := .inr (10, [.ref (g.1 1 0), .ref (g.1 2 0), .int (gS st 2), .int (gS st 3), .int (gS st 1), .int (gS st 0), .int 2])) (kd_ne h_TL h_X rfl) h_TL
          have h_IL := mu_k (e := .inr (10, [.ref (g.1 1 0), .ref (g.1 2 0), .int (gS st 2), .int (gS st 3), .int (gS st 1), .int (gS st 0), .int 2])) (kd_ne h_IL h_X rfl) h_IL
          have h_TD := mu_k (e := .inr (10, [.ref (g.1 1 0), .ref (g.1 2 0), .int (gS st 2), .int (gS st 3), .int (gS st 1), .int (gS st 0), .int 2])) (kd_ne h_TD h_X rfl) h_TD
          have h_T := mu_k (e := .inr (10, [.ref (g.1 1 0), .ref (g.1 2 0), .int (gS st 2), .int (gS st 3), .int (gS st 1), .int (gS st 0), .int 2])) (kd_ne h_T h_X rfl) h_T
          have h_B := mu_k (e := .inr (10, [.ref (g.1 1 0), .ref (g.1 2 0), .int (gS st 2), .int (gS st 3), .int (gS st 1), .int (gS st 0), .int 2])) (kd_ne h_B h_X rfl) h_B
          have h_X : (mu (mu Mw (g.1 0 0) (.inr (10, [.ref (g.1 1 0), .ref (g.1 2 0), .int (gS st 2), .int (gS st 3), .int (gS st 1), .int (gS st 0), .int 0]))) (g.1 0 0) (.inr (10, [.ref (g.1 1 0), .ref (g.1 2 0), .int (gS st 2), .int (gS st 3), .int (gS st 1), .int (gS st 0), .int 2]))) (g.1 0 0) = some (.inr (10, [.ref (g.1 1 0), .ref (g.1 2 0), .int (gS st 2), .int (gS st 3), .int (gS st 1), .int (gS st 0), .int 2])) := mu_s
          refine lv_if_eq (tgt := 59) hx hb dX7_deliver_54 (by decide) (fun h9 => absurd h9 (by decide)) (fun _ => ?_)
          refine lv_iconst (v := 0) hx hb dX7_deliver_57 (by decide) ?_
          refine W.widen (k := 0) (n := 0) (Nat.le_of_ble_eq_true rfl) (Nat.le_of_ble_eq_true rfl) ?_
          exact W.iret (v := 0) hx hb hr (fun t99 ht99 hW99 => ⟨⟨0, (mu (mu Mw (g.1 0 0) (.inr (10, [.ref (g.1 1 0), .ref (g.1 2 0), .int (gS st 2), .int (gS st 3), .int (gS st 1), .int (gS st 0), .int 0]))) (g.1 0 0) (.inr (10, [.ref (g.1 1 0), .ref (g.1 2 0), .int (gS st 2), .int (gS st 3), .int (gS st 1), .int (gS st 0), .int 2]))), rfl, RP.no (k := 2) (by unfold m_deliver; rw [chk_c (P := rng p3 1 999) (Q := p2 < p1)]; first | (rw [chk_p ht9, chk_p hq_r3, chk_p hq_r4, chk_n (i_nlt c5)]; done) | (rw [chk_p ht9, chk_p hq_r3, chk_p hq_r4, chk_n (i_nlt c5)]; rfl)) (by decide) (hR.th 2 h_X (fun x9 e9 hx9 h0 => ((mu_n h0).trans ((mu_n h0).trans (rfl))).trans hx9)) rfl rfl, by rw [ht99]; exact hP, hI⟩, hS.F ht99⟩) hS.2.2 dX7_deliver_58
        · skip
          rw [← e_p1, ← e_p2] at c5
          have hlt9 : p2 < p1 := i_lt c5
          refine lv_iload hx hb dX7_deliver_33 (lv_at hl 4 rfl) ?_
          refine lv_iconst (v := 1) hx hb dX7_deliver_35 (by decide) ?_
          refine lv_sipush (v := (999)) hx hb dX7_deliver_36 (by decide) ?_
          refine m_calli (va_runS (As := [.int p3, .int 1, .int 999]) (rest := [.ref (g.1 0 0)]) ⟨hx, hb, hml, hown, hts⟩ (c_X7_isIn l G A (mu Mw (g.1 0 0) (.inr (10, [.ref (g.1 1 0), .ref (g.1 2 0), .int (gS st 2), .int (gS st 3), .int (gS st 1), .int (gS st 0), .int 0])))  p3 1 999) (va_cwS 3 hts gX7_deliver_X7_isIn rfl rfl rfl (by decide +kernel) ⟨Nat.le_of_ble_eq_true rfl, Nat.le_of_ble_eq_true rfl⟩) (mPreS hG hS hP hI hA) rfl rfl hl.1 rfl (lv_room (Nat.le_of_ble_eq_true rfl)) dX7_deliver_39 ⟨Nat.le_of_ble_eq_true rfl, Nat.le_of_ble_eq_true rfl⟩) hS (fun r7 Mw1 H locs hp_r7 hP hI hS => ?_)
          obtain ⟨hb9, hm9⟩ := hp_r7
          subst Mw1
          rcases hb9 with ⟨hr9, hq_r7⟩ | ⟨hr9, hq_r7⟩
          · subst hr9
            refine lv_if_ne (tgt := 49) hx hb dX7_deliver_42 (by decide) (fun h9 => absurd h9 (by decide)) (fun _ => ?_)
            refine lv_iconst (v := 1) hx hb dX7_deliver_45 (by decide) ?_
            refine lv_goto (tgt := 50) hx hb dX7_deliver_46 (by decide) ?_
            refine lv_iconst (v := 2) hx hb dX7_deliver_50 (by decide) ?_
            refine m_calli (va_runV (As := [.int 1, .int 2]) (rest := []) ⟨hx, hb, hml, hown, hts⟩ (c_X7_isThrown1 l G A (mu Mw (g.1 0 0) (.inr (10, [.ref (g.1 1 0), .ref (g.1 2 0), .int (gS st 2), .int (gS st 3), .int (gS st 1), .int (gS st 0), .int 0])))  2 h_X) (cwV 2 hts gX7_deliver_X7_isThrown rfl rfl rfl (by decide +kernel) ⟨Nat.le_of_ble_eq_true rfl, Nat.le_of_ble_eq_true rfl⟩) (mPreV hG hS hP hI hA (hP _ _ h_X) (r := (RX7, TX7, 7)) rfl) rfl rfl hl.1 rfl (lv_room (Nat.le_of_ble_eq_true rfl)) dX7_deliver_51 ⟨Nat.le_of_ble_eq_true rfl, Nat.le_of_ble_eq_true rfl⟩) hS (fun r8 Mw1 H locs hp_r8 hP hI hS => ?_)
            obtain ⟨hp_r8, hm9⟩ := hp_r8
            subst Mw1
            subst hp_r8
            have h_TL := mu_k (e := .inr (10, [.ref (g.1 1 0), .ref (g.1 2 0), .int (gS st 2), .int (gS st 3), .int (gS st 1), .int (gS st 0), .int 2])) (kd_ne h_TL h_X rfl) h_TL
            have h_IL := mu_k (e := .inr (10, [.ref (g.1 1 0), .ref (g.1 2 0), .int (gS st 2), .int (gS st 3), .int (gS st 1), .int (gS st 0), .int 2])) (kd_ne h_IL h_X rfl) h_IL
            have h_TD := mu_k (e := .inr (10, [.ref (g.1 1 0), .ref (g.1 2 0), .int (gS st 2), .int (gS st 3), .int (gS st 1), .int (gS st 0), .int 2])) (kd_ne h_TD h_X rfl) h_TD
            have h_T := mu_k (e := .inr (10, [.ref (g.1 1 0), .ref (g.1 2 0), .int (gS st 2), .int (gS st 3), .int (gS st 1), .int (gS st 0), .int 2])) (kd_ne h_T h_X rfl) h_T
            have h_B := mu_k (e := .inr (10, [.ref (g.1 1 0), .ref (g.1 2 0), .int (gS st 2), .int (gS st 3), .int (gS st 1), .int (gS st 0), .int 2])) (kd_ne h_B h_X rfl) h_B
            have h_X : (mu (mu Mw (g.1 0 0) (.inr (10, [.ref (g.1 1 0), .ref (g.1 2 0), .int (gS st 2), .int (gS st 3), .int (gS st 1), .int (gS st 0), .int 0]))) (g.1 0 0) (.inr (10, [.ref (g.1 1 0), .ref (g.1 2 0), .int (gS st 2), .int (gS st 3), .int (gS st 1), .int (gS st 0), .int 2]))) (g.1 0 0) = some (.inr (10, [.ref (g.1 1 0), .ref (g.1 2 0), .int (gS st 2), .int (gS st 3), .int (gS st 1), .int (gS st 0), .int 2])) := mu_s
            refine lv_if_eq (tgt := 59) hx hb dX7_deliver_54 (by decide) (fun h9 => absurd h9 (by decide)) (fun _ => ?_)
            refine lv_iconst (v := 0) hx hb dX7_deliver_57 (by decide) ?_
            refine W.widen (k := 0) (n := 0) (Nat.le_of_ble_eq_true rfl) (Nat.le_of_ble_eq_true rfl) ?_
            exact W.iret (v := 0) hx hb hr (fun t99 ht99 hW99 => ⟨⟨0, (mu (mu Mw (g.1 0 0) (.inr (10, [.ref (g.1 1 0), .ref (g.1 2 0), .int (gS st 2), .int (gS st 3), .int (gS st 1), .int (gS st 0), .int 0]))) (g.1 0 0) (.inr (10, [.ref (g.1 1 0), .ref (g.1 2 0), .int (gS st 2), .int (gS st 3), .int (gS st 1), .int (gS st 0), .int 2]))), rfl, RP.no (k := 2) (by unfold m_deliver; rw [chk_c (P := rng p3 1 999) (Q := p2 < p1)]; first | (rw [chk_p ht9, chk_p hq_r3, chk_p hq_r4, chk_p hlt9, chk_n hq_r7]; done) | (rw [chk_p ht9, chk_p hq_r3, chk_p hq_r4, chk_p hlt9, chk_n hq_r7]; rfl)) (by decide) (hR.th 2 h_X (fun x9 e9 hx9 h0 => ((mu_n h0).trans ((mu_n h0).trans (rfl))).trans hx9)) rfl rfl, by rw [ht99]; exact hP, hI⟩, hS.F ht99⟩) hS.2.2 dX7_deliver_58
          · subst hr9
            have hv_p3 := hq_r7
            refine lv_if_ne (tgt := 49) hx hb dX7_deliver_42 (by decide) (fun _ => ?_) (fun h9 => absurd h9 (by decide))
            refine lv_iconst (v := 0) hx hb dX7_deliver_49 (by decide) ?_
            refine lv_iconst (v := 2) hx hb dX7_deliver_50 (by decide) ?_
            refine m_calli (va_runV (As := [.int 0, .int 2]) (rest := []) ⟨hx, hb, hml, hown, hts⟩ (c_X7_isThrown0 l G A (mu Mw (g.1 0 0) (.inr (10, [.ref (g.1 1 0), .ref (g.1 2 0), .int (gS st 2), .int (gS st 3), .int (gS st 1), .int (gS st 0), .int 0])))  2 h_X) (cwV 2 hts gX7_deliver_X7_isThrown rfl rfl rfl (by decide +kernel) ⟨Nat.le_of_ble_eq_true rfl, Nat.le_of_ble_eq_true rfl⟩) (mPreV hG hS hP hI hA (hP _ _ h_X) (r := (RX7, TX7, 7)) rfl) rfl rfl hl.1 rfl (lv_room (Nat.le_of_ble_eq_true rfl)) dX7_deliver_51 ⟨Nat.le_of_ble_eq_true rfl, Nat.le_of_ble_eq_true rfl⟩) hS (fun r9 Mw1 H locs hp_r9 hP hI hS => ?_)
            obtain ⟨hp_r9, hm9⟩ := hp_r9
            subst Mw1
            subst hp_r9
            have h_TL := mu_k (e := .inr (10, [.ref (g.1 1 0), .ref (g.1 2 0), .int (gS st 2), .int (gS st 3), .int (gS st 1), .int (gS st 0), .int 0])) (kd_ne h_TL h_X rfl) h_TL
            have h_IL := mu_k (e := .inr (10, [.ref (g.1 1 0), .ref (g.1 2 0), .int (gS st 2), .int (gS st 3), .int (gS st 1), .int (gS st 0), .int 0])) (kd_ne h_IL h_X rfl) h_IL
            have h_TD := mu_k (e := .inr (10, [.ref (g.1 1 0), .ref (g.1 2 0), .int (gS st 2), .int (gS st 3), .int (gS st 1), .int (gS st 0), .int 0])) (kd_ne h_TD h_X rfl) h_TD
            have h_T := mu_k (e := .inr (10, [.ref (g.1 1 0), .ref (g.1 2 0), .int (gS st 2), .int (gS st 3), .int (gS st 1), .int (gS st 0), .int 0])) (kd_ne h_T h_X rfl) h_T
            have h_B := mu_k (e := .inr (10, [.ref (g.1 1 0), .ref (g.1 2 0), .int (gS st 2), .int (gS st 3), .int (gS st 1), .int (gS st 0), .int 0])) (kd_ne h_B h_X rfl) h_B
            have h_X : (mu (mu Mw (g.1 0 0) (.inr (10, [.ref (g.1 1 0), .ref (g.1 2 0), .int (gS st 2), .int (gS st 3), .int (gS st 1), .int (gS st 0), .int 0]))) (g.1 0 0) (.inr (10, [.ref (g.1 1 0), .ref (g.1 2 0), .int (gS st 2), .int (gS st 3), .int (gS st 1), .int (gS st 0), .int 0]))) (g.1 0 0) = some (.inr (10, [.ref (g.1 1 0), .ref (g.1 2 0), .int (gS st 2), .int (gS st 3), .int (gS st 1), .int (gS st 0), .int 0])) := mu_s
            refine lv_if_eq (tgt := 59) hx hb dX7_deliver_54 (by decide) (fun _ => ?_) (fun h9 => absurd h9 (by decide))
            have hl39 : ix p2 ≤ ix p1 := Nat.le_of_lt ((nI_ltI (a := ix p2) (b := ix p1) (by omega) (by omega)).mp (by rw [← e_p1, ← e_p2]; exact hlt9))
            refine lv_iconst (v := 0) hx hb dX7_deliver_59 (by decide) ?_
            refine lv_bipush (v := (60)) hx hb dX7_deliver_60 (by decide) ?_
            refine lv_iload hx hb dX7_deliver_62 (lv_at hl 4 rfl) ?_
            refine lv_isub hx hb dX7_deliver_64 ?_
            refine lv_bipush (v := (9)) hx hb dX7_deliver_65 (by decide) ?_
            refine lv_iadd hx hb dX7_deliver_67 ?_
            refine lv_bipush (v := (10)) hx hb dX7_deliver_68 (by decide) ?_
            refine lv_idiv hx hb dX7_deliver_70 (by decide) ?_
            refine va_mmax hx hb (hml.trans hl.1.symm) hown (hts (.methodLink RX7 51 Lib.Math.max.name) (by decide +kernel)) (hts (.static Lib.Math.max.name) (by decide +kernel)) (hts (.initialized "java/lang/Math") (by decide +kernel)) (hts (.code Lib.Math.max.name Lib.Math.max.code 2 (some .int)) (by decide +kernel)) (Nat.le_of_ble_eq_true rfl) (Nat.le_of_ble_eq_true rfl) (Nat.le_of_ble_eq_true rfl) (Nat.le_of_ble_eq_true rfl) dX7_deliver_71 ?_
            refine lv_istore (lv' := [(5, .int (m_max 0 (((60 - p3) + 9) / 10))), (0, .ref (g.1 0 0)), (1, .int (nI (ix p0))), (2, .int (nI (ix p1))), (3, .int (nI (ix p2))), (4, .int p3)]) hx hb dX7_deliver_74 hl (by decide) rfl (fun ls hl => ?_)
            refine lv_iconst (v := 0) hx hb dX7_deliver_76 (by decide) ?_
            refine lv_istore (lv' := [(6, .int 0), (5, .int (m_max 0 (((60 - p3) + 9) / 10))), (0, .ref (g.1 0 0)), (1, .int (nI (ix p0))), (2, .int (nI (ix p1))), (3, .int (nI (ix p2))), (4, .int p3)]) hx hb dX7_deliver_77 hl (by decide) rfl (fun ls hl => ?_)
            refine lv_iload_n hx hb dX7_deliver_79 rfl (lv_at hl 5 rfl) ?_
            refine lv_istore (lv' := [(7, .int (nI (ix p2))), (6, .int 0), (5, .int (m_max 0 (((60 - p3) + 9) / 10))), (0, .ref (g.1 0 0)), (1, .int (nI (ix p0))), (2, .int (nI (ix p1))), (3, .int (nI (ix p2))), (4, .int p3)]) hx hb dX7_deliver_80 hl (by decide) rfl (fun ls hl => ?_)
            have loop : ∀ (n k : Nat) (ha9 : ix p2 ≤ k), k ≤ (ix p1) → k + n = (ix p1) + 1 → ∀ (H : Heap) (locs : List Loc) (ls : Array Slot), mP G.1 (mu (mu Mw (g.1 0 0) (.inr (10, [.ref (g.1 1 0), .ref (g.1 2 0), .int (gS st 2), .int (gS st 3), .int (gS st 1), .int (gS st 0), .int 0]))) (g.1 0 0) (.inr (10, [.ref (g.1 1 0), .ref (g.1 2 0), .int (gS st 2), .int (gS st 3), .int (gS st 1), .int (gS st 0), .int 0]))) H → mI A (mu (mu Mw (g.1 0 0) (.inr (10, [.ref (g.1 1 0), .ref (g.1 2 0), .int (gS st 2), .int (gS st 3), .int (gS st 1), .int (gS st 0), .int 0]))) (g.1 0 0) (.inr (10, [.ref (g.1 1 0), .ref (g.1 2 0), .int (gS st 2), .int (gS st 3), .int (gS st 1), .int (gS st 0), .int 0]))) → va_S A s.heap H locs → lv_has ls 8 [(0, .ref (g.1 0 0)), (1, .int (nI (ix p0))), (2, .int (nI (ix p1))), (3, .int (nI (ix p2))), (5, .int (m_max 0 ((60 - p3 + 9) / 10))), (6, .int (dq (boS st (ix p0)) (m_max 0 ((60 - p3 + 9) / 10)) (ix p2) k)), (7, .int (nI k))] → W p l e ({ frames := 3, cells := 0, slots := 0, locals := 64 }) s m ([.ref (g.1 0 0), .int p0, .int p1, .int p2, .int p3] : List Value).toArray below meth c H locs 0 0 (MQ below (va_Qi (fun r Mw1 => RP G (m_deliver st p0 p1 p2 p3) g r Mw1) (mE G A) A) ([.ref (g.1 0 0), .int p0, .int p1, .int p2, .int p3] : List Value).toArray s 0 0 A) (F0 m 82 ls []) := by
              intro n
              induction n with
              | zero => intro k ha9 hk1 hk2; omega
              | succ n ih_loop =>
                intro k ha9 hk1 hk2 H locs ls hP hI hS hl
                refine lv_iload hx hb dX7_deliver_82 (lv_at hl 6 rfl) ?_
                refine lv_iload_n hx hb dX7_deliver_84 rfl (lv_at hl 2 rfl) ?_
                refine lv_icmp_ge (tgt := 126) hx hb dX7_deliver_85 (by decide) (fun c11 => ?_) (fun c11 => ?_)
                · skip
                  have hk9 : k = ix p1 := by have h8 := (nI_leI (a := ix p1) (b := k) (by omega) (by omega)).mp c11; omega
                  refine lv_iload hx hb dX7_deliver_126 (lv_at hl 5 rfl) ?_
                  refine W.widen (k := 0) (n := 0) (Nat.le_of_ble_eq_true rfl) (Nat.le_of_ble_eq_true rfl) ?_
                  exact W.iret (v := dq (boS st (ix p0)) (m_max 0 ((60 - p3 + 9) / 10)) (ix p2) k) hx hb hr (fun t99 ht99 hW99 => ⟨⟨dq (boS st (ix p0)) (m_max 0 ((60 - p3 + 9) / 10)) (ix p2) k, (mu (mu Mw (g.1 0 0) (.inr (10, [.ref (g.1 1 0), .ref (g.1 2 0), .int (gS st 2), .int (gS st 3), .int (gS st 1), .int (gS st 0), .int 0]))) (g.1 0 0) (.inr (10, [.ref (g.1 1 0), .ref (g.1 2 0), .int (gS st 2), .int (gS st 3), .int (gS st 1), .int (gS st 0), .int 0]))), rfl, RP.ok (by unfold m_deliver; rw [chk_c (P := rng p3 1 999) (Q := p2 < p1)]; first | (rw [chk_p ht9, chk_p hq_r3, chk_p hq_r4, chk_p hlt9, chk_p hq_r7, del_m (hV.2.1 _ ht9.2).1 hv_p1 hv_p2 hv_p3 hlt9, hk9]; done) | (rw [chk_p ht9, chk_p hq_r3, chk_p hq_r4, chk_p hlt9, chk_p hq_r7, del_m (hV.2.1 _ ht9.2).1 hv_p1 hv_p2 hv_p3 hlt9, hk9]; rfl)) (hR.th 0 h_X (fun x9 e9 hx9 h0 => ((mu_n h0).trans ((mu_n h0).trans (rfl))).trans hx9)) rfl rfl, by rw [ht99]; exact hP, hI⟩, hS.F ht99⟩) hS.2.2 dX7_deliver_128
                · skip
                  have hk9 : k < ix p1 := Nat.lt_of_not_le (fun q => c11 (nI_le (a := ix p1) q (by omega)))
                  refine lv_iload hx hb dX7_deliver_88 (lv_at hl 5 rfl) ?_
                  refine lv_iconst (v := 0) hx hb dX7_deliver_90 (by decide) ?_
                  refine lv_aload_n hx hb dX7_deliver_91 rfl (lv_at hl 0 rfl) ?_
                  refine m_get (ci := 10) (v := .ref (g.1 1 0)) (C := RX7) (T := TX7) (N := 7) hx hb hts i_X7 hown hK (hP _ _ h_X) rfl 0 (by decide) (hts (.fieldLink RX7 10 "MeniscusModel" "tubes" "Ljava/util/ArrayList;") (by decide +kernel)) (fun _ h9 => h9) rfl dX7_deliver_92 ?_
                  refine lv_iload_n hx hb dX7_deliver_95 rfl (lv_at hl 1 rfl) ?_
                  refine m_callq (va_runV (As := [.int (nI (ix p0))]) (rest := [.int 0, .int (dq (boS st (ix p0)) (m_max 0 ((60 - p3 + 9) / 10)) (ix p2) k)]) ⟨hx, hb, hml, hown, hts⟩ (c_Jx4a65c_get_915e3 l G A (mu (mu Mw (g.1 0 0) (.inr (10, [.ref (g.1 1 0), .ref (g.1 2 0), .int (gS st 2), .int (gS st 3), .int (gS st 1), .int (gS st 0), .int 0]))) (g.1 0 0) (.inr (10, [.ref (g.1 1 0), .ref (g.1 2 0), .int (gS st 2), .int (gS st 3), .int (gS st 1), .int (gS st 0), .int 0])))  h_TL h_TD (ix p0) (g.1 5 (ix p0)) ht9.2 hnT8 (qf_p ht9.2)) (cwV 1 hts gX7_deliver_Jx4a65c_get_915e3 rfl rfl rfl (by decide +kernel) ⟨Nat.le_of_ble_eq_true rfl, Nat.le_of_ble_eq_true rfl⟩) (mPreV hG hS hP hI hA (hP _ _ h_TL) (r := (RJx4a65c, TJx4a65c, 3)) rfl) rfl rfl hl.1 rfl (lv_room (Nat.le_of_ble_eq_true rfl)) dX7_deliver_96 ⟨Nat.le_of_ble_eq_true rfl, Nat.le_of_ble_eq_true rfl⟩) hS (fun r12 Mw1 H locs hp_r12 hP hI hS => ?_)
                  obtain ⟨hp_r12, hm9⟩ := hp_r12
                  subst Mw1
                  subst hp_r12
                  refine va_castE hx hb hown (hts (.classLink RX7 38 RX6) (by decide +kernel)) (va_recv hK (va_at.one (hP _ _ h_T)) (q0 := 0) (q := (RX6, TX6, 2)) rfl rfl) dX7_deliver_99 ?_
                  refine m_getN (ci := 9) (v := .ref (g.1 6 (ix p0))) (C := RX6) (T := TX6) (N := 2) hx hb hts i_X6 hown hK (hP _ _ h_T) rfl 0 (by decide) (va_Nw.use rfl (hG.2.1.2.1 ("MeniscusModel", 41, "MeniscusModel$Tube", "bores", "[I", "MeniscusModel") (by decide +kernel))) (fun _ h9 => h9) rfl dX7_deliver_102 ?_
                  refine lv_iload hx hb dX7_deliver_105 (lv_at hl 6 rfl) ?_
                  refine lv_bipush (v := (10)) hx hb dX7_deliver_107 (by decide) ?_
                  refine lv_idiv hx hb dX7_deliver_109 (by decide) ?_
                  rw [nI_d10 (show k < 2 ^ 31 by omega)]
                  refine m_iald hx hb hK 0 (hP _ _ h_B) rfl (vp_in_nI (by omega) (by omega)) dX7_deliver_110 ?_
                  rw [nI_clamp (show (k / 10) < 2 ^ 31 by omega)]
                  refine lv_iload hx hb dX7_deliver_111 (lv_at hl 4 rfl) ?_
                  refine lv_isub hx hb dX7_deliver_113 ?_
                  refine va_mmax hx hb (hml.trans hl.1.symm) hown (hts (.methodLink RX7 51 Lib.Math.max.name) (by decide +kernel)) (hts (.static Lib.Math.max.name) (by decide +kernel)) (hts (.initialized "java/lang/Math") (by decide +kernel)) (hts (.code Lib.Math.max.name Lib.Math.max.code 2 (some .int)) (by decide +kernel)) (Nat.le_of_ble_eq_true rfl) (Nat.le_of_ble_eq_true rfl) (Nat.le_of_ble_eq_true rfl) (Nat.le_of_ble_eq_true rfl) dX7_deliver_114 ?_
                  refine lv_iadd hx hb dX7_deliver_117 ?_
                  refine lv_istore (lv' := [(6, .int ((dq (boS st (ix p0)) (m_max 0 ((60 - p3 + 9) / 10)) (ix p2) k) + (m_max 0 ((boS st (ix p0) (k / 10)) - (m_max 0 ((60 - p3 + 9) / 10)))))), (0, .ref (g.1 0 0)), (1, .int (nI (ix p0))), (2, .int (nI (ix p1))), (3, .int (nI (ix p2))), (5, .int (m_max 0 ((60 - p3 + 9) / 10))), (7, .int (nI k))]) hx hb dX7_deliver_118 hl (by decide) rfl (fun ls hl => ?_)
                  refine lv_iinc (v := (nI k) + 1) (lv' := [(7, .int ((nI k) + 1)), (6, .int ((dq (boS st (ix p0)) (m_max 0 ((60 - p3 + 9) / 10)) (ix p2) k) + (m_max 0 ((boS st (ix p0) (k / 10)) - (m_max 0 ((60 - p3 + 9) / 10)))))), (0, .ref (g.1 0 0)), (1, .int (nI (ix p0))), (2, .int (nI (ix p1))), (3, .int (nI (ix p2))), (5, .int (m_max 0 ((60 - p3 + 9) / 10)))]) hx hb dX7_deliver_120 hl (k := 6) rfl rfl (by decide) rfl (fun ls hl => ?_)
                  refine lv_goto (tgt := 82) hx hb dX7_deliver_123 (by decide) ?_
                  have e_7 : (nI k) + 1 = nI (k + 1) := nI_1 k
                  rw [e_7] at hl
                  have e_6 : (dq (boS st (ix p0)) (m_max 0 ((60 - p3 + 9) / 10)) (ix p2) k) + (m_max 0 ((boS st (ix p0) (k / 10)) - (m_max 0 ((60 - p3 + 9) / 10)))) = dq (boS st (ix p0)) (m_max 0 ((60 - p3 + 9) / 10)) (ix p2) (k + 1) := (dq_s ha9).symm
                  rw [e_6] at hl
                  exact ih_loop (k + 1) (Nat.le_succ_of_le ha9) (by omega) (by omega) H locs ls hP hI hS (lv_sub hl [2, 3, 4, 5, 6, 1, 0] rfl)
            have e0_6 : (0 : Int32) = dq (boS st (ix p0)) (m_max 0 ((60 - p3 + 9) / 10)) (ix p2) (ix p2) := (dq_0 _ _ _ _ (Nat.le_refl _)).symm
            rw [show lv_has ls 8 [(7, .int (nI (ix p2))), (6, .int 0), (5, .int (m_max 0 (((60 - p3) + 9) / 10))), (0, .ref (g.1 0 0)), (1, .int (nI (ix p0))), (2, .int (nI (ix p1))), (3, .int (nI (ix p2))), (4, .int p3)] = lv_has ls 8 [(7, .int (nI (ix p2))), (6, .int (dq (boS st (ix p0)) (m_max 0 ((60 - p3 + 9) / 10)) (ix p2) (ix p2))), (5, .int (m_max 0 (((60 - p3) + 9) / 10))), (0, .ref (g.1 0 0)), (1, .int (nI (ix p0))), (2, .int (nI (ix p1))), (3, .int (nI (ix p2))), (4, .int p3)] from by rw [← e0_6]] at hl
            exact loop ((ix p1) + 1 - (ix p2)) (ix p2) (Nat.le_refl _) (by omega) (by omega) _ _ _ hP hI hS (lv_sub hl [3, 4, 5, 6, 2, 1, 0] rfl)
      · subst hr9
        refine lv_if_ne (tgt := 45) hx hb dX7_deliver_25 (by decide) (fun _ => ?_) (fun h9 => absurd h9 (by decide))
        refine lv_iconst (v := 1) hx hb dX7_deliver_45 (by decide) ?_
        refine lv_goto (tgt := 50) hx hb dX7_deliver_46 (by decide) ?_
        refine lv_iconst (v := 2) hx hb dX7_deliver_50 (by decide) ?_
        refine m_calli (va_runV (As := [.int 1, .int 2]) (rest := []) ⟨hx, hb, hml, hown, hts⟩ (c_X7_isThrown1 l G A (mu Mw (g.1 0 0) (.inr (10, [.ref (g.1 1 0), .ref (g.1 2 0), .int (gS st 2), .int (gS st 3), .int (gS st 1), .int (gS st 0), .int 0])))  2 h_X) (cwV 2 hts gX7_deliver_X7_isThrown rfl rfl rfl (by decide +kernel) ⟨Nat.le_of_ble_eq_true rfl, Nat.le_of_ble_eq_true rfl⟩) (mPreV hG hS hP hI hA (hP _ _ h_X) (r := (RX7, TX7, 7)) rfl) rfl rfl hl.1 rfl (lv_room (Nat.le_of_ble_eq_true rfl)) dX7_deliver_51 ⟨Nat.le_of_ble_eq_true rfl, Nat.le_of_ble_eq_true rfl⟩) hS (fun r14 Mw1 H locs hp_r14 hP hI hS => ?_)
        obtain ⟨hp_r14, hm9⟩ := hp_r14
        subst Mw1
        subst hp_r14
        have h_TL := mu_k (e := .inr (10, [.ref (g.1 1 0), .ref (g.1 2 0), .int (gS st 2), .int (gS st 3), .int (gS st 1), .int (gS st 0), .int 2])) (kd_ne h_TL h_X rfl) h_TL
        have h_IL := mu_k (e := .inr (10, [.ref (g.1 1 0), .ref (g.1 2 0), .int (gS st 2), .int (gS st 3), .int (gS st 1), .int (gS st 0), .int 2])) (kd_ne h_IL h_X rfl) h_IL
        have h_TD := mu_k (e := .inr (10, [.ref (g.1 1 0), .ref (g.1 2 0), .int (gS st 2), .int (gS st 3), .int (gS st 1), .int (gS st 0), .int 2])) (kd_ne h_TD h_X rfl) h_TD
        have h_T := mu_k (e := .inr (10, [.ref (g.1 1 0), .ref (g.1 2 0), .int (gS st 2), .int (gS st 3), .int (gS st 1), .int (gS st 0), .int 2])) (kd_ne h_T h_X rfl) h_T
        have h_B := mu_k (e := .inr (10, [.ref (g.1 1 0), .ref (g.1 2 0), .int (gS st 2), .int (gS st 3), .int (gS st 1), .int (gS st 0), .int 2])) (kd_ne h_B h_X rfl) h_B
        have h_X : (mu (mu Mw (g.1 0 0) (.inr (10, [.ref (g.1 1 0), .ref (g.1 2 0), .int (gS st 2), .int (gS st 3), .int (gS st 1), .int (gS st 0), .int 0]))) (g.1 0 0) (.inr (10, [.ref (g.1 1 0), .ref (g.1 2 0), .int (gS st 2), .int (gS st 3), .int (gS st 1), .int (gS st 0), .int 2]))) (g.1 0 0) = some (.inr (10, [.ref (g.1 1 0), .ref (g.1 2 0), .int (gS st 2), .int (gS st 3), .int (gS st 1), .int (gS st 0), .int 2])) := mu_s
        refine lv_if_eq (tgt := 59) hx hb dX7_deliver_54 (by decide) (fun h9 => absurd h9 (by decide)) (fun _ => ?_)
        refine lv_iconst (v := 0) hx hb dX7_deliver_57 (by decide) ?_
        refine W.widen (k := 0) (n := 0) (Nat.le_of_ble_eq_true rfl) (Nat.le_of_ble_eq_true rfl) ?_
        exact W.iret (v := 0) hx hb hr (fun t99 ht99 hW99 => ⟨⟨0, (mu (mu Mw (g.1 0 0) (.inr (10, [.ref (g.1 1 0), .ref (g.1 2 0), .int (gS st 2), .int (gS st 3), .int (gS st 1), .int (gS st 0), .int 0]))) (g.1 0 0) (.inr (10, [.ref (g.1 1 0), .ref (g.1 2 0), .int (gS st 2), .int (gS st 3), .int (gS st 1), .int (gS st 0), .int 2]))), rfl, RP.no (k := 2) (by unfold m_deliver; rw [chk_c (P := rng p3 1 999) (Q := p2 < p1)]; first | (rw [chk_p ht9, chk_p hq_r3, chk_n hq_r4]; done) | (rw [chk_p ht9, chk_p hq_r3, chk_n hq_r4]; rfl)) (by decide) (hR.th 2 h_X (fun x9 e9 hx9 h0 => ((mu_n h0).trans ((mu_n h0).trans (rfl))).trans hx9)) rfl rfl, by rw [ht99]; exact hP, hI⟩, hS.F ht99⟩) hS.2.2 dX7_deliver_58
    · subst hr9
      refine lv_if_ne (tgt := 45) hx hb dX7_deliver_18 (by decide) (fun _ => ?_) (fun h9 => absurd h9 (by decide))
      refine lv_iconst (v := 1) hx hb dX7_deliver_45 (by decide) ?_
      refine lv_goto (tgt := 50) hx hb dX7_deliver_46 (by decide) ?_
      refine lv_iconst (v := 2) hx hb dX7_deliver_50 (by decide) ?_
      refine m_calli (va_runV (As := [.int 1, .int 2]) (rest := []) ⟨hx, hb, hml, hown, hts⟩ (c_X7_isThrown1 l G A (mu Mw (g.1 0 0) (.inr (10, [.ref (g.1 1 0), .ref (g.1 2 0), .int (gS st 2), .int (gS st 3), .int (gS st 1), .int (gS st 0), .int 0])))  2 h_X) (cwV 2 hts gX7_deliver_X7_isThrown rfl rfl rfl (by decide +kernel) ⟨Nat.le_of_ble_eq_true rfl, Nat.le_of_ble_eq_true rfl⟩) (mPreV hG hS hP hI hA (hP _ _ h_X) (r := (RX7, TX7, 7)) rfl) rfl rfl hl.1 rfl (lv_room (Nat.le_of_ble_eq_true rfl)) dX7_deliver_51 ⟨Nat.le_of_ble_eq_true rfl, Nat.le_of_ble_eq_true rfl⟩) hS (fun r15 Mw1 H locs hp_r15 hP hI hS => ?_)
      obtain ⟨hp_r15, hm9⟩ := hp_r15
      subst Mw1
      subst hp_r15
      have h_TL := mu_k (e := .inr (10, [.ref (g.1 1 0), .ref (g.1 2 0), .int (gS st 2), .int (gS st 3), .int (gS st 1), .int (gS st 0), .int 2])) (kd_ne h_TL h_X rfl) h_TL
      have h_IL := mu_k (e := .inr (10, [.ref (g.1 1 0), .ref (g.1 2 0), .int (gS st 2), .int (gS st 3), .int (gS st 1), .int (gS st 0), .int 2])) (kd_ne h_IL h_X rfl) h_IL
      have h_TD := mu_k (e := .inr (10, [.ref (g.1 1 0), .ref (g.1 2 0), .int (gS st 2), .int (gS st 3), .int (gS st 1), .int (gS st 0), .int 2])) (kd_ne h_TD h_X rfl) h_TD
      have h_T := mu_k (e := .inr (10, [.ref (g.1 1 0), .ref (g.1 2 0), .int (gS st 2), .int (gS st 3), .int (gS st 1), .int (gS st 0), .int 2])) (kd_ne h_T h_X rfl) h_T
      have h_B := mu_k (e := .inr (10, [.ref (g.1 1 0), .ref (g.1 2 0), .int (gS st 2), .int (gS st 3), .int (gS st 1), .int (gS st 0), .int 2])) (kd_ne h_B h_X rfl) h_B
      have h_X : (mu (mu Mw (g.1 0 0) (.inr (10, [.ref (g.1 1 0), .ref (g.1 2 0), .int (gS st 2), .int (gS st 3), .int (gS st 1), .int (gS st 0), .int 0]))) (g.1 0 0) (.inr (10, [.ref (g.1 1 0), .ref (g.1 2 0), .int (gS st 2), .int (gS st 3), .int (gS st 1), .int (gS st 0), .int 2]))) (g.1 0 0) = some (.inr (10, [.ref (g.1 1 0), .ref (g.1 2 0), .int (gS st 2), .int (gS st 3), .int (gS st 1), .int (gS st 0), .int 2])) := mu_s
      refine lv_if_eq (tgt := 59) hx hb dX7_deliver_54 (by decide) (fun h9 => absurd h9 (by decide)) (fun _ => ?_)
      refine lv_iconst (v := 0) hx hb dX7_deliver_57 (by decide) ?_
      refine W.widen (k := 0) (n := 0) (Nat.le_of_ble_eq_true rfl) (Nat.le_of_ble_eq_true rfl) ?_
      exact W.iret (v := 0) hx hb hr (fun t99 ht99 hW99 => ⟨⟨0, (mu (mu Mw (g.1 0 0) (.inr (10, [.ref (g.1 1 0), .ref (g.1 2 0), .int (gS st 2), .int (gS st 3), .int (gS st 1), .int (gS st 0), .int 0]))) (g.1 0 0) (.inr (10, [.ref (g.1 1 0), .ref (g.1 2 0), .int (gS st 2), .int (gS st 3), .int (gS st 1), .int (gS st 0), .int 2]))), rfl, RP.no (k := 2) (by unfold m_deliver; rw [chk_c (P := rng p3 1 999) (Q := p2 < p1)]; first | (rw [chk_p ht9, chk_n hq_r3]; done) | (rw [chk_p ht9, chk_n hq_r3]; rfl)) (by decide) (hR.th 2 h_X (fun x9 e9 hx9 h0 => ((mu_n h0).trans ((mu_n h0).trans (rfl))).trans hx9)) rfl rfl, by rw [ht99]; exact hP, hI⟩, hS.F ht99⟩) hS.2.2 dX7_deliver_58
  · subst hr9
    refine lv_iconst (v := 1) hx hb dX7_deliver_6 (by decide) ?_
    refine m_calli (va_runV (As := [.int 1, .int 1]) (rest := []) ⟨hx, hb, hml, hown, hts⟩ (c_X7_isThrown1 l G A Mw  1 h_X) (cwV 2 hts gX7_deliver_X7_isThrown rfl rfl rfl (by decide +kernel) ⟨Nat.le_of_ble_eq_true rfl, Nat.le_of_ble_eq_true rfl⟩) (mPreV hG hS hP hI hA (hP _ _ h_X) (r := (RX7, TX7, 7)) rfl) rfl rfl hl.1 rfl (lv_room (Nat.le_of_ble_eq_true rfl)) dX7_deliver_7 ⟨Nat.le_of_ble_eq_true rfl, Nat.le_of_ble_eq_true rfl⟩) hS (fun r16 Mw1 H locs hp_r16 hP hI hS => ?_)
    obtain ⟨hp_r16, hm9⟩ := hp_r16
    subst Mw1
    subst hp_r16
    have h_TL := mu_k (e := .inr (10, [.ref (g.1 1 0), .ref (g.1 2 0), .int (gS st 2), .int (gS st 3), .int (gS st 1), .int (gS st 0), .int 1])) (kd_ne h_TL h_X rfl) h_TL
    have h_IL := mu_k (e := .inr (10, [.ref (g.1 1 0), .ref (g.1 2 0), .int (gS st 2), .int (gS st 3), .int (gS st 1), .int (gS st 0), .int 1])) (kd_ne h_IL h_X rfl) h_IL
    have h_X : (mu Mw (g.1 0 0) (.inr (10, [.ref (g.1 1 0), .ref (g.1 2 0), .int (gS st 2), .int (gS st 3), .int (gS st 1), .int (gS st 0), .int 1]))) (g.1 0 0) = some (.inr (10, [.ref (g.1 1 0), .ref (g.1 2 0), .int (gS st 2), .int (gS st 3), .int (gS st 1), .int (gS st 0), .int 1])) := mu_s
    refine lv_if_ne (tgt := 57) hx hb dX7_deliver_10 (by decide) (fun _ => ?_) (fun h9 => absurd h9 (by decide))
    refine lv_iconst (v := 0) hx hb dX7_deliver_57 (by decide) ?_
    refine W.widen (k := 0) (n := 0) (Nat.le_of_ble_eq_true rfl) (Nat.le_of_ble_eq_true rfl) ?_
    exact W.iret (v := 0) hx hb hr (fun t99 ht99 hW99 => ⟨⟨0, (mu Mw (g.1 0 0) (.inr (10, [.ref (g.1 1 0), .ref (g.1 2 0), .int (gS st 2), .int (gS st 3), .int (gS st 1), .int (gS st 0), .int 1]))), rfl, RP.no (k := 1) (by unfold m_deliver; rw [chk_c (P := rng p3 1 999) (Q := p2 < p1)]; first | (rw [chk_n hq_r1]; done) | (rw [chk_n hq_r1]; rfl)) (by decide) (hR.th 1 h_X (fun x9 e9 hx9 h0 => ((mu_n h0).trans (rfl)).trans hx9)) rfl rfl, by rw [ht99]; exact hP, hI⟩, hS.F ht99⟩) hS.2.2 dX7_deliver_58
