/-! ===== the reference: a tube, an instrument ===== -/
def msum (bf : Nat → Int32) : Nat → Int32
  | 0 => 0
  | k + 1 => msum bf k + bf (k / 10)
theorem nI_d10 {k : Nat} (h : k < 2 ^ 31) : nI k / 10 = nI (k / 10) := by
  rw [← Int32.toInt_inj, t_div (by rw [nI_toInt h]; omega) (by decide), nI_toInt h, nI_toInt (by omega)]
  rfl
def sof (gl : Int32) : Int32 := if gl = 104 then 0 else 1
set_option maxHeartbeats 4000000 in
set_option maxRecDepth 100000 in
theorem c_X6_volume (l : Launch) (G : mg) (A : Nat → Prop) (Mw : mw) (n9 : Nat) (hn9 : n9 ≤ 200) {t0 b0 : Nat} {us0 : Int32} {bf : Nat → Int32} (h_T : Mw t0 = some (.inr (9, [.ref b0, .int us0]))) (h_B : Mw b0 = some (.inl (G.2.1 0, 20, .inl bf))) : Met l yX6_volume wsX6_volume ({ frames := 0, cells := 0, slots := 0, locals := 0 }) (va_Pc [.ref t0, .int (nI n9)] (mB G A Mw)) (va_Qi (fun r Mw1 => r = (msum bf n9) ∧ Mw1 = Mw) (mE G A) A) 0 0 A := by
  refine Met.ofW (cc := cX6_volume) (maxL := 4) (ret := (some .int)) (by decide) rfl ?_
  intro p e s m args below meth c s₁ B hml hv
  obtain ⟨rfl, hG, hP, hI, hA⟩ := hv
  have hx := B.exec
  have hb := B.bytes
  have hr := B.returns
  have hts := atoms_spec (ws := wsX6_volume) B.pre
  have hown : s.vm.findClass RX6 = some m.cls := findClass_of_methodNamed B.named
  have hlocks := B.notSynchronized
  have hK := hG.K
  have i_X6 : ∀ w ∈ wsX60, w ∈ wsX6_volume := by decide +kernel
  have hS : va_S A s.heap s.heap [] := va_S.rf
  have hl := lv_entry ([.ref t0, .int (nI n9)]) (n := 4) (Nat.le_of_ble_eq_true rfl)
  rw [lg_entry_eq]
  generalize (lg_sl ([.ref t0, .int (nI n9)]) ++ List.replicate (4 - (lg_sl ([.ref t0, .int (nI n9)])).length) Slot.unset).toArray = ls at hl ⊢
  have hl : lv_has ls 4 [(0, .ref t0), (1, .int (nI n9))] := hl
  have hP : mP G.1 Mw s.heap := hP
  refine lv_iconst (v := 0) hx hb dX6_volume_0 (by decide) ?_
  refine lv_istore_n (lv' := [(2, .int 0), (0, .ref t0), (1, .int (nI n9))]) hx hb dX6_volume_1 rfl hl (by decide) rfl (fun ls hl => ?_)
  refine lv_iconst (v := 0) hx hb dX6_volume_2 (by decide) ?_
  refine lv_istore_n (lv' := [(3, .int 0), (2, .int 0), (0, .ref t0), (1, .int (nI n9))]) hx hb dX6_volume_3 rfl hl (by decide) rfl (fun ls hl => ?_)
  have loop : ∀ (n k : Nat), k ≤ n9 → k + n = n9 + 1 → ∀ (H : Heap) (locs : List Loc) (ls : Array Slot), mP G.1 (Mw) H → mI A (Mw) → va_S A s.heap H locs → lv_has ls 4 [(0, .ref t0), (1, .int (nI n9)), (2, .int (msum bf k)), (3, .int (nI k))] → W p l e ({ frames := 0, cells := 0, slots := 0, locals := 0 }) s m ([.ref t0, .int (nI n9)] : List Value).toArray below meth c H locs 0 0 (MQ below (va_Qi (fun r Mw1 => r = (msum bf n9) ∧ Mw1 = Mw) (mE G A) A) ([.ref t0, .int (nI n9)] : List Value).toArray s 0 0 A) (F0 m 4 ls []) := by
    intro n
    induction n with
    | zero => intro k hk1 hk2; omega
    | succ n ih_loop =>
      intro k hk1 hk2 H locs ls hP hI hS hl
      refine lv_iload_n hx hb dX6_volume_4 rfl (lv_at hl 3 rfl) ?_
      refine lv_iload_n hx hb dX6_volume_5 rfl (lv_at hl 1 rfl) ?_
      refine lv_icmp_ge (tgt := 27) hx hb dX6_volume_6 (by decide) (fun c1 => ?_) (fun c1 => ?_)
      · skip
        have hk9 : k = n9 := by have h8 := (nI_leI (a := n9) (b := k) (by omega) (by omega)).mp c1; omega
        refine lv_iload_n hx hb dX6_volume_27 rfl (lv_at hl 2 rfl) ?_
        refine W.widen (k := 0) (n := 0) (Nat.le_of_ble_eq_true rfl) (Nat.le_of_ble_eq_true rfl) ?_
        exact W.iret (v := msum bf k) hx hb hr (fun t99 ht99 hW99 => ⟨⟨msum bf k, Mw, rfl, ⟨by rw [hk9], rfl⟩, by rw [ht99]; exact hP, hI⟩, hS.F ht99⟩) hS.2.2 dX6_volume_28
      · skip
        have hk9 : k < n9 := Nat.lt_of_not_le (fun q => c1 (nI_le (a := n9) q (by omega)))
        refine lv_iload_n hx hb dX6_volume_9 rfl (lv_at hl 2 rfl) ?_
        refine lv_aload_n hx hb dX6_volume_10 rfl (lv_at hl 0 rfl) ?_
        refine m_get (ci := 9) (v := .ref b0) (C := RX6) (T := TX6) (N := 2) hx hb hts i_X6 hown hK (hP _ _ h_T) rfl 0 (by decide) (hts (.fieldLink RX6 9 "MeniscusModel$Tube" "bores" "[I") (by decide +kernel)) (fun _ h9 => h9) rfl dX6_volume_11 ?_
        refine lv_iload_n hx hb dX6_volume_14 rfl (lv_at hl 3 rfl) ?_
        refine lv_bipush (v := (10)) hx hb dX6_volume_15 (by decide) ?_
        refine lv_idiv hx hb dX6_volume_17 (by decide) ?_
        rw [nI_d10 (show k < 2 ^ 31 by omega)]
        refine m_iald hx hb hK 0 (hP _ _ h_B) rfl (vp_in_nI (by omega) (by omega)) dX6_volume_18 ?_
        rw [nI_clamp (show k / 10 < 2 ^ 31 by omega)]
        refine lv_iadd hx hb dX6_volume_19 ?_
        refine lv_istore_n (lv' := [(2, .int ((msum bf k) + (bf (k / 10)))), (0, .ref t0), (1, .int (nI n9)), (3, .int (nI k))]) hx hb dX6_volume_20 rfl hl (by decide) rfl (fun ls hl => ?_)
        refine lv_iinc (v := (nI k) + 1) (lv' := [(3, .int ((nI k) + 1)), (2, .int ((msum bf k) + (bf (k / 10)))), (0, .ref t0), (1, .int (nI n9))]) hx hb dX6_volume_21 hl (k := 3) rfl rfl (by decide) rfl (fun ls hl => ?_)
        refine lv_goto (tgt := 4) hx hb dX6_volume_24 (by decide) ?_
        have e_3 : (nI k) + 1 = nI (k + 1) := nI_1 k
        rw [e_3] at hl
        have e_2 : (msum bf k) + (bf (k / 10)) = msum bf (k + 1) := rfl
        rw [e_2] at hl
        exact ih_loop (k + 1) (by omega) (by omega) H locs ls hP hI hS (lv_sub hl [2, 3, 1, 0] rfl)
  exact loop (n9 + 1 - 0) 0 (by omega) (by omega) _ _ _ hP hI hS (lv_sub hl [2, 3, 1, 0] rfl)

def mfi (li sm : Int32) : Int32 := if li = 32 then 0 else if sm = 0 then 1 else 0
set_option maxHeartbeats 4000000 in
set_option maxRecDepth 100000 in
theorem c_X5_isFilled (l : Launch) (G : mg) (A : Nat → Prop) (Mw : mw) {a0 t0 rd0 ht0 : Nat} {bu0 gl0 cr0 in0 li0 sm0 ice0 stm0 stt0 kin0 ga0 ke0 gr0 ce0 : Int32} (h_I : Mw a0 = some (.inr (8, [.ref t0, .int bu0, .int (sof gl0), .int cr0, .int in0, .int li0, .int sm0, .int ice0, .int stm0, .int stt0, .int kin0, .int ga0, .int ke0, .int gr0, .int ce0, .ref rd0, .ref ht0]))) : Met l yX5_isFilled wsX5_isFilled ({ frames := 0, cells := 0, slots := 0, locals := 0 }) (va_Pc [.ref a0] (mB G A Mw)) (va_Qi (fun r Mw1 => r = (mfi li0 sm0) ∧ Mw1 = Mw) (mE G A) A) 0 0 A := by
  refine Met.ofW (cc := cX5_isFilled) (maxL := 1) (ret := (some .boolean)) (by decide) rfl ?_
  intro p e s m args below meth c s₁ B hml hv
  obtain ⟨rfl, hG, hP, hI, hA⟩ := hv
  have hx := B.exec
  have hb := B.bytes
  have hr := B.returns
  have hts := atoms_spec (ws := wsX5_isFilled) B.pre
  have hown : s.vm.findClass RX5 = some m.cls := findClass_of_methodNamed B.named
  have hlocks := B.notSynchronized
  have hK := hG.K
  have i_X5 : ∀ w ∈ wsX50, w ∈ wsX5_isFilled := by decide +kernel
  have hS : va_S A s.heap s.heap [] := va_S.rf
  have hl := lv_entry ([.ref a0]) (n := 1) (Nat.le_of_ble_eq_true rfl)
  rw [lg_entry_eq]
  generalize (lg_sl ([.ref a0]) ++ List.replicate (1 - (lg_sl ([.ref a0])).length) Slot.unset).toArray = ls at hl ⊢
  have hl : lv_has ls 1 [(0, .ref a0)] := hl
  have hP : mP G.1 Mw s.heap := hP
  refine lv_aload_n hx hb dX5_isFilled_0 rfl (lv_at hl 0 rfl) ?_
  refine m_get (ci := 8) (v := .int li0) (C := RX5) (T := TX5) (N := 17) hx hb hts i_X5 hown hK (hP _ _ h_I) rfl 5 (by decide) (hts (.fieldLink RX5 9 "MeniscusModel$Instrument" "liquid" "C") (by decide +kernel)) (fun _ h9 => h9) rfl dX5_isFilled_1 ?_
  refine lv_bipush (v := (32)) hx hb dX5_isFilled_4 (by decide) ?_
  refine lv_icmp_eq (tgt := 20) hx hb dX5_isFilled_6 (by decide) (fun c1 => ?_) (fun c1 => ?_)
  · skip
    refine lv_iconst (v := 0) hx hb dX5_isFilled_20 (by decide) ?_
    refine W.widen (k := 0) (n := 0) (Nat.le_of_ble_eq_true rfl) (Nat.le_of_ble_eq_true rfl) ?_
    exact W.zret (v := 0) hx hb hr rfl (fun t99 ht99 hW99 => ⟨⟨0, Mw, rfl, ⟨by unfold mfi; rw [if_pos c1], rfl⟩, by rw [ht99]; exact hP, hI⟩, hS.F ht99⟩) hS.2.2 dX5_isFilled_21
  · skip
    refine lv_aload_n hx hb dX5_isFilled_9 rfl (lv_at hl 0 rfl) ?_
    refine m_get (ci := 8) (v := .int sm0) (C := RX5) (T := TX5) (N := 17) hx hb hts i_X5 hown hK (hP _ _ h_I) rfl 6 (by decide) (hts (.fieldLink RX5 52 "MeniscusModel$Instrument" "isSmashed" "Z") (by decide +kernel)) (fun _ h9 => h9) rfl dX5_isFilled_10 ?_
    refine lv_if_ne (tgt := 20) hx hb dX5_isFilled_13 (by decide) (fun c2 => ?_) (fun c2 => ?_)
    · skip
      refine lv_iconst (v := 0) hx hb dX5_isFilled_20 (by decide) ?_
      refine W.widen (k := 0) (n := 0) (Nat.le_of_ble_eq_true rfl) (Nat.le_of_ble_eq_true rfl) ?_
      exact W.zret (v := 0) hx hb hr rfl (fun t99 ht99 hW99 => ⟨⟨0, Mw, rfl, ⟨by unfold mfi; rw [if_neg c1, if_neg c2], rfl⟩, by rw [ht99]; exact hP, hI⟩, hS.F ht99⟩) hS.2.2 dX5_isFilled_21
    · skip
      refine lv_iconst (v := 1) hx hb dX5_isFilled_16 (by decide) ?_
      refine lv_goto (tgt := 21) hx hb dX5_isFilled_17 (by decide) ?_
      refine W.widen (k := 0) (n := 0) (Nat.le_of_ble_eq_true rfl) (Nat.le_of_ble_eq_true rfl) ?_
      exact W.zret (v := 1) hx hb hr rfl (fun t99 ht99 hW99 => ⟨⟨1, Mw, rfl, ⟨by unfold mfi; rw [if_neg c1, if_pos c2], rfl⟩, by rw [ht99]; exact hP, hI⟩, hS.F ht99⟩) hS.2.2 dX5_isFilled_21

set_option maxHeartbeats 4000000 in
set_option maxRecDepth 100000 in
theorem c_X5_grows (l : Launch) (G : mg) (A : Nat → Prop) (Mw : mw) {a0 t0 rd0 ht0 : Nat} {bu0 gl0 cr0 in0 li0 sm0 ice0 stm0 stt0 kin0 ga0 ke0 gr0 ce0 : Int32} (h_I : Mw a0 = some (.inr (8, [.ref t0, .int bu0, .int (sof gl0), .int cr0, .int in0, .int li0, .int sm0, .int ice0, .int stm0, .int stt0, .int kin0, .int ga0, .int ke0, .int gr0, .int ce0, .ref rd0, .ref ht0]))) : Met l yX5_grows wsX5_grows ({ frames := 0, cells := 0, slots := 0, locals := 0 }) (va_Pc [.ref a0] (mB G A Mw)) (va_Qi (fun r Mw1 => r = (lgr li0) ∧ Mw1 = Mw) (mE G A) A) 0 0 A := by
  refine Met.ofW (cc := cX5_grows) (maxL := 1) (ret := (some .int)) (by decide) rfl ?_
  intro p e s m args below meth c s₁ B hml hv
  obtain ⟨rfl, hG, hP, hI, hA⟩ := hv
  have hx := B.exec
  have hb := B.bytes
  have hr := B.returns
  have hts := atoms_spec (ws := wsX5_grows) B.pre
  have hown : s.vm.findClass RX5 = some m.cls := findClass_of_methodNamed B.named
  have hlocks := B.notSynchronized
  have hK := hG.K
  have i_X5 : ∀ w ∈ wsX50, w ∈ wsX5_grows := by decide +kernel
  have hS : va_S A s.heap s.heap [] := va_S.rf
  have hl := lv_entry ([.ref a0]) (n := 1) (Nat.le_of_ble_eq_true rfl)
  rw [lg_entry_eq]
  generalize (lg_sl ([.ref a0]) ++ List.replicate (1 - (lg_sl ([.ref a0])).length) Slot.unset).toArray = ls at hl ⊢
  have hl : lv_has ls 1 [(0, .ref a0)] := hl
  have hP : mP G.1 Mw s.heap := hP
  refine lv_aload_n hx hb dX5_grows_0 rfl (lv_at hl 0 rfl) ?_
  refine m_get (ci := 8) (v := .int li0) (C := RX5) (T := TX5) (N := 17) hx hb hts i_X5 hown hK (hP _ _ h_I) rfl 5 (by decide) (hts (.fieldLink RX5 9 "MeniscusModel$Instrument" "liquid" "C") (by decide +kernel)) (fun _ h9 => h9) rfl dX5_grows_1 ?_
  refine lv_bipush (v := (109)) hx hb dX5_grows_4 (by decide) ?_
  refine lv_icmp_ne (tgt := 14) hx hb dX5_grows_6 (by decide) (fun c1 => ?_) (fun c1 => ?_)
  · skip
    refine lv_bipush (v := (110)) hx hb dX5_grows_14 (by decide) ?_
    refine W.widen (k := 0) (n := 0) (Nat.le_of_ble_eq_true rfl) (Nat.le_of_ble_eq_true rfl) ?_
    exact W.iret (v := 110) hx hb hr (fun t99 ht99 hW99 => ⟨⟨110, Mw, rfl, ⟨by unfold lgr; rw [if_neg c1], rfl⟩, by rw [ht99]; exact hP, hI⟩, hS.F ht99⟩) hS.2.2 dX5_grows_16
  · skip
    refine lv_bipush (v := (18)) hx hb dX5_grows_9 (by decide) ?_
    refine lv_goto (tgt := 16) hx hb dX5_grows_11 (by decide) ?_
    refine W.widen (k := 0) (n := 0) (Nat.le_of_ble_eq_true rfl) (Nat.le_of_ble_eq_true rfl) ?_
    exact W.iret (v := 18) hx hb hr (fun t99 ht99 hW99 => ⟨⟨18, Mw, rfl, ⟨by unfold lgr; rw [if_pos c1], rfl⟩, by rw [ht99]; exact hP, hI⟩, hS.F ht99⟩) hS.2.2 dX5_grows_16

theorem sof_0 {gl : Int32} (h : sof gl = 0) : gl = 104 := by
  unfold sof at h
  by_cases q : gl = 104
  · exact q
  · rw [if_neg q] at h
    exact absurd h (by decide)
theorem sof_1 {gl : Int32} (h : ¬ sof gl = 0) : ¬ gl = 104 := fun q => h (by unfold sof; rw [if_pos q])
set_option maxHeartbeats 4000000 in
set_option maxRecDepth 100000 in
theorem c_X5_creeps (l : Launch) (G : mg) (A : Nat → Prop) (Mw : mw) {a0 t0 rd0 ht0 : Nat} {bu0 gl0 cr0 in0 li0 sm0 ice0 stm0 stt0 kin0 ga0 ke0 gr0 ce0 : Int32} (h_I : Mw a0 = some (.inr (8, [.ref t0, .int bu0, .int (sof gl0), .int cr0, .int in0, .int li0, .int sm0, .int ice0, .int stm0, .int stt0, .int kin0, .int ga0, .int ke0, .int gr0, .int ce0, .ref rd0, .ref ht0]))) : Met l yX5_creeps wsX5_creeps ({ frames := 0, cells := 0, slots := 0, locals := 0 }) (va_Pc [.ref a0] (mB G A Mw)) (va_Qv (fun Mw1 => Mw1 = mu Mw a0 (.inr (8, [.ref t0, .int bu0, .int (sof gl0), .int (cr0 + (cia bu0 gl0 - cr0 + 19) / 20), .int in0, .int li0, .int sm0, .int ice0, .int stm0, .int stt0, .int kin0, .int ga0, .int ke0, .int gr0, .int ce0, .ref rd0, .ref ht0]))) (mE G A) A) 0 0 A := by
  refine Met.ofW (cc := cX5_creeps) (maxL := 2) (ret := none) (by decide) rfl ?_
  intro p e s m args below meth c s₁ B hml hv
  obtain ⟨rfl, hG, hP, hI, hA⟩ := hv
  have hx := B.exec
  have hb := B.bytes
  have hr := B.returns
  have hts := atoms_spec (ws := wsX5_creeps) B.pre
  have hown : s.vm.findClass RX5 = some m.cls := findClass_of_methodNamed B.named
  have hlocks := B.notSynchronized
  have hK := hG.K
  have i_X5 : ∀ w ∈ wsX50, w ∈ wsX5_creeps := by decide +kernel
  have hS : va_S A s.heap s.heap [] := va_S.rf
  have hl := lv_entry ([.ref a0]) (n := 2) (Nat.le_of_ble_eq_true rfl)
  rw [lg_entry_eq]
  generalize (lg_sl ([.ref a0]) ++ List.replicate (2 - (lg_sl ([.ref a0])).length) Slot.unset).toArray = ls at hl ⊢
  have hl : lv_has ls 2 [(0, .ref a0)] := hl
  have hP : mP G.1 Mw s.heap := hP
  refine lv_aload_n hx hb dX5_creeps_0 rfl (lv_at hl 0 rfl) ?_
  refine m_get (ci := 8) (v := .int bu0) (C := RX5) (T := TX5) (N := 17) hx hb hts i_X5 hown hK (hP _ _ h_I) rfl 1 (by decide) (hts (.fieldLink RX5 45 "MeniscusModel$Instrument" "bulb" "I") (by decide +kernel)) (fun _ h9 => h9) rfl dX5_creeps_1 ?_
  refine lv_aload_n hx hb dX5_creeps_4 rfl (lv_at hl 0 rfl) ?_
  refine m_get (ci := 8) (v := .int (sof gl0)) (C := RX5) (T := TX5) (N := 17) hx hb hts i_X5 hown hK (hP _ _ h_I) rfl 2 (by decide) (hts (.fieldLink RX5 48 "MeniscusModel$Instrument" "isSoft" "Z") (by decide +kernel)) (fun _ h9 => h9) rfl dX5_creeps_5 ?_
  refine lv_if_eq (tgt := 16) hx hb dX5_creeps_8 (by decide) (fun c1 => ?_) (fun c1 => ?_)
  · skip
    refine lv_iconst (v := 2) hx hb dX5_creeps_16 (by decide) ?_
    refine lv_imul hx hb dX5_creeps_17 ?_
    refine lv_sipush (v := (1000)) hx hb dX5_creeps_18 (by decide) ?_
    refine lv_idiv hx hb dX5_creeps_21 (by decide) ?_
    refine lv_istore_n (lv' := [(1, .int ((bu0 * 2) / 1000)), (0, .ref a0)]) hx hb dX5_creeps_22 rfl hl (by decide) rfl (fun ls hl => ?_)
    refine lv_aload_n hx hb dX5_creeps_23 rfl (lv_at hl 1 rfl) ?_
    refine lv_dup hx hb dX5_creeps_24 rfl ?_
    refine m_get (ci := 8) (v := .int cr0) (C := RX5) (T := TX5) (N := 17) hx hb hts i_X5 hown hK (hP _ _ h_I) rfl 3 (by decide) (hts (.fieldLink RX5 55 "MeniscusModel$Instrument" "crept" "I") (by decide +kernel)) (fun _ h9 => h9) rfl dX5_creeps_25 ?_
    refine lv_iload_n hx hb dX5_creeps_28 rfl (lv_at hl 0 rfl) ?_
    refine lv_aload_n hx hb dX5_creeps_29 rfl (lv_at hl 1 rfl) ?_
    refine m_get (ci := 8) (v := .int cr0) (C := RX5) (T := TX5) (N := 17) hx hb hts i_X5 hown hK (hP _ _ h_I) rfl 3 (by decide) (hts (.fieldLink RX5 55 "MeniscusModel$Instrument" "crept" "I") (by decide +kernel)) (fun _ h9 => h9) rfl dX5_creeps_30 ?_
    refine lv_isub hx hb dX5_creeps_33 ?_
    refine lv_bipush (v := (19)) hx hb dX5_creeps_34 (by decide) ?_
    refine lv_iadd hx hb dX5_creeps_36 ?_
    refine lv_bipush (v := (20)) hx hb dX5_creeps_37 (by decide) ?_
    refine lv_idiv hx hb dX5_creeps_39 (by decide) ?_
    refine lv_iadd hx hb dX5_creeps_40 ?_
    refine m_put (ci := 8) (v := .int (cr0 + (((((bu0 * 2) / 1000) - cr0) + 19) / 20))) (ty := .int) (C := RX5) (T := TX5) (N := 17) hx hb hts i_X5 tyX5 tyX5_ok nmX5 hown hK hP hI hS h_I rfl 3 (by decide) (hts (.fieldLink RX5 55 "MeniscusModel$Instrument" "crept" "I") (by decide +kernel)) (fun _ h9 => h9) rfl (by decide +kernel) rfl rfl (Nat.le_of_ble_eq_true rfl) dX5_creeps_41 (fun H locs hP hI hS => ?_)
    have hP : mP G.1 (mu Mw a0 (.inr (8, [.ref t0, .int bu0, .int (sof gl0), .int (cr0 + (((((bu0 * 2) / 1000) - cr0) + 19) / 20)), .int in0, .int li0, .int sm0, .int ice0, .int stm0, .int stt0, .int kin0, .int ga0, .int ke0, .int gr0, .int ce0, .ref rd0, .ref ht0]))) H := hP
    have hI : mI A (mu Mw a0 (.inr (8, [.ref t0, .int bu0, .int (sof gl0), .int (cr0 + (((((bu0 * 2) / 1000) - cr0) + 19) / 20)), .int in0, .int li0, .int sm0, .int ice0, .int stm0, .int stt0, .int kin0, .int ga0, .int ke0, .int gr0, .int ce0, .ref rd0, .ref ht0]))) := hI
    have h_I : (mu Mw a0 (.inr (8, [.ref t0, .int bu0, .int (sof gl0), .int (cr0 + (((((bu0 * 2) / 1000) - cr0) + 19) / 20)), .int in0, .int li0, .int sm0, .int ice0, .int stm0, .int stt0, .int kin0, .int ga0, .int ke0, .int gr0, .int ce0, .ref rd0, .ref ht0]))) a0 = some (.inr (8, [.ref t0, .int bu0, .int (sof gl0), .int (cr0 + (((((bu0 * 2) / 1000) - cr0) + 19) / 20)), .int in0, .int li0, .int sm0, .int ice0, .int stm0, .int stt0, .int kin0, .int ga0, .int ke0, .int gr0, .int ce0, .ref rd0, .ref ht0])) := mu_s
    refine W.widen (k := 0) (n := 0) (Nat.le_of_ble_eq_true rfl) (Nat.le_of_ble_eq_true rfl) ?_
    exact W.vret hx hb hr (fun t99 ht99 hW99 => ⟨⟨(mu Mw a0 (.inr (8, [.ref t0, .int bu0, .int (sof gl0), .int (cr0 + (((((bu0 * 2) / 1000) - cr0) + 19) / 20)), .int in0, .int li0, .int sm0, .int ice0, .int stm0, .int stt0, .int kin0, .int ga0, .int ke0, .int gr0, .int ce0, .ref rd0, .ref ht0]))), rfl, mw_ext1 (h_I.trans (congrArg some (by unfold cia; rw [if_pos (sof_0 c1)]))) (fun z h1 => (mu_n h1).trans (rfl)), by rw [ht99]; exact hP, hI⟩, hS.F ht99⟩) hS.2.2 dX5_creeps_44
  · skip
    refine lv_bipush (v := (6)) hx hb dX5_creeps_11 (by decide) ?_
    refine lv_goto (tgt := 17) hx hb dX5_creeps_13 (by decide) ?_
    refine lv_imul hx hb dX5_creeps_17 ?_
    refine lv_sipush (v := (1000)) hx hb dX5_creeps_18 (by decide) ?_
    refine lv_idiv hx hb dX5_creeps_21 (by decide) ?_
    refine lv_istore_n (lv' := [(1, .int ((bu0 * 6) / 1000)), (0, .ref a0)]) hx hb dX5_creeps_22 rfl hl (by decide) rfl (fun ls hl => ?_)
    refine lv_aload_n hx hb dX5_creeps_23 rfl (lv_at hl 1 rfl) ?_
    refine lv_dup hx hb dX5_creeps_24 rfl ?_
    refine m_get (ci := 8) (v := .int cr0) (C := RX5) (T := TX5) (N := 17) hx hb hts i_X5 hown hK (hP _ _ h_I) rfl 3 (by decide) (hts (.fieldLink RX5 55 "MeniscusModel$Instrument" "crept" "I") (by decide +kernel)) (fun _ h9 => h9) rfl dX5_creeps_25 ?_
    refine lv_iload_n hx hb dX5_creeps_28 rfl (lv_at hl 0 rfl) ?_
    refine lv_aload_n hx hb dX5_creeps_29 rfl (lv_at hl 1 rfl) ?_
    refine m_get (ci := 8) (v := .int cr0) (C := RX5) (T := TX5) (N := 17) hx hb hts i_X5 hown hK (hP _ _ h_I) rfl 3 (by decide) (hts (.fieldLink RX5 55 "MeniscusModel$Instrument" "crept" "I") (by decide +kernel)) (fun _ h9 => h9) rfl dX5_creeps_30 ?_
    refine lv_isub hx hb dX5_creeps_33 ?_
    refine lv_bipush (v := (19)) hx hb dX5_creeps_34 (by decide) ?_
    refine lv_iadd hx hb dX5_creeps_36 ?_
    refine lv_bipush (v := (20)) hx hb dX5_creeps_37 (by decide) ?_
    refine lv_idiv hx hb dX5_creeps_39 (by decide) ?_
    refine lv_iadd hx hb dX5_creeps_40 ?_
    refine m_put (ci := 8) (v := .int (cr0 + (((((bu0 * 6) / 1000) - cr0) + 19) / 20))) (ty := .int) (C := RX5) (T := TX5) (N := 17) hx hb hts i_X5 tyX5 tyX5_ok nmX5 hown hK hP hI hS h_I rfl 3 (by decide) (hts (.fieldLink RX5 55 "MeniscusModel$Instrument" "crept" "I") (by decide +kernel)) (fun _ h9 => h9) rfl (by decide +kernel) rfl rfl (Nat.le_of_ble_eq_true rfl) dX5_creeps_41 (fun H locs hP hI hS => ?_)
    have hP : mP G.1 (mu Mw a0 (.inr (8, [.ref t0, .int bu0, .int (sof gl0), .int (cr0 + (((((bu0 * 6) / 1000) - cr0) + 19) / 20)), .int in0, .int li0, .int sm0, .int ice0, .int stm0, .int stt0, .int kin0, .int ga0, .int ke0, .int gr0, .int ce0, .ref rd0, .ref ht0]))) H := hP
    have hI : mI A (mu Mw a0 (.inr (8, [.ref t0, .int bu0, .int (sof gl0), .int (cr0 + (((((bu0 * 6) / 1000) - cr0) + 19) / 20)), .int in0, .int li0, .int sm0, .int ice0, .int stm0, .int stt0, .int kin0, .int ga0, .int ke0, .int gr0, .int ce0, .ref rd0, .ref ht0]))) := hI
    have h_I : (mu Mw a0 (.inr (8, [.ref t0, .int bu0, .int (sof gl0), .int (cr0 + (((((bu0 * 6) / 1000) - cr0) + 19) / 20)), .int in0, .int li0, .int sm0, .int ice0, .int stm0, .int stt0, .int kin0, .int ga0, .int ke0, .int gr0, .int ce0, .ref rd0, .ref ht0]))) a0 = some (.inr (8, [.ref t0, .int bu0, .int (sof gl0), .int (cr0 + (((((bu0 * 6) / 1000) - cr0) + 19) / 20)), .int in0, .int li0, .int sm0, .int ice0, .int stm0, .int stt0, .int kin0, .int ga0, .int ke0, .int gr0, .int ce0, .ref rd0, .ref ht0])) := mu_s
    refine W.widen (k := 0) (n := 0) (Nat.le_of_ble_eq_true rfl) (Nat.le_of_ble_eq_true rfl) ?_
    exact W.vret hx hb hr (fun t99 ht99 hW99 => ⟨⟨(mu Mw a0 (.inr (8, [.ref t0, .int bu0, .int (sof gl0), .int (cr0 + (((((bu0 * 6) / 1000) - cr0) + 19) / 20)), .int in0, .int li0, .int sm0, .int ice0, .int stm0, .int stt0, .int kin0, .int ga0, .int ke0, .int gr0, .int ce0, .ref rd0, .ref ht0]))), rfl, mw_ext1 (h_I.trans (congrArg some (by unfold cia; rw [if_neg (sof_1 c1)]))) (fun z h1 => (mu_n h1).trans (rfl)), by rw [ht99]; exact hP, hI⟩, hS.F ht99⟩) hS.2.2 dX5_creeps_44
