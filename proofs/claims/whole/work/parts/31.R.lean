/-! ===== the reference: a tube, an instrument ===== -/
def msum (bf : Nat → Int32) : Nat → Int32
  | 0 => 0
  | k + 1 => msum bf k + bf (k / 10)
theorem nI_d10 {k : Nat} (h : k < 2 ^ 31) : nI k / 10 = nI (k / 10) := by
  rw [← Int32.toInt_inj, t_div (by rw [nI_toInt h]; omega) (by decide), nI_toInt h, nI_toInt (by omega)]
  rfl
def sof (gl : Int32) : Int32 := if gl = 104 then 0 else 1
set_option maxHeartbeats 4000000 in
set_option maxRecDepth 100000 in
theorem c_X6_volume (l : Launch) (G : mg) (A : Nat → Prop) (Mw : mw) (n9 : Nat) (hn9 : n9 ≤ 200) {t0 b0 : Nat} {us0 : Int32} {bf : Nat → Int32} (h_T : Mw t0 = some (.inr (9, [.ref b0, .int us0]))) (h_B : Mw b0 = some (.inl (G.2.1 0, 20, .inl bf))) : Met l yX6_volume wsX6_volume ({ frames := 0, cells := 0, slots := 0, locals := 0 }) (va_Pc [.ref t0, .int (nI n9)] (mB G A Mw)) (va_Qi (fun r Mw1 => r = (msum bf n9) ∧ Mw1 = Mw) (mE G A) A) 0 0 A := by
  refine Met.ofW (cc := cX6_volume) (maxL := 4) (ret := (some .int)) (by decide) rfl ?_
  intro p e s m args below meth c s₁ B hml hv
  obtain ⟨rfl, hG, hP, hI, hA⟩ := hv
  have hx := B.exec
  have hb := B.bytes
  have hr := B.returns
  have hts := atoms_spec (ws := wsX6_volume) B.pre
  have hown : s.vm.findClass RX6 = some m.cls := findClass_of_methodNamed B.named
  have hlocks := B.notSynchronized
  have hK := hG.K
  have i_X6 : ∀ w ∈ wsX60, w ∈ wsX6_volume := by decide +kernel
  have hS : va_S A s.heap s.heap [] := va_S.rf
  have hl := lv_entry ([.ref t0, .int (nI n9)]) (n := 4) (Nat.le_of_ble_eq_true rfl)
  rw [lg_entry_eq]
  generalize (lg_sl ([.ref t0, .int (nI n9)]) ++ List.replicate (4 - (lg_sl ([.ref t0, .int (nI n9)])).length) Slot.unset).toArray = ls at hl ⊢
  have hl : lv_has ls 4 [(0, .ref t0), (1, .int (nI n9))] := hl
  have hP : mP G.1 Mw s.heap := hP
  refine lv_iconst (v := 0) hx hb dX6_volume_0 (by decide) ?_
  refine lv_istore_n (lv' := [(2, .int 0), (0, .ref t0), (1, .int (nI n9))]) hx hb dX6_volume_1 rfl hl (by decide) rfl (fun ls hl => ?_)
  refine lv_iconst (v := 0) hx hb dX6_volume_2 (by decide) ?_
  refine lv_istore_n (lv' := [(3, .int 0), (2, .int 0), (0, .ref t0), (1, .int (nI n9))]) hx hb dX6_volume_3 rfl hl (by decide) rfl (fun ls hl => ?_)
  have loop : ∀ (n k : Nat), k ≤ n9 → k + n = n9 + 1 → ∀ (H : Heap) (locs : List Loc) (ls : Array Slot), mP G.1 (Mw) H → mI A (Mw) → va_S A s.heap H locs → lv_has ls 4 [(0, .ref t0), (1, .int (nI n9)), (2, .int (msum bf k)), (3, .int (nI k))] → W p l e ({ frames := 0, cells := 0, slots := 0, locals := 0 }) s m ([.ref t0, .int (nI n9)] : List Value).toArray below meth c H locs 0 0 (MQ below (va_Qi (fun r Mw1 => r = (msum bf n9) ∧ Mw1 = Mw) (mE G A) A) ([.ref t0, .int (nI n9)] : List Value).toArray s 0 0 A) (F0 m 4 ls []) := by
    intro n
    induction n with
    | zero => intro k hk1 hk2; omega
    | succ n ih_loop =>
      intro k hk1 hk2 H locs ls hP hI hS hl
      refine lv_iload_n hx hb dX6_volume_4 rfl (lv_at hl 3 rfl) ?_
      refine lv_iload_n hx hb dX6_volume_5 rfl (lv_at hl 1 rfl) ?_
      refine lv_icmp_ge (tgt := 27) hx hb dX6_volume_6 (by decide) (fun c1 => ?_) (fun c1 => ?_)
      · skip
        have hk9 : k = n9 := by have h8 := (nI_leI (a := n9) (b := k) (by omega) (by omega)).mp c1; omega
        refine lv_iload_n hx hb dX6_volume_27 rfl (lv_at hl 2 rfl) ?_
        refine W.widen (k := 0) (n := 0) (Nat.le_of_ble_eq_true rfl) (Nat.le_of_ble_eq_true rfl) ?_
        exact W.iret (v := msum bf k) hx hb hr (fun t99 ht99 hW99 => ⟨⟨msum bf k, Mw, rfl, ⟨by rw [hk9], rfl⟩, by rw [ht99]; exact hP, hI⟩, hS.F ht99⟩) hS.2.2 dX6_volume_28
      · skip
        have hk9 : k < n9 := Nat.lt_of_not_le (fun q => c1 (nI_le (a := n9) q (by omega)))
        refine lv_iload_n hx hb dX6_volume_9 rfl (lv_at hl 2 rfl) ?_
        refine lv_aload_n hx hb dX6_volume_10 rfl (lv_at hl 0 rfl) ?_
        refine m_get (ci := 9) (v := .ref b0) (C := RX6) (T := TX6) (N := 2) hx hb hts i_X6 hown hK (hP _ _ h_T) rfl 0 (by decide) (hts (.fieldLink RX6 9 "MeniscusModel$Tube" "bores" "[I") (by decide +kernel)) (fun _ h9 => h9) rfl dX6_volume_11 ?_
        refine lv_iload_n hx hb dX6_volume_14 rfl (lv_at hl 3 rfl) ?_
        refine lv_bipush (v := (10)) hx hb dX6_volume_15 (by decide) ?_
        refine lv_idiv hx hb dX6_volume_17 (by decide) ?_
        rw [nI_d10 (show k < 2 ^ 31 by omega)]
        refine m_iald hx hb hK 0 (hP _ _ h_B) rfl (vp_in_nI (by omega) (by omega)) dX6_volume_18 ?_
        rw [nI_clamp (show k / 10 < 2 ^ 31 by omega)]
        refine lv_iadd hx hb dX6_volume_19 ?_
        refine lv_istore_n (lv' := [(2, .int ((msum bf k) + (bf (k / 10)))), (0, .ref t0), (1, .int (nI n9)), (3, .int (nI k))]) hx hb dX6_volume_20 rfl hl (by decide) rfl (fun ls hl => ?_)
        refine lv_iinc (v := (nI k) + 1) (lv' := [(3, .int ((nI k) + 1)), (2, .int ((msum bf k) + (bf (k / 10)))), (0, .ref t0), (1, .int (nI n9))]) hx hb dX6_volume_21 hl (k := 3) rfl rfl (by decide) rfl (fun ls hl => ?_)
        refine lv_goto (tgt := 4) hx hb dX6_volume_24 (by decide) ?_
        have e_3 : (nI k) + 1 = nI (k + 1) := nI_1 k
        rw [e_3] at hl
        have e_2 : (msum bf k) + (bf (k / 10)) = msum bf (k + 1) := rfl
        rw [e_2] at hl
        exact ih_loop (k + 1) (by omega) (by omega) H locs ls hP hI hS (lv_sub hl [2, 3, 1, 0] rfl)
  exact loop (n9 + 1 - 0) 0 (by omega) (by omega) _ _ _ hP hI hS (lv_sub hl [2, 3, 1, 0] rfl)

def mfi (li sm : Int32) : Int32 := if li = 32 then 0 else if sm = 0 then 1 else 0
set_option maxHeartbeats 4000000 in
set_option maxRecDepth 100000 in
theorem c_X5_isFilled (l : Launch) (G : mg) (A : Nat → Prop) (Mw : mw) {a0 t0 rd0 ht0 : Nat} {bu0 gl0 cr0 in0 li0 sm0 ice0 stm0 stt0 kin0 ga0 ke0 gr0 ce0 : Int32} (h_I : Mw a0 = some (.inr (8, [.ref t0, .int bu0, .int (sof gl0), .int cr0, .int in0, .int li0, .int sm0, .int ice0, .int stm0, .int stt0, .int kin0, .int ga0, .int ke0, .int gr0, .int ce0, .ref rd0, .ref ht0]))) : Met l yX5_isFilled wsX5_isFilled ({ frames := 0, cells := 0, slots := 0, locals := 0 }) (va_Pc [.ref a0] (mB G A Mw)) (va_Qi (fun r Mw1 => r = (mfi li0 sm0) ∧ Mw1 = Mw) (mE G A) A) 0 0 A := by
  refine Met.ofW (cc := cX5_isFilled) (maxL := 1) (ret := (some .boolean)) (by decide) rfl ?_
  intro p e s m args below meth c s₁ B hml hv
  obtain ⟨rfl, hG, hP, hI, hA⟩ := hv
  have hx := B.exec
  have hb := B.bytes
  have hr := B.returns
  have hts := atoms_spec (ws := wsX5_isFilled) B.pre
  have hown : s.vm.findClass RX5 = some m.cls := findClass_of_methodNamed B.named
  have hlocks := B.notSynchronized
  have hK := hG.K
  have i_X5 : ∀ w ∈ wsX50, w ∈ wsX5_isFilled := by decide +kernel
  have hS : va_S A s.heap s.heap [] := va_S.rf
  have hl := lv_entry ([.ref a0]) (n := 1) (Nat.le_of_ble_eq_true rfl)
  rw [lg_entry_eq]
  generalize (lg_sl ([.ref a0]) ++ List.replicate (1 - (lg_sl ([.ref a0])).length) Slot.unset).toArray = ls at hl ⊢
  have hl : lv_has ls 1 [(0, .ref a0)] := hl
  have hP : mP G.1 Mw s.heap := hP
  refine lv_aload_n hx hb dX5_isFilled_0 rfl (lv_at hl 0 rfl) ?_
  refine m_get (ci := 8) (v := .int li0) (C := RX5) (T := TX5) (N := 17) hx hb hts i_X5 hown hK (hP _ _ h_I) rfl 5 (by decide) (hts (.fieldLink RX5 9 "MeniscusModel$Instrument" "liquid" "C") (by decide +kernel)) (fun _ h9 => h9) rfl dX5_isFilled_1 ?_
  refine lv_bipush (v := (32)) hx hb dX5_isFilled_4 (by decide) ?_
  refine lv_icmp_eq (tgt := 20) hx hb dX5_isFilled_6 (by decide) (fun c1 => ?_) (fun c1 => ?_)
  · skip
    refine lv_iconst (v := 0) hx hb dX5_isFilled_20 (by decide) ?_
    refine W.widen (k := 0) (n := 0) (Nat.le_of_ble_eq_true rfl) (Nat.le_of_ble_eq_true rfl) ?_
    exact W.zret (v := 0) hx hb hr rfl (fun t99 ht99 hW99 => ⟨⟨0, Mw, rfl, ⟨by unfold mfi; rw [if_pos c1], rfl⟩, by rw [ht99]; exact hP, hI⟩, hS.F ht99⟩) hS.2.2 dX5_isFilled_21
  · skip
    refine lv_aload_n hx hb dX5_isFilled_9 rfl (lv_at hl 0 rfl) ?_
    refine m_get (ci := 8) (v := .int sm0) (C := RX5) (T := TX5) (N := 17) hx hb hts i_X5 hown hK (hP _ _ h_I) rfl 6 (by decide) (hts (.fieldLink RX5 52 "MeniscusModel$Instrument" "isSmashed" "Z") (by decide +kernel)) (fun _ h9 => h9) rfl dX5_isFilled_10 ?_
    refine lv_if_ne (tgt := 20) hx hb dX5_isFilled_13 (by decide) (fun c2 => ?_) (fun c2 => ?_)
    · skip
      refine lv_iconst (v := 0) hx hb dX5_isFilled_20 (by decide) ?_
      refine W.widen (k := 0) (n := 0) (Nat.le_of_ble_eq_true rfl) (Nat.le_of_ble_eq_true rfl) ?_
      exact W.zret (v := 0) hx hb hr rfl (fun t99 ht99 hW99 => ⟨⟨0, Mw, rfl, ⟨by unfold mfi; rw [if_neg c1, if_neg c2], rfl⟩, by rw [ht99]; exact hP, hI⟩, hS.F ht99⟩) hS.2.2 dX5_isFilled_21
    · skip
      refine lv_iconst (v := 1) hx hb dX5_isFilled_16 (by decide) ?_
      refine lv_goto (tgt := 21) hx hb dX5_isFilled_17 (by decide) ?_
      refine W.widen (k := 0) (n := 0) (Nat.le_of_ble_eq_true rfl) (Nat.le_of_ble_eq_true rfl) ?_
      exact W.zret (v := 1) hx hb hr rfl (fun t99 ht99 hW99 => ⟨⟨1, Mw, rfl, ⟨by unfold mfi; rw [if_neg c1, if_pos c2], rfl⟩, by rw [ht99]; exact hP, hI⟩, hS.F ht99⟩) hS.2.2 dX5_isFilled_21

set_option maxHeartbeats 4000000 in
set_option maxRecDepth 100000 in
theorem c_X5_grows (l : Launch) (G : mg) (A : Nat → Prop) (Mw : mw) {a0 t0 rd0 ht0 : Nat} {bu0 gl0 cr0 in0 li0 sm0 ice0 stm0 stt0 kin0 ga0 ke0 gr0 ce0 : Int32} (h_I : Mw a0 = some (.inr (8, [.ref t0, .int bu0, .int (sof gl0), .int cr0, .int in0, .int li0, .int sm0, .int ice0, .int stm0, .int stt0, .int kin0, .int ga0, .int ke0, .int gr0, .int ce0, .ref rd0, .ref ht0]))) : Met l yX5_grows wsX5_grows ({ frames := 0, cells := 0, slots := 0, locals := 0 }) (va_Pc [.ref a0] (mB G A Mw)) (va_Qi (fun r Mw1 => r = (lgr li0) ∧ Mw1 = Mw) (mE G A) A) 0 0 A := by
  refine Met.ofW (cc := cX5_grows) (maxL := 1) (ret := (some .int)) (by decide) rfl ?_
  intro p e s m args below meth c s₁ B hml hv
  obtain ⟨rfl, hG, hP, hI, hA⟩ := hv
  have hx := B.exec
  have hb := B.bytes
  have hr := B.returns
  have hts := atoms_spec (ws := wsX5_grows) B.pre
  have hown : s.vm.findClass RX5 = some m.cls := findClass_of_methodNamed B.named
  have hlocks := B.notSynchronized
  have hK := hG.K
  have i_X5 : ∀ w ∈ wsX50, w ∈ wsX5_grows := by decide +kernel
  have hS : va_S A s.heap s.heap [] := va_S.rf
  have hl := lv_entry ([.ref a0]) (n := 1) (Nat.le_of_ble_eq_true rfl)
  rw [lg_entry_eq]
  generalize (lg_sl ([.ref a0]) ++ List.replicate (1 - (lg_sl ([.ref a0])).length) Slot.unset).toArray = ls at hl ⊢
  have hl : lv_has ls 1 [(0, .ref a0)] := hl
  have hP : mP G.1 Mw s.heap := hP
  refine lv_aload_n hx hb dX5_grows_0 rfl (lv_at hl 0 rfl) ?_
  refine m_get (ci := 8) (v := .int li0) (C := RX5) (T := TX5) (N := 17) hx hb hts i_X5 hown hK (hP _ _ h_I) rfl 5 (by decide) (hts (.fieldLink RX5 9 "MeniscusModel$Instrument" "liquid" "C") (by decide +kernel)) (fun _ h9 => h9) rfl dX5_grows_1 ?_
  refine lv_bipush (v := (109)) hx hb dX5_grows_4 (by decide) ?_
  refine lv_icmp_ne (tgt := 14) hx hb dX5_grows_6 (by decide) (fun c1 => ?_) (fun c1 => ?_)
  · skip
    refine lv_bipush (v := (110)) hx hb dX5_grows_14 (by decide) ?_
    refine W.widen (k := 0) (n := 0) (Nat.le_of_ble_eq_true rfl) (Nat.le_of_ble_eq_true rfl) ?_
    exact W.iret (v := 110) hx hb hr (fun t99 ht99 hW99 => ⟨⟨110, Mw, rfl, ⟨by unfold lgr; rw [if_neg c1], rfl⟩, by rw [ht99]; exact hP, hI⟩, hS.F ht99⟩) hS.2.2 dX5_grows_16
  · skip
    refine lv_bipush (v := (18)) hx hb dX5_grows_9 (by decide) ?_
    refine lv_goto (tgt := 16) hx hb dX5_grows_11 (by decide) ?_
    refine W.widen (k := 0) (n := 0) (Nat.le_of_ble_eq_true rfl) (Nat.le_of_ble_eq_true rfl) ?_
    exact W.iret (v := 18) hx hb hr (fun t99 ht99 hW99 => ⟨⟨18, Mw, rfl, ⟨by unfold lgr; rw [if_pos c1], rfl⟩, by rw [ht99]; exact hP, hI⟩, hS.F ht99⟩) hS.2.2 dX5_grows_16

theorem sof_0 {gl : Int32} (h : sof gl = 0) : gl = 104 := by
  unfold sof at h
  by_cases q : gl = 104
  · exact q
  · rw [if_neg q] at h
    exact absurd h (by decide)
theorem sof_1 {gl : Int32} (h : ¬ sof gl = 0) : ¬ gl = 104 := fun q => h (by unfold sof; rw [if_pos q])
set_option maxHeartbeats 4000000 in
set_option maxRecDepth 100000 in
theorem c_X5_creeps (l : Launch) (G : mg) (A : Nat → Prop) (Mw : mw) {a0 t0 rd0 ht0 : Nat} {bu0 gl0 cr0 in0 li0 sm0 ice0 stm0 stt0 kin0 ga0 ke0 gr0 ce0 : Int32} (h_I : Mw a0 = some (.inr (8, [.ref t0, .int bu0, .int (sof gl0), .int cr0, .int in0, .int li0, .int sm0, .int ice0, .int stm0, .int stt0, .int kin0, .int ga0, .int ke0, .int gr0, .int ce0, .ref rd0, .ref ht0]))) : Met l yX5_creeps wsX5_creeps ({ frames := 0, cells := 0, slots := 0, locals := 0 }) (va_Pc [.ref a0] (mB G A Mw)) (va_Qv (fun Mw1 => Mw1 = mu Mw a0 (.inr (8, [.ref t0, .int bu0, .int (sof gl0), .int (cr0 + (cia bu0 gl0 - cr0 + 19) / 20), .int in0, .int li0, .int sm0, .int ice0, .int stm0, .int stt0, .int kin0, .int ga0, .int ke0, .int gr0, .int ce0, .ref rd0, .ref ht0]))) (mE G A) A) 0 0 A := by
  refine Met.ofW (cc := cX5_creeps) (maxL := 2) (ret := none) (by decide) rfl ?_
  intro p e s m args below meth c s₁ B hml hv
  obtain ⟨rfl, hG, hP, hI, hA⟩ := hv
  have hx := B.exec
  have hb := B.bytes
  have hr := B.returns
  have hts := atoms_spec (ws := wsX5_creeps) B.pre
  have hown : s.vm.findClass RX5 = some m.cls := findClass_of_methodNamed B.named
  have hlocks := B.notSynchronized
  have hK := hG.K
  have i_X5 : ∀ w ∈ wsX50, w ∈ wsX5_creeps := by decide +kernel
  have hS : va_S A s.heap s.heap [] := va_S.rf
  have hl := lv_entry ([.ref a0]) (n := 2) (Nat.le_of_ble_eq_true rfl)
  rw [lg_entry_eq]
  generalize (lg_sl ([.ref a0]) ++ List.replicate (2 - (lg_sl ([.ref a0])).length) Slot.unset).toArray = ls at hl ⊢
  have hl : lv_has ls 2 [(0, .ref a0)] := hl
  have hP : mP G.1 Mw s.heap := hP
  refine lv_aload_n hx hb dX5_creeps_0 rfl (lv_at hl 0 rfl) ?_
  refine m_get (ci := 8) (v := .int bu0) (C := RX5) (T := TX5) (N := 17) hx hb hts i_X5 hown hK (hP _ _ h_I) rfl 1 (by decide) (hts (.fieldLink RX5 45 "MeniscusModel$Instrument" "bulb" "I") (by decide +kernel)) (fun _ h9 => h9) rfl dX5_creeps_1 ?_
  refine lv_aload_n hx hb dX5_creeps_4 rfl (lv_at hl 0 rfl) ?_
  refine m_get (ci := 8) (v := .int (sof gl0)) (C := RX5) (T := TX5) (N := 17) hx hb hts i_X5 hown hK (hP _ _ h_I) rfl 2 (by decide) (hts (.fieldLink RX5 48 "MeniscusModel$Instrument" "isSoft" "Z") (by decide +kernel)) (fun _ h9 => h9) rfl dX5_creeps_5 ?_
  refine lv_if_eq (tgt := 16) hx hb dX5_creeps_8 (by decide) (fun c1 => ?_) (fun c1 => ?_)
  · skip
    refine lv_iconst (v := 2) hx hb dX5_creeps_16 (by decide) ?_
    refine lv_imul hx hb dX5_creeps_17 ?_
    refine lv_sipush (v := (1000)) hx hb dX5_creeps_18 (by decide) ?_
    refine lv_idiv hx hb dX5_creeps_21 (by decide) ?_
    refine lv_istore_n (lv' := [(1, .int ((bu0 * 2) / 1000)), (0, .ref a0)]) hx hb dX5_creeps_22 rfl hl (by decide) rfl (fun ls hl => ?_)
    refine lv_aload_n hx hb dX5_creeps_23 rfl (lv_at hl 1 rfl) ?_
    refine lv_dup hx hb dX5_creeps_24 rfl ?_
    refine m_get (ci := 8) (v := .int cr0) (C := RX5) (T := TX5) (N := 17) hx hb hts i_X5 hown hK (hP _ _ h_I) rfl 3 (by decide) (hts (.fieldLink RX5 55 "MeniscusModel$Instrument" "crept" "I") (by decide +kernel)) (fun _ h9 => h9) rfl dX5_creeps_25 ?_
    refine lv_iload_n hx hb dX5_creeps_28 rfl (lv_at hl 0 rfl) ?_
    refine lv_aload_n hx hb dX5_creeps_29 rfl (lv_at hl 1 rfl) ?_
    refine m_get (ci := 8) (v := .int cr0) (C := RX5) (T := TX5) (N := 17) hx hb hts i_X5 hown hK (hP _ _ h_I) rfl 3 (by decide) (hts (.fieldLink RX5 55 "MeniscusModel$Instrument" "crept" "I") (by decide +kernel)) (fun _ h9 => h9) rfl dX5_creeps_30 ?_
    refine lv_isub hx hb dX5_creeps_33 ?_
    refine lv_bipush (v := (19)) hx hb dX5_creeps_34 (by decide) ?_
    refine lv_iadd hx hb dX5_creeps_36 ?_
    refine lv_bipush (v := (20)) hx hb dX5_creeps_37 (by decide) ?_
    refine lv_idiv hx hb dX5_creeps_39 (by decide) ?_
    refine lv_iadd hx hb dX5_creeps_40 ?_
    refine m_put (ci := 8) (v := .int (cr0 + (((((bu0 * 2) / 1000) - cr0) + 19) / 20))) (ty := .int) (C := RX5) (T := TX5) (N := 17) hx hb hts i_X5 tyX5 tyX5_ok nmX5 hown hK hP hI hS h_I rfl 3 (by decide) (hts (.fieldLink RX5 55 "MeniscusModel$Instrument" "crept" "I") (by decide +kernel)) (fun _ h9 => h9) rfl (by decide +kernel) rfl rfl (Nat.le_of_ble_eq_true rfl) dX5_creeps_41 (fun H locs hP hI hS => ?_)
    have hP : mP G.1 (mu Mw a0 (.inr (8, [.ref t0, .int bu0, .int (sof gl0), .int (cr0 + (((((bu0 * 2) / 1000) - cr0) + 19) / 20)), .int in0, .int li0, .int sm0, .int ice0, .int stm0, .int stt0, .int kin0, .int ga0, .int ke0, .int gr0, .int ce0, .ref rd0, .ref ht0]))) H := hP
    have hI : mI A (mu Mw a0 (.inr (8, [.ref t0, .int bu0, .int (sof gl0), .int (cr0 + (((((bu0 * 2) / 1000) - cr0) + 19) / 20)), .int in0, .int li0, .int sm0, .int ice0, .int stm0, .int stt0, .int kin0, .int ga0, .int ke0, .int gr0, .int ce0, .ref rd0, .ref ht0]))) := hI
    have h_I : (mu Mw a0 (.inr (8, [.ref t0, .int bu0, .int (sof gl0), .int (cr0 + (((((bu0 * 2) / 1000) - cr0) + 19) / 20)), .int in0, .int li0, .int sm0, .int ice0, .int stm0, .int stt0, .int kin0, .int ga0, .int ke0, .int gr0, .int ce0, .ref rd0, .ref ht0]))) a0 = some (.inr (8, [.ref t0, .int bu0, .int (sof gl0), .int (cr0 + (((((bu0 * 2) / 1000) - cr0) + 19) / 20)), .int in0, .int li0, .int sm0, .int ice0, .int stm0, .int stt0, .int kin0, .int ga0, .int ke0, .int gr0, .int ce0, .ref rd0, .ref ht0])) := mu_s
    refine W.widen (k := 0) (n := 0) (Nat.le_of_ble_eq_true rfl) (Nat.le_of_ble_eq_true rfl) ?_
    exact W.vret hx hb hr (fun t99 ht99 hW99 => ⟨⟨(mu Mw a0 (.inr (8, [.ref t0, .int bu0, .int (sof gl0), .int (cr0 + (((((bu0 * 2) / 1000) - cr0) + 19) / 20)), .int in0, .int li0, .int sm0, .int ice0, .int stm0, .int stt0, .int kin0, .int ga0, .int ke0, .int gr0, .int ce0, .ref rd0, .ref ht0]))), rfl, mw_ext1 (h_I.trans (congrArg some (by unfold cia; rw [if_pos (sof_0 c1)]))) (fun z h1 => (mu_n h1).trans (rfl)), by rw [ht99]; exact hP, hI⟩, hS.F ht99⟩) hS.2.2 dX5_creeps_44
  · skip
    refine lv_bipush (v := (6)) hx hb dX5_creeps_11 (by decide) ?_
    refine lv_goto (tgt := 17) hx hb dX5_creeps_13 (by decide) ?_
    refine lv_imul hx hb dX5_creeps_17 ?_
    refine lv_sipush (v := (1000)) hx hb dX5_creeps_18 (by decide) ?_
    refine lv_idiv hx hb dX5_creeps_21 (by decide) ?_
    refine lv_istore_n (lv' := [(1, .int ((bu0 * 6) / 1000)), (0, .ref a0)]) hx hb dX5_creeps_22 rfl hl (by decide) rfl (fun ls hl => ?_)
    refine lv_aload_n hx hb dX5_creeps_23 rfl (lv_at hl 1 rfl) ?_
    refine lv_dup hx hb dX5_creeps_24 rfl ?_
    refine m_get (ci := 8) (v := .int cr0) (C := RX5) (T := TX5) (N := 17) hx hb hts i_X5 hown hK (hP _ _ h_I) rfl 3 (by decide) (hts (.fieldLink RX5 55 "MeniscusModel$Instrument" "crept" "I") (by decide +kernel)) (fun _ h9 => h9) rfl dX5_creeps_25 ?_
    refine lv_iload_n hx hb dX5_creeps_28 rfl (lv_at hl 0 rfl) ?_
    refine lv_aload_n hx hb dX5_creeps_29 rfl (lv_at hl 1 rfl) ?_
    refine m_get (ci := 8) (v := .int cr0) (C := RX5) (T := TX5) (N := 17) hx hb hts i_X5 hown hK (hP _ _ h_I) rfl 3 (by decide) (hts (.fieldLink RX5 55 "MeniscusModel$Instrument" "crept" "I") (by decide +kernel)) (fun _ h9 => h9) rfl dX5_creeps_30 ?_
    refine lv_isub hx hb dX5_creeps_33 ?_
    refine lv_bipush (v := (19)) hx hb dX5_creeps_34 (by decide) ?_
    refine lv_iadd hx hb dX5_creeps_36 ?_
    refine lv_bipush (v := (20)) hx hb dX5_creeps_37 (by decide) ?_
    refine lv_idiv hx hb dX5_creeps_39 (by decide) ?_
    refine lv_iadd hx hb dX5_creeps_40 ?_
    refine m_put (ci := 8) (v := .int (cr0 + (((((bu0 * 6) / 1000) - cr0) + 19) / 20))) (ty := .int) (C := RX5) (T := TX5) (N := 17) hx hb hts i_X5 tyX5 tyX5_ok nmX5 hown hK hP hI hS h_I rfl 3 (by decide) (hts (.fieldLink RX5 55 "MeniscusModel$Instrument" "crept" "I") (by decide +kernel)) (fun _ h9 => h9) rfl (by decide +kernel) rfl rfl (Nat.le_of_ble_eq_true rfl) dX5_creeps_41 (fun H locs hP hI hS => ?_)
    have hP : mP G.1 (mu Mw a0 (.inr (8, [.ref t0, .int bu0, .int (sof gl0), .int (cr0 + (((((bu0 * 6) / 1000) - cr0) + 19) / 20)), .int in0, .int li0, .int sm0, .int ice0, .int stm0, .int stt0, .int kin0, .int ga0, .int ke0, .int gr0, .int ce0, .ref rd0, .ref ht0]))) H := hP
    have hI : mI A (mu Mw a0 (.inr (8, [.ref t0, .int bu0, .int (sof gl0), .int (cr0 + (((((bu0 * 6) / 1000) - cr0) + 19) / 20)), .int in0, .int li0, .int sm0, .int ice0, .int stm0, .int stt0, .int kin0, .int ga0, .int ke0, .int gr0, .int ce0, .ref rd0, .ref ht0]))) := hI
    have h_I : (mu Mw a0 (.inr (8, [.ref t0, .int bu0, .int (sof gl0), .int (cr0 + (((((bu0 * 6) / 1000) - cr0) + 19) / 20)), .int in0, .int li0, .int sm0, .int ice0, .int stm0, .int stt0, .int kin0, .int ga0, .int ke0, .int gr0, .int ce0, .ref rd0, .ref ht0]))) a0 = some (.inr (8, [.ref t0, .int bu0, .int (sof gl0), .int (cr0 + (((((bu0 * 6) / 1000) - cr0) + 19) / 20)), .int in0, .int li0, .int sm0, .int ice0, .int stm0, .int stt0, .int kin0, .int ga0, .int ke0, .int gr0, .int ce0, .ref rd0, .ref ht0])) := mu_s
    refine W.widen (k := 0) (n := 0) (Nat.le_of_ble_eq_true rfl) (Nat.le_of_ble_eq_true rfl) ?_
    exact W.vret hx hb hr (fun t99 ht99 hW99 => ⟨⟨(mu Mw a0 (.inr (8, [.ref t0, .int bu0, .int (sof gl0), .int (cr0 + (((((bu0 * 6) / 1000) - cr0) + 19) / 20)), .int in0, .int li0, .int sm0, .int ice0, .int stm0, .int stt0, .int kin0, .int ga0, .int ke0, .int gr0, .int ce0, .ref rd0, .ref ht0]))), rfl, mw_ext1 (h_I.trans (congrArg some (by unfold cia; rw [if_neg (sof_1 c1)]))) (fun z h1 => (mu_n h1).trans (rfl)), by rw [ht99]; exact hP, hI⟩, hS.F ht99⟩) hS.2.2 dX5_creeps_44

set_option maxHeartbeats 4000000 in
set_option maxRecDepth 100000 in
theorem c_X6_init (l : Launch) (G : mg) (A : Nat → Prop) (Mw : mw) {t0 : Nat} (h_T : Mw t0 = some (.inr (9, [.null, .int 0]))) : Met l yX6_init wsX6_init ({ frames := 1, cells := 1, slots := 20, locals := 20 }) (va_Pc [.ref t0] (mB G A Mw)) (va_Qv (fun Mw1 => ∃ q9 : Nat, Mw q9 = none ∧ Mw1 = mu (mu Mw q9 (.inl (G.2.1 0, 20, .inl (fun _ => 0)))) t0 (.inr (9, [.ref q9, .int 0]))) (mE G A) A) 1 20 A := by
  refine Met.ofW (cc := cX6_init) (maxL := 1) (ret := none) (by decide) rfl ?_
  intro p e s m args below meth c s₁ B hml hv
  obtain ⟨rfl, hG, hP, hI, hA⟩ := hv
  have hx := B.exec
  have hb := B.bytes
  have hr := B.returns
  have hts := atoms_spec (ws := wsX6_init) B.pre
  have hown : s.vm.findClass RX6 = some m.cls := findClass_of_methodNamed B.named
  have hlocks := B.notSynchronized
  have hK := hG.K
  have hin : meth.name = "<init>" := (name_of_methodNamed B.named B.method).1
  have i_X6 : ∀ w ∈ wsX60, w ∈ wsX6_init := by decide +kernel
  have hS : va_S A s.heap s.heap [] := va_S.rf
  have hl := lv_entry ([.ref t0]) (n := 1) (Nat.le_of_ble_eq_true rfl)
  rw [lg_entry_eq]
  generalize (lg_sl ([.ref t0]) ++ List.replicate (1 - (lg_sl ([.ref t0])).length) Slot.unset).toArray = ls at hl ⊢
  have hl : lv_has ls 1 [(0, .ref t0)] := hl
  have hP : mP G.1 Mw s.heap := hP
  refine lv_aload_n hx hb dX6_init_0 rfl (lv_at hl 0 rfl) ?_
  refine W.objInit hx hb hown (hts (.methodLink RX6 3 objectInit) (by decide +kernel)) (hts (.instanceMethod objectInit) (by decide +kernel)) (hts (.code objectInit ⟨#[0xb1]⟩ 1 none) (by decide +kernel)) rfl (by rw [hml]; exact hl.1) rfl dX6_init_1 (Nat.le_of_ble_eq_true rfl) (Nat.le_of_ble_eq_true rfl) ?_
  refine W.eq (g2 := F0 m 4 ls []) rfl ?_
  refine lv_aload_n hx hb dX6_init_4 rfl (lv_at hl 0 rfl) ?_
  refine lv_bipush (v := (20)) hx hb dX6_init_5 (by decide) ?_
  refine m_newa (atype := .int) (a0 := (20, .inl (fun _ => 0))) hx hb (hts (.arrayClass .int) (by decide +kernel)) rfl hK hP hI hS hA (hK.2 0 _ rfl).2 (fun _ => rfl) (by decide) (by decide) (by decide) (Nat.le_of_ble_eq_true rfl) (Nat.le_of_ble_eq_true rfl) dX6_init_7 (fun q1 H hn_q1 hP hI hS => ?_)
  have h_T := mu_x (e := .inl (G.2.1 0, 20, .inl (fun _ => 0))) h_T hn_q1
  have h_q1 : (mu Mw q1 (.inl (G.2.1 0, 20, .inl (fun _ => 0)))) q1 = some (.inl (G.2.1 0, 20, .inl (fun _ => 0))) := mu_s
  refine m_putF (ci := 9) (v := .ref q1) (ty := .array .int) (C := RX6) (T := TX6) (N := 2) hx hb hts i_X6 tyX6 tyX6_ok nmX6 hown hK hP hI hS h_T rfl 0 (by decide) (hts (.fieldLink RX6 9 "MeniscusModel$Tube" "bores" "[I") (by decide +kernel)) (fun _ h9 => h9) rfl hin rfl (by decide +kernel) rfl rfl (Nat.le_of_ble_eq_true rfl) dX6_init_9 (fun H locs hP hI hS => ?_)
  have hP : mP G.1 (mu (mu Mw q1 (.inl (G.2.1 0, 20, .inl (fun _ => 0)))) t0 (.inr (9, [.ref q1, .int 0]))) H := hP
  have hI : mI A (mu (mu Mw q1 (.inl (G.2.1 0, 20, .inl (fun _ => 0)))) t0 (.inr (9, [.ref q1, .int 0]))) := hI
  have h_q1 := mu_k (e := .inr (9, [.ref q1, .int 0])) (kd_ne h_q1 h_T rfl) h_q1
  have h_T : (mu (mu Mw q1 (.inl (G.2.1 0, 20, .inl (fun _ => 0)))) t0 (.inr (9, [.ref q1, .int 0]))) t0 = some (.inr (9, [.ref q1, .int 0])) := mu_s
  refine W.widen (k := 1) (n := 20) (Nat.le_of_ble_eq_true rfl) (Nat.le_of_ble_eq_true rfl) ?_
  exact W.vret hx hb hr (fun t99 ht99 hW99 => ⟨⟨(mu (mu Mw q1 (.inl (G.2.1 0, 20, .inl (fun _ => 0)))) t0 (.inr (9, [.ref q1, .int 0]))), rfl, ⟨q1, hn_q1, rfl⟩, by rw [ht99]; exact hP, hI⟩, hS.F ht99⟩) hS.2.2 dX6_init_12

def mvl (bf : Nat → Int32) : Nat → Int64
  | 0 => 0
  | k + 1 => mvl bf k + (if k < 200 then (bf (k / 10)).toInt64 else 0)
def mlv (bf : Nat → Int32) (r : Int64) : Nat → Int32
  | 0 => -1
  | k + 1 => if mvl bf k ≤ r then nI k else mlv bf r k
def mby (bf : Nat → Int32) (r : Int64) : Int32 := if mvl bf 201 < r then -1 else mlv bf r 201
theorem mlv_p {bf : Nat → Int32} {r : Int64} {k : Nat} (h : ¬ r < mvl bf k) : mlv bf r (k + 1) = nI k := if_pos (Int64.not_lt.mp h)
theorem mlv_n {bf : Nat → Int32} {r : Int64} {k : Nat} (h : r < mvl bf k) : mlv bf r (k + 1) = mlv bf r k := if_neg (fun q => Int64.not_lt.mpr q h)
theorem mvl_p {bf : Nat → Int32} {k : Nat} (h : k < 200) : mvl bf (k + 1) = mvl bf k + (bf (k / 10)).toInt64 := by
  show mvl bf k + _ = _
  rw [if_pos h]
theorem mvl_n {bf : Nat → Int32} {k : Nat} (h : 200 ≤ k) : mvl bf (k + 1) = mvl bf k + 0 := by
  show mvl bf k + _ = _
  rw [if_neg (by omega)]
set_option maxHeartbeats 4000000 in
set_option maxRecDepth 100000 in
theorem c_X5_levelBy (l : Launch) (G : mg) (A : Nat → Prop) (Mw : mw) (r0 : Int64) {a0 t0 rd0 ht0 : Nat} {bu0 gl0 cr0 in0 li0 sm0 ice0 stm0 stt0 kin0 ga0 ke0 gr0 ce0 : Int32} (h_I : Mw a0 = some (.inr (8, [.ref t0, .int bu0, .int (sof gl0), .int cr0, .int in0, .int li0, .int sm0, .int ice0, .int stm0, .int stt0, .int kin0, .int ga0, .int ke0, .int gr0, .int ce0, .ref rd0, .ref ht0]))) {b0 : Nat} {us0 : Int32} {bf : Nat → Int32} (h_T : Mw t0 = some (.inr (9, [.ref b0, .int us0]))) (h_B : Mw b0 = some (.inl (G.2.1 0, 20, .inl bf))) : Met l yX5_levelBy wsX5_levelBy ({ frames := 0, cells := 0, slots := 0, locals := 0 }) (va_Pc [.ref a0, .long r0] (mB G A Mw)) (va_Qi (fun r Mw1 => r = (mby bf r0) ∧ Mw1 = Mw) (mE G A) A) 0 0 A := by
  refine Met.ofW (cc := cX5_levelBy) (maxL := 7) (ret := (some .int)) (by decide) rfl ?_
  intro p e s m args below meth c s₁ B hml hv
  obtain ⟨rfl, hG, hP, hI, hA⟩ := hv
  have hx := B.exec
  have hb := B.bytes
  have hr := B.returns
  have hts := atoms_spec (ws := wsX5_levelBy) B.pre
  have hown : s.vm.findClass RX5 = some m.cls := findClass_of_methodNamed B.named
  have hlocks := B.notSynchronized
  have hK := hG.K
  have i_X5 : ∀ w ∈ wsX50, w ∈ wsX5_levelBy := by decide +kernel
  have i_X6 : ∀ w ∈ wsX60, w ∈ wsX5_levelBy := by decide +kernel
  have hS : va_S A s.heap s.heap [] := va_S.rf
  have hl := lv_entry ([.ref a0, .long r0]) (n := 7) (Nat.le_of_ble_eq_true rfl)
  rw [lg_entry_eq]
  generalize (lg_sl ([.ref a0, .long r0]) ++ List.replicate (7 - (lg_sl ([.ref a0, .long r0])).length) Slot.unset).toArray = ls at hl ⊢
  have hl : lv_has ls 7 [(0, .ref a0), (1, .long r0)] := hl
  have hP : mP G.1 Mw s.heap := hP
  refine lv_iconst (v := (-1)) hx hb dX5_levelBy_0 (by decide) ?_
  refine lv_istore_n (lv' := [(3, .int ((-1))), (0, .ref a0), (1, .long r0)]) hx hb dX5_levelBy_1 rfl hl (by decide) rfl (fun ls hl => ?_)
  refine lv_lconst (v := 0) hx hb dX5_levelBy_2 (by decide) ?_
  refine lv_lstore (lv' := [(4, .long 0), (3, .int ((-1))), (0, .ref a0), (1, .long r0)]) hx hb dX5_levelBy_3 hl (by decide) rfl (fun ls hl => ?_)
  refine lv_iconst (v := 0) hx hb dX5_levelBy_5 (by decide) ?_
  refine lv_istore (lv' := [(6, .int 0), (4, .long 0), (3, .int ((-1))), (0, .ref a0), (1, .long r0)]) hx hb dX5_levelBy_6 hl (by decide) rfl (fun ls hl => ?_)
  have loop : ∀ (n k : Nat), k ≤ 201 → k + n = 201 + 1 → ∀ (H : Heap) (locs : List Loc) (ls : Array Slot), mP G.1 (Mw) H → mI A (Mw) → va_S A s.heap H locs → lv_has ls 7 [(0, .ref a0), (1, .long r0), (3, .int (mlv bf r0 k)), (4, .long (mvl bf k)), (6, .int (nI k))] → W p l e ({ frames := 0, cells := 0, slots := 0, locals := 0 }) s m ([.ref a0, .long r0] : List Value).toArray below meth c H locs 0 0 (MQ below (va_Qi (fun r Mw1 => r = (mby bf r0) ∧ Mw1 = Mw) (mE G A) A) ([.ref a0, .long r0] : List Value).toArray s 0 0 A) (F0 m 8 ls []) := by
    intro n
    induction n with
    | zero => intro k hk1 hk2; omega
    | succ n ih_loop =>
      intro k hk1 hk2 H locs ls hP hI hS hl
      refine lv_iload hx hb dX5_levelBy_8 (lv_at hl 4 rfl) ?_
      refine lv_sipush (v := (200)) hx hb dX5_levelBy_10 (by decide) ?_
      refine lv_icmp_gt (tgt := 67) hx hb dX5_levelBy_13 (by decide) (fun c1 => ?_) (fun c1 => ?_)
      · skip
        have hk9 : k = 201 := by have h8 : 200 < k := Nat.lt_of_not_le (fun q => absurd c1 (i_nlt (show nI k ≤ nI 200 from nI_le q (by omega)))); omega
        refine lv_lload_n hx hb dX5_levelBy_67 rfl (lv_at hl 1 rfl) ?_
        refine lv_lload hx hb dX5_levelBy_68 (lv_at hl 3 rfl) ?_
        refine m_lcmp_le (tgt := 78) hx hb dX5_levelBy_70 dX5_levelBy_71 (by decide) (fun c2 => ?_) (fun c2 => ?_)
        · skip
          refine lv_iload_n hx hb dX5_levelBy_78 rfl (lv_at hl 2 rfl) ?_
          refine W.widen (k := 0) (n := 0) (Nat.le_of_ble_eq_true rfl) (Nat.le_of_ble_eq_true rfl) ?_
          exact W.iret (v := mlv bf r0 k) hx hb hr (fun t99 ht99 hW99 => ⟨⟨mlv bf r0 k, Mw, rfl, ⟨by unfold mby; rw [hk9] at c2; rw [if_neg c2, hk9], rfl⟩, by rw [ht99]; exact hP, hI⟩, hS.F ht99⟩) hS.2.2 dX5_levelBy_79
        · skip
          refine lv_iconst (v := (-1)) hx hb dX5_levelBy_74 (by decide) ?_
          refine lv_goto (tgt := 79) hx hb dX5_levelBy_75 (by decide) ?_
          refine W.widen (k := 0) (n := 0) (Nat.le_of_ble_eq_true rfl) (Nat.le_of_ble_eq_true rfl) ?_
          exact W.iret (v := (-1)) hx hb hr (fun t99 ht99 hW99 => ⟨⟨(-1), Mw, rfl, ⟨by unfold mby; rw [hk9] at c2; rw [if_pos c2], rfl⟩, by rw [ht99]; exact hP, hI⟩, hS.F ht99⟩) hS.2.2 dX5_levelBy_79
      · skip
        have hk9 : k ≤ 200 := Nat.le_of_not_lt (fun q => c1 (show nI 200 < nI k from nI_lt q (by omega)))
        refine lv_lload hx hb dX5_levelBy_16 (lv_at hl 3 rfl) ?_
        refine lv_lload_n hx hb dX5_levelBy_18 rfl (lv_at hl 1 rfl) ?_
        refine m_lcmp_gt (tgt := 28) hx hb dX5_levelBy_19 dX5_levelBy_20 (by decide) (fun c3 => ?_) (fun c3 => ?_)
        · skip
          refine lv_iload_n hx hb dX5_levelBy_28 rfl (lv_at hl 2 rfl) ?_
          refine lv_istore_n (lv' := [(3, .int (mlv bf r0 k)), (0, .ref a0), (1, .long r0), (4, .long (mvl bf k)), (6, .int (nI k))]) hx hb dX5_levelBy_29 rfl hl (by decide) rfl (fun ls hl => ?_)
          refine lv_lload hx hb dX5_levelBy_30 (lv_at hl 3 rfl) ?_
          refine lv_iload hx hb dX5_levelBy_32 (lv_at hl 4 rfl) ?_
          refine lv_sipush (v := (200)) hx hb dX5_levelBy_34 (by decide) ?_
          refine lv_icmp_ge (tgt := 57) hx hb dX5_levelBy_37 (by decide) (fun c4 => ?_) (fun c4 => ?_)
          · skip
            have hp9 : 200 ≤ k := Nat.le_of_not_lt (fun q => absurd c4 (i_nle (show nI k < nI 200 from nI_lt q (by omega))))
            refine lv_lconst (v := 0) hx hb dX5_levelBy_57 (by decide) ?_
            refine lv_ladd hx hb dX5_levelBy_58 ?_
            refine lv_lstore (lv' := [(4, .long ((mvl bf k) + 0)), (3, .int (mlv bf r0 k)), (0, .ref a0), (1, .long r0), (6, .int (nI k))]) hx hb dX5_levelBy_59 hl (by decide) rfl (fun ls hl => ?_)
            refine lv_iinc (v := (nI k) + 1) (lv' := [(6, .int ((nI k) + 1)), (4, .long ((mvl bf k) + 0)), (3, .int (mlv bf r0 k)), (0, .ref a0), (1, .long r0)]) hx hb dX5_levelBy_61 hl (k := 4) rfl rfl (by decide) rfl (fun ls hl => ?_)
            refine lv_goto (tgt := 8) hx hb dX5_levelBy_64 (by decide) ?_
            have e_6 : (nI k) + 1 = nI (k + 1) := nI_1 k
            rw [e_6] at hl
            have e_4 : (mvl bf k) + 0 = mvl bf (k + 1) := (mvl_n hp9).symm
            rw [e_4] at hl
            have e_3 : mlv bf r0 k = mlv bf r0 (k + 1) := (mlv_n c3).symm
            rw [e_3] at hl
            exact ih_loop (k + 1) (by omega) (by omega) H locs ls hP hI hS (lv_sub hl [3, 4, 2, 1, 0] rfl)
          · skip
            have hp9 : k < 200 := Nat.lt_of_not_le (fun q => c4 (show nI 200 ≤ nI k from nI_le q (by omega)))
            refine lv_aload_n hx hb dX5_levelBy_40 rfl (lv_at hl 1 rfl) ?_
            refine m_get (ci := 8) (v := .ref t0) (C := RX5) (T := TX5) (N := 17) hx hb hts i_X5 hown hK (hP _ _ h_I) rfl 0 (by decide) (hts (.fieldLink RX5 41 "MeniscusModel$Instrument" "tube" "LMeniscusModel$Tube;") (by decide +kernel)) (fun _ h9 => h9) rfl dX5_levelBy_41 ?_
            refine m_getN (ci := 9) (v := .ref b0) (C := RX6) (T := TX6) (N := 2) hx hb hts i_X6 hown hK (hP _ _ h_T) rfl 0 (by decide) (va_Nw.use rfl (hG.2.1.2.1 ("MeniscusModel$Instrument", 58, "MeniscusModel$Tube", "bores", "[I", "MeniscusModel") (by decide +kernel))) (fun _ h9 => h9) rfl dX5_levelBy_44 ?_
            refine lv_iload hx hb dX5_levelBy_47 (lv_at hl 4 rfl) ?_
            refine lv_bipush (v := (10)) hx hb dX5_levelBy_49 (by decide) ?_
            refine lv_idiv hx hb dX5_levelBy_51 (by decide) ?_
            rw [nI_d10 (show k < 2 ^ 31 by omega)]
            refine m_iald hx hb hK 0 (hP _ _ h_B) rfl (vp_in_nI (by omega) (by omega)) dX5_levelBy_52 ?_
            rw [nI_clamp (show k / 10 < 2 ^ 31 by omega)]
            refine lv_i2l (v := (bf (k / 10)).toInt64) hx hb dX5_levelBy_53 rfl ?_
            refine lv_goto (tgt := 58) hx hb dX5_levelBy_54 (by decide) ?_
            refine lv_ladd hx hb dX5_levelBy_58 ?_
            refine lv_lstore (lv' := [(4, .long ((mvl bf k) + ((bf (k / 10)).toInt64))), (3, .int (mlv bf r0 k)), (0, .ref a0), (1, .long r0), (6, .int (nI k))]) hx hb dX5_levelBy_59 hl (by decide) rfl (fun ls hl => ?_)
            refine lv_iinc (v := (nI k) + 1) (lv' := [(6, .int ((nI k) + 1)), (4, .long ((mvl bf k) + ((bf (k / 10)).toInt64))), (3, .int (mlv bf r0 k)), (0, .ref a0), (1, .long r0)]) hx hb dX5_levelBy_61 hl (k := 4) rfl rfl (by decide) rfl (fun ls hl => ?_)
            refine lv_goto (tgt := 8) hx hb dX5_levelBy_64 (by decide) ?_
            have e_6 : (nI k) + 1 = nI (k + 1) := nI_1 k
            rw [e_6] at hl
            have e_4 : (mvl bf k) + ((bf (k / 10)).toInt64) = mvl bf (k + 1) := (mvl_p hp9).symm
            rw [e_4] at hl
            have e_3 : mlv bf r0 k = mlv bf r0 (k + 1) := (mlv_n c3).symm
            rw [e_3] at hl
            exact ih_loop (k + 1) (by omega) (by omega) H locs ls hP hI hS (lv_sub hl [3, 4, 2, 1, 0] rfl)
        · skip
          refine lv_iload hx hb dX5_levelBy_23 (lv_at hl 4 rfl) ?_
          refine lv_goto (tgt := 29) hx hb dX5_levelBy_25 (by decide) ?_
          refine lv_istore_n (lv' := [(3, .int (nI k)), (0, .ref a0), (1, .long r0), (4, .long (mvl bf k)), (6, .int (nI k))]) hx hb dX5_levelBy_29 rfl hl (by decide) rfl (fun ls hl => ?_)
          refine lv_lload hx hb dX5_levelBy_30 (lv_at hl 3 rfl) ?_
          refine lv_iload hx hb dX5_levelBy_32 (lv_at hl 4 rfl) ?_
          refine lv_sipush (v := (200)) hx hb dX5_levelBy_34 (by decide) ?_
          refine lv_icmp_ge (tgt := 57) hx hb dX5_levelBy_37 (by decide) (fun c5 => ?_) (fun c5 => ?_)
          · skip
            have hp9 : 200 ≤ k := Nat.le_of_not_lt (fun q => absurd c5 (i_nle (show nI k < nI 200 from nI_lt q (by omega))))
            refine lv_lconst (v := 0) hx hb dX5_levelBy_57 (by decide) ?_
            refine lv_ladd hx hb dX5_levelBy_58 ?_
            refine lv_lstore (lv' := [(4, .long ((mvl bf k) + 0)), (3, .int (nI k)), (0, .ref a0), (1, .long r0), (6, .int (nI k))]) hx hb dX5_levelBy_59 hl (by decide) rfl (fun ls hl => ?_)
            refine lv_iinc (v := (nI k) + 1) (lv' := [(6, .int ((nI k) + 1)), (4, .long ((mvl bf k) + 0)), (3, .int (nI k)), (0, .ref a0), (1, .long r0)]) hx hb dX5_levelBy_61 hl (k := 4) rfl rfl (by decide) rfl (fun ls hl => ?_)
            refine lv_goto (tgt := 8) hx hb dX5_levelBy_64 (by decide) ?_
            have e_6 : (nI k) + 1 = nI (k + 1) := nI_1 k
            rw [e_6] at hl
            have e_4 : (mvl bf k) + 0 = mvl bf (k + 1) := (mvl_n hp9).symm
            rw [e_4] at hl
            have e_3 : nI k = mlv bf r0 (k + 1) := (mlv_p c3).symm
            rw [e_3] at hl
            exact ih_loop (k + 1) (by omega) (by omega) H locs ls hP hI hS (lv_sub hl [3, 4, 2, 1, 0] rfl)
          · skip
            have hp9 : k < 200 := Nat.lt_of_not_le (fun q => c5 (show nI 200 ≤ nI k from nI_le q (by omega)))
            refine lv_aload_n hx hb dX5_levelBy_40 rfl (lv_at hl 1 rfl) ?_
            refine m_get (ci := 8) (v := .ref t0) (C := RX5) (T := TX5) (N := 17) hx hb hts i_X5 hown hK (hP _ _ h_I) rfl 0 (by decide) (hts (.fieldLink RX5 41 "MeniscusModel$Instrument" "tube" "LMeniscusModel$Tube;") (by decide +kernel)) (fun _ h9 => h9) rfl dX5_levelBy_41 ?_
            refine m_getN (ci := 9) (v := .ref b0) (C := RX6) (T := TX6) (N := 2) hx hb hts i_X6 hown hK (hP _ _ h_T) rfl 0 (by decide) (va_Nw.use rfl (hG.2.1.2.1 ("MeniscusModel$Instrument", 58, "MeniscusModel$Tube", "bores", "[I", "MeniscusModel") (by decide +kernel))) (fun _ h9 => h9) rfl dX5_levelBy_44 ?_
            refine lv_iload hx hb dX5_levelBy_47 (lv_at hl 4 rfl) ?_
            refine lv_bipush (v := (10)) hx hb dX5_levelBy_49 (by decide) ?_
            refine lv_idiv hx hb dX5_levelBy_51 (by decide) ?_
            rw [nI_d10 (show k < 2 ^ 31 by omega)]
            refine m_iald hx hb hK 0 (hP _ _ h_B) rfl (vp_in_nI (by omega) (by omega)) dX5_levelBy_52 ?_
            rw [nI_clamp (show k / 10 < 2 ^ 31 by omega)]
            refine lv_i2l (v := (bf (k / 10)).toInt64) hx hb dX5_levelBy_53 rfl ?_
            refine lv_goto (tgt := 58) hx hb dX5_levelBy_54 (by decide) ?_
            refine lv_ladd hx hb dX5_levelBy_58 ?_
            refine lv_lstore (lv' := [(4, .long ((mvl bf k) + ((bf (k / 10)).toInt64))), (3, .int (nI k)), (0, .ref a0), (1, .long r0), (6, .int (nI k))]) hx hb dX5_levelBy_59 hl (by decide) rfl (fun ls hl => ?_)
            refine lv_iinc (v := (nI k) + 1) (lv' := [(6, .int ((nI k) + 1)), (4, .long ((mvl bf k) + ((bf (k / 10)).toInt64))), (3, .int (nI k)), (0, .ref a0), (1, .long r0)]) hx hb dX5_levelBy_61 hl (k := 4) rfl rfl (by decide) rfl (fun ls hl => ?_)
            refine lv_goto (tgt := 8) hx hb dX5_levelBy_64 (by decide) ?_
            have e_6 : (nI k) + 1 = nI (k + 1) := nI_1 k
            rw [e_6] at hl
            have e_4 : (mvl bf k) + ((bf (k / 10)).toInt64) = mvl bf (k + 1) := (mvl_p hp9).symm
            rw [e_4] at hl
            have e_3 : nI k = mlv bf r0 (k + 1) := (mlv_p c3).symm
            rw [e_3] at hl
            exact ih_loop (k + 1) (by omega) (by omega) H locs ls hP hI hS (lv_sub hl [3, 4, 2, 1, 0] rfl)
  exact loop (201 + 1 - 0) 0 (by omega) (by omega) _ _ _ hP hI hS (lv_sub hl [3, 4, 2, 1, 0] rfl)

def mrs (ins bu cr li gl T : Int32) : Int64 := ins.toInt64 + ins.toInt64 * (lgr li).toInt64 * T.toInt64 / 1000000 - bu.toInt64 - bu.toInt64 * (if gl = 104 then (1 : Int32) else 3).toInt64 * T.toInt64 / 1000000 + cr.toInt64
def mlevel (bf : Nat → Int32) (ins bu cr li gl T air : Int32) (d : Nat) : Int32 := if mby bf (mrs ins bu cr li gl T) ≤ nI d then mby bf (mrs ins bu cr li gl T) else mby bf (mrs ins bu cr li gl T - (msum bf (mby bf (mrs ins bu cr li gl T)).toNatClampNeg - msum bf d).toInt64 * (lgr li).toInt64 * (T - air).toInt64 / 1000000)
theorem mlv_r (bf : Nat → Int32) (r : Int64) : ∀ k, k ≤ 201 → mlv bf r k = -1 ∨ ∃ j : Nat, j ≤ 200 ∧ mlv bf r k = nI j := by
  intro k
  induction k with
  | zero => intro _; exact Or.inl rfl
  | succ k ih =>
    intro hk
    show (if mvl bf k ≤ r then nI k else mlv bf r k) = -1 ∨ ∃ j : Nat, j ≤ 200 ∧ (if mvl bf k ≤ r then nI k else mlv bf r k) = nI j
    by_cases q : mvl bf k ≤ r
    · rw [if_pos q]
      exact Or.inr ⟨k, by omega, rfl⟩
    · rw [if_neg q]
      exact ih (by omega)
theorem mby_r {bf : Nat → Int32} {r : Int64} {d : Nat} (hd : d ≤ 200) (h : ¬ mby bf r ≤ nI d) : ∃ j : Nat, j ≤ 200 ∧ mby bf r = nI j := by
  have h0 : ¬ (-1 : Int32) ≤ nI d → False := fun q => q (by
    rw [Int32.le_iff_toInt_le, nI_toInt (by omega)]
    have e : (-1 : Int32).toInt = -1 := rfl
    omega)
  unfold mby at h ⊢
  by_cases q : mvl bf 201 < r
  · rw [if_pos q] at h
    exact (h0 h).elim
  · rw [if_neg q] at h ⊢
    rcases mlv_r bf r 201 (by omega) with z | z
    · rw [z] at h
      exact (h0 h).elim
    · exact z
set_option maxHeartbeats 4000000 in
set_option maxRecDepth 100000 in
theorem c_X5_level (l : Launch) (G : mg) (A : Nat → Prop) (Mw : mw) (p0 p2 : Int32) (d9 : Nat) (hd9 : d9 ≤ 200) {a0 t0 rd0 ht0 : Nat} {bu0 gl0 cr0 in0 li0 sm0 ice0 stm0 stt0 kin0 ga0 ke0 gr0 ce0 : Int32} (h_I : Mw a0 = some (.inr (8, [.ref t0, .int bu0, .int (sof gl0), .int cr0, .int in0, .int li0, .int sm0, .int ice0, .int stm0, .int stt0, .int kin0, .int ga0, .int ke0, .int gr0, .int ce0, .ref rd0, .ref ht0]))) {b0 : Nat} {us0 : Int32} {bf : Nat → Int32} (h_T : Mw t0 = some (.inr (9, [.ref b0, .int us0]))) (h_B : Mw b0 = some (.inl (G.2.1 0, 20, .inl bf))) : Met l yX5_level wsX5_level ({ frames := 1, cells := 0, slots := 0, locals := 26 }) (va_Pc [.ref a0, .int p0, .int (nI d9), .int p2] (mB G A Mw)) (va_Qi (fun r Mw1 => r = (mlevel bf in0 bu0 cr0 li0 gl0 p0 p2 d9) ∧ Mw1 = Mw) (mE G A) A) 0 0 A := by
  refine Met.ofW (cc := cX5_level) (maxL := 9) (ret := (some .int)) (by decide) rfl ?_
  intro p e s m args below meth c s₁ B hml hv
  obtain ⟨rfl, hG, hP, hI, hA⟩ := hv
  have hx := B.exec
  have hb := B.bytes
  have hr := B.returns
  have hts := atoms_spec (ws := wsX5_level) B.pre
  have hown : s.vm.findClass RX5 = some m.cls := findClass_of_methodNamed B.named
  have hlocks := B.notSynchronized
  have hK := hG.K
  have i_X5 : ∀ w ∈ wsX50, w ∈ wsX5_level := by decide +kernel
  have hS : va_S A s.heap s.heap [] := va_S.rf
  have hl := lv_entry ([.ref a0, .int p0, .int (nI d9), .int p2]) (n := 9) (Nat.le_of_ble_eq_true rfl)
  rw [lg_entry_eq]
  generalize (lg_sl ([.ref a0, .int p0, .int (nI d9), .int p2]) ++ List.replicate (9 - (lg_sl ([.ref a0, .int p0, .int (nI d9), .int p2])).length) Slot.unset).toArray = ls at hl ⊢
  have hl : lv_has ls 9 [(0, .ref a0), (1, .int p0), (2, .int (nI d9)), (3, .int p2)] := hl
  have hP : mP G.1 Mw s.heap := hP
  refine lv_aload_n hx hb dX5_level_0 rfl (lv_at hl 0 rfl) ?_
  refine m_get (ci := 8) (v := .int in0) (C := RX5) (T := TX5) (N := 17) hx hb hts i_X5 hown hK (hP _ _ h_I) rfl 4 (by decide) (hts (.fieldLink RX5 64 "MeniscusModel$Instrument" "inside" "I") (by decide +kernel)) (fun _ h9 => h9) rfl dX5_level_1 ?_
  refine lv_i2l (v := in0.toInt64) hx hb dX5_level_4 rfl ?_
  refine lv_aload_n hx hb dX5_level_5 rfl (lv_at hl 0 rfl) ?_
  refine m_get (ci := 8) (v := .int in0) (C := RX5) (T := TX5) (N := 17) hx hb hts i_X5 hown hK (hP _ _ h_I) rfl 4 (by decide) (hts (.fieldLink RX5 64 "MeniscusModel$Instrument" "inside" "I") (by decide +kernel)) (fun _ h9 => h9) rfl dX5_level_6 ?_
  refine lv_i2l (v := in0.toInt64) hx hb dX5_level_9 rfl ?_
  refine lv_aload_n hx hb dX5_level_10 rfl (lv_at hl 0 rfl) ?_
  refine m_calli (va_runV (As := []) (rest := [.long in0.toInt64, .long in0.toInt64]) ⟨hx, hb, hml, hown, hts⟩ (c_X5_grows l G A Mw  h_I) (cwV 0 hts gX5_level_X5_grows rfl rfl rfl (by decide +kernel) ⟨Nat.le_of_ble_eq_true rfl, Nat.le_of_ble_eq_true rfl⟩) (mPreV hG hS hP hI hA (hP _ _ h_I) (r := (RX5, TX5, 17)) rfl) rfl rfl hl.1 rfl (lv_room (Nat.le_of_ble_eq_true rfl)) dX5_level_11 ⟨Nat.le_of_ble_eq_true rfl, Nat.le_of_ble_eq_true rfl⟩) hS (fun r1 Mw1 H locs hp_r1 hP hI hS => ?_)
  obtain ⟨hp_r1, hm9⟩ := hp_r1
  subst Mw1
  refine lv_i2l (v := r1.toInt64) hx hb dX5_level_14 rfl ?_
  refine lv_lmul hx hb dX5_level_15 ?_
  refine lv_iload_n hx hb dX5_level_16 rfl (lv_at hl 1 rfl) ?_
  refine lv_i2l (v := p0.toInt64) hx hb dX5_level_17 rfl ?_
  refine lv_lmul hx hb dX5_level_18 ?_
  refine lv_ldc2 (v := 1000000) hx hb hown (hts (.constantLong RX5 71 (1000000)) (by decide +kernel)) dX5_level_19 ?_
  refine lv_ldiv hx hb dX5_level_22 (by decide) ?_
  refine lv_ladd hx hb dX5_level_23 ?_
  refine lv_aload_n hx hb dX5_level_24 rfl (lv_at hl 0 rfl) ?_
  refine m_get (ci := 8) (v := .int bu0) (C := RX5) (T := TX5) (N := 17) hx hb hts i_X5 hown hK (hP _ _ h_I) rfl 1 (by decide) (hts (.fieldLink RX5 45 "MeniscusModel$Instrument" "bulb" "I") (by decide +kernel)) (fun _ h9 => h9) rfl dX5_level_25 ?_
  refine lv_i2l (v := bu0.toInt64) hx hb dX5_level_28 rfl ?_
  refine lv_lsub hx hb dX5_level_29 ?_
  refine lv_aload_n hx hb dX5_level_30 rfl (lv_at hl 0 rfl) ?_
  refine m_get (ci := 8) (v := .int bu0) (C := RX5) (T := TX5) (N := 17) hx hb hts i_X5 hown hK (hP _ _ h_I) rfl 1 (by decide) (hts (.fieldLink RX5 45 "MeniscusModel$Instrument" "bulb" "I") (by decide +kernel)) (fun _ h9 => h9) rfl dX5_level_31 ?_
  refine lv_i2l (v := bu0.toInt64) hx hb dX5_level_34 rfl ?_
  refine lv_aload_n hx hb dX5_level_35 rfl (lv_at hl 0 rfl) ?_
  refine m_get (ci := 8) (v := .int (sof gl0)) (C := RX5) (T := TX5) (N := 17) hx hb hts i_X5 hown hK (hP _ _ h_I) rfl 2 (by decide) (hts (.fieldLink RX5 48 "MeniscusModel$Instrument" "isSoft" "Z") (by decide +kernel)) (fun _ h9 => h9) rfl dX5_level_36 ?_
  refine lv_if_eq (tgt := 46) hx hb dX5_level_39 (by decide) (fun c2 => ?_) (fun c2 => ?_)
  · skip
    refine lv_iconst (v := 1) hx hb dX5_level_46 (by decide) ?_
    refine lv_i2l (v := (1 : Int32).toInt64) hx hb dX5_level_47 rfl ?_
    refine lv_lmul hx hb dX5_level_48 ?_
    refine lv_iload_n hx hb dX5_level_49 rfl (lv_at hl 1 rfl) ?_
    refine lv_i2l (v := p0.toInt64) hx hb dX5_level_50 rfl ?_
    refine lv_lmul hx hb dX5_level_51 ?_
    refine lv_ldc2 (v := 1000000) hx hb hown (hts (.constantLong RX5 71 (1000000)) (by decide +kernel)) dX5_level_52 ?_
    refine lv_ldiv hx hb dX5_level_55 (by decide) ?_
    refine lv_lsub hx hb dX5_level_56 ?_
    refine lv_aload_n hx hb dX5_level_57 rfl (lv_at hl 0 rfl) ?_
    refine m_get (ci := 8) (v := .int cr0) (C := RX5) (T := TX5) (N := 17) hx hb hts i_X5 hown hK (hP _ _ h_I) rfl 3 (by decide) (hts (.fieldLink RX5 55 "MeniscusModel$Instrument" "crept" "I") (by decide +kernel)) (fun _ h9 => h9) rfl dX5_level_58 ?_
    refine lv_i2l (v := cr0.toInt64) hx hb dX5_level_61 rfl ?_
    refine lv_ladd hx hb dX5_level_62 ?_
    refine lv_lstore (lv' := [(4, .long ((((in0.toInt64 + (((in0.toInt64 * r1.toInt64) * p0.toInt64) / 1000000)) - bu0.toInt64) - (((bu0.toInt64 * ((1 : Int32).toInt64)) * p0.toInt64) / 1000000)) + cr0.toInt64)), (0, .ref a0), (1, .int p0), (2, .int (nI d9)), (3, .int p2)]) hx hb dX5_level_63 hl (by decide) rfl (fun ls hl => ?_)
    refine lv_aload_n hx hb dX5_level_65 rfl (lv_at hl 1 rfl) ?_
    refine lv_lload hx hb dX5_level_66 (lv_at hl 0 rfl) ?_
    refine m_calli (va_runV (As := [.long ((((in0.toInt64 + (((in0.toInt64 * r1.toInt64) * p0.toInt64) / 1000000)) - bu0.toInt64) - (((bu0.toInt64 * ((1 : Int32).toInt64)) * p0.toInt64) / 1000000)) + cr0.toInt64)]) (rest := []) ⟨hx, hb, hml, hown, hts⟩ (c_X5_levelBy l G A Mw  ((((in0.toInt64 + (((in0.toInt64 * r1.toInt64) * p0.toInt64) / 1000000)) - bu0.toInt64) - (((bu0.toInt64 * ((1 : Int32).toInt64)) * p0.toInt64) / 1000000)) + cr0.toInt64) h_I h_T h_B) (cwV 1 hts gX5_level_X5_levelBy rfl rfl rfl (by decide +kernel) ⟨Nat.le_of_ble_eq_true rfl, Nat.le_of_ble_eq_true rfl⟩) (mPreV hG hS hP hI hA (hP _ _ h_I) (r := (RX5, TX5, 17)) rfl) rfl rfl hl.1 rfl (lv_room (Nat.le_of_ble_eq_true rfl)) dX5_level_68 ⟨Nat.le_of_ble_eq_true rfl, Nat.le_of_ble_eq_true rfl⟩) hS (fun r3 Mw1 H locs hp_r3 hP hI hS => ?_)
    obtain ⟨hp_r3, hm9⟩ := hp_r3
    subst Mw1
    have hR9 : mrs in0 bu0 cr0 li0 gl0 p0 = (((in0.toInt64 + (((in0.toInt64 * r1.toInt64) * p0.toInt64) / 1000000)) - bu0.toInt64) - (((bu0.toInt64 * ((1 : Int32).toInt64)) * p0.toInt64) / 1000000)) + cr0.toInt64 := by unfold mrs; rw [if_pos (sof_0 c2), ← hp_r1]
    rw [← hR9] at hp_r3
    refine lv_istore (lv' := [(6, .int r3), (4, .long ((((in0.toInt64 + (((in0.toInt64 * r1.toInt64) * p0.toInt64) / 1000000)) - bu0.toInt64) - (((bu0.toInt64 * ((1 : Int32).toInt64)) * p0.toInt64) / 1000000)) + cr0.toInt64)), (0, .ref a0), (1, .int p0), (2, .int (nI d9)), (3, .int p2)]) hx hb dX5_level_71 hl (by decide) rfl (fun ls hl => ?_)
    refine lv_iload hx hb dX5_level_73 (lv_at hl 0 rfl) ?_
    refine lv_iload_n hx hb dX5_level_75 rfl (lv_at hl 4 rfl) ?_
    refine lv_icmp_gt (tgt := 82) hx hb dX5_level_76 (by decide) (fun c4 => ?_) (fun c4 => ?_)
    · skip
      have hc9 : ¬ mby bf (mrs in0 bu0 cr0 li0 gl0 p0) ≤ nI d9 := fun q9 => absurd c4 (i_nlt (by rw [hp_r3]; exact q9))
      obtain ⟨j9, hj9, hk9⟩ := mby_r hd9 hc9
      have hr9 : r3 = nI j9 := hp_r3.trans hk9
      subst hr9
      refine lv_aload_n hx hb dX5_level_82 rfl (lv_at hl 2 rfl) ?_
      refine m_get (ci := 8) (v := .ref t0) (C := RX5) (T := TX5) (N := 17) hx hb hts i_X5 hown hK (hP _ _ h_I) rfl 0 (by decide) (hts (.fieldLink RX5 41 "MeniscusModel$Instrument" "tube" "LMeniscusModel$Tube;") (by decide +kernel)) (fun _ h9 => h9) rfl dX5_level_83 ?_
      refine lv_iload hx hb dX5_level_86 (lv_at hl 0 rfl) ?_
      refine m_calli (va_runV (As := [.int (nI j9)]) (rest := []) ⟨hx, hb, hml, hown, hts⟩ (c_X6_volume l G A Mw  (j9) (by omega) h_T h_B) (cwV 1 hts gX5_level_X6_volume rfl rfl rfl (by decide +kernel) ⟨Nat.le_of_ble_eq_true rfl, Nat.le_of_ble_eq_true rfl⟩) (mPreV hG hS hP hI hA (hP _ _ h_T) (r := (RX6, TX6, 2)) rfl) rfl rfl hl.1 rfl (lv_room (Nat.le_of_ble_eq_true rfl)) dX5_level_88 ⟨Nat.le_of_ble_eq_true rfl, Nat.le_of_ble_eq_true rfl⟩) hS (fun r5 Mw1 H locs hp_r5 hP hI hS => ?_)
      obtain ⟨hp_r5, hm9⟩ := hp_r5
      subst Mw1
      refine lv_aload_n hx hb dX5_level_91 rfl (lv_at hl 2 rfl) ?_
      refine m_get (ci := 8) (v := .ref t0) (C := RX5) (T := TX5) (N := 17) hx hb hts i_X5 hown hK (hP _ _ h_I) rfl 0 (by decide) (hts (.fieldLink RX5 41 "MeniscusModel$Instrument" "tube" "LMeniscusModel$Tube;") (by decide +kernel)) (fun _ h9 => h9) rfl dX5_level_92 ?_
      refine lv_iload_n hx hb dX5_level_95 rfl (lv_at hl 4 rfl) ?_
      refine m_calli (va_runV (As := [.int (nI d9)]) (rest := [.int r5]) ⟨hx, hb, hml, hown, hts⟩ (c_X6_volume l G A Mw  (d9) (by omega) h_T h_B) (cwV 1 hts gX5_level_X6_volume rfl rfl rfl (by decide +kernel) ⟨Nat.le_of_ble_eq_true rfl, Nat.le_of_ble_eq_true rfl⟩) (mPreV hG hS hP hI hA (hP _ _ h_T) (r := (RX6, TX6, 2)) rfl) rfl rfl hl.1 rfl (lv_room (Nat.le_of_ble_eq_true rfl)) dX5_level_96 ⟨Nat.le_of_ble_eq_true rfl, Nat.le_of_ble_eq_true rfl⟩) hS (fun r6 Mw1 H locs hp_r6 hP hI hS => ?_)
      obtain ⟨hp_r6, hm9⟩ := hp_r6
      subst Mw1
      refine lv_isub hx hb dX5_level_99 ?_
      refine lv_i2l (v := (r5 - r6).toInt64) hx hb dX5_level_100 rfl ?_
      refine lv_lstore (lv' := [(7, .long ((r5 - r6).toInt64)), (6, .int (nI j9)), (4, .long ((((in0.toInt64 + (((in0.toInt64 * r1.toInt64) * p0.toInt64) / 1000000)) - bu0.toInt64) - (((bu0.toInt64 * ((1 : Int32).toInt64)) * p0.toInt64) / 1000000)) + cr0.toInt64)), (0, .ref a0), (1, .int p0), (2, .int (nI d9)), (3, .int p2)]) hx hb dX5_level_101 hl (by decide) rfl (fun ls hl => ?_)
      refine lv_aload_n hx hb dX5_level_103 rfl (lv_at hl 3 rfl) ?_
      refine lv_lload hx hb dX5_level_104 (lv_at hl 2 rfl) ?_
      refine lv_lload hx hb dX5_level_106 (lv_at hl 0 rfl) ?_
      refine lv_aload_n hx hb dX5_level_108 rfl (lv_at hl 3 rfl) ?_
      refine m_calli (va_runV (As := []) (rest := [.long ((r5 - r6).toInt64), .long ((((in0.toInt64 + (((in0.toInt64 * r1.toInt64) * p0.toInt64) / 1000000)) - bu0.toInt64) - (((bu0.toInt64 * ((1 : Int32).toInt64)) * p0.toInt64) / 1000000)) + cr0.toInt64), .ref a0]) ⟨hx, hb, hml, hown, hts⟩ (c_X5_grows l G A Mw  h_I) (cwV 0 hts gX5_level_X5_grows rfl rfl rfl (by decide +kernel) ⟨Nat.le_of_ble_eq_true rfl, Nat.le_of_ble_eq_true rfl⟩) (mPreV hG hS hP hI hA (hP _ _ h_I) (r := (RX5, TX5, 17)) rfl) rfl rfl hl.1 rfl (lv_room (Nat.le_of_ble_eq_true rfl)) dX5_level_109 ⟨Nat.le_of_ble_eq_true rfl, Nat.le_of_ble_eq_true rfl⟩) hS (fun r7 Mw1 H locs hp_r7 hP hI hS => ?_)
      obtain ⟨hp_r7, hm9⟩ := hp_r7
      subst Mw1
      refine lv_i2l (v := r7.toInt64) hx hb dX5_level_112 rfl ?_
      refine lv_lmul hx hb dX5_level_113 ?_
      refine lv_iload_n hx hb dX5_level_114 rfl (lv_at hl 4 rfl) ?_
      refine lv_iload_n hx hb dX5_level_115 rfl (lv_at hl 6 rfl) ?_
      refine lv_isub hx hb dX5_level_116 ?_
      refine lv_i2l (v := (p0 - p2).toInt64) hx hb dX5_level_117 rfl ?_
      refine lv_lmul hx hb dX5_level_118 ?_
      refine lv_ldc2 (v := 1000000) hx hb hown (hts (.constantLong RX5 71 (1000000)) (by decide +kernel)) dX5_level_119 ?_
      refine lv_ldiv hx hb dX5_level_122 (by decide) ?_
      refine lv_lsub hx hb dX5_level_123 ?_
      refine m_calli (va_runV (As := [.long (((((in0.toInt64 + (((in0.toInt64 * r1.toInt64) * p0.toInt64) / 1000000)) - bu0.toInt64) - (((bu0.toInt64 * ((1 : Int32).toInt64)) * p0.toInt64) / 1000000)) + cr0.toInt64) - (((((r5 - r6).toInt64) * r7.toInt64) * ((p0 - p2).toInt64)) / 1000000))]) (rest := []) ⟨hx, hb, hml, hown, hts⟩ (c_X5_levelBy l G A Mw  (((((in0.toInt64 + (((in0.toInt64 * r1.toInt64) * p0.toInt64) / 1000000)) - bu0.toInt64) - (((bu0.toInt64 * ((1 : Int32).toInt64)) * p0.toInt64) / 1000000)) + cr0.toInt64) - (((((r5 - r6).toInt64) * r7.toInt64) * ((p0 - p2).toInt64)) / 1000000)) h_I h_T h_B) (cwV 1 hts gX5_level_X5_levelBy rfl rfl rfl (by decide +kernel) ⟨Nat.le_of_ble_eq_true rfl, Nat.le_of_ble_eq_true rfl⟩) (mPreV hG hS hP hI hA (hP _ _ h_I) (r := (RX5, TX5, 17)) rfl) rfl rfl hl.1 rfl (lv_room (Nat.le_of_ble_eq_true rfl)) dX5_level_124 ⟨Nat.le_of_ble_eq_true rfl, Nat.le_of_ble_eq_true rfl⟩) hS (fun r8 Mw1 H locs hp_r8 hP hI hS => ?_)
      obtain ⟨hp_r8, hm9⟩ := hp_r8
      subst Mw1
      refine W.widen (k := 0) (n := 0) (Nat.le_of_ble_eq_true rfl) (Nat.le_of_ble_eq_true rfl) ?_
      exact W.iret (v := r8) hx hb hr (fun t99 ht99 hW99 => ⟨⟨r8, Mw, rfl, ⟨by unfold mlevel; rw [if_neg hc9, hk9, nI_clamp (show j9 < 2 ^ 31 by omega), ← hp_r5, ← hp_r6, hR9]; rw [hp_r8, hp_r7]; try rw [rfl], rfl⟩, by rw [ht99]; exact hP, hI⟩, hS.F ht99⟩) hS.2.2 dX5_level_127
    · skip
      have hc9 : mby bf (mrs in0 bu0 cr0 li0 gl0 p0) ≤ nI d9 := by rw [← hp_r3]; exact i_le c4
      refine lv_iload hx hb dX5_level_79 (lv_at hl 0 rfl) ?_
      refine W.widen (k := 0) (n := 0) (Nat.le_of_ble_eq_true rfl) (Nat.le_of_ble_eq_true rfl) ?_
      exact W.iret (v := r3) hx hb hr (fun t99 ht99 hW99 => ⟨⟨r3, Mw, rfl, ⟨by unfold mlevel; rw [if_pos hc9, hp_r3], rfl⟩, by rw [ht99]; exact hP, hI⟩, hS.F ht99⟩) hS.2.2 dX5_level_81
  · skip
    refine lv_iconst (v := 3) hx hb dX5_level_42 (by decide) ?_
    refine lv_goto (tgt := 47) hx hb dX5_level_43 (by decide) ?_
    refine lv_i2l (v := (3 : Int32).toInt64) hx hb dX5_level_47 rfl ?_
    refine lv_lmul hx hb dX5_level_48 ?_
    refine lv_iload_n hx hb dX5_level_49 rfl (lv_at hl 1 rfl) ?_
    refine lv_i2l (v := p0.toInt64) hx hb dX5_level_50 rfl ?_
    refine lv_lmul hx hb dX5_level_51 ?_
    refine lv_ldc2 (v := 1000000) hx hb hown (hts (.constantLong RX5 71 (1000000)) (by decide +kernel)) dX5_level_52 ?_
    refine lv_ldiv hx hb dX5_level_55 (by decide) ?_
    refine lv_lsub hx hb dX5_level_56 ?_
    refine lv_aload_n hx hb dX5_level_57 rfl (lv_at hl 0 rfl) ?_
    refine m_get (ci := 8) (v := .int cr0) (C := RX5) (T := TX5) (N := 17) hx hb hts i_X5 hown hK (hP _ _ h_I) rfl 3 (by decide) (hts (.fieldLink RX5 55 "MeniscusModel$Instrument" "crept" "I") (by decide +kernel)) (fun _ h9 => h9) rfl dX5_level_58 ?_
    refine lv_i2l (v := cr0.toInt64) hx hb dX5_level_61 rfl ?_
    refine lv_ladd hx hb dX5_level_62 ?_
    refine lv_lstore (lv' := [(4, .long ((((in0.toInt64 + (((in0.toInt64 * r1.toInt64) * p0.toInt64) / 1000000)) - bu0.toInt64) - (((bu0.toInt64 * ((3 : Int32).toInt64)) * p0.toInt64) / 1000000)) + cr0.toInt64)), (0, .ref a0), (1, .int p0), (2, .int (nI d9)), (3, .int p2)]) hx hb dX5_level_63 hl (by decide) rfl (fun ls hl => ?_)
    refine lv_aload_n hx hb dX5_level_65 rfl (lv_at hl 1 rfl) ?_
    refine lv_lload hx hb dX5_level_66 (lv_at hl 0 rfl) ?_
    refine m_calli (va_runV (As := [.long ((((in0.toInt64 + (((in0.toInt64 * r1.toInt64) * p0.toInt64) / 1000000)) - bu0.toInt64) - (((bu0.toInt64 * ((3 : Int32).toInt64)) * p0.toInt64) / 1000000)) + cr0.toInt64)]) (rest := []) ⟨hx, hb, hml, hown, hts⟩ (c_X5_levelBy l G A Mw  ((((in0.toInt64 + (((in0.toInt64 * r1.toInt64) * p0.toInt64) / 1000000)) - bu0.toInt64) - (((bu0.toInt64 * ((3 : Int32).toInt64)) * p0.toInt64) / 1000000)) + cr0.toInt64) h_I h_T h_B) (cwV 1 hts gX5_level_X5_levelBy rfl rfl rfl (by decide +kernel) ⟨Nat.le_of_ble_eq_true rfl, Nat.le_of_ble_eq_true rfl⟩) (mPreV hG hS hP hI hA (hP _ _ h_I) (r := (RX5, TX5, 17)) rfl) rfl rfl hl.1 rfl (lv_room (Nat.le_of_ble_eq_true rfl)) dX5_level_68 ⟨Nat.le_of_ble_eq_true rfl, Nat.le_of_ble_eq_true rfl⟩) hS (fun r9 Mw1 H locs hp_r9 hP hI hS => ?_)
    obtain ⟨hp_r9, hm9⟩ := hp_r9
    subst Mw1
    have hR9 : mrs in0 bu0 cr0 li0 gl0 p0 = (((in0.toInt64 + (((in0.toInt64 * r1.toInt64) * p0.toInt64) / 1000000)) - bu0.toInt64) - (((bu0.toInt64 * ((3 : Int32).toInt64)) * p0.toInt64) / 1000000)) + cr0.toInt64 := by unfold mrs; rw [if_neg (sof_1 c2), ← hp_r1]
    rw [← hR9] at hp_r9
    refine lv_istore (lv' := [(6, .int r9), (4, .long ((((in0.toInt64 + (((in0.toInt64 * r1.toInt64) * p0.toInt64) / 1000000)) - bu0.toInt64) - (((bu0.toInt64 * ((3 : Int32).toInt64)) * p0.toInt64) / 1000000)) + cr0.toInt64)), (0, .ref a0), (1, .int p0), (2, .int (nI d9)), (3, .int p2)]) hx hb dX5_level_71 hl (by decide) rfl (fun ls hl => ?_)
    refine lv_iload hx hb dX5_level_73 (lv_at hl 0 rfl) ?_
    refine lv_iload_n hx hb dX5_level_75 rfl (lv_at hl 4 rfl) ?_
    refine lv_icmp_gt (tgt := 82) hx hb dX5_level_76 (by decide) (fun c10 => ?_) (fun c10 => ?_)
    · skip
      have hc9 : ¬ mby bf (mrs in0 bu0 cr0 li0 gl0 p0) ≤ nI d9 := fun q9 => absurd c10 (i_nlt (by rw [hp_r9]; exact q9))
      obtain ⟨j9, hj9, hk9⟩ := mby_r hd9 hc9
      have hr9 : r9 = nI j9 := hp_r9.trans hk9
      subst hr9
      refine lv_aload_n hx hb dX5_level_82 rfl (lv_at hl 2 rfl) ?_
      refine m_get (ci := 8) (v := .ref t0) (C := RX5) (T := TX5) (N := 17) hx hb hts i_X5 hown hK (hP _ _ h_I) rfl 0 (by decide) (hts (.fieldLink RX5 41 "MeniscusModel$Instrument" "tube" "LMeniscusModel$Tube;") (by decide +kernel)) (fun _ h9 => h9) rfl dX5_level_83 ?_
      refine lv_iload hx hb dX5_level_86 (lv_at hl 0 rfl) ?_
      refine m_calli (va_runV (As := [.int (nI j9)]) (rest := []) ⟨hx, hb, hml, hown, hts⟩ (c_X6_volume l G A Mw  (j9) (by omega) h_T h_B) (cwV 1 hts gX5_level_X6_volume rfl rfl rfl (by decide +kernel) ⟨Nat.le_of_ble_eq_true rfl, Nat.le_of_ble_eq_true rfl⟩) (mPreV hG hS hP hI hA (hP _ _ h_T) (r := (RX6, TX6, 2)) rfl) rfl rfl hl.1 rfl (lv_room (Nat.le_of_ble_eq_true rfl)) dX5_level_88 ⟨Nat.le_of_ble_eq_true rfl, Nat.le_of_ble_eq_true rfl⟩) hS (fun r11 Mw1 H locs hp_r11 hP hI hS => ?_)
      obtain ⟨hp_r11, hm9⟩ := hp_r11
      subst Mw1
      refine lv_aload_n hx hb dX5_level_91 rfl (lv_at hl 2 rfl) ?_
      refine m_get (ci := 8) (v := .ref t0) (C := RX5) (T := TX5) (N := 17) hx hb hts i_X5 hown hK (hP _ _ h_I) rfl 0 (by decide) (hts (.fieldLink RX5 41 "MeniscusModel$Instrument" "tube" "LMeniscusModel$Tube;") (by decide +kernel)) (fun _ h9 => h9) rfl dX5_level_92 ?_
      refine lv_iload_n hx hb dX5_level_95 rfl (lv_at hl 4 rfl) ?_
      refine m_calli (va_runV (As := [.int (nI d9)]) (rest := [.int r11]) ⟨hx, hb, hml, hown, hts⟩ (c_X6_volume l G A Mw  (d9) (by omega) h_T h_B) (cwV 1 hts gX5_level_X6_volume rfl rfl rfl (by decide +kernel) ⟨Nat.le_of_ble_eq_true rfl, Nat.le_of_ble_eq_true rfl⟩) (mPreV hG hS hP hI hA (hP _ _ h_T) (r := (RX6, TX6, 2)) rfl) rfl rfl hl.1 rfl (lv_room (Nat.le_of_ble_eq_true rfl)) dX5_level_96 ⟨Nat.le_of_ble_eq_true rfl, Nat.le_of_ble_eq_true rfl⟩) hS (fun r12 Mw1 H locs hp_r12 hP hI hS => ?_)
      obtain ⟨hp_r12, hm9⟩ := hp_r12
      subst Mw1
      refine lv_isub hx hb dX5_level_99 ?_
      refine lv_i2l (v := (r11 - r12).toInt64) hx hb dX5_level_100 rfl ?_
      refine lv_lstore (lv' := [(7, .long ((r11 - r12).toInt64)), (6, .int (nI j9)), (4, .long ((((in0.toInt64 + (((in0.toInt64 * r1.toInt64) * p0.toInt64) / 1000000)) - bu0.toInt64) - (((bu0.toInt64 * ((3 : Int32).toInt64)) * p0.toInt64) / 1000000)) + cr0.toInt64)), (0, .ref a0), (1, .int p0), (2, .int (nI d9)), (3, .int p2)]) hx hb dX5_level_101 hl (by decide) rfl (fun ls hl => ?_)
      refine lv_aload_n hx hb dX5_level_103 rfl (lv_at hl 3 rfl) ?_
      refine lv_lload hx hb dX5_level_104 (lv_at hl 2 rfl) ?_
      refine lv_lload hx hb dX5_level_106 (lv_at hl 0 rfl) ?_
      refine lv_aload_n hx hb dX5_level_108 rfl (lv_at hl 3 rfl) ?_
      refine m_calli (va_runV (As := []) (rest := [.long ((r11 - r12).toInt64), .long ((((in0.toInt64 + (((in0.toInt64 * r1.toInt64) * p0.toInt64) / 1000000)) - bu0.toInt64) - (((bu0.toInt64 * ((3 : Int32).toInt64)) * p0.toInt64) / 1000000)) + cr0.toInt64), .ref a0]) ⟨hx, hb, hml, hown, hts⟩ (c_X5_grows l G A Mw  h_I) (cwV 0 hts gX5_level_X5_grows rfl rfl rfl (by decide +kernel) ⟨Nat.le_of_ble_eq_true rfl, Nat.le_of_ble_eq_true rfl⟩) (mPreV hG hS hP hI hA (hP _ _ h_I) (r := (RX5, TX5, 17)) rfl) rfl rfl hl.1 rfl (lv_room (Nat.le_of_ble_eq_true rfl)) dX5_level_109 ⟨Nat.le_of_ble_eq_true rfl, Nat.le_of_ble_eq_true rfl⟩) hS (fun r13 Mw1 H locs hp_r13 hP hI hS => ?_)
      obtain ⟨hp_r13, hm9⟩ := hp_r13
      subst Mw1
      refine lv_i2l (v := r13.toInt64) hx hb dX5_level_112 rfl ?_
      refine lv_lmul hx hb dX5_level_113 ?_
      refine lv_iload_n hx hb dX5_level_114 rfl (lv_at hl 4 rfl) ?_
      refine lv_iload_n hx hb dX5_level_115 rfl (lv_at hl 6 rfl) ?_
      refine lv_isub hx hb dX5_level_116 ?_
      refine lv_i2l (v := (p0 - p2).toInt64) hx hb dX5_level_117 rfl ?_
      refine lv_lmul hx hb dX5_level_118 ?_
      refine lv_ldc2 (v := 1000000) hx hb hown (hts (.constantLong RX5 71 (1000000)) (by decide +kernel)) dX5_level_119 ?_
      refine lv_ldiv hx hb dX5_level_122 (by decide) ?_
      refine lv_lsub hx hb dX5_level_123 ?_
      refine m_calli (va_runV (As := [.long (((((in0.toInt64 + (((in0.toInt64 * r1.toInt64) * p0.toInt64) / 1000000)) - bu0.toInt64) - (((bu0.toInt64 * ((3 : Int32).toInt64)) * p0.toInt64) / 1000000)) + cr0.toInt64) - (((((r11 - r12).toInt64) * r13.toInt64) * ((p0 - p2).toInt64)) / 1000000))]) (rest := []) ⟨hx, hb, hml, hown, hts⟩ (c_X5_levelBy l G A Mw  (((((in0.toInt64 + (((in0.toInt64 * r1.toInt64) * p0.toInt64) / 1000000)) - bu0.toInt64) - (((bu0.toInt64 * ((3 : Int32).toInt64)) * p0.toInt64) / 1000000)) + cr0.toInt64) - (((((r11 - r12).toInt64) * r13.toInt64) * ((p0 - p2).toInt64)) / 1000000)) h_I h_T h_B) (cwV 1 hts gX5_level_X5_levelBy rfl rfl rfl (by decide +kernel) ⟨Nat.le_of_ble_eq_true rfl, Nat.le_of_ble_eq_true rfl⟩) (mPreV hG hS hP hI hA (hP _ _ h_I) (r := (RX5, TX5, 17)) rfl) rfl rfl hl.1 rfl (lv_room (Nat.le_of_ble_eq_true rfl)) dX5_level_124 ⟨Nat.le_of_ble_eq_true rfl, Nat.le_of_ble_eq_true rfl⟩) hS (fun r14 Mw1 H locs hp_r14 hP hI hS => ?_)
      obtain ⟨hp_r14, hm9⟩ := hp_r14
      subst Mw1
      refine W.widen (k := 0) (n := 0) (Nat.le_of_ble_eq_true rfl) (Nat.le_of_ble_eq_true rfl) ?_
      exact W.iret (v := r14) hx hb hr (fun t99 ht99 hW99 => ⟨⟨r14, Mw, rfl, ⟨by unfold mlevel; rw [if_neg hc9, hk9, nI_clamp (show j9 < 2 ^ 31 by omega), ← hp_r11, ← hp_r12, hR9]; rw [hp_r14, hp_r13]; try rw [rfl], rfl⟩, by rw [ht99]; exact hP, hI⟩, hS.F ht99⟩) hS.2.2 dX5_level_127
    · skip
      have hc9 : mby bf (mrs in0 bu0 cr0 li0 gl0 p0) ≤ nI d9 := by rw [← hp_r9]; exact i_le c10
      refine lv_iload hx hb dX5_level_79 (lv_at hl 0 rfl) ?_
      refine W.widen (k := 0) (n := 0) (Nat.le_of_ble_eq_true rfl) (Nat.le_of_ble_eq_true rfl) ?_
      exact W.iret (v := r9) hx hb hr (fun t99 ht99 hW99 => ⟨⟨r9, Mw, rfl, ⟨by unfold mlevel; rw [if_pos hc9, hp_r9], rfl⟩, by rw [ht99]; exact hP, hI⟩, hS.F ht99⟩) hS.2.2 dX5_level_81

def mfar (kin : Int32) (bf : Nat → Int32) (e p : Nat) : Int64 := if kin = 108 then (nI p - nI e).toInt64 else (msum bf p - msum bf e).toInt64
set_option maxHeartbeats 4000000 in
set_option maxRecDepth 100000 in
theorem c_X5_readsAt (l : Launch) (G : mg) (A : Nat → Prop) (Mw : mw) (k9 e9 s9 : Nat) (hk9 : k9 ≤ 200) (he9 : e9 ≤ 200) (hs9 : s9 ≤ 200) {a0 t0 rd0 ht0 : Nat} {bu0 gl0 cr0 in0 li0 sm0 stt0 kin0 ga0 ke0 gr0 ce0 : Int32} (h_I : Mw a0 = some (.inr (8, [.ref t0, .int bu0, .int (sof gl0), .int cr0, .int in0, .int li0, .int sm0, .int (nI e9), .int (nI s9), .int stt0, .int kin0, .int ga0, .int ke0, .int gr0, .int ce0, .ref rd0, .ref ht0]))) {b0 : Nat} {us0 : Int32} {bf : Nat → Int32} (h_T : Mw t0 = some (.inr (9, [.ref b0, .int us0]))) (h_B : Mw b0 = some (.inl (G.2.1 0, 20, .inl bf))) (hdz : mfar kin0 bf e9 s9 ≠ 0) : Met l yX5_readsAt wsX5_readsAt ({ frames := 1, cells := 0, slots := 0, locals := 23 }) (va_Pc [.ref a0, .int (nI k9)] (mB G A Mw)) (va_Qi (fun r Mw1 => r = ((stt0.toInt64 * mfar kin0 bf e9 k9 / mfar kin0 bf e9 s9).toInt32) ∧ Mw1 = Mw) (mE G A) A) 0 0 A := by
  refine Met.ofW (cc := cX5_readsAt) (maxL := 6) (ret := (some .int)) (by decide) rfl ?_
  intro p e s m args below meth c s₁ B hml hv
  obtain ⟨rfl, hG, hP, hI, hA⟩ := hv
  have hx := B.exec
  have hb := B.bytes
  have hr := B.returns
  have hts := atoms_spec (ws := wsX5_readsAt) B.pre
  have hown : s.vm.findClass RX5 = some m.cls := findClass_of_methodNamed B.named
  have hlocks := B.notSynchronized
  have hK := hG.K
  have i_X5 : ∀ w ∈ wsX50, w ∈ wsX5_readsAt := by decide +kernel
  have hS : va_S A s.heap s.heap [] := va_S.rf
  have hl := lv_entry ([.ref a0, .int (nI k9)]) (n := 6) (Nat.le_of_ble_eq_true rfl)
  rw [lg_entry_eq]
  generalize (lg_sl ([.ref a0, .int (nI k9)]) ++ List.replicate (6 - (lg_sl ([.ref a0, .int (nI k9)])).length) Slot.unset).toArray = ls at hl ⊢
  have hl : lv_has ls 6 [(0, .ref a0), (1, .int (nI k9))] := hl
  have hP : mP G.1 Mw s.heap := hP
  refine lv_aload_n hx hb dX5_readsAt_0 rfl (lv_at hl 0 rfl) ?_
  refine m_get (ci := 8) (v := .int kin0) (C := RX5) (T := TX5) (N := 17) hx hb hts i_X5 hown hK (hP _ _ h_I) rfl 10 (by decide) (hts (.fieldLink RX5 22 "MeniscusModel$Instrument" "kind" "C") (by decide +kernel)) (fun _ h9 => h9) rfl dX5_readsAt_1 ?_
  refine lv_bipush (v := (108)) hx hb dX5_readsAt_4 (by decide) ?_
  refine lv_icmp_ne (tgt := 19) hx hb dX5_readsAt_6 (by decide) (fun c1 => ?_) (fun c1 => ?_)
  · skip
    refine lv_aload_n hx hb dX5_readsAt_19 rfl (lv_at hl 0 rfl) ?_
    refine m_get (ci := 8) (v := .ref t0) (C := RX5) (T := TX5) (N := 17) hx hb hts i_X5 hown hK (hP _ _ h_I) rfl 0 (by decide) (hts (.fieldLink RX5 41 "MeniscusModel$Instrument" "tube" "LMeniscusModel$Tube;") (by decide +kernel)) (fun _ h9 => h9) rfl dX5_readsAt_20 ?_
    refine lv_iload_n hx hb dX5_readsAt_23 rfl (lv_at hl 1 rfl) ?_
    refine m_calli (va_runV (As := [.int (nI k9)]) (rest := []) ⟨hx, hb, hml, hown, hts⟩ (c_X6_volume l G A Mw  k9 (by omega) h_T h_B) (cwV 1 hts gX5_readsAt_X6_volume rfl rfl rfl (by decide +kernel) ⟨Nat.le_of_ble_eq_true rfl, Nat.le_of_ble_eq_true rfl⟩) (mPreV hG hS hP hI hA (hP _ _ h_T) (r := (RX6, TX6, 2)) rfl) rfl rfl hl.1 rfl (lv_room (Nat.le_of_ble_eq_true rfl)) dX5_readsAt_24 ⟨Nat.le_of_ble_eq_true rfl, Nat.le_of_ble_eq_true rfl⟩) hS (fun r2 Mw1 H locs hp_r2 hP hI hS => ?_)
    obtain ⟨hp_r2, hm9⟩ := hp_r2
    subst Mw1
    refine lv_aload_n hx hb dX5_readsAt_27 rfl (lv_at hl 0 rfl) ?_
    refine m_get (ci := 8) (v := .ref t0) (C := RX5) (T := TX5) (N := 17) hx hb hts i_X5 hown hK (hP _ _ h_I) rfl 0 (by decide) (hts (.fieldLink RX5 41 "MeniscusModel$Instrument" "tube" "LMeniscusModel$Tube;") (by decide +kernel)) (fun _ h9 => h9) rfl dX5_readsAt_28 ?_
    refine lv_aload_n hx hb dX5_readsAt_31 rfl (lv_at hl 0 rfl) ?_
    refine m_get (ci := 8) (v := .int (nI e9)) (C := RX5) (T := TX5) (N := 17) hx hb hts i_X5 hown hK (hP _ _ h_I) rfl 7 (by decide) (hts (.fieldLink RX5 15 "MeniscusModel$Instrument" "ice" "I") (by decide +kernel)) (fun _ h9 => h9) rfl dX5_readsAt_32 ?_
    refine m_calli (va_runV (As := [.int (nI e9)]) (rest := [.int r2]) ⟨hx, hb, hml, hown, hts⟩ (c_X6_volume l G A Mw  e9 (by omega) h_T h_B) (cwV 1 hts gX5_readsAt_X6_volume rfl rfl rfl (by decide +kernel) ⟨Nat.le_of_ble_eq_true rfl, Nat.le_of_ble_eq_true rfl⟩) (mPreV hG hS hP hI hA (hP _ _ h_T) (r := (RX6, TX6, 2)) rfl) rfl rfl hl.1 rfl (lv_room (Nat.le_of_ble_eq_true rfl)) dX5_readsAt_35 ⟨Nat.le_of_ble_eq_true rfl, Nat.le_of_ble_eq_true rfl⟩) hS (fun r3 Mw1 H locs hp_r3 hP hI hS => ?_)
    obtain ⟨hp_r3, hm9⟩ := hp_r3
    subst Mw1
    refine lv_isub hx hb dX5_readsAt_38 ?_
    refine lv_i2l (v := (r2 - r3).toInt64) hx hb dX5_readsAt_39 rfl ?_
    refine lv_lstore_n (lv' := [(2, .long ((r2 - r3).toInt64)), (0, .ref a0), (1, .int (nI k9))]) hx hb dX5_readsAt_40 rfl hl (by decide) rfl (fun ls hl => ?_)
    refine lv_aload_n hx hb dX5_readsAt_41 rfl (lv_at hl 1 rfl) ?_
    refine m_get (ci := 8) (v := .int kin0) (C := RX5) (T := TX5) (N := 17) hx hb hts i_X5 hown hK (hP _ _ h_I) rfl 10 (by decide) (hts (.fieldLink RX5 22 "MeniscusModel$Instrument" "kind" "C") (by decide +kernel)) (fun _ h9 => h9) rfl dX5_readsAt_42 ?_
    refine lv_bipush (v := (108)) hx hb dX5_readsAt_45 (by decide) ?_
    refine lv_icmp_ne (tgt := 63) hx hb dX5_readsAt_47 (by decide) (fun c4 => ?_) (fun c4 => absurd c4 c1)
    refine lv_aload_n hx hb dX5_readsAt_63 rfl (lv_at hl 1 rfl) ?_
    refine m_get (ci := 8) (v := .ref t0) (C := RX5) (T := TX5) (N := 17) hx hb hts i_X5 hown hK (hP _ _ h_I) rfl 0 (by decide) (hts (.fieldLink RX5 41 "MeniscusModel$Instrument" "tube" "LMeniscusModel$Tube;") (by decide +kernel)) (fun _ h9 => h9) rfl dX5_readsAt_64 ?_
    refine lv_aload_n hx hb dX5_readsAt_67 rfl (lv_at hl 1 rfl) ?_
    refine m_get (ci := 8) (v := .int (nI s9)) (C := RX5) (T := TX5) (N := 17) hx hb hts i_X5 hown hK (hP _ _ h_I) rfl 8 (by decide) (hts (.fieldLink RX5 19 "MeniscusModel$Instrument" "steam" "I") (by decide +kernel)) (fun _ h9 => h9) rfl dX5_readsAt_68 ?_
    refine m_calli (va_runV (As := [.int (nI s9)]) (rest := []) ⟨hx, hb, hml, hown, hts⟩ (c_X6_volume l G A Mw  s9 (by omega) h_T h_B) (cwV 1 hts gX5_readsAt_X6_volume rfl rfl rfl (by decide +kernel) ⟨Nat.le_of_ble_eq_true rfl, Nat.le_of_ble_eq_true rfl⟩) (mPreV hG hS hP hI hA (hP _ _ h_T) (r := (RX6, TX6, 2)) rfl) rfl rfl hl.1 rfl (lv_room (Nat.le_of_ble_eq_true rfl)) dX5_readsAt_71 ⟨Nat.le_of_ble_eq_true rfl, Nat.le_of_ble_eq_true rfl⟩) hS (fun r5 Mw1 H locs hp_r5 hP hI hS => ?_)
    obtain ⟨hp_r5, hm9⟩ := hp_r5
    subst Mw1
    refine lv_aload_n hx hb dX5_readsAt_74 rfl (lv_at hl 1 rfl) ?_
    refine m_get (ci := 8) (v := .ref t0) (C := RX5) (T := TX5) (N := 17) hx hb hts i_X5 hown hK (hP _ _ h_I) rfl 0 (by decide) (hts (.fieldLink RX5 41 "MeniscusModel$Instrument" "tube" "LMeniscusModel$Tube;") (by decide +kernel)) (fun _ h9 => h9) rfl dX5_readsAt_75 ?_
    refine lv_aload_n hx hb dX5_readsAt_78 rfl (lv_at hl 1 rfl) ?_
    refine m_get (ci := 8) (v := .int (nI e9)) (C := RX5) (T := TX5) (N := 17) hx hb hts i_X5 hown hK (hP _ _ h_I) rfl 7 (by decide) (hts (.fieldLink RX5 15 "MeniscusModel$Instrument" "ice" "I") (by decide +kernel)) (fun _ h9 => h9) rfl dX5_readsAt_79 ?_
    refine m_calli (va_runV (As := [.int (nI e9)]) (rest := [.int r5]) ⟨hx, hb, hml, hown, hts⟩ (c_X6_volume l G A Mw  e9 (by omega) h_T h_B) (cwV 1 hts gX5_readsAt_X6_volume rfl rfl rfl (by decide +kernel) ⟨Nat.le_of_ble_eq_true rfl, Nat.le_of_ble_eq_true rfl⟩) (mPreV hG hS hP hI hA (hP _ _ h_T) (r := (RX6, TX6, 2)) rfl) rfl rfl hl.1 rfl (lv_room (Nat.le_of_ble_eq_true rfl)) dX5_readsAt_82 ⟨Nat.le_of_ble_eq_true rfl, Nat.le_of_ble_eq_true rfl⟩) hS (fun r6 Mw1 H locs hp_r6 hP hI hS => ?_)
    obtain ⟨hp_r6, hm9⟩ := hp_r6
    subst Mw1
    refine lv_isub hx hb dX5_readsAt_85 ?_
    refine lv_i2l (v := (r5 - r6).toInt64) hx hb dX5_readsAt_86 rfl ?_
    refine lv_lstore (lv' := [(4, .long ((r5 - r6).toInt64)), (2, .long ((r2 - r3).toInt64)), (0, .ref a0), (1, .int (nI k9))]) hx hb dX5_readsAt_87 hl (by decide) rfl (fun ls hl => ?_)
    refine lv_aload_n hx hb dX5_readsAt_89 rfl (lv_at hl 2 rfl) ?_
    refine m_get (ci := 8) (v := .int stt0) (C := RX5) (T := TX5) (N := 17) hx hb hts i_X5 hown hK (hP _ _ h_I) rfl 9 (by decide) (hts (.fieldLink RX5 81 "MeniscusModel$Instrument" "steamHeat" "I") (by decide +kernel)) (fun _ h9 => h9) rfl dX5_readsAt_90 ?_
    refine lv_i2l (v := stt0.toInt64) hx hb dX5_readsAt_93 rfl ?_
    refine lv_lload_n hx hb dX5_readsAt_94 rfl (lv_at hl 1 rfl) ?_
    refine lv_lmul hx hb dX5_readsAt_95 ?_
    refine lv_lload hx hb dX5_readsAt_96 (lv_at hl 0 rfl) ?_
    refine lv_ldiv hx hb dX5_readsAt_98 (fun q9 => hdz (by unfold mfar; rw [if_neg c1, ← hp_r5, ← hp_r6]; exact q9)) ?_
    refine lv_l2i (v := ((stt0.toInt64 * ((r2 - r3).toInt64)) / ((r5 - r6).toInt64)).toInt32) hx hb dX5_readsAt_99 rfl ?_
    refine W.widen (k := 0) (n := 0) (Nat.le_of_ble_eq_true rfl) (Nat.le_of_ble_eq_true rfl) ?_
    exact W.iret (v := ((stt0.toInt64 * ((r2 - r3).toInt64)) / ((r5 - r6).toInt64)).toInt32) hx hb hr (fun t99 ht99 hW99 => ⟨⟨((stt0.toInt64 * ((r2 - r3).toInt64)) / ((r5 - r6).toInt64)).toInt32, Mw, rfl, ⟨by unfold mfar; rw [if_neg c1, if_neg c1, hp_r2, hp_r3, hp_r5, hp_r6], rfl⟩, by rw [ht99]; exact hP, hI⟩, hS.F ht99⟩) hS.2.2 dX5_readsAt_100
  · skip
    refine lv_iload_n hx hb dX5_readsAt_9 rfl (lv_at hl 1 rfl) ?_
    refine lv_aload_n hx hb dX5_readsAt_10 rfl (lv_at hl 0 rfl) ?_
    refine m_get (ci := 8) (v := .int (nI e9)) (C := RX5) (T := TX5) (N := 17) hx hb hts i_X5 hown hK (hP _ _ h_I) rfl 7 (by decide) (hts (.fieldLink RX5 15 "MeniscusModel$Instrument" "ice" "I") (by decide +kernel)) (fun _ h9 => h9) rfl dX5_readsAt_11 ?_
    refine lv_isub hx hb dX5_readsAt_14 ?_
    refine lv_i2l (v := ((nI k9) - (nI e9)).toInt64) hx hb dX5_readsAt_15 rfl ?_
    refine lv_goto (tgt := 40) hx hb dX5_readsAt_16 (by decide) ?_
    refine lv_lstore_n (lv' := [(2, .long (((nI k9) - (nI e9)).toInt64)), (0, .ref a0), (1, .int (nI k9))]) hx hb dX5_readsAt_40 rfl hl (by decide) rfl (fun ls hl => ?_)
    refine lv_aload_n hx hb dX5_readsAt_41 rfl (lv_at hl 1 rfl) ?_
    refine m_get (ci := 8) (v := .int kin0) (C := RX5) (T := TX5) (N := 17) hx hb hts i_X5 hown hK (hP _ _ h_I) rfl 10 (by decide) (hts (.fieldLink RX5 22 "MeniscusModel$Instrument" "kind" "C") (by decide +kernel)) (fun _ h9 => h9) rfl dX5_readsAt_42 ?_
    refine lv_bipush (v := (108)) hx hb dX5_readsAt_45 (by decide) ?_
    refine lv_icmp_ne (tgt := 63) hx hb dX5_readsAt_47 (by decide) (fun c7 => absurd c7 (fun q9 => q9 c1)) (fun c7 => ?_)
    refine lv_aload_n hx hb dX5_readsAt_50 rfl (lv_at hl 1 rfl) ?_
    refine m_get (ci := 8) (v := .int (nI s9)) (C := RX5) (T := TX5) (N := 17) hx hb hts i_X5 hown hK (hP _ _ h_I) rfl 8 (by decide) (hts (.fieldLink RX5 19 "MeniscusModel$Instrument" "steam" "I") (by decide +kernel)) (fun _ h9 => h9) rfl dX5_readsAt_51 ?_
    refine lv_aload_n hx hb dX5_readsAt_54 rfl (lv_at hl 1 rfl) ?_
    refine m_get (ci := 8) (v := .int (nI e9)) (C := RX5) (T := TX5) (N := 17) hx hb hts i_X5 hown hK (hP _ _ h_I) rfl 7 (by decide) (hts (.fieldLink RX5 15 "MeniscusModel$Instrument" "ice" "I") (by decide +kernel)) (fun _ h9 => h9) rfl dX5_readsAt_55 ?_
    refine lv_isub hx hb dX5_readsAt_58 ?_
    refine lv_i2l (v := ((nI s9) - (nI e9)).toInt64) hx hb dX5_readsAt_59 rfl ?_
    refine lv_goto (tgt := 87) hx hb dX5_readsAt_60 (by decide) ?_
    refine lv_lstore (lv' := [(4, .long (((nI s9) - (nI e9)).toInt64)), (2, .long (((nI k9) - (nI e9)).toInt64)), (0, .ref a0), (1, .int (nI k9))]) hx hb dX5_readsAt_87 hl (by decide) rfl (fun ls hl => ?_)
    refine lv_aload_n hx hb dX5_readsAt_89 rfl (lv_at hl 2 rfl) ?_
    refine m_get (ci := 8) (v := .int stt0) (C := RX5) (T := TX5) (N := 17) hx hb hts i_X5 hown hK (hP _ _ h_I) rfl 9 (by decide) (hts (.fieldLink RX5 81 "MeniscusModel$Instrument" "steamHeat" "I") (by decide +kernel)) (fun _ h9 => h9) rfl dX5_readsAt_90 ?_
    refine lv_i2l (v := stt0.toInt64) hx hb dX5_readsAt_93 rfl ?_
    refine lv_lload_n hx hb dX5_readsAt_94 rfl (lv_at hl 1 rfl) ?_
    refine lv_lmul hx hb dX5_readsAt_95 ?_
    refine lv_lload hx hb dX5_readsAt_96 (lv_at hl 0 rfl) ?_
    refine lv_ldiv hx hb dX5_readsAt_98 (fun q9 => hdz (by unfold mfar; rw [if_pos c1]; exact q9)) ?_
    refine lv_l2i (v := ((stt0.toInt64 * (((nI k9) - (nI e9)).toInt64)) / (((nI s9) - (nI e9)).toInt64)).toInt32) hx hb dX5_readsAt_99 rfl ?_
    refine W.widen (k := 0) (n := 0) (Nat.le_of_ble_eq_true rfl) (Nat.le_of_ble_eq_true rfl) ?_
    exact W.iret (v := ((stt0.toInt64 * (((nI k9) - (nI e9)).toInt64)) / (((nI s9) - (nI e9)).toInt64)).toInt32) hx hb hr (fun t99 ht99 hW99 => ⟨⟨((stt0.toInt64 * (((nI k9) - (nI e9)).toInt64)) / (((nI s9) - (nI e9)).toInt64)).toInt32, Mw, rfl, ⟨by unfold mfar; rw [if_pos c1, if_pos c1], rfl⟩, by rw [ht99]; exact hP, hI⟩, hS.F ht99⟩) hS.2.2 dX5_readsAt_100

set_option maxHeartbeats 4000000 in
set_option maxRecDepth 100000 in
theorem c_X5_errorAt (l : Launch) (G : mg) (A : Nat → Prop) (Mw : mw) {a0 t0 rd0 ht0 : Nat} {bu0 gl0 cr0 in0 li0 sm0 ice0 stm0 stt0 kin0 ga0 ke0 gr0 ce0 : Int32} (h_I : Mw a0 = some (.inr (8, [.ref t0, .int bu0, .int (sof gl0), .int cr0, .int in0, .int li0, .int sm0, .int ice0, .int stm0, .int stt0, .int kin0, .int ga0, .int ke0, .int gr0, .int ce0, .ref rd0, .ref ht0]))) {d1 d2 n0 : Nat} {m1 m2 : Int32} {g1 g2 : Nat → Option Nat} {rf hf : Nat → Int32} (hn0 : n0 ≤ 8) (h_L1 : Mw rd0 = some (.inr (2, [.int m1, .ref d1, .int ((nI n0))]))) (h_L2 : Mw ht0 = some (.inr (2, [.int m2, .ref d2, .int ((nI n0))]))) (h_D1 : Mw d1 = some (.inl (G.2.1 5, 10, .inr (.inr (.inr (.inr g1)))))) (h_D2 : Mw d2 = some (.inl (G.2.1 5, 10, .inr (.inr (.inr (.inr g2)))))) (hR : ∀ i, i < n0 → ∃ y : Nat, g1 i = some y ∧ (Mw y = some (.inr (0, [.int (rf i)])) ∨ G.2.2.1 y = some (.inr (0, [.int (rf i)])))) (hH : ∀ i, i < n0 → ∃ y : Nat, g2 i = some y ∧ (Mw y = some (.inr (0, [.int (hf i)])) ∨ G.2.2.1 y = some (.inr (0, [.int (hf i)])))) (i0 : Nat) (hi0 : i0 < n0) : Met l yX5_errorAt wsX5_errorAt ({ frames := 3, cells := 0, slots := 0, locals := 64 }) (va_Pc [.ref a0, .int (nI i0)] (mB G A Mw)) (va_Qi (fun r Mw1 => r = (rf i0 - hf i0) ∧ Mw1 = Mw) (mE G A) A) 0 0 A := by
  refine Met.ofW (cc := cX5_errorAt) (maxL := 2) (ret := (some .int)) (by decide) rfl ?_
  intro p e s m args below meth c s₁ B hml hv
  obtain ⟨rfl, hG, hP, hI, hA⟩ := hv
  have hx := B.exec
  have hb := B.bytes
  have hr := B.returns
  have hts := atoms_spec (ws := wsX5_errorAt) B.pre
  have hown : s.vm.findClass RX5 = some m.cls := findClass_of_methodNamed B.named
  have hlocks := B.notSynchronized
  have hK := hG.K
  have i_X5 : ∀ w ∈ wsX50, w ∈ wsX5_errorAt := by decide +kernel
  have hS : va_S A s.heap s.heap [] := va_S.rf
  have hl := lv_entry ([.ref a0, .int (nI i0)]) (n := 2) (Nat.le_of_ble_eq_true rfl)
  rw [lg_entry_eq]
  generalize (lg_sl ([.ref a0, .int (nI i0)]) ++ List.replicate (2 - (lg_sl ([.ref a0, .int (nI i0)])).length) Slot.unset).toArray = ls at hl ⊢
  have hl : lv_has ls 2 [(0, .ref a0), (1, .int (nI i0))] := hl
  have hP : mP G.1 Mw s.heap := hP
  obtain ⟨x9, hx9, h_X⟩ := hR i0 hi0
  obtain ⟨y9, hy9, h_Y⟩ := hH i0 hi0
  refine lv_aload_n hx hb dX5_errorAt_0 rfl (lv_at hl 0 rfl) ?_
  refine m_get (ci := 8) (v := .ref rd0) (C := RX5) (T := TX5) (N := 17) hx hb hts i_X5 hown hK (hP _ _ h_I) rfl 15 (by decide) (hts (.fieldLink RX5 34 "MeniscusModel$Instrument" "readings" "Ljava/util/ArrayList;") (by decide +kernel)) (fun _ h9 => h9) rfl dX5_errorAt_1 ?_
  refine lv_iload_n hx hb dX5_errorAt_4 rfl (lv_at hl 1 rfl) ?_
  refine m_callq (va_runV (As := [.int (nI i0)]) (rest := []) ⟨hx, hb, hml, hown, hts⟩ (c_Jx4a65c_get_915e3 l G A Mw  h_L1 h_D1 i0 x9 hi0 hn0 hx9) (cwV 1 hts gX5_errorAt_Jx4a65c_get_915e3 rfl rfl rfl (by decide +kernel) ⟨Nat.le_of_ble_eq_true rfl, Nat.le_of_ble_eq_true rfl⟩) (mPreV hG hS hP hI hA (hP _ _ h_L1) (r := (RJx4a65c, TJx4a65c, 3)) rfl) rfl rfl hl.1 rfl (lv_room (Nat.le_of_ble_eq_true rfl)) dX5_errorAt_5 ⟨Nat.le_of_ble_eq_true rfl, Nat.le_of_ble_eq_true rfl⟩) hS (fun r1 Mw1 H locs hp_r1 hP hI hS => ?_)
  obtain ⟨hp_r1, hm9⟩ := hp_r1
  subst Mw1
  subst hp_r1
  refine va_castE hx hb hown (hts (.classLink RX5 88 RJ6) (by decide +kernel)) (or_recv (rv := (RJ6, TJ6, 1)) hG hS hP h_X rfl) dX5_errorAt_8 ?_
  refine m_calli (va_runV (As := []) (rest := []) ⟨hx, hb, hml, hown, hts⟩ (c_J6_intValue_8abf5 l G A Mw  h_X) (cwV 0 hts gX5_errorAt_J6_intValue_8abf5 rfl rfl rfl (by decide +kernel) ⟨Nat.le_of_ble_eq_true rfl, Nat.le_of_ble_eq_true rfl⟩) (mPreVo hG hS hP hI hA (or_recv (rv := (RJ6, TJ6, 1)) hG hS hP h_X rfl)) rfl rfl hl.1 rfl (lv_room (Nat.le_of_ble_eq_true rfl)) dX5_errorAt_11 ⟨Nat.le_of_ble_eq_true rfl, Nat.le_of_ble_eq_true rfl⟩) hS (fun r2 Mw1 H locs hp_r2 hP hI hS => ?_)
  obtain ⟨hp_r2, hm9⟩ := hp_r2
  subst Mw1
  refine lv_aload_n hx hb dX5_errorAt_14 rfl (lv_at hl 0 rfl) ?_
  refine m_get (ci := 8) (v := .ref ht0) (C := RX5) (T := TX5) (N := 17) hx hb hts i_X5 hown hK (hP _ _ h_I) rfl 16 (by decide) (hts (.fieldLink RX5 38 "MeniscusModel$Instrument" "heats" "Ljava/util/ArrayList;") (by decide +kernel)) (fun _ h9 => h9) rfl dX5_errorAt_15 ?_
  refine lv_iload_n hx hb dX5_errorAt_18 rfl (lv_at hl 1 rfl) ?_
  refine m_callq (va_runV (As := [.int (nI i0)]) (rest := [.int r2]) ⟨hx, hb, hml, hown, hts⟩ (c_Jx4a65c_get_915e3 l G A Mw  h_L2 h_D2 i0 y9 hi0 hn0 hy9) (cwV 1 hts gX5_errorAt_Jx4a65c_get_915e3 rfl rfl rfl (by decide +kernel) ⟨Nat.le_of_ble_eq_true rfl, Nat.le_of_ble_eq_true rfl⟩) (mPreV hG hS hP hI hA (hP _ _ h_L2) (r := (RJx4a65c, TJx4a65c, 3)) rfl) rfl rfl hl.1 rfl (lv_room (Nat.le_of_ble_eq_true rfl)) dX5_errorAt_19 ⟨Nat.le_of_ble_eq_true rfl, Nat.le_of_ble_eq_true rfl⟩) hS (fun r3 Mw1 H locs hp_r3 hP hI hS => ?_)
  obtain ⟨hp_r3, hm9⟩ := hp_r3
  subst Mw1
  subst hp_r3
  refine va_castE hx hb hown (hts (.classLink RX5 88 RJ6) (by decide +kernel)) (or_recv (rv := (RJ6, TJ6, 1)) hG hS hP h_Y rfl) dX5_errorAt_22 ?_
  refine m_calli (va_runV (As := []) (rest := [.int r2]) ⟨hx, hb, hml, hown, hts⟩ (c_J6_intValue_8abf5 l G A Mw  h_Y) (cwV 0 hts gX5_errorAt_J6_intValue_8abf5 rfl rfl rfl (by decide +kernel) ⟨Nat.le_of_ble_eq_true rfl, Nat.le_of_ble_eq_true rfl⟩) (mPreVo hG hS hP hI hA (or_recv (rv := (RJ6, TJ6, 1)) hG hS hP h_Y rfl)) rfl rfl hl.1 rfl (lv_room (Nat.le_of_ble_eq_true rfl)) dX5_errorAt_25 ⟨Nat.le_of_ble_eq_true rfl, Nat.le_of_ble_eq_true rfl⟩) hS (fun r4 Mw1 H locs hp_r4 hP hI hS => ?_)
  obtain ⟨hp_r4, hm9⟩ := hp_r4
  subst Mw1
  refine lv_isub hx hb dX5_errorAt_28 ?_
  refine W.widen (k := 0) (n := 0) (Nat.le_of_ble_eq_true rfl) (Nat.le_of_ble_eq_true rfl) ?_
  exact W.iret (v := r2 - r4) hx hb hr (fun t99 ht99 hW99 => ⟨⟨r2 - r4, Mw, rfl, ⟨by rw [hp_r2, hp_r4], rfl⟩, by rw [ht99]; exact hP, hI⟩, hS.F ht99⟩) hS.2.2 dX5_errorAt_29

set_option maxHeartbeats 4000000 in
set_option maxRecDepth 100000 in
theorem c_X5_worst (l : Launch) (G : mg) (A : Nat → Prop) (Mw : mw) {a0 t0 rd0 ht0 : Nat} {bu0 gl0 cr0 in0 li0 sm0 ice0 stm0 stt0 kin0 ga0 ke0 gr0 ce0 : Int32} (h_I : Mw a0 = some (.inr (8, [.ref t0, .int bu0, .int (sof gl0), .int cr0, .int in0, .int li0, .int sm0, .int ice0, .int stm0, .int stt0, .int kin0, .int ga0, .int ke0, .int gr0, .int ce0, .ref rd0, .ref ht0]))) {d1 d2 n0 : Nat} {m1 m2 : Int32} {g1 g2 : Nat → Option Nat} {rf hf : Nat → Int32} (hn0 : n0 ≤ 8) (h_L1 : Mw rd0 = some (.inr (2, [.int m1, .ref d1, .int ((nI n0))]))) (h_L2 : Mw ht0 = some (.inr (2, [.int m2, .ref d2, .int ((nI n0))]))) (h_D1 : Mw d1 = some (.inl (G.2.1 5, 10, .inr (.inr (.inr (.inr g1)))))) (h_D2 : Mw d2 = some (.inl (G.2.1 5, 10, .inr (.inr (.inr (.inr g2)))))) (hR : ∀ i, i < n0 → ∃ y : Nat, g1 i = some y ∧ (Mw y = some (.inr (0, [.int (rf i)])) ∨ G.2.2.1 y = some (.inr (0, [.int (rf i)])))) (hH : ∀ i, i < n0 → ∃ y : Nat, g2 i = some y ∧ (Mw y = some (.inr (0, [.int (hf i)])) ∨ G.2.2.1 y = some (.inr (0, [.int (hf i)])))) : Met l yX5_worst wsX5_worst ({ frames := 4, cells := 0, slots := 0, locals := 85 }) (va_Pc [.ref a0] (mB G A Mw)) (va_Qi (fun r Mw1 => r = (gmax (fun j => rf j - hf j) n0) ∧ Mw1 = Mw) (mE G A) A) 0 0 A := by
  refine Met.ofW (cc := cX5_worst) (maxL := 3) (ret := (some .int)) (by decide) rfl ?_
  intro p e s m args below meth c s₁ B hml hv
  obtain ⟨rfl, hG, hP, hI, hA⟩ := hv
  have hx := B.exec
  have hb := B.bytes
  have hr := B.returns
  have hts := atoms_spec (ws := wsX5_worst) B.pre
  have hown : s.vm.findClass RX5 = some m.cls := findClass_of_methodNamed B.named
  have hlocks := B.notSynchronized
  have hK := hG.K
  have i_X5 : ∀ w ∈ wsX50, w ∈ wsX5_worst := by decide +kernel
  have hS : va_S A s.heap s.heap [] := va_S.rf
  have hl := lv_entry ([.ref a0]) (n := 3) (Nat.le_of_ble_eq_true rfl)
  rw [lg_entry_eq]
  generalize (lg_sl ([.ref a0]) ++ List.replicate (3 - (lg_sl ([.ref a0])).length) Slot.unset).toArray = ls at hl ⊢
  have hl : lv_has ls 3 [(0, .ref a0)] := hl
  have hP : mP G.1 Mw s.heap := hP
  refine lv_iconst (v := 0) hx hb dX5_worst_0 (by decide) ?_
  refine lv_istore_n (lv' := [(1, .int 0), (0, .ref a0)]) hx hb dX5_worst_1 rfl hl (by decide) rfl (fun ls hl => ?_)
  refine lv_iconst (v := 0) hx hb dX5_worst_2 (by decide) ?_
  refine lv_istore_n (lv' := [(2, .int 0), (1, .int 0), (0, .ref a0)]) hx hb dX5_worst_3 rfl hl (by decide) rfl (fun ls hl => ?_)
  have loop : ∀ (n k : Nat), k ≤ n0 → k + n = n0 + 1 → ∀ (H : Heap) (locs : List Loc) (ls : Array Slot), mP G.1 (Mw) H → mI A (Mw) → va_S A s.heap H locs → lv_has ls 3 [(0, .ref a0), (1, .int (gmax (fun j => rf j - hf j) k)), (2, .int (nI k))] → W p l e ({ frames := 4, cells := 0, slots := 0, locals := 85 }) s m ([.ref a0] : List Value).toArray below meth c H locs 0 0 (MQ below (va_Qi (fun r Mw1 => r = (gmax (fun j => rf j - hf j) n0) ∧ Mw1 = Mw) (mE G A) A) ([.ref a0] : List Value).toArray s 0 0 A) (F0 m 4 ls []) := by
    intro n
    induction n with
    | zero => intro k hk1 hk2; omega
    | succ n ih_loop =>
      intro k hk1 hk2 H locs ls hP hI hS hl
      refine lv_iload_n hx hb dX5_worst_4 rfl (lv_at hl 2 rfl) ?_
      refine lv_aload_n hx hb dX5_worst_5 rfl (lv_at hl 0 rfl) ?_
      refine m_get (ci := 8) (v := .ref rd0) (C := RX5) (T := TX5) (N := 17) hx hb hts i_X5 hown hK (hP _ _ h_I) rfl 15 (by decide) (hts (.fieldLink RX5 34 "MeniscusModel$Instrument" "readings" "Ljava/util/ArrayList;") (by decide +kernel)) (fun _ h9 => h9) rfl dX5_worst_6 ?_
      refine m_calli (va_runV (As := []) (rest := [.int (nI k)]) ⟨hx, hb, hml, hown, hts⟩ (c_Jx4a65c_size_8abf5 l G A Mw  h_L1) (cwV 0 hts gX5_worst_Jx4a65c_size_8abf5 rfl rfl rfl (by decide +kernel) ⟨Nat.le_of_ble_eq_true rfl, Nat.le_of_ble_eq_true rfl⟩) (mPreV hG hS hP hI hA (hP _ _ h_L1) (r := (RJx4a65c, TJx4a65c, 3)) rfl) rfl rfl hl.1 rfl (lv_room (Nat.le_of_ble_eq_true rfl)) dX5_worst_9 ⟨Nat.le_of_ble_eq_true rfl, Nat.le_of_ble_eq_true rfl⟩) hS (fun r1 Mw1 H locs hp_r1 hP hI hS => ?_)
      obtain ⟨hp_r1, hm9⟩ := hp_r1
      subst Mw1
      refine lv_icmp_ge (tgt := 34) hx hb dX5_worst_12 (by decide) (fun c2 => ?_) (fun c2 => ?_)
      · skip
        rw [hp_r1] at c2
        have hk9 : k = n0 := by have h8 := (nI_leI (a := n0) (b := k) (by omega) (by omega)).mp c2; omega
        refine lv_iload_n hx hb dX5_worst_34 rfl (lv_at hl 1 rfl) ?_
        refine W.widen (k := 0) (n := 0) (Nat.le_of_ble_eq_true rfl) (Nat.le_of_ble_eq_true rfl) ?_
        exact W.iret (v := gmax (fun j => rf j - hf j) k) hx hb hr (fun t99 ht99 hW99 => ⟨⟨gmax (fun j => rf j - hf j) k, Mw, rfl, ⟨by rw [hk9], rfl⟩, by rw [ht99]; exact hP, hI⟩, hS.F ht99⟩) hS.2.2 dX5_worst_35
      · skip
        rw [hp_r1] at c2
        have hk9 : k < n0 := Nat.lt_of_not_le (fun q => c2 (nI_le (a := n0) q (by omega)))
        refine lv_iload_n hx hb dX5_worst_15 rfl (lv_at hl 1 rfl) ?_
        refine lv_aload_n hx hb dX5_worst_16 rfl (lv_at hl 0 rfl) ?_
        refine lv_iload_n hx hb dX5_worst_17 rfl (lv_at hl 2 rfl) ?_
        refine m_calli (va_runV (As := [.int (nI k)]) (rest := [.int (gmax (fun j => rf j - hf j) k)]) ⟨hx, hb, hml, hown, hts⟩ (c_X5_errorAt l G A Mw  h_I hn0 h_L1 h_L2 h_D1 h_D2 hR hH k hk9) (cwV 1 hts gX5_worst_X5_errorAt rfl rfl rfl (by decide +kernel) ⟨Nat.le_of_ble_eq_true rfl, Nat.le_of_ble_eq_true rfl⟩) (mPreV hG hS hP hI hA (hP _ _ h_I) (r := (RX5, TX5, 17)) rfl) rfl rfl hl.1 rfl (lv_room (Nat.le_of_ble_eq_true rfl)) dX5_worst_18 ⟨Nat.le_of_ble_eq_true rfl, Nat.le_of_ble_eq_true rfl⟩) hS (fun r3 Mw1 H locs hp_r3 hP hI hS => ?_)
        obtain ⟨hp_r3, hm9⟩ := hp_r3
        subst Mw1
        refine va_mabs hx hb (hml.trans hl.1.symm) hown (hts (.methodLink RX5 99 Lib.Math.abs.name) (by decide +kernel)) (hts (.static Lib.Math.abs.name) (by decide +kernel)) (hts (.initialized "java/lang/Math") (by decide +kernel)) (hts (.code Lib.Math.abs.name Lib.Math.abs.code 1 (some .int)) (by decide +kernel)) (Nat.le_of_ble_eq_true rfl) (Nat.le_of_ble_eq_true rfl) (Nat.le_of_ble_eq_true rfl) (Nat.le_of_ble_eq_true rfl) dX5_worst_21 ?_
        refine va_mmax hx hb (hml.trans hl.1.symm) hown (hts (.methodLink RX5 104 Lib.Math.max.name) (by decide +kernel)) (hts (.static Lib.Math.max.name) (by decide +kernel)) (hts (.initialized "java/lang/Math") (by decide +kernel)) (hts (.code Lib.Math.max.name Lib.Math.max.code 2 (some .int)) (by decide +kernel)) (Nat.le_of_ble_eq_true rfl) (Nat.le_of_ble_eq_true rfl) (Nat.le_of_ble_eq_true rfl) (Nat.le_of_ble_eq_true rfl) dX5_worst_24 ?_
        refine lv_istore_n (lv' := [(1, .int (m_max (gmax (fun j => rf j - hf j) k) (m_abs r3))), (0, .ref a0), (2, .int (nI k))]) hx hb dX5_worst_27 rfl hl (by decide) rfl (fun ls hl => ?_)
        refine lv_iinc (v := (nI k) + 1) (lv' := [(2, .int ((nI k) + 1)), (1, .int (m_max (gmax (fun j => rf j - hf j) k) (m_abs r3))), (0, .ref a0)]) hx hb dX5_worst_28 hl (k := 2) rfl rfl (by decide) rfl (fun ls hl => ?_)
        refine lv_goto (tgt := 4) hx hb dX5_worst_31 (by decide) ?_
        have e_2 : (nI k) + 1 = nI (k + 1) := nI_1 k
        rw [e_2] at hl
        have e_1 : m_max (gmax (fun j => rf j - hf j) k) (m_abs r3) = gmax (fun j => rf j - hf j) (k + 1) := by rw [hp_r3]; rfl
        rw [e_1] at hl
        exact ih_loop (k + 1) (by omega) (by omega) H locs ls hP hI hS (lv_sub hl [2, 1, 0] rfl)
  exact loop (n0 + 1 - 0) 0 (by omega) (by omega) _ _ _ hP hI hS (lv_sub hl [2, 1, 0] rfl)

set_option maxHeartbeats 4000000 in
set_option maxRecDepth 100000 in
theorem c_X5_grade (l : Launch) (G : mg) (A : Nat → Prop) (Mw : mw) {a0 t0 rd0 ht0 : Nat} {bu0 gl0 cr0 in0 li0 sm0 ice0 stm0 stt0 kin0 ga0 ke0 gr0 ce0 : Int32} (h_I : Mw a0 = some (.inr (8, [.ref t0, .int bu0, .int (sof gl0), .int cr0, .int in0, .int li0, .int sm0, .int ice0, .int stm0, .int stt0, .int kin0, .int ga0, .int ke0, .int gr0, .int ce0, .ref rd0, .ref ht0]))) {d1 d2 n0 : Nat} {m1 m2 : Int32} {g1 g2 : Nat → Option Nat} {rf hf : Nat → Int32} (hn0 : n0 ≤ 8) (h_L1 : Mw rd0 = some (.inr (2, [.int m1, .ref d1, .int ((nI n0))]))) (h_L2 : Mw ht0 = some (.inr (2, [.int m2, .ref d2, .int ((nI n0))]))) (h_D1 : Mw d1 = some (.inl (G.2.1 5, 10, .inr (.inr (.inr (.inr g1)))))) (h_D2 : Mw d2 = some (.inl (G.2.1 5, 10, .inr (.inr (.inr (.inr g2)))))) (hR : ∀ i, i < n0 → ∃ y : Nat, g1 i = some y ∧ (Mw y = some (.inr (0, [.int (rf i)])) ∨ G.2.2.1 y = some (.inr (0, [.int (rf i)])))) (hH : ∀ i, i < n0 → ∃ y : Nat, g2 i = some y ∧ (Mw y = some (.inr (0, [.int (hf i)])) ∨ G.2.2.1 y = some (.inr (0, [.int (hf i)])))) : Met l yX5_grade wsX5_grade ({ frames := 5, cells := 0, slots := 0, locals := 107 }) (va_Pc [.ref a0] (mB G A Mw)) (va_Qi (fun r Mw1 => r = (clsE (gmax (fun j => rf j - hf j) n0)) ∧ Mw1 = Mw) (mE G A) A) 0 0 A := by
  refine Met.ofW (cc := cX5_grade) (maxL := 2) (ret := (some .char)) (by decide) rfl ?_
  intro p e s m args below meth c s₁ B hml hv
  obtain ⟨rfl, hG, hP, hI, hA⟩ := hv
  have hx := B.exec
  have hb := B.bytes
  have hr := B.returns
  have hts := atoms_spec (ws := wsX5_grade) B.pre
  have hown : s.vm.findClass RX5 = some m.cls := findClass_of_methodNamed B.named
  have hlocks := B.notSynchronized
  have hK := hG.K
  have hS : va_S A s.heap s.heap [] := va_S.rf
  have hl := lv_entry ([.ref a0]) (n := 2) (Nat.le_of_ble_eq_true rfl)
  rw [lg_entry_eq]
  generalize (lg_sl ([.ref a0]) ++ List.replicate (2 - (lg_sl ([.ref a0])).length) Slot.unset).toArray = ls at hl ⊢
  have hl : lv_has ls 2 [(0, .ref a0)] := hl
  have hP : mP G.1 Mw s.heap := hP
  refine lv_aload_n hx hb dX5_grade_0 rfl (lv_at hl 0 rfl) ?_
  refine m_calli (va_runV (As := []) (rest := []) ⟨hx, hb, hml, hown, hts⟩ (c_X5_worst l G A Mw  h_I hn0 h_L1 h_L2 h_D1 h_D2 hR hH) (cwV 0 hts gX5_grade_X5_worst rfl rfl rfl (by decide +kernel) ⟨Nat.le_of_ble_eq_true rfl, Nat.le_of_ble_eq_true rfl⟩) (mPreV hG hS hP hI hA (hP _ _ h_I) (r := (RX5, TX5, 17)) rfl) rfl rfl hl.1 rfl (lv_room (Nat.le_of_ble_eq_true rfl)) dX5_grade_1 ⟨Nat.le_of_ble_eq_true rfl, Nat.le_of_ble_eq_true rfl⟩) hS (fun r1 Mw1 H locs hp_r1 hP hI hS => ?_)
  obtain ⟨hp_r1, hm9⟩ := hp_r1
  subst Mw1
  refine lv_istore_n (lv' := [(1, .int r1), (0, .ref a0)]) hx hb dX5_grade_4 rfl hl (by decide) rfl (fun ls hl => ?_)
  refine lv_iload_n hx hb dX5_grade_5 rfl (lv_at hl 0 rfl) ?_
  refine lv_iconst (v := 2) hx hb dX5_grade_6 (by decide) ?_
  refine lv_icmp_gt (tgt := 15) hx hb dX5_grade_7 (by decide) (fun c2 => ?_) (fun c2 => ?_)
  · skip
    refine lv_iload_n hx hb dX5_grade_15 rfl (lv_at hl 0 rfl) ?_
    refine lv_iconst (v := 5) hx hb dX5_grade_16 (by decide) ?_
    refine lv_icmp_gt (tgt := 25) hx hb dX5_grade_17 (by decide) (fun c3 => ?_) (fun c3 => ?_)
    · skip
      refine lv_iload_n hx hb dX5_grade_25 rfl (lv_at hl 0 rfl) ?_
      refine lv_bipush (v := (10)) hx hb dX5_grade_26 (by decide) ?_
      refine lv_icmp_gt (tgt := 36) hx hb dX5_grade_28 (by decide) (fun c4 => ?_) (fun c4 => ?_)
      · skip
        refine lv_bipush (v := (88)) hx hb dX5_grade_36 (by decide) ?_
        refine W.widen (k := 0) (n := 0) (Nat.le_of_ble_eq_true rfl) (Nat.le_of_ble_eq_true rfl) ?_
        exact W.zret (v := 88) hx hb hr rfl (fun t99 ht99 hW99 => ⟨⟨88, Mw, rfl, ⟨by rw [← hp_r1]; unfold clsE; rw [if_pos c2, if_pos c3, if_pos c4], rfl⟩, by rw [ht99]; exact hP, hI⟩, hS.F ht99⟩) hS.2.2 dX5_grade_38
      · skip
        refine lv_bipush (v := (67)) hx hb dX5_grade_31 (by decide) ?_
        refine lv_goto (tgt := 38) hx hb dX5_grade_33 (by decide) ?_
        refine W.widen (k := 0) (n := 0) (Nat.le_of_ble_eq_true rfl) (Nat.le_of_ble_eq_true rfl) ?_
        exact W.zret (v := 67) hx hb hr rfl (fun t99 ht99 hW99 => ⟨⟨67, Mw, rfl, ⟨by rw [← hp_r1]; unfold clsE; rw [if_pos c2, if_pos c3, if_neg c4], rfl⟩, by rw [ht99]; exact hP, hI⟩, hS.F ht99⟩) hS.2.2 dX5_grade_38
    · skip
      refine lv_bipush (v := (66)) hx hb dX5_grade_20 (by decide) ?_
      refine lv_goto (tgt := 38) hx hb dX5_grade_22 (by decide) ?_
      refine W.widen (k := 0) (n := 0) (Nat.le_of_ble_eq_true rfl) (Nat.le_of_ble_eq_true rfl) ?_
      exact W.zret (v := 66) hx hb hr rfl (fun t99 ht99 hW99 => ⟨⟨66, Mw, rfl, ⟨by rw [← hp_r1]; unfold clsE; rw [if_pos c2, if_neg c3], rfl⟩, by rw [ht99]; exact hP, hI⟩, hS.F ht99⟩) hS.2.2 dX5_grade_38
  · skip
    refine lv_bipush (v := (65)) hx hb dX5_grade_10 (by decide) ?_
    refine lv_goto (tgt := 38) hx hb dX5_grade_12 (by decide) ?_
    refine W.widen (k := 0) (n := 0) (Nat.le_of_ble_eq_true rfl) (Nat.le_of_ble_eq_true rfl) ?_
    exact W.zret (v := 65) hx hb hr rfl (fun t99 ht99 hW99 => ⟨⟨65, Mw, rfl, ⟨by rw [← hp_r1]; unfold clsE; rw [if_neg c2], rfl⟩, by rw [ht99]; exact hP, hI⟩, hS.F ht99⟩) hS.2.2 dX5_grade_38

set_option maxHeartbeats 4000000 in
set_option maxRecDepth 100000 in
theorem c_X5_init (l : Launch) (G : mg) (A : Nat → Prop) (Mw : mw) (p1 p2 : Int32) (t0 : Nat) (h01 : p2 = 0 ∨ p2 = 1) {a0 : Nat} (h_I : Mw a0 = some (.inr (8, [.null, .int 0, .int 0, .int 0, .int 0, .int 0, .int 0, .int 0, .int 0, .int 0, .int 0, .int 0, .int 0, .int 0, .int 0, .null, .null]))) : Met l yX5_init wsX5_init ({ frames := 4, cells := 2, slots := 6, locals := 80 }) (va_Pc [.ref a0, .ref t0, .int p1, .int p2] (mB G A Mw)) (va_Qv (fun Mw1 => ∃ r1 r2 : Nat, Mw r1 = none ∧ Mw r2 = none ∧ r1 ≠ r2 ∧ Mw1 = mu (mu (mu Mw a0 (.inr (8, [.ref t0, .int p1, .int p2, .int 0, .int 0, .int 32, .int 0, .int ((-1)), .int ((-1)), .int 0, .int 32, .int 0, .int 0, .int ((-1)), .int ((-1)), .ref r1, .ref r2]))) r1 (.inr (2, [.int 0, .ref (G.2.2.2 1), .int 0]))) r2 (.inr (2, [.int 0, .ref (G.2.2.2 1), .int 0]))) (mE G A) A) 2 6 A := by
  refine Met.ofW (cc := cX5_init) (maxL := 4) (ret := none) (by decide) rfl ?_
  intro p e s m args below meth c s₁ B hml hv
  obtain ⟨rfl, hG, hP, hI, hA⟩ := hv
  have hx := B.exec
  have hb := B.bytes
  have hr := B.returns
  have hts := atoms_spec (ws := wsX5_init) B.pre
  have hown : s.vm.findClass RX5 = some m.cls := findClass_of_methodNamed B.named
  have hlocks := B.notSynchronized
  have hK := hG.K
  have hin : meth.name = "<init>" := (name_of_methodNamed B.named B.method).1
  have i_Jx4a65c : ∀ w ∈ wsJx4a65c0, w ∈ wsX5_init := by decide +kernel
  have i_X5 : ∀ w ∈ wsX50, w ∈ wsX5_init := by decide +kernel
  have hS : va_S A s.heap s.heap [] := va_S.rf
  have hl := lv_entry ([.ref a0, .ref t0, .int p1, .int p2]) (n := 4) (Nat.le_of_ble_eq_true rfl)
  rw [lg_entry_eq]
  generalize (lg_sl ([.ref a0, .ref t0, .int p1, .int p2]) ++ List.replicate (4 - (lg_sl ([.ref a0, .ref t0, .int p1, .int p2])).length) Slot.unset).toArray = ls at hl ⊢
  have hl : lv_has ls 4 [(0, .ref a0), (1, .ref t0), (2, .int p1), (3, .int p2)] := hl
  have hP : mP G.1 Mw s.heap := hP
  refine lv_aload_n hx hb dX5_init_0 rfl (lv_at hl 0 rfl) ?_
  refine W.objInit hx hb hown (hts (.methodLink RX5 3 objectInit) (by decide +kernel)) (hts (.instanceMethod objectInit) (by decide +kernel)) (hts (.code objectInit ⟨#[0xb1]⟩ 1 none) (by decide +kernel)) rfl (by rw [hml]; exact hl.1) rfl dX5_init_1 (Nat.le_of_ble_eq_true rfl) (Nat.le_of_ble_eq_true rfl) ?_
  refine W.eq (g2 := F0 m 4 ls []) rfl ?_
  refine lv_aload_n hx hb dX5_init_4 rfl (lv_at hl 0 rfl) ?_
  refine lv_bipush (v := (32)) hx hb dX5_init_5 (by decide) ?_
  refine m_put (ci := 8) (v := .int 32) (ty := .char) (C := RX5) (T := TX5) (N := 17) hx hb hts i_X5 tyX5 tyX5_ok nmX5 hown hK hP hI hS h_I rfl 5 (by decide) (hts (.fieldLink RX5 9 "MeniscusModel$Instrument" "liquid" "C") (by decide +kernel)) (fun _ h9 => h9) rfl (by decide +kernel) rfl rfl (Nat.le_of_ble_eq_true rfl) dX5_init_7 (fun H locs hP hI hS => ?_)
  have hP : mP G.1 (mu Mw a0 (.inr (8, [.null, .int 0, .int 0, .int 0, .int 0, .int 32, .int 0, .int 0, .int 0, .int 0, .int 0, .int 0, .int 0, .int 0, .int 0, .null, .null]))) H := hP
  have hI : mI A (mu Mw a0 (.inr (8, [.null, .int 0, .int 0, .int 0, .int 0, .int 32, .int 0, .int 0, .int 0, .int 0, .int 0, .int 0, .int 0, .int 0, .int 0, .null, .null]))) := hI
  have h_I : (mu Mw a0 (.inr (8, [.null, .int 0, .int 0, .int 0, .int 0, .int 32, .int 0, .int 0, .int 0, .int 0, .int 0, .int 0, .int 0, .int 0, .int 0, .null, .null]))) a0 = some (.inr (8, [.null, .int 0, .int 0, .int 0, .int 0, .int 32, .int 0, .int 0, .int 0, .int 0, .int 0, .int 0, .int 0, .int 0, .int 0, .null, .null])) := mu_s
  refine lv_aload_n hx hb dX5_init_10 rfl (lv_at hl 0 rfl) ?_
  refine lv_iconst (v := (-1)) hx hb dX5_init_11 (by decide) ?_
  refine m_put (ci := 8) (v := .int ((-1))) (ty := .int) (C := RX5) (T := TX5) (N := 17) hx hb hts i_X5 tyX5 tyX5_ok nmX5 hown hK hP hI hS h_I rfl 7 (by decide) (hts (.fieldLink RX5 15 "MeniscusModel$Instrument" "ice" "I") (by decide +kernel)) (fun _ h9 => h9) rfl (by decide +kernel) rfl rfl (Nat.le_of_ble_eq_true rfl) dX5_init_12 (fun H locs hP hI hS => ?_)
  have hP : mP G.1 (mu (mu Mw a0 (.inr (8, [.null, .int 0, .int 0, .int 0, .int 0, .int 32, .int 0, .int 0, .int 0, .int 0, .int 0, .int 0, .int 0, .int 0, .int 0, .null, .null]))) a0 (.inr (8, [.null, .int 0, .int 0, .int 0, .int 0, .int 32, .int 0, .int ((-1)), .int 0, .int 0, .int 0, .int 0, .int 0, .int 0, .int 0, .null, .null]))) H := hP
  have hI : mI A (mu (mu Mw a0 (.inr (8, [.null, .int 0, .int 0, .int 0, .int 0, .int 32, .int 0, .int 0, .int 0, .int 0, .int 0, .int 0, .int 0, .int 0, .int 0, .null, .null]))) a0 (.inr (8, [.null, .int 0, .int 0, .int 0, .int 0, .int 32, .int 0, .int ((-1)), .int 0, .int 0, .int 0, .int 0, .int 0, .int 0, .int 0, .null, .null]))) := hI
  rw [mu_uu] at hP hI 
  have h_I : (mu Mw a0 (.inr (8, [.null, .int 0, .int 0, .int 0, .int 0, .int 32, .int 0, .int ((-1)), .int 0, .int 0, .int 0, .int 0, .int 0, .int 0, .int 0, .null, .null]))) a0 = some (.inr (8, [.null, .int 0, .int 0, .int 0, .int 0, .int 32, .int 0, .int ((-1)), .int 0, .int 0, .int 0, .int 0, .int 0, .int 0, .int 0, .null, .null])) := mu_s
  refine lv_aload_n hx hb dX5_init_15 rfl (lv_at hl 0 rfl) ?_
  refine lv_iconst (v := (-1)) hx hb dX5_init_16 (by decide) ?_
  refine m_put (ci := 8) (v := .int ((-1))) (ty := .int) (C := RX5) (T := TX5) (N := 17) hx hb hts i_X5 tyX5 tyX5_ok nmX5 hown hK hP hI hS h_I rfl 8 (by decide) (hts (.fieldLink RX5 19 "MeniscusModel$Instrument" "steam" "I") (by decide +kernel)) (fun _ h9 => h9) rfl (by decide +kernel) rfl rfl (Nat.le_of_ble_eq_true rfl) dX5_init_17 (fun H locs hP hI hS => ?_)
  have hP : mP G.1 (mu (mu Mw a0 (.inr (8, [.null, .int 0, .int 0, .int 0, .int 0, .int 32, .int 0, .int ((-1)), .int 0, .int 0, .int 0, .int 0, .int 0, .int 0, .int 0, .null, .null]))) a0 (.inr (8, [.null, .int 0, .int 0, .int 0, .int 0, .int 32, .int 0, .int ((-1)), .int ((-1)), .int 0, .int 0, .int 0, .int 0, .int 0, .int 0, .null, .null]))) H := hP
  have hI : mI A (mu (mu Mw a0 (.inr (8, [.null, .int 0, .int 0, .int 0, .int 0, .int 32, .int 0, .int ((-1)), .int 0, .int 0, .int 0, .int 0, .int 0, .int 0, .int 0, .null, .null]))) a0 (.inr (8, [.null, .int 0, .int 0, .int 0, .int 0, .int 32, .int 0, .int ((-1)), .int ((-1)), .int 0, .int 0, .int 0, .int 0, .int 0, .int 0, .null, .null]))) := hI
  rw [mu_uu] at hP hI 
  have h_I : (mu Mw a0 (.inr (8, [.null, .int 0, .int 0, .int 0, .int 0, .int 32, .int 0, .int ((-1)), .int ((-1)), .int 0, .int 0, .int 0, .int 0, .int 0, .int 0, .null, .null]))) a0 = some (.inr (8, [.null, .int 0, .int 0, .int 0, .int 0, .int 32, .int 0, .int ((-1)), .int ((-1)), .int 0, .int 0, .int 0, .int 0, .int 0, .int 0, .null, .null])) := mu_s
  refine lv_aload_n hx hb dX5_init_20 rfl (lv_at hl 0 rfl) ?_
  refine lv_bipush (v := (32)) hx hb dX5_init_21 (by decide) ?_
  refine m_put (ci := 8) (v := .int 32) (ty := .char) (C := RX5) (T := TX5) (N := 17) hx hb hts i_X5 tyX5 tyX5_ok nmX5 hown hK hP hI hS h_I rfl 10 (by decide) (hts (.fieldLink RX5 22 "MeniscusModel$Instrument" "kind" "C") (by decide +kernel)) (fun _ h9 => h9) rfl (by decide +kernel) rfl rfl (Nat.le_of_ble_eq_true rfl) dX5_init_23 (fun H locs hP hI hS => ?_)
  have hP : mP G.1 (mu (mu Mw a0 (.inr (8, [.null, .int 0, .int 0, .int 0, .int 0, .int 32, .int 0, .int ((-1)), .int ((-1)), .int 0, .int 0, .int 0, .int 0, .int 0, .int 0, .null, .null]))) a0 (.inr (8, [.null, .int 0, .int 0, .int 0, .int 0, .int 32, .int 0, .int ((-1)), .int ((-1)), .int 0, .int 32, .int 0, .int 0, .int 0, .int 0, .null, .null]))) H := hP
  have hI : mI A (mu (mu Mw a0 (.inr (8, [.null, .int 0, .int 0, .int 0, .int 0, .int 32, .int 0, .int ((-1)), .int ((-1)), .int 0, .int 0, .int 0, .int 0, .int 0, .int 0, .null, .null]))) a0 (.inr (8, [.null, .int 0, .int 0, .int 0, .int 0, .int 32, .int 0, .int ((-1)), .int ((-1)), .int 0, .int 32, .int 0, .int 0, .int 0, .int 0, .null, .null]))) := hI
  rw [mu_uu] at hP hI 
  have h_I : (mu Mw a0 (.inr (8, [.null, .int 0, .int 0, .int 0, .int 0, .int 32, .int 0, .int ((-1)), .int ((-1)), .int 0, .int 32, .int 0, .int 0, .int 0, .int 0, .null, .null]))) a0 = some (.inr (8, [.null, .int 0, .int 0, .int 0, .int 0, .int 32, .int 0, .int ((-1)), .int ((-1)), .int 0, .int 32, .int 0, .int 0, .int 0, .int 0, .null, .null])) := mu_s
  refine lv_aload_n hx hb dX5_init_26 rfl (lv_at hl 0 rfl) ?_
  refine lv_iconst (v := (-1)) hx hb dX5_init_27 (by decide) ?_
  refine m_put (ci := 8) (v := .int ((-1))) (ty := .int) (C := RX5) (T := TX5) (N := 17) hx hb hts i_X5 tyX5 tyX5_ok nmX5 hown hK hP hI hS h_I rfl 13 (by decide) (hts (.fieldLink RX5 25 "MeniscusModel$Instrument" "greatest" "I") (by decide +kernel)) (fun _ h9 => h9) rfl (by decide +kernel) rfl rfl (Nat.le_of_ble_eq_true rfl) dX5_init_28 (fun H locs hP hI hS => ?_)
  have hP : mP G.1 (mu (mu Mw a0 (.inr (8, [.null, .int 0, .int 0, .int 0, .int 0, .int 32, .int 0, .int ((-1)), .int ((-1)), .int 0, .int 32, .int 0, .int 0, .int 0, .int 0, .null, .null]))) a0 (.inr (8, [.null, .int 0, .int 0, .int 0, .int 0, .int 32, .int 0, .int ((-1)), .int ((-1)), .int 0, .int 32, .int 0, .int 0, .int ((-1)), .int 0, .null, .null]))) H := hP
  have hI : mI A (mu (mu Mw a0 (.inr (8, [.null, .int 0, .int 0, .int 0, .int 0, .int 32, .int 0, .int ((-1)), .int ((-1)), .int 0, .int 32, .int 0, .int 0, .int 0, .int 0, .null, .null]))) a0 (.inr (8, [.null, .int 0, .int 0, .int 0, .int 0, .int 32, .int 0, .int ((-1)), .int ((-1)), .int 0, .int 32, .int 0, .int 0, .int ((-1)), .int 0, .null, .null]))) := hI
  rw [mu_uu] at hP hI 
  have h_I : (mu Mw a0 (.inr (8, [.null, .int 0, .int 0, .int 0, .int 0, .int 32, .int 0, .int ((-1)), .int ((-1)), .int 0, .int 32, .int 0, .int 0, .int ((-1)), .int 0, .null, .null]))) a0 = some (.inr (8, [.null, .int 0, .int 0, .int 0, .int 0, .int 32, .int 0, .int ((-1)), .int ((-1)), .int 0, .int 32, .int 0, .int 0, .int ((-1)), .int 0, .null, .null])) := mu_s
  refine lv_aload_n hx hb dX5_init_31 rfl (lv_at hl 0 rfl) ?_
  refine lv_iconst (v := (-1)) hx hb dX5_init_32 (by decide) ?_
  refine m_put (ci := 8) (v := .int ((-1))) (ty := .int) (C := RX5) (T := TX5) (N := 17) hx hb hts i_X5 tyX5 tyX5_ok nmX5 hown hK hP hI hS h_I rfl 14 (by decide) (hts (.fieldLink RX5 28 "MeniscusModel$Instrument" "certified" "I") (by decide +kernel)) (fun _ h9 => h9) rfl (by decide +kernel) rfl rfl (Nat.le_of_ble_eq_true rfl) dX5_init_33 (fun H locs hP hI hS => ?_)
  have hP : mP G.1 (mu (mu Mw a0 (.inr (8, [.null, .int 0, .int 0, .int 0, .int 0, .int 32, .int 0, .int ((-1)), .int ((-1)), .int 0, .int 32, .int 0, .int 0, .int ((-1)), .int 0, .null, .null]))) a0 (.inr (8, [.null, .int 0, .int 0, .int 0, .int 0, .int 32, .int 0, .int ((-1)), .int ((-1)), .int 0, .int 32, .int 0, .int 0, .int ((-1)), .int ((-1)), .null, .null]))) H := hP
  have hI : mI A (mu (mu Mw a0 (.inr (8, [.null, .int 0, .int 0, .int 0, .int 0, .int 32, .int 0, .int ((-1)), .int ((-1)), .int 0, .int 32, .int 0, .int 0, .int ((-1)), .int 0, .null, .null]))) a0 (.inr (8, [.null, .int 0, .int 0, .int 0, .int 0, .int 32, .int 0, .int ((-1)), .int ((-1)), .int 0, .int 32, .int 0, .int 0, .int ((-1)), .int ((-1)), .null, .null]))) := hI
  rw [mu_uu] at hP hI 
  have h_I : (mu Mw a0 (.inr (8, [.null, .int 0, .int 0, .int 0, .int 0, .int 32, .int 0, .int ((-1)), .int ((-1)), .int 0, .int 32, .int 0, .int 0, .int ((-1)), .int ((-1)), .null, .null]))) a0 = some (.inr (8, [.null, .int 0, .int 0, .int 0, .int 0, .int 32, .int 0, .int ((-1)), .int ((-1)), .int 0, .int 32, .int 0, .int 0, .int ((-1)), .int ((-1)), .null, .null])) := mu_s
  refine lv_aload_n hx hb dX5_init_36 rfl (lv_at hl 0 rfl) ?_
  refine m_new (ci := 2) (fs := [.int 0, .null, .int 0]) (C := RJx4a65c) (T := TJx4a65c) (N := 3) hx hb hts i_Jx4a65c tyJx4a65c tyJx4a65c_ok hown (hts (.classLink RX5 31 RJx4a65c) (by decide +kernel)) (hts (.instantiable RJx4a65c 3) (by decide +kernel)) (hts (.initialized RJx4a65c) (by decide +kernel)) hK hP hI hS hA rfl (fun j hj => by rcases (show j = 0 ∨ j = 1 ∨ j = 2 by omega) with rfl | rfl | rfl <;> rfl) (Nat.le_of_ble_eq_true rfl) (Nat.le_of_ble_eq_true rfl) dX5_init_37 (fun q1 H hn_q1 hP hI hS => ?_)
  have h_I := mu_x (e := .inr (2, [.int 0, .null, .int 0])) h_I hn_q1
  have h_q1 : (mu (mu Mw a0 (.inr (8, [.null, .int 0, .int 0, .int 0, .int 0, .int 32, .int 0, .int ((-1)), .int ((-1)), .int 0, .int 32, .int 0, .int 0, .int ((-1)), .int ((-1)), .null, .null]))) q1 (.inr (2, [.int 0, .null, .int 0]))) q1 = some (.inr (2, [.int 0, .null, .int 0])) := mu_s
  refine lv_dup hx hb dX5_init_40 rfl ?_
  refine m_callv (va_runI (As := []) (rest := [.ref q1, .ref a0]) ⟨hx, hb, hml, hown, hts⟩ (c_Jx4a65c_init_da8c8 l G A (mu (mu Mw a0 (.inr (8, [.null, .int 0, .int 0, .int 0, .int 0, .int 32, .int 0, .int ((-1)), .int ((-1)), .int 0, .int 32, .int 0, .int 0, .int ((-1)), .int ((-1)), .null, .null]))) q1 (.inr (2, [.int 0, .null, .int 0])))  h_q1) (cwI 0 hts gX5_init_Jx4a65c_init_da8c8 rfl rfl rfl (hts (.initialized RJx4a65c) (by decide +kernel)) (hts (.methodLink RX5 33 yJx4a65c_init_da8c8) (by decide +kernel)) (hts (.instanceMethod yJx4a65c_init_da8c8) (by decide +kernel)) rfl (by decide +kernel) ⟨Nat.le_of_ble_eq_true rfl, Nat.le_of_ble_eq_true rfl⟩) (mPreS hG hS hP hI hA) rfl rfl hl.1 rfl (lv_room (Nat.le_of_ble_eq_true rfl)) dX5_init_41 ⟨Nat.le_of_ble_eq_true rfl, Nat.le_of_ble_eq_true rfl⟩) hS (fun Mw1 H locs hp_r2 hP hI hS => ?_)
  subst Mw1
  have h_I := mu_k (e := .inr (2, [.int 0, .ref (G.2.2.2 1), .int 0])) (kd_ne h_I h_q1 rfl) h_I
  have h_q1 : (mu (mu (mu Mw a0 (.inr (8, [.null, .int 0, .int 0, .int 0, .int 0, .int 32, .int 0, .int ((-1)), .int ((-1)), .int 0, .int 32, .int 0, .int 0, .int ((-1)), .int ((-1)), .null, .null]))) q1 (.inr (2, [.int 0, .null, .int 0]))) q1 (.inr (2, [.int 0, .ref (G.2.2.2 1), .int 0]))) q1 = some (.inr (2, [.int 0, .ref (G.2.2.2 1), .int 0])) := mu_s
  refine m_putF (ci := 8) (v := .ref q1) (ty := .object "java/util/ArrayList") (C := RX5) (T := TX5) (N := 17) hx hb hts i_X5 tyX5 tyX5_ok nmX5 hown hK hP hI hS h_I rfl 15 (by decide) (hts (.fieldLink RX5 34 "MeniscusModel$Instrument" "readings" "Ljava/util/ArrayList;") (by decide +kernel)) (fun _ h9 => h9) rfl hin rfl (by decide +kernel) rfl rfl (Nat.le_of_ble_eq_true rfl) dX5_init_44 (fun H locs hP hI hS => ?_)
  have hP : mP G.1 (mu (mu (mu (mu Mw a0 (.inr (8, [.null, .int 0, .int 0, .int 0, .int 0, .int 32, .int 0, .int ((-1)), .int ((-1)), .int 0, .int 32, .int 0, .int 0, .int ((-1)), .int ((-1)), .null, .null]))) q1 (.inr (2, [.int 0, .null, .int 0]))) q1 (.inr (2, [.int 0, .ref (G.2.2.2 1), .int 0]))) a0 (.inr (8, [.null, .int 0, .int 0, .int 0, .int 0, .int 32, .int 0, .int ((-1)), .int ((-1)), .int 0, .int 32, .int 0, .int 0, .int ((-1)), .int ((-1)), .ref q1, .null]))) H := hP
  have hI : mI A (mu (mu (mu (mu Mw a0 (.inr (8, [.null, .int 0, .int 0, .int 0, .int 0, .int 32, .int 0, .int ((-1)), .int ((-1)), .int 0, .int 32, .int 0, .int 0, .int ((-1)), .int ((-1)), .null, .null]))) q1 (.inr (2, [.int 0, .null, .int 0]))) q1 (.inr (2, [.int 0, .ref (G.2.2.2 1), .int 0]))) a0 (.inr (8, [.null, .int 0, .int 0, .int 0, .int 0, .int 32, .int 0, .int ((-1)), .int ((-1)), .int 0, .int 32, .int 0, .int 0, .int ((-1)), .int ((-1)), .ref q1, .null]))) := hI
  have h_q1 := mu_k (e := .inr (8, [.null, .int 0, .int 0, .int 0, .int 0, .int 32, .int 0, .int ((-1)), .int ((-1)), .int 0, .int 32, .int 0, .int 0, .int ((-1)), .int ((-1)), .ref q1, .null])) (kd_ne h_q1 h_I rfl) h_q1
  have h_I : (mu (mu (mu (mu Mw a0 (.inr (8, [.null, .int 0, .int 0, .int 0, .int 0, .int 32, .int 0, .int ((-1)), .int ((-1)), .int 0, .int 32, .int 0, .int 0, .int ((-1)), .int ((-1)), .null, .null]))) q1 (.inr (2, [.int 0, .null, .int 0]))) q1 (.inr (2, [.int 0, .ref (G.2.2.2 1), .int 0]))) a0 (.inr (8, [.null, .int 0, .int 0, .int 0, .int 0, .int 32, .int 0, .int ((-1)), .int ((-1)), .int 0, .int 32, .int 0, .int 0, .int ((-1)), .int ((-1)), .ref q1, .null]))) a0 = some (.inr (8, [.null, .int 0, .int 0, .int 0, .int 0, .int 32, .int 0, .int ((-1)), .int ((-1)), .int 0, .int 32, .int 0, .int 0, .int ((-1)), .int ((-1)), .ref q1, .null])) := mu_s
  refine lv_aload_n hx hb dX5_init_47 rfl (lv_at hl 0 rfl) ?_
  refine m_new (ci := 2) (fs := [.int 0, .null, .int 0]) (C := RJx4a65c) (T := TJx4a65c) (N := 3) hx hb hts i_Jx4a65c tyJx4a65c tyJx4a65c_ok hown (hts (.classLink RX5 31 RJx4a65c) (by decide +kernel)) (hts (.instantiable RJx4a65c 3) (by decide +kernel)) (hts (.initialized RJx4a65c) (by decide +kernel)) hK hP hI hS hA rfl (fun j hj => by rcases (show j = 0 ∨ j = 1 ∨ j = 2 by omega) with rfl | rfl | rfl <;> rfl) (Nat.le_of_ble_eq_true rfl) (Nat.le_of_ble_eq_true rfl) dX5_init_48 (fun q3 H hn_q3 hP hI hS => ?_)
  have neq_h_q1_q3 := ne_none h_q1 hn_q3
  have h_I := mu_x (e := .inr (2, [.int 0, .null, .int 0])) h_I hn_q3
  have h_q1 := mu_x (e := .inr (2, [.int 0, .null, .int 0])) h_q1 hn_q3
  have h_q3 : (mu (mu (mu (mu (mu Mw a0 (.inr (8, [.null, .int 0, .int 0, .int 0, .int 0, .int 32, .int 0, .int ((-1)), .int ((-1)), .int 0, .int 32, .int 0, .int 0, .int ((-1)), .int ((-1)), .null, .null]))) q1 (.inr (2, [.int 0, .null, .int 0]))) q1 (.inr (2, [.int 0, .ref (G.2.2.2 1), .int 0]))) a0 (.inr (8, [.null, .int 0, .int 0, .int 0, .int 0, .int 32, .int 0, .int ((-1)), .int ((-1)), .int 0, .int 32, .int 0, .int 0, .int ((-1)), .int ((-1)), .ref q1, .null]))) q3 (.inr (2, [.int 0, .null, .int 0]))) q3 = some (.inr (2, [.int 0, .null, .int 0])) := mu_s
  refine lv_dup hx hb dX5_init_51 rfl ?_
  refine m_callv (va_runI (As := []) (rest := [.ref q3, .ref a0]) ⟨hx, hb, hml, hown, hts⟩ (c_Jx4a65c_init_da8c8 l G A (mu (mu (mu (mu (mu Mw a0 (.inr (8, [.null, .int 0, .int 0, .int 0, .int 0, .int 32, .int 0, .int ((-1)), .int ((-1)), .int 0, .int 32, .int 0, .int 0, .int ((-1)), .int ((-1)), .null, .null]))) q1 (.inr (2, [.int 0, .null, .int 0]))) q1 (.inr (2, [.int 0, .ref (G.2.2.2 1), .int 0]))) a0 (.inr (8, [.null, .int 0, .int 0, .int 0, .int 0, .int 32, .int 0, .int ((-1)), .int ((-1)), .int 0, .int 32, .int 0, .int 0, .int ((-1)), .int ((-1)), .ref q1, .null]))) q3 (.inr (2, [.int 0, .null, .int 0])))  h_q3) (cwI 0 hts gX5_init_Jx4a65c_init_da8c8 rfl rfl rfl (hts (.initialized RJx4a65c) (by decide +kernel)) (hts (.methodLink RX5 33 yJx4a65c_init_da8c8) (by decide +kernel)) (hts (.instanceMethod yJx4a65c_init_da8c8) (by decide +kernel)) rfl (by decide +kernel) ⟨Nat.le_of_ble_eq_true rfl, Nat.le_of_ble_eq_true rfl⟩) (mPreS hG hS hP hI hA) rfl rfl hl.1 rfl (lv_room (Nat.le_of_ble_eq_true rfl)) dX5_init_52 ⟨Nat.le_of_ble_eq_true rfl, Nat.le_of_ble_eq_true rfl⟩) hS (fun Mw1 H locs hp_r4 hP hI hS => ?_)
  subst Mw1
  have h_I := mu_k (e := .inr (2, [.int 0, .ref (G.2.2.2 1), .int 0])) (kd_ne h_I h_q3 rfl) h_I
  have h_q1 := mu_k (e := .inr (2, [.int 0, .ref (G.2.2.2 1), .int 0])) neq_h_q1_q3 h_q1
  have h_q3 : (mu (mu (mu (mu (mu (mu Mw a0 (.inr (8, [.null, .int 0, .int 0, .int 0, .int 0, .int 32, .int 0, .int ((-1)), .int ((-1)), .int 0, .int 32, .int 0, .int 0, .int ((-1)), .int ((-1)), .null, .null]))) q1 (.inr (2, [.int 0, .null, .int 0]))) q1 (.inr (2, [.int 0, .ref (G.2.2.2 1), .int 0]))) a0 (.inr (8, [.null, .int 0, .int 0, .int 0, .int 0, .int 32, .int 0, .int ((-1)), .int ((-1)), .int 0, .int 32, .int 0, .int 0, .int ((-1)), .int ((-1)), .ref q1, .null]))) q3 (.inr (2, [.int 0, .null, .int 0]))) q3 (.inr (2, [.int 0, .ref (G.2.2.2 1), .int 0]))) q3 = some (.inr (2, [.int 0, .ref (G.2.2.2 1), .int 0])) := mu_s
  refine m_putF (ci := 8) (v := .ref q3) (ty := .object "java/util/ArrayList") (C := RX5) (T := TX5) (N := 17) hx hb hts i_X5 tyX5 tyX5_ok nmX5 hown hK hP hI hS h_I rfl 16 (by decide) (hts (.fieldLink RX5 38 "MeniscusModel$Instrument" "heats" "Ljava/util/ArrayList;") (by decide +kernel)) (fun _ h9 => h9) rfl hin rfl (by decide +kernel) rfl rfl (Nat.le_of_ble_eq_true rfl) dX5_init_55 (fun H locs hP hI hS => ?_)
  have hP : mP G.1 (mu (mu (mu (mu (mu (mu (mu Mw a0 (.inr (8, [.null, .int 0, .int 0, .int 0, .int 0, .int 32, .int 0, .int ((-1)), .int ((-1)), .int 0, .int 32, .int 0, .int 0, .int ((-1)), .int ((-1)), .null, .null]))) q1 (.inr (2, [.int 0, .null, .int 0]))) q1 (.inr (2, [.int 0, .ref (G.2.2.2 1), .int 0]))) a0 (.inr (8, [.null, .int 0, .int 0, .int 0, .int 0, .int 32, .int 0, .int ((-1)), .int ((-1)), .int 0, .int 32, .int 0, .int 0, .int ((-1)), .int ((-1)), .ref q1, .null]))) q3 (.inr (2, [.int 0, .null, .int 0]))) q3 (.inr (2, [.int 0, .ref (G.2.2.2 1), .int 0]))) a0 (.inr (8, [.null, .int 0, .int 0, .int 0, .int 0, .int 32, .int 0, .int ((-1)), .int ((-1)), .int 0, .int 32, .int 0, .int 0, .int ((-1)), .int ((-1)), .ref q1, .ref q3]))) H := hP
  have hI : mI A (mu (mu (mu (mu (mu (mu (mu Mw a0 (.inr (8, [.null, .int 0, .int 0, .int 0, .int 0, .int 32, .int 0, .int ((-1)), .int ((-1)), .int 0, .int 32, .int 0, .int 0, .int ((-1)), .int ((-1)), .null, .null]))) q1 (.inr (2, [.int 0, .null, .int 0]))) q1 (.inr (2, [.int 0, .ref (G.2.2.2 1), .int 0]))) a0 (.inr (8, [.null, .int 0, .int 0, .int 0, .int 0, .int 32, .int 0, .int ((-1)), .int ((-1)), .int 0, .int 32, .int 0, .int 0, .int ((-1)), .int ((-1)), .ref q1, .null]))) q3 (.inr (2, [.int 0, .null, .int 0]))) q3 (.inr (2, [.int 0, .ref (G.2.2.2 1), .int 0]))) a0 (.inr (8, [.null, .int 0, .int 0, .int 0, .int 0, .int 32, .int 0, .int ((-1)), .int ((-1)), .int 0, .int 32, .int 0, .int 0, .int ((-1)), .int ((-1)), .ref q1, .ref q3]))) := hI
  have h_q1 := mu_k (e := .inr (8, [.null, .int 0, .int 0, .int 0, .int 0, .int 32, .int 0, .int ((-1)), .int ((-1)), .int 0, .int 32, .int 0, .int 0, .int ((-1)), .int ((-1)), .ref q1, .ref q3])) (kd_ne h_q1 h_I rfl) h_q1
  have h_q3 := mu_k (e := .inr (8, [.null, .int 0, .int 0, .int 0, .int 0, .int 32, .int 0, .int ((-1)), .int ((-1)), .int 0, .int 32, .int 0, .int 0, .int ((-1)), .int ((-1)), .ref q1, .ref q3])) (kd_ne h_q3 h_I rfl) h_q3
  have h_I : (mu (mu (mu (mu (mu (mu (mu Mw a0 (.inr (8, [.null, .int 0, .int 0, .int 0, .int 0, .int 32, .int 0, .int ((-1)), .int ((-1)), .int 0, .int 32, .int 0, .int 0, .int ((-1)), .int ((-1)), .null, .null]))) q1 (.inr (2, [.int 0, .null, .int 0]))) q1 (.inr (2, [.int 0, .ref (G.2.2.2 1), .int 0]))) a0 (.inr (8, [.null, .int 0, .int 0, .int 0, .int 0, .int 32, .int 0, .int ((-1)), .int ((-1)), .int 0, .int 32, .int 0, .int 0, .int ((-1)), .int ((-1)), .ref q1, .null]))) q3 (.inr (2, [.int 0, .null, .int 0]))) q3 (.inr (2, [.int 0, .ref (G.2.2.2 1), .int 0]))) a0 (.inr (8, [.null, .int 0, .int 0, .int 0, .int 0, .int 32, .int 0, .int ((-1)), .int ((-1)), .int 0, .int 32, .int 0, .int 0, .int ((-1)), .int ((-1)), .ref q1, .ref q3]))) a0 = some (.inr (8, [.null, .int 0, .int 0, .int 0, .int 0, .int 32, .int 0, .int ((-1)), .int ((-1)), .int 0, .int 32, .int 0, .int 0, .int ((-1)), .int ((-1)), .ref q1, .ref q3])) := mu_s
  refine lv_aload_n hx hb dX5_init_58 rfl (lv_at hl 0 rfl) ?_
  refine lv_aload_n hx hb dX5_init_59 rfl (lv_at hl 1 rfl) ?_
  refine m_putF (ci := 8) (v := .ref t0) (ty := .object "MeniscusModel$Tube") (C := RX5) (T := TX5) (N := 17) hx hb hts i_X5 tyX5 tyX5_ok nmX5 hown hK hP hI hS h_I rfl 0 (by decide) (hts (.fieldLink RX5 41 "MeniscusModel$Instrument" "tube" "LMeniscusModel$Tube;") (by decide +kernel)) (fun _ h9 => h9) rfl hin rfl (by decide +kernel) rfl rfl (Nat.le_of_ble_eq_true rfl) dX5_init_60 (fun H locs hP hI hS => ?_)
  have hP : mP G.1 (mu (mu (mu (mu (mu (mu (mu (mu Mw a0 (.inr (8, [.null, .int 0, .int 0, .int 0, .int 0, .int 32, .int 0, .int ((-1)), .int ((-1)), .int 0, .int 32, .int 0, .int 0, .int ((-1)), .int ((-1)), .null, .null]))) q1 (.inr (2, [.int 0, .null, .int 0]))) q1 (.inr (2, [.int 0, .ref (G.2.2.2 1), .int 0]))) a0 (.inr (8, [.null, .int 0, .int 0, .int 0, .int 0, .int 32, .int 0, .int ((-1)), .int ((-1)), .int 0, .int 32, .int 0, .int 0, .int ((-1)), .int ((-1)), .ref q1, .null]))) q3 (.inr (2, [.int 0, .null, .int 0]))) q3 (.inr (2, [.int 0, .ref (G.2.2.2 1), .int 0]))) a0 (.inr (8, [.null, .int 0, .int 0, .int 0, .int 0, .int 32, .int 0, .int ((-1)), .int ((-1)), .int 0, .int 32, .int 0, .int 0, .int ((-1)), .int ((-1)), .ref q1, .ref q3]))) a0 (.inr (8, [.ref t0, .int 0, .int 0, .int 0, .int 0, .int 32, .int 0, .int ((-1)), .int ((-1)), .int 0, .int 32, .int 0, .int 0, .int ((-1)), .int ((-1)), .ref q1, .ref q3]))) H := hP
  have hI : mI A (mu (mu (mu (mu (mu (mu (mu (mu Mw a0 (.inr (8, [.null, .int 0, .int 0, .int 0, .int 0, .int 32, .int 0, .int ((-1)), .int ((-1)), .int 0, .int 32, .int 0, .int 0, .int ((-1)), .int ((-1)), .null, .null]))) q1 (.inr (2, [.int 0, .null, .int 0]))) q1 (.inr (2, [.int 0, .ref (G.2.2.2 1), .int 0]))) a0 (.inr (8, [.null, .int 0, .int 0, .int 0, .int 0, .int 32, .int 0, .int ((-1)), .int ((-1)), .int 0, .int 32, .int 0, .int 0, .int ((-1)), .int ((-1)), .ref q1, .null]))) q3 (.inr (2, [.int 0, .null, .int 0]))) q3 (.inr (2, [.int 0, .ref (G.2.2.2 1), .int 0]))) a0 (.inr (8, [.null, .int 0, .int 0, .int 0, .int 0, .int 32, .int 0, .int ((-1)), .int ((-1)), .int 0, .int 32, .int 0, .int 0, .int ((-1)), .int ((-1)), .ref q1, .ref q3]))) a0 (.inr (8, [.ref t0, .int 0, .int 0, .int 0, .int 0, .int 32, .int 0, .int ((-1)), .int ((-1)), .int 0, .int 32, .int 0, .int 0, .int ((-1)), .int ((-1)), .ref q1, .ref q3]))) := hI
  have h_q1 := mu_k (e := .inr (8, [.ref t0, .int 0, .int 0, .int 0, .int 0, .int 32, .int 0, .int ((-1)), .int ((-1)), .int 0, .int 32, .int 0, .int 0, .int ((-1)), .int ((-1)), .ref q1, .ref q3])) (kd_ne h_q1 h_I rfl) h_q1
  have h_q3 := mu_k (e := .inr (8, [.ref t0, .int 0, .int 0, .int 0, .int 0, .int 32, .int 0, .int ((-1)), .int ((-1)), .int 0, .int 32, .int 0, .int 0, .int ((-1)), .int ((-1)), .ref q1, .ref q3])) (kd_ne h_q3 h_I rfl) h_q3
  rw [mu_uu] at hP hI h_q1 h_q3
  have h_I : (mu (mu (mu (mu (mu (mu (mu Mw a0 (.inr (8, [.null, .int 0, .int 0, .int 0, .int 0, .int 32, .int 0, .int ((-1)), .int ((-1)), .int 0, .int 32, .int 0, .int 0, .int ((-1)), .int ((-1)), .null, .null]))) q1 (.inr (2, [.int 0, .null, .int 0]))) q1 (.inr (2, [.int 0, .ref (G.2.2.2 1), .int 0]))) a0 (.inr (8, [.null, .int 0, .int 0, .int 0, .int 0, .int 32, .int 0, .int ((-1)), .int ((-1)), .int 0, .int 32, .int 0, .int 0, .int ((-1)), .int ((-1)), .ref q1, .null]))) q3 (.inr (2, [.int 0, .null, .int 0]))) q3 (.inr (2, [.int 0, .ref (G.2.2.2 1), .int 0]))) a0 (.inr (8, [.ref t0, .int 0, .int 0, .int 0, .int 0, .int 32, .int 0, .int ((-1)), .int ((-1)), .int 0, .int 32, .int 0, .int 0, .int ((-1)), .int ((-1)), .ref q1, .ref q3]))) a0 = some (.inr (8, [.ref t0, .int 0, .int 0, .int 0, .int 0, .int 32, .int 0, .int ((-1)), .int ((-1)), .int 0, .int 32, .int 0, .int 0, .int ((-1)), .int ((-1)), .ref q1, .ref q3])) := mu_s
  refine lv_aload_n hx hb dX5_init_63 rfl (lv_at hl 0 rfl) ?_
  refine lv_iload_n hx hb dX5_init_64 rfl (lv_at hl 2 rfl) ?_
  refine m_putF (ci := 8) (v := .int p1) (ty := .int) (C := RX5) (T := TX5) (N := 17) hx hb hts i_X5 tyX5 tyX5_ok nmX5 hown hK hP hI hS h_I rfl 1 (by decide) (hts (.fieldLink RX5 45 "MeniscusModel$Instrument" "bulb" "I") (by decide +kernel)) (fun _ h9 => h9) rfl hin rfl (by decide +kernel) rfl rfl (Nat.le_of_ble_eq_true rfl) dX5_init_65 (fun H locs hP hI hS => ?_)
  have hP : mP G.1 (mu (mu (mu (mu (mu (mu (mu (mu Mw a0 (.inr (8, [.null, .int 0, .int 0, .int 0, .int 0, .int 32, .int 0, .int ((-1)), .int ((-1)), .int 0, .int 32, .int 0, .int 0, .int ((-1)), .int ((-1)), .null, .null]))) q1 (.inr (2, [.int 0, .null, .int 0]))) q1 (.inr (2, [.int 0, .ref (G.2.2.2 1), .int 0]))) a0 (.inr (8, [.null, .int 0, .int 0, .int 0, .int 0, .int 32, .int 0, .int ((-1)), .int ((-1)), .int 0, .int 32, .int 0, .int 0, .int ((-1)), .int ((-1)), .ref q1, .null]))) q3 (.inr (2, [.int 0, .null, .int 0]))) q3 (.inr (2, [.int 0, .ref (G.2.2.2 1), .int 0]))) a0 (.inr (8, [.ref t0, .int 0, .int 0, .int 0, .int 0, .int 32, .int 0, .int ((-1)), .int ((-1)), .int 0, .int 32, .int 0, .int 0, .int ((-1)), .int ((-1)), .ref q1, .ref q3]))) a0 (.inr (8, [.ref t0, .int p1, .int 0, .int 0, .int 0, .int 32, .int 0, .int ((-1)), .int ((-1)), .int 0, .int 32, .int 0, .int 0, .int ((-1)), .int ((-1)), .ref q1, .ref q3]))) H := hP
  have hI : mI A (mu (mu (mu (mu (mu (mu (mu (mu Mw a0 (.inr (8, [.null, .int 0, .int 0, .int 0, .int 0, .int 32, .int 0, .int ((-1)), .int ((-1)), .int 0, .int 32, .int 0, .int 0, .int ((-1)), .int ((-1)), .null, .null]))) q1 (.inr (2, [.int 0, .null, .int 0]))) q1 (.inr (2, [.int 0, .ref (G.2.2.2 1), .int 0]))) a0 (.inr (8, [.null, .int 0, .int 0, .int 0, .int 0, .int 32, .int 0, .int ((-1)), .int ((-1)), .int 0, .int 32, .int 0, .int 0, .int ((-1)), .int ((-1)), .ref q1, .null]))) q3 (.inr (2, [.int 0, .null, .int 0]))) q3 (.inr (2, [.int 0, .ref (G.2.2.2 1), .int 0]))) a0 (.inr (8, [.ref t0, .int 0, .int 0, .int 0, .int 0, .int 32, .int 0, .int ((-1)), .int ((-1)), .int 0, .int 32, .int 0, .int 0, .int ((-1)), .int ((-1)), .ref q1, .ref q3]))) a0 (.inr (8, [.ref t0, .int p1, .int 0, .int 0, .int 0, .int 32, .int 0, .int ((-1)), .int ((-1)), .int 0, .int 32, .int 0, .int 0, .int ((-1)), .int ((-1)), .ref q1, .ref q3]))) := hI
  have h_q1 := mu_k (e := .inr (8, [.ref t0, .int p1, .int 0, .int 0, .int 0, .int 32, .int 0, .int ((-1)), .int ((-1)), .int 0, .int 32, .int 0, .int 0, .int ((-1)), .int ((-1)), .ref q1, .ref q3])) (kd_ne h_q1 h_I rfl) h_q1
  have h_q3 := mu_k (e := .inr (8, [.ref t0, .int p1, .int 0, .int 0, .int 0, .int 32, .int 0, .int ((-1)), .int ((-1)), .int 0, .int 32, .int 0, .int 0, .int ((-1)), .int ((-1)), .ref q1, .ref q3])) (kd_ne h_q3 h_I rfl) h_q3
  rw [mu_uu] at hP hI h_q1 h_q3
  have h_I : (mu (mu (mu (mu (mu (mu (mu Mw a0 (.inr (8, [.null, .int 0, .int 0, .int 0, .int 0, .int 32, .int 0, .int ((-1)), .int ((-1)), .int 0, .int 32, .int 0, .int 0, .int ((-1)), .int ((-1)), .null, .null]))) q1 (.inr (2, [.int 0, .null, .int 0]))) q1 (.inr (2, [.int 0, .ref (G.2.2.2 1), .int 0]))) a0 (.inr (8, [.null, .int 0, .int 0, .int 0, .int 0, .int 32, .int 0, .int ((-1)), .int ((-1)), .int 0, .int 32, .int 0, .int 0, .int ((-1)), .int ((-1)), .ref q1, .null]))) q3 (.inr (2, [.int 0, .null, .int 0]))) q3 (.inr (2, [.int 0, .ref (G.2.2.2 1), .int 0]))) a0 (.inr (8, [.ref t0, .int p1, .int 0, .int 0, .int 0, .int 32, .int 0, .int ((-1)), .int ((-1)), .int 0, .int 32, .int 0, .int 0, .int ((-1)), .int ((-1)), .ref q1, .ref q3]))) a0 = some (.inr (8, [.ref t0, .int p1, .int 0, .int 0, .int 0, .int 32, .int 0, .int ((-1)), .int ((-1)), .int 0, .int 32, .int 0, .int 0, .int ((-1)), .int ((-1)), .ref q1, .ref q3])) := mu_s
  refine lv_aload_n hx hb dX5_init_68 rfl (lv_at hl 0 rfl) ?_
  refine lv_iload_n hx hb dX5_init_69 rfl (lv_at hl 3 rfl) ?_
  refine m_putF (ci := 8) (v := .int p2) (ty := .boolean) (C := RX5) (T := TX5) (N := 17) hx hb hts i_X5 tyX5 tyX5_ok nmX5 hown hK hP hI hS h_I rfl 2 (by decide) (hts (.fieldLink RX5 48 "MeniscusModel$Instrument" "isSoft" "Z") (by decide +kernel)) (fun _ h9 => h9) rfl hin rfl (by decide +kernel) (nb01 h01).1 (nb01 h01).2 (Nat.le_of_ble_eq_true rfl) dX5_init_70 (fun H locs hP hI hS => ?_)
  have hP : mP G.1 (mu (mu (mu (mu (mu (mu (mu (mu Mw a0 (.inr (8, [.null, .int 0, .int 0, .int 0, .int 0, .int 32, .int 0, .int ((-1)), .int ((-1)), .int 0, .int 32, .int 0, .int 0, .int ((-1)), .int ((-1)), .null, .null]))) q1 (.inr (2, [.int 0, .null, .int 0]))) q1 (.inr (2, [.int 0, .ref (G.2.2.2 1), .int 0]))) a0 (.inr (8, [.null, .int 0, .int 0, .int 0, .int 0, .int 32, .int 0, .int ((-1)), .int ((-1)), .int 0, .int 32, .int 0, .int 0, .int ((-1)), .int ((-1)), .ref q1, .null]))) q3 (.inr (2, [.int 0, .null, .int 0]))) q3 (.inr (2, [.int 0, .ref (G.2.2.2 1), .int 0]))) a0 (.inr (8, [.ref t0, .int p1, .int 0, .int 0, .int 0, .int 32, .int 0, .int ((-1)), .int ((-1)), .int 0, .int 32, .int 0, .int 0, .int ((-1)), .int ((-1)), .ref q1, .ref q3]))) a0 (.inr (8, [.ref t0, .int p1, .int p2, .int 0, .int 0, .int 32, .int 0, .int ((-1)), .int ((-1)), .int 0, .int 32, .int 0, .int 0, .int ((-1)), .int ((-1)), .ref q1, .ref q3]))) H := hP
  have hI : mI A (mu (mu (mu (mu (mu (mu (mu (mu Mw a0 (.inr (8, [.null, .int 0, .int 0, .int 0, .int 0, .int 32, .int 0, .int ((-1)), .int ((-1)), .int 0, .int 32, .int 0, .int 0, .int ((-1)), .int ((-1)), .null, .null]))) q1 (.inr (2, [.int 0, .null, .int 0]))) q1 (.inr (2, [.int 0, .ref (G.2.2.2 1), .int 0]))) a0 (.inr (8, [.null, .int 0, .int 0, .int 0, .int 0, .int 32, .int 0, .int ((-1)), .int ((-1)), .int 0, .int 32, .int 0, .int 0, .int ((-1)), .int ((-1)), .ref q1, .null]))) q3 (.inr (2, [.int 0, .null, .int 0]))) q3 (.inr (2, [.int 0, .ref (G.2.2.2 1), .int 0]))) a0 (.inr (8, [.ref t0, .int p1, .int 0, .int 0, .int 0, .int 32, .int 0, .int ((-1)), .int ((-1)), .int 0, .int 32, .int 0, .int 0, .int ((-1)), .int ((-1)), .ref q1, .ref q3]))) a0 (.inr (8, [.ref t0, .int p1, .int p2, .int 0, .int 0, .int 32, .int 0, .int ((-1)), .int ((-1)), .int 0, .int 32, .int 0, .int 0, .int ((-1)), .int ((-1)), .ref q1, .ref q3]))) := hI
  have h_q1 := mu_k (e := .inr (8, [.ref t0, .int p1, .int p2, .int 0, .int 0, .int 32, .int 0, .int ((-1)), .int ((-1)), .int 0, .int 32, .int 0, .int 0, .int ((-1)), .int ((-1)), .ref q1, .ref q3])) (kd_ne h_q1 h_I rfl) h_q1
  have h_q3 := mu_k (e := .inr (8, [.ref t0, .int p1, .int p2, .int 0, .int 0, .int 32, .int 0, .int ((-1)), .int ((-1)), .int 0, .int 32, .int 0, .int 0, .int ((-1)), .int ((-1)), .ref q1, .ref q3])) (kd_ne h_q3 h_I rfl) h_q3
  rw [mu_uu] at hP hI h_q1 h_q3
  have h_I : (mu (mu (mu (mu (mu (mu (mu Mw a0 (.inr (8, [.null, .int 0, .int 0, .int 0, .int 0, .int 32, .int 0, .int ((-1)), .int ((-1)), .int 0, .int 32, .int 0, .int 0, .int ((-1)), .int ((-1)), .null, .null]))) q1 (.inr (2, [.int 0, .null, .int 0]))) q1 (.inr (2, [.int 0, .ref (G.2.2.2 1), .int 0]))) a0 (.inr (8, [.null, .int 0, .int 0, .int 0, .int 0, .int 32, .int 0, .int ((-1)), .int ((-1)), .int 0, .int 32, .int 0, .int 0, .int ((-1)), .int ((-1)), .ref q1, .null]))) q3 (.inr (2, [.int 0, .null, .int 0]))) q3 (.inr (2, [.int 0, .ref (G.2.2.2 1), .int 0]))) a0 (.inr (8, [.ref t0, .int p1, .int p2, .int 0, .int 0, .int 32, .int 0, .int ((-1)), .int ((-1)), .int 0, .int 32, .int 0, .int 0, .int ((-1)), .int ((-1)), .ref q1, .ref q3]))) a0 = some (.inr (8, [.ref t0, .int p1, .int p2, .int 0, .int 0, .int 32, .int 0, .int ((-1)), .int ((-1)), .int 0, .int 32, .int 0, .int 0, .int ((-1)), .int ((-1)), .ref q1, .ref q3])) := mu_s
  refine W.widen (k := 2) (n := 6) (Nat.le_of_ble_eq_true rfl) (Nat.le_of_ble_eq_true rfl) ?_
  exact W.vret hx hb hr (fun t99 ht99 hW99 => ⟨⟨(mu (mu (mu (mu (mu (mu (mu Mw a0 (.inr (8, [.null, .int 0, .int 0, .int 0, .int 0, .int 32, .int 0, .int ((-1)), .int ((-1)), .int 0, .int 32, .int 0, .int 0, .int ((-1)), .int ((-1)), .null, .null]))) q1 (.inr (2, [.int 0, .null, .int 0]))) q1 (.inr (2, [.int 0, .ref (G.2.2.2 1), .int 0]))) a0 (.inr (8, [.null, .int 0, .int 0, .int 0, .int 0, .int 32, .int 0, .int ((-1)), .int ((-1)), .int 0, .int 32, .int 0, .int 0, .int ((-1)), .int ((-1)), .ref q1, .null]))) q3 (.inr (2, [.int 0, .null, .int 0]))) q3 (.inr (2, [.int 0, .ref (G.2.2.2 1), .int 0]))) a0 (.inr (8, [.ref t0, .int p1, .int p2, .int 0, .int 0, .int 32, .int 0, .int ((-1)), .int ((-1)), .int 0, .int 32, .int 0, .int 0, .int ((-1)), .int ((-1)), .ref q1, .ref q3]))), rfl, ⟨q1, q3, (mu_none hn_q1).1, (mu_none (mu_none (mu_none (mu_none hn_q3).1).1).1).1, Ne.symm (mu_none (mu_none hn_q3).1).2, mw_ext3 h_I h_q1 h_q3 (fun z h1 h2 h3 => (mu_n h1).trans ((mu_n h3).trans ((mu_n h3).trans ((mu_n h1).trans ((mu_n h2).trans ((mu_n h2).trans ((mu_n h1).trans (rfl))))))))⟩, by rw [ht99]; exact hP, hI⟩, hS.F ht99⟩) hS.2.2 dX5_init_73
