set_option maxHeartbeats 4000000 in
set_option maxRecDepth 100000 in
theorem c_X2_init (l : Launch) (G : mg) (A : Nat → Prop) (Mw : mw) {sc0 : Nat} (t0 : Nat) (h_S : Mw sc0 = some (.inr (2, [.null, .int 0, .int 0, .int 0, .int 0]))) : Met l yX2_init wsX2_init ({ frames := 1, cells := 0, slots := 0, locals := 20 }) (va_Pc [.ref sc0, .ref t0] (mB G A Mw)) (va_Qv (fun Mw1 => Mw1 = mu Mw sc0 (.inr (2, [.ref t0, .int ((-1)), .int ((-1)), .int 0, .int 32]))) (mE G A) A) 0 0 A := by
  refine Met.ofW (cc := cX2_init) (maxL := 2) (ret := none) (by decide) rfl ?_
  intro p e s m args below meth c s₁ B hml hv
  obtain ⟨rfl, hG, hP, hI, hA⟩ := hv
  have hx := B.exec
  have hb := B.bytes
  have hr := B.returns
  have hts := atoms_spec (ws := wsX2_init) B.pre
  have hown : s.vm.findClass RX2 = some m.cls := findClass_of_methodNamed B.named
  have hlocks := B.notSynchronized
  have hK := hG.K
  have hin : meth.name = "<init>" := (name_of_methodNamed B.named B.method).1
  have i_X2 : ∀ w ∈ wsX20, w ∈ wsX2_init := by decide +kernel
  have hS : va_S A s.heap s.heap [] := va_S.rf
  have hl := lv_entry ([.ref sc0, .ref t0]) (n := 2) (Nat.le_of_ble_eq_true rfl)
  rw [lg_entry_eq]
  generalize (lg_sl ([.ref sc0, .ref t0]) ++ List.replicate (2 - (lg_sl ([.ref sc0, .ref t0])).length) Slot.unset).toArray = ls at hl ⊢
  have hl : lv_has ls 2 [(0, .ref sc0), (1, .ref t0)] := hl
  have hP : mP G.1 Mw s.heap := hP
  refine lv_aload_n hx hb dX2_init_0 rfl (lv_at hl 0 rfl) ?_
  refine W.objInit hx hb hown (hts (.methodLink RX2 3 objectInit) (by decide +kernel)) (hts (.instanceMethod objectInit) (by decide +kernel)) (hts (.code objectInit ⟨#[0xb1]⟩ 1 none) (by decide +kernel)) rfl (by rw [hml]; exact hl.1) rfl dX2_init_1 (Nat.le_of_ble_eq_true rfl) (Nat.le_of_ble_eq_true rfl) ?_
  refine W.eq (g2 := F0 m 4 ls []) rfl ?_
  refine lv_aload_n hx hb dX2_init_4 rfl (lv_at hl 0 rfl) ?_
  refine lv_iconst (v := (-1)) hx hb dX2_init_5 (by decide) ?_
  refine m_put (ci := 2) (v := .int ((-1))) (ty := .int) (C := RX2) (T := TX2) (N := 5) hx hb hts i_X2 tyX2 tyX2_ok nmX2 hown hK hP hI hS h_S rfl 1 (by decide) (hts (.fieldLink RX2 9 "Meniscus$Scale" "icePlace" "I") (by decide +kernel)) (fun _ h9 => h9) rfl (by decide +kernel) rfl rfl (Nat.le_of_ble_eq_true rfl) dX2_init_6 (fun H locs hP hI hS => ?_)
  have hP : mP G.1 (mu Mw sc0 (.inr (2, [.null, .int ((-1)), .int 0, .int 0, .int 0]))) H := hP
  have hI : mI A (mu Mw sc0 (.inr (2, [.null, .int ((-1)), .int 0, .int 0, .int 0]))) := hI
  have h_S : (mu Mw sc0 (.inr (2, [.null, .int ((-1)), .int 0, .int 0, .int 0]))) sc0 = some (.inr (2, [.null, .int ((-1)), .int 0, .int 0, .int 0])) := mu_s
  refine lv_aload_n hx hb dX2_init_9 rfl (lv_at hl 0 rfl) ?_
  refine lv_iconst (v := (-1)) hx hb dX2_init_10 (by decide) ?_
  refine m_put (ci := 2) (v := .int ((-1))) (ty := .int) (C := RX2) (T := TX2) (N := 5) hx hb hts i_X2 tyX2 tyX2_ok nmX2 hown hK hP hI hS h_S rfl 2 (by decide) (hts (.fieldLink RX2 15 "Meniscus$Scale" "steamPlace" "I") (by decide +kernel)) (fun _ h9 => h9) rfl (by decide +kernel) rfl rfl (Nat.le_of_ble_eq_true rfl) dX2_init_11 (fun H locs hP hI hS => ?_)
  have hP : mP G.1 (mu (mu Mw sc0 (.inr (2, [.null, .int ((-1)), .int 0, .int 0, .int 0]))) sc0 (.inr (2, [.null, .int ((-1)), .int ((-1)), .int 0, .int 0]))) H := hP
  have hI : mI A (mu (mu Mw sc0 (.inr (2, [.null, .int ((-1)), .int 0, .int 0, .int 0]))) sc0 (.inr (2, [.null, .int ((-1)), .int ((-1)), .int 0, .int 0]))) := hI
  rw [mu_uu] at hP hI 
  have h_S : (mu Mw sc0 (.inr (2, [.null, .int ((-1)), .int ((-1)), .int 0, .int 0]))) sc0 = some (.inr (2, [.null, .int ((-1)), .int ((-1)), .int 0, .int 0])) := mu_s
  refine lv_aload_n hx hb dX2_init_14 rfl (lv_at hl 0 rfl) ?_
  refine lv_bipush (v := (32)) hx hb dX2_init_15 (by decide) ?_
  refine m_put (ci := 2) (v := .int 32) (ty := .char) (C := RX2) (T := TX2) (N := 5) hx hb hts i_X2 tyX2 tyX2_ok nmX2 hown hK hP hI hS h_S rfl 4 (by decide) (hts (.fieldLink RX2 18 "Meniscus$Scale" "kind" "C") (by decide +kernel)) (fun _ h9 => h9) rfl (by decide +kernel) rfl rfl (Nat.le_of_ble_eq_true rfl) dX2_init_17 (fun H locs hP hI hS => ?_)
  have hP : mP G.1 (mu (mu Mw sc0 (.inr (2, [.null, .int ((-1)), .int ((-1)), .int 0, .int 0]))) sc0 (.inr (2, [.null, .int ((-1)), .int ((-1)), .int 0, .int 32]))) H := hP
  have hI : mI A (mu (mu Mw sc0 (.inr (2, [.null, .int ((-1)), .int ((-1)), .int 0, .int 0]))) sc0 (.inr (2, [.null, .int ((-1)), .int ((-1)), .int 0, .int 32]))) := hI
  rw [mu_uu] at hP hI 
  have h_S : (mu Mw sc0 (.inr (2, [.null, .int ((-1)), .int ((-1)), .int 0, .int 32]))) sc0 = some (.inr (2, [.null, .int ((-1)), .int ((-1)), .int 0, .int 32])) := mu_s
  refine lv_aload_n hx hb dX2_init_20 rfl (lv_at hl 0 rfl) ?_
  refine lv_aload_n hx hb dX2_init_21 rfl (lv_at hl 1 rfl) ?_
  refine m_putF (ci := 2) (v := .ref t0) (ty := .object "Meniscus$Tube") (C := RX2) (T := TX2) (N := 5) hx hb hts i_X2 tyX2 tyX2_ok nmX2 hown hK hP hI hS h_S rfl 0 (by decide) (hts (.fieldLink RX2 22 "Meniscus$Scale" "tube" "LMeniscus$Tube;") (by decide +kernel)) (fun _ h9 => h9) rfl hin rfl (by decide +kernel) rfl rfl (Nat.le_of_ble_eq_true rfl) dX2_init_22 (fun H locs hP hI hS => ?_)
  have hP : mP G.1 (mu (mu Mw sc0 (.inr (2, [.null, .int ((-1)), .int ((-1)), .int 0, .int 32]))) sc0 (.inr (2, [.ref t0, .int ((-1)), .int ((-1)), .int 0, .int 32]))) H := hP
  have hI : mI A (mu (mu Mw sc0 (.inr (2, [.null, .int ((-1)), .int ((-1)), .int 0, .int 32]))) sc0 (.inr (2, [.ref t0, .int ((-1)), .int ((-1)), .int 0, .int 32]))) := hI
  rw [mu_uu] at hP hI 
  have h_S : (mu Mw sc0 (.inr (2, [.ref t0, .int ((-1)), .int ((-1)), .int 0, .int 32]))) sc0 = some (.inr (2, [.ref t0, .int ((-1)), .int ((-1)), .int 0, .int 32])) := mu_s
  refine W.widen (k := 0) (n := 0) (Nat.le_of_ble_eq_true rfl) (Nat.le_of_ble_eq_true rfl) ?_
  exact W.vret hx hb hr (fun t99 ht99 hW99 => ⟨⟨(mu Mw sc0 (.inr (2, [.ref t0, .int ((-1)), .int ((-1)), .int 0, .int 32]))), rfl, rfl, by rw [ht99]; exact hP, hI⟩, hS.F ht99⟩) hS.2.2 dX2_init_25

set_option maxHeartbeats 4000000 in
set_option maxRecDepth 100000 in
theorem c_X1_init (l : Launch) (G : mg) (A : Nat → Prop) (Mw : mw) {rd0 : Nat} (h_R : Mw rd0 = some (.inr (1, [.null, .null, .int 0]))) : Met l yX1_init wsX1_init ({ frames := 1, cells := 2, slots := 16, locals := 20 }) (va_Pc [.ref rd0] (mB G A Mw)) (va_Qv (fun Mw1 => ∃ va0 er0 : Nat, Mw va0 = none ∧ Mw er0 = none ∧ va0 ≠ er0 ∧ Mw1 = mu (mu (mu Mw va0 (.inl (G.2.1 0, 8, .inl (fun _ => 0)))) er0 (.inl (G.2.1 0, 8, .inl (fun _ => 0)))) rd0 (.inr (1, [.ref va0, .ref er0, .int 0]))) (mE G A) A) 2 16 A := by
  refine Met.ofW (cc := cX1_init) (maxL := 1) (ret := none) (by decide) rfl ?_
  intro p e s m args below meth c s₁ B hml hv
  obtain ⟨rfl, hG, hP, hI, hA⟩ := hv
  have hx := B.exec
  have hb := B.bytes
  have hr := B.returns
  have hts := atoms_spec (ws := wsX1_init) B.pre
  have hown : s.vm.findClass RX1 = some m.cls := findClass_of_methodNamed B.named
  have hlocks := B.notSynchronized
  have hK := hG.K
  have hin : meth.name = "<init>" := (name_of_methodNamed B.named B.method).1
  have i_X1 : ∀ w ∈ wsX10, w ∈ wsX1_init := by decide +kernel
  have hS : va_S A s.heap s.heap [] := va_S.rf
  have hl := lv_entry ([.ref rd0]) (n := 1) (Nat.le_of_ble_eq_true rfl)
  rw [lg_entry_eq]
  generalize (lg_sl ([.ref rd0]) ++ List.replicate (1 - (lg_sl ([.ref rd0])).length) Slot.unset).toArray = ls at hl ⊢
  have hl : lv_has ls 1 [(0, .ref rd0)] := hl
  have hP : mP G.1 Mw s.heap := hP
  refine lv_aload_n hx hb dX1_init_0 rfl (lv_at hl 0 rfl) ?_
  refine W.objInit hx hb hown (hts (.methodLink RX1 3 objectInit) (by decide +kernel)) (hts (.instanceMethod objectInit) (by decide +kernel)) (hts (.code objectInit ⟨#[0xb1]⟩ 1 none) (by decide +kernel)) rfl (by rw [hml]; exact hl.1) rfl dX1_init_1 (Nat.le_of_ble_eq_true rfl) (Nat.le_of_ble_eq_true rfl) ?_
  refine W.eq (g2 := F0 m 4 ls []) rfl ?_
  refine lv_aload_n hx hb dX1_init_4 rfl (lv_at hl 0 rfl) ?_
  refine lv_bipush (v := (8)) hx hb dX1_init_5 (by decide) ?_
  refine m_newa (atype := .int) (a0 := (8, .inl (fun _ => 0))) hx hb (hts (.arrayClass .int) (by decide +kernel)) rfl hK hP hI hS hA (hK.2 0 _ rfl).2 (fun _ => rfl) (by decide) (by decide) (by decide) (Nat.le_of_ble_eq_true rfl) (Nat.le_of_ble_eq_true rfl) dX1_init_7 (fun q1 H hn_q1 hP hI hS => ?_)
  have h_R := mu_x (e := .inl (G.2.1 0, 8, .inl (fun _ => 0))) h_R hn_q1
  have h_q1 : (mu Mw q1 (.inl (G.2.1 0, 8, .inl (fun _ => 0)))) q1 = some (.inl (G.2.1 0, 8, .inl (fun _ => 0))) := mu_s
  refine m_putF (ci := 1) (v := .ref q1) (ty := .array .int) (C := RX1) (T := TX1) (N := 3) hx hb hts i_X1 tyX1 tyX1_ok nmX1 hown hK hP hI hS h_R rfl 0 (by decide) (hts (.fieldLink RX1 9 "Meniscus$Readings" "values" "[I") (by decide +kernel)) (fun _ h9 => h9) rfl hin rfl (by decide +kernel) rfl rfl (Nat.le_of_ble_eq_true rfl) dX1_init_9 (fun H locs hP hI hS => ?_)
  have hP : mP G.1 (mu (mu Mw q1 (.inl (G.2.1 0, 8, .inl (fun _ => 0)))) rd0 (.inr (1, [.ref q1, .null, .int 0]))) H := hP
  have hI : mI A (mu (mu Mw q1 (.inl (G.2.1 0, 8, .inl (fun _ => 0)))) rd0 (.inr (1, [.ref q1, .null, .int 0]))) := hI
  have h_q1 := mu_k (e := .inr (1, [.ref q1, .null, .int 0])) (kd_ne h_q1 h_R rfl) h_q1
  have h_R : (mu (mu Mw q1 (.inl (G.2.1 0, 8, .inl (fun _ => 0)))) rd0 (.inr (1, [.ref q1, .null, .int 0]))) rd0 = some (.inr (1, [.ref q1, .null, .int 0])) := mu_s
  refine lv_aload_n hx hb dX1_init_12 rfl (lv_at hl 0 rfl) ?_
  refine lv_bipush (v := (8)) hx hb dX1_init_13 (by decide) ?_
  refine m_newa (atype := .int) (a0 := (8, .inl (fun _ => 0))) hx hb (hts (.arrayClass .int) (by decide +kernel)) rfl hK hP hI hS hA (hK.2 0 _ rfl).2 (fun _ => rfl) (by decide) (by decide) (by decide) (Nat.le_of_ble_eq_true rfl) (Nat.le_of_ble_eq_true rfl) dX1_init_15 (fun q2 H hn_q2 hP hI hS => ?_)
  have h_R := mu_x (e := .inl (G.2.1 0, 8, .inl (fun _ => 0))) h_R hn_q2
  have h_q1 := mu_x (e := .inl (G.2.1 0, 8, .inl (fun _ => 0))) h_q1 hn_q2
  have h_q2 : (mu (mu (mu Mw q1 (.inl (G.2.1 0, 8, .inl (fun _ => 0)))) rd0 (.inr (1, [.ref q1, .null, .int 0]))) q2 (.inl (G.2.1 0, 8, .inl (fun _ => 0)))) q2 = some (.inl (G.2.1 0, 8, .inl (fun _ => 0))) := mu_s
  have hq12 : q1 ≠ q2 := Ne.symm (mu_none (mu_none hn_q2).1).2
  have hq12s := Ne.symm hq12
  have hn_q20 : Mw q2 = none := (mu_none (mu_none hn_q2).1).1
  refine m_putF (ci := 1) (v := .ref q2) (ty := .array .int) (C := RX1) (T := TX1) (N := 3) hx hb hts i_X1 tyX1 tyX1_ok nmX1 hown hK hP hI hS h_R rfl 1 (by decide) (hts (.fieldLink RX1 15 "Meniscus$Readings" "errors" "[I") (by decide +kernel)) (fun _ h9 => h9) rfl hin rfl (by decide +kernel) rfl rfl (Nat.le_of_ble_eq_true rfl) dX1_init_17 (fun H locs hP hI hS => ?_)
  have hP : mP G.1 (mu (mu (mu (mu Mw q1 (.inl (G.2.1 0, 8, .inl (fun _ => 0)))) rd0 (.inr (1, [.ref q1, .null, .int 0]))) q2 (.inl (G.2.1 0, 8, .inl (fun _ => 0)))) rd0 (.inr (1, [.ref q1, .ref q2, .int 0]))) H := hP
  have hI : mI A (mu (mu (mu (mu Mw q1 (.inl (G.2.1 0, 8, .inl (fun _ => 0)))) rd0 (.inr (1, [.ref q1, .null, .int 0]))) q2 (.inl (G.2.1 0, 8, .inl (fun _ => 0)))) rd0 (.inr (1, [.ref q1, .ref q2, .int 0]))) := hI
  have h_q1 := mu_k (e := .inr (1, [.ref q1, .ref q2, .int 0])) (kd_ne h_q1 h_R rfl) h_q1
  have h_q2 := mu_k (e := .inr (1, [.ref q1, .ref q2, .int 0])) (kd_ne h_q2 h_R rfl) h_q2
  have h_R : (mu (mu (mu (mu Mw q1 (.inl (G.2.1 0, 8, .inl (fun _ => 0)))) rd0 (.inr (1, [.ref q1, .null, .int 0]))) q2 (.inl (G.2.1 0, 8, .inl (fun _ => 0)))) rd0 (.inr (1, [.ref q1, .ref q2, .int 0]))) rd0 = some (.inr (1, [.ref q1, .ref q2, .int 0])) := mu_s
  refine W.widen (k := 2) (n := 16) (Nat.le_of_ble_eq_true rfl) (Nat.le_of_ble_eq_true rfl) ?_
  exact W.vret hx hb hr (fun t99 ht99 hW99 => ⟨⟨(mu (mu (mu (mu Mw q1 (.inl (G.2.1 0, 8, .inl (fun _ => 0)))) rd0 (.inr (1, [.ref q1, .null, .int 0]))) q2 (.inl (G.2.1 0, 8, .inl (fun _ => 0)))) rd0 (.inr (1, [.ref q1, .ref q2, .int 0]))), rfl, ⟨q1, q2, hn_q1, hn_q20, hq12, mw_ext3 h_q1 h_q2 h_R (fun z h1 h2 h3 => (mu_n h3).trans ((mu_n h2).trans ((mu_n h3).trans ((mu_n h1).trans (rfl)))))⟩, by rw [ht99]; exact hP, hI⟩, hS.F ht99⟩) hS.2.2 dX1_init_20

