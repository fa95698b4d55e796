theorem gk_F {b : Nat} {s : State} (hts : ∀ w ∈ lw_tbl, w.before #[Value.ref b] s = true) : ∀ q ∈ gnF, va_Nw (.fieldLinkNest q.1 q.2.1 q.2.2.1 q.2.2.2.1 q.2.2.2.2.1 q.2.2.2.2.2) s := by
  have h : ∀ q ∈ gnF, Jvm.Cond.fieldLinkNest q.1 q.2.1 q.2.2.1 q.2.2.2.1 q.2.2.2.2.1 q.2.2.2.2.2 ∈ lw_tbl := by decide +kernel
  exact fun q hq => va_Nw.of rfl (hts _ (h q hq))
theorem gk_M {b : Nat} {s : State} (hts : ∀ w ∈ lw_tbl, w.before #[Value.ref b] s = true) : ∀ q ∈ gnM, va_Nw (.methodLinkNest q.1 q.2.1 q.2.2.1 q.2.2.2) s := by
  have h : ∀ q ∈ gnM, Jvm.Cond.methodLinkNest q.1 q.2.1 q.2.2.1 q.2.2.2 ∈ lw_tbl := by decide +kernel
  exact fun q hq => va_Nw.of rfl (hts _ (h q hq))
theorem gk_C {b : Nat} {s : State} (hts : ∀ w ∈ lw_tbl, w.before #[Value.ref b] s = true) : ∀ q ∈ gcast, va_Nw (.castable q.1 q.2) s := by
  have h : ∀ q ∈ gcast, Jvm.Cond.castable q.1 q.2 ∈ lw_tbl := by decide +kernel
  exact fun q hq => va_Nw.of rfl (hts _ (h q hq))
theorem gk_D {b : Nat} {s : State} (hts : ∀ w ∈ lw_tbl, w.before #[Value.ref b] s = true) : ∀ q ∈ gdecl, va_Nw (.declares q) s := by
  have h : ∀ q ∈ gdecl, Jvm.Cond.declares q ∈ lw_tbl := by decide +kernel
  exact fun q hq => va_Nw.of rfl (hts _ (h q hq))
theorem gk_S {b : Nat} {s : State} (hts : ∀ w ∈ lw_tbl, w.before #[Value.ref b] s = true) {cM : ClassId} (hM : s.vm.findClass "Meniscus" = some cM) : ∀ q ∈ gstr, ∃ sa : Nat, vk_R "Meniscus" q.1 q.2 sa s := by
  have h : ∀ q ∈ gstr, Jvm.Cond.stringRef "Meniscus" q.1 q.2 ∈ lw_tbl := by decide +kernel
  intro q hq
  have h1 := hts _ (h q hq)
  obtain ⟨-, -, -, sa, -, -, -, -, -, hev⟩ := Cond.stringRef_spec hM h1
  exact ⟨sa, vk_R.of h1 hev⟩
theorem gk_nc {b : Nat} {s : State} (hgv : (Jvm.Cond.and given_1 narrow_1).before #[Value.ref b] s = true) : ∀ q ∈ gnc, va_Nc q.1 q.2 s := by
  have hs := flat_of_before _ hgv
  exact (List.forall_mem_cons.mpr ⟨va_Nc.of (hs (.not (.castable "java/lang/IllegalArgumentException" "java/lang/IllegalStateException")) (by decide +kernel)), (List.forall_mem_cons.mpr ⟨va_Nc.of (hs (.not (.castable "java/lang/IllegalArgumentException" "java/lang/IndexOutOfBoundsException")) (by decide +kernel)), (List.forall_mem_cons.mpr ⟨va_Nc.of (hs (.not (.castable "java/lang/IllegalArgumentException" "java/lang/UnsupportedOperationException")) (by decide +kernel)), (List.forall_mem_cons.mpr ⟨va_Nc.of (hs (.not (.castable "java/lang/IllegalArgumentException" "java/util/NoSuchElementException")) (by decide +kernel)), (List.forall_mem_cons.mpr ⟨va_Nc.of (hs (.not (.castable "java/lang/IllegalStateException" "java/lang/IllegalArgumentException")) (by decide +kernel)), (List.forall_mem_cons.mpr ⟨va_Nc.of (hs (.not (.castable "java/lang/IllegalStateException" "java/lang/IndexOutOfBoundsException")) (by decide +kernel)), (List.forall_mem_cons.mpr ⟨va_Nc.of (hs (.not (.castable "java/lang/IllegalStateException" "java/lang/UnsupportedOperationException")) (by decide +kernel)), (List.forall_mem_cons.mpr ⟨va_Nc.of (hs (.not (.castable "java/lang/IllegalStateException" "java/util/NoSuchElementException")) (by decide +kernel)), (List.forall_mem_cons.mpr ⟨va_Nc.of (hs (.not (.castable "java/lang/IndexOutOfBoundsException" "java/lang/IllegalArgumentException")) (by decide +kernel)), (List.forall_mem_cons.mpr ⟨va_Nc.of (hs (.not (.castable "java/lang/IndexOutOfBoundsException" "java/lang/IllegalStateException")) (by decide +kernel)), (List.forall_mem_cons.mpr ⟨va_Nc.of (hs (.not (.castable "java/lang/IndexOutOfBoundsException" "java/lang/UnsupportedOperationException")) (by decide +kernel)), (List.forall_mem_cons.mpr ⟨va_Nc.of (hs (.not (.castable "java/lang/IndexOutOfBoundsException" "java/util/NoSuchElementException")) (by decide +kernel)), (List.forall_mem_cons.mpr ⟨va_Nc.of (hs (.not (.castable "java/lang/UnsupportedOperationException" "java/lang/IllegalArgumentException")) (by decide +kernel)), (List.forall_mem_cons.mpr ⟨va_Nc.of (hs (.not (.castable "java/lang/UnsupportedOperationException" "java/lang/IllegalStateException")) (by decide +kernel)), (List.forall_mem_cons.mpr ⟨va_Nc.of (hs (.not (.castable "java/lang/UnsupportedOperationException" "java/lang/IndexOutOfBoundsException")) (by decide +kernel)), (List.forall_mem_cons.mpr ⟨va_Nc.of (hs (.not (.castable "java/lang/UnsupportedOperationException" "java/util/NoSuchElementException")) (by decide +kernel)), (List.forall_mem_cons.mpr ⟨va_Nc.of (hs (.not (.castable "java/util/NoSuchElementException" "java/lang/IllegalArgumentException")) (by decide +kernel)), (List.forall_mem_cons.mpr ⟨va_Nc.of (hs (.not (.castable "java/util/NoSuchElementException" "java/lang/IllegalStateException")) (by decide +kernel)), (List.forall_mem_cons.mpr ⟨va_Nc.of (hs (.not (.castable "java/util/NoSuchElementException" "java/lang/IndexOutOfBoundsException")) (by decide +kernel)), (List.forall_mem_cons.mpr ⟨va_Nc.of (hs (.not (.castable "java/util/NoSuchElementException" "java/lang/UnsupportedOperationException")) (by decide +kernel)), (fun q hq => by cases hq)⟩)⟩)⟩)⟩)⟩)⟩)⟩)⟩)⟩)⟩)⟩)⟩)⟩)⟩)⟩)⟩)⟩)⟩)⟩)⟩)
theorem gk_prim {b : Nat} {s : State} {ty : FieldType} (h : (Cond.arrayClass ty).before #[Value.ref b] s = true) : ∃ cA : ClassId, s.vm.findClass ("[" ++ ty.toString) = some cA ∧ ArrOfT s cA ty := by
  obtain ⟨cA, kA, comp, f1, f2, f3⟩ := Cond.arrayClass_spec h
  exact ⟨cA, f1, fun N z => ⟨(fun k h => by cases h), kA, f2, comp, f3⟩⟩
theorem gk_obj {b : Nat} {s : State} {C : String} (h : (Cond.arrayOver (.object C)).before #[Value.ref b] s = true) : ∃ cA : ClassId, va_RA s cA (.object C) ∧ ArrOfT s cA (.object C) := by
  obtain ⟨comp, cA, kA, f1, -, f2, f3, f4⟩ := Cond.arrayOver_spec h
  exact ⟨cA, ⟨kA, comp, f2, f3, f1, f4⟩, fun N z => ⟨(fun k h => by cases h), kA, f2, comp, f3⟩⟩
/-- the constants' world: the cache's Integers -/
noncomputable def cWo (ad : Nat → Nat) : mw := fun a => by
  classical
  exact if h : ∃ k : Nat, k < 256 ∧ ad k = a then some (.inr (0, [.int (vb_c (Classical.choose h))])) else none
theorem va_OF.eq {C n d : String} {v w : Value} {t : Nat} {A : Nat → Prop} {U : State} {H : Heap} (h1 : va_OF C n d v t A U H) (h2 : va_OF C n d w t A U H) : v = w := by
  obtain ⟨cf, k, i, f, cell, a1, a2, a3, a4, a5, -⟩ := h1
  obtain ⟨cf', k', i', f', cell', b1, b2, b3, b4, b5, -⟩ := h2
  have e := a1.symm.trans b1
  cases e
  have e2 := a3.symm.trans b3
  cases e2
  exact Option.some.inj (a5.symm.trans b5)
theorem cWo_k {ad : Nat → Nat} {A : Nat → Prop} {U : State} {H : Heap} (h : vb_C ad A U H) {k : Nat} (hk : k < 256) : cWo ad (ad k) = some (.inr (0, [.int (vb_c k)])) := by
  have hx : ∃ j : Nat, j < 256 ∧ ad j = ad k := ⟨k, hk, rfl⟩
  have e : cWo ad (ad k) = some (.inr (0, [.int (vb_c (Classical.choose hx))])) := by
    unfold cWo
    simp only [hx, dif_pos]
  have hc := Classical.choose_spec hx
  have h1 := h.2 _ hc.1
  rw [hc.2] at h1
  have h2 := va_OF.eq h1 (h.2 k hk)
  rw [e, Value.int.inj h2]
theorem cWo_s {ad : Nat → Nat} {a : Nat} {e : va_E} (h : cWo ad a = some e) : ∃ k : Nat, k < 256 ∧ ad k = a ∧ e = .inr (0, [.int (vb_c k)]) := by
  by_cases hx : ∃ k : Nat, k < 256 ∧ ad k = a
  · have e1 : cWo ad a = some (.inr (0, [.int (vb_c (Classical.choose hx))])) := by
      unfold cWo
      simp only [hx, dif_pos]
    rw [e1] at h
    cases h
    exact ⟨_, (Classical.choose_spec hx).1, (Classical.choose_spec hx).2, rfl⟩
  · have e1 : cWo ad a = none := by
      unfold cWo
      simp only [hx, dif_neg, not_false_eq_true]
    rw [e1] at h
    cases h
set_option maxHeartbeats 4000000 in
set_option maxRecDepth 100000 in
theorem GK_at {b : Nat} {s : State} (hts : ∀ w ∈ lw_tbl, w.before #[Value.ref b] s = true) (hgv : (Jvm.Cond.and given_1 narrow_1).before #[Value.ref b] s = true) : ∃ G : mg, GK G (aH s.heap.size) s := by
  have hs := flat_of_before _ hgv
  have hA : ∀ a : Nat, a < s.heap.size → ¬ aH s.heap.size a := fun a h => Nat.not_le.mpr h
  obtain ⟨c0, i0, hK0⟩ := u_known (C := RJ6) (T := TJ6) (N := 1) (n := 1) hts wsJ60_inT (hts (.instantiable RJ6 1) (by decide +kernel))
  obtain ⟨c1, i1, hK1⟩ := u_known (C := RJx35411) (T := TJx35411) (N := 4) (n := 4) hts wsJx354110_inT (hts (.instantiable RJx35411 4) (by decide +kernel))
  obtain ⟨c2, i2, hK2⟩ := u_known (C := RJx4a65c) (T := TJx4a65c) (N := 3) (n := 3) hts wsJx4a65c0_inT (hts (.instantiable RJx4a65c 3) (by decide +kernel))
  obtain ⟨c3, i3, hK3⟩ := u_known (C := RX0) (T := TX0) (N := 15) (n := 15) hts wsX00_inT (hts (.instantiable RX0 15) (by decide +kernel))
  obtain ⟨c4, i4, hK4⟩ := u_known (C := RX1) (T := TX1) (N := 3) (n := 3) hts wsX10_inT (hts (.instantiable RX1 3) (by decide +kernel))
  obtain ⟨c5, i5, hK5⟩ := u_known (C := RX2) (T := TX2) (N := 5) (n := 5) hts wsX20_inT (hts (.instantiable RX2 5) (by decide +kernel))
  obtain ⟨c6, i6, hK6⟩ := u_known (C := RX3) (T := TX3) (N := 2) (n := 2) hts wsX30_inT (hts (.instantiable RX3 2) (by decide +kernel))
  obtain ⟨c7, i7, hK7⟩ := u_known (C := RX4) (T := TX4) (N := 9) (n := 9) hts wsX40_inT (hts (.instantiable RX4 9) (by decide +kernel))
  obtain ⟨c8, i8, hK8⟩ := u_known (C := RX5) (T := TX5) (N := 17) (n := 17) hts wsX50_inT (hts (.instantiable RX5 17) (by decide +kernel))
  obtain ⟨c9, i9, hK9⟩ := u_known (C := RX6) (T := TX6) (N := 2) (n := 2) hts wsX60_inT (hts (.instantiable RX6 2) (by decide +kernel))
  obtain ⟨c10, i10, hK10⟩ := u_known (C := RX7) (T := TX7) (N := 7) (n := 7) hts wsX70_inT (hts (.instantiable RX7 7) (by decide +kernel))
  obtain ⟨D, hD⟩ : ∃ D : va_G, ∀ (k : Nat) (q : vw_C), vwCl[k]? = some q → u_Kn s q.1 q.2.1 q.2.2 (D.1 k) (D.2 k) := by
    refine ⟨(fun k => match k with | 0 => c0 | 1 => c1 | 2 => c2 | 3 => c3 | 4 => c4 | 5 => c5 | 6 => c6 | 7 => c7 | 8 => c8 | 9 => c9 | _ => c10, fun k => match k with | 0 => i0 | 1 => i1 | 2 => i2 | 3 => i3 | 4 => i4 | 5 => i5 | 6 => i6 | 7 => i7 | 8 => i8 | 9 => i9 | _ => i10), ?_⟩
    intro k q hq
    match k, hq with
    | 0, hq => cases hq; exact hK0
    | 1, hq => cases hq; exact hK1
    | 2, hq => cases hq; exact hK2
    | 3, hq => cases hq; exact hK3
    | 4, hq => cases hq; exact hK4
    | 5, hq => cases hq; exact hK5
    | 6, hq => cases hq; exact hK6
    | 7, hq => cases hq; exact hK7
    | 8, hq => cases hq; exact hK8
    | 9, hq => cases hq; exact hK9
    | 10, hq => cases hq; exact hK10
    | k + 11, hq => simp [vwCl] at hq
  obtain ⟨a0, ha0, hb0⟩ := gk_prim (hts (.arrayClass .int) (by decide +kernel))
  obtain ⟨a1, ha1, hb1⟩ := gk_prim (hts (.arrayClass .long) (by decide +kernel))
  obtain ⟨a2, ha2, hb2⟩ := gk_prim (hts (.arrayClass .double) (by decide +kernel))
  obtain ⟨a3, ha3, hb3⟩ := gk_obj (C := "Meniscus$Tube") (hts (.arrayOver (.object "Meniscus$Tube")) (by decide +kernel))
  obtain ⟨a4, ha4, hb4⟩ := gk_obj (C := "Meniscus$Instrument") (hts (.arrayOver (.object "Meniscus$Instrument")) (by decide +kernel))
  obtain ⟨a5, ha5, hb5⟩ := gk_obj (C := "java/lang/Object") (hts (.arrayOver (.object "java/lang/Object")) (by decide +kernel))
  have hcl : (Term.static "java/lang/Integer$IntegerCache" "cache" "[Ljava/lang/Integer;").closed = true := rfl
  have hlen := va_eqt (hs (.eq (.length (.static "java/lang/Integer$IntegerCache" "cache" "[Ljava/lang/Integer;")) (.int 256)) (by decide +kernel))
  obtain ⟨ad, hC, hel⟩ := vb_Cof (A := aH s.heap.size) hcl hlen (hs _ (by decide +kernel)) hA
  obtain ⟨tc, htc, hTc⟩ := va_Tof (A := aH s.heap.size) (N := 256) (f := fun k => .ref (ad k)) (by decide) (hs (.arrayOf (.static "java/lang/Integer$IntegerCache" "cache" "[Ljava/lang/Integer;") (.object "java/lang/Integer")) (by decide +kernel)) hlen hel hA
  obtain ⟨td, htd, hTd⟩ := va_Tof (A := aH s.heap.size) (N := 0) (f := fun _ => .null) (by decide) (hs (.arrayOf (.static "java/util/ArrayList" "DEFAULTCAPACITY_EMPTY_ELEMENTDATA" "[Ljava/lang/Object;") (.object "java/lang/Object")) (by decide +kernel)) (va_eqt (hs (.eq (.length (.static "java/util/ArrayList" "DEFAULTCAPACITY_EMPTY_ELEMENTDATA" "[Ljava/lang/Object;")) (.int 0)) (by decide +kernel))) (fun j hj => absurd hj (Nat.not_lt_zero j)) hA
  refine ⟨(D, (fun k => match k with | 0 => a0 | 1 => a1 | 2 => a2 | 3 => a3 | 4 => a4 | _ => a5), cWo ad, (fun k => match k with | 0 => tc | 1 => td | k + 2 => ad k)), fun k hk => cWo_k hC hk, ⟨⟨hD, fun k q hq => ?_⟩, gk_F hts, gk_M hts, gk_C hts, gk_nc hgv, gk_S hts (cM := c7) hK7.2.1, va_AO.of (hts (.arrayOver (.object "java/lang/Object")) (by decide +kernel)), va_AO.of (hts (.arrayOver (.object "Meniscus$Tube")) (by decide +kernel)), va_AO.of (hts (.arrayOver (.object "Meniscus$Instrument")) (by decide +kernel)), ?_, ?_, gk_D hts⟩, ⟨?_, ?_, ?_, ⟨?_, hTc⟩, ⟨?_, hTd⟩, fun a e he => ?_⟩⟩
  · match k, hq with
    | 0, hq => cases hq; exact ⟨hb0, ha0⟩
    | 1, hq => cases hq; exact ⟨hb1, ha1⟩
    | 2, hq => cases hq; exact ⟨hb2, ha2⟩
    | 3, hq => cases hq; exact ⟨hb3, ha3⟩
    | 4, hq => cases hq; exact ⟨hb4, ha4⟩
    | 5, hq => cases hq; exact ⟨hb5, ha5⟩
    | k + 6, hq => simp [gtys] at hq
  · exact va_Fw.of (A := #[Value.ref b]) (hts _ (by decide +kernel)) (hts _ (by decide +kernel)) (hts _ (by decide +kernel)) (hts _ (by decide +kernel)) (hts _ (by decide +kernel))
  · exact va_Fw.of (A := #[Value.ref b]) (hts _ (by decide +kernel)) (hts _ (by decide +kernel)) (hts _ (by decide +kernel)) (hts _ (by decide +kernel)) (hts _ (by decide +kernel))
  · exact vx_Zqof (hts _ (by decide +kernel)) (hts _ (by decide +kernel)) (hs _ (by decide +kernel)) hA
  · exact vx_Zqof (hts _ (by decide +kernel)) (hts _ (by decide +kernel)) (hs _ (by decide +kernel)) hA
  · exact va_Zof (hts _ (by decide +kernel)) (hts _ (by decide +kernel)) (va_eqi (hs _ (by decide +kernel))) hA
  · exact va_Zref (hts _ (by decide +kernel)) (hts _ (by decide +kernel)) htc hA
  · exact va_Zref (hts _ (by decide +kernel)) (hts _ (by decide +kernel)) htd hA
  · obtain ⟨k, hk, e1, e2⟩ := cWo_s he
    subst e1
    exact ⟨⟨vb_c k, e2, hC.1 k hk, hC.2 k hk⟩, by
      obtain ⟨cell, -, -, -, h4⟩ := hC.1 k hk
      exact h4⟩
