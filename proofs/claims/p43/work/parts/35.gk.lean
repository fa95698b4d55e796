theorem gk_F {b : Nat} {s : State} (hts : ∀ w ∈ lw_tbl, w.before #[Value.ref b] s = true) : ∀ q ∈ gnF, va_Nw (.fieldLinkNest q.1 q.2.1 q.2.2.1 q.2.2.2.1 q.2.2.2.2.1 q.2.2.2.2.2) s := by
  have h : ∀ q ∈ gnF, Jvm.Cond.fieldLinkNest q.1 q.2.1 q.2.2.1 q.2.2.2.1 q.2.2.2.2.1 q.2.2.2.2.2 ∈ lw_tbl := by decide +kernel
  exact fun q hq => va_Nw.of rfl (hts _ (h q hq))
theorem gk_M {b : Nat} {s : State} (hts : ∀ w ∈ lw_tbl, w.before #[Value.ref b] s = true) : ∀ q ∈ gnM, va_Nw (.methodLinkNest q.1 q.2.1 q.2.2.1 q.2.2.2) s := by
  have h : ∀ q ∈ gnM, Jvm.Cond.methodLinkNest q.1 q.2.1 q.2.2.1 q.2.2.2 ∈ lw_tbl := by decide +kernel
  exact fun q hq => va_Nw.of rfl (hts _ (h q hq))
theorem gk_C {b : Nat} {s : State} (hts : ∀ w ∈ lw_tbl, w.before #[Value.ref b] s = true) : ∀ q ∈ gcast, va_Nw (.castable q.1 q.2) s := by
  have h : ∀ q ∈ gcast, Jvm.Cond.castable q.1 q.2 ∈ lw_tbl := by decide +kernel
  exact fun q hq => va_Nw.of rfl (hts _ (h q hq))
theorem gk_D {b : Nat} {s : State} (hts : ∀ w ∈ lw_tbl, w.before #[Value.ref b] s = true) : ∀ q ∈ gdecl, va_Nw (.declares q) s := by
  have h : ∀ q ∈ gdecl, Jvm.Cond.declares q ∈ lw_tbl := by decide +kernel
  exact fun q hq => va_Nw.of rfl (hts _ (h q hq))
theorem gk_S {b : Nat} {s : State} (hts : ∀ w ∈ lw_tbl, w.before #[Value.ref b] s = true) {cM : ClassId} (hM : s.vm.findClass "Meniscus" = some cM) : ∀ q ∈ gstr, ∃ sa : Nat, vk_R "Meniscus" q.1 q.2 sa s := by
  have h : ∀ q ∈ gstr, Jvm.Cond.stringRef "Meniscus" q.1 q.2 ∈ lw_tbl := by decide +kernel
  intro q hq
  have h1 := hts _ (h q hq)
  obtain ⟨-, -, -, sa, -, -, -, -, -, hev⟩ := Cond.stringRef_spec hM h1
  exact ⟨sa, vk_R.of h1 hev⟩
theorem gk_nc {b : Nat} {s : State} (hgv : (Jvm.Cond.and given_1 narrow_1).before #[Value.ref b] s = true) : ∀ q ∈ gnc, va_Nc q.1 q.2 s := by
  have hs := flat_of_before _ hgv
  exact (List.forall_mem_cons.mpr ⟨va_Nc.of (hs (.not (.castable "java/lang/IllegalArgumentException" "java/lang/IllegalStateException")) (by decide +kernel)), (List.forall_mem_cons.mpr ⟨va_Nc.of (hs (.not (.castable "java/lang/IllegalArgumentException" "java/lang/IndexOutOfBoundsException")) (by decide +kernel)), (List.forall_mem_cons.mpr ⟨va_Nc.of (hs (.not (.castable "java/lang/IllegalArgumentException" "java/lang/UnsupportedOperationException")) (by decide +kernel)), (List.forall_mem_cons.mpr ⟨va_Nc.of (hs (.not (.castable "java/lang/IllegalArgumentException" "java/util/NoSuchElementException")) (by decide +kernel)), (List.forall_mem_cons.mpr ⟨va_Nc.of (hs (.not (.castable "java/lang/IllegalStateException" "java/lang/IllegalArgumentException")) (by decide +kernel)), (List.forall_mem_cons.mpr ⟨va_Nc.of (hs (.not (.castable "java/lang/IllegalStateException" "java/lang/IndexOutOfBoundsException")) (by decide +kernel)), (List.forall_mem_cons.mpr ⟨va_Nc.of (hs (.not (.castable "java/lang/IllegalStateException" "java/lang/UnsupportedOperationException")) (by decide +kernel)), (List.forall_mem_cons.mpr ⟨va_Nc.of (hs (.not (.castable "java/lang/IllegalStateException" "java/util/NoSuchElementException")) (by decide +kernel)), (List.forall_mem_cons.mpr ⟨va_Nc.of (hs (.not (.castable "java/lang/IndexOutOfBoundsException" "java/lang/IllegalArgumentException")) (by decide +kernel)), (List.forall_mem_cons.mpr ⟨va_Nc.of (hs (.not (.castable "java/lang/IndexOutOfBoundsException" "java/lang/IllegalStateException")) (by decide +kernel)), (List.forall_mem_cons.mpr ⟨va_Nc.of (hs (.not (.castable "java/lang/IndexOutOfBoundsException" "java/lang/UnsupportedOperationException")) (by decide +kernel)), (List.forall_mem_cons.mpr ⟨va_Nc.of (hs (.not (.castable "java/lang/IndexOutOfBoundsException" "java/util/NoSuchElementException")) (by decide +kernel)), (List.forall_mem_cons.mpr ⟨va_Nc.of (hs (.not (.castable "java/lang/UnsupportedOperationException" "java/lang/IllegalArgumentException")) (by decide +kernel)), (List.forall_mem_cons.mpr ⟨va_Nc.of (hs (.not (.castable "java/lang/UnsupportedOperationException" "java/lang/IllegalStateException")) (by decide +kernel)), (List.forall_mem_cons.mpr ⟨va_Nc.of (hs (.not (.castable "java/lang/UnsupportedOperationException" "java/lang/IndexOutOfBoundsException")) (by decide +kernel)), (List.forall_mem_cons.mpr ⟨va_Nc.of (hs (.not (.castable "java/lang/UnsupportedOperationException" "java/util/NoSuchElementException")) (by decide +kernel)), (List.forall_mem_cons.mpr ⟨va_Nc.of (hs (.not (.castable "java/util/NoSuchElementException" "java/lang/IllegalArgumentException")) (by decide +kernel)), (List.forall_mem_cons.mpr ⟨va_Nc.of (hs (.not (.castable "java/util/NoSuchElementException" "java/lang/IllegalStateException")) (by decide +kernel)), (List.forall_mem_cons.mpr ⟨va_Nc.of (hs (.not (.castable "java/util/NoSuchElementException" "java/lang/IndexOutOfBoundsException")) (by decide +kernel)), (List.forall_mem_cons.mpr ⟨va_Nc.of (hs (.not (.castable "java/util/NoSuchElementException" "java/lang/UnsupportedOperationException")) (by decide +kernel)), (fun q hq => nomatch hq)⟩)⟩)⟩)⟩)⟩)⟩)⟩)⟩)⟩)⟩)⟩)⟩)⟩)⟩)⟩)⟩)⟩)⟩)⟩)⟩)
theorem gk_prim {b : Nat} {s : State} {ty : FieldType} (h : (Cond.arrayClass ty).before #[Value.ref b] s = true) : ∃ cA : ClassId, s.vm.findClass ("[" ++ ty.toString) = some cA ∧ ArrOfT s cA ty := by
  obtain ⟨cA, kA, comp, f1, f2, f3⟩ := Cond.arrayClass_spec h
  exact ⟨cA, f1, fun N z => ⟨(fun k h => by cases h), kA, f2, comp, f3⟩⟩
theorem gk_obj {b : Nat} {s : State} {C : String} (h : (Cond.arrayOver (.object C)).before #[Value.ref b] s = true) : ∃ cA : ClassId, va_RA s cA (.object C) ∧ ArrOfT s cA (.object C) := by
  obtain ⟨comp, cA, kA, f1, -, f2, f3, f4⟩ := Cond.arrayOver_spec h
  exact ⟨cA, ⟨kA, comp, f2, f3, f1, f4⟩, fun N z => ⟨(fun k h => by cases h), kA, f2, comp, f3⟩⟩
set_option maxHeartbeats 4000000 in
set_option maxRecDepth 100000 in
theorem GK_at {b L : Nat} {xs : Nat → Int32} {s : State} (hts : ∀ w ∈ lw_tbl, w.before #[Value.ref b] s = true) (hgv : (Jvm.Cond.and given_1 narrow_1).before #[Value.ref b] s = true) (hX : va_X b L xs s s.heap) (hL : L ≤ 260) : ∃ G : mg, GK G (aH s.heap.size) s ∧ G.2.2.2 0 = b := by
  have hs := flat_of_before _ hgv
  have hA : ∀ a : Nat, a < s.heap.size → ¬ aH s.heap.size a := fun a h => Nat.not_le.mpr h
  obtain ⟨c0, i0, hK0⟩ := u_known (C := RX0) (T := TX0) (N := 15) (n := 15) hts wsX00_inT (hts (.instantiable RX0 15) (by decide +kernel))
  obtain ⟨c1, i1, hK1⟩ := u_known (C := RX1) (T := TX1) (N := 3) (n := 3) hts wsX10_inT (hts (.instantiable RX1 3) (by decide +kernel))
  obtain ⟨c2, i2, hK2⟩ := u_known (C := RX2) (T := TX2) (N := 5) (n := 5) hts wsX20_inT (hts (.instantiable RX2 5) (by decide +kernel))
  obtain ⟨c3, i3, hK3⟩ := u_known (C := RX3) (T := TX3) (N := 2) (n := 2) hts wsX30_inT (hts (.instantiable RX3 2) (by decide +kernel))
  obtain ⟨c4, i4, hK4⟩ := u_known (C := RX4) (T := TX4) (N := 9) (n := 9) hts wsX40_inT (hts (.instantiable RX4 9) (by decide +kernel))
  obtain ⟨D, hD⟩ : ∃ D : va_G, ∀ (k : Nat) (q : vw_C), vwCl[k]? = some q → u_Kn s q.1 q.2.1 q.2.2 (D.1 k) (D.2 k) := by
    refine ⟨(fun k => match k with | 0 => c0 | 1 => c1 | 2 => c2 | 3 => c3 | _ => c4, fun k => match k with | 0 => i0 | 1 => i1 | 2 => i2 | 3 => i3 | _ => i4), ?_⟩
    intro k q hq
    match k, hq with
    | 0, hq => cases hq; exact hK0
    | 1, hq => cases hq; exact hK1
    | 2, hq => cases hq; exact hK2
    | 3, hq => cases hq; exact hK3
    | 4, hq => cases hq; exact hK4
    | k + 5, hq => simp [vwCl] at hq
  obtain ⟨a0, ha0, hb0⟩ := gk_prim (hts (.arrayClass .int) (by decide +kernel))
  obtain ⟨a3, ha3, hb3⟩ := gk_obj (C := "Meniscus$Tube") (hts (.arrayOver (.object "Meniscus$Tube")) (by decide +kernel))
  obtain ⟨a4, ha4, hb4⟩ := gk_obj (C := "Meniscus$Instrument") (hts (.arrayOver (.object "Meniscus$Instrument")) (by decide +kernel))
  refine ⟨(D, (fun k => match k with | 0 => a0 | 3 => a3 | _ => a4), xs, (fun k => if k = 0 then b else L)), ⟨hL, ⟨⟨hD, fun k q hq => ?_⟩, gk_F hts, gk_M hts, gk_C hts, gk_nc hgv, gk_S hts (cM := c4) hK4.2.1, trivial, va_AO.of (hts (.arrayOver (.object "Meniscus$Tube")) (by decide +kernel)), va_AO.of (hts (.arrayOver (.object "Meniscus$Instrument")) (by decide +kernel)), trivial, trivial, gk_D hts⟩, ⟨?_, ?_, hX, hA b hX.lt⟩⟩, rfl⟩
  · match k, hq with
    | 0, hq => cases hq; exact ⟨hb0, ha0⟩
    | 1, hq => cases hq; exact ⟨hb0, ha0⟩
    | 2, hq => cases hq; exact ⟨hb0, ha0⟩
    | 3, hq => cases hq; exact ⟨hb3, ha3⟩
    | 4, hq => cases hq; exact ⟨hb4, ha4⟩
    | k + 5, hq => simp [gtys] at hq
  · exact vx_Zqof (hts _ (by decide +kernel)) (hts _ (by decide +kernel)) (hs _ (by decide +kernel)) hA
  · exact vx_Zqof (hts _ (by decide +kernel)) (hts _ (by decide +kernel)) (hs _ (by decide +kernel)) hA
