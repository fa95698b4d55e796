/-! ===== calls from a wrapper: the callee sees its own side alone ===== -/
theorem CS.out {G : mg} {s : St} {ad : adr} {M : mw} {o : Nat} {e : va_E} (h : CS G s ad M) (hn : M o = none) : CS G s ad (mu M o e) :=
  ⟨fun k i q => (mu_n (fun z => by rw [← z, h.1 k i q] at hn; cases hn)).trans (h.1 k i q), h.2⟩
abbrev aN (A : Nat → Prop) (o : Nat) : Nat → Prop := fun q => A q ∧ q ≠ o
theorem mu_q {M : mw} {o a : Nat} {e x : va_E} (hn : M o = none) (h : M a = some x) : mu M o e a = some x := mu_k (fun z => by rw [z, hn] at h; cases h) h
theorem mP_dn {D : va_G} {M : mw} {H : Heap} {o : Nat} {e : va_E} (hn : M o = none) (h : mP D (mu M o e) H) : mP D M H := fun a x hx => h a x (mu_q hn hx)
theorem mI_dn {A : Nat → Prop} {M : mw} {o : Nat} {e : va_E} (hn : M o = none) (h : mI A (mu M o e)) : mI (aN A o) M := fun a x hx => ⟨h a x (mu_q hn hx), fun z => by rw [z, hn] at hx; cases hx⟩
theorem mI_o {A : Nat → Prop} {M : mw} {o : Nat} (h : mI (aN A o) M) : M o = none := by
  cases e : M o with
  | none => rfl
  | some x => exact absurd rfl (h o x e).2
theorem mI_up {A : Nat → Prop} {M : mw} {o : Nat} {e : va_E} (h : mI (aN A o) M) (ho : A o) : mI A (mu M o e) := fun a x hx => by
  by_cases z : a = o
  · rw [z]
    exact ho
  · rw [mu_n z] at hx
    exact (h a x hx).1
theorem mP_up {D : va_G} {M : mw} {H H1 : Heap} {o : Nat} {e : va_E} (h : mP D M H1) (ho : va_at D vwCl (o, e) H) (hk : H1[o]? = H[o]?) : mP D (mu M o e) H1 := fun a x hx => by
  by_cases z : a = o
  · subst z
    rw [mu_s] at hx
    cases hx
    exact ho.kept hk
  · rw [mu_n z] at hx
    exact h a x hx
theorem GK_aN {G : mg} {A : Nat → Prop} {s : State} {o : Nat} (h : GK G A s) : GK G (aN A o) s := ⟨h.1, h.2.1, GKh.narrow h.2.2 (fun _ q => q.1)⟩
section MW
variable {p : Program} {l : Launch} {e : Env} {R : Room} {s : State} {m : MethodId} {args : Array Value} {below : List Frame} {meth : Method} {c : Code} {H : Heap} {locs : List Loc} {cells slots : Nat} {Q : State → Prop}
variable {cc : ByteArray} {pc : Nat} {ls : Array Slot} {rest st0 : List Value} {a : Array Value} {A : Nat → Prop} {mc ms : Nat} {G : mg} {M : mw} {o : Nat} {eo : va_E} {D : va_G} {tys : List (ClassId × FieldType)} {H0 : Heap} {b : Nat}
theorem m_last (hexec : p.tables.exec = Jvm.exec) (hb : c.code = cc) (hK : va_K D vwCl tys s) (hP : mP D M H) (hI : mI A M) (hS : va_S A H0 H locs) (t0 : Nat) {cA : ClassId} {n : Nat} {f : Nat → Int64} (ha : M b = some (.inl (cA, n, .inr (.inl f)))) (ht : tys[t0]? = some (cA, .long)) {i : Int32} {x : Int64} (hin : vp_in i n) (hdg : decode cc pc = .ok (.lastore, 1))
    (kk : ∀ (H1 : Heap) (locs1 : List Loc), mP D (mu M b (.inl (cA, n, .inr (.inl (vf_upd f i.toNatClampNeg x))))) H1 → mI A (mu M b (.inl (cA, n, .inr (.inl (vf_upd f i.toNatClampNeg x))))) → va_S A H0 H1 locs1 → W p l e R s m args below meth c H1 locs1 cells slots Q (F0 m (pc + 1) ls rest)) : W p l e R s m args below meth c H locs cells slots Q (F0 m pc ls (.long x :: .int i :: .ref b :: rest)) := by
  obtain ⟨ws, hL, hPw, hDw⟩ := mL_ex hP
  obtain ⟨q0, hq0⟩ := hL.1 b _ ha
  exact va_last hexec hb hK hPw (hDw A hI) hS q0 t0 hq0 ht hin hdg (fun H1 locs1 h1 _ h3 => kk H1 locs1 (hL.set hq0 h1) (hI.mu (hI b _ ha)) h3)
theorem m_dast (hexec : p.tables.exec = Jvm.exec) (hb : c.code = cc) (hK : va_K D vwCl tys s) (hP : mP D M H) (hI : mI A M) (hS : va_S A H0 H locs) (t0 : Nat) {cA : ClassId} {n : Nat} {f : Nat → UInt64} (ha : M b = some (.inl (cA, n, .inr (.inr (.inr (.inl f)))))) (ht : tys[t0]? = some (cA, .double)) {i : Int32} {x : UInt64} (hin : vp_in i n) (hdg : decode cc pc = .ok (.dastore, 1))
    (kk : ∀ (H1 : Heap) (locs1 : List Loc), mP D (mu M b (.inl (cA, n, .inr (.inr (.inr (.inl (vf_upd f i.toNatClampNeg x))))))) H1 → mI A (mu M b (.inl (cA, n, .inr (.inr (.inr (.inl (vf_upd f i.toNatClampNeg x))))))) → va_S A H0 H1 locs1 → W p l e R s m args below meth c H1 locs1 cells slots Q (F0 m (pc + 1) ls rest)) : W p l e R s m args below meth c H locs cells slots Q (F0 m pc ls (.double x :: .int i :: .ref b :: rest)) := by
  obtain ⟨ws, hL, hPw, hDw⟩ := mL_ex hP
  obtain ⟨q0, hq0⟩ := hL.1 b _ ha
  exact va_dast hexec hb hK hPw (hDw A hI) hS q0 t0 hq0 ht hin hdg (fun H1 locs1 h1 _ h3 => kk H1 locs1 (hL.set hq0 h1) (hI.mu (hI b _ ha)) h3)
theorem mn_calli {px : String → Prop} {post : Int32 → mw → Prop} (hr : vx_Run p l e R s m args below meth c H locs cells slots mc ms (F0 m pc ls st0) rest (va_Qi post (mE G (aN A o)) (aN A o) a) (xX px G (aN A o) M) (aN A o)) (hP : mP G.1 (mu M o eo) H) (hI : mI A (mu M o eo)) (hS : va_S A s.heap H locs)
    (kx : ∀ (E : String) (ce : Cell) (q9 : Addr) (H1 : Heap) (locs1 : List Loc), px E → mP G.1 (mu M o eo) H1 → va_S A s.heap H1 locs1 → H1[q9]? = some ce → ce.vm = .none → s.vm.findClass E = some ce.cls → vx_W p l e R s m args below meth c H1 locs1 (cells + mc) (slots + ms) Q (F0 m pc ls rest) q9)
    (kk : ∀ (r : Int32) (M1 : mw) (H1 : Heap) (locs1 : List Loc), post r M1 → M1 o = none → mP G.1 (mu M1 o eo) H1 → mI A (mu M1 o eo) → va_S A s.heap H1 locs1 → W p l e R s m args below meth c H1 locs1 (cells + mc) (slots + ms) Q (F0 m (pc + 3) ls (.int r :: rest))) : W p l e R s m args below meth c H locs cells slots Q (F0 m pc ls st0) :=
  have ho := hP o eo mu_s
  have hAo : A o := hI o eo mu_s
  vx_calli hr hS (fun _ _ h => h.1) (fun _ h => h.1) (fun _ _ h => h.1) (fun E ce q9 u t H1 locs1 ht _ hp hB _ hk hS1 h1 h2 h3 => kx E ce q9 H1 locs1 (by rw [hB.1]; exact hp) (mP_up (by rw [← ht]; exact hB.2.1) ho (hk o ho.lt (fun q => q.2 rfl))) hS1 h1 h2 h3) (fun r u t H1 locs1 ht _ hp hB _ hk hS1 => kk r u H1 locs1 hp (mI_o hB.2) (mP_up (by rw [← ht]; exact hB.1) ho (hk o ho.lt (fun q => q.2 rfl))) (mI_up hB.2 hAo) hS1)
theorem mn_callf {px : String → Prop} {post : UInt32 → mw → Prop} (hr : vx_Run p l e R s m args below meth c H locs cells slots mc ms (F0 m pc ls st0) rest (va_Qf post (mE G (aN A o)) (aN A o) a) (xX px G (aN A o) M) (aN A o)) (hP : mP G.1 (mu M o eo) H) (hI : mI A (mu M o eo)) (hS : va_S A s.heap H locs)
    (kx : ∀ (E : String) (ce : Cell) (q9 : Addr) (H1 : Heap) (locs1 : List Loc), px E → mP G.1 (mu M o eo) H1 → va_S A s.heap H1 locs1 → H1[q9]? = some ce → ce.vm = .none → s.vm.findClass E = some ce.cls → vx_W p l e R s m args below meth c H1 locs1 (cells + mc) (slots + ms) Q (F0 m pc ls rest) q9)
    (kk : ∀ (r : UInt32) (M1 : mw) (H1 : Heap) (locs1 : List Loc), post r M1 → M1 o = none → mP G.1 (mu M1 o eo) H1 → mI A (mu M1 o eo) → va_S A s.heap H1 locs1 → W p l e R s m args below meth c H1 locs1 (cells + mc) (slots + ms) Q (F0 m (pc + 3) ls (.float r :: rest))) : W p l e R s m args below meth c H locs cells slots Q (F0 m pc ls st0) :=
  have ho := hP o eo mu_s
  have hAo : A o := hI o eo mu_s
  vx_callf hr hS (fun _ _ h => h.1) (fun _ h => h.1) (fun _ _ h => h.1) (fun E ce q9 u t H1 locs1 ht _ hp hB _ hk hS1 h1 h2 h3 => kx E ce q9 H1 locs1 (by rw [hB.1]; exact hp) (mP_up (by rw [← ht]; exact hB.2.1) ho (hk o ho.lt (fun q => q.2 rfl))) hS1 h1 h2 h3) (fun r u t H1 locs1 ht _ hp hB _ hk hS1 => kk r u H1 locs1 hp (mI_o hB.2) (mP_up (by rw [← ht]; exact hB.1) ho (hk o ho.lt (fun q => q.2 rfl))) (mI_up hB.2 hAo) hS1)
theorem mn_calld {px : String → Prop} {post : UInt64 → mw → Prop} (hr : vx_Run p l e R s m args below meth c H locs cells slots mc ms (F0 m pc ls st0) rest (va_Qd post (mE G (aN A o)) (aN A o) a) (xX px G (aN A o) M) (aN A o)) (hP : mP G.1 (mu M o eo) H) (hI : mI A (mu M o eo)) (hS : va_S A s.heap H locs)
    (kx : ∀ (E : String) (ce : Cell) (q9 : Addr) (H1 : Heap) (locs1 : List Loc), px E → mP G.1 (mu M o eo) H1 → va_S A s.heap H1 locs1 → H1[q9]? = some ce → ce.vm = .none → s.vm.findClass E = some ce.cls → vx_W p l e R s m args below meth c H1 locs1 (cells + mc) (slots + ms) Q (F0 m pc ls rest) q9)
    (kk : ∀ (r : UInt64) (M1 : mw) (H1 : Heap) (locs1 : List Loc), post r M1 → M1 o = none → mP G.1 (mu M1 o eo) H1 → mI A (mu M1 o eo) → va_S A s.heap H1 locs1 → W p l e R s m args below meth c H1 locs1 (cells + mc) (slots + ms) Q (F0 m (pc + 3) ls (.double r :: rest))) : W p l e R s m args below meth c H locs cells slots Q (F0 m pc ls st0) :=
  have ho := hP o eo mu_s
  have hAo : A o := hI o eo mu_s
  vx_calld hr hS (fun _ _ h => h.1) (fun _ h => h.1) (fun _ _ h => h.1) (fun E ce q9 u t H1 locs1 ht _ hp hB _ hk hS1 h1 h2 h3 => kx E ce q9 H1 locs1 (by rw [hB.1]; exact hp) (mP_up (by rw [← ht]; exact hB.2.1) ho (hk o ho.lt (fun q => q.2 rfl))) hS1 h1 h2 h3) (fun r u t H1 locs1 ht _ hp hB _ hk hS1 => kk r u H1 locs1 hp (mI_o hB.2) (mP_up (by rw [← ht]; exact hB.1) ho (hk o ho.lt (fun q => q.2 rfl))) (mI_up hB.2 hAo) hS1)
end MW
/-- a refused call changes nothing -/
theorem chk_ref {P : Prop} {k : Nat} {s : St} {r : Nat × Int32 × St} (h : r.1 ≠ 0 → r.2.2 = s) : (chk P k s r).1 ≠ 0 → (chk P k s r).2.2 = s := by
  by_cases q : P
  · rw [chk_p q]
    exact h
  · rw [chk_n q]
    exact fun _ => rfl
theorem ref_0 {x : Int32} {s s1 : St} : ((0, x, s1) : Nat × Int32 × St).1 ≠ 0 → ((0, x, s1) : Nat × Int32 × St).2.2 = s := fun h => absurd rfl h
