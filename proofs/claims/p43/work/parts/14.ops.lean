/-! ===== what each call answers, and the state behind it ===== -/
def addT (s : St) (b t : Int32) : St := (s.1, (nT s + 1, fu (boS s) (nT s) (dboU b t 20), fu (usS s) (nT s) 0), s.2.2)
noncomputable def m_draw (s : St) (p0 p1 : Int32) : Nat × Int32 × St := chk (rng p0 1 40) 1 s (chk (rng p1 (-2) 2) 1 s (chk (nT s < 8) 2 s (0, nI (nT s), addT s p0 p1)))
def setB (s : St) (i : Nat) (k v : Int32) : St := (s.1, (nT s, fu (boS s) i (upd (boS s i) (ix k) v), usS s), s.2.2)
noncomputable def m_section (s : St) (p0 p1 p2 : Int32) : Nat × Int32 × St := chk (tok s p0) 1 s (chk (rng p1 0 19) 2 s (chk (rng p2 1 60) 2 s (chk (usS s (ix p0) = 0) 3 s (0, brO (boS s (ix p0)) p1, setB s (ix p0) p1 p2))))
noncomputable def m_bore (s : St) (p0 p1 : Int32) : Nat × Int32 × St := chk (tok s p0) 1 s (chk (rng p1 0 19) 2 s (0, brO (boS s (ix p0)) p1, s))
noncomputable def m_volume (s : St) (p0 p1 : Int32) : Nat × Int32 × St := chk (tok s p0) 1 s (chk (rng p1 0 200) 2 s (0, vsum (boS s (ix p0)) p1 20, s))
noncomputable def thr (s : St) (i : Nat) (p v : Int32) : Int32 := theI (fphR (boS s i) (vsum (boS s i) p 20 + v))
noncomputable def m_thread (s : St) (p0 p1 p2 : Int32) : Nat × Int32 × St := chk (tok s p0) 1 s (chk (rng p1 0 200) 2 s (chk (rng p2 1 99999) 2 s (chk (¬ thr s (ix p0) p1 p2 = -1) 3 s (0, thr s (ix p0) p1 p2, s))))
noncomputable def m_widest (s : St) (p0 : Int32) : Nat × Int32 × St := chk (tok s p0) 1 s (0, wid (boS s (ix p0)) 20, s)
noncomputable def m_deliver (s : St) (p0 p1 p2 p3 : Int32) : Nat × Int32 × St := chk (tok s p0) 1 s (chk (rng p1 0 200) 2 s (chk (rng p2 0 200) 2 s (chk (rng p3 1 999) 2 s (chk (p2 < p1) 2 s (0, vsum (boS s (ix p0)) p1 20 - vsum (boS s (ix p0)) p2 20 - csum (boS s (ix p0)) p2 p1 (cts p3) 20, s)))))
def newI (t b g : Int32) : Nat → Int32
  | 0 => t
  | 1 => b
  | 2 => g
  | 6 => 32
  | 10 => -1
  | 11 => -1
  | 12 => -1
  | 13 => -1
  | 15 => 32
  | _ => 0
def addI (s : St) (t b g : Int32) : St := (s.1, (nT s, boS s, fu (usS s) (ix t) 1), (nN s + 1, fu (itS s) (nN s) (newI t b g)), (fu (rnS s) (nN s) 0, fu (rvS s) (nN s) (fun _ => 0), fu (rhS s) (nN s) (fun _ => 0)))
noncomputable def m_make (s : St) (p0 p1 p2 : Int32) : Nat × Int32 × St := chk (tok s p0) 1 s (chk (rng p1 1000 50000) 2 s (chk (eith p2 104 115) 2 s (chk (usS s (ix p0) = 0) 3 s (chk (nN s < 6) 4 s (0, nI (nN s), addI s p0 p1 p2)))))
noncomputable def m_buy (s : St) (p0 : Int32) : Nat × Int32 × St := chk (rng p0 1 99999) 1 s (0, gS s 2 + p0, sG (sG s 4 (gS s 4 + p0)) 2 (gS s 2 + p0))
def amt (s : St) (i : Nat) (p : Int32) : Int32 := itS s i 1 - itS s i 3 + vsum (boS s (tbN s i)) p 20
abbrev filG (s : St) (i : Nat) (l a : Int32) : Nat → Int32 := fu (fu (fu (itS s i) 4 1) 6 l) 7 a
abbrev filS (s : St) (i : Nat) (l a : Int32) : St := sIt (sG s 2 (if l = 109 then gS s 2 - a else gS s 2)) i (filG s i l a)
noncomputable def m_fill (s : St) (p0 p1 p2 : Int32) : Nat × Int32 × St := chk (iok s p0) 1 s (chk (eith p1 109 115) 2 s (chk (rng p2 0 200) 2 s (chk (itS s (ix p0) 4 = 0) 3 s (chk (itS s (ix p0) 5 = 0) 3 s (chk (p1 = 109 → amt s (ix p0) p2 ≤ gS s 2) 3 s (0, amt s (ix p0) p2, filS s (ix p0) p1 (amt s (ix p0) p2)))))))
def mer (s : St) (i : Nat) : Int32 := if itS s i 6 = 109 then itS s i 7 else 0
abbrev smaG (s : St) (i : Nat) : Nat → Int32 := fu (fu (fu (itS s i) 5 1) 4 0) 7 0
abbrev smaS (s : St) (i : Nat) : St := sIt (sG s 3 (gS s 3 + mer s i)) i (smaG s i)
noncomputable def m_smash (s : St) (p0 : Int32) : Nat × Int32 × St := chk (iok s p0) 1 s (chk (itS s (ix p0) 5 = 0) 2 s (0, itS s (ix p0) 7, smaS s (ix p0)))
noncomputable def m_inside (s : St) (p0 : Int32) : Nat × Int32 × St := chk (iok s p0) 1 s (0, itS s (ix p0) 7, s)
noncomputable def m_crept (s : St) (p0 : Int32) : Nat × Int32 × St := chk (iok s p0) 1 s (0, itS s (ix p0) 3, s)
abbrev creG (s : St) (d i : Nat) : Nat → Int32 := fu (itS s i) 3 (crp (itS s i 1) (itS s i 2) (itS s i 3) d)
abbrev creS (s : St) (d n : Nat) : St := (s.1, s.2.1, (nN s, fun i => if i < n then creG s d i else itS s i), s.2.2.2)
noncomputable def m_days (s : St) (p0 : Int32) : Nat × Int32 × St := chk (rng p0 1 999) 1 s (chk (gS s 1 + p0 ≤ 9999) 2 s (0, gS s 1 + p0, creS (sG s 1 (gS s 1 + p0)) (ix p0) (nN s)))
noncomputable def m_air (s : St) (p0 : Int32) : Nat × Int32 × St := chk (rng p0 (-300) 3000) 1 s (0, gS s 0, sG s 0 p0)
abbrev lvlP (s : St) (i : Nat) (T dip r : Int32) : Prop := lvlR (boS s (tbN s i)) (itS s i 7) (itS s i 1) (itS s i 3) (itS s i 6) (itS s i 2) T dip (gS s 0) r
noncomputable def lvl (s : St) (i : Nat) (T dip : Int32) : Int32 := theI (lvlP s i T dip)
noncomputable def m_level (s : St) (p0 p1 p2 : Int32) : Nat × Int32 × St := chk (iok s p0) 1 s (chk (rng p1 (-300) 3000) 2 s (chk (rng p2 0 200) 2 s (chk (¬ itS s (ix p0) 4 = 0) 3 s (chk (¬ lvl s (ix p0) p1 p2 = -1) 4 s (0, lvl s (ix p0) p1 p2, s)))))
noncomputable def m_ice (s : St) (p0 : Int32) : Nat × Int32 × St := chk (iok s p0) 1 s (chk (¬ itS s (ix p0) 4 = 0) 2 s (chk (¬ lvl s (ix p0) 0 200 = -1) 3 s (0, lvl s (ix p0) 0 200, sIt s (ix p0) (fu (fu (itS s (ix p0)) 12 (lvl s (ix p0) 0 200)) 15 32))))
noncomputable def m_steam (s : St) (p0 p1 : Int32) : Nat × Int32 × St := chk (iok s p0) 1 s (chk (rng p1 700 800) 2 s (chk (¬ itS s (ix p0) 4 = 0) 3 s (chk (¬ lvl s (ix p0) (sta p1) 200 = -1) 4 s (0, sta p1, sIt s (ix p0) (fu (fu (fu (itS s (ix p0)) 13 (lvl s (ix p0) (sta p1) 200)) 14 (sta p1)) 15 32)))))
noncomputable def m_boiling (s : St) (p0 : Int32) : Nat × Int32 × St := chk (rng p0 700 800) 1 s (0, sta p0, s)
noncomputable def m_divide (s : St) (p0 p1 : Int32) : Nat × Int32 × St := chk (iok s p0) 1 s (chk (eith p1 108 118) 2 s (chk (¬ itS s (ix p0) 4 = 0) 3 s (chk (¬ unl (itS s (ix p0) 12) (itS s (ix p0) 13) = 0) 3 s (0, itS s (ix p0) 13 - itS s (ix p0) 12, sIt s (ix p0) (fu (itS s (ix p0)) 15 p1)))))
def rdS (s : St) (i : Nat) (p : Int32) : Int32 := rdg (itS s i 15) (boS s (tbN s i)) (itS s i 12) (itS s i 13) (itS s i 14) p
noncomputable def m_readsAt (s : St) (p0 p1 : Int32) : Nat × Int32 × St := chk (iok s p0) 1 s (chk (rng p1 0 200) 2 s (chk (¬ itS s (ix p0) 15 = 32) 3 s (0, rdS s (ix p0) p1, s)))
def batR (s : St) (i : Nat) (T l : Int32) : Int32 := rdS s i (m_min 200 ((if itS s i 9 = 0 then l else m_max (itS s i 10) l) + (if T ≤ (-200) then 0 else itS s i 8)))
abbrev batG (s : St) (i : Nat) (T l : Int32) : Nat → Int32 := fu (fu (fu (fu (itS s i) 8 (if T ≤ (-200) then 0 else itS s i 8)) 10 (if itS s i 9 = 0 then itS s i 10 else m_max (itS s i 10) l)) 3 (if 2000 < T then itS s i 3 / 2 else itS s i 3)) 11 (if 2000 < T then (-1) else itS s i 11)
abbrev batS (s : St) (i : Nat) (T l : Int32) : St := (s.1, s.2.1, (nN s, fu (itS s) i (batG s i T l)), (fu (rnS s) i (apN (rnS s i)), fu (rvS s) i (apV (rvS s i) (rnS s i) (batR s i T l)), fu (rhS s) i (apV (rhS s i) (rnS s i) T)))
noncomputable def m_bath (s : St) (p0 p1 p2 : Int32) : Nat × Int32 × St := chk (iok s p0) 1 s (chk (rng p1 (-300) 3000) 2 s (chk (rng p2 0 200) 2 s (chk (¬ itS s (ix p0) 4 = 0) 3 s (chk (¬ itS s (ix p0) 15 = 32) 3 s (chk (¬ lvl s (ix p0) p1 p2 = -1) 4 s (0, batR s (ix p0) p1 (lvl s (ix p0) p1 p2), batS s (ix p0) p1 (lvl s (ix p0) p1 p2)))))))
noncomputable def m_error (s : St) (p0 : Int32) : Nat × Int32 × St := chk (iok s p0) 1 s (chk (¬ rnS s (ix p0) = 0) 2 s (0, reS s (ix p0) (rnS s (ix p0) - 1), s))
noncomputable def m_tests (s : St) (p0 : Int32) : Nat × Int32 × St := chk (iok s p0) 1 s (0, nI (rnS s (ix p0)), s)
abbrev begS (s : St) (i : Nat) : St := (s.1, s.2.1, s.2.2.1, (fu (rnS s) i 0, rvS s, rhS s))
noncomputable def m_begin (s : St) (p0 : Int32) : Nat × Int32 × St := chk (iok s p0) 1 s (0, nI (rnS s (ix p0)), begS s (ix p0))
noncomputable def m_worst (s : St) (p0 : Int32) : Nat × Int32 × St := chk (iok s p0) 1 s (chk (¬ rnS s (ix p0) = 0) 2 s (0, gmax (reS s (ix p0)) (rnS s (ix p0)), s))
noncomputable def m_grade (s : St) (p0 : Int32) : Nat × Int32 × St := chk (iok s p0) 1 s (chk (3 ≤ rnS s (ix p0)) 2 s (0, clsE (gmax (reS s (ix p0)) (rnS s (ix p0))), s))
def cerV (s : St) (i : Nat) : Int32 := gS s 1 + (if itS s i 2 = 104 then 360 else 120)
noncomputable def m_certify (s : St) (p0 : Int32) : Nat × Int32 × St := chk (iok s p0) 1 s (chk (3 ≤ rnS s (ix p0)) 2 s (chk (¬ clsE (gmax (reS s (ix p0)) (rnS s (ix p0))) = 88) 2 s (0, cerV s (ix p0), sIt s (ix p0) (fu (itS s (ix p0)) 11 (cerV s (ix p0))))))
noncomputable def m_isCertified (s : St) (p0 : Int32) : Nat × Int32 × St := chk (iok s p0) 1 s (0, crtO (itS s (ix p0) 5) (itS s (ix p0) 11) (gS s 1), s)
noncomputable def m_breakThread (s : St) (p0 p1 : Int32) : Nat × Int32 × St := chk (iok s p0) 1 s (chk (rng p1 1 20) 2 s (chk (¬ itS s (ix p0) 4 = 0) 3 s (0, itS s (ix p0) 8, sIt s (ix p0) (fu (itS s (ix p0)) 8 p1))))
noncomputable def m_isBroken (s : St) (p0 : Int32) : Nat × Int32 × St := chk (iok s p0) 1 s (0, (if itS s (ix p0) 8 ≤ 0 then 0 else 1), s)
noncomputable def m_keep (s : St) (p0 p1 : Int32) : Nat × Int32 × St := chk (iok s p0) 1 s (0, itS s (ix p0) 9, sIt s (ix p0) (fu (fu (itS s (ix p0)) 9 p1) 10 (-1)))
noncomputable def m_shake (s : St) (p0 : Int32) : Nat × Int32 × St := chk (iok s p0) 1 s (chk (¬ itS s (ix p0) 9 = 0) 2 s (chk (¬ itS s (ix p0) 10 = -1) 3 s (0, itS s (ix p0) 10, sIt s (ix p0) (fu (itS s (ix p0)) 10 (-1)))))
noncomputable def m_barometer (s : St) (p0 p1 p2 p3 : Int32) : Nat × Int32 × St := chk (rng p0 6000 8000) 1 s (chk (rng p1 (-20) 40) 1 s (chk (rng p2 9780 9832) 1 s (chk (rng p3 1 60) 1 s (0, (p0 - p0 * 18 * p1 / 100000) * p2 / 9807 + 60 / p3, s))))
/-! ===== the class's cells behind a change ===== -/
theorem CS.sg {G : mg} {s : St} {ad : adr} {M : mw} (h : CS G s ad M) (g : Nat → Int32) : CS G (g, s.2) ad (mu M (ad 0 0) (.inr (4, [.ref (ad 1 0), .ref (ad 2 0), .int (nI (nT s)), .int (nI (nN s)), .int (g 0), .int (g 1), .int (g 2), .int (g 3), .int (g 4)]))) := by
  refine h.put (s1 := (g, s.2)) (ok0 s) rfl rfl rfl (fun k' i' hk hn => ?_)
  match k', hk, hn with
  | 0, hk, hn =>
    rcases hk with ⟨-, rfl⟩ | ⟨q, -⟩ | ⟨q, -⟩
    · exact absurd ⟨rfl, rfl⟩ hn
    · omega
    · omega
  | 1, _, _ | 2, _, _ | 3, _, _ | 4, _, _ | 5, _, _ | 6, _, _ | 7, _, _ | 8, _, _ | (k + 9), _, _ => rfl
theorem fu_o {α : Type} {f : Nat → α} {k j : Nat} {x : α} (h : ¬ j = k) : fu f k x j = f j := if_neg h
theorem cI_s {s s1 : St} {ad : adr} {i : Nat} {g : Nat → Int32} (e : itS s1 i = g) (h0 : g 0 = itS s i 0) : cI s1 ad i = .inr (0, [.int (g 0), .ref (ad 3 (tbN s i)), .int (g 1), .int (g 2), .ref (ad 6 i), .ref (ad 7 i), .int (g 3), .int (g 4), .int (g 5), .int (g 6), .int (g 7), .int (g 8), .int (g 9), .int (g 10), .int (g 11)]) := by
  unfold cI tbN
  rw [e, h0]
theorem cSc_s {s s1 : St} {ad : adr} {i : Nat} {g : Nat → Int32} (e : itS s1 i = g) (h0 : g 0 = itS s i 0) : cSc s1 ad i = .inr (2, [.ref (ad 3 (tbN s i)), .int (g 12), .int (g 13), .int (g 14), .int (g 15)]) := by
  unfold cSc tbN
  rw [e, h0]
theorem cI_o {s s1 : St} {ad : adr} {i : Nat} (e : ∀ f, f < 12 → itS s1 i f = itS s i f) : cI s1 ad i = cI s ad i := by
  unfold cI tbN
  rw [e 0 (by omega), e 1 (by omega), e 2 (by omega), e 3 (by omega), e 4 (by omega), e 5 (by omega), e 6 (by omega), e 7 (by omega), e 8 (by omega), e 9 (by omega), e 10 (by omega), e 11 (by omega)]
theorem cSc_o {s s1 : St} {ad : adr} {i : Nat} (h0 : itS s1 i 0 = itS s i 0) (e : itS s1 i 12 = itS s i 12 ∧ itS s1 i 13 = itS s i 13 ∧ itS s1 i 14 = itS s i 14 ∧ itS s1 i 15 = itS s i 15) : cSc s1 ad i = cSc s ad i := by
  unfold cSc tbN
  rw [h0, e.1, e.2.1, e.2.2.1, e.2.2.2]
theorem cel_0 (G : mg) (s : St) (ad : adr) (i : Nat) : cel G s ad 0 i = .inr (4, [.ref (ad 1 0), .ref (ad 2 0), .int (nI (nT s)), .int (nI (nN s)), .int (gS s 0), .int (gS s 1), .int (gS s 2), .int (gS s 3), .int (gS s 4)]) := rfl
theorem cel_1 (G : mg) (s : St) (ad : adr) (i : Nat) : cel G s ad 1 i = .inl (G.2.1 3, 8, .inr (.inr (.inr (.inr (qf (nT s) (ad 3)))))) := rfl
theorem cel_2 (G : mg) (s : St) (ad : adr) (i : Nat) : cel G s ad 2 i = .inl (G.2.1 4, 6, .inr (.inr (.inr (.inr (qf (nN s) (ad 5)))))) := rfl
theorem cel_3 (G : mg) (s : St) (ad : adr) (i : Nat) : cel G s ad 3 i = .inr (3, [.ref (ad 4 i), .int (usS s i)]) := rfl
theorem cel_4 (G : mg) (s : St) (ad : adr) (i : Nat) : cel G s ad 4 i = .inl (G.2.1 0, 20, .inl (boS s i)) := rfl
theorem cel_7 (G : mg) (s : St) (ad : adr) (i : Nat) : cel G s ad 7 i = .inr (1, [.ref (ad 8 i), .ref (ad 9 i), .int (nI (rnS s i))]) := rfl
theorem cel_8 (G : mg) (s : St) (ad : adr) (i : Nat) : cel G s ad 8 i = .inl (G.2.1 0, 8, .inl (rvS s i)) := rfl
theorem cel_9 (G : mg) (s : St) (ad : adr) (k i : Nat) : cel G s ad (k + 9) i = .inl (G.2.1 0, 8, .inl (reS s i)) := rfl
theorem cel_5 (G : mg) (s : St) (ad : adr) (i : Nat) : cel G s ad 5 i = cI s ad i := rfl
theorem cel_6 (G : mg) (s : St) (ad : adr) (i : Nat) : cel G s ad 6 i = cSc s ad i := rfl
theorem sit5_o (G : mg) (s : St) (ad : adr) (i : Nat) (g : Nat → Int32) (h0 : g 0 = itS s i 0) (hg : g 12 = itS s i 12 ∧ g 13 = itS s i 13 ∧ g 14 = itS s i 14 ∧ g 15 = itS s i 15) (k' i' : Nat) (hn : ¬ (k' = 5 ∧ i' = i)) : cel G (sIt s i g) ad k' i' = cel G s ad k' i' := by
  match k', hn with
  | 0, _ => rw [cel_0, cel_0]
  | 1, _ => rw [cel_1, cel_1]
  | 2, _ => rw [cel_2, cel_2]
  | 3, _ => rw [cel_3, cel_3]
  | 4, _ => rw [cel_4, cel_4]
  | 7, _ => rw [cel_7, cel_7]
  | 8, _ => rw [cel_8, cel_8]
  | (k + 9), _ => rw [cel_9, cel_9]
  | 5, hn =>
    have e2 : itS (sIt s i g) i' = itS s i' := fu_o (fun q : i' = i => hn ⟨rfl, q⟩)
    rw [cel_5, cel_5]; exact cI_o (fun f _ => congrFun e2 f)
  | 6, _ =>
    rw [cel_6, cel_6]
    by_cases q : i' = i
    · subst q
      have e : itS (sIt s i' g) i' = g := fu_s
      exact cSc_o ((congrFun e 0).trans h0) ⟨(congrFun e 12).trans hg.1, (congrFun e 13).trans hg.2.1, (congrFun e 14).trans hg.2.2.1, (congrFun e 15).trans hg.2.2.2⟩
    · have e2 : itS (sIt s i g) i' = itS s i' := fu_o q
      exact cSc_o (congrFun e2 0) ⟨congrFun e2 12, congrFun e2 13, congrFun e2 14, congrFun e2 15⟩
theorem sit6_o (G : mg) (s : St) (ad : adr) (i : Nat) (g : Nat → Int32) (hg : ∀ f, f < 12 → g f = itS s i f) (k' i' : Nat) (hn : ¬ (k' = 6 ∧ i' = i)) : cel G (sIt s i g) ad k' i' = cel G s ad k' i' := by
  match k', hn with
  | 0, _ => rw [cel_0, cel_0]
  | 1, _ => rw [cel_1, cel_1]
  | 2, _ => rw [cel_2, cel_2]
  | 3, _ => rw [cel_3, cel_3]
  | 4, _ => rw [cel_4, cel_4]
  | 7, _ => rw [cel_7, cel_7]
  | 8, _ => rw [cel_8, cel_8]
  | (k + 9), _ => rw [cel_9, cel_9]
  | 6, hn =>
    have e2 : itS (sIt s i g) i' = itS s i' := fu_o (fun q : i' = i => hn ⟨rfl, q⟩)
    rw [cel_6, cel_6]; exact cSc_o (congrFun e2 0) ⟨congrFun e2 12, congrFun e2 13, congrFun e2 14, congrFun e2 15⟩
  | 5, _ =>
    rw [cel_5, cel_5]
    by_cases q : i' = i
    · subst q
      have e : itS (sIt s i' g) i' = g := fu_s
      exact cI_o (fun f hf => (congrFun e f).trans (hg f hf))
    · have e2 : itS (sIt s i g) i' = itS s i' := fu_o q
      exact cI_o (fun f _ => congrFun e2 f)
theorem sit5_e (G : mg) (s : St) (ad : adr) (i : Nat) (g : Nat → Int32) (h0 : g 0 = itS s i 0) : .inr (0, [.int (g 0), .ref (ad 3 (tbN s i)), .int (g 1), .int (g 2), .ref (ad 6 i), .ref (ad 7 i), .int (g 3), .int (g 4), .int (g 5), .int (g 6), .int (g 7), .int (g 8), .int (g 9), .int (g 10), .int (g 11)]) = cel G (sIt s i g) ad 5 i := by
  have e : itS (sIt s i g) i = g := fu_s
  show _ = cI (sIt s i g) ad i
  exact (cI_s e h0).symm
theorem sit6_e (G : mg) (s : St) (ad : adr) (i : Nat) (g : Nat → Int32) (h0 : g 0 = itS s i 0) : .inr (2, [.ref (ad 3 (tbN s i)), .int (g 12), .int (g 13), .int (g 14), .int (g 15)]) = cel G (sIt s i g) ad 6 i := by
  have e : itS (sIt s i g) i = g := fu_s
  show _ = cSc (sIt s i g) ad i
  exact (cSc_s e h0).symm
theorem CS.sit5 {G : mg} {s : St} {ad : adr} {M : mw} (h : CS G s ad M) {i : Nat} (hi : i < nN s) (g : Nat → Int32) (h0 : g 0 = itS s i 0) (hg : g 12 = itS s i 12 ∧ g 13 = itS s i 13 ∧ g 14 = itS s i 14 ∧ g 15 = itS s i 15) : CS G (sIt s i g) ad (mu M (ad 5 i) (.inr (0, [.int (g 0), .ref (ad 3 (tbN s i)), .int (g 1), .int (g 2), .ref (ad 6 i), .ref (ad 7 i), .int (g 3), .int (g 4), .int (g 5), .int (g 6), .int (g 7), .int (g 8), .int (g 9), .int (g 10), .int (g 11)]))) :=
  h.put (s1 := sIt s i g) (ok5 hi) rfl rfl (sit5_e G s ad i g h0) (fun k' i' _ hn => sit5_o G s ad i g h0 hg k' i' hn)
theorem CS.sit6 {G : mg} {s : St} {ad : adr} {M : mw} (h : CS G s ad M) {i : Nat} (hi : i < nN s) (g : Nat → Int32) (hg : ∀ f, f < 12 → g f = itS s i f) : CS G (sIt s i g) ad (mu M (ad 6 i) (.inr (2, [.ref (ad 3 (tbN s i)), .int (g 12), .int (g 13), .int (g 14), .int (g 15)]))) :=
  h.put (s1 := sIt s i g) (ok6 hi) rfl rfl (sit6_e G s ad i g (hg 0 (by omega))) (fun k' i' _ hn => sit6_o G s ad i g hg k' i' hn)
theorem CS.sbo {G : mg} {s : St} {ad : adr} {M : mw} (h : CS G s ad M) {i : Nat} (hi : i < nT s) (k v : Int32) : CS G (setB s i k v) ad (mu M (ad 4 i) (.inl (G.2.1 0, 20, .inl (upd (boS s i) (ix k) v)))) := by
  refine h.put (s1 := setB s i k v) (ok4 hi) rfl rfl (by simp only [cel, boS, setB, fu_s]) (fun k' i' hk hn => ?_)
  match k', hk, hn with
  | 0, _, _ | 1, _, _ | 2, _, _ | 3, _, _ | 5, _, _ | 6, _, _ | 7, _, _ | 8, _, _ | (k + 9), _, _ => rfl
  | 4, _, hn => simp only [cel, boS, setB, fu_o (fun q : i' = i => hn ⟨rfl, q⟩)]
theorem CS.srn {G : mg} {s : St} {ad : adr} {M : mw} (h : CS G s ad M) {i : Nat} (hi : i < nN s) : CS G (begS s i) ad (mu M (ad 7 i) (.inr (1, [.ref (ad 8 i), .ref (ad 9 i), .int 0]))) := by
  refine h.put (s1 := begS s i) (ok7 hi) rfl rfl (by simp only [cel, rnS, fu_s]; rfl) (fun k' i' hk hn => ?_)
  match k', hk, hn with
  | 0, _, _ | 1, _, _ | 2, _, _ | 3, _, _ | 4, _, _ | 5, _, _ | 6, _, _ | 8, _, _ | (k + 9), _, _ => rfl
  | 7, _, hn => simp only [cel, rnS, fu_o (fun q : i' = i => hn ⟨rfl, q⟩)]
theorem apV_sub (f g : Nat → Int32) (n : Nat) (x y : Int32) : (fun j => apV f n x j - apV g n y j) = apV (fun j => f j - g j) n (x - y) := by
  funext j
  unfold apV
  by_cases h : n < 8
  · simp only [if_pos h, upd]
    by_cases q : j = n
    · simp [q]
    · simp [q]
  · simp only [if_neg h, upd]
    by_cases q : j = 7
    · simp [q]
    · simp only [q, if_false, losU]
      by_cases z : j + 1 < 8
      · simp [z]
      · simp [z]
theorem reS_bat (s : St) (i : Nat) (T l : Int32) : reS (batS s i T l) i = apV (reS s i) (rnS s i) (batR s i T l - T) := by
  rw [← apV_sub]
  funext j
  show (fu (rvS s) i (apV (rvS s i) (rnS s i) (batR s i T l))) i j - (fu (rhS s) i (apV (rhS s i) (rnS s i) T)) i j = _
  rw [fu_s, fu_s]
theorem reS_bat_o (s : St) {i i' : Nat} (T l : Int32) (h : ¬ i' = i) : reS (batS s i T l) i' = reS s i' := by
  funext j
  show (fu (rvS s) i (apV (rvS s i) (rnS s i) (batR s i T l))) i' j - (fu (rhS s) i (apV (rhS s i) (rnS s i) T)) i' j = _
  rw [fu_o h, fu_o h]
set_option maxRecDepth 100000 in
/-- behind a bath -/
theorem CS.sba {G : mg} {s : St} {ad : adr} {M : mw} (h : CS G s ad M) {i : Nat} (hi : i < nN s) (T l : Int32) (g : Nat → Int32) (hgg : g = batG s i T l) : CS G (batS s i T l) ad (mu (mu (mu (mu M (ad 5 i) (.inr (0, [.int (g 0), .ref (ad 3 (tbN s i)), .int (g 1), .int (g 2), .ref (ad 6 i), .ref (ad 7 i), .int (g 3), .int (g 4), .int (g 5), .int (g 6), .int (g 7), .int (g 8), .int (g 9), .int (g 10), .int (g 11)]))) (ad 8 i) (.inl (G.2.1 0, 8, .inl (apV (rvS s i) (rnS s i) (batR s i T l))))) (ad 9 i) (.inl (G.2.1 0, 8, .inl (apV (reS s i) (rnS s i) (batR s i T l - T))))) (ad 7 i) (.inr (1, [.ref (ad 8 i), .ref (ad 9 i), .int (nI (apN (rnS s i)))]))) := by
  subst hgg
  have n57 := h.ne (ok5 hi) (ok7 hi) (by omega)
  have n58 := h.ne (ok5 hi) (ok8 hi) (by omega)
  have n59 := h.ne (ok5 hi) (ok9 hi) (by omega)
  have n87 := h.ne (ok8 hi) (ok7 hi) (by omega)
  have n89 := h.ne (ok8 hi) (ok9 hi) (by omega)
  have n97 := h.ne (ok9 hi) (ok7 hi) (by omega)
  refine h.puts rfl rfl [(5, i), (8, i), (9, i), (7, i)] (fun q hq => ?_) (fun x hx => ?_) (fun q hq => ?_) (fun k' i' hk hn => ?_)
  · simp only [List.mem_cons, List.not_mem_nil, or_false] at hq
    rcases hq with rfl | rfl | rfl | rfl
    · show mu _ _ _ (ad 5 i) = _
      rw [mu_n n57, mu_n n59, mu_n n58, mu_s]
      exact congrArg some (cI_s (s := s) (s1 := batS s i T l) (g := batG s i T l) fu_s rfl).symm
    · show mu _ _ _ (ad 8 i) = _
      rw [mu_n n87, mu_n n89, mu_s]
      simp only [cel, rvS, fu_s]
    · show mu _ _ _ (ad 9 i) = _
      rw [mu_n n97, mu_s]
      exact congrArg (fun f => some (Sum.inl (G.2.1 0, 8, Sum.inl f))) (reS_bat s i T l).symm
    · show mu _ _ _ (ad 7 i) = _
      rw [mu_s]
      simp only [cel, rnS, fu_s]
  · rw [mu_n (hx (7, i) (by simp)), mu_n (hx (9, i) (by simp)), mu_n (hx (8, i) (by simp)), mu_n (hx (5, i) (by simp))]
  · simp only [List.mem_cons, List.not_mem_nil, or_false] at hq
    rcases hq with rfl | rfl | rfl | rfl
    · exact ok5 hi
    · exact ok8 hi
    · exact ok9 hi
    · exact ok7 hi
  · simp only [List.mem_cons, List.not_mem_nil, or_false, not_or, Prod.mk.injEq, not_and] at hn
    match k', hk, hn with
    | 0, _, _ | 1, _, _ | 2, _, _ | 3, _, _ | 4, _, _ => rfl
    | 5, _, hn =>
      have e2 : itS (batS s i T l) i' = itS s i' := fu_o (hn.1 rfl)
      exact cI_o (fun f _ => congrFun e2 f)
    | 6, _, _ =>
      by_cases q : i' = i
      · subst q
        have e2 : itS (batS s i' T l) i' = batG s i' T l := fu_s
        exact cSc_o (congrFun e2 0) ⟨congrFun e2 12, congrFun e2 13, congrFun e2 14, congrFun e2 15⟩
      · have e2 : itS (batS s i T l) i' = itS s i' := fu_o q
        exact cSc_o (congrFun e2 0) ⟨congrFun e2 12, congrFun e2 13, congrFun e2 14, congrFun e2 15⟩
    | 7, _, hn => simp only [cel, rnS, fu_o (hn.2.2.2 rfl)]
    | 8, _, hn => simp only [cel, rvS, fu_o (hn.2.1 rfl)]
    | 9, _, hn => exact congrArg (fun f => Sum.inl (G.2.1 0, 8, Sum.inl f)) (reS_bat_o s T l (hn.2.2.1 rfl))
    | (k + 10), hk, _ =>
      rcases hk with ⟨q, -⟩ | ⟨q, -⟩ | ⟨-, q, -⟩ <;> omega
