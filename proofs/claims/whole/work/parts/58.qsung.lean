/-! THE CLASS: sung, mended (by p58.py) -/
theorem sg_of_ms {I : Nat → Int} {F : Nat → Int → Int} {d : Nat} {c w : Int} {f : Int → Int} {p : Int × Int} (h : ms (F 3) (F 4) (F 5) d c w (0, 0) = some p) : ∃ t, sg I F d c w (0, f, 0) = some t ∧ t.1 = p.1 ∧ t.2.2 = p.2 := by
  have h1 := sg_ms I F d c w (0, f, 0)
  change _ = ms (F 3) (F 4) (F 5) d c w (0, 0) at h1
  rw [h] at h1
  cases h2 : sg I F d c w (0, f, 0) with
  | none => rw [h2] at h1; cases h1
  | some t =>
    rw [h2] at h1
    have h3 : csP t = p := Option.some.inj h1
    exact ⟨t, rfl, by rw [← h3]; rfl, by rw [← h3]; rfl⟩
theorem sg_no_ms {I : Nat → Int} {F : Nat → Int → Int} {d : Nat} {c w : Int} {f : Int → Int} : sg I F d c w (0, f, 0) = none ↔ ms (F 3) (F 4) (F 5) d c w (0, 0) = none := by
  have h1 := sg_ms I F d c w (0, f, 0)
  change _ = ms (F 3) (F 4) (F 5) d c w (0, 0) at h1
  rw [← h1]
  cases sg I F d c w (0, f, 0) with
  | none => exact ⟨fun _ => rfl, fun _ => rfl⟩
  | some t => exact ⟨fun z => (by cases z), fun z => (by cases z)⟩
theorem edL_edM {I : Nat → Int} {F : Nat → Int → Int} {rec : Int → Int → CS → Option CS} {rec2 : Int → Int → Int × Int → Option (Int × Int)} (h : ∀ c w t, (rec c w t).map csP = rec2 c w (csP t)) (c wide : Int) : ∀ (n : Nat) (s : Int) (t : CS) (e : Int → Int), edL I F rec c 0 wide n s t e = edM (F 5) (F 4) rec2 c 0 wide n s (csP t) e := by
  intro n
  induction n with
  | zero => intro s t e; rfl
  | succ n ih =>
    intro s t e
    have h1 := sgS_ms (I := I) (F := F) h (12 * c + s) 0 wide t
    unfold edL edM
    rw [← h1]
    cases sgS I F rec (12 * c + s) 0 wide t with
    | none => rfl
    | some t1 =>
      show edL I F rec c 0 wide n (s + 1) t1 (fu e s t1.1) = edM (F 5) (F 4) rec2 c 0 wide n (s + 1) (csP t1) (fu e s ((csP t1).1 - 0))
      rw [ih (s + 1) t1 _, Int.sub_zero]
      rfl
theorem endsR_edM {I : Nat → Int} {F : Nat → Int → Int} (f : Int → Int) (c : Int) (e : Int → Int) : endsR I F f c e = edM (F 5) (F 4) (ms (F 3) (F 4) (F 5) 11) c 0 (I 1) (F 3 c).toNat 0 (0, 0) e := edL_edM (sg_ms I F 11) c (I 1) (F 3 c).toNat 0 (0, f, 0) e
/-- ends of the steps of a chant do not depend on what was there -/
theorem edM_dep {N K : Int → Int} {rec : Int → Int → Int × Int → Option (Int × Int)} {c base wide : Int} : ∀ (n : Nat) (s : Int) (p p1 : Int × Int) (e e' : Int → Int), msL N K rec c base wide n s p = some p1 → ∀ j, s ≤ j → j < s + n → edM N K rec c base wide n s p e j = edM N K rec c base wide n s p e' j := by
  have low : ∀ (n : Nat) (s : Int) (p : Int × Int) (e : Int → Int) (j : Int), j < s → edM N K rec c base wide n s p e j = e j := by
    intro n
    induction n with
    | zero => intro s p e j _; rfl
    | succ n ih =>
      intro s p e j hj
      unfold edM
      cases msS N K rec (12 * c + s) base wide p with
      | none => rfl
      | some p1 =>
        show edM N K rec c base wide n (s + 1) p1 (fu e s (p1.1 - base)) j = e j
        rw [ih (s + 1) p1 _ j (by omega), fu_n (by omega)]
  intro n
  induction n with
  | zero => intro s p p1 e e' _ j h1 h2; omega
  | succ n ih =>
    intro s p p1 e e' h j h1 h2
    unfold msL at h
    unfold edM
    cases hS : msS N K rec (12 * c + s) base wide p with
    | none => rw [hS] at h; cases h
    | some p2 =>
      rw [hS] at h
      show edM N K rec c base wide n (s + 1) p2 (fu e s (p2.1 - base)) j = edM N K rec c base wide n (s + 1) p2 (fu e' s (p2.1 - base)) j
      by_cases hj : j = s
      · subst hj
        rw [low n _ p2 _ j (by omega), low n _ p2 _ j (by omega), fu_s, fu_s]
      · exact ih (s + 1) p2 p1 _ _ h j (by omega) (by omega)
theorem edM_dep12 {S K N : Int → Int} {c w : Int} {p : Int × Int} {e e' : Int → Int} (hS : 0 ≤ S c) (h : ms S K N 12 c w (0, 0) = some p) : ∀ j, 0 ≤ j → j < S c → edM N K (ms S K N 11) c 0 w (S c).toNat 0 (0, 0) e j = edM N K (ms S K N 11) c 0 w (S c).toNat 0 (0, 0) e' j := fun j h1 h2 => edM_dep (S c).toNat 0 (0, 0) p e e' h j h1 (by omega)
set_option maxRecDepth 20000 in
theorem k_X0_sung0 {l0 : Launch} {g : Gw} {w nx : Nat} {h : Nat → va_E} {C : Nat → Nat → Int} {A : Nat → Int → Int} {V : Nat → Value} {I : Nat → Int} {F : Nat → Int → Int} {ca : Nat → Nat} {sa : Nat → Nat → Nat} {own : Nat → Nat} {c : Nat} (hD : RDy h nx C V I F ca sa own) (hc : (c : Int) < I 2) (hw : 4 ≤ w ∧ w ≤ 40) (hm : ms (F 3) (F 4) (F 5) 12 (c : Int) (w : Int) (0, 0) = none) : MM l0 g 30 mX0_sung (cp w C A V h, nx) [.ref 230, .int (iI (c : Int))] 0 0 (fun r σ' => r = some (.int (iI (-6))) ∧ ∃ (bg : Int) (en : Int → Int), σ' = (cp w (cM C bg) (aM A en) V h, nx)) := by
  refine MM.of (by decide +kernel) (by simp [Value.category]) (tle rfl) (fun X b => ?_)
  change WW X g _ _ 0 0 0 [some (.ref 230), some (.int (iI ((c : Int)))), none] [] _
  refine w_aload_n b dX0_sung_0 rfl rfl ?_
  refine w_iload_n b dX0_sung_1 rfl ?_
  refine w_callV (d' := 29) (mc' := 0) (ms' := 0) (st := []) (vs := [.int (iI (c : Int))]) b dX0_sung_2 lmX0_88 rfl rfl (cpS (tlt rfl) ct_230) (tle rfl) (by omega) (by omega) (by omega) (k_X0_measured hD hc hw) (fun r σ' hq => ?_)
  obtain ⟨bg1, en1, q1, q2, q3, q4⟩ := hq
  subst q2
  obtain rfl := q3 hm
  refine w_istore_n b dX0_sung_5 (tlt rfl) rfl ?_
  refine w_iload_n b dX0_sung_6 rfl ?_
  refine z_if_lt (tgt := 25) b dX0_sung_7 (by decide) (by omega) (fun c7 => ?_) (fun c7 => ?_)
  · refine w_iload_n b dX0_sung_25 rfl ?_
    exact w_iret b dX0_sung_26 rfl (by omega) (by omega) ⟨rfl, bg1, en1, rfl⟩
  · exfalso; omega
set_option maxRecDepth 20000 in
theorem k_X0_sung1 {l0 : Launch} {g : Gw} {w nx : Nat} {h : Nat → va_E} {C : Nat → Nat → Int} {A : Nat → Int → Int} {V : Nat → Value} {I : Nat → Int} {F : Nat → Int → Int} {ca : Nat → Nat} {sa : Nat → Nat → Nat} {own : Nat → Nat} {c : Nat} {t : CS} (hD : RDy h nx C V I F ca sa own) (hR : RCa w C A I F) (hc : (c : Int) < I 2) (h7 : col7 (A 232)) (ht : sg I F 12 (c : Int) (w : Int) (0, A 232, 0) = some t) : MM l0 g 31 mX0_sung (cp w C A V h, nx) [.ref 230, .int (iI (c : Int))] 0 0 (fun r σ' => r = some (.int (iI t.1)) ∧ σ' = (cp w (cW (cM C t.2.2) t.1) (aW (aM A (edM (F 5) (F 4) (ms (F 3) (F 4) (F 5) 11) (c : Int) 0 (w : Int) (F 3 (c : Int)).toNat 0 (0, 0) (A 233))) t.2.1) V h, nx)) := by
  have hw := hR.w2
  have hn2 := hD.n2
  have hm : ms (F 3) (F 4) (F 5) 12 (c : Int) (w : Int) (0, 0) = some (t.1, t.2.2) := by
    have h1 := sg_ms I F 12 (c : Int) (w : Int) (0, A 232, 0)
    rw [ht] at h1
    exact h1.symm
  refine MM.of (by decide +kernel) (by simp [Value.category]) (tle rfl) (fun X b => ?_)
  change WW X g _ _ 0 0 0 [some (.ref 230), some (.int (iI ((c : Int)))), none] [] _
  refine w_aload_n b dX0_sung_0 rfl rfl ?_
  refine w_iload_n b dX0_sung_1 rfl ?_
  refine w_callV (d' := 29) (mc' := 0) (ms' := 0) (st := []) (vs := [.int (iI (c : Int))]) b dX0_sung_2 lmX0_88 rfl rfl (cpS (tlt rfl) ct_230) (tle rfl) (by omega) (by omega) (by omega) (k_X0_measured hD hc hw) (fun r σ' hq => ?_)
  obtain ⟨bg1, en1, q1, q2, q3, q4⟩ := hq
  subst q2
  obtain ⟨p1, p2, p3, p4⟩ := q4 _ hm
  rw [p2]
  have p1 : 0 ≤ t.1 ∧ t.1 ≤ 1000 := p1
  have p3 : bg1 = t.2.2 := p3
  change WW X g _ _ _ _ _ _ [.int (iI (t.1 - 0))] _
  rw [Int.sub_zero, p3]
  refine w_istore_n b dX0_sung_5 (tlt rfl) rfl ?_
  refine w_iload_n b dX0_sung_6 rfl ?_
  refine z_if_lt (tgt := 25) b dX0_sung_7 (by decide) (by omega) (fun c7 => ?_) (fun c7 => ?_)
  · exfalso; omega
  · refine w_aload_n b dX0_sung_10 rfl rfl ?_
    refine z_iconst b dX0_sung_11 ?_
    refine q_put b dX0_sung_12 lfX0_92 gcX0 gtX0_5 (tlt rfl) (fun _ => ct_230) (tlt rfl) rfl ?_
    change WW X g _ _ _ _ _ _ _ (cp w (cW (cM C t.2.2) 0) (aM A en1) V h, nx)
    refine w_aload_n b dX0_sung_15 rfl rfl ?_
    refine w_iload_n b dX0_sung_16 rfl ?_
    refine w_aload_n b dX0_sung_17 rfl rfl ?_
    refine q_get b dX0_sung_18 lfX0_26 (tlt rfl) ct_230 rfl ?_
    refine z_iconst b dX0_sung_21 ?_
    have eA : cp w (cW (cM C t.2.2) 0) (aM A en1) V h = cp w (cW (cM C t.2.2) 0) (aW (aM A en1) (A 232)) V h := by
      have e9 := aW_self (aM A en1)
      rw [show (aM A en1) 232 = A 232 from rfl] at e9
      rw [e9]
    rw [eA]
    refine c_V3v b dX0_sung_22 lmX0_95 (cpS (tlt rfl) ct_230) (k_X0_write (hD.cM t.2.2) (hR.cM t.2.2 en1) 12 c w 0 0 0 (A 232) t (by omega) hc (by omega) (by omega) (by omega) h7 ht) (tle rfl) (by omega) (by omega) (by omega) ?_
    refine w_iload_n b dX0_sung_25 rfl ?_
    exact w_iret b dX0_sung_26 rfl (by omega) (by omega) ⟨rfl, by rw [p4]⟩
