/-! THE CLASS: its face for chants (by p61.py) -/
/-- the caller's scratch may be another, all else is the same -/
def scC (C : Nat → Nat → Int) (A : Nat → Int → Int) (C' : Nat → Nat → Int) (A' : Nat → Int → Int) : Prop := ∃ (u : Nat → Int) (kn en : Int → Int), C' = va_up C 230 u ∧ A' = va_up (va_up A 232 kn) 233 en ∧ (col7 (A 232) → col7 kn)
theorem scC_refl (C : Nat → Nat → Int) (A : Nat → Int → Int) : scC C A C A := ⟨C 230, A 232, A 233, (va_up_same C 230).symm, by rw [va_up_same, va_up_same], id⟩
theorem scC_M (C : Nat → Nat → Int) (A : Nat → Int → Int) (bg : Int) (en : Int → Int) : scC C A (cM C bg) (aM A en) := ⟨_, A 232, en, rfl, by rw [va_up_same]; rfl, id⟩
theorem scC_N (C : Nat → Nat → Int) (A : Nat → Int → Int) (bg x y : Int) (en : Int → Int) : scC C A (cN C bg x y) (aM A en) := ⟨_, A 232, en, rfl, by rw [va_up_same]; rfl, id⟩
theorem scC_W {C : Nat → Nat → Int} {A : Nat → Int → Int} {bg a : Int} {en f : Int → Int} (hf : col7 f) : scC C A (cW (cM C bg) a) (aW (aM A en) f) := ⟨va_up (cM C bg 230) 5 a, f, en, by unfold cW cM; rw [va_up_twice], by unfold aW aM; exact va_up_comm A _ _ (by decide), fun _ => hf⟩
theorem scC_trans {C C1 C2 : Nat → Nat → Int} {A A1 A2 : Nat → Int → Int} (h1 : scC C A C1 A1) (h2 : scC C1 A1 C2 A2) : scC C A C2 A2 := by
  obtain ⟨u, kn, en, e1, e2, e3⟩ := h1
  obtain ⟨u', kn', en', f1, f2, f3⟩ := h2
  subst e1 e2 f1 f2
  refine ⟨u', kn', en', va_up_twice _ _ _ _, ?_, fun z => f3 (e3 z)⟩
  rw [va_up_comm (va_up A 232 kn) en kn' (show 233 ≠ 232 by decide), va_up_twice, va_up_twice]
theorem RDy.sc {h : Nat → va_E} {nx : Nat} {C C' : Nat → Nat → Int} {A A' : Nat → Int → Int} {V : Nat → Value} {I : Nat → Int} {F : Nat → Int → Int} {ca : Nat → Nat} {sa : Nat → Nat → Nat} {own : Nat → Nat} (hD : RDy h nx C V I F ca sa own) (hs : scC C A C' A') : RDy h nx C' V I F ca sa own := by
  obtain ⟨u, kn, en, e1, e2, e3⟩ := hs
  subst e1
  exact hD
theorem RCa.sc {w : Nat} {C C' : Nat → Nat → Int} {A A' : Nat → Int → Int} {I : Nat → Int} {F : Nat → Int → Int} (hR : RCa w C A I F) (hs : scC C A C' A') : RCa w C' A' I F := by
  obtain ⟨u, kn, en, e1, e2, e3⟩ := hs
  subst e1 e2
  exact hR.ext (fun q hq => va_up_ne _ _ (by omega)) (fun q hq => by rw [va_up_ne _ _ (by omega), va_up_ne _ _ (by omega)]) rfl rfl (fun _ _ _ => rfl)
set_option maxRecDepth 20000 in
theorem k_X8_lengthN {l0 : Launch} {g : Gw} {w nx : Nat} {h : Nat → va_E} {C : Nat → Nat → Int} {A : Nat → Int → Int} {V : Nat → Value} {I : Nat → Int} {F : Nat → Int → Int} {ca : Nat → Nat} {sa : Nat → Nat → Nat} {own : Nat → Nat} {c : Int} (hD : RDy h nx C V I F ca sa own) (hci : inR c)  (hb : ¬ (0 ≤ c ∧ c < I 2)) : MD l0 g 3 mX8_length (cp w C A V h, nx) [.ref 0, .int (iI (c))] 0 0 (some (.int (iI (-1)))) (cp w C A V h, nx) := by
  have hn2 := hD.n2
  refine MD.of (by decide +kernel) (by simp [Value.category]) (tle rfl) (fun X b => ?_)
  change WW X g _ _ 0 0 0 [some (.ref 0), some (.int (iI (c)))] [] _
  refine w_aload_n b dX8_length_0 rfl rfl ?_
  refine q_get b dX8_length_1 lfX8_33 (tlt rfl) ct_0 rfl ?_
  refine w_iload_n b dX8_length_4 rfl ?_
  refine c_V1 b dX8_length_5 lmX8_63 (cpS (tlt rfl) ct_230) (k_X0_hasChant hD (by omega)) (tle rfl) (by omega) (by omega) (by omega) ?_
  refine z_ifb_eq (tgt := 22) b dX8_length_8 (by decide) (fun c8 => ?_) (fun c8 => ?_)
  · refine z_iconst b dX8_length_22 ?_
    exact w_iret b dX8_length_23 rfl (by omega) (by omega) ⟨iv_eq (by first | rfl | omega | ((try simp only [b2]); ((repeat' split) <;> (first | rfl | omega)))), rfl⟩
  · exfalso; omega
set_option maxRecDepth 20000 in
theorem k_X8_closesN {l0 : Launch} {g : Gw} {w nx : Nat} {h : Nat → va_E} {C : Nat → Nat → Int} {A : Nat → Int → Int} {V : Nat → Value} {I : Nat → Int} {F : Nat → Int → Int} {ca : Nat → Nat} {sa : Nat → Nat → Nat} {own : Nat → Nat} {c : Int} (hD : RDy h nx C V I F ca sa own) (hci : inR c)  (hb : ¬ (0 ≤ c ∧ c < I 2)) : MD l0 g 3 mX8_closes (cp w C A V h, nx) [.ref 0, .int (iI (c))] 0 0 (some (.int (iI (-1)))) (cp w C A V h, nx) := by
  have hn2 := hD.n2
  refine MD.of (by decide +kernel) (by simp [Value.category]) (tle rfl) (fun X b => ?_)
  change WW X g _ _ 0 0 0 [some (.ref 0), some (.int (iI (c))), none] [] _
  refine w_aload_n b dX8_closes_0 rfl rfl ?_
  refine q_get b dX8_closes_1 lfX8_33 (tlt rfl) ct_0 rfl ?_
  refine w_iload_n b dX8_closes_4 rfl ?_
  refine c_V1 b dX8_closes_5 lmX8_63 (cpS (tlt rfl) ct_230) (k_X0_hasChant hD (by omega)) (tle rfl) (by omega) (by omega) (by omega) ?_
  refine z_ifb_ne (tgt := 13) b dX8_closes_8 (by decide) (fun c8 => ?_) (fun c8 => ?_)
  · exfalso; omega
  · refine z_iconst b dX8_closes_11 ?_
    exact w_iret b dX8_closes_12 rfl (by omega) (by omega) ⟨iv_eq (by first | rfl | omega | ((try simp only [b2]); ((repeat' split) <;> (first | rfl | omega)))), rfl⟩
set_option maxRecDepth 20000 in
theorem k_X8_colourN {l0 : Launch} {g : Gw} {w nx : Nat} {h : Nat → va_E} {C : Nat → Nat → Int} {A : Nat → Int → Int} {V : Nat → Value} {I : Nat → Int} {F : Nat → Int → Int} {ca : Nat → Nat} {sa : Nat → Nat → Nat} {own : Nat → Nat} {c i : Int} (hD : RDy h nx C V I F ca sa own) (hci : inR c) (hi : inR i) (hb : ¬ (0 ≤ c ∧ c < I 2)) : MD l0 g 3 mX8_colour (cp w C A V h, nx) [.ref 0, .int (iI (c)), .int (iI (i))] 0 0 (some (.int (iI (-1)))) (cp w C A V h, nx) := by
  have hn2 := hD.n2
  refine MD.of (by decide +kernel) (by simp [Value.category]) (tle rfl) (fun X b => ?_)
  change WW X g _ _ 0 0 0 [some (.ref 0), some (.int (iI (c))), some (.int (iI (i))), none] [] _
  refine w_aload_n b dX8_colour_0 rfl rfl ?_
  refine q_get b dX8_colour_1 lfX8_33 (tlt rfl) ct_0 rfl ?_
  refine w_iload_n b dX8_colour_4 rfl ?_
  refine c_V1 b dX8_colour_5 lmX8_63 (cpS (tlt rfl) ct_230) (k_X0_hasChant hD (by omega)) (tle rfl) (by omega) (by omega) (by omega) ?_
  refine z_ifb_ne (tgt := 13) b dX8_colour_8 (by decide) (fun c8 => ?_) (fun c8 => ?_)
  · exfalso; omega
  · refine z_iconst b dX8_colour_11 ?_
    exact w_iret b dX8_colour_12 rfl (by omega) (by omega) ⟨iv_eq (by first | rfl | omega | ((try simp only [b2]); ((repeat' split) <;> (first | rfl | omega)))), rfl⟩
set_option maxRecDepth 20000 in
theorem k_X8_mendN {l0 : Launch} {g : Gw} {w nx : Nat} {h : Nat → va_E} {C : Nat → Nat → Int} {A : Nat → Int → Int} {V : Nat → Value} {I : Nat → Int} {F : Nat → Int → Int} {ca : Nat → Nat} {sa : Nat → Nat → Nat} {own : Nat → Nat} {c k : Int} (hD : RDy h nx C V I F ca sa own) (hci : inR c) (hk : inR k) (hb : ¬ (0 ≤ c ∧ c < I 2)) : MD l0 g 3 mX8_mend (cp w C A V h, nx) [.ref 0, .int (iI (c)), .int (iI (k))] 0 0 (some (.int (iI (-1)))) (cp w C A V h, nx) := by
  have hn2 := hD.n2
  refine MD.of (by decide +kernel) (by simp [Value.category]) (tle rfl) (fun X b => ?_)
  change WW X g _ _ 0 0 0 [some (.ref 0), some (.int (iI (c))), some (.int (iI (k))), none] [] _
  refine w_aload_n b dX8_mend_0 rfl rfl ?_
  refine q_get b dX8_mend_1 lfX8_33 (tlt rfl) ct_0 rfl ?_
  refine w_iload_n b dX8_mend_4 rfl ?_
  refine c_V1 b dX8_mend_5 lmX8_63 (cpS (tlt rfl) ct_230) (k_X0_hasChant hD (by omega)) (tle rfl) (by omega) (by omega) (by omega) ?_
  refine z_ifb_eq (tgt := 20) b dX8_mend_8 (by decide) (fun c8 => ?_) (fun c8 => ?_)
  · refine z_iconst b dX8_mend_20 ?_
    exact w_iret b dX8_mend_21 rfl (by omega) (by omega) ⟨iv_eq (by first | rfl | omega | ((try simp only [b2]); ((repeat' split) <;> (first | rfl | omega)))), rfl⟩
  · exfalso; omega
set_option maxRecDepth 20000 in
theorem k_X8_mendedN {l0 : Launch} {g : Gw} {w nx : Nat} {h : Nat → va_E} {C : Nat → Nat → Int} {A : Nat → Int → Int} {V : Nat → Value} {I : Nat → Int} {F : Nat → Int → Int} {ca : Nat → Nat} {sa : Nat → Nat → Nat} {own : Nat → Nat} {c : Int} (hD : RDy h nx C V I F ca sa own) (hci : inR c)  (hb : ¬ (0 ≤ c ∧ c < I 2)) : MD l0 g 3 mX8_mended (cp w C A V h, nx) [.ref 0, .int (iI (c))] 0 0 (some (.int (iI (-1)))) (cp w C A V h, nx) := by
  have hn2 := hD.n2
  refine MD.of (by decide +kernel) (by simp [Value.category]) (tle rfl) (fun X b => ?_)
  change WW X g _ _ 0 0 0 [some (.ref 0), some (.int (iI (c))), none] [] _
  refine w_aload_n b dX8_mended_0 rfl rfl ?_
  refine q_get b dX8_mended_1 lfX8_33 (tlt rfl) ct_0 rfl ?_
  refine w_iload_n b dX8_mended_4 rfl ?_
  refine c_V1 b dX8_mended_5 lmX8_63 (cpS (tlt rfl) ct_230) (k_X0_hasChant hD (by omega)) (tle rfl) (by omega) (by omega) (by omega) ?_
  refine z_ifb_ne (tgt := 13) b dX8_mended_8 (by decide) (fun c8 => ?_) (fun c8 => ?_)
  · exfalso; omega
  · refine z_iconst b dX8_mended_11 ?_
    exact w_iret b dX8_mended_12 rfl (by omega) (by omega) ⟨iv_eq (by first | rfl | omega | ((try simp only [b2]); ((repeat' split) <;> (first | rfl | omega)))), rfl⟩
set_option maxRecDepth 20000 in
theorem k_X8_tieN {l0 : Launch} {g : Gw} {w nx : Nat} {h : Nat → va_E} {C : Nat → Nat → Int} {A : Nat → Int → Int} {V : Nat → Value} {I : Nat → Int} {F : Nat → Int → Int} {ca : Nat → Nat} {sa : Nat → Nat → Nat} {own : Nat → Nat} {c : Int} (hD : RDy h nx C V I F ca sa own) (hci : inR c)  (hb : ¬ (0 ≤ c ∧ c < I 2)) : MD l0 g 3 mX8_tie (cp w C A V h, nx) [.ref 0, .int (iI (c))] 0 0 (some (.int (iI (-1)))) (cp w C A V h, nx) := by
  have hn2 := hD.n2
  refine MD.of (by decide +kernel) (by simp [Value.category]) (tle rfl) (fun X b => ?_)
  change WW X g _ _ 0 0 0 [some (.ref 0), some (.int (iI (c))), none] [] _
  refine w_aload_n b dX8_tie_0 rfl rfl ?_
  refine q_get b dX8_tie_1 lfX8_33 (tlt rfl) ct_0 rfl ?_
  refine w_iload_n b dX8_tie_4 rfl ?_
  refine c_V1 b dX8_tie_5 lmX8_63 (cpS (tlt rfl) ct_230) (k_X0_hasChant hD (by omega)) (tle rfl) (by omega) (by omega) (by omega) ?_
  refine z_ifb_ne (tgt := 13) b dX8_tie_8 (by decide) (fun c8 => ?_) (fun c8 => ?_)
  · exfalso; omega
  · refine z_iconst b dX8_tie_11 ?_
    exact w_iret b dX8_tie_12 rfl (by omega) (by omega) ⟨iv_eq (by first | rfl | omega | ((try simp only [b2]); ((repeat' split) <;> (first | rfl | omega)))), rfl⟩
set_option maxRecDepth 20000 in
theorem k_X8_length {l0 : Launch} {g : Gw} {w nx : Nat} {h : Nat → va_E} {C : Nat → Nat → Int} {A : Nat → Int → Int} {V : Nat → Value} {I : Nat → Int} {F : Nat → Int → Int} {ca : Nat → Nat} {sa : Nat → Nat → Nat} {own : Nat → Nat}  {c : Nat} (hD : RDy h nx C V I F ca sa own) (hc : (c : Int) < I 2) (hw : 4 ≤ w ∧ w ≤ 40)  : MM l0 g 30 mX8_length (cp w C A V h, nx) [.ref 0, .int (iI ((c : Int)))] 0 0 (fun r σ' => r = some (.int (iI (lenM (F 3) (F 4) (F 5) (w : Int) (c : Int)))) ∧ ∃ (C' : Nat → Nat → Int) (A' : Nat → Int → Int), scC C A C' A' ∧ σ' = (cp w C' A' V h, nx)) := by
  have hn2 := hD.n2
  refine MM.of (by decide +kernel) (by simp [Value.category]) (tle rfl) (fun X b => ?_)
  change WW X g _ _ 0 0 0 [some (.ref 0), some (.int (iI ((c : Int))))] [] _
  refine w_aload_n b dX8_length_0 rfl rfl ?_
  refine q_get b dX8_length_1 lfX8_33 (tlt rfl) ct_0 rfl ?_
  refine w_iload_n b dX8_length_4 rfl ?_
  refine c_V1 b dX8_length_5 lmX8_63 (cpS (tlt rfl) ct_230) (k_X0_hasChant hD (by omega)) (tle rfl) (by omega) (by omega) (by omega) ?_
  refine z_ifb_eq (tgt := 22) b dX8_length_8 (by decide) (fun c8 => ?_) (fun c8 => ?_)
  · exfalso; omega
  · refine w_aload_n b dX8_length_11 rfl rfl ?_
    refine q_get b dX8_length_12 lfX8_33 (tlt rfl) ct_0 rfl ?_
    refine w_iload_n b dX8_length_15 rfl ?_
    refine w_callV (d' := 29) (mc' := 0) (ms' := 0) (st := []) (vs := [.int (iI (c : Int))]) b dX8_length_16 lmX8_67 rfl rfl (cpS (tlt rfl) ct_230) (tle rfl) (by omega) (by omega) (by omega) (k_X0_measured hD hc hw) (fun r σ' hz => ?_)
    obtain ⟨bg1, en1, q1, q2, q3, q4⟩ := hz
    subst q2
    cases ho2 : ms (F 3) (F 4) (F 5) 12 (c : Int) (w : Int) (0, 0) with
    | none =>
      obtain rfl := q3 ho2
      have e9 := lenM_ms.1 ho2
      change WW X g _ _ _ _ _ _ [.int (iI (-6))] _
      refine w_goto (tgt := 23) b dX8_length_19 (by decide) ?_
      exact w_iret b dX8_length_23 rfl (by omega) (by omega) ⟨iv_eq e9.symm, ⟨_, _, scC_M C A bg1 en1, rfl⟩⟩
    | some p =>
      obtain ⟨p1, p2, p3, p4⟩ := q4 p ho2
      have e9 := lenM_ms.2 p ho2
      subst p2
      change WW X g _ _ _ _ _ _ [.int (iI (p.1 - 0))] _
      rw [Int.sub_zero]
      refine w_goto (tgt := 23) b dX8_length_19 (by decide) ?_
      exact w_iret b dX8_length_23 rfl (by omega) (by omega) ⟨iv_eq e9.symm, ⟨_, _, scC_M C A bg1 en1, rfl⟩⟩
set_option maxRecDepth 20000 in
theorem k_X8_closes {l0 : Launch} {g : Gw} {w nx : Nat} {h : Nat → va_E} {C : Nat → Nat → Int} {A : Nat → Int → Int} {V : Nat → Value} {I : Nat → Int} {F : Nat → Int → Int} {ca : Nat → Nat} {sa : Nat → Nat → Nat} {own : Nat → Nat}  {c : Nat} (hD : RDy h nx C V I F ca sa own) (hc : (c : Int) < I 2) (hw : 4 ≤ w ∧ w ≤ 40)  : MM l0 g 30 mX8_closes (cp w C A V h, nx) [.ref 0, .int (iI ((c : Int)))] 0 0 (fun r σ' => r = some (.int (iI (if lenM (F 3) (F 4) (F 5) (w : Int) (c : Int) < 0 then -6 else b2 (lenM (F 3) (F 4) (F 5) (w : Int) (c : Int) = (w : Int))))) ∧ ∃ (C' : Nat → Nat → Int) (A' : Nat → Int → Int), scC C A C' A' ∧ σ' = (cp w C' A' V h, nx)) := by
  have hn2 := hD.n2
  refine MM.of (by decide +kernel) (by simp [Value.category]) (tle rfl) (fun X b => ?_)
  change WW X g _ _ 0 0 0 [some (.ref 0), some (.int (iI ((c : Int)))), none] [] _
  refine w_aload_n b dX8_closes_0 rfl rfl ?_
  refine q_get b dX8_closes_1 lfX8_33 (tlt rfl) ct_0 rfl ?_
  refine w_iload_n b dX8_closes_4 rfl ?_
  refine c_V1 b dX8_closes_5 lmX8_63 (cpS (tlt rfl) ct_230) (k_X0_hasChant hD (by omega)) (tle rfl) (by omega) (by omega) (by omega) ?_
  refine z_ifb_ne (tgt := 13) b dX8_closes_8 (by decide) (fun c8 => ?_) (fun c8 => ?_)
  · refine w_aload_n b dX8_closes_13 rfl rfl ?_
    refine q_get b dX8_closes_14 lfX8_33 (tlt rfl) ct_0 rfl ?_
    refine w_iload_n b dX8_closes_17 rfl ?_
    refine w_callV (d' := 29) (mc' := 0) (ms' := 0) (st := []) (vs := [.int (iI (c : Int))]) b dX8_closes_18 lmX8_67 rfl rfl (cpS (tlt rfl) ct_230) (tle rfl) (by omega) (by omega) (by omega) (k_X0_measured hD hc hw) (fun r σ' hz => ?_)
    obtain ⟨bg1, en1, q1, q2, q3, q4⟩ := hz
    subst q2
    cases ho2 : ms (F 3) (F 4) (F 5) 12 (c : Int) (w : Int) (0, 0) with
    | none =>
      obtain rfl := q3 ho2
      have e9 := lenM_ms.1 ho2
      change WW X g _ _ _ _ _ _ [.int (iI (-6))] _
      refine w_istore_n b dX8_closes_21 (tlt rfl) rfl ?_
      refine w_iload_n b dX8_closes_22 rfl ?_
      refine z_if_ge (tgt := 29) b dX8_closes_23 (by decide) (by omega) (fun c23 => ?_) (fun c23 => ?_)
      · exfalso; omega
      · refine z_bipush b dX8_closes_26 (by decide) ?_
        exact w_iret b dX8_closes_28 rfl (by omega) (by omega) ⟨iv_eq (if_pos (by rw [e9]; omega)).symm, ⟨_, _, scC_M C A bg1 en1, rfl⟩⟩
    | some p =>
      obtain ⟨p1, p2, p3, p4⟩ := q4 p ho2
      have e9 := lenM_ms.2 p ho2
      subst p2
      change WW X g _ _ _ _ _ _ [.int (iI (p.1 - 0))] _
      rw [Int.sub_zero]
      refine w_istore_n b dX8_closes_21 (tlt rfl) rfl ?_
      refine w_iload_n b dX8_closes_22 rfl ?_
      refine z_if_ge (tgt := 29) b dX8_closes_23 (by decide) (by omega) (fun c23 => ?_) (fun c23 => ?_)
      · refine w_iload_n b dX8_closes_29 rfl ?_
        refine w_aload_n b dX8_closes_30 rfl rfl ?_
        refine q_get b dX8_closes_31 lfX8_15 (tlt rfl) ct_0 rfl ?_
        refine z_icmp_ne (tgt := 41) b dX8_closes_34 (by decide) (by omega) (fun c34 => ?_) (fun c34 => ?_)
        · refine z_iconst b dX8_closes_41 ?_
          exact w_iret b dX8_closes_42 rfl (by omega) (by omega) ⟨iv_eq (by rw [e9, if_neg (by omega)]; unfold b2; (repeat' split) <;> omega), ⟨_, _, scC_M C A bg1 en1, rfl⟩⟩
        · refine z_iconst b dX8_closes_37 ?_
          refine w_goto (tgt := 42) b dX8_closes_38 (by decide) ?_
          exact w_iret b dX8_closes_42 rfl (by omega) (by omega) ⟨iv_eq (by rw [e9, if_neg (by omega)]; unfold b2; (repeat' split) <;> omega), ⟨_, _, scC_M C A bg1 en1, rfl⟩⟩
      · exfalso; omega
  · exfalso; omega
set_option maxRecDepth 20000 in
theorem k_X8_colour0 {l0 : Launch} {g : Gw} {w nx : Nat} {h : Nat → va_E} {C : Nat → Nat → Int} {A : Nat → Int → Int} {V : Nat → Value} {I : Nat → Int} {F : Nat → Int → Int} {ca : Nat → Nat} {sa : Nat → Nat → Nat} {own : Nat → Nat} {i : Int} {c : Nat} (hD : RDy h nx C V I F ca sa own) (hc : (c : Int) < I 2) (hw : 4 ≤ w ∧ w ≤ 40) (hm : ms (F 3) (F 4) (F 5) 12 (c : Int) (w : Int) (0, 0) = none) (hi : inR i) : MM l0 g 32 mX8_colour (cp w C A V h, nx) [.ref 0, .int (iI ((c : Int))), .int (iI (i))] 0 0 (fun r σ' => r = some (.int (iI (-6))) ∧ ∃ (C' : Nat → Nat → Int) (A' : Nat → Int → Int), scC C A C' A' ∧ σ' = (cp w C' A' V h, nx)) := by
  have hn2 := hD.n2
  refine MM.of (by decide +kernel) (by simp [Value.category]) (tle rfl) (fun X b => ?_)
  change WW X g _ _ 0 0 0 [some (.ref 0), some (.int (iI ((c : Int)))), some (.int (iI (i))), none] [] _
  refine w_aload_n b dX8_colour_0 rfl rfl ?_
  refine q_get b dX8_colour_1 lfX8_33 (tlt rfl) ct_0 rfl ?_
  refine w_iload_n b dX8_colour_4 rfl ?_
  refine c_V1 b dX8_colour_5 lmX8_63 (cpS (tlt rfl) ct_230) (k_X0_hasChant hD (by omega)) (tle rfl) (by omega) (by omega) (by omega) ?_
  refine z_ifb_ne (tgt := 13) b dX8_colour_8 (by decide) (fun c8 => ?_) (fun c8 => ?_)
  · refine w_aload_n b dX8_colour_13 rfl rfl ?_
    refine q_get b dX8_colour_14 lfX8_33 (tlt rfl) ct_0 rfl ?_
    refine w_iload_n b dX8_colour_17 rfl ?_
    refine w_callV (d' := 30) (mc' := 0) (ms' := 0) (st := []) (vs := [.int (iI (c : Int))]) b dX8_colour_18 lmX8_71 rfl rfl (cpS (tlt rfl) ct_230) (tle rfl) (by omega) (by omega) (by omega) (k_X0_sung0 hD hc hw hm) (fun r σ' hz => ?_)
    obtain ⟨rfl, bg1, en1, rfl⟩ := hz
    change WW X g _ _ _ _ _ _ [.int (iI (-6))] _
    refine w_istore_n b dX8_colour_21 (tlt rfl) rfl ?_
    refine w_iload_n b dX8_colour_22 rfl ?_
    refine z_if_ge (tgt := 29) b dX8_colour_23 (by decide) (by omega) (fun c23 => ?_) (fun c23 => ?_)
    · exfalso; omega
    · refine z_bipush b dX8_colour_26 (by decide) ?_
      exact w_iret b dX8_colour_28 rfl (by omega) (by omega) ⟨rfl, ⟨_, _, scC_M C A bg1 en1, rfl⟩⟩
  · exfalso; omega
set_option maxRecDepth 20000 in
theorem k_X8_colour1 {l0 : Launch} {g : Gw} {w nx : Nat} {h : Nat → va_E} {C : Nat → Nat → Int} {A : Nat → Int → Int} {V : Nat → Value} {I : Nat → Int} {F : Nat → Int → Int} {ca : Nat → Nat} {sa : Nat → Nat → Nat} {own : Nat → Nat} {t : CS} {i : Int} {c : Nat} (hD : RDy h nx C V I F ca sa own) (hc : (c : Int) < I 2) (hw : 4 ≤ w ∧ w ≤ 40) (hR : RCa w C A I F) (h7 : col7 (A 232)) (ht : sg I F 12 (c : Int) (w : Int) (0, A 232, 0) = some t) (hi : inR i) : MM l0 g 32 mX8_colour (cp w C A V h, nx) [.ref 0, .int (iI ((c : Int))), .int (iI (i))] 0 0 (fun r σ' => r = some (.int (iI (if 0 ≤ i ∧ i ≤ t.1 - 1 then t.2.1 i else -4))) ∧ ∃ (C' : Nat → Nat → Int) (A' : Nat → Int → Int), scC C A C' A' ∧ σ' = (cp w C' A' V h, nx)) := by
  have hn2 := hD.n2
  have hrg := sg_mono hD.wf 12 (c : Int) (w : Int) (0, A 232, 0) t (by omega) hc (by show (0 : Int) ≤ 1000; omega) ht
  have hrg : 0 ≤ t.1 ∧ t.1 ≤ 1000 := hrg
  have hw1 := hR.w1
  have hc7 := sg_c7 hD.wf hR.t2 (by omega) hR.b23 12 (c : Int) (w : Int) (0, A 232, 0) t (by omega) hc (by show (0 : Int) ≤ 0 ∧ (0 : Int) ≤ 1000; omega) h7 ht
  refine MM.of (by decide +kernel) (by simp [Value.category]) (tle rfl) (fun X b => ?_)
  change WW X g _ _ 0 0 0 [some (.ref 0), some (.int (iI ((c : Int)))), some (.int (iI (i))), none] [] _
  refine w_aload_n b dX8_colour_0 rfl rfl ?_
  refine q_get b dX8_colour_1 lfX8_33 (tlt rfl) ct_0 rfl ?_
  refine w_iload_n b dX8_colour_4 rfl ?_
  refine c_V1 b dX8_colour_5 lmX8_63 (cpS (tlt rfl) ct_230) (k_X0_hasChant hD (by omega)) (tle rfl) (by omega) (by omega) (by omega) ?_
  refine z_ifb_ne (tgt := 13) b dX8_colour_8 (by decide) (fun c8 => ?_) (fun c8 => ?_)
  · refine w_aload_n b dX8_colour_13 rfl rfl ?_
    refine q_get b dX8_colour_14 lfX8_33 (tlt rfl) ct_0 rfl ?_
    refine w_iload_n b dX8_colour_17 rfl ?_
    refine w_callV (d' := 31) (mc' := 0) (ms' := 0) (st := []) (vs := [.int (iI (c : Int))]) b dX8_colour_18 lmX8_71 rfl rfl (cpS (tlt rfl) ct_230) (tle rfl) (by omega) (by omega) (by omega) (k_X0_sung1 hD hR hc h7 ht) (fun r σ' hz => ?_)
    obtain ⟨rfl, rfl⟩ := hz
    change WW X g _ _ _ _ _ _ [.int (iI t.1)] _
    refine w_istore_n b dX8_colour_21 (tlt rfl) rfl ?_
    refine w_iload_n b dX8_colour_22 rfl ?_
    refine z_if_ge (tgt := 29) b dX8_colour_23 (by decide) (by omega) (fun c23 => ?_) (fun c23 => ?_)
    · refine w_iload_n b dX8_colour_29 rfl ?_
      refine z_iconst b dX8_colour_30 ?_
      refine w_iload_n b dX8_colour_31 rfl ?_
      refine z_iconst b dX8_colour_32 ?_
      refine z_isub b dX8_colour_33 ?_
      refine c_S3 b dX8_colour_34 lmX8_74 (k_X8_isWithin (by omega) (by omega) (by omega)) (tle rfl) (by omega) (by omega) (by omega) ?_
      refine z_ifb_eq (tgt := 51) b dX8_colour_37 (by decide) (fun c37 => ?_) (fun c37 => ?_)
      · refine z_bipush b dX8_colour_51 (by decide) ?_
        exact w_iret b dX8_colour_53 rfl (by omega) (by omega) ⟨iv_eq (by first | exact (if_pos (by omega)).symm | exact (if_neg (by omega)).symm), ⟨_, _, scC_W hc7, rfl⟩⟩
      · refine w_aload_n b dX8_colour_40 rfl rfl ?_
        refine q_get b dX8_colour_41 lfX8_33 (tlt rfl) ct_0 rfl ?_
        refine w_iload_n b dX8_colour_44 rfl ?_
        refine c_V1 b dX8_colour_45 lmX8_77 (cpS (tlt rfl) ct_230) (k_heardW (by omega) (by omega)) (tle rfl) (by omega) (by omega) (by omega) ?_
        refine w_goto (tgt := 53) b dX8_colour_48 (by decide) ?_
        exact w_iret b dX8_colour_53 rfl (by omega) (by omega) ⟨iv_eq (by first | exact (if_pos (by omega)).symm | exact (if_neg (by omega)).symm), ⟨_, _, scC_W hc7, rfl⟩⟩
    · exfalso; omega
  · exfalso; omega
set_option maxRecDepth 20000 in
theorem k_X8_mend0 {l0 : Launch} {g : Gw} {w nx : Nat} {h : Nat → va_E} {C : Nat → Nat → Int} {A : Nat → Int → Int} {V : Nat → Value} {I : Nat → Int} {F : Nat → Int → Int} {ca : Nat → Nat} {sa : Nat → Nat → Nat} {own : Nat → Nat} {k : Int} {c : Nat} (hD : RDy h nx C V I F ca sa own) (hc : (c : Int) < I 2) (hw : 4 ≤ w ∧ w ≤ 40) (hl : lenM (F 3) (F 4) (F 5) (w : Int) (c : Int) < 0 ∨ lenM (F 3) (F 4) (F 5) (w : Int) (c : Int) = (w : Int)) (hk : 0 ≤ k ∧ k ≤ 1) : MM l0 g 33 mX8_mend (cp w C A V h, nx) [.ref 0, .int (iI ((c : Int))), .int (iI (k))] 0 0 (fun r σ' => r = some (.int (iI (if lenM (F 3) (F 4) (F 5) (w : Int) (c : Int) < 0 then -6 else -4))) ∧ ∃ (C' : Nat → Nat → Int) (A' : Nat → Int → Int), scC C A C' A' ∧ σ' = (cp w C' A' V h, nx)) := by
  have hn2 := hD.n2
  refine MM.of (by decide +kernel) (by simp [Value.category]) (tle rfl) (fun X b => ?_)
  change WW X g _ _ 0 0 0 [some (.ref 0), some (.int (iI ((c : Int)))), some (.int (iI (k))), none] [] _
  refine w_aload_n b dX8_mend_0 rfl rfl ?_
  refine q_get b dX8_mend_1 lfX8_33 (tlt rfl) ct_0 rfl ?_
  refine w_iload_n b dX8_mend_4 rfl ?_
  refine c_V1 b dX8_mend_5 lmX8_63 (cpS (tlt rfl) ct_230) (k_X0_hasChant hD (by omega)) (tle rfl) (by omega) (by omega) (by omega) ?_
  refine z_ifb_eq (tgt := 20) b dX8_mend_8 (by decide) (fun c8 => ?_) (fun c8 => ?_)
  · exfalso; omega
  · refine w_iload_n b dX8_mend_11 rfl ?_
    refine z_iconst b dX8_mend_12 ?_
    refine z_iconst b dX8_mend_13 ?_
    refine c_S3 b dX8_mend_14 lmX8_74 (k_X8_isWithin (by omega) (by omega) (by omega)) (tle rfl) (by omega) (by omega) (by omega) ?_
    refine z_ifb_ne (tgt := 22) b dX8_mend_17 (by decide) (fun c17 => ?_) (fun c17 => ?_)
    · refine w_aload_n b dX8_mend_22 rfl rfl ?_
      refine q_get b dX8_mend_23 lfX8_33 (tlt rfl) ct_0 rfl ?_
      refine w_iload_n b dX8_mend_26 rfl ?_
      refine w_callV (d' := 31) (mc' := 0) (ms' := 0) (st := []) (vs := [.int (iI (c : Int))]) b dX8_mend_27 lmX8_80 rfl rfl (cpS (tlt rfl) ct_230) (tle rfl) (by omega) (by omega) (by omega) (k_fm0 hD hc hw hl) (fun r σ' hz => ?_)
      obtain ⟨rfl, bg1, en1, rfl⟩ := hz
      have e8 : (if lenM (F 3) (F 4) (F 5) (w : Int) (c : Int) < 0 then -6 else -4) = -6 ∨ (if lenM (F 3) (F 4) (F 5) (w : Int) (c : Int) < 0 then -6 else -4) = -4 := by split <;> omega
      change WW X g _ _ _ _ _ _ [.int (iI (if lenM (F 3) (F 4) (F 5) (w : Int) (c : Int) < 0 then -6 else -4))] _
      generalize hgv : (if lenM (F 3) (F 4) (F 5) (w : Int) (c : Int) < 0 then -6 else -4) = z9 at e8 ⊢
      refine w_istore_n b dX8_mend_30 (tlt rfl) rfl ?_
      refine w_iload_n b dX8_mend_31 rfl ?_
      refine z_if_ge (tgt := 37) b dX8_mend_32 (by decide) (by omega) (fun c32 => ?_) (fun c32 => ?_)
      · exfalso; omega
      · refine w_iload_n b dX8_mend_35 rfl ?_
        exact w_iret b dX8_mend_36 rfl (by omega) (by omega) ⟨rfl, ⟨_, _, scC_N C A _ _ _ _, rfl⟩⟩
    · exfalso; omega
set_option maxRecDepth 20000 in
theorem k_X8_mended0 {l0 : Launch} {g : Gw} {w nx : Nat} {h : Nat → va_E} {C : Nat → Nat → Int} {A : Nat → Int → Int} {V : Nat → Value} {I : Nat → Int} {F : Nat → Int → Int} {ca : Nat → Nat} {sa : Nat → Nat → Nat} {own : Nat → Nat}  {c : Nat} (hD : RDy h nx C V I F ca sa own) (hc : (c : Int) < I 2) (hw : 4 ≤ w ∧ w ≤ 40) (hl : lenM (F 3) (F 4) (F 5) (w : Int) (c : Int) < 0 ∨ lenM (F 3) (F 4) (F 5) (w : Int) (c : Int) = (w : Int)) : MM l0 g 33 mX8_mended (cp w C A V h, nx) [.ref 0, .int (iI ((c : Int)))] 0 0 (fun r σ' => r = some (.int (iI (if lenM (F 3) (F 4) (F 5) (w : Int) (c : Int) < 0 then -6 else -4))) ∧ ∃ (C' : Nat → Nat → Int) (A' : Nat → Int → Int), scC C A C' A' ∧ σ' = (cp w C' A' V h, nx)) := by
  have hn2 := hD.n2
  refine MM.of (by decide +kernel) (by simp [Value.category]) (tle rfl) (fun X b => ?_)
  change WW X g _ _ 0 0 0 [some (.ref 0), some (.int (iI ((c : Int)))), none] [] _
  refine w_aload_n b dX8_mended_0 rfl rfl ?_
  refine q_get b dX8_mended_1 lfX8_33 (tlt rfl) ct_0 rfl ?_
  refine w_iload_n b dX8_mended_4 rfl ?_
  refine c_V1 b dX8_mended_5 lmX8_63 (cpS (tlt rfl) ct_230) (k_X0_hasChant hD (by omega)) (tle rfl) (by omega) (by omega) (by omega) ?_
  refine z_ifb_ne (tgt := 13) b dX8_mended_8 (by decide) (fun c8 => ?_) (fun c8 => ?_)
  · refine w_aload_n b dX8_mended_13 rfl rfl ?_
    refine q_get b dX8_mended_14 lfX8_33 (tlt rfl) ct_0 rfl ?_
    refine w_iload_n b dX8_mended_17 rfl ?_
    refine w_callV (d' := 31) (mc' := 0) (ms' := 0) (st := []) (vs := [.int (iI (c : Int))]) b dX8_mended_18 lmX8_80 rfl rfl (cpS (tlt rfl) ct_230) (tle rfl) (by omega) (by omega) (by omega) (k_fm0 hD hc hw hl) (fun r σ' hz => ?_)
    obtain ⟨rfl, bg1, en1, rfl⟩ := hz
    have e8 : (if lenM (F 3) (F 4) (F 5) (w : Int) (c : Int) < 0 then -6 else -4) = -6 ∨ (if lenM (F 3) (F 4) (F 5) (w : Int) (c : Int) < 0 then -6 else -4) = -4 := by split <;> omega
    change WW X g _ _ _ _ _ _ [.int (iI (if lenM (F 3) (F 4) (F 5) (w : Int) (c : Int) < 0 then -6 else -4))] _
    generalize hgv : (if lenM (F 3) (F 4) (F 5) (w : Int) (c : Int) < 0 then -6 else -4) = z9 at e8 ⊢
    refine w_istore_n b dX8_mended_21 (tlt rfl) rfl ?_
    refine w_iload_n b dX8_mended_22 rfl ?_
    refine z_if_ge (tgt := 28) b dX8_mended_23 (by decide) (by omega) (fun c23 => ?_) (fun c23 => ?_)
    · exfalso; omega
    · refine w_iload_n b dX8_mended_26 rfl ?_
      exact w_iret b dX8_mended_27 rfl (by omega) (by omega) ⟨rfl, ⟨_, _, scC_N C A _ _ _ _, rfl⟩⟩
  · exfalso; omega
set_option maxRecDepth 20000 in
theorem k_X8_mend1 {l0 : Launch} {g : Gw} {w nx : Nat} {h : Nat → va_E} {C : Nat → Nat → Int} {A : Nat → Int → Int} {V : Nat → Value} {I : Nat → Int} {F : Nat → Int → Int} {ca : Nat → Nat} {sa : Nat → Nat → Nat} {own : Nat → Nat} {k i9 j9 : Int} {c : Nat} (hD : RDy h nx C V I F ca sa own) (hc : (c : Int) < I 2) (hw : 4 ≤ w ∧ w ≤ 40) (hl : 0 ≤ lenM (F 3) (F 4) (F 5) (w : Int) (c : Int)) (hne : ¬ lenM (F 3) (F 4) (F 5) (w : Int) (c : Int) = (w : Int)) (hk : 0 ≤ k ∧ k ≤ 1) : MM l0 g 33 mX8_mend (cp w C A V h, nx) [.ref 0, .int (iI ((c : Int))), .int (iI (k))] 0 0 (fun r σ' => r = some (.int (iI (if (fmS (F 3) (F 4) (F 5) (w : Int) (c : Int) (F 3 (c : Int)).toNat 0 (41, i9, j9)).1 < 41 then (if k = 0 then (fmS (F 3) (F 4) (F 5) (w : Int) (c : Int) (F 3 (c : Int)).toNat 0 (41, i9, j9)).2.1 else (fmS (F 3) (F 4) (F 5) (w : Int) (c : Int) (F 3 (c : Int)).toNat 0 (41, i9, j9)).2.2) else -4))) ∧ ∃ (C' : Nat → Nat → Int) (A' : Nat → Int → Int), scC C A C' A' ∧ σ' = (cp w C' A' V h, nx)) := by
  have hn2 := hD.n2
  have hw0 := (hD.wf c (by omega) hc).1
  refine MM.of (by decide +kernel) (by simp [Value.category]) (tle rfl) (fun X b => ?_)
  change WW X g _ _ 0 0 0 [some (.ref 0), some (.int (iI ((c : Int)))), some (.int (iI (k))), none] [] _
  refine w_aload_n b dX8_mend_0 rfl rfl ?_
  refine q_get b dX8_mend_1 lfX8_33 (tlt rfl) ct_0 rfl ?_
  refine w_iload_n b dX8_mend_4 rfl ?_
  refine c_V1 b dX8_mend_5 lmX8_63 (cpS (tlt rfl) ct_230) (k_X0_hasChant hD (by omega)) (tle rfl) (by omega) (by omega) (by omega) ?_
  refine z_ifb_eq (tgt := 20) b dX8_mend_8 (by decide) (fun c8 => ?_) (fun c8 => ?_)
  · exfalso; omega
  · refine w_iload_n b dX8_mend_11 rfl ?_
    refine z_iconst b dX8_mend_12 ?_
    refine z_iconst b dX8_mend_13 ?_
    refine c_S3 b dX8_mend_14 lmX8_74 (k_X8_isWithin (by omega) (by omega) (by omega)) (tle rfl) (by omega) (by omega) (by omega) ?_
    refine z_ifb_ne (tgt := 22) b dX8_mend_17 (by decide) (fun c17 => ?_) (fun c17 => ?_)
    · refine w_aload_n b dX8_mend_22 rfl rfl ?_
      refine q_get b dX8_mend_23 lfX8_33 (tlt rfl) ct_0 rfl ?_
      refine w_iload_n b dX8_mend_26 rfl ?_
      refine w_callV (d' := 31) (mc' := 0) (ms' := 0) (st := []) (vs := [.int (iI (c : Int))]) b dX8_mend_27 lmX8_80 rfl rfl (cpS (tlt rfl) ct_230) (tle rfl) (by omega) (by omega) (by omega) (k_fm1 hD hc hw hl hne) (fun r σ' hz => ?_)
      obtain ⟨bg1, x1, y1, en1, rfl, ⟨rfl, hm⟩ | ⟨rfl, hm⟩⟩ := hz
      · have hx := hm.1
        have hN := ((hD.wf c (by omega) hc).2 x1 hx.1.1 hx.1.2).2.1 hx.2.1
        have e9 := mnd_fmS (S := F 3) (K := F 4) (N := F 5) (w := (w : Int)) (c := (c : Int)) hw0.1 hN hm i9 j9
        have e8 : dst (F 5) (c : Int) x1 y1 < 41 := by have := hx.2.2.1; unfold dst; split <;> omega
        change WW X g _ _ _ _ _ _ [.int (iI 0)] _
        refine w_istore_n b dX8_mend_30 (tlt rfl) rfl ?_
        refine w_iload_n b dX8_mend_31 rfl ?_
        refine z_if_ge (tgt := 37) b dX8_mend_32 (by decide) (by omega) (fun c32 => ?_) (fun c32 => ?_)
        · refine w_iload_n b dX8_mend_37 rfl ?_
          refine z_if_ne (tgt := 51) b dX8_mend_38 (by decide) (by omega) (fun c38 => ?_) (fun c38 => ?_)
          · refine w_aload_n b dX8_mend_51 rfl rfl ?_
            refine q_get b dX8_mend_52 lfX8_33 (tlt rfl) ct_0 rfl ?_
            refine q_get (v := .int (iI y1)) b dX8_mend_55 lfX8_86 (tlt rfl) ct_230 rfl ?_
            exact w_iret b dX8_mend_58 rfl (by omega) (by omega) ⟨iv_eq (by rw [e9, if_pos e8]; first | rw [if_pos (by omega)] | rw [if_neg (by omega)]), ⟨_, _, scC_N C A _ _ _ _, rfl⟩⟩
          · refine w_aload_n b dX8_mend_41 rfl rfl ?_
            refine q_get b dX8_mend_42 lfX8_33 (tlt rfl) ct_0 rfl ?_
            refine q_get (v := .int (iI x1)) b dX8_mend_45 lfX8_83 (tlt rfl) ct_230 rfl ?_
            refine w_goto (tgt := 58) b dX8_mend_48 (by decide) ?_
            exact w_iret b dX8_mend_58 rfl (by omega) (by omega) ⟨iv_eq (by rw [e9, if_pos e8]; first | rw [if_pos (by omega)] | rw [if_neg (by omega)]), ⟨_, _, scC_N C A _ _ _ _, rfl⟩⟩
        · exfalso; omega
      · have e9 := fmS_none (S := F 3) (K := F 4) (N := F 5) (w := (w : Int)) (c := (c : Int)) hm (41, i9, j9) hw0.1
        change WW X g _ _ _ _ _ _ [.int (iI (-4))] _
        refine w_istore_n b dX8_mend_30 (tlt rfl) rfl ?_
        refine w_iload_n b dX8_mend_31 rfl ?_
        refine z_if_ge (tgt := 37) b dX8_mend_32 (by decide) (by omega) (fun c32 => ?_) (fun c32 => ?_)
        · exfalso; omega
        · refine w_iload_n b dX8_mend_35 rfl ?_
          exact w_iret b dX8_mend_36 rfl (by omega) (by omega) ⟨iv_eq (by rw [e9]; exact (if_neg (by show ¬ (41 : Int) < 41; omega)).symm), ⟨_, _, scC_N C A _ _ _ _, rfl⟩⟩
    · exfalso; omega
