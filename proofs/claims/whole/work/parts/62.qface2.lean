/-! THE CLASS: mended, told (by p62.py) -/
set_option maxRecDepth 20000 in
theorem k_mendAsFound {l0 : Launch} {g : Gw} {w nx : Nat} {h : Nat → va_E} {C : Nat → Nat → Int} {A : Nat → Int → Int} {V : Nat → Value} {I : Nat → Int} {F : Nat → Int → Int} {ca : Nat → Nat} {sa : Nat → Nat → Nat} {own : Nat → Nat} {c s : Nat} {bg v : Int} {en : Int → Int} (hD : RDy h nx C V I F ca sa own) (hc : (c : Int) < I 2) (hs : (s : Int) < F 3 (c : Int)) (hv : 1 ≤ v ∧ v ≤ 40) : MD l0 g 5 mX0_mendAsFound (cp w (cN C bg (s : Int) v) (aM A en) V h, nx) [.ref 230, .int (iI (c : Int))] 0 0 none (cp w (cN C bg (s : Int) v) (aM A en) V (va_up h (sa c s) (stE (fN F (12 * (c : Int) + (s : Int)) v) (12 * (c : Int) + (s : Int)))), nx) := by
  have hn2 := hD.n2
  have hw0 := (hD.wf c (by omega) hc).1
  obtain ⟨o1, o2, o3, o4⟩ := hD.os c s hc hs
  refine MD.of (by decide +kernel) (by simp [Value.category]) (tle rfl) (fun X b => ?_)
  change WW X g _ _ 0 0 0 [some (.ref 230), some (.int (iI ((c : Int))))] [] _
  refine w_aload_n b dX0_mendAsFound_0 rfl rfl ?_
  refine w_iload_n b dX0_mendAsFound_1 rfl ?_
  refine w_aload_n b dX0_mendAsFound_2 rfl rfl ?_
  refine q_get (v := .int (iI (s : Int))) b dX0_mendAsFound_3 lfX0_141 (tlt rfl) ct_230 rfl ?_
  refine c_V2 b dX0_mendAsFound_6 lmX0_147 (cpS (tlt rfl) ct_230) (k_X0_hasStep1 (hD.cN bg (s : Int) v) (by omega) hc) (tle rfl) (by omega) (by omega) (by omega) ?_
  refine z_ifb_eq (tgt := 28) b dX0_mendAsFound_9 (by decide) (fun c9 => ?_) (fun c9 => ?_)
  · exfalso; omega
  · refine w_aload_n b dX0_mendAsFound_12 rfl rfl ?_
    refine w_iload_n b dX0_mendAsFound_13 rfl ?_
    refine w_aload_n b dX0_mendAsFound_14 rfl rfl ?_
    refine q_get (v := .int (iI (s : Int))) b dX0_mendAsFound_15 lfX0_141 (tlt rfl) ct_230 rfl ?_
    refine c_V2 b dX0_mendAsFound_18 lmX0_134 (cpS (tlt rfl) ct_230) (k_X0_stepOf (hD.cN bg (s : Int) v) hc hs) (tle rfl) (by omega) (by omega) (by omega) ?_
    refine w_aload_n b dX0_mendAsFound_21 rfl rfl ?_
    refine q_get (v := .int (iI v)) b dX0_mendAsFound_22 lfX0_144 (tlt rfl) ct_230 rfl ?_
    refine w_putf b dX0_mendAsFound_25 lfX0_79 gcX5 gtX5_2 (fun z => by cases z) ((hD.cN bg (s : Int) v).step hc hs) (tlt rfl) rfl rfl ?_
    change WW X g _ _ _ _ _ _ _ (va_up (cp w (cN C bg (s : Int) v) (aM A en) V h) (sa c s) (.inr (5, [.int (iI (F 4 (12 * (c : Int) + (s : Int)))), .int (iI (F 6 (12 * (c : Int) + (s : Int)))), .int (iI v)])), nx)
    rw [← stE_fN F (12 * (c : Int) + (s : Int)) v, cp_uph (by omega)]
    exact w_vret b dX0_mendAsFound_28 rfl (by omega) (by omega) ⟨rfl, rfl⟩
set_option maxRecDepth 20000 in
theorem k_X8_mended1 {l0 : Launch} {g : Gw} {w nx : Nat} {h : Nat → va_E} {C : Nat → Nat → Int} {A : Nat → Int → Int} {V : Nat → Value} {I : Nat → Int} {F : Nat → Int → Int} {ca : Nat → Nat} {sa : Nat → Nat → Nat} {own : Nat → Nat} {i9 j9 : Int} {c : Nat} (hD : RDy h nx C V I F ca sa own) (hc : (c : Int) < I 2) (hw : 4 ≤ w ∧ w ≤ 40) (hl : 0 ≤ lenM (F 3) (F 4) (F 5) (w : Int) (c : Int)) (hne : ¬ lenM (F 3) (F 4) (F 5) (w : Int) (c : Int) = (w : Int)) (hno : ¬ (fmS (F 3) (F 4) (F 5) (w : Int) (c : Int) (F 3 (c : Int)).toNat 0 (41, i9, j9)).1 < 41) : MM l0 g 33 mX8_mended (cp w C A V h, nx) [.ref 0, .int (iI ((c : Int)))] 0 0 (fun r σ' => r = some (.int (iI (-4))) ∧ ∃ (C' : Nat → Nat → Int) (A' : Nat → Int → Int), scC C A C' A' ∧ σ' = (cp w C' A' V h, nx)) := by
  have hn2 := hD.n2
  have hw0 := (hD.wf c (by omega) hc).1
  refine MM.of (by decide +kernel) (by simp [Value.category]) (tle rfl) (fun X b => ?_)
  change WW X g _ _ 0 0 0 [some (.ref 0), some (.int (iI ((c : Int)))), none] [] _
  refine w_aload_n b dX8_mended_0 rfl rfl ?_
  refine q_get b dX8_mended_1 lfX8_33 (tlt rfl) ct_0 rfl ?_
  refine w_iload_n b dX8_mended_4 rfl ?_
  refine c_V1 b dX8_mended_5 lmX8_63 (cpS (tlt rfl) ct_230) (k_X0_hasChant hD (by omega)) (tle rfl) (by omega) (by omega) (by omega) ?_
  refine z_ifb_ne (tgt := 13) b dX8_mended_8 (by decide) (fun c8 => ?_) (fun c8 => ?_)
  · refine w_aload_n b dX8_mended_13 rfl rfl ?_
    refine q_get b dX8_mended_14 lfX8_33 (tlt rfl) ct_0 rfl ?_
    refine w_iload_n b dX8_mended_17 rfl ?_
    refine w_callV (d' := 31) (mc' := 0) (ms' := 0) (st := []) (vs := [.int (iI (c : Int))]) b dX8_mended_18 lmX8_80 rfl rfl (cpS (tlt rfl) ct_230) (tle rfl) (by omega) (by omega) (by omega) (k_fm1 hD hc hw hl hne) (fun r σ' hz => ?_)
    obtain ⟨bg1, x1, y1, en1, rfl, ⟨rfl, hm⟩ | ⟨rfl, hm⟩⟩ := hz
    · have hx := hm.1
      have hN := ((hD.wf c (by omega) hc).2 x1 hx.1.1 hx.1.2).2.1 hx.2.1
      have e9 := mnd_fmS (S := F 3) (K := F 4) (N := F 5) (w := (w : Int)) (c := (c : Int)) hw0.1 hN hm i9 j9
      have e8 : dst (F 5) (c : Int) x1 y1 < 41 := by have := hx.2.2.1; unfold dst; split <;> omega
      change WW X g _ _ _ _ _ _ [.int (iI 0)] _
      exfalso
      rw [e9] at hno
      exact hno e8
    · have e9 := fmS_none (S := F 3) (K := F 4) (N := F 5) (w := (w : Int)) (c := (c : Int)) hm (41, i9, j9) hw0.1
      change WW X g _ _ _ _ _ _ [.int (iI (-4))] _
      refine w_istore_n b dX8_mended_21 (tlt rfl) rfl ?_
      refine w_iload_n b dX8_mended_22 rfl ?_
      refine z_if_ge (tgt := 28) b dX8_mended_23 (by decide) (by omega) (fun c23 => ?_) (fun c23 => ?_)
      · exfalso; omega
      · refine w_iload_n b dX8_mended_26 rfl ?_
        exact w_iret b dX8_mended_27 rfl (by omega) (by omega) ⟨rfl, ⟨_, _, scC_N C A _ _ _ _, rfl⟩⟩
  · exfalso; omega
set_option maxRecDepth 20000 in
theorem k_X8_mended2 {l0 : Launch} {g : Gw} {w nx : Nat} {h : Nat → va_E} {C : Nat → Nat → Int} {A : Nat → Int → Int} {V : Nat → Value} {I : Nat → Int} {F : Nat → Int → Int} {ca : Nat → Nat} {sa : Nat → Nat → Nat} {own : Nat → Nat} {i9 j9 : Int} {c : Nat} (hD : RDy h nx C V I F ca sa own) (hc : (c : Int) < I 2) (hw : 4 ≤ w ∧ w ≤ 40) (hl : 0 ≤ lenM (F 3) (F 4) (F 5) (w : Int) (c : Int)) (hne : ¬ lenM (F 3) (F 4) (F 5) (w : Int) (c : Int) = (w : Int)) (hyes : (fmS (F 3) (F 4) (F 5) (w : Int) (c : Int) (F 3 (c : Int)).toNat 0 (41, i9, j9)).1 < 41) : MM l0 g 33 mX8_mended (cp w C A V h, nx) [.ref 0, .int (iI ((c : Int)))] 0 0 (fun r σ' => r = some (.int (iI (w : Int))) ∧ mnd (F 3) (F 4) (F 5) (w : Int) (c : Int) (fmS (F 3) (F 4) (F 5) (w : Int) (c : Int) (F 3 (c : Int)).toNat 0 (41, i9, j9)).2.1 (fmS (F 3) (F 4) (F 5) (w : Int) (c : Int) (F 3 (c : Int)).toNat 0 (41, i9, j9)).2.2 ∧ ∃ (C' : Nat → Nat → Int) (A' : Nat → Int → Int), scC C A C' A' ∧ σ' = (cp w C' A' V (va_up h (sa c ((fmS (F 3) (F 4) (F 5) (w : Int) (c : Int) (F 3 (c : Int)).toNat 0 (41, i9, j9)).2.1).toNat) (stE (fN F (12 * (c : Int) + (fmS (F 3) (F 4) (F 5) (w : Int) (c : Int) (F 3 (c : Int)).toNat 0 (41, i9, j9)).2.1) (fmS (F 3) (F 4) (F 5) (w : Int) (c : Int) (F 3 (c : Int)).toNat 0 (41, i9, j9)).2.2) (12 * (c : Int) + (fmS (F 3) (F 4) (F 5) (w : Int) (c : Int) (F 3 (c : Int)).toNat 0 (41, i9, j9)).2.1))), nx)) := by
  have hn2 := hD.n2
  have hw0 := (hD.wf c (by omega) hc).1
  refine MM.of (by decide +kernel) (by simp [Value.category]) (tle rfl) (fun X b => ?_)
  change WW X g _ _ 0 0 0 [some (.ref 0), some (.int (iI ((c : Int)))), none] [] _
  refine w_aload_n b dX8_mended_0 rfl rfl ?_
  refine q_get b dX8_mended_1 lfX8_33 (tlt rfl) ct_0 rfl ?_
  refine w_iload_n b dX8_mended_4 rfl ?_
  refine c_V1 b dX8_mended_5 lmX8_63 (cpS (tlt rfl) ct_230) (k_X0_hasChant hD (by omega)) (tle rfl) (by omega) (by omega) (by omega) ?_
  refine z_ifb_ne (tgt := 13) b dX8_mended_8 (by decide) (fun c8 => ?_) (fun c8 => ?_)
  · refine w_aload_n b dX8_mended_13 rfl rfl ?_
    refine q_get b dX8_mended_14 lfX8_33 (tlt rfl) ct_0 rfl ?_
    refine w_iload_n b dX8_mended_17 rfl ?_
    refine w_callV (d' := 31) (mc' := 0) (ms' := 0) (st := []) (vs := [.int (iI (c : Int))]) b dX8_mended_18 lmX8_80 rfl rfl (cpS (tlt rfl) ct_230) (tle rfl) (by omega) (by omega) (by omega) (k_fm1 hD hc hw hl hne) (fun r σ' hz => ?_)
    obtain ⟨bg1, x1, y1, en1, rfl, ⟨rfl, hm⟩ | ⟨rfl, hm⟩⟩ := hz
    · have hx := hm.1
      have hN := ((hD.wf c (by omega) hc).2 x1 hx.1.1 hx.1.2).2.1 hx.2.1
      have e9 := mnd_fmS (S := F 3) (K := F 4) (N := F 5) (w := (w : Int)) (c := (c : Int)) hw0.1 hN hm i9 j9
      have e8 : dst (F 5) (c : Int) x1 y1 < 41 := by have := hx.2.2.1; unfold dst; split <;> omega
      change WW X g _ _ _ _ _ _ [.int (iI 0)] _
      obtain ⟨s, hs0⟩ := Int.eq_ofNat_of_zero_le hx.1.1
      subst hs0
      have hs : (s : Int) < F 3 (c : Int) := hx.1.2
      rw [e9]
      show WW X g _ (ZQ X g (fun r σ' => r = some (.int (iI (w : Int))) ∧ mnd (F 3) (F 4) (F 5) (w : Int) (c : Int) (s : Int) y1 ∧ ∃ (C' : Nat → Nat → Int) (A' : Nat → Int → Int), scC C A C' A' ∧ σ' = (cp w C' A' V (va_up h (sa c ((s : Int)).toNat) (stE (fN F (12 * (c : Int) + (s : Int)) y1) (12 * (c : Int) + (s : Int)))), nx)) 0 0) _ _ _ _ _ _
      rw [Int.toNat_natCast]
      refine w_istore_n b dX8_mended_21 (tlt rfl) rfl ?_
      refine w_iload_n b dX8_mended_22 rfl ?_
      refine z_if_ge (tgt := 28) b dX8_mended_23 (by decide) (by omega) (fun c23 => ?_) (fun c23 => ?_)
      · refine w_aload_n b dX8_mended_28 rfl rfl ?_
        refine q_get b dX8_mended_29 lfX8_33 (tlt rfl) ct_0 rfl ?_
        refine w_iload_n b dX8_mended_32 rfl ?_
        refine c_V1v b dX8_mended_33 lmX8_89 (cpS (tlt rfl) ct_230) (k_mendAsFound hD hc hs hx.2.2.1) (tle rfl) (by omega) (by omega) (by omega) ?_
        refine w_aload_n b dX8_mended_36 rfl rfl ?_
        refine q_get b dX8_mended_37 lfX8_33 (tlt rfl) ct_0 rfl ?_
        refine w_iload_n b dX8_mended_40 rfl ?_
        refine w_callV (d' := 29) (mc' := 0) (ms' := 0) (st := []) (vs := [.int (iI (c : Int))]) b dX8_mended_41 lmX8_67 rfl rfl (cpS (tlt rfl) ct_230) (tle rfl) (by omega) (by omega) (by omega) (k_X0_measured ((hD.upN hc hs hx.2.1 hx.2.2.1).cN bg1 _ _) hc hw) (fun r σ' hz => ?_)
        obtain ⟨bg2, en2, q1, q2, q3, q4⟩ := hz
        subst q2
        rw [cN_cM, aM_aM]
        cases ho2 : ms (F 3) (F 4) (fu (F 5) (12 * (c : Int) + (s : Int)) y1) 12 (c : Int) (w : Int) (0, 0) with
        | none => exfalso; have z9 := hx.2.2.2; rw [lenM_ms.1 ho2] at z9; omega
        | some p =>
          obtain ⟨p1, p2, p3, p4⟩ := q4 p ho2
          have z9 := hx.2.2.2
          rw [lenM_ms.2 p ho2] at z9
          subst p2
          change WW X g _ _ _ _ _ _ [.int (iI (p.1 - 0))] _
          rw [Int.sub_zero, z9]
          exact w_iret b dX8_mended_44 rfl (by omega) (by omega) ⟨rfl, hm, _, _, scC_N C A _ _ _ _, rfl⟩
      · exfalso; omega
    · have e9 := fmS_none (S := F 3) (K := F 4) (N := F 5) (w := (w : Int)) (c := (c : Int)) hm (41, i9, j9) hw0.1
      change WW X g _ _ _ _ _ _ [.int (iI (-4))] _
      exfalso
      rw [e9] at hyes
      exact absurd hyes (by show ¬ (41 : Int) < 41; omega)
  · exfalso; omega
set_option maxRecDepth 20000 in
theorem k_X8_toldA {l0 : Launch} {g : Gw} {w nx : Nat} {h : Nat → va_E} {C : Nat → Nat → Int} {A : Nat → Int → Int} {V : Nat → Value} {I : Nat → Int} {F : Nat → Int → Int} {ca : Nat → Nat} {sa : Nat → Nat → Nat} {own : Nat → Nat} {c s k : Int} (hD : RDy h nx C V I F ca sa own) (hci : inR c) (hs : inR s) (hk : inR k) (hb : ¬ (0 ≤ c ∧ c < I 2)) : MD l0 g 4 mX8_told (cp w C A V h, nx) [.ref 0, .int (iI (c)), .int (iI (s)), .int (iI (k))] 0 0 (some (.int (iI (-1)))) (cp w C A V h, nx) := by
  have hn2 := hD.n2
  refine MD.of (by decide +kernel) (by simp [Value.category]) (tle rfl) (fun X b => ?_)
  change WW X g _ _ 0 0 0 [some (.ref 0), some (.int (iI (c))), some (.int (iI (s))), some (.int (iI (k))), none] [] _
  refine w_aload_n b dX8_told_0 rfl rfl ?_
  refine q_get b dX8_told_1 lfX8_33 (tlt rfl) ct_0 rfl ?_
  refine w_iload_n b dX8_told_4 rfl ?_
  refine w_iload_n b dX8_told_5 rfl ?_
  refine c_V2 b dX8_told_6 lmX8_92 (cpS (tlt rfl) ct_230) (k_X0_hasStep0 hD hci hb) (tle rfl) (by omega) (by omega) (by omega) ?_
  refine z_if_ne (tgt := 14) b dX8_told_9 (by decide) (by omega) (fun c9 => ?_) (fun c9 => ?_)
  · exfalso; omega
  · refine z_iconst b dX8_told_12 ?_
    exact w_iret b dX8_told_13 rfl (by omega) (by omega) ⟨iv_eq (by first | rfl | omega | ((try simp only [b2]); ((repeat' split) <;> (first | rfl | omega)))), rfl⟩
set_option maxRecDepth 20000 in
theorem k_X8_toldB {l0 : Launch} {g : Gw} {w nx : Nat} {h : Nat → va_E} {C : Nat → Nat → Int} {A : Nat → Int → Int} {V : Nat → Value} {I : Nat → Int} {F : Nat → Int → Int} {ca : Nat → Nat} {sa : Nat → Nat → Nat} {own : Nat → Nat} {c : Nat} {s k : Int} (hD : RDy h nx C V I F ca sa own) (hc : (c : Int) < I 2) (hs : inR s) (hk : inR k) (hb : ¬ (0 ≤ s ∧ s < F 3 (c : Int))) : MD l0 g 4 mX8_told (cp w C A V h, nx) [.ref 0, .int (iI ((c : Int))), .int (iI (s)), .int (iI (k))] 0 0 (some (.int (iI (-1)))) (cp w C A V h, nx) := by
  have hn2 := hD.n2
  refine MD.of (by decide +kernel) (by simp [Value.category]) (tle rfl) (fun X b => ?_)
  change WW X g _ _ 0 0 0 [some (.ref 0), some (.int (iI ((c : Int)))), some (.int (iI (s))), some (.int (iI (k))), none] [] _
  refine w_aload_n b dX8_told_0 rfl rfl ?_
  refine q_get b dX8_told_1 lfX8_33 (tlt rfl) ct_0 rfl ?_
  refine w_iload_n b dX8_told_4 rfl ?_
  refine w_iload_n b dX8_told_5 rfl ?_
  refine c_V2 b dX8_told_6 lmX8_92 (cpS (tlt rfl) ct_230) (k_X0_hasStep1 hD hs hc) (tle rfl) (by omega) (by omega) (by omega) ?_
  refine z_ifb_ne (tgt := 14) b dX8_told_9 (by decide) (fun c9 => ?_) (fun c9 => ?_)
  · exfalso; omega
  · refine z_iconst b dX8_told_12 ?_
    exact w_iret b dX8_told_13 rfl (by omega) (by omega) ⟨iv_eq (by first | rfl | omega | ((try simp only [b2]); ((repeat' split) <;> (first | rfl | omega)))), rfl⟩
set_option maxRecDepth 20000 in
theorem k_X8_toldC {l0 : Launch} {g : Gw} {w nx : Nat} {h : Nat → va_E} {C : Nat → Nat → Int} {A : Nat → Int → Int} {V : Nat → Value} {I : Nat → Int} {F : Nat → Int → Int} {ca : Nat → Nat} {sa : Nat → Nat → Nat} {own : Nat → Nat} {c s : Nat} {k : Int} (hD : RDy h nx C V I F ca sa own) (hc : (c : Int) < I 2) (hs : (s : Int) < F 3 (c : Int)) (hk : 0 ≤ k ∧ k ≤ 2) : MD l0 g 4 mX8_told (cp w C A V h, nx) [.ref 0, .int (iI ((c : Int))), .int (iI ((s : Int))), .int (iI (k))] 0 0 (some (.int (iI (if k = 0 then F 4 (12 * (c : Int) + (s : Int)) else if k = 1 then (if F 4 (12 * (c : Int) + (s : Int)) = 0 ∨ (3 ≤ F 4 (12 * (c : Int) + (s : Int)) ∧ F 4 (12 * (c : Int) + (s : Int)) ≤ 5) then F 5 (12 * (c : Int) + (s : Int)) else -2) else (if F 4 (12 * (c : Int) + (s : Int)) = 0 ∨ F 4 (12 * (c : Int) + (s : Int)) = 1 then F 6 (12 * (c : Int) + (s : Int)) else -2))))) (cp w C A V h, nx) := by
  have hn2 := hD.n2
  have hw0 := (hD.wf c (by omega) hc).1
  have hw5 := ((hD.wf c (by omega) hc).2 s (by omega) hs).1
  refine MD.of (by decide +kernel) (by simp [Value.category]) (tle rfl) (fun X b => ?_)
  change WW X g _ _ 0 0 0 [some (.ref 0), some (.int (iI ((c : Int)))), some (.int (iI ((s : Int)))), some (.int (iI (k))), none] [] _
  refine w_aload_n b dX8_told_0 rfl rfl ?_
  refine q_get b dX8_told_1 lfX8_33 (tlt rfl) ct_0 rfl ?_
  refine w_iload_n b dX8_told_4 rfl ?_
  refine w_iload_n b dX8_told_5 rfl ?_
  refine c_V2 b dX8_told_6 lmX8_92 (cpS (tlt rfl) ct_230) (k_X0_hasStep1 hD (by omega) hc) (tle rfl) (by omega) (by omega) (by omega) ?_
  refine z_ifb_ne (tgt := 14) b dX8_told_9 (by decide) (fun c9 => ?_) (fun c9 => ?_)
  · refine w_aload_n b dX8_told_14 rfl rfl ?_
    refine q_get b dX8_told_15 lfX8_33 (tlt rfl) ct_0 rfl ?_
    refine w_iload_n b dX8_told_18 rfl ?_
    refine w_iload_n b dX8_told_19 rfl ?_
    refine c_V2 b dX8_told_20 lmX8_96 (cpS (tlt rfl) ct_230) (k_X0_stepOf hD hc hs) (tle rfl) (by omega) (by omega) (by omega) ?_
    refine w_astore b dX8_told_23 (tlt rfl) rfl rfl ?_
    refine w_iload_n b dX8_told_25 rfl ?_
    by_cases e26_0 : k = 0
    · refine w_tswI (tgt := 56) (off := 30) b dX8_told_26 (by rw [iI_toInt (by omega)]; omega) (by rw [iI_toInt (by omega)]; omega) (by rw [iI_toInt (by omega), e26_0]; rfl) (by decide) ?_
      refine w_aload b dX8_told_56 rfl rfl ?_
      refine w_getf b dX8_told_58 lfX8_100 (hD.step hc hs) rfl ?_
      exact w_iret b dX8_told_61 rfl (by omega) (by omega) ⟨iv_eq (by (repeat' split) <;> first | rfl | omega), rfl⟩
    by_cases e26_1 : k = 1
    · refine w_tswI (tgt := 62) (off := 36) b dX8_told_26 (by rw [iI_toInt (by omega)]; omega) (by rw [iI_toInt (by omega)]; omega) (by rw [iI_toInt (by omega), e26_1]; rfl) (by decide) ?_
      refine w_aload b dX8_told_62 rfl rfl ?_
      refine c_V0 b dX8_told_64 lmX8_105 (hD.step hc hs) (k_X5_hasN (hD.step hc hs) hw5) (tle rfl) (by omega) (by omega) (by omega) ?_
      refine z_ifb_eq (tgt := 78) b dX8_told_67 (by decide) (fun c67 => ?_) (fun c67 => ?_)
      · refine z_bipush b dX8_told_78 (by decide) ?_
        exact w_iret b dX8_told_80 rfl (by omega) (by omega) ⟨iv_eq (by (repeat' split) <;> first | rfl | omega), rfl⟩
      · refine w_aload b dX8_told_70 rfl rfl ?_
        refine w_getf b dX8_told_72 lfX8_109 (hD.step hc hs) rfl ?_
        refine w_goto (tgt := 80) b dX8_told_75 (by decide) ?_
        exact w_iret b dX8_told_80 rfl (by omega) (by omega) ⟨iv_eq (by (repeat' split) <;> first | rfl | omega), rfl⟩
    by_cases e26_2 : k = 2
    · refine w_tswI (tgt := 81) (off := 55) b dX8_told_26 (by rw [iI_toInt (by omega)]; omega) (by rw [iI_toInt (by omega)]; omega) (by rw [iI_toInt (by omega), e26_2]; rfl) (by decide) ?_
      refine w_aload b dX8_told_81 rfl rfl ?_
      refine c_V0 b dX8_told_83 lmX8_112 (hD.step hc hs) (k_X5_hasColour (hD.step hc hs) hw5) (tle rfl) (by omega) (by omega) (by omega) ?_
      refine z_ifb_eq (tgt := 97) b dX8_told_86 (by decide) (fun c86 => ?_) (fun c86 => ?_)
      · refine z_bipush b dX8_told_97 (by decide) ?_
        exact w_iret b dX8_told_99 rfl (by omega) (by omega) ⟨iv_eq (by (repeat' split) <;> first | rfl | omega), rfl⟩
      · refine w_aload b dX8_told_89 rfl rfl ?_
        refine w_getf b dX8_told_91 lfX8_115 (hD.step hc hs) rfl ?_
        refine w_goto (tgt := 99) b dX8_told_94 (by decide) ?_
        exact w_iret b dX8_told_99 rfl (by omega) (by omega) ⟨iv_eq (by (repeat' split) <;> first | rfl | omega), rfl⟩
    by_cases e26_3 : k = 3
    · refine w_tswI (tgt := 100) (off := 74) b dX8_told_26 (by rw [iI_toInt (by omega)]; omega) (by rw [iI_toInt (by omega)]; omega) (by rw [iI_toInt (by omega), e26_3]; rfl) (by decide) ?_
      exfalso; omega
    refine w_tswO (tgt := 125) b dX8_told_26 (by rw [iI_toInt (by omega)]; omega) (by decide) ?_
    exfalso; omega
  · exfalso; omega
set_option maxRecDepth 20000 in
theorem k_X8_toldD {l0 : Launch} {g : Gw} {w nx : Nat} {h : Nat → va_E} {C : Nat → Nat → Int} {A : Nat → Int → Int} {V : Nat → Value} {I : Nat → Int} {F : Nat → Int → Int} {ca : Nat → Nat} {sa : Nat → Nat → Nat} {own : Nat → Nat} {c s : Nat} {k : Int} (hD : RDy h nx C V I F ca sa own) (hc : (c : Int) < I 2) (hs : (s : Int) < F 3 (c : Int)) (hk : inR k) (hb : ¬ (0 ≤ k ∧ k ≤ 3)) : MD l0 g 4 mX8_told (cp w C A V h, nx) [.ref 0, .int (iI ((c : Int))), .int (iI ((s : Int))), .int (iI (k))] 0 0 (some (.int (iI (-1)))) (cp w C A V h, nx) := by
  have hn2 := hD.n2
  have hw0 := (hD.wf c (by omega) hc).1
  have hw5 := ((hD.wf c (by omega) hc).2 s (by omega) hs).1
  refine MD.of (by decide +kernel) (by simp [Value.category]) (tle rfl) (fun X b => ?_)
  change WW X g _ _ 0 0 0 [some (.ref 0), some (.int (iI ((c : Int)))), some (.int (iI ((s : Int)))), some (.int (iI (k))), none] [] _
  refine w_aload_n b dX8_told_0 rfl rfl ?_
  refine q_get b dX8_told_1 lfX8_33 (tlt rfl) ct_0 rfl ?_
  refine w_iload_n b dX8_told_4 rfl ?_
  refine w_iload_n b dX8_told_5 rfl ?_
  refine c_V2 b dX8_told_6 lmX8_92 (cpS (tlt rfl) ct_230) (k_X0_hasStep1 hD (by omega) hc) (tle rfl) (by omega) (by omega) (by omega) ?_
  refine z_ifb_ne (tgt := 14) b dX8_told_9 (by decide) (fun c9 => ?_) (fun c9 => ?_)
  · refine w_aload_n b dX8_told_14 rfl rfl ?_
    refine q_get b dX8_told_15 lfX8_33 (tlt rfl) ct_0 rfl ?_
    refine w_iload_n b dX8_told_18 rfl ?_
    refine w_iload_n b dX8_told_19 rfl ?_
    refine c_V2 b dX8_told_20 lmX8_96 (cpS (tlt rfl) ct_230) (k_X0_stepOf hD hc hs) (tle rfl) (by omega) (by omega) (by omega) ?_
    refine w_astore b dX8_told_23 (tlt rfl) rfl rfl ?_
    refine w_iload_n b dX8_told_25 rfl ?_
    by_cases e26_0 : k = 0
    · refine w_tswI (tgt := 56) (off := 30) b dX8_told_26 (by rw [iI_toInt (by omega)]; omega) (by rw [iI_toInt (by omega)]; omega) (by rw [iI_toInt (by omega), e26_0]; rfl) (by decide) ?_
      exfalso; omega
    by_cases e26_1 : k = 1
    · refine w_tswI (tgt := 62) (off := 36) b dX8_told_26 (by rw [iI_toInt (by omega)]; omega) (by rw [iI_toInt (by omega)]; omega) (by rw [iI_toInt (by omega), e26_1]; rfl) (by decide) ?_
      exfalso; omega
    by_cases e26_2 : k = 2
    · refine w_tswI (tgt := 81) (off := 55) b dX8_told_26 (by rw [iI_toInt (by omega)]; omega) (by rw [iI_toInt (by omega)]; omega) (by rw [iI_toInt (by omega), e26_2]; rfl) (by decide) ?_
      exfalso; omega
    by_cases e26_3 : k = 3
    · refine w_tswI (tgt := 100) (off := 74) b dX8_told_26 (by rw [iI_toInt (by omega)]; omega) (by rw [iI_toInt (by omega)]; omega) (by rw [iI_toInt (by omega), e26_3]; rfl) (by decide) ?_
      exfalso; omega
    refine w_tswO (tgt := 125) b dX8_told_26 (by rw [iI_toInt (by omega)]; omega) (by decide) ?_
    refine z_iconst b dX8_told_125 ?_
    exact w_iret b dX8_told_126 rfl (by omega) (by omega) ⟨iv_eq (by first | rfl | omega | ((try simp only [b2]); ((repeat' split) <;> (first | rfl | omega)))), rfl⟩
  · exfalso; omega
set_option maxRecDepth 20000 in
theorem k_X8_told3 {l0 : Launch} {g : Gw} {w nx : Nat} {h : Nat → va_E} {C : Nat → Nat → Int} {A : Nat → Int → Int} {V : Nat → Value} {I : Nat → Int} {F : Nat → Int → Int} {ca : Nat → Nat} {sa : Nat → Nat → Nat} {own : Nat → Nat} {s : Nat} {c : Nat} (hD : RDy h nx C V I F ca sa own) (hc : (c : Int) < I 2) (hw : 4 ≤ w ∧ w ≤ 40) (hs : (s : Int) < F 3 (c : Int)) : MM l0 g 30 mX8_told (cp w C A V h, nx) [.ref 0, .int (iI ((c : Int))), .int (iI ((s : Int))), .int (iI (3))] 0 0 (fun r σ' => r = some (.int (iI (if lenM (F 3) (F 4) (F 5) (w : Int) (c : Int) < 0 then -6 else edM (F 5) (F 4) (ms (F 3) (F 4) (F 5) 11) (c : Int) 0 (w : Int) (F 3 (c : Int)).toNat 0 (0, 0) (A 233) (s : Int)))) ∧ ∃ (C' : Nat → Nat → Int) (A' : Nat → Int → Int), scC C A C' A' ∧ σ' = (cp w C' A' V h, nx)) := by
  have hn2 := hD.n2
  have hw0 := (hD.wf c (by omega) hc).1
  have hw5 := ((hD.wf c (by omega) hc).2 s (by omega) hs).1
  refine MM.of (by decide +kernel) (by simp [Value.category]) (tle rfl) (fun X b => ?_)
  change WW X g _ _ 0 0 0 [some (.ref 0), some (.int (iI ((c : Int)))), some (.int (iI ((s : Int)))), some (.int (iI (3))), none] [] _
  refine w_aload_n b dX8_told_0 rfl rfl ?_
  refine q_get b dX8_told_1 lfX8_33 (tlt rfl) ct_0 rfl ?_
  refine w_iload_n b dX8_told_4 rfl ?_
  refine w_iload_n b dX8_told_5 rfl ?_
  refine c_V2 b dX8_told_6 lmX8_92 (cpS (tlt rfl) ct_230) (k_X0_hasStep1 hD (by omega) hc) (tle rfl) (by omega) (by omega) (by omega) ?_
  refine z_ifb_ne (tgt := 14) b dX8_told_9 (by decide) (fun c9 => ?_) (fun c9 => ?_)
  · refine w_aload_n b dX8_told_14 rfl rfl ?_
    refine q_get b dX8_told_15 lfX8_33 (tlt rfl) ct_0 rfl ?_
    refine w_iload_n b dX8_told_18 rfl ?_
    refine w_iload_n b dX8_told_19 rfl ?_
    refine c_V2 b dX8_told_20 lmX8_96 (cpS (tlt rfl) ct_230) (k_X0_stepOf hD hc hs) (tle rfl) (by omega) (by omega) (by omega) ?_
    refine w_astore b dX8_told_23 (tlt rfl) rfl rfl ?_
    refine w_iload_n b dX8_told_25 rfl ?_
    by_cases e26_0 : (3 : Int) = 0
    · refine w_tswI (tgt := 56) (off := 30) b dX8_told_26 (by rw [iI_toInt (by omega)]; omega) (by rw [iI_toInt (by omega)]; omega) (by rw [iI_toInt (by omega), e26_0]; rfl) (by decide) ?_
      exfalso; omega
    by_cases e26_1 : (3 : Int) = 1
    · refine w_tswI (tgt := 62) (off := 36) b dX8_told_26 (by rw [iI_toInt (by omega)]; omega) (by rw [iI_toInt (by omega)]; omega) (by rw [iI_toInt (by omega), e26_1]; rfl) (by decide) ?_
      exfalso; omega
    by_cases e26_2 : (3 : Int) = 2
    · refine w_tswI (tgt := 81) (off := 55) b dX8_told_26 (by rw [iI_toInt (by omega)]; omega) (by rw [iI_toInt (by omega)]; omega) (by rw [iI_toInt (by omega), e26_2]; rfl) (by decide) ?_
      exfalso; omega
    by_cases e26_3 : (3 : Int) = 3
    · refine w_tswI (tgt := 100) (off := 74) b dX8_told_26 (by rw [iI_toInt (by omega)]; omega) (by rw [iI_toInt (by omega)]; omega) (by rw [iI_toInt (by omega), e26_3]; rfl) (by decide) ?_
      refine w_aload_n b dX8_told_100 rfl rfl ?_
      refine q_get b dX8_told_101 lfX8_33 (tlt rfl) ct_0 rfl ?_
      refine w_iload_n b dX8_told_104 rfl ?_
      refine w_callV (d' := 29) (mc' := 0) (ms' := 0) (st := []) (vs := [.int (iI (c : Int))]) b dX8_told_105 lmX8_67 rfl rfl (cpS (tlt rfl) ct_230) (tle rfl) (by omega) (by omega) (by omega) (k_X0_measured hD hc hw) (fun r σ' hz => ?_)
      obtain ⟨bg1, en1, q1, q2, q3, q4⟩ := hz
      subst q2
      cases ho2 : ms (F 3) (F 4) (F 5) 12 (c : Int) (w : Int) (0, 0) with
      | none =>
        obtain rfl := q3 ho2
        have e9 := lenM_ms.1 ho2
        change WW X g _ _ _ _ _ _ [.int (iI (-6))] _
        refine z_if_ge (tgt := 116) b dX8_told_108 (by decide) (by omega) (fun c108 => ?_) (fun c108 => ?_)
        · exfalso; omega
        · refine z_bipush b dX8_told_111 (by decide) ?_
          refine w_goto (tgt := 124) b dX8_told_113 (by decide) ?_
          exact w_iret b dX8_told_124 rfl (by omega) (by omega) ⟨iv_eq (if_pos (by rw [e9]; omega)).symm, ⟨_, _, scC_M C A bg1 en1, rfl⟩⟩
      | some p =>
        obtain ⟨p1, p2, p3, p4⟩ := q4 p ho2
        have e9 := lenM_ms.2 p ho2
        subst p2
        change WW X g _ _ _ _ _ _ [.int (iI (p.1 - 0))] _
        rw [Int.sub_zero]
        refine z_if_ge (tgt := 116) b dX8_told_108 (by decide) (by omega) (fun c108 => ?_) (fun c108 => ?_)
        · refine w_aload_n b dX8_told_116 rfl rfl ?_
          refine q_get b dX8_told_117 lfX8_33 (tlt rfl) ct_0 rfl ?_
          refine w_iload_n b dX8_told_120 rfl ?_
          refine c_V1 b dX8_told_121 lmX8_118 (cpS (tlt rfl) ct_230) (k_X0_endOf (by omega)) (tle rfl) (by omega) (by omega) (by omega) ?_
          exact w_iret b dX8_told_124 rfl (by omega) (by omega) ⟨iv_eq (by rw [e9, if_pos (show 0 ≤ (s : Int) ∧ (s : Int) < 12 by omega), if_neg (show ¬ p.1 < 0 by omega)]; show en1 (s : Int) = _; rw [p4]), ⟨_, _, scC_M C A bg1 en1, rfl⟩⟩
        · exfalso; omega
    refine w_tswO (tgt := 125) b dX8_told_26 (by rw [iI_toInt (by omega)]; omega) (by decide) ?_
    exfalso; omega
  · exfalso; omega
