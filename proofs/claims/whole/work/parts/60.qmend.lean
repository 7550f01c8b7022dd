/-! THE CLASS: the mend (by p60.py) -/
theorem cM_cN (C : Nat → Nat → Int) (bg : Int) : cM C bg = cN C bg (C 230 7) (C 230 8) := by
  unfold cM cN
  congr 1
  have e1 : va_up (va_up (C 230) 6 bg) 7 (C 230 7) = va_up (C 230) 6 bg := va_up_same (va_up (C 230) 6 bg) 7
  have e2 : va_up (va_up (C 230) 6 bg) 8 (C 230 8) = va_up (C 230) 6 bg := va_up_same (va_up (C 230) 6 bg) 8
  rw [e1, e2]
theorem lenM_ms {S K N : Int → Int} {w c : Int} : (ms S K N 12 c w (0, 0) = none → lenM S K N w c = -6) ∧ (∀ p, ms S K N 12 c w (0, 0) = some p → lenM S K N w c = p.1) := by
  unfold lenM
  exact ⟨fun h => by rw [h], fun p h => by rw [h]⟩
theorem lenM_rng {S K N : Int → Int} {w c : Int} (h : lenM S K N w c < 0) (hp : ∀ p, ms S K N 12 c w (0, 0) = some p → 0 ≤ p.1) : ms S K N 12 c w (0, 0) = none := by
  cases h1 : ms S K N 12 c w (0, 0) with
  | none => rfl
  | some p => have := hp p h1; rw [lenM_ms.2 p h1] at h; omega
set_option maxRecDepth 20000 in
theorem k_mb1 {l0 : Launch} {g : Gw} {w nx : Nat} {h : Nat → va_E} {C : Nat → Nat → Int} {A : Nat → Int → Int} {V : Nat → Value} {I : Nat → Int} {F : Nat → Int → Int} {ca : Nat → Nat} {sa : Nat → Nat → Nat} {own : Nat → Nat} {c s : Nat} {ch bg x y : Int} {en : Int → Int} (hD : RDy h nx C V I F ca sa own) (hc : (c : Int) < I 2) (hs : (s : Int) < F 3 (c : Int)) (hw : 4 ≤ w ∧ w ≤ 40) (hch : -39 ≤ ch ∧ ch ≤ 39) (hcn : cnd (F 3) (F 4) (F 5) (w : Int) (c : Int) (s : Int) (F 5 (12 * (c : Int) + (s : Int)) + ch)) : MM l0 g 30 mX0_isMendedBy (cp w (cN C bg x y) (aM A en) V h, nx) [.ref 230, .int (iI (c : Int)), .int (iI (s : Int)), .int (iI ch)] 0 0 (fun r σ' => r = some (.int (iI 1)) ∧ ∃ (bg1 : Int) (en1 : Int → Int), σ' = (cp w (cN C bg1 (s : Int) (F 5 (12 * (c : Int) + (s : Int)) + ch)) (aM A en1) V h, nx)) := by
  have hn2 := hD.n2
  have hw0 := (hD.wf c (by omega) hc).1
  have hw5 := (hD.wf c (by omega) hc).2 s (by omega) hs
  obtain ⟨o1, o2, o3, o4⟩ := hD.os c s hc hs
  have hrg := hD.rg (12 * (c : Int) + (s : Int)) (by omega) (by omega)
  have hk9 := hcn.2.1
  have hv9 := hcn.2.2.1
  have hl9 := hcn.2.2.2
  refine MM.of (by decide +kernel) (by simp [Value.category]) (tle rfl) (fun X b => ?_)
  change WW X g _ _ 0 0 0 [some (.ref 230), some (.int (iI ((c : Int)))), some (.int (iI ((s : Int)))), some (.int (iI (ch))), none, none, none, none] [] _
  refine w_aload_n b dX0_isMendedBy_0 rfl rfl ?_
  refine w_iload_n b dX0_isMendedBy_1 rfl ?_
  refine w_iload_n b dX0_isMendedBy_2 rfl ?_
  refine c_V2 b dX0_isMendedBy_3 lmX0_134 (cpS (tlt rfl) ct_230) (k_X0_stepOf (hD.cN bg x y) hc hs) (tle rfl) (by omega) (by omega) (by omega) ?_
  refine w_astore b dX0_isMendedBy_6 (tlt rfl) rfl rfl ?_
  refine w_aload b dX0_isMendedBy_8 rfl rfl ?_
  refine w_getf b dX0_isMendedBy_10 lfX0_76 ((hD.cN bg x y).step hc hs) rfl ?_
  refine z_if_ne (tgt := 32) b dX0_isMendedBy_13 (by decide) (by omega) (fun c13 => ?_) (fun c13 => ?_)
  · exfalso; omega
  · refine w_aload b dX0_isMendedBy_16 rfl rfl ?_
    refine w_getf b dX0_isMendedBy_18 lfX0_79 ((hD.cN bg x y).step hc hs) rfl ?_
    refine w_iload_n b dX0_isMendedBy_21 rfl ?_
    refine z_iadd b dX0_isMendedBy_22 ?_
    refine z_iconst b dX0_isMendedBy_23 ?_
    refine z_bipush b dX0_isMendedBy_24 (by decide) ?_
    refine c_SN3 b dX0_isMendedBy_26 lmX0_138 (gw_at (i := 406) (by decide +kernel) rfl) (k_X8_isWithin (by omega) (by omega) (by omega)) (tle rfl) (by omega) (by omega) (by omega) ?_
    refine z_ifb_ne (tgt := 34) b dX0_isMendedBy_29 (by decide) (fun c29 => ?_) (fun c29 => ?_)
    · refine w_aload b dX0_isMendedBy_34 rfl rfl ?_
      refine w_getf b dX0_isMendedBy_36 lfX0_79 ((hD.cN bg x y).step hc hs) rfl ?_
      refine w_istore b dX0_isMendedBy_39 (tlt rfl) rfl ?_
      refine w_iload b dX0_isMendedBy_41 rfl ?_
      refine w_iload_n b dX0_isMendedBy_43 rfl ?_
      refine z_iadd b dX0_isMendedBy_44 ?_
      refine w_istore b dX0_isMendedBy_45 (tlt rfl) rfl ?_
      refine w_aload b dX0_isMendedBy_47 rfl rfl ?_
      refine w_iload b dX0_isMendedBy_49 rfl ?_
      refine w_putf b dX0_isMendedBy_51 lfX0_79 gcX5 gtX5_2 (fun z => by cases z) ((hD.cN bg x y).step hc hs) (tlt rfl) rfl rfl ?_
      change WW X g _ _ _ _ _ _ _ (va_up (cp w (cN C bg x y) (aM A en) V h) (sa c s) (.inr (5, [.int (iI (F 4 (12 * (c : Int) + (s : Int)))), .int (iI (F 6 (12 * (c : Int) + (s : Int)))), .int (iI (F 5 (12 * (c : Int) + (s : Int)) + ch))])), nx)
      rw [← stE_fN F (12 * (c : Int) + (s : Int)) (F 5 (12 * (c : Int) + (s : Int)) + ch), cp_uph (by omega)]
      refine w_aload_n b dX0_isMendedBy_54 rfl rfl ?_
      refine w_iload_n b dX0_isMendedBy_55 rfl ?_
      refine w_callV (d' := 29) (mc' := 0) (ms' := 0) (st := []) (vs := [.int (iI (c : Int))]) b dX0_isMendedBy_56 lmX0_88 rfl rfl (cpS (tlt rfl) ct_230) (tle rfl) (by omega) (by omega) (by omega) (k_X0_measured ((hD.upN hc hs hk9 hv9).cN bg x y) hc hw) (fun r σ' hq => ?_)
      obtain ⟨bg1, en1, q1, q2, q3, q4⟩ := hq
      subst q2
      rw [cN_cM, aM_aM]
      cases ho2 : ms (F 3) (F 4) (fu (F 5) (12 * (c : Int) + (s : Int)) (F 5 (12 * (c : Int) + (s : Int)) + ch)) 12 (c : Int) (w : Int) (0, 0) with
      | none => exfalso; rw [lenM_ms.1 ho2] at hl9; omega
      | some p =>
        obtain ⟨p1, p2, p3, p4⟩ := q4 p ho2
        have hcl9 : p.1 - 0 = (w : Int) := by rw [lenM_ms.2 p ho2] at hl9; omega
        subst p2
        change WW X g _ _ _ _ _ _ [.int (iI (p.1 - 0))] _
        refine w_aload_n b dX0_isMendedBy_59 rfl rfl ?_
        refine q_get b dX0_isMendedBy_60 lfX0_26 (tlt rfl) ct_230 rfl ?_
        refine z_icmp_ne (tgt := 70) b dX0_isMendedBy_63 (by decide) (by omega) (fun c63 => ?_) (fun c63 => ?_)
        · exfalso; exact c63 hcl9
        · refine z_iconst b dX0_isMendedBy_66 ?_
          refine w_goto (tgt := 71) b dX0_isMendedBy_67 (by decide) ?_
          refine w_istore b dX0_isMendedBy_71 (tlt rfl) rfl ?_
          refine w_aload b dX0_isMendedBy_73 rfl rfl ?_
          refine w_iload b dX0_isMendedBy_75 rfl ?_
          refine w_putf b dX0_isMendedBy_77 lfX0_79 gcX5 gtX5_2 (fun z => by cases z) (((hD.upN hc hs hk9 hv9).cN bg1 x y).step hc hs) (tlt rfl) rfl rfl ?_
          change WW X g _ _ _ _ _ _ _ (va_up (cp w (cN C bg1 x y) (aM A en1) V (va_up h (sa c s) (stE (fN F (12 * (c : Int) + (s : Int)) (F 5 (12 * (c : Int) + (s : Int)) + ch)) (12 * (c : Int) + (s : Int))))) (sa c s) (stE F (12 * (c : Int) + (s : Int))), nx)
          rw [cp_uph (by omega), va_up_twice, show va_up h (sa c s) (stE F (12 * (c : Int) + (s : Int))) = h from (by rw [← o4]; exact va_up_same h (sa c s))]
          refine w_iload b dX0_isMendedBy_80 rfl ?_
          refine z_if_eq (tgt := 96) b dX0_isMendedBy_82 (by decide) (by omega) (fun c82 => ?_) (fun c82 => ?_)
          · exfalso; omega
          · refine w_aload_n b dX0_isMendedBy_85 rfl rfl ?_
            refine w_iload_n b dX0_isMendedBy_86 rfl ?_
            refine q_put b dX0_isMendedBy_87 lfX0_141 gcX0 gtX0_7 (tlt rfl) (fun _ => ct_230) (tlt rfl) rfl ?_
            rw [cN_7]
            refine w_aload_n b dX0_isMendedBy_90 rfl rfl ?_
            refine w_iload b dX0_isMendedBy_91 rfl ?_
            refine q_put b dX0_isMendedBy_93 lfX0_144 gcX0 gtX0_8 (tlt rfl) (fun _ => ct_230) (tlt rfl) rfl ?_
            rw [cN_8]
            refine w_iload b dX0_isMendedBy_96 rfl ?_
            exact z_zret b dX0_isMendedBy_98 rfl (by omega) (by omega) (by omega) ⟨rfl, bg1, en1, rfl⟩
    · exfalso; omega
set_option maxRecDepth 20000 in
theorem k_mb0 {l0 : Launch} {g : Gw} {w nx : Nat} {h : Nat → va_E} {C : Nat → Nat → Int} {A : Nat → Int → Int} {V : Nat → Value} {I : Nat → Int} {F : Nat → Int → Int} {ca : Nat → Nat} {sa : Nat → Nat → Nat} {own : Nat → Nat} {c s : Nat} {ch bg x y : Int} {en : Int → Int} (hD : RDy h nx C V I F ca sa own) (hc : (c : Int) < I 2) (hs : (s : Int) < F 3 (c : Int)) (hw : 4 ≤ w ∧ w ≤ 40) (hch : -39 ≤ ch ∧ ch ≤ 39) (hcn : ¬ cnd (F 3) (F 4) (F 5) (w : Int) (c : Int) (s : Int) (F 5 (12 * (c : Int) + (s : Int)) + ch)) : MM l0 g 30 mX0_isMendedBy (cp w (cN C bg x y) (aM A en) V h, nx) [.ref 230, .int (iI (c : Int)), .int (iI (s : Int)), .int (iI ch)] 0 0 (fun r σ' => r = some (.int (iI 0)) ∧ ∃ (bg1 : Int) (en1 : Int → Int), σ' = (cp w (cN C bg1 x y) (aM A en1) V h, nx)) := by
  have hn2 := hD.n2
  have hw0 := (hD.wf c (by omega) hc).1
  have hw5 := (hD.wf c (by omega) hc).2 s (by omega) hs
  obtain ⟨o1, o2, o3, o4⟩ := hD.os c s hc hs
  have hrg := hD.rg (12 * (c : Int) + (s : Int)) (by omega) (by omega)
  refine MM.of (by decide +kernel) (by simp [Value.category]) (tle rfl) (fun X b => ?_)
  change WW X g _ _ 0 0 0 [some (.ref 230), some (.int (iI ((c : Int)))), some (.int (iI ((s : Int)))), some (.int (iI (ch))), none, none, none, none] [] _
  refine w_aload_n b dX0_isMendedBy_0 rfl rfl ?_
  refine w_iload_n b dX0_isMendedBy_1 rfl ?_
  refine w_iload_n b dX0_isMendedBy_2 rfl ?_
  refine c_V2 b dX0_isMendedBy_3 lmX0_134 (cpS (tlt rfl) ct_230) (k_X0_stepOf (hD.cN bg x y) hc hs) (tle rfl) (by omega) (by omega) (by omega) ?_
  refine w_astore b dX0_isMendedBy_6 (tlt rfl) rfl rfl ?_
  refine w_aload b dX0_isMendedBy_8 rfl rfl ?_
  refine w_getf b dX0_isMendedBy_10 lfX0_76 ((hD.cN bg x y).step hc hs) rfl ?_
  refine z_if_ne (tgt := 32) b dX0_isMendedBy_13 (by decide) (by omega) (fun c13 => ?_) (fun c13 => ?_)
  · refine z_iconst b dX0_isMendedBy_32 ?_
    exact z_zret b dX0_isMendedBy_33 rfl (by omega) (by omega) (by omega) ⟨rfl, bg, en, rfl⟩
  · refine w_aload b dX0_isMendedBy_16 rfl rfl ?_
    refine w_getf b dX0_isMendedBy_18 lfX0_79 ((hD.cN bg x y).step hc hs) rfl ?_
    refine w_iload_n b dX0_isMendedBy_21 rfl ?_
    refine z_iadd b dX0_isMendedBy_22 ?_
    refine z_iconst b dX0_isMendedBy_23 ?_
    refine z_bipush b dX0_isMendedBy_24 (by decide) ?_
    refine c_SN3 b dX0_isMendedBy_26 lmX0_138 (gw_at (i := 406) (by decide +kernel) rfl) (k_X8_isWithin (by omega) (by omega) (by omega)) (tle rfl) (by omega) (by omega) (by omega) ?_
    refine z_ifb_ne (tgt := 34) b dX0_isMendedBy_29 (by decide) (fun c29 => ?_) (fun c29 => ?_)
    · have hk9 : F 4 (12 * (c : Int) + (s : Int)) = 0 := c13
      have hv9 : 1 ≤ (F 5 (12 * (c : Int) + (s : Int)) + ch) ∧ (F 5 (12 * (c : Int) + (s : Int)) + ch) ≤ 40 := c29
      refine w_aload b dX0_isMendedBy_34 rfl rfl ?_
      refine w_getf b dX0_isMendedBy_36 lfX0_79 ((hD.cN bg x y).step hc hs) rfl ?_
      refine w_istore b dX0_isMendedBy_39 (tlt rfl) rfl ?_
      refine w_iload b dX0_isMendedBy_41 rfl ?_
      refine w_iload_n b dX0_isMendedBy_43 rfl ?_
      refine z_iadd b dX0_isMendedBy_44 ?_
      refine w_istore b dX0_isMendedBy_45 (tlt rfl) rfl ?_
      refine w_aload b dX0_isMendedBy_47 rfl rfl ?_
      refine w_iload b dX0_isMendedBy_49 rfl ?_
      refine w_putf b dX0_isMendedBy_51 lfX0_79 gcX5 gtX5_2 (fun z => by cases z) ((hD.cN bg x y).step hc hs) (tlt rfl) rfl rfl ?_
      change WW X g _ _ _ _ _ _ _ (va_up (cp w (cN C bg x y) (aM A en) V h) (sa c s) (.inr (5, [.int (iI (F 4 (12 * (c : Int) + (s : Int)))), .int (iI (F 6 (12 * (c : Int) + (s : Int)))), .int (iI (F 5 (12 * (c : Int) + (s : Int)) + ch))])), nx)
      rw [← stE_fN F (12 * (c : Int) + (s : Int)) (F 5 (12 * (c : Int) + (s : Int)) + ch), cp_uph (by omega)]
      refine w_aload_n b dX0_isMendedBy_54 rfl rfl ?_
      refine w_iload_n b dX0_isMendedBy_55 rfl ?_
      refine w_callV (d' := 29) (mc' := 0) (ms' := 0) (st := []) (vs := [.int (iI (c : Int))]) b dX0_isMendedBy_56 lmX0_88 rfl rfl (cpS (tlt rfl) ct_230) (tle rfl) (by omega) (by omega) (by omega) (k_X0_measured ((hD.upN hc hs hk9 hv9).cN bg x y) hc hw) (fun r σ' hq => ?_)
      obtain ⟨bg1, en1, q1, q2, q3, q4⟩ := hq
      subst q2
      rw [cN_cM, aM_aM]
      have hl9 : ¬ lenM (F 3) (F 4) (fu (F 5) (12 * (c : Int) + (s : Int)) (F 5 (12 * (c : Int) + (s : Int)) + ch)) (w : Int) (c : Int) = (w : Int) := fun z => hcn ⟨⟨by omega, hs⟩, hk9, hv9, z⟩
      cases ho2 : ms (F 3) (F 4) (fu (F 5) (12 * (c : Int) + (s : Int)) (F 5 (12 * (c : Int) + (s : Int)) + ch)) 12 (c : Int) (w : Int) (0, 0) with
      | none =>
        obtain rfl := q3 ho2
        have hcl9 : ¬ (-6 : Int) = (w : Int) := by omega
        change WW X g _ _ _ _ _ _ [.int (iI (-6))] _
        refine w_aload_n b dX0_isMendedBy_59 rfl rfl ?_
        refine q_get b dX0_isMendedBy_60 lfX0_26 (tlt rfl) ct_230 rfl ?_
        refine z_icmp_ne (tgt := 70) b dX0_isMendedBy_63 (by decide) (by omega) (fun c63 => ?_) (fun c63 => ?_)
        · refine z_iconst b dX0_isMendedBy_70 ?_
          refine w_istore b dX0_isMendedBy_71 (tlt rfl) rfl ?_
          refine w_aload b dX0_isMendedBy_73 rfl rfl ?_
          refine w_iload b dX0_isMendedBy_75 rfl ?_
          refine w_putf b dX0_isMendedBy_77 lfX0_79 gcX5 gtX5_2 (fun z => by cases z) (((hD.upN hc hs hk9 hv9).cN bg1 x y).step hc hs) (tlt rfl) rfl rfl ?_
          change WW X g _ _ _ _ _ _ _ (va_up (cp w (cN C bg1 x y) (aM A en1) V (va_up h (sa c s) (stE (fN F (12 * (c : Int) + (s : Int)) (F 5 (12 * (c : Int) + (s : Int)) + ch)) (12 * (c : Int) + (s : Int))))) (sa c s) (stE F (12 * (c : Int) + (s : Int))), nx)
          rw [cp_uph (by omega), va_up_twice, show va_up h (sa c s) (stE F (12 * (c : Int) + (s : Int))) = h from (by rw [← o4]; exact va_up_same h (sa c s))]
          refine w_iload b dX0_isMendedBy_80 rfl ?_
          refine z_if_eq (tgt := 96) b dX0_isMendedBy_82 (by decide) (by omega) (fun c82 => ?_) (fun c82 => ?_)
          · refine w_iload b dX0_isMendedBy_96 rfl ?_
            exact z_zret b dX0_isMendedBy_98 rfl (by omega) (by omega) (by omega) ⟨rfl, bg1, en1, rfl⟩
          · exfalso; omega
        · exfalso; exact hcl9 c63
      | some p =>
        obtain ⟨p1, p2, p3, p4⟩ := q4 p ho2
        have hcl9 : ¬ p.1 - 0 = (w : Int) := by rw [lenM_ms.2 p ho2] at hl9; omega
        subst p2
        change WW X g _ _ _ _ _ _ [.int (iI (p.1 - 0))] _
        refine w_aload_n b dX0_isMendedBy_59 rfl rfl ?_
        refine q_get b dX0_isMendedBy_60 lfX0_26 (tlt rfl) ct_230 rfl ?_
        refine z_icmp_ne (tgt := 70) b dX0_isMendedBy_63 (by decide) (by omega) (fun c63 => ?_) (fun c63 => ?_)
        · refine z_iconst b dX0_isMendedBy_70 ?_
          refine w_istore b dX0_isMendedBy_71 (tlt rfl) rfl ?_
          refine w_aload b dX0_isMendedBy_73 rfl rfl ?_
          refine w_iload b dX0_isMendedBy_75 rfl ?_
          refine w_putf b dX0_isMendedBy_77 lfX0_79 gcX5 gtX5_2 (fun z => by cases z) (((hD.upN hc hs hk9 hv9).cN bg1 x y).step hc hs) (tlt rfl) rfl rfl ?_
          change WW X g _ _ _ _ _ _ _ (va_up (cp w (cN C bg1 x y) (aM A en1) V (va_up h (sa c s) (stE (fN F (12 * (c : Int) + (s : Int)) (F 5 (12 * (c : Int) + (s : Int)) + ch)) (12 * (c : Int) + (s : Int))))) (sa c s) (stE F (12 * (c : Int) + (s : Int))), nx)
          rw [cp_uph (by omega), va_up_twice, show va_up h (sa c s) (stE F (12 * (c : Int) + (s : Int))) = h from (by rw [← o4]; exact va_up_same h (sa c s))]
          refine w_iload b dX0_isMendedBy_80 rfl ?_
          refine z_if_eq (tgt := 96) b dX0_isMendedBy_82 (by decide) (by omega) (fun c82 => ?_) (fun c82 => ?_)
          · refine w_iload b dX0_isMendedBy_96 rfl ?_
            exact z_zret b dX0_isMendedBy_98 rfl (by omega) (by omega) (by omega) ⟨rfl, bg1, en1, rfl⟩
          · exfalso; omega
        · exfalso; exact hcl9 c63
    · refine z_iconst b dX0_isMendedBy_32 ?_
      exact z_zret b dX0_isMendedBy_33 rfl (by omega) (by omega) (by omega) ⟨rfl, bg, en, rfl⟩
/-- a mend that comes first of all -/
def mnd (S K N : Int → Int) (w c s v : Int) : Prop := cnd S K N w c s v ∧ (∀ s' v', cnd S K N w c s' v' → dst N c s v ≤ dst N c s' v') ∧ ∀ s' v', cnd S K N w c s' v' → dst N c s' v' = dst N c s v → s < s' ∨ (s = s' ∧ v ≤ v')
theorem mnd_fmS {S K N : Int → Int} {w c s v : Int} (hS : 0 ≤ S c) (hN : 1 ≤ N (12 * c + s) ∧ N (12 * c + s) ≤ 40) (h : mnd S K N w c s v) (i j : Int) : fmS S K N w c (S c).toNat 0 (41, i, j) = (dst N c s v, s, v) := by
  obtain ⟨h1, h2, h3⟩ := h
  have hv := h1.2.2.1
  refine fmS_find h1 rfl (S c).toNat 0 (41, i, j) (by omega) h1.1.1 (by show dst N c s v < 41; unfold dst; split <;> omega) (fun s' v' g1 g2 g3 => ?_) (fun v' g1 g2 => ?_) (fun s' v' _ g => h2 s' v' g)
  · have q1 := h2 s' v' g3
    rcases Int.lt_or_eq_of_le q1 with z | z
    · exact z
    · have := h3 s' v' g3 z.symm; omega
  · have q1 := h2 s v' g2
    rcases Int.lt_or_eq_of_le q1 with z | z
    · exact z
    · have := h3 s v' g2 z.symm; omega
theorem dst_pm {N : Int → Int} {c s v d : Int} (hd : 1 ≤ d) : dst N c s v = d ↔ v = N (12 * c + s) + -d ∨ v = N (12 * c + s) + d := by
  unfold dst
  split
  · constructor
    · intro h; left; omega
    · intro h; omega
  · constructor
    · intro h; right; omega
    · intro h; omega
set_option maxRecDepth 20000 in
theorem l_fm1 {X : Cx} {Q : Option Value → Sg → Prop} {l0 : Launch} {g : Gw} {w nx : Nat} {h : Nat → va_E} {C : Nat → Nat → Int} {A : Nat → Int → Int} {V : Nat → Value} {I : Nat → Int} {F : Nat → Int → Int} {ca : Nat → Nat} {sa : Nat → Nat → Nat} {own : Nat → Nat} {c : Nat} (hD : RDy h nx C V I F ca sa own) (hc : (c : Int) < I 2) (hw : 4 ≤ w ∧ w ≤ 40) {ln d : Int} (hd : 1 ≤ d ∧ d ≤ 39) (hq : ∀ r σ', (fun r σ' => ∃ (bg1 x1 y1 : Int) (en1 : Int → Int), σ' = (cp w (cN C bg1 x1 y1) (aM A en1) V h, nx) ∧ ((r = some (.int (iI 0)) ∧ mnd (F 3) (F 4) (F 5) (w : Int) (c : Int) x1 y1) ∨ (r = some (.int (iI (-4))) ∧ ∀ s v, ¬ cnd (F 3) (F 4) (F 5) (w : Int) (c : Int) s v))) r σ' → Q r σ') (h1 : ∀ s v, cnd (F 3) (F 4) (F 5) (w : Int) (c : Int) s v → d ≤ dst (F 5) (c : Int) s v) (b : BX X l0 g mX0_findMend 31 0 0) : ∀ (n s : Nat) (bg x y : Int) (en : Int → Int), ((s : Int) + n = F 3 (c : Int)) → (∀ s' v', cnd (F 3) (F 4) (F 5) (w : Int) (c : Int) s' v' → dst (F 5) (c : Int) s' v' = d → (s : Int) ≤ s') → ((∀ s' v', cnd (F 3) (F 4) (F 5) (w : Int) (c : Int) s' v' → d + 1 ≤ dst (F 5) (c : Int) s' v') → ∀ (bg x y : Int) (en : Int → Int), WW X g mX0_findMend.2.2.1 (ZQ X g Q 0 0) 0 0 94 [some (.ref 230), some (.int (iI ((c : Int)))), some (.int (iI (ln))), some (.int (iI (F 3 (c : Int)))), some (.int (iI (d))), none] [] (cp w (cN C bg x y) (aM A en) V h, nx)) → WW X g mX0_findMend.2.2.1 (ZQ X g Q 0 0) 0 0 55 [some (.ref 230), some (.int (iI ((c : Int)))), some (.int (iI (ln))), some (.int (iI (F 3 (c : Int)))), some (.int (iI (d))), some (.int (iI ((s : Int))))] [] (cp w (cN C bg x y) (aM A en) V h, nx) := by
  have hn2 := hD.n2
  have hw0 := (hD.wf c (by omega) hc).1
  intro n
  induction n with
  | zero =>
    intro s bg x y en g1 g2 kk
    have hno : ∀ s' v', cnd (F 3) (F 4) (F 5) (w : Int) (c : Int) s' v' → d + 1 ≤ dst (F 5) (c : Int) s' v' := by
      intro s' v' z
      have z1 := h1 s' v' z
      rcases Int.lt_or_eq_of_le z1 with q | q
      · omega
      · have := g2 s' v' z q.symm; have := z.1.2; omega
    refine w_iload b dX0_findMend_55 rfl ?_
    refine w_iload_n b dX0_findMend_57 rfl ?_
    refine z_icmp_ge (tgt := 94) b dX0_findMend_58 (by decide) (by omega) (fun c58 => ?_) (fun c58 => ?_)
    · refine ww_forget 5 ?_
      exact kk hno bg x y en
    · exfalso; omega
  | succ n ih =>
    intro s bg x y en g1 g2 kk
    have hs : (s : Int) < F 3 (c : Int) := by omega
    have hw5 := (hD.wf c (by omega) hc).2 s (by omega) hs
    refine w_iload b dX0_findMend_55 rfl ?_
    refine w_iload_n b dX0_findMend_57 rfl ?_
    refine z_icmp_ge (tgt := 94) b dX0_findMend_58 (by decide) (by omega) (fun c58 => ?_) (fun c58 => ?_)
    · exfalso; omega
    · refine w_aload_n b dX0_findMend_61 rfl rfl ?_
      refine w_iload_n b dX0_findMend_62 rfl ?_
      refine w_iload b dX0_findMend_63 rfl ?_
      refine w_iload b dX0_findMend_65 rfl ?_
      refine z_ineg b dX0_findMend_67 ?_
      by_cases k1 : cnd (F 3) (F 4) (F 5) (w : Int) (c : Int) (s : Int) (F 5 (12 * (c : Int) + (s : Int)) + -d)
      · refine w_callV (d' := 30) (mc' := 0) (ms' := 0) (st := []) (vs := [.int (iI (c : Int)), .int (iI (s : Int)), .int (iI (-d))]) b dX0_findMend_68 lmX0_130 rfl rfl (cpS (tlt rfl) ct_230) (tle rfl) (by omega) (by omega) (by omega) (k_mb1 hD hc hs hw (by omega) k1) (fun r σ' hz => ?_)
        obtain ⟨rfl, bg1, en1, rfl⟩ := hz
        have hmn : mnd (F 3) (F 4) (F 5) (w : Int) (c : Int) (s : Int) (F 5 (12 * (c : Int) + (s : Int)) + -d) := by
          have e9 : dst (F 5) (c : Int) (s : Int) (F 5 (12 * (c : Int) + (s : Int)) + -d) = d := (dst_pm hd.1).mpr (Or.inl rfl)
          refine ⟨k1, fun s' v' z => by rw [e9]; exact h1 s' v' z, fun s' v' z q => ?_⟩
          rw [e9] at q
          have z1 := g2 s' v' z q
          rcases Int.lt_or_eq_of_le z1 with z2 | z2
          · exact Or.inl z2
          · subst z2
            rcases (dst_pm hd.1).mp q with q1 | q1
            · exact Or.inr ⟨rfl, by omega⟩
            · exact Or.inr ⟨rfl, by omega⟩
        change WW X g _ _ _ _ _ _ [.int (iI 1)] _
        refine z_if_ne (tgt := 86) b dX0_findMend_71 (by decide) (by omega) (fun c71 => ?_) (fun c71 => ?_)
        · refine z_iconst b dX0_findMend_86 ?_
          exact w_iret b dX0_findMend_87 rfl (by omega) (by omega) (hq _ _ ⟨bg1, (s : Int), F 5 (12 * (c : Int) + (s : Int)) + -d, en1, rfl, Or.inl ⟨rfl, hmn⟩⟩)
        · exfalso; omega
      · refine w_callV (d' := 30) (mc' := 0) (ms' := 0) (st := []) (vs := [.int (iI (c : Int)), .int (iI (s : Int)), .int (iI (-d))]) b dX0_findMend_68 lmX0_130 rfl rfl (cpS (tlt rfl) ct_230) (tle rfl) (by omega) (by omega) (by omega) (k_mb0 hD hc hs hw (by omega) k1) (fun r σ' hz => ?_)
        obtain ⟨rfl, bg1, en1, rfl⟩ := hz
        change WW X g _ _ _ _ _ _ [.int (iI 0)] _
        refine z_if_ne (tgt := 86) b dX0_findMend_71 (by decide) (by omega) (fun c71 => ?_) (fun c71 => ?_)
        · exfalso; omega
        · refine w_aload_n b dX0_findMend_74 rfl rfl ?_
          refine w_iload_n b dX0_findMend_75 rfl ?_
          refine w_iload b dX0_findMend_76 rfl ?_
          refine w_iload b dX0_findMend_78 rfl ?_
          by_cases k2 : cnd (F 3) (F 4) (F 5) (w : Int) (c : Int) (s : Int) (F 5 (12 * (c : Int) + (s : Int)) + d)
          · refine w_callV (d' := 30) (mc' := 0) (ms' := 0) (st := []) (vs := [.int (iI (c : Int)), .int (iI (s : Int)), .int (iI (d))]) b dX0_findMend_80 lmX0_130 rfl rfl (cpS (tlt rfl) ct_230) (tle rfl) (by omega) (by omega) (by omega) (k_mb1 hD hc hs hw (by omega) k2) (fun r σ' hz => ?_)
            obtain ⟨rfl, bg1, en1, rfl⟩ := hz
            have hmn : mnd (F 3) (F 4) (F 5) (w : Int) (c : Int) (s : Int) (F 5 (12 * (c : Int) + (s : Int)) + d) := by
              have e9 : dst (F 5) (c : Int) (s : Int) (F 5 (12 * (c : Int) + (s : Int)) + d) = d := (dst_pm hd.1).mpr (Or.inr rfl)
              refine ⟨k2, fun s' v' z => by rw [e9]; exact h1 s' v' z, fun s' v' z q => ?_⟩
              rw [e9] at q
              have z1 := g2 s' v' z q
              rcases Int.lt_or_eq_of_le z1 with z2 | z2
              · exact Or.inl z2
              · subst z2
                rcases (dst_pm hd.1).mp q with q1 | q1
                · exact absurd (by rw [q1] at z; exact z) k1
                · exact Or.inr ⟨rfl, by omega⟩
            change WW X g _ _ _ _ _ _ [.int (iI 1)] _
            refine z_if_eq (tgt := 88) b dX0_findMend_83 (by decide) (by omega) (fun c83 => ?_) (fun c83 => ?_)
            · exfalso; omega
            · refine z_iconst b dX0_findMend_86 ?_
              exact w_iret b dX0_findMend_87 rfl (by omega) (by omega) (hq _ _ ⟨bg1, (s : Int), F 5 (12 * (c : Int) + (s : Int)) + d, en1, rfl, Or.inl ⟨rfl, hmn⟩⟩)
          · refine w_callV (d' := 30) (mc' := 0) (ms' := 0) (st := []) (vs := [.int (iI (c : Int)), .int (iI (s : Int)), .int (iI (d))]) b dX0_findMend_80 lmX0_130 rfl rfl (cpS (tlt rfl) ct_230) (tle rfl) (by omega) (by omega) (by omega) (k_mb0 hD hc hs hw (by omega) k2) (fun r σ' hz => ?_)
            obtain ⟨rfl, bg1, en1, rfl⟩ := hz
            change WW X g _ _ _ _ _ _ [.int (iI 0)] _
            refine z_if_eq (tgt := 88) b dX0_findMend_83 (by decide) (by omega) (fun c83 => ?_) (fun c83 => ?_)
            · refine z_iinc b dX0_findMend_88 rfl rfl rfl ?_
              refine w_goto (tgt := 55) b dX0_findMend_91 (by decide) ?_
              refine ih (s + 1) bg1 x y en1 (by omega) (fun s' v' z q => ?_) kk
              have z1 := g2 s' v' z q
              rcases Int.lt_or_eq_of_le z1 with z2 | z2
              · omega
              · subst z2
                rcases (dst_pm hd.1).mp q with q1 | q1
                · exact absurd (by rw [q1] at z; exact z) k1
                · exact absurd (by rw [q1] at z; exact z) k2
            · exfalso; omega
set_option maxRecDepth 20000 in
theorem l_fm2 {X : Cx} {Q : Option Value → Sg → Prop} {l0 : Launch} {g : Gw} {w nx : Nat} {h : Nat → va_E} {C : Nat → Nat → Int} {A : Nat → Int → Int} {V : Nat → Value} {I : Nat → Int} {F : Nat → Int → Int} {ca : Nat → Nat} {sa : Nat → Nat → Nat} {own : Nat → Nat} {c : Nat} (hD : RDy h nx C V I F ca sa own) (hc : (c : Int) < I 2) (hw : 4 ≤ w ∧ w ≤ 40) {ln : Int} (hq : ∀ r σ', (fun r σ' => ∃ (bg1 x1 y1 : Int) (en1 : Int → Int), σ' = (cp w (cN C bg1 x1 y1) (aM A en1) V h, nx) ∧ ((r = some (.int (iI 0)) ∧ mnd (F 3) (F 4) (F 5) (w : Int) (c : Int) x1 y1) ∨ (r = some (.int (iI (-4))) ∧ ∀ s v, ¬ cnd (F 3) (F 4) (F 5) (w : Int) (c : Int) s v))) r σ' → Q r σ') (b : BX X l0 g mX0_findMend 31 0 0) : ∀ (n : Nat) (d bg x y : Int) (en : Int → Int), (d + n = 40) → (1 ≤ d) → (∀ s v, cnd (F 3) (F 4) (F 5) (w : Int) (c : Int) s v → d ≤ dst (F 5) (c : Int) s v) → WW X g mX0_findMend.2.2.1 (ZQ X g Q 0 0) 0 0 45 [some (.ref 230), some (.int (iI ((c : Int)))), some (.int (iI (ln))), some (.int (iI (F 3 (c : Int)))), some (.int (iI (d))), none] [] (cp w (cN C bg x y) (aM A en) V h, nx) := by
  have hn2 := hD.n2
  have hw0 := (hD.wf c (by omega) hc).1
  intro n
  induction n with
  | zero =>
    intro d bg x y en g1 g0 g2
    have hno : ∀ s v, ¬ cnd (F 3) (F 4) (F 5) (w : Int) (c : Int) s v := by
      intro s v z
      have z1 := g2 s v z
      have z2 := (hD.wf c (by omega) hc).2 s z.1.1 z.1.2
      have z3 := z2.2.1 z.2.1
      have z4 := z.2.2.1
      unfold dst at z1
      split at z1 <;> omega
    refine w_iload b dX0_findMend_45 rfl ?_
    refine z_bipush b dX0_findMend_47 (by decide) ?_
    refine z_icmp_ge (tgt := 100) b dX0_findMend_49 (by decide) (by omega) (fun c49 => ?_) (fun c49 => ?_)
    · refine z_bipush b dX0_findMend_100 (by decide) ?_
      exact w_iret b dX0_findMend_102 rfl (by omega) (by omega) (hq _ _ ⟨bg, x, y, en, rfl, Or.inr ⟨rfl, hno⟩⟩)
    · exfalso; omega
  | succ n ih =>
    intro d bg x y en g1 g0 g2
    refine w_iload b dX0_findMend_45 rfl ?_
    refine z_bipush b dX0_findMend_47 (by decide) ?_
    refine z_icmp_ge (tgt := 100) b dX0_findMend_49 (by decide) (by omega) (fun c49 => ?_) (fun c49 => ?_)
    · exfalso; omega
    · refine z_iconst b dX0_findMend_52 ?_
      refine w_istore b dX0_findMend_53 (tlt rfl) rfl ?_
      refine l_fm1 hD hc hw (by omega) hq g2 b (F 3 (c : Int)).toNat 0 bg x y en (by omega) (fun s' v' z _ => z.1.1) (fun hno bg x y en => ?_)
      refine z_iinc b dX0_findMend_94 rfl rfl rfl ?_
      refine w_goto (tgt := 45) b dX0_findMend_97 (by decide) ?_
      exact ih (d + 1) bg x y en (by omega) (by omega) hno
set_option maxRecDepth 20000 in
theorem k_fm0 {l0 : Launch} {g : Gw} {w nx : Nat} {h : Nat → va_E} {C : Nat → Nat → Int} {A : Nat → Int → Int} {V : Nat → Value} {I : Nat → Int} {F : Nat → Int → Int} {ca : Nat → Nat} {sa : Nat → Nat → Nat} {own : Nat → Nat} {c : Nat} (hD : RDy h nx C V I F ca sa own) (hc : (c : Int) < I 2) (hw : 4 ≤ w ∧ w ≤ 40) (hl : lenM (F 3) (F 4) (F 5) (w : Int) (c : Int) < 0 ∨ lenM (F 3) (F 4) (F 5) (w : Int) (c : Int) = (w : Int)) : MM l0 g 31 mX0_findMend (cp w C A V h, nx) [.ref 230, .int (iI (c : Int))] 0 0 (fun r σ' => r = some (.int (iI (if lenM (F 3) (F 4) (F 5) (w : Int) (c : Int) < 0 then -6 else -4))) ∧ ∃ (bg1 : Int) (en1 : Int → Int), σ' = (cp w (cN C bg1 (C 230 7) (C 230 8)) (aM A en1) V h, nx)) := by
  refine MM.of (by decide +kernel) (by simp [Value.category]) (tle rfl) (fun X b => ?_)
  change WW X g _ _ 0 0 0 [some (.ref 230), some (.int (iI ((c : Int)))), none, none, none, none] [] _
  refine w_aload_n b dX0_findMend_0 rfl rfl ?_
  refine w_iload_n b dX0_findMend_1 rfl ?_
  refine w_callV (d' := 29) (mc' := 0) (ms' := 0) (st := []) (vs := [.int (iI (c : Int))]) b dX0_findMend_2 lmX0_88 rfl rfl (cpS (tlt rfl) ct_230) (tle rfl) (by omega) (by omega) (by omega) (k_X0_measured hD hc hw) (fun r σ' hz => ?_)
  obtain ⟨bg1, en1, q1, q2, q3, q4⟩ := hz
  subst q2
  rw [cM_cN]
  cases ho2 : ms (F 3) (F 4) (F 5) 12 (c : Int) (w : Int) (0, 0) with
  | none =>
    obtain rfl := q3 ho2
    have e9 := lenM_ms.1 ho2
    change WW X g _ _ _ _ _ _ [.int (iI (-6))] _
    refine w_istore_n b dX0_findMend_5 (tlt rfl) rfl ?_
    refine w_iload_n b dX0_findMend_6 rfl ?_
    refine z_if_ge (tgt := 13) b dX0_findMend_7 (by decide) (by omega) (fun c7 => ?_) (fun c7 => ?_)
    · exfalso; omega
    · refine z_bipush b dX0_findMend_10 (by decide) ?_
      exact w_iret b dX0_findMend_12 rfl (by omega) (by omega) ⟨iv_eq (if_pos (by rw [e9]; omega)).symm, bg1, en1, rfl⟩
  | some p =>
    obtain ⟨p1, p2, p3, p4⟩ := q4 p ho2
    have e9 := lenM_ms.2 p ho2
    subst p2
    change WW X g _ _ _ _ _ _ [.int (iI (p.1 - 0))] _
    refine w_istore_n b dX0_findMend_5 (tlt rfl) rfl ?_
    refine w_iload_n b dX0_findMend_6 rfl ?_
    refine z_if_ge (tgt := 13) b dX0_findMend_7 (by decide) (by omega) (fun c7 => ?_) (fun c7 => ?_)
    · refine w_iload_n b dX0_findMend_13 rfl ?_
      refine w_aload_n b dX0_findMend_14 rfl rfl ?_
      refine q_get b dX0_findMend_15 lfX0_26 (tlt rfl) ct_230 rfl ?_
      refine z_icmp_ne (tgt := 24) b dX0_findMend_18 (by decide) (by omega) (fun c18 => ?_) (fun c18 => ?_)
      · exfalso; omega
      · refine z_bipush b dX0_findMend_21 (by decide) ?_
        exact w_iret b dX0_findMend_23 rfl (by omega) (by omega) ⟨iv_eq (if_neg (by rw [e9]; omega)).symm, bg1, en1, rfl⟩
    · exfalso; omega
set_option maxRecDepth 20000 in
theorem k_fm1 {l0 : Launch} {g : Gw} {w nx : Nat} {h : Nat → va_E} {C : Nat → Nat → Int} {A : Nat → Int → Int} {V : Nat → Value} {I : Nat → Int} {F : Nat → Int → Int} {ca : Nat → Nat} {sa : Nat → Nat → Nat} {own : Nat → Nat} {c : Nat} (hD : RDy h nx C V I F ca sa own) (hc : (c : Int) < I 2) (hw : 4 ≤ w ∧ w ≤ 40) (hl : 0 ≤ lenM (F 3) (F 4) (F 5) (w : Int) (c : Int)) (hne : ¬ lenM (F 3) (F 4) (F 5) (w : Int) (c : Int) = (w : Int)) : MM l0 g 31 mX0_findMend (cp w C A V h, nx) [.ref 230, .int (iI (c : Int))] 0 0 (fun r σ' => ∃ (bg1 x1 y1 : Int) (en1 : Int → Int), σ' = (cp w (cN C bg1 x1 y1) (aM A en1) V h, nx) ∧ ((r = some (.int (iI 0)) ∧ mnd (F 3) (F 4) (F 5) (w : Int) (c : Int) x1 y1) ∨ (r = some (.int (iI (-4))) ∧ ∀ s v, ¬ cnd (F 3) (F 4) (F 5) (w : Int) (c : Int) s v))) := by
  have hn2 := hD.n2
  have hw0 := (hD.wf c (by omega) hc).1
  refine MM.of (by decide +kernel) (by simp [Value.category]) (tle rfl) (fun X b => ?_)
  change WW X g _ _ 0 0 0 [some (.ref 230), some (.int (iI ((c : Int)))), none, none, none, none] [] _
  refine w_aload_n b dX0_findMend_0 rfl rfl ?_
  refine w_iload_n b dX0_findMend_1 rfl ?_
  refine w_callV (d' := 29) (mc' := 0) (ms' := 0) (st := []) (vs := [.int (iI (c : Int))]) b dX0_findMend_2 lmX0_88 rfl rfl (cpS (tlt rfl) ct_230) (tle rfl) (by omega) (by omega) (by omega) (k_X0_measured hD hc hw) (fun r σ' hz => ?_)
  obtain ⟨bg1, en1, q1, q2, q3, q4⟩ := hz
  subst q2
  rw [cM_cN]
  cases ho2 : ms (F 3) (F 4) (F 5) 12 (c : Int) (w : Int) (0, 0) with
  | none => exfalso; rw [lenM_ms.1 ho2] at hl; omega
  | some p =>
    obtain ⟨p1, p2, p3, p4⟩ := q4 p ho2
    have e9 := lenM_ms.2 p ho2
    subst p2
    obtain ⟨m9, v9, e0, e9x⟩ := (hD.cN bg1 (C 230 7) (C 230 8)).list (w := w) (A := aM A en1) hc
    change WW X g _ _ _ _ _ _ [.int (iI (p.1 - 0))] _
    refine w_istore_n b dX0_findMend_5 (tlt rfl) rfl ?_
    refine w_iload_n b dX0_findMend_6 rfl ?_
    refine z_if_ge (tgt := 13) b dX0_findMend_7 (by decide) (by omega) (fun c7 => ?_) (fun c7 => ?_)
    · refine w_iload_n b dX0_findMend_13 rfl ?_
      refine w_aload_n b dX0_findMend_14 rfl rfl ?_
      refine q_get b dX0_findMend_15 lfX0_26 (tlt rfl) ct_230 rfl ?_
      refine z_icmp_ne (tgt := 24) b dX0_findMend_18 (by decide) (by omega) (fun c18 => ?_) (fun c18 => ?_)
      · refine w_aload_n b dX0_findMend_24 rfl rfl ?_
        refine q_get b dX0_findMend_25 lfX0_12 (tlt rfl) ct_230 rfl ?_
        refine w_iload_n b dX0_findMend_28 rfl ?_
        refine c_V1 b dX0_findMend_29 lmX0_42 (cpS (tlt rfl) ct_231) (k_getC (hD.cN bg1 (C 230 7) (C 230 8)) hc) (tle rfl) (by omega) (by omega) (by omega) ?_
        refine w_castS (ci := 2) b dX0_findMend_32 rfl lcX0_46 ((hD.cN bg1 (C 230 7) (C 230 8)).chant hc) ?_
        refine w_getf b dX0_findMend_35 lfX0_48 ((hD.cN bg1 (C 230 7) (C 230 8)).chant hc) rfl ?_
        refine c_V0 b dX0_findMend_38 lmX0_34 e0 (k_sizeS (hD.cN bg1 (C 230 7) (C 230 8)) hc) (tle rfl) (by omega) (by omega) (by omega) ?_
        refine w_istore_n b dX0_findMend_41 (tlt rfl) rfl ?_
        refine z_iconst b dX0_findMend_42 ?_
        refine w_istore b dX0_findMend_43 (tlt rfl) rfl ?_
        refine l_fm2 hD hc hw (fun r σ' hz => hz) b 39 1 bg1 (C 230 7) (C 230 8) en1 (by omega) (by omega) (fun s v z => ?_)
        have z1 := z.2.2.2
        rcases Int.lt_or_eq_of_le (show 0 ≤ dst (F 5) (c : Int) s v by unfold dst; split <;> omega) with q | q
        · omega
        · exfalso
          have q2 : v = F 5 (12 * (c : Int) + s) := by unfold dst at q; split at q <;> omega
          rw [q2, show fu (F 5) (12 * (c : Int) + s) (F 5 (12 * (c : Int) + s)) = F 5 from (by funext j; unfold fu; split <;> first | rfl | (rename_i e; rw [e]))] at z1
          exact hne z1
      · exfalso; omega
    · exfalso; omega
