/-! THE CLASS: small methods (by p51.py) -/
set_option maxRecDepth 20000 in
theorem k_X8_isWithin {l0 : Launch} {g : Gw} {w nx : Nat} {h : Nat → va_E} {C : Nat → Nat → Int} {A : Nat → Int → Int} {V : Nat → Value} {x a e : Int} (hx : inR x) (ha : inR a) (he : inR e) : MD l0 g 0 mX8_isWithin (cp w C A V h, nx) [.int (iI (x)), .int (iI (a)), .int (iI (e))] 0 0 (some (.int (iI (b2 (a ≤ x ∧ x ≤ e))))) (cp w C A V h, nx) := by
  refine MD.of (by decide +kernel) (by simp [Value.category]) (tle rfl) (fun X b => ?_)
  change WW X g _ _ 0 0 0 [some (.int (iI (x))), some (.int (iI (a))), some (.int (iI (e)))] [] _
  refine w_iload_n b dX8_isWithin_0 rfl ?_
  refine w_iload_n b dX8_isWithin_1 rfl ?_
  refine z_icmp_lt (tgt := 14) b dX8_isWithin_2 (by decide) (by omega) (fun c2 => ?_) (fun c2 => ?_)
  · refine z_iconst b dX8_isWithin_14 ?_
    exact z_zret b dX8_isWithin_15 rfl (by omega) (by omega) (by omega) ⟨iv_eq (by first | rfl | omega | ((try simp only [b2]); ((repeat' split) <;> (first | rfl | omega)))), rfl⟩
  · refine w_iload_n b dX8_isWithin_5 rfl ?_
    refine w_iload_n b dX8_isWithin_6 rfl ?_
    refine z_icmp_gt (tgt := 14) b dX8_isWithin_7 (by decide) (by omega) (fun c7 => ?_) (fun c7 => ?_)
    · refine z_iconst b dX8_isWithin_14 ?_
      exact z_zret b dX8_isWithin_15 rfl (by omega) (by omega) (by omega) ⟨iv_eq (by first | rfl | omega | ((try simp only [b2]); ((repeat' split) <;> (first | rfl | omega)))), rfl⟩
    · refine z_iconst b dX8_isWithin_10 ?_
      refine w_goto (tgt := 15) b dX8_isWithin_11 (by decide) ?_
      exact z_zret b dX8_isWithin_15 rfl (by omega) (by omega) (by omega) ⟨iv_eq (by first | rfl | omega | ((try simp only [b2]); ((repeat' split) <;> (first | rfl | omega)))), rfl⟩
set_option maxRecDepth 20000 in
theorem k_X8_isColour {l0 : Launch} {g : Gw} {w nx : Nat} {h : Nat → va_E} {C : Nat → Nat → Int} {A : Nat → Int → Int} {V : Nat → Value} {x : Int} (hx : inR x) : MD l0 g 1 mX8_isColour (cp w C A V h, nx) [.int (iI (x))] 0 0 (some (.int (iI (b2 (0 ≤ x ∧ x ≤ 7))))) (cp w C A V h, nx) := by
  refine MD.of (by decide +kernel) (by simp [Value.category]) (tle rfl) (fun X b => ?_)
  change WW X g _ _ 0 0 0 [some (.int (iI (x)))] [] _
  refine w_iload_n b dX8_isColour_0 rfl ?_
  refine z_iconst b dX8_isColour_1 ?_
  refine z_bipush b dX8_isColour_2 (by decide) ?_
  refine c_S3 b dX8_isColour_4 lmX8_74 (k_X8_isWithin (by omega) (by omega) (by omega)) (tle rfl) (by omega) (by omega) (by omega) ?_
  exact z_zret b dX8_isColour_7 rfl (b2_01 _) (by omega) (by omega) ⟨iv_eq (by first | rfl | omega | ((try simp only [b2]); ((repeat' split) <;> (first | rfl | omega)))), rfl⟩
set_option maxRecDepth 20000 in
theorem k_X8_isHand {l0 : Launch} {g : Gw} {w nx : Nat} {h : Nat → va_E} {C : Nat → Nat → Int} {A : Nat → Int → Int} {V : Nat → Value} {x : Int} (hx : inR x) : MD l0 g 1 mX8_isHand (cp w C A V h, nx) [.int (iI (x))] 0 0 (some (.int (iI (b2 (0 ≤ x ∧ x ≤ 5))))) (cp w C A V h, nx) := by
  refine MD.of (by decide +kernel) (by simp [Value.category]) (tle rfl) (fun X b => ?_)
  change WW X g _ _ 0 0 0 [some (.int (iI (x)))] [] _
  refine w_iload_n b dX8_isHand_0 rfl ?_
  refine z_iconst b dX8_isHand_1 ?_
  refine z_iconst b dX8_isHand_2 ?_
  refine c_S3 b dX8_isHand_3 lmX8_74 (k_X8_isWithin (by omega) (by omega) (by omega)) (tle rfl) (by omega) (by omega) (by omega) ?_
  exact z_zret b dX8_isHand_6 rfl (b2_01 _) (by omega) (by omega) ⟨iv_eq (by first | rfl | omega | ((try simp only [b2]); ((repeat' split) <;> (first | rfl | omega)))), rfl⟩
set_option maxRecDepth 20000 in
theorem k_X8_isShelf {l0 : Launch} {g : Gw} {w nx : Nat} {h : Nat → va_E} {C : Nat → Nat → Int} {A : Nat → Int → Int} {V : Nat → Value} {x : Int} (hx : inR x) : MD l0 g 1 mX8_isShelf (cp w C A V h, nx) [.int (iI (x))] 0 0 (some (.int (iI (b2 (0 ≤ x ∧ x ≤ 7))))) (cp w C A V h, nx) := by
  refine MD.of (by decide +kernel) (by simp [Value.category]) (tle rfl) (fun X b => ?_)
  change WW X g _ _ 0 0 0 [some (.int (iI (x)))] [] _
  refine w_iload_n b dX8_isShelf_0 rfl ?_
  refine z_iconst b dX8_isShelf_1 ?_
  refine z_bipush b dX8_isShelf_2 (by decide) ?_
  refine c_S3 b dX8_isShelf_4 lmX8_74 (k_X8_isWithin (by omega) (by omega) (by omega)) (tle rfl) (by omega) (by omega) (by omega) ?_
  exact z_zret b dX8_isShelf_7 rfl (b2_01 _) (by omega) (by omega) ⟨iv_eq (by first | rfl | omega | ((try simp only [b2]); ((repeat' split) <;> (first | rfl | omega)))), rfl⟩
set_option maxRecDepth 20000 in
theorem k_X8_isSide {l0 : Launch} {g : Gw} {w nx : Nat} {h : Nat → va_E} {C : Nat → Nat → Int} {A : Nat → Int → Int} {V : Nat → Value} {x : Int} (hx : inR x) : MD l0 g 1 mX8_isSide (cp w C A V h, nx) [.int (iI (x))] 0 0 (some (.int (iI (b2 (1 ≤ x ∧ x ≤ 400))))) (cp w C A V h, nx) := by
  refine MD.of (by decide +kernel) (by simp [Value.category]) (tle rfl) (fun X b => ?_)
  change WW X g _ _ 0 0 0 [some (.int (iI (x)))] [] _
  refine w_iload_n b dX8_isSide_0 rfl ?_
  refine z_iconst b dX8_isSide_1 ?_
  refine z_sipush b dX8_isSide_2 (by decide) ?_
  refine c_S3 b dX8_isSide_5 lmX8_74 (k_X8_isWithin (by omega) (by omega) (by omega)) (tle rfl) (by omega) (by omega) (by omega) ?_
  exact z_zret b dX8_isSide_8 rfl (b2_01 _) (by omega) (by omega) ⟨iv_eq (by first | rfl | omega | ((try simp only [b2]); ((repeat' split) <;> (first | rfl | omega)))), rfl⟩
set_option maxRecDepth 20000 in
theorem k_X8_areUnits {l0 : Launch} {g : Gw} {w nx : Nat} {h : Nat → va_E} {C : Nat → Nat → Int} {A : Nat → Int → Int} {V : Nat → Value} {a e : Int} (ha : inR a) (he : inR e) : MD l0 g 1 mX8_areUnits (cp w C A V h, nx) [.int (iI (a)), .int (iI (e))] 0 0 (some (.int (iI (b2 (((1 ≤ a ∧ a ≤ 40) ∧ (1 ≤ e ∧ e ≤ 40)) ∧ ¬ a = e))))) (cp w C A V h, nx) := by
  refine MD.of (by decide +kernel) (by simp [Value.category]) (tle rfl) (fun X b => ?_)
  change WW X g _ _ 0 0 0 [some (.int (iI (a))), some (.int (iI (e)))] [] _
  refine w_iload_n b dX8_areUnits_0 rfl ?_
  refine z_iconst b dX8_areUnits_1 ?_
  refine z_bipush b dX8_areUnits_2 (by decide) ?_
  refine c_S3 b dX8_areUnits_4 lmX8_74 (k_X8_isWithin (by omega) (by omega) (by omega)) (tle rfl) (by omega) (by omega) (by omega) ?_
  refine z_ifb_eq (tgt := 29) b dX8_areUnits_7 (by decide) (fun c7 => ?_) (fun c7 => ?_)
  · refine z_iconst b dX8_areUnits_29 ?_
    exact z_zret b dX8_areUnits_30 rfl (by omega) (by omega) (by omega) ⟨iv_eq (by first | rfl | omega | ((try simp only [b2]); ((repeat' split) <;> (first | rfl | omega)))), rfl⟩
  · refine w_iload_n b dX8_areUnits_10 rfl ?_
    refine z_iconst b dX8_areUnits_11 ?_
    refine z_bipush b dX8_areUnits_12 (by decide) ?_
    refine c_S3 b dX8_areUnits_14 lmX8_74 (k_X8_isWithin (by omega) (by omega) (by omega)) (tle rfl) (by omega) (by omega) (by omega) ?_
    refine z_ifb_eq (tgt := 29) b dX8_areUnits_17 (by decide) (fun c17 => ?_) (fun c17 => ?_)
    · refine z_iconst b dX8_areUnits_29 ?_
      exact z_zret b dX8_areUnits_30 rfl (by omega) (by omega) (by omega) ⟨iv_eq (by first | rfl | omega | ((try simp only [b2]); ((repeat' split) <;> (first | rfl | omega)))), rfl⟩
    · refine w_iload_n b dX8_areUnits_20 rfl ?_
      refine w_iload_n b dX8_areUnits_21 rfl ?_
      refine z_icmp_eq (tgt := 29) b dX8_areUnits_22 (by decide) (by omega) (fun c22 => ?_) (fun c22 => ?_)
      · refine z_iconst b dX8_areUnits_29 ?_
        exact z_zret b dX8_areUnits_30 rfl (by omega) (by omega) (by omega) ⟨iv_eq (by first | rfl | omega | ((try simp only [b2]); ((repeat' split) <;> (first | rfl | omega)))), rfl⟩
      · refine z_iconst b dX8_areUnits_25 ?_
        refine w_goto (tgt := 30) b dX8_areUnits_26 (by decide) ?_
        exact z_zret b dX8_areUnits_30 rfl (by omega) (by omega) (by omega) ⟨iv_eq (by first | rfl | omega | ((try simp only [b2]); ((repeat' split) <;> (first | rfl | omega)))), rfl⟩
set_option maxRecDepth 20000 in
theorem k_J9_max_7cf53 {l0 : Launch} {g : Gw} {w nx : Nat} {h : Nat → va_E} {C : Nat → Nat → Int} {A : Nat → Int → Int} {V : Nat → Value} {a e : Int} (ha : inR a) (he : inR e) : MD l0 g 0 mJ9_max_7cf53 (cp w C A V h, nx) [.int (iI (a)), .int (iI (e))] 0 0 (some (.int (iI (if e ≤ a then a else e)))) (cp w C A V h, nx) := by
  refine MD.ofF (by decide +kernel) (by simp [Value.category]) (tle rfl) (fun X b => ?_)
  change WW X g _ _ 0 0 0 [some (.int (iI (a))), some (.int (iI (e)))] [] _
  refine w_iload_n b dJ9_max_7cf53_0 rfl ?_
  refine w_iload_n b dJ9_max_7cf53_1 rfl ?_
  refine z_icmp_lt (tgt := 9) b dJ9_max_7cf53_2 (by decide) (by omega) (fun c2 => ?_) (fun c2 => ?_)
  · refine w_iload_n b dJ9_max_7cf53_9 rfl ?_
    exact w_iret b dJ9_max_7cf53_10 rfl (by omega) (by omega) ⟨iv_eq (by first | rfl | omega | ((try simp only [b2]); ((repeat' split) <;> (first | rfl | omega)))), rfl⟩
  · refine w_iload_n b dJ9_max_7cf53_5 rfl ?_
    refine w_goto (tgt := 10) b dJ9_max_7cf53_6 (by decide) ?_
    exact w_iret b dJ9_max_7cf53_10 rfl (by omega) (by omega) ⟨iv_eq (by first | rfl | omega | ((try simp only [b2]); ((repeat' split) <;> (first | rfl | omega)))), rfl⟩
set_option maxRecDepth 20000 in
theorem k_J9_min_7cf53 {l0 : Launch} {g : Gw} {w nx : Nat} {h : Nat → va_E} {C : Nat → Nat → Int} {A : Nat → Int → Int} {V : Nat → Value} {a e : Int} (ha : inR a) (he : inR e) : MD l0 g 0 mJ9_min_7cf53 (cp w C A V h, nx) [.int (iI (a)), .int (iI (e))] 0 0 (some (.int (iI (if a ≤ e then a else e)))) (cp w C A V h, nx) := by
  refine MD.ofF (by decide +kernel) (by simp [Value.category]) (tle rfl) (fun X b => ?_)
  change WW X g _ _ 0 0 0 [some (.int (iI (a))), some (.int (iI (e)))] [] _
  refine w_iload_n b dJ9_min_7cf53_0 rfl ?_
  refine w_iload_n b dJ9_min_7cf53_1 rfl ?_
  refine z_icmp_gt (tgt := 9) b dJ9_min_7cf53_2 (by decide) (by omega) (fun c2 => ?_) (fun c2 => ?_)
  · refine w_iload_n b dJ9_min_7cf53_9 rfl ?_
    exact w_iret b dJ9_min_7cf53_10 rfl (by omega) (by omega) ⟨iv_eq (by first | rfl | omega | ((try simp only [b2]); ((repeat' split) <;> (first | rfl | omega)))), rfl⟩
  · refine w_iload_n b dJ9_min_7cf53_5 rfl ?_
    refine w_goto (tgt := 10) b dJ9_min_7cf53_6 (by decide) ?_
    exact w_iret b dJ9_min_7cf53_10 rfl (by omega) (by omega) ⟨iv_eq (by first | rfl | omega | ((try simp only [b2]); ((repeat' split) <;> (first | rfl | omega)))), rfl⟩
set_option maxRecDepth 20000 in
theorem k_X1_hasRow {l0 : Launch} {g : Gw} {w nx : Nat} {h : Nat → va_E} {C : Nat → Nat → Int} {A : Nat → Int → Int} {V : Nat → Value} {r : Int} (hr : inR r) (hT : 0 ≤ C 1 5 ∧ C 1 5 ≤ 40) : MD l0 g 0 mX1_hasRow (cp w C A V h, nx) [.ref 1, .int (iI (r))] 0 0 (some (.int (iI (b2 (0 ≤ r ∧ r < C 1 5))))) (cp w C A V h, nx) := by
  refine MD.of (by decide +kernel) (by simp [Value.category]) (tle rfl) (fun X b => ?_)
  change WW X g _ _ 0 0 0 [some (.ref 1), some (.int (iI (r)))] [] _
  refine w_iload_n b dX1_hasRow_0 rfl ?_
  refine z_if_lt (tgt := 16) b dX1_hasRow_1 (by decide) (by omega) (fun c1 => ?_) (fun c1 => ?_)
  · refine z_iconst b dX1_hasRow_16 ?_
    exact z_zret b dX1_hasRow_17 rfl (by omega) (by omega) (by omega) ⟨iv_eq (by first | rfl | omega | ((try simp only [b2]); ((repeat' split) <;> (first | rfl | omega)))), rfl⟩
  · refine w_iload_n b dX1_hasRow_4 rfl ?_
    refine w_aload_n b dX1_hasRow_5 rfl rfl ?_
    refine q_get b dX1_hasRow_6 lfX1_38 (tlt rfl) ct_1 rfl ?_
    refine z_icmp_ge (tgt := 16) b dX1_hasRow_9 (by decide) (by omega) (fun c9 => ?_) (fun c9 => ?_)
    · refine z_iconst b dX1_hasRow_16 ?_
      exact z_zret b dX1_hasRow_17 rfl (by omega) (by omega) (by omega) ⟨iv_eq (by first | rfl | omega | ((try simp only [b2]); ((repeat' split) <;> (first | rfl | omega)))), rfl⟩
    · refine z_iconst b dX1_hasRow_12 ?_
      refine w_goto (tgt := 17) b dX1_hasRow_13 (by decide) ?_
      exact z_zret b dX1_hasRow_17 rfl (by omega) (by omega) (by omega) ⟨iv_eq (by first | rfl | omega | ((try simp only [b2]); ((repeat' split) <;> (first | rfl | omega)))), rfl⟩
set_option maxRecDepth 20000 in
theorem k_X1_hasKnot {l0 : Launch} {g : Gw} {w nx : Nat} {h : Nat → va_E} {C : Nat → Nat → Int} {A : Nat → Int → Int} {V : Nat → Value} {r i : Int} (hr : inR r) (hi : inR i) (hT : 0 ≤ C 1 5 ∧ C 1 5 ≤ 40) (hw : 4 ≤ w ∧ w ≤ 40) : MD l0 g 1 mX1_hasKnot (cp w C A V h, nx) [.ref 1, .int (iI (r)), .int (iI (i))] 0 0 (some (.int (iI (b2 ((0 ≤ r ∧ r < C 1 5) ∧ (0 ≤ i ∧ i < (w : Int))))))) (cp w C A V h, nx) := by
  refine MD.of (by decide +kernel) (by simp [Value.category]) (tle rfl) (fun X b => ?_)
  change WW X g _ _ 0 0 0 [some (.ref 1), some (.int (iI (r))), some (.int (iI (i)))] [] _
  refine w_aload_n b dX1_hasKnot_0 rfl rfl ?_
  refine w_iload_n b dX1_hasKnot_1 rfl ?_
  refine c_V1 b dX1_hasKnot_2 lmX1_41 (cpS (tlt rfl) ct_1) (k_X1_hasRow (by omega) hT) (tle rfl) (by omega) (by omega) (by omega) ?_
  refine z_ifb_eq (tgt := 24) b dX1_hasKnot_5 (by decide) (fun c5 => ?_) (fun c5 => ?_)
  · refine z_iconst b dX1_hasKnot_24 ?_
    exact z_zret b dX1_hasKnot_25 rfl (by omega) (by omega) (by omega) ⟨iv_eq (by first | rfl | omega | ((try simp only [b2]); ((repeat' split) <;> (first | rfl | omega)))), rfl⟩
  · refine w_iload_n b dX1_hasKnot_8 rfl ?_
    refine z_if_lt (tgt := 24) b dX1_hasKnot_9 (by decide) (by omega) (fun c9 => ?_) (fun c9 => ?_)
    · refine z_iconst b dX1_hasKnot_24 ?_
      exact z_zret b dX1_hasKnot_25 rfl (by omega) (by omega) (by omega) ⟨iv_eq (by first | rfl | omega | ((try simp only [b2]); ((repeat' split) <;> (first | rfl | omega)))), rfl⟩
    · refine w_iload_n b dX1_hasKnot_12 rfl ?_
      refine w_aload_n b dX1_hasKnot_13 rfl rfl ?_
      refine q_get b dX1_hasKnot_14 lfX1_30 (tlt rfl) ct_1 rfl ?_
      refine z_icmp_ge (tgt := 24) b dX1_hasKnot_17 (by decide) (by omega) (fun c17 => ?_) (fun c17 => ?_)
      · refine z_iconst b dX1_hasKnot_24 ?_
        exact z_zret b dX1_hasKnot_25 rfl (by omega) (by omega) (by omega) ⟨iv_eq (by first | rfl | omega | ((try simp only [b2]); ((repeat' split) <;> (first | rfl | omega)))), rfl⟩
      · refine z_iconst b dX1_hasKnot_20 ?_
        refine w_goto (tgt := 25) b dX1_hasKnot_21 (by decide) ?_
        exact z_zret b dX1_hasKnot_25 rfl (by omega) (by omega) (by omega) ⟨iv_eq (by first | rfl | omega | ((try simp only [b2]); ((repeat' split) <;> (first | rfl | omega)))), rfl⟩
set_option maxRecDepth 20000 in
theorem k_X1_setHand {l0 : Launch} {g : Gw} {w nx : Nat} {h : Nat → va_E} {C : Nat → Nat → Int} {A : Nat → Int → Int} {V : Nat → Value} {x n p : Int} (hx : 0 ≤ x ∧ x ≤ 5) (hn : inR n) (hp9 : inR p) (hs : ∀ j, 0 ≤ j → j ≤ 5 → 1 ≤ A 2 j ∧ A 2 j ≤ 40) (hp : ∀ j, 0 ≤ j → j ≤ 5 → 1 ≤ A 3 j ∧ A 3 j ≤ 20) : MD l0 g 0 mX1_setHand (cp w C A V h, nx) [.ref 1, .int (iI (x)), .int (iI (n)), .int (iI (p))] 0 0 (some (.int (iI (b2 (¬ (A 2 x = n ∧ A 3 x = p)))))) (cp w C (va_up (va_up A 2 (fu (A 2) x n)) 3 (fu (A 3) x p)) V h, nx) := by
  refine MD.of (by decide +kernel) (by simp [Value.category]) (tle rfl) (fun X b => ?_)
  change WW X g _ _ 0 0 0 [some (.ref 1), some (.int (iI (x))), some (.int (iI (n))), some (.int (iI (p))), none] [] _
  refine w_aload_n b dX1_setHand_0 rfl rfl ?_
  refine q_get b dX1_setHand_1 lfX1_9 (tlt rfl) ct_1 rfl ?_
  refine w_iload_n b dX1_setHand_4 rfl ?_
  refine q_iald b dX1_setHand_5 (tlt rfl) ct_2 (by omega) ?_
  refine w_iload_n b dX1_setHand_6 rfl ?_
  refine z_icmp_ne (tgt := 20) b dX1_setHand_7 (by decide) (by have := hs x (by omega) (by omega); have := hp x (by omega) (by omega); omega) (fun c7 => ?_) (fun c7 => ?_)
  · refine z_iconst b dX1_setHand_20 ?_
    refine w_goto (tgt := 25) b dX1_setHand_21 (by decide) ?_
    refine w_istore b dX1_setHand_25 (tlt rfl) rfl ?_
    refine w_aload_n b dX1_setHand_27 rfl rfl ?_
    refine q_get b dX1_setHand_28 lfX1_9 (tlt rfl) ct_1 rfl ?_
    refine w_iload_n b dX1_setHand_31 rfl ?_
    refine w_iload_n b dX1_setHand_32 rfl ?_
    refine q_iast b dX1_setHand_33 (tlt rfl) (fun _ => ct_2) (by omega) ?_
    refine w_aload_n b dX1_setHand_34 rfl rfl ?_
    refine q_get b dX1_setHand_35 lfX1_15 (tlt rfl) ct_1 rfl ?_
    refine w_iload_n b dX1_setHand_38 rfl ?_
    refine w_iload_n b dX1_setHand_39 rfl ?_
    refine q_iast b dX1_setHand_40 (tlt rfl) (fun _ => ct_3) (by omega) ?_
    refine w_iload b dX1_setHand_41 rfl ?_
    exact z_zret b dX1_setHand_43 rfl (by omega) (by omega) (by omega) ⟨iv_eq (by first | rfl | omega | ((try simp only [b2]); ((repeat' split) <;> (first | rfl | omega)))), rfl⟩
  · refine w_aload_n b dX1_setHand_10 rfl rfl ?_
    refine q_get b dX1_setHand_11 lfX1_15 (tlt rfl) ct_1 rfl ?_
    refine w_iload_n b dX1_setHand_14 rfl ?_
    refine q_iald b dX1_setHand_15 (tlt rfl) ct_3 (by omega) ?_
    refine w_iload_n b dX1_setHand_16 rfl ?_
    refine z_icmp_eq (tgt := 24) b dX1_setHand_17 (by decide) (by have := hs x (by omega) (by omega); have := hp x (by omega) (by omega); omega) (fun c17 => ?_) (fun c17 => ?_)
    · refine z_iconst b dX1_setHand_24 ?_
      refine w_istore b dX1_setHand_25 (tlt rfl) rfl ?_
      refine w_aload_n b dX1_setHand_27 rfl rfl ?_
      refine q_get b dX1_setHand_28 lfX1_9 (tlt rfl) ct_1 rfl ?_
      refine w_iload_n b dX1_setHand_31 rfl ?_
      refine w_iload_n b dX1_setHand_32 rfl ?_
      refine q_iast b dX1_setHand_33 (tlt rfl) (fun _ => ct_2) (by omega) ?_
      refine w_aload_n b dX1_setHand_34 rfl rfl ?_
      refine q_get b dX1_setHand_35 lfX1_15 (tlt rfl) ct_1 rfl ?_
      refine w_iload_n b dX1_setHand_38 rfl ?_
      refine w_iload_n b dX1_setHand_39 rfl ?_
      refine q_iast b dX1_setHand_40 (tlt rfl) (fun _ => ct_3) (by omega) ?_
      refine w_iload b dX1_setHand_41 rfl ?_
      exact z_zret b dX1_setHand_43 rfl (by omega) (by omega) (by omega) ⟨iv_eq (by first | rfl | omega | ((try simp only [b2]); ((repeat' split) <;> (first | rfl | omega)))), rfl⟩
    · refine z_iconst b dX1_setHand_20 ?_
      refine w_goto (tgt := 25) b dX1_setHand_21 (by decide) ?_
      refine w_istore b dX1_setHand_25 (tlt rfl) rfl ?_
      refine w_aload_n b dX1_setHand_27 rfl rfl ?_
      refine q_get b dX1_setHand_28 lfX1_9 (tlt rfl) ct_1 rfl ?_
      refine w_iload_n b dX1_setHand_31 rfl ?_
      refine w_iload_n b dX1_setHand_32 rfl ?_
      refine q_iast b dX1_setHand_33 (tlt rfl) (fun _ => ct_2) (by omega) ?_
      refine w_aload_n b dX1_setHand_34 rfl rfl ?_
      refine q_get b dX1_setHand_35 lfX1_15 (tlt rfl) ct_1 rfl ?_
      refine w_iload_n b dX1_setHand_38 rfl ?_
      refine w_iload_n b dX1_setHand_39 rfl ?_
      refine q_iast b dX1_setHand_40 (tlt rfl) (fun _ => ct_3) (by omega) ?_
      refine w_iload b dX1_setHand_41 rfl ?_
      exact z_zret b dX1_setHand_43 rfl (by omega) (by omega) (by omega) ⟨iv_eq (by first | rfl | omega | ((try simp only [b2]); ((repeat' split) <;> (first | rfl | omega)))), rfl⟩
/-- the hand at a place, as the class seeks it: n hands from k on, e the end so far -/
def hgA (s : Int → Int) (p : Int) : Nat → Int → Int → Int
  | 0, _, _ => 5
  | n + 1, k, e => if p < e + s k then k else hgA s p n (k + 1) (e + s k)
theorem hgA_hfA (s : Int → Int) (p : Int) : ∀ (n : Nat) (k e : Int), k + n = 5 → hgA s p (n + 1) k e = hfA s p n k (e + s k) := by
  intro n
  induction n with
  | zero => intro k e h; simp [hgA, hfA]; omega
  | succ n ih =>
    intro k e h
    unfold hgA hfA
    rw [ih (k + 1) (e + s k) (by omega)]
theorem hgA_handF (s : Int → Int) (p : Int) : hgA s p 6 0 0 = handF s p := by
  rw [hgA_hfA s p 5 0 0 (by omega), Int.zero_add]; rfl
set_option maxRecDepth 20000 in
theorem l_X1_handAt {X : Cx} {l0 : Launch} {g : Gw} {Q : Option Value → Sg → Prop} {w nx : Nat} {h : Nat → va_E} {C : Nat → Nat → Int} {A : Nat → Int → Int} {V : Nat → Value} (b : BX X l0 g mX1_handAt 0 0 0) {p : Int} (hp : inR p) (hs : ∀ j, 0 ≤ j → j ≤ 5 → 1 ≤ A 2 j ∧ A 2 j ≤ 40) : ∀ (n : Nat) (k e : Int), (k + n = 6) → (0 ≤ k) → (0 ≤ e ∧ e ≤ 40 * k) → Q (some (.int (iI (hgA (A 2) p n k e)))) (cp w C A V h, nx) → WW X g mX1_handAt.2.2.1 (ZQ X g Q 0 0) 0 0 4 [some (.ref 1), some (.int (iI (p))), some (.int (iI (e))), some (.int (iI (k)))] [] (cp w C A V h, nx) := by
  intro n
  induction n with
  | zero =>
    intro k e h1 h2 h3 hq
    refine w_iload_n b dX1_handAt_4 rfl ?_
    refine z_bipush b dX1_handAt_5 (by decide) ?_
    refine z_icmp_ge (tgt := 32) b dX1_handAt_7 (by decide) (by omega) (fun c7 => ?_) (fun c7 => ?_)
    · refine z_iconst b dX1_handAt_32 ?_
      exact w_iret b dX1_handAt_33 rfl (by omega) (by omega) hq
    · exfalso; omega
  | succ n ih =>
    intro k e h1 h2 h3 hq
    refine w_iload_n b dX1_handAt_4 rfl ?_
    refine z_bipush b dX1_handAt_5 (by decide) ?_
    refine z_icmp_ge (tgt := 32) b dX1_handAt_7 (by decide) (by omega) (fun c7 => ?_) (fun c7 => ?_)
    · exfalso; omega
    · refine w_iload_n b dX1_handAt_10 rfl ?_
      refine w_aload_n b dX1_handAt_11 rfl rfl ?_
      refine q_get b dX1_handAt_12 lfX1_9 (tlt rfl) ct_1 rfl ?_
      refine w_iload_n b dX1_handAt_15 rfl ?_
      refine q_iald b dX1_handAt_16 (tlt rfl) ct_2 (by omega) ?_
      refine z_iadd b dX1_handAt_17 ?_
      refine w_istore_n b dX1_handAt_18 (tlt rfl) rfl ?_
      refine w_iload_n b dX1_handAt_19 rfl ?_
      refine w_iload_n b dX1_handAt_20 rfl ?_
      refine z_icmp_ge (tgt := 26) b dX1_handAt_21 (by decide) (by have := hs k (by omega) (by omega); omega) (fun c21 => ?_) (fun c21 => ?_)
      · have e1 : hgA (A 2) p (n + 1) k e = hgA (A 2) p n (k + 1) (e + A 2 k) := by
          conv => lhs; unfold hgA
          exact if_neg (by omega)
        rw [e1] at hq
        refine z_iinc b dX1_handAt_26 rfl rfl rfl ?_
        refine w_goto (tgt := 4) b dX1_handAt_29 (by decide) ?_
        exact ih (k + 1) _ (by omega) (by omega) (by have := hs k (by omega) (by omega); omega) hq
      · have e1 : hgA (A 2) p (n + 1) k e = k := by
          unfold hgA
          exact if_pos (by omega)
        rw [e1] at hq
        refine w_iload_n b dX1_handAt_24 rfl ?_
        exact w_iret b dX1_handAt_25 rfl (by omega) (by omega) hq
set_option maxRecDepth 20000 in
theorem k_X1_handAt {l0 : Launch} {g : Gw} {w nx : Nat} {h : Nat → va_E} {C : Nat → Nat → Int} {A : Nat → Int → Int} {V : Nat → Value} {p : Int} (hp : inR p) (hs : ∀ j, 0 ≤ j → j ≤ 5 → 1 ≤ A 2 j ∧ A 2 j ≤ 40) : MD l0 g 0 mX1_handAt (cp w C A V h, nx) [.ref 1, .int (iI (p))] 0 0 (some (.int (iI (handF (A 2) p)))) (cp w C A V h, nx) := by
  refine MD.of (by decide +kernel) (by simp [Value.category]) (tle rfl) (fun X b => ?_)
  change WW X g _ _ 0 0 0 [some (.ref 1), some (.int (iI (p))), none, none] [] _
  refine z_iconst b dX1_handAt_0 ?_
  refine w_istore_n b dX1_handAt_1 (tlt rfl) rfl ?_
  refine z_iconst b dX1_handAt_2 ?_
  refine w_istore_n b dX1_handAt_3 (tlt rfl) rfl ?_
  exact l_X1_handAt b hp hs 6 0 0 (by omega) (by omega) (by omega) ⟨iv_eq (hgA_handF _ _), rfl⟩
set_option maxRecDepth 20000 in
theorem k_X3_isFault {l0 : Launch} {g : Gw} {w nx : Nat} {h : Nat → va_E} {C : Nat → Nat → Int} {A : Nat → Int → Int} {V : Nat → Value} {r : Nat} {i : Int} (hr : r < 40) (hi : 0 ≤ i ∧ i < (w : Int)) (hw : 4 ≤ w ∧ w ≤ 40) (h1 : inR (A (30 + 5 * r + 1) i)) (h2 : inR (A (30 + 5 * r + 2) i)) : MD l0 g 0 mX3_isFault (cp w C A V h, nx) [.ref (30 + 5 * r), .int (iI (i))] 0 0 (some (.int (iI (b2 (¬ A (30 + 5 * r + 2) i = A (30 + 5 * r + 1) i))))) (cp w C A V h, nx) := by
  refine MD.of (by decide +kernel) (by simp [Value.category]) (tle rfl) (fun X b => ?_)
  change WW X g _ _ 0 0 0 [some (.ref (30 + 5 * r)), some (.int (iI (i)))] [] _
  refine w_aload_n b dX3_isFault_0 rfl rfl ?_
  refine q_get b dX3_isFault_1 lfX3_13 (by omega) (ct_row (by omega)) rfl ?_
  refine w_iload_n b dX3_isFault_4 rfl ?_
  refine q_bald b dX3_isFault_5 (by omega) (ct_row2 (by omega)) (by omega) ?_
  refine w_aload_n b dX3_isFault_6 rfl rfl ?_
  refine q_get b dX3_isFault_7 lfX3_7 (by omega) (ct_row (by omega)) rfl ?_
  refine w_iload_n b dX3_isFault_10 rfl ?_
  refine q_bald b dX3_isFault_11 (by omega) (ct_row1 (by omega)) (by omega) ?_
  refine z_icmp_eq (tgt := 19) b dX3_isFault_12 (by decide) (by omega) (fun c12 => ?_) (fun c12 => ?_)
  · refine z_iconst b dX3_isFault_19 ?_
    exact z_zret b dX3_isFault_20 rfl (by omega) (by omega) (by omega) ⟨iv_eq (by first | rfl | omega | ((try simp only [b2]); ((repeat' split) <;> (first | rfl | omega)))), rfl⟩
  · refine z_iconst b dX3_isFault_15 ?_
    refine w_goto (tgt := 20) b dX3_isFault_16 (by decide) ?_
    exact z_zret b dX3_isFault_20 rfl (by omega) (by omega) (by omega) ⟨iv_eq (by first | rfl | omega | ((try simp only [b2]); ((repeat' split) <;> (first | rfl | omega)))), rfl⟩
set_option maxRecDepth 20000 in
theorem k_X3_lay {l0 : Launch} {g : Gw} {w nx : Nat} {h : Nat → va_E} {C : Nat → Nat → Int} {A : Nat → Int → Int} {V : Nat → Value} {r : Nat} {i c s t : Int} (hr : r < 40) (hi : 0 ≤ i ∧ i < (w : Int)) (hw : 4 ≤ w ∧ w ≤ 40) (hc : 0 ≤ c ∧ c ≤ 7) (hs : 0 ≤ s ∧ s ≤ 9) (ht : 0 ≤ t ∧ t ≤ 11) : MD l0 g 0 mX3_lay (cp w C A V h, nx) [.ref (30 + 5 * r), .int (iI (i)), .int (iI (c)), .int (iI (s)), .int (iI (t))] 0 0 (none) (cp w C (va_up (va_up (va_up (va_up A (30 + 5 * r + 1) (fu (A (30 + 5 * r + 1)) i c)) (30 + 5 * r + 2) (fu (A (30 + 5 * r + 2)) i c)) (30 + 5 * r + 3) (fu (A (30 + 5 * r + 3)) i s)) (30 + 5 * r + 4) (fu (A (30 + 5 * r + 4)) i t)) V h, nx) := by
  refine MD.of (by decide +kernel) (by simp [Value.category]) (tle rfl) (fun X b => ?_)
  change WW X g _ _ 0 0 0 [some (.ref (30 + 5 * r)), some (.int (iI (i))), some (.int (iI (c))), some (.int (iI (s))), some (.int (iI (t)))] [] _
  refine w_aload_n b dX3_lay_0 rfl rfl ?_
  refine q_get b dX3_lay_1 lfX3_7 (by omega) (ct_row (by omega)) rfl ?_
  refine w_iload_n b dX3_lay_4 rfl ?_
  refine w_iload_n b dX3_lay_5 rfl ?_
  refine z_i2b b dX3_lay_6 (by omega) ?_
  refine q_bast b dX3_lay_7 (by omega) (fun _ => ct_row1 (by omega)) (by omega) (by omega) ?_
  refine w_aload_n b dX3_lay_8 rfl rfl ?_
  refine q_get b dX3_lay_9 lfX3_13 (by omega) (ct_row (by omega)) rfl ?_
  refine w_iload_n b dX3_lay_12 rfl ?_
  refine w_iload_n b dX3_lay_13 rfl ?_
  refine z_i2b b dX3_lay_14 (by omega) ?_
  refine q_bast b dX3_lay_15 (by omega) (fun _ => ct_row2 (by omega)) (by omega) (by omega) ?_
  refine w_aload_n b dX3_lay_16 rfl rfl ?_
  refine q_get b dX3_lay_17 lfX3_16 (by omega) (ct_row (by omega)) rfl ?_
  refine w_iload_n b dX3_lay_20 rfl ?_
  refine w_iload_n b dX3_lay_21 rfl ?_
  refine z_i2b b dX3_lay_22 (by omega) ?_
  refine q_bast b dX3_lay_23 (by omega) (fun _ => ct_row3 (by omega)) (by omega) (by omega) ?_
  refine w_aload_n b dX3_lay_24 rfl rfl ?_
  refine q_get b dX3_lay_25 lfX3_19 (by omega) (ct_row (by omega)) rfl ?_
  refine w_iload_n b dX3_lay_28 rfl ?_
  refine w_iload b dX3_lay_29 rfl ?_
  refine z_i2b b dX3_lay_31 (by omega) ?_
  refine q_bast b dX3_lay_32 (by omega) (fun _ => ct_row4 (by omega)) (by omega) (by omega) ?_
  exact w_vret b dX3_lay_33 rfl (by omega) (by omega) ⟨rfl, by rw [va_up_ne _ _ (show 30 + 5 * r + 2 ≠ 30 + 5 * r + 1 by omega), va_up_ne _ _ (show 30 + 5 * r + 3 ≠ 30 + 5 * r + 2 by omega), va_up_ne _ _ (show 30 + 5 * r + 3 ≠ 30 + 5 * r + 1 by omega), va_up_ne _ _ (show 30 + 5 * r + 4 ≠ 30 + 5 * r + 3 by omega), va_up_ne _ _ (show 30 + 5 * r + 4 ≠ 30 + 5 * r + 2 by omega), va_up_ne _ _ (show 30 + 5 * r + 4 ≠ 30 + 5 * r + 1 by omega)]⟩
set_option maxRecDepth 20000 in
theorem k_X1_roundedUp {l0 : Launch} {g : Gw} {w nx : Nat} {h : Nat → va_E} {C : Nat → Nat → Int} {A : Nat → Int → Int} {V : Nat → Value} {n p : Int} (hn : 0 ≤ n ∧ n ≤ 1000) (hp : 1 ≤ p ∧ p ≤ 20) : MD l0 g 0 mX1_roundedUp (cp w C A V h, nx) [.int (iI (n)), .int (iI (p))] 0 0 (some (.int (iI ((n + p - 1) / p)))) (cp w C A V h, nx) := by
  refine MD.of (by decide +kernel) (by simp [Value.category]) (tle rfl) (fun X b => ?_)
  change WW X g _ _ 0 0 0 [some (.int (iI (n))), some (.int (iI (p)))] [] _
  refine w_iload_n b dX1_roundedUp_0 rfl ?_
  refine z_iconst b dX1_roundedUp_1 ?_
  refine z_icmp_ge (tgt := 9) b dX1_roundedUp_2 (by decide) (by omega) (fun c2 => ?_) (fun c2 => ?_)
  · refine w_iload_n b dX1_roundedUp_9 rfl ?_
    refine w_iload_n b dX1_roundedUp_10 rfl ?_
    refine z_iadd b dX1_roundedUp_11 ?_
    refine z_iconst b dX1_roundedUp_12 ?_
    refine z_isub b dX1_roundedUp_13 ?_
    refine w_iload_n b dX1_roundedUp_14 rfl ?_
    refine z_idiv b dX1_roundedUp_15 (by omega) ?_
    exact w_iret b dX1_roundedUp_16 rfl (by omega) (by omega) ⟨iv_eq (by first | rfl | omega | ((try simp only [b2]); ((repeat' split) <;> (first | rfl | omega)))), rfl⟩
  · exfalso; omega
