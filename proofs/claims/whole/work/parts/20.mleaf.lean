/-! THE REFERENCE: leaves (by p20.py) -/
set_option maxRecDepth 20000 in
theorem k_X9_in {l0 : Launch} {g : Gw} {σ : Sg} {q : Nat} {v lo hi : Int} (hv : inR v) (hl : inR lo) (hh : inR hi) : MD l0 g 0 mX9_in σ [.ref q, .int (iI v), .int (iI lo), .int (iI hi)] 0 0 (some (.int (iI (b2 (lo ≤ v ∧ v ≤ hi))))) σ := by
  refine MD.of (by decide +kernel) (by simp [Value.category]) (tle rfl) (fun X b => ?_)
  change WW X g _ _ 0 0 0 [some (.ref q), some (.int (iI v)), some (.int (iI lo)), some (.int (iI hi))] [] _
  refine w_iload_n b dX9_in_0 rfl ?_
  refine w_iload_n b dX9_in_1 rfl ?_
  refine z_icmp_lt (tgt := 14) b dX9_in_2 (by decide) (by omega) (fun c2 => ?_) (fun c2 => ?_)
  · refine z_iconst b dX9_in_14 ?_
    exact z_zret b dX9_in_15 rfl (by omega) (by omega) (by omega) ⟨iv_eq (by first | rfl | omega | (simp only [b2]; split <;> omega)), rfl⟩
  · refine w_iload_n b dX9_in_5 rfl ?_
    refine w_iload_n b dX9_in_6 rfl ?_
    refine z_icmp_gt (tgt := 14) b dX9_in_7 (by decide) (by omega) (fun c7 => ?_) (fun c7 => ?_)
    · refine z_iconst b dX9_in_14 ?_
      exact z_zret b dX9_in_15 rfl (by omega) (by omega) (by omega) ⟨iv_eq (by first | rfl | omega | (simp only [b2]; split <;> omega)), rfl⟩
    · refine z_iconst b dX9_in_10 ?_
      refine w_goto (tgt := 15) b dX9_in_11 (by decide) ?_
      exact z_zret b dX9_in_15 rfl (by omega) (by omega) (by omega) ⟨iv_eq (by first | rfl | omega | (simp only [b2]; split <;> omega)), rfl⟩
set_option maxRecDepth 20000 in
theorem k_X9_thrown {l0 : Launch} {g : Gw} {mo nx : Nat} {h0 : Nat → va_E} {I : Nat → Int} {F : Nat → Int → Int}   : MD l0 g 0 mX9_thrown (mp mo h0 I F, nx) [.ref mo] 0 0 (some (.int (iI (I 0)))) (mp mo h0 I F, nx) := by
  refine MD.of (by decide +kernel) (by simp [Value.category]) (tle rfl) (fun X b => ?_)
  change WW X g _ _ 0 0 0 [some (.ref mo)] [] _
  refine w_aload_n b dX9_thrown_0 rfl rfl ?_
  refine m_get b dX9_thrown_1 lfX9_1 rfl ?_
  exact w_iret b dX9_thrown_4 rfl (by omega) (by omega) ⟨iv_eq (by first | rfl | omega | (simp only [b2]; split <;> omega)), rfl⟩
set_option maxRecDepth 20000 in
theorem k_X9_isChant {l0 : Launch} {g : Gw} {mo nx : Nat} {h0 : Nat → va_E} {I : Nat → Int} {F : Nat → Int → Int} {c : Int} (hc : inR c) (h2 : 0 ≤ I 2 ∧ I 2 ≤ 12) : MD l0 g 1 mX9_isChant (mp mo h0 I F, nx) [.ref mo, .int (iI c)] 0 0 (some (.int (iI (b2 (0 ≤ c ∧ c ≤ I 2 - 1))))) (mp mo h0 I F, nx) := by
  refine MD.of (by decide +kernel) (by simp [Value.category]) (tle rfl) (fun X b => ?_)
  change WW X g _ _ 0 0 0 [some (.ref mo), some (.int (iI c))] [] _
  refine w_aload_n b dX9_isChant_0 rfl rfl ?_
  refine w_iload_n b dX9_isChant_1 rfl ?_
  refine z_iconst b dX9_isChant_2 ?_
  refine w_aload_n b dX9_isChant_3 rfl rfl ?_
  refine m_get b dX9_isChant_4 lfX9_13 rfl ?_
  refine z_iconst b dX9_isChant_7 ?_
  refine z_isub b dX9_isChant_8 ?_
  refine c_V3 b dX9_isChant_9 lmX9_137 (mp_obj _ _ _ _) (k_X9_in (by omega) (by omega) (by omega)) (tle rfl) (by omega) (by omega) (by omega) ?_
  exact z_zret b dX9_isChant_12 rfl (b2_01 _) (by omega) (by omega) ⟨iv_eq (by first | rfl | omega | (simp only [b2]; split <;> omega)), rfl⟩
set_option maxRecDepth 20000 in
theorem k_X9_isColour {l0 : Launch} {g : Gw} {mo nx : Nat} {h0 : Nat → va_E} {I : Nat → Int} {F : Nat → Int → Int} {c : Int} (hc : inR c) : MD l0 g 1 mX9_isColour (mp mo h0 I F, nx) [.ref mo, .int (iI c)] 0 0 (some (.int (iI (b2 (0 ≤ c ∧ c ≤ 7))))) (mp mo h0 I F, nx) := by
  refine MD.of (by decide +kernel) (by simp [Value.category]) (tle rfl) (fun X b => ?_)
  change WW X g _ _ 0 0 0 [some (.ref mo), some (.int (iI c))] [] _
  refine w_aload_n b dX9_isColour_0 rfl rfl ?_
  refine w_iload_n b dX9_isColour_1 rfl ?_
  refine z_iconst b dX9_isColour_2 ?_
  refine z_bipush b dX9_isColour_3 (by decide) ?_
  refine c_V3 b dX9_isColour_5 lmX9_137 (mp_obj _ _ _ _) (k_X9_in (by omega) (by omega) (by omega)) (tle rfl) (by omega) (by omega) (by omega) ?_
  exact z_zret b dX9_isColour_8 rfl (b2_01 _) (by omega) (by omega) ⟨iv_eq (by first | rfl | omega | (simp only [b2]; split <;> omega)), rfl⟩
set_option maxRecDepth 20000 in
theorem k_X9_isShelf {l0 : Launch} {g : Gw} {mo nx : Nat} {h0 : Nat → va_E} {I : Nat → Int} {F : Nat → Int → Int} {c : Int} (hc : inR c) : MD l0 g 1 mX9_isShelf (mp mo h0 I F, nx) [.ref mo, .int (iI c)] 0 0 (some (.int (iI (b2 (0 ≤ c ∧ c ≤ 7))))) (mp mo h0 I F, nx) := by
  refine MD.of (by decide +kernel) (by simp [Value.category]) (tle rfl) (fun X b => ?_)
  change WW X g _ _ 0 0 0 [some (.ref mo), some (.int (iI c))] [] _
  refine w_aload_n b dX9_isShelf_0 rfl rfl ?_
  refine w_iload_n b dX9_isShelf_1 rfl ?_
  refine z_iconst b dX9_isShelf_2 ?_
  refine z_bipush b dX9_isShelf_3 (by decide) ?_
  refine c_V3 b dX9_isShelf_5 lmX9_137 (mp_obj _ _ _ _) (k_X9_in (by omega) (by omega) (by omega)) (tle rfl) (by omega) (by omega) (by omega) ?_
  exact z_zret b dX9_isShelf_8 rfl (b2_01 _) (by omega) (by omega) ⟨iv_eq (by first | rfl | omega | (simp only [b2]; split <;> omega)), rfl⟩
set_option maxRecDepth 20000 in
theorem k_X9_hasNumber {l0 : Launch} {g : Gw} {mo nx : Nat} {h0 : Nat → va_E} {I : Nat → Int} {F : Nat → Int → Int} {k : Int} (hc : inR k) : MD l0 g 1 mX9_hasNumber (mp mo h0 I F, nx) [.ref mo, .int (iI k)] 0 0 (some (.int (iI (b2 (k = 0 ∨ (3 ≤ k ∧ k ≤ 5)))))) (mp mo h0 I F, nx) := by
  refine MD.of (by decide +kernel) (by simp [Value.category]) (tle rfl) (fun X b => ?_)
  change WW X g _ _ 0 0 0 [some (.ref mo), some (.int (iI k))] [] _
  refine w_iload_n b dX9_hasNumber_0 rfl ?_
  refine z_if_eq (tgt := 14) b dX9_hasNumber_1 (by decide) (by omega) (fun c1 => ?_) (fun c1 => ?_)
  · refine z_iconst b dX9_hasNumber_14 ?_
    refine w_goto (tgt := 19) b dX9_hasNumber_15 (by decide) ?_
    exact z_zret b dX9_hasNumber_19 rfl (by omega) (by omega) (by omega) ⟨iv_eq (by first | rfl | omega | (simp only [b2]; split <;> omega)), rfl⟩
  · refine w_aload_n b dX9_hasNumber_4 rfl rfl ?_
    refine w_iload_n b dX9_hasNumber_5 rfl ?_
    refine z_iconst b dX9_hasNumber_6 ?_
    refine z_iconst b dX9_hasNumber_7 ?_
    refine c_V3 b dX9_hasNumber_8 lmX9_137 (mp_obj _ _ _ _) (k_X9_in (by omega) (by omega) (by omega)) (tle rfl) (by omega) (by omega) (by omega) ?_
    refine z_ifb_eq (tgt := 18) b dX9_hasNumber_11 (by decide) (fun c11 => ?_) (fun c11 => ?_)
    · refine z_iconst b dX9_hasNumber_18 ?_
      exact z_zret b dX9_hasNumber_19 rfl (by omega) (by omega) (by omega) ⟨iv_eq (by first | rfl | omega | (simp only [b2]; split <;> omega)), rfl⟩
    · refine z_iconst b dX9_hasNumber_14 ?_
      refine w_goto (tgt := 19) b dX9_hasNumber_15 (by decide) ?_
      exact z_zret b dX9_hasNumber_19 rfl (by omega) (by omega) (by omega) ⟨iv_eq (by first | rfl | omega | (simp only [b2]; split <;> omega)), rfl⟩
set_option maxRecDepth 20000 in
theorem k_X9_hasColour {l0 : Launch} {g : Gw} {mo nx : Nat} {h0 : Nat → va_E} {I : Nat → Int} {F : Nat → Int → Int} {k : Int} (hc : inR k) : MD l0 g 0 mX9_hasColour (mp mo h0 I F, nx) [.ref mo, .int (iI k)] 0 0 (some (.int (iI (b2 (k = 0 ∨ k = 1))))) (mp mo h0 I F, nx) := by
  refine MD.of (by decide +kernel) (by simp [Value.category]) (tle rfl) (fun X b => ?_)
  change WW X g _ _ 0 0 0 [some (.ref mo), some (.int (iI k))] [] _
  refine w_iload_n b dX9_hasColour_0 rfl ?_
  refine z_if_eq (tgt := 9) b dX9_hasColour_1 (by decide) (by omega) (fun c1 => ?_) (fun c1 => ?_)
  · refine z_iconst b dX9_hasColour_9 ?_
    refine w_goto (tgt := 14) b dX9_hasColour_10 (by decide) ?_
    exact z_zret b dX9_hasColour_14 rfl (by omega) (by omega) (by omega) ⟨iv_eq (by first | rfl | omega | (simp only [b2]; split <;> omega)), rfl⟩
  · refine w_iload_n b dX9_hasColour_4 rfl ?_
    refine z_iconst b dX9_hasColour_5 ?_
    refine z_icmp_ne (tgt := 13) b dX9_hasColour_6 (by decide) (by omega) (fun c6 => ?_) (fun c6 => ?_)
    · refine z_iconst b dX9_hasColour_13 ?_
      exact z_zret b dX9_hasColour_14 rfl (by omega) (by omega) (by omega) ⟨iv_eq (by first | rfl | omega | (simp only [b2]; split <;> omega)), rfl⟩
    · refine z_iconst b dX9_hasColour_9 ?_
      refine w_goto (tgt := 14) b dX9_hasColour_10 (by decide) ?_
      exact z_zret b dX9_hasColour_14 rfl (by omega) (by omega) (by omega) ⟨iv_eq (by first | rfl | omega | (simp only [b2]; split <;> omega)), rfl⟩
set_option maxRecDepth 20000 in
theorem k_X9_chant {l0 : Launch} {g : Gw} {mo nx : Nat} {h0 : Nat → va_E} {I : Nat → Int} {F : Nat → Int → Int}  (h2 : 0 ≤ I 2 ∧ I 2 ≤ 12) : MD l0 g 0 mX9_chant (mp mo h0 I F, nx) [.ref mo] 0 0 (some (.int (iI (if I 2 = 12 then -2 else I 2)))) (if I 2 = 12 then (mp mo h0 I F, nx) else (mp mo h0 (va_up I 2 (I 2 + 1)) (va_up F 3 (fu (F 3) (I 2) 0)), nx)) := by
  refine MD.of (by decide +kernel) (by simp [Value.category]) (tle rfl) (fun X b => ?_)
  change WW X g _ _ 0 0 0 [some (.ref mo)] [] _
  refine w_aload_n b dX9_chant_0 rfl rfl ?_
  refine m_get b dX9_chant_1 lfX9_13 rfl ?_
  refine z_bipush b dX9_chant_4 (by decide) ?_
  refine z_icmp_ne (tgt := 12) b dX9_chant_6 (by decide) (by omega) (fun c6 => ?_) (fun c6 => ?_)
  · refine w_aload_n b dX9_chant_12 rfl rfl ?_
    refine m_get b dX9_chant_13 lfX9_16 rfl ?_
    refine w_aload_n b dX9_chant_16 rfl rfl ?_
    refine m_get b dX9_chant_17 lfX9_13 rfl ?_
    refine z_iconst b dX9_chant_20 ?_
    refine m_ast b dX9_chant_21 rfl (by omega) ?_
    refine w_aload_n b dX9_chant_22 rfl rfl ?_
    refine w_dup b dX9_chant_23 rfl ?_
    refine m_get b dX9_chant_24 lfX9_13 rfl ?_
    refine z_iconst b dX9_chant_27 ?_
    refine z_iadd b dX9_chant_28 ?_
    refine m_put b dX9_chant_29 lfX9_13 gtX9_2 (tlt rfl) rfl ?_
    refine w_aload_n b dX9_chant_32 rfl rfl ?_
    refine m_get b dX9_chant_33 lfX9_13 rfl ?_
    refine z_iconst b dX9_chant_36 ?_
    refine z_isub b dX9_chant_37 ?_
    exact w_iret b dX9_chant_38 rfl (by omega) (by omega) ⟨iv_eq (by first | omega | (rw [if_neg (by omega)]; simp [va_up, fu]; done) | (rw [if_neg (by omega)]; simp [va_up, fu]; omega) | (simp [b2, va_up, fu] <;> omega)), by first | (rw [if_pos (by omega)]) | (rw [if_neg (by omega)])⟩
  · refine z_bipush b dX9_chant_9 (by decide) ?_
    exact w_iret b dX9_chant_11 rfl (by omega) (by omega) ⟨iv_eq (by first | omega | (rw [if_neg (by omega)]; simp [va_up, fu]; done) | (rw [if_neg (by omega)]; simp [va_up, fu]; omega) | (simp [b2, va_up, fu] <;> omega)), by first | (rw [if_pos (by omega)]) | (rw [if_neg (by omega)])⟩
set_option maxRecDepth 20000 in
theorem k_X9_isKnot {l0 : Launch} {g : Gw} {mo nx : Nat} {h0 : Nat → va_E} {I : Nat → Int} {F : Nat → Int → Int} {r i : Int} (hr : inR r) (hi : inR i) (h21 : 0 ≤ I 21 ∧ I 21 ≤ 40) (h1 : 4 ≤ I 1 ∧ I 1 ≤ 40) : MD l0 g 1 mX9_isKnot (mp mo h0 I F, nx) [.ref mo, .int (iI r), .int (iI i)] 0 0 (some (.int (iI (b2 ((0 ≤ r ∧ r ≤ I 21 - 1) ∧ (0 ≤ i ∧ i ≤ I 1 - 1)))))) (mp mo h0 I F, nx) := by
  refine MD.of (by decide +kernel) (by simp [Value.category]) (tle rfl) (fun X b => ?_)
  change WW X g _ _ 0 0 0 [some (.ref mo), some (.int (iI r)), some (.int (iI i))] [] _
  refine w_aload_n b dX9_isKnot_0 rfl rfl ?_
  refine w_iload_n b dX9_isKnot_1 rfl ?_
  refine z_iconst b dX9_isKnot_2 ?_
  refine w_aload_n b dX9_isKnot_3 rfl rfl ?_
  refine m_get b dX9_isKnot_4 lfX9_71 rfl ?_
  refine z_iconst b dX9_isKnot_7 ?_
  refine z_isub b dX9_isKnot_8 ?_
  refine c_V3 b dX9_isKnot_9 lmX9_137 (mp_obj _ _ _ _) (k_X9_in (by omega) (by omega) (by omega)) (tle rfl) (by omega) (by omega) (by omega) ?_
  refine z_ifb_eq (tgt := 34) b dX9_isKnot_12 (by decide) (fun c12 => ?_) (fun c12 => ?_)
  · refine z_iconst b dX9_isKnot_34 ?_
    exact z_zret b dX9_isKnot_35 rfl (by omega) (by omega) (by omega) ⟨iv_eq (by first | rfl | omega | (simp only [b2]; split <;> omega)), rfl⟩
  · refine w_aload_n b dX9_isKnot_15 rfl rfl ?_
    refine w_iload_n b dX9_isKnot_16 rfl ?_
    refine z_iconst b dX9_isKnot_17 ?_
    refine w_aload_n b dX9_isKnot_18 rfl rfl ?_
    refine m_get b dX9_isKnot_19 lfX9_134 rfl ?_
    refine z_iconst b dX9_isKnot_22 ?_
    refine z_isub b dX9_isKnot_23 ?_
    refine c_V3 b dX9_isKnot_24 lmX9_137 (mp_obj _ _ _ _) (k_X9_in (by omega) (by omega) (by omega)) (tle rfl) (by omega) (by omega) (by omega) ?_
    refine z_ifb_eq (tgt := 34) b dX9_isKnot_27 (by decide) (fun c27 => ?_) (fun c27 => ?_)
    · refine z_iconst b dX9_isKnot_34 ?_
      exact z_zret b dX9_isKnot_35 rfl (by omega) (by omega) (by omega) ⟨iv_eq (by first | rfl | omega | (simp only [b2]; split <;> omega)), rfl⟩
    · refine z_iconst b dX9_isKnot_30 ?_
      refine w_goto (tgt := 35) b dX9_isKnot_31 (by decide) ?_
      exact z_zret b dX9_isKnot_35 rfl (by omega) (by omega) (by omega) ⟨iv_eq (by first | rfl | omega | (simp only [b2]; split <;> omega)), rfl⟩
set_option maxRecDepth 20000 in
theorem k_X9_below {l0 : Launch} {g : Gw} {mo nx : Nat} {h0 : Nat → va_E} {I : Nat → Int} {F : Nat → Int → Int} {r p : Int} (hr : 1 ≤ r ∧ r ≤ 9) (hp : 0 ≤ p ∧ p ≤ 1000) (h21 : 0 ≤ I 21 ∧ I 21 ≤ 40) (h1 : 4 ≤ I 1 ∧ I 1 ≤ 40) : MD l0 g 0 mX9_below (mp mo h0 I F, nx) [.ref mo, .int (iI r), .int (iI p)] 0 0 (some (.int (iI (if I 21 < r ∨ I 1 ≤ p then 0 else F 23 (40 * (I 21 - r) + p))))) (mp mo h0 I F, nx) := by
  refine MD.of (by decide +kernel) (by simp [Value.category]) (tle rfl) (fun X b => ?_)
  change WW X g _ _ 0 0 0 [some (.ref mo), some (.int (iI r)), some (.int (iI p))] [] _
  refine w_iload_n b dX9_below_0 rfl ?_
  refine w_aload_n b dX9_below_1 rfl rfl ?_
  refine m_get b dX9_below_2 lfX9_71 rfl ?_
  refine z_icmp_gt (tgt := 16) b dX9_below_5 (by decide) (by omega) (fun c5 => ?_) (fun c5 => ?_)
  · refine z_iconst b dX9_below_16 ?_
    refine w_goto (tgt := 36) b dX9_below_17 (by decide) ?_
    exact w_iret b dX9_below_36 rfl (by omega) (by omega) ⟨iv_eq (by first | rfl | omega | (simp only [b2]; split <;> omega)), rfl⟩
  · refine w_iload_n b dX9_below_8 rfl ?_
    refine w_aload_n b dX9_below_9 rfl rfl ?_
    refine m_get b dX9_below_10 lfX9_134 rfl ?_
    refine z_icmp_lt (tgt := 20) b dX9_below_13 (by decide) (by omega) (fun c13 => ?_) (fun c13 => ?_)
    · refine w_aload_n b dX9_below_20 rfl rfl ?_
      refine m_get b dX9_below_21 lfX9_77 rfl ?_
      refine z_bipush b dX9_below_24 (by decide) ?_
      refine w_aload_n b dX9_below_26 rfl rfl ?_
      refine m_get b dX9_below_27 lfX9_71 rfl ?_
      refine w_iload_n b dX9_below_30 rfl ?_
      refine z_isub b dX9_below_31 ?_
      refine z_imul b dX9_below_32 ?_
      refine w_iload_n b dX9_below_33 rfl ?_
      refine z_iadd b dX9_below_34 ?_
      refine m_ald b dX9_below_35 rfl (by omega) rfl ?_
      exact w_iret b dX9_below_36 rfl (by omega) (by omega) ⟨iv_eq (by first | rfl | omega | (simp only [b2]; split <;> omega)), rfl⟩
    · refine z_iconst b dX9_below_16 ?_
      refine w_goto (tgt := 36) b dX9_below_17 (by decide) ?_
      exact w_iret b dX9_below_36 rfl (by omega) (by omega) ⟨iv_eq (by first | rfl | omega | (simp only [b2]; split <;> omega)), rfl⟩
set_option maxRecDepth 20000 in
theorem k_X9_add {l0 : Launch} {g : Gw} {mo nx : Nat} {h0 : Nat → va_E} {I : Nat → Int} {F : Nat → Int → Int} {c : Int} (h13 : 0 ≤ I 13 ∧ I 13 ≤ 1000) : MD l0 g 0 mX9_add (mp mo h0 I F, nx) [.ref mo, .int (iI c)] 0 0 (some (.int (iI (b2 (¬ I 13 = 1000))))) (if I 13 = 1000 then (mp mo h0 I F, nx) else (mp mo h0 (va_up I 13 (I 13 + 1)) (va_up F 7 (fu (F 7) (I 13) c)), nx)) := by
  refine MD.of (by decide +kernel) (by simp [Value.category]) (tle rfl) (fun X b => ?_)
  change WW X g _ _ 0 0 0 [some (.ref mo), some (.int (iI c))] [] _
  refine w_aload_n b dX9_add_0 rfl rfl ?_
  refine m_get b dX9_add_1 lfX9_47 rfl ?_
  refine z_sipush b dX9_add_4 (by decide) ?_
  refine z_icmp_ne (tgt := 12) b dX9_add_7 (by decide) (by omega) (fun c7 => ?_) (fun c7 => ?_)
  · refine w_aload_n b dX9_add_12 rfl rfl ?_
    refine m_get b dX9_add_13 lfX9_29 rfl ?_
    refine w_aload_n b dX9_add_16 rfl rfl ?_
    refine m_get b dX9_add_17 lfX9_47 rfl ?_
    refine w_iload_n b dX9_add_20 rfl ?_
    refine m_ast b dX9_add_21 rfl (by omega) ?_
    refine w_aload_n b dX9_add_22 rfl rfl ?_
    refine w_dup b dX9_add_23 rfl ?_
    refine m_get b dX9_add_24 lfX9_47 rfl ?_
    refine z_iconst b dX9_add_27 ?_
    refine z_iadd b dX9_add_28 ?_
    refine m_put b dX9_add_29 lfX9_47 gtX9_13 (tlt rfl) rfl ?_
    refine z_iconst b dX9_add_32 ?_
    exact z_zret b dX9_add_33 rfl (by omega) (by omega) (by omega) ⟨iv_eq (by first | omega | (rw [if_neg (by omega)]; simp [va_up, fu]; done) | (rw [if_neg (by omega)]; simp [va_up, fu]; omega) | (simp [b2, va_up, fu] <;> omega)), by first | (rw [if_pos (by omega)]) | (rw [if_neg (by omega)])⟩
  · refine z_iconst b dX9_add_10 ?_
    exact z_zret b dX9_add_11 rfl (by omega) (by omega) (by omega) ⟨iv_eq (by first | omega | (rw [if_neg (by omega)]; simp [va_up, fu]; done) | (rw [if_neg (by omega)]; simp [va_up, fu]; omega) | (simp [b2, va_up, fu] <;> omega)), by first | (rw [if_pos (by omega)]) | (rw [if_neg (by omega)])⟩
