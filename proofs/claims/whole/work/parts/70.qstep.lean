/-! THE CLASS: step (by p70.py) -/
abbrev okStep (I : Nat → Int) (k n c : Int) : Prop := (0 ≤ k ∧ k ≤ 5) ∧ ((k = 0 ∨ k = 1) → (0 ≤ c ∧ c ≤ 7)) ∧ (k = 0 → (1 ≤ n ∧ n ≤ 40)) ∧ (k = 4 → (0 ≤ n ∧ n ≤ I 2 - 2)) ∧ ((k = 3 ∨ k = 5) → (1 ≤ n ∧ n ≤ 9))
set_option maxRecDepth 20000 in
theorem k_X8_isStepAsTold {l0 : Launch} {g : Gw} {w nx : Nat} {h : Nat → va_E} {C : Nat → Nat → Int} {A : Nat → Int → Int} {V : Nat → Value} {I : Nat → Int} {F : Nat → Int → Int} {ca : Nat → Nat} {sa : Nat → Nat → Nat} {own : Nat → Nat} {k n c : Int} (hD : RDy h nx C V I F ca sa own) (hk : inR k) (hn : inR n) (hc : inR c) : MD l0 g 2 mX8_isStepAsTold (cp w C A V h, nx) [.ref 0, .int (iI (k)), .int (iI (n)), .int (iI (c))] 0 0 (some (.int (iI (b2 (okStep I k n c))))) (cp w C A V h, nx) := by
  have hn2 := hD.n2
  refine MD.of (by decide +kernel) (by simp [Value.category]) (tle rfl) (fun X b => ?_)
  change WW X g _ _ 0 0 0 [some (.ref 0), some (.int (iI (k))), some (.int (iI (n))), some (.int (iI (c)))] [] _
  refine w_iload_n b dX8_isStepAsTold_0 rfl ?_
  by_cases e1_0 : k = 0
  · refine w_tswI (tgt := 40) (off := 39) b dX8_isStepAsTold_1 (by rw [iI_toInt (by omega)]; omega) (by rw [iI_toInt (by omega)]; omega) (by rw [iI_toInt (by omega), e1_0]; rfl) (by decide) ?_
    refine w_iload_n b dX8_isStepAsTold_40 rfl ?_
    refine z_iconst b dX8_isStepAsTold_41 ?_
    refine z_bipush b dX8_isStepAsTold_42 (by decide) ?_
    refine c_S3 b dX8_isStepAsTold_44 lmX8_74 (k_X8_isWithin (by omega) (by omega) (by omega)) (tle rfl) (by omega) (by omega) (by omega) ?_
    refine z_ifb_eq (tgt := 61) b dX8_isStepAsTold_47 (by decide) (fun c47 => ?_) (fun c47 => ?_)
    · refine z_iconst b dX8_isStepAsTold_61 ?_
      exact z_zret b dX8_isStepAsTold_62 rfl (by first | omega | exact b2_01 _) (by omega) (by omega) ⟨iv_eq (by unfold b2; (repeat' split) <;> first | rfl | omega), rfl⟩
    · refine w_iload_n b dX8_isStepAsTold_50 rfl ?_
      refine c_S1 b dX8_isStepAsTold_51 lmX8_121 (k_X8_isColour (by omega)) (tle rfl) (by omega) (by omega) (by omega) ?_
      refine z_ifb_eq (tgt := 61) b dX8_isStepAsTold_54 (by decide) (fun c54 => ?_) (fun c54 => ?_)
      · refine z_iconst b dX8_isStepAsTold_61 ?_
        exact z_zret b dX8_isStepAsTold_62 rfl (by first | omega | exact b2_01 _) (by omega) (by omega) ⟨iv_eq (by unfold b2; (repeat' split) <;> first | rfl | omega), rfl⟩
      · refine z_iconst b dX8_isStepAsTold_57 ?_
        refine w_goto (tgt := 62) b dX8_isStepAsTold_58 (by decide) ?_
        exact z_zret b dX8_isStepAsTold_62 rfl (by first | omega | exact b2_01 _) (by omega) (by omega) ⟨iv_eq (by unfold b2; (repeat' split) <;> first | rfl | omega), rfl⟩
  by_cases e1_1 : k = 1
  · refine w_tswI (tgt := 63) (off := 62) b dX8_isStepAsTold_1 (by rw [iI_toInt (by omega)]; omega) (by rw [iI_toInt (by omega)]; omega) (by rw [iI_toInt (by omega), e1_1]; rfl) (by decide) ?_
    refine w_iload_n b dX8_isStepAsTold_63 rfl ?_
    refine c_S1 b dX8_isStepAsTold_64 lmX8_121 (k_X8_isColour (by omega)) (tle rfl) (by omega) (by omega) (by omega) ?_
    exact z_zret b dX8_isStepAsTold_67 rfl (by first | omega | exact b2_01 _) (by omega) (by omega) ⟨iv_eq (by unfold b2; (repeat' split) <;> first | rfl | omega), rfl⟩
  by_cases e1_2 : k = 2
  · refine w_tswI (tgt := 68) (off := 67) b dX8_isStepAsTold_1 (by rw [iI_toInt (by omega)]; omega) (by rw [iI_toInt (by omega)]; omega) (by rw [iI_toInt (by omega), e1_2]; rfl) (by decide) ?_
    refine z_iconst b dX8_isStepAsTold_68 ?_
    exact z_zret b dX8_isStepAsTold_69 rfl (by first | omega | exact b2_01 _) (by omega) (by omega) ⟨iv_eq (by unfold b2; (repeat' split) <;> first | rfl | omega), rfl⟩
  by_cases e1_3 : k = 3
  · refine w_tswI (tgt := 70) (off := 69) b dX8_isStepAsTold_1 (by rw [iI_toInt (by omega)]; omega) (by rw [iI_toInt (by omega)]; omega) (by rw [iI_toInt (by omega), e1_3]; rfl) (by decide) ?_
    refine w_iload_n b dX8_isStepAsTold_70 rfl ?_
    refine z_iconst b dX8_isStepAsTold_71 ?_
    refine z_bipush b dX8_isStepAsTold_72 (by decide) ?_
    refine c_S3 b dX8_isStepAsTold_74 lmX8_74 (k_X8_isWithin (by omega) (by omega) (by omega)) (tle rfl) (by omega) (by omega) (by omega) ?_
    exact z_zret b dX8_isStepAsTold_77 rfl (by first | omega | exact b2_01 _) (by omega) (by omega) ⟨iv_eq (by unfold b2; (repeat' split) <;> first | rfl | omega), rfl⟩
  by_cases e1_4 : k = 4
  · refine w_tswI (tgt := 78) (off := 77) b dX8_isStepAsTold_1 (by rw [iI_toInt (by omega)]; omega) (by rw [iI_toInt (by omega)]; omega) (by rw [iI_toInt (by omega), e1_4]; rfl) (by decide) ?_
    refine w_iload_n b dX8_isStepAsTold_78 rfl ?_
    refine z_iconst b dX8_isStepAsTold_79 ?_
    refine w_aload_n b dX8_isStepAsTold_80 rfl rfl ?_
    refine q_get b dX8_isStepAsTold_81 lfX8_33 (tlt rfl) ct_0 rfl ?_
    refine c_V0 b dX8_isStepAsTold_84 lmX8_124 (cpS (tlt rfl) ct_230) (k_X0_chants hD) (tle rfl) (by omega) (by omega) (by omega) ?_
    refine z_iconst b dX8_isStepAsTold_87 ?_
    refine z_isub b dX8_isStepAsTold_88 ?_
    refine c_S3 b dX8_isStepAsTold_89 lmX8_74 (k_X8_isWithin (by omega) (by omega) (by omega)) (tle rfl) (by omega) (by omega) (by omega) ?_
    exact z_zret b dX8_isStepAsTold_92 rfl (by first | omega | exact b2_01 _) (by omega) (by omega) ⟨iv_eq (by unfold b2; (repeat' split) <;> first | rfl | omega), rfl⟩
  by_cases e1_5 : k = 5
  · refine w_tswI (tgt := 70) (off := 69) b dX8_isStepAsTold_1 (by rw [iI_toInt (by omega)]; omega) (by rw [iI_toInt (by omega)]; omega) (by rw [iI_toInt (by omega), e1_5]; rfl) (by decide) ?_
    refine w_iload_n b dX8_isStepAsTold_70 rfl ?_
    refine z_iconst b dX8_isStepAsTold_71 ?_
    refine z_bipush b dX8_isStepAsTold_72 (by decide) ?_
    refine c_S3 b dX8_isStepAsTold_74 lmX8_74 (k_X8_isWithin (by omega) (by omega) (by omega)) (tle rfl) (by omega) (by omega) (by omega) ?_
    exact z_zret b dX8_isStepAsTold_77 rfl (by first | omega | exact b2_01 _) (by omega) (by omega) ⟨iv_eq (by unfold b2; (repeat' split) <;> first | rfl | omega), rfl⟩
  refine w_tswO (tgt := 93) b dX8_isStepAsTold_1 (by rw [iI_toInt (by omega)]; omega) (by decide) ?_
  refine z_iconst b dX8_isStepAsTold_93 ?_
  exact z_zret b dX8_isStepAsTold_94 rfl (by first | omega | exact b2_01 _) (by omega) (by omega) ⟨iv_eq (by unfold b2; (repeat' split) <;> first | rfl | omega), rfl⟩
set_option maxRecDepth 20000 in
theorem k_X0_addStep0 {l0 : Launch} {g : Gw} {w nx : Nat} {h : Nat → va_E} {C : Nat → Nat → Int} {A : Nat → Int → Int} {V : Nat → Value} {I : Nat → Int} {F : Nat → Int → Int} {ca : Nat → Nat} {sa : Nat → Nat → Nat} {own : Nat → Nat} {k n c : Int} (hD : RDy h nx C V I F ca sa own) (hf : I 2 = 0) : MD l0 g 8 mX0_addStep (cp w C A V h, nx) [.ref 230, .int (iI (k)), .int (iI (n)), .int (iI (c))] 2 18 (some (.int (iI (-3)))) (cp w C A V h, nx) := by
  have hn2 := hD.n2
  refine MD.of (by decide +kernel) (by simp [Value.category]) (tle rfl) (fun X b => ?_)
  change WW X g _ _ 0 0 0 [some (.ref 230), some (.int (iI (k))), some (.int (iI (n))), some (.int (iI (c))), none] [] _
  refine w_aload_n b dX0_addStep_0 rfl rfl ?_
  refine q_get b dX0_addStep_1 lfX0_12 (tlt rfl) ct_230 rfl ?_
  refine c_V0 b dX0_addStep_4 lmX0_58 (cpS (tlt rfl) ct_231) (k_Jx4a65c_isEmpty_aae02 (m := .int (iI (C 231 0))) (v := V 231) (n := I 2) (by show cp w C A V h 231 = _; rw [cp_lt (by omega), ct_231, ← hD.n1]) (by omega)) (tle rfl) (by omega) (by omega) (by omega) ?_
  refine z_ifb_eq (tgt := 13) b dX0_addStep_7 (by decide) (fun c7 => ?_) (fun c7 => ?_)
  · exfalso; omega
  · refine z_bipush b dX0_addStep_10 (by decide) ?_
    exact w_iret b dX0_addStep_12 rfl (by omega) (by omega) ⟨iv_eq (by first | rfl | omega | ((try simp only [b2]); ((repeat' split) <;> (first | rfl | omega)))), rfl⟩
set_option maxRecDepth 20000 in
theorem k_X0_addStep1 {l0 : Launch} {g : Gw} {w nx : Nat} {h : Nat → va_E} {C : Nat → Nat → Int} {A : Nat → Int → Int} {V : Nat → Value} {I : Nat → Int} {F : Nat → Int → Int} {ca : Nat → Nat} {sa : Nat → Nat → Nat} {own : Nat → Nat} {k n c : Int} {c0 : Nat} (hD : RDy h nx C V I F ca sa own) (hc0 : I 2 = (c0 : Int) + 1) (hf : F 3 (c0 : Int) = 12) : MD l0 g 8 mX0_addStep (cp w C A V h, nx) [.ref 230, .int (iI (k)), .int (iI (n)), .int (iI (c))] 2 18 (some (.int (iI (-2)))) (cp w C A V h, nx) := by
  have hn2 := hD.n2
  have hcl : (c0 : Int) < I 2 := by omega
  have hw0 := (hD.wf c0 (by omega) hcl).1
  obtain ⟨m9, v9, e0, e9⟩ := hD.list (w := w) (A := A) hcl
  obtain ⟨z1, z2, z3, z4, z5⟩ := hD.oc c0 hcl
  refine MD.of (by decide +kernel) (by simp [Value.category]) (tle rfl) (fun X b => ?_)
  change WW X g _ _ 0 0 0 [some (.ref 230), some (.int (iI (k))), some (.int (iI (n))), some (.int (iI (c))), none] [] _
  refine w_aload_n b dX0_addStep_0 rfl rfl ?_
  refine q_get b dX0_addStep_1 lfX0_12 (tlt rfl) ct_230 rfl ?_
  refine c_V0 b dX0_addStep_4 lmX0_58 (cpS (tlt rfl) ct_231) (k_Jx4a65c_isEmpty_aae02 (m := .int (iI (C 231 0))) (v := V 231) (n := I 2) (by show cp w C A V h 231 = _; rw [cp_lt (by omega), ct_231, ← hD.n1]) (by omega)) (tle rfl) (by omega) (by omega) (by omega) ?_
  refine z_ifb_eq (tgt := 13) b dX0_addStep_7 (by decide) (fun c7 => ?_) (fun c7 => ?_)
  · refine w_aload_n b dX0_addStep_13 rfl rfl ?_
    refine q_get b dX0_addStep_14 lfX0_12 (tlt rfl) ct_230 rfl ?_
    refine w_aload_n b dX0_addStep_17 rfl rfl ?_
    refine q_get b dX0_addStep_18 lfX0_12 (tlt rfl) ct_230 rfl ?_
    refine c_V0 b dX0_addStep_21 lmX0_34 (cpS (tlt rfl) ct_231) (k_sizeC hD) (tle rfl) (by omega) (by omega) (by omega) ?_
    refine z_iconst b dX0_addStep_24 ?_
    refine z_isub b dX0_addStep_25 ?_
    refine y_top (y := (c0 : Int)) (by omega) ?_
    refine c_V1 b dX0_addStep_26 lmX0_42 (cpS (tlt rfl) ct_231) (k_getC hD hcl) (tle rfl) (by omega) (by omega) (by omega) ?_
    refine w_castS (ci := 2) b dX0_addStep_29 rfl lcX0_46 (hD.chant hcl) ?_
    refine w_getf b dX0_addStep_32 lfX0_48 (hD.chant hcl) rfl ?_
    refine w_astore b dX0_addStep_35 (tlt rfl) rfl rfl ?_
    refine w_aload b dX0_addStep_37 rfl rfl ?_
    refine c_V0 b dX0_addStep_39 lmX0_34 e0 (k_sizeS hD hcl) (tle rfl) (by omega) (by omega) (by omega) ?_
    refine z_bipush b dX0_addStep_42 (by decide) ?_
    refine z_icmp_lt (tgt := 50) b dX0_addStep_44 (by decide) (by omega) (fun c44 => ?_) (fun c44 => ?_)
    · exfalso; omega
    · refine z_bipush b dX0_addStep_47 (by decide) ?_
      exact w_iret b dX0_addStep_49 rfl (by omega) (by omega) ⟨iv_eq (by first | rfl | omega | ((try simp only [b2]); ((repeat' split) <;> (first | rfl | omega)))), rfl⟩
  · exfalso; omega
set_option maxRecDepth 20000 in
theorem k_X0_addStep2 {l0 : Launch} {g : Gw} {w nx : Nat} {h : Nat → va_E} {C : Nat → Nat → Int} {A : Nat → Int → Int} {V : Nat → Value} {I : Nat → Int} {F : Nat → Int → Int} {ca : Nat → Nat} {sa : Nat → Nat → Nat} {own : Nat → Nat} {k n c : Int} {c0 : Nat} (hD : RDy h nx C V I F ca sa own) (hx : 291 ≤ nx) (hc0 : I 2 = (c0 : Int) + 1) (hf : F 3 (c0 : Int) < 12) : MM l0 g 8 mX0_addStep (cp w C A V h, nx) [.ref 230, .int (iI (k)), .int (iI (n)), .int (iI (c))] 2 18 (fun r σ' => r = some (.int (iI (F 3 (c0 : Int)))) ∧ ∃ (m1 : Int) (a len nx1 : Nat) (f1 : Nat → Option Nat), LA own (61 + c0) nx (nx + 1) (F 3 (c0 : Int)) (sa c0) nx a len nx1 f1 ∧ σ' = (cp w C A V (va_up (va_up (va_up h nx (.inr (5, [.int (iI k), .int (iI c), .int (iI n)]))) a (.inl (4, len, .inr (.inr (.inr (.inr (f1))))))) (ca c0 + 1) (.inr (10, [.int (iI m1), .ref a, .int (iI (F 3 (c0 : Int) + 1))]))), nx1)) := by
  have hn2 := hD.n2
  have hcl : (c0 : Int) < I 2 := by omega
  have hw0 := (hD.wf c0 (by omega) hcl).1
  obtain ⟨m9, v9, e0, e9⟩ := hD.list (w := w) (A := A) hcl
  obtain ⟨z1, z2, z3, z4, z5⟩ := hD.oc c0 hcl
  refine MM.of (by decide +kernel) (by simp [Value.category]) (tle rfl) (fun X b => ?_)
  change WW X g _ _ 0 0 0 [some (.ref 230), some (.int (iI (k))), some (.int (iI (n))), some (.int (iI (c))), none] [] _
  have fin : ∀ (m1 : Int) (a len nx1 : Nat) (f1 : Nat → Option Nat) (kc ks : Nat), kc ≤ 2 → ks ≤ 18 → LA own (61 + c0) nx (nx + 1) (F 3 (c0 : Int)) (sa c0) nx a len nx1 f1 → WW X g mX0_addStep.2.2.1 (ZQ X g (fun r σ' => r = some (.int (iI (F 3 (c0 : Int)))) ∧ ∃ (m1 : Int) (a len nx1 : Nat) (f1 : Nat → Option Nat), LA own (61 + c0) nx (nx + 1) (F 3 (c0 : Int)) (sa c0) nx a len nx1 f1 ∧ σ' = (cp w C A V (va_up (va_up (va_up h nx (.inr (5, [.int (iI k), .int (iI c), .int (iI n)]))) a (.inl (4, len, .inr (.inr (.inr (.inr (f1))))))) (ca c0 + 1) (.inr (10, [.int (iI m1), .ref a, .int (iI (F 3 (c0 : Int) + 1))]))), nx1)) 2 18) kc ks 65 [some (.ref 230), some (.int (iI (k))), some (.int (iI (n))), some (.int (iI (c))), some (.ref (ca c0 + 1))] [.int (iI 1)] (cp w C A V (va_up (va_up (va_up h nx (.inr (5, [.int (iI k), .int (iI c), .int (iI n)]))) a (.inl (4, len, .inr (.inr (.inr (.inr (f1))))))) (ca c0 + 1) (.inr (10, [.int (iI m1), .ref a, .int (iI (F 3 (c0 : Int) + 1))]))), nx1) := by
    intro m1 a len nx1 f1 kc ks hkc hks hA
    have hl9 : ((cp w C A V (va_up (va_up (va_up h nx (.inr (5, [.int (iI k), .int (iI c), .int (iI n)]))) a (.inl (4, len, .inr (.inr (.inr (.inr (f1))))))) (ca c0 + 1) (.inr (10, [.int (iI m1), .ref a, .int (iI (F 3 (c0 : Int) + 1))]))), nx1) : Sg).1 (ca c0 + 1) = .inr (10, [.int (iI m1), .ref a, .int (iI (F 3 (c0 : Int) + 1))]) := by
      show cp w C A V (va_up _ _ _) _ = _
      rw [cp_ge (by omega), va_up_self]
    refine w_pop b dX0_addStep_65 rfl ?_
    refine w_aload b dX0_addStep_66 rfl rfl ?_
    refine c_V0 b dX0_addStep_68 lmX0_34 hl9 (k_Jx4a65c_size_8abf5 hl9) (tle rfl) (by omega) (by omega) (by omega) ?_
    refine z_iconst b dX0_addStep_71 ?_
    refine z_isub b dX0_addStep_72 ?_
    exact w_iret b dX0_addStep_73 rfl (by omega) (by omega) ⟨iv_eq (by omega), m1, a, len, nx1, f1, hA, rfl⟩
  refine w_aload_n b dX0_addStep_0 rfl rfl ?_
  refine q_get b dX0_addStep_1 lfX0_12 (tlt rfl) ct_230 rfl ?_
  refine c_V0 b dX0_addStep_4 lmX0_58 (cpS (tlt rfl) ct_231) (k_Jx4a65c_isEmpty_aae02 (m := .int (iI (C 231 0))) (v := V 231) (n := I 2) (by show cp w C A V h 231 = _; rw [cp_lt (by omega), ct_231, ← hD.n1]) (by omega)) (tle rfl) (by omega) (by omega) (by omega) ?_
  refine z_ifb_eq (tgt := 13) b dX0_addStep_7 (by decide) (fun c7 => ?_) (fun c7 => ?_)
  · refine w_aload_n b dX0_addStep_13 rfl rfl ?_
    refine q_get b dX0_addStep_14 lfX0_12 (tlt rfl) ct_230 rfl ?_
    refine w_aload_n b dX0_addStep_17 rfl rfl ?_
    refine q_get b dX0_addStep_18 lfX0_12 (tlt rfl) ct_230 rfl ?_
    refine c_V0 b dX0_addStep_21 lmX0_34 (cpS (tlt rfl) ct_231) (k_sizeC hD) (tle rfl) (by omega) (by omega) (by omega) ?_
    refine z_iconst b dX0_addStep_24 ?_
    refine z_isub b dX0_addStep_25 ?_
    refine y_top (y := (c0 : Int)) (by omega) ?_
    refine c_V1 b dX0_addStep_26 lmX0_42 (cpS (tlt rfl) ct_231) (k_getC hD hcl) (tle rfl) (by omega) (by omega) (by omega) ?_
    refine w_castS (ci := 2) b dX0_addStep_29 rfl lcX0_46 (hD.chant hcl) ?_
    refine w_getf b dX0_addStep_32 lfX0_48 (hD.chant hcl) rfl ?_
    refine w_astore b dX0_addStep_35 (tlt rfl) rfl rfl ?_
    refine w_aload b dX0_addStep_37 rfl rfl ?_
    refine c_V0 b dX0_addStep_39 lmX0_34 e0 (k_sizeS hD hcl) (tle rfl) (by omega) (by omega) (by omega) ?_
    refine z_bipush b dX0_addStep_42 (by decide) ?_
    refine z_icmp_lt (tgt := 50) b dX0_addStep_44 (by decide) (by omega) (fun c44 => ?_) (fun c44 => ?_)
    · refine w_aload b dX0_addStep_50 rfl rfl ?_
      refine w_new b dX0_addStep_52 lnX0_51 (by omega) (by simp <;> omega) ?_
      change WW X g _ _ (0 + 0 + 0 + 0 + 0 + 1) (0 + 0 + 0 + 0 + 0 + 3) _ _ _ _
      refine ww_cast (σ' := (cp w C A V (va_up h nx (.inr (5, [.int 0, .int 0, .int 0]))), nx + 1)) rfl rfl (by rw [cp_uph (by omega)]) ?_
      refine w_dup b dX0_addStep_55 rfl ?_
      refine w_iload_n b dX0_addStep_56 rfl ?_
      refine w_iload_n b dX0_addStep_57 rfl ?_
      refine w_iload_n b dX0_addStep_58 rfl ?_
      refine c_I3 b dX0_addStep_59 lmX0_62 (k_X5_init (σ := (cp w C A V (va_up h nx (.inr (5, [.int 0, .int 0, .int 0]))), nx + 1)) (q := nx) (k := k) (n := n) (c := c) (by show cp w C A V (va_up h nx _) nx = _; rw [cp_ge (by omega), va_up_self])) (tle rfl) (by omega) (by omega) (by omega) ?_
      refine ww_cast (σ' := (cp w C A V (va_up h nx (.inr (5, [.int (iI k), .int (iI c), .int (iI n)]))), nx + 1)) rfl rfl (by show (va_up (cp w C A V (va_up h nx _)) nx _, nx + 1) = _; rw [cp_uph (by omega), va_up_twice]) ?_
      have hlr : cp w C A V (va_up h nx (.inr (5, [.int (iI k), .int (iI c), .int (iI n)]))) (ca c0 + 1) = .inr (10, [.int (iI m9), v9, .int (iI (F 3 (c0 : Int)))]) := by
        rw [cp_ge (by omega), va_up_ne _ _ (by omega)]
        rw [cp_ge (by omega)] at e0
        exact e0
      have hnx : cp w C A V (va_up h nx (.inr (5, [.int (iI k), .int (iI c), .int (iI n)]))) nx = (.inr (5, [.int (iI k), .int (iI c), .int (iI n)])) := by
        rw [cp_ge (by omega), va_up_self]
      rcases e9 with ⟨e1, e2⟩ | ⟨a, len, f, e1, e2, e3, e4, e5, e6, e7, e8, e9⟩
      · rw [e2, e1] at hlr
        refine c_V1 b dX0_addStep_62 lmX0_54 hlr (k_addA hlr (by omega) (by show ca c0 + 1 ≠ nx + 1; omega) (by show nx ≠ nx + 1; omega) hnx rfl (by decide)) (tle rfl) (by omega) (by omega) (by omega) ?_
        refine ww_cast (L' := [some (.ref 230), some (.int (iI (k))), some (.int (iI (n))), some (.int (iI (c))), some (.ref (ca c0 + 1))]) (σ' := (cp w C A V (va_up (va_up (va_up h nx (.inr (5, [.int (iI k), .int (iI c), .int (iI n)]))) (nx + 1) (.inl (4, 10, .inr (.inr (.inr (.inr (va_up (fun _ => none) 0 (some nx)))))))) (ca c0 + 1) (.inr (10, [.int (iI (m9 + 1)), .ref (nx + 1), .int (iI (0 + 1))]))), nx + 2)) rfl rfl (Prod.ext (by show va_up (va_up (cp w C A V (va_up h nx _)) _ _) _ _ = _; rw [cp_uph (by show 257 ≤ nx + 1; omega), cp_uph (by omega)]) rfl) ?_
        have e7 := fin (m9 + 1) (nx + 1) 10 (nx + 2) (va_up (fun _ => none) 0 (some nx)) (0 + 1 + 0 + 1) (0 + 3 + 0 + 10) (by omega) (by omega) ⟨Or.inr ⟨rfl, rfl⟩, by omega, Or.inl rfl, fun i hi => by omega, by rw [e1]; rfl⟩
        rw [e1] at e7 ⊢
        exact e7
      · rw [e1] at hlr
        have ha : cp w C A V (va_up h nx (.inr (5, [.int (iI k), .int (iI c), .int (iI n)]))) a = (.inl (4, len, .inr (.inr (.inr (.inr (f)))))) := by
          rw [cp_ge (by omega), va_up_ne _ _ (by omega), e5]
        have hla : ca c0 + 1 ≠ a := by intro z; rw [← z] at e4; omega
        by_cases hfull : F 3 (c0 : Int) < (len : Int)
        · refine c_V1 b dX0_addStep_62 lmX0_54 hlr (k_addB hlr (by omega) hla ha ⟨e6, hfull, by omega⟩ hnx rfl (by decide)) (tle rfl) (by omega) (by omega) (by omega) ?_
          refine ww_cast (L' := [some (.ref 230), some (.int (iI (k))), some (.int (iI (n))), some (.int (iI (c))), some (.ref (ca c0 + 1))]) (σ' := (cp w C A V (va_up (va_up (va_up h nx (.inr (5, [.int (iI k), .int (iI c), .int (iI n)]))) a (.inl (4, len, .inr (.inr (.inr (.inr (va_up f (F 3 (c0 : Int)).toNat (some nx)))))))) (ca c0 + 1) (.inr (10, [.int (iI (m9 + 1)), .ref a, .int (iI (F 3 (c0 : Int) + 1))]))), nx + 1)) rfl rfl (Prod.ext (by show va_up (va_up (cp w C A V (va_up h nx _)) _ _) _ _ = _; rw [cp_uph (by omega), cp_uph (by omega)]) rfl) ?_
          refine fin (m9 + 1) a len (nx + 1) (va_up f (F 3 (c0 : Int)).toNat (some nx)) _ _ (by omega) (by omega) ⟨Or.inl ⟨e2, e3, e4, rfl⟩, by omega, e8, fun i hi => ?_, va_up_self _ _ _⟩
          rw [va_up_ne _ _ (by omega)]; exact e9 i hi
        · have e10 : F 3 (c0 : Int) = 10 := by omega
          have e11 : len = 10 := by omega
          subst e11
          rw [e10] at hlr
          refine c_V1 b dX0_addStep_62 lmX0_54 hlr (k_addC (ci := 5) hlr (by omega) (Ne.symm hla) (by show ca c0 + 1 ≠ nx + 1; omega) (by show nx ≠ nx + 1; omega) rfl (by decide) ha (by show a ≠ nx + 1; omega) (fun i hi y hy => ?_) hnx rfl (by decide)) (tle rfl) (by omega) (by omega) (by omega) ?_
          · rw [e9 i (by omega)] at hy
            cases hy
            obtain ⟨q1, q2, q3, q4⟩ := hD.os c0 i hcl (by omega)
            exact ⟨_, by show cp w C A V (va_up h nx _) (sa c0 i) = _; rw [cp_ge (by omega), va_up_ne _ _ (by omega)]; exact q4, by show sa c0 i ≠ nx + 1; omega, by intro z; rw [z] at q3; omega⟩
          refine ww_cast (L' := [some (.ref 230), some (.int (iI (k))), some (.int (iI (n))), some (.int (iI (c))), some (.ref (ca c0 + 1))]) (σ' := (cp w C A V (va_up (va_up (va_up h nx (.inr (5, [.int (iI k), .int (iI c), .int (iI n)]))) (nx + 1) (.inl (4, 15, .inr (.inr (.inr (.inr (va_up (va_cpy f (fun _ => none) 0 0 10) 10 (some nx)))))))) (ca c0 + 1) (.inr (10, [.int (iI (m9 + 1)), .ref (nx + 1), .int (iI (10 + 1))]))), nx + 2)) rfl rfl (Prod.ext (by show va_up (va_up (cp w C A V (va_up h nx _)) _ _) _ _ = _; rw [cp_uph (by show 257 ≤ nx + 1; omega), cp_uph (by omega)]) rfl) ?_
          have e12 := fin (m9 + 1) (nx + 1) 15 (nx + 2) (va_up (va_cpy f (fun _ => none) 0 0 10) 10 (some nx)) (0 + 1 + 0 + 1) (0 + 3 + 0 + 15) (by omega) (by omega) ⟨Or.inr ⟨rfl, rfl⟩, by omega, Or.inr rfl, fun i hi => ?_, by rw [e10]; exact va_up_self _ _ _⟩
          · rw [e10] at e12 ⊢
            exact e12
          · rw [va_up_ne _ _ (by omega)]
            unfold va_cpy
            rw [if_pos (by omega), show 0 + (i - 0) = i by omega]
            exact e9 i hi
    · exfalso; omega
  · exfalso; omega
def saN (sa : Nat → Nat → Nat) (c0 s0 nx : Nat) : Nat → Nat → Nat := fun c s => if c = c0 ∧ s = s0 then nx else sa c s
def owS (own : Nat → Nat) (nx c0 s0 : Nat) : Nat → Nat := fun q => if q < nx then own q else if q = nx then 100 + 12 * c0 + s0 else 61 + c0
theorem wfC_step {I : Nat → Int} {F : Nat → Int → Int} {k n c : Int} {c0 : Nat} (wf : wfC I F) (hc0 : I 2 = (c0 : Int) + 1) (hf : F 3 (c0 : Int) < 12) (hok : okStep I k n c) : wfC I (va_up (va_up (va_up (va_up F 4 (fu (F 4) (12 * (c0 : Int) + F 3 (c0 : Int)) k)) 5 (fu (F 5) (12 * (c0 : Int) + F 3 (c0 : Int)) n)) 6 (fu (F 6) (12 * (c0 : Int) + F 3 (c0 : Int)) c)) 3 (fu (F 3) (c0 : Int) (F 3 (c0 : Int) + 1))) := by
  have hw0 := (wf c0 (by omega) (by omega)).1
  intro c1 h1 h2
  have hw1 := wf c1 h1 h2
  show (0 ≤ fu (F 3) (c0 : Int) (F 3 (c0 : Int) + 1) c1 ∧ fu (F 3) (c0 : Int) (F 3 (c0 : Int) + 1) c1 ≤ 12) ∧ ∀ s : Int, 0 ≤ s → s < fu (F 3) (c0 : Int) (F 3 (c0 : Int) + 1) c1 → (0 ≤ fu (F 4) (12 * (c0 : Int) + F 3 (c0 : Int)) k (12 * c1 + s) ∧ fu (F 4) (12 * (c0 : Int) + F 3 (c0 : Int)) k (12 * c1 + s) ≤ 5) ∧ (fu (F 4) (12 * (c0 : Int) + F 3 (c0 : Int)) k (12 * c1 + s) = 0 → 1 ≤ fu (F 5) (12 * (c0 : Int) + F 3 (c0 : Int)) n (12 * c1 + s) ∧ fu (F 5) (12 * (c0 : Int) + F 3 (c0 : Int)) n (12 * c1 + s) ≤ 40) ∧ ((fu (F 4) (12 * (c0 : Int) + F 3 (c0 : Int)) k (12 * c1 + s) = 3 ∨ fu (F 4) (12 * (c0 : Int) + F 3 (c0 : Int)) k (12 * c1 + s) = 5) → 1 ≤ fu (F 5) (12 * (c0 : Int) + F 3 (c0 : Int)) n (12 * c1 + s) ∧ fu (F 5) (12 * (c0 : Int) + F 3 (c0 : Int)) n (12 * c1 + s) ≤ 9) ∧ (fu (F 4) (12 * (c0 : Int) + F 3 (c0 : Int)) k (12 * c1 + s) = 4 → 0 ≤ fu (F 5) (12 * (c0 : Int) + F 3 (c0 : Int)) n (12 * c1 + s) ∧ fu (F 5) (12 * (c0 : Int) + F 3 (c0 : Int)) n (12 * c1 + s) < c1) ∧ ((fu (F 4) (12 * (c0 : Int) + F 3 (c0 : Int)) k (12 * c1 + s) = 0 ∨ fu (F 4) (12 * (c0 : Int) + F 3 (c0 : Int)) k (12 * c1 + s) = 1) → 0 ≤ fu (F 6) (12 * (c0 : Int) + F 3 (c0 : Int)) c (12 * c1 + s) ∧ fu (F 6) (12 * (c0 : Int) + F 3 (c0 : Int)) c (12 * c1 + s) ≤ 7)
  by_cases hc : c1 = (c0 : Int)
  · subst hc
    rw [fu_s]
    refine ⟨by omega, fun s g1 g2 => ?_⟩
    by_cases hs : s = F 3 (c0 : Int)
    · subst hs
      rw [fu_s, fu_s, fu_s]
      obtain ⟨o1, o2, o3, o4, o5⟩ := hok
      exact ⟨o1, o3, o5, fun z => ⟨(o4 z).1, by have := (o4 z).2; omega⟩, o2⟩
    · rw [fu_n (by omega), fu_n (by omega), fu_n (by omega)]
      exact hw1.2 s g1 (by omega)
  · rw [fu_n hc]
    refine ⟨hw1.1, fun s g1 g2 => ?_⟩
    rw [fu_n (by omega), fu_n (by omega), fu_n (by omega)]
    exact hw1.2 s g1 g2
theorem RDy.addS {I : Nat → Int} {F : Nat → Int → Int} {ca : Nat → Nat} {sa : Nat → Nat → Nat} {own : Nat → Nat} {C : Nat → Nat → Int} {V : Nat → Value} {h : Nat → va_E} {nx : Nat} (hD : RDy h nx C V I F ca sa own) (hx : 291 ≤ nx) {k n c : Int} {c0 : Nat} (hc0 : I 2 = (c0 : Int) + 1) (hf : F 3 (c0 : Int) < 12) (hok : okStep I k n c) (hk : inR k) (hn : inR n) (hc : inR c) {m1 : Int} {a len nx1 : Nat} {f1 : Nat → Option Nat} (hA : LA own (61 + c0) nx (nx + 1) (F 3 (c0 : Int)) (sa c0) nx a len nx1 f1) :
    RDy (va_up (va_up (va_up h nx (.inr (5, [.int (iI k), .int (iI c), .int (iI n)]))) a (.inl (4, len, .inr (.inr (.inr (.inr (f1))))))) (ca c0 + 1) (.inr (10, [.int (iI m1), .ref a, .int (iI (F 3 (c0 : Int) + 1))]))) nx1 C V I (va_up (va_up (va_up (va_up F 4 (fu (F 4) (12 * (c0 : Int) + F 3 (c0 : Int)) k)) 5 (fu (F 5) (12 * (c0 : Int) + F 3 (c0 : Int)) n)) 6 (fu (F 6) (12 * (c0 : Int) + F 3 (c0 : Int)) c)) 3 (fu (F 3) (c0 : Int) (F 3 (c0 : Int) + 1))) ca (saN sa c0 (F 3 (c0 : Int)).toNat nx) (owS own nx c0 (F 3 (c0 : Int)).toNat) ∧ frD h own nx (va_up (va_up (va_up h nx (.inr (5, [.int (iI k), .int (iI c), .int (iI n)]))) a (.inl (4, len, .inr (.inr (.inr (.inr (f1))))))) (ca c0 + 1) (.inr (10, [.int (iI m1), .ref a, .int (iI (F 3 (c0 : Int) + 1))]))) (owS own nx c0 (F 3 (c0 : Int)).toNat) nx1 := by
  obtain ⟨hA1, hA2, hA3, hA4, hA5⟩ := hA
  have hn2 := hD.n2
  have hcl : (c0 : Int) < I 2 := by omega
  have hw0 := (hD.wf c0 (by omega) hcl).1
  obtain ⟨z1, z2, z3, z4, z5⟩ := hD.oc c0 hcl
  have hax : 291 ≤ a ∧ a < nx1 ∧ a ≠ nx ∧ nx + 1 ≤ nx1 := by rcases hA1 with z | z <;> omega
  have hal : a ≠ ca c0 + 1 := by
    intro z
    rcases hA1 with y | y
    · rw [z] at y; omega
    · omega
  have hold : ∀ q, q < nx → own q ≠ 61 + c0 → own q ≠ 40 + c0 → (va_up (va_up (va_up h nx (.inr (5, [.int (iI k), .int (iI c), .int (iI n)]))) a (.inl (4, len, .inr (.inr (.inr (.inr (f1))))))) (ca c0 + 1) (.inr (10, [.int (iI m1), .ref a, .int (iI (F 3 (c0 : Int) + 1))]))) q = h q := by
    intro q h1 h2 h3
    rw [va_up_ne _ _ (by intro z; subst z; omega), va_up_ne _ _ (by intro z; subst z; rcases hA1 with z | z <;> omega), va_up_ne _ _ (by omega)]
  have how : ∀ q, q < nx → owS own nx c0 (F 3 (c0 : Int)).toNat q = own q := fun q hq => if_pos hq
  have e3 : ∀ c1 : Nat, c1 ≠ c0 → (va_up (va_up (va_up (va_up F 4 (fu (F 4) (12 * (c0 : Int) + F 3 (c0 : Int)) k)) 5 (fu (F 5) (12 * (c0 : Int) + F 3 (c0 : Int)) n)) 6 (fu (F 6) (12 * (c0 : Int) + F 3 (c0 : Int)) c)) 3 (fu (F 3) (c0 : Int) (F 3 (c0 : Int) + 1))) 3 (c1 : Int) = F 3 (c1 : Int) := fun c1 hc1 => by rw [va_up_self, fu_n (by omega)]
  have e3' : (va_up (va_up (va_up (va_up F 4 (fu (F 4) (12 * (c0 : Int) + F 3 (c0 : Int)) k)) 5 (fu (F 5) (12 * (c0 : Int) + F 3 (c0 : Int)) n)) 6 (fu (F 6) (12 * (c0 : Int) + F 3 (c0 : Int)) c)) 3 (fu (F 3) (c0 : Int) (F 3 (c0 : Int) + 1))) 3 (c0 : Int) = F 3 (c0 : Int) + 1 := by rw [va_up_self, fu_s]
  refine ⟨⟨?_, ?_, ?_, ?_, ?_, ?_, ?_, ?_⟩, ?_⟩
  · exact hD.n1
  · exact hD.n2
  · exact wfC_step hD.wf hc0 hf hok
  · exact hD.lc.mono (by omega) (fun q g1 g2 g3 => ⟨by rw [how q g2]; exact g3, hold q g2 (by omega) (by omega)⟩) (fun _ _ => rfl)
  · intro c1 hc1
    obtain ⟨q1, q2, q3, q4, q5⟩ := hD.oc c1 hc1
    rw [how _ (by omega), how _ (by omega), hold _ (by omega) (by omega) (by omega)]
    exact ⟨q1, by omega, q3, q4, q5⟩
  · intro c1 hc1
    obtain ⟨q1, q2, q3, q4, q5⟩ := hD.oc c1 hc1
    by_cases hcn : c1 = c0
    · subst hcn
      rw [e3']
      refine ⟨m1, .ref a, va_up_self _ _ _, Or.inr ⟨a, len, f1, rfl, hax.1, hax.2.1, ?_, ?_, by omega, hA2, hA3, fun i hi => ?_⟩⟩
      · rcases hA1 with z | z
        · rw [how a z.2.1]; exact z.2.2.1
        · unfold owS; rw [if_neg (by omega), if_neg (by omega)]
      · rw [va_up_ne _ _ hal, va_up_self]
      · unfold saN
        by_cases hs : i = (F 3 (c1 : Int)).toNat
        · rw [if_pos ⟨rfl, hs⟩, hs]; exact hA5
        · rw [if_neg (fun z => hs z.2)]; exact hA4 i (by omega)
    · obtain ⟨m, v, r1, r2⟩ := hD.ol c1 hc1
      rw [e3 c1 hcn, hold _ (by omega) (by omega) (by omega)]
      exact ⟨m, v, r1, r2.mono (by omega) (fun q g1 g2 g3 => ⟨by rw [how q g2]; exact g3, hold q g2 (by omega) (by omega)⟩) (fun i _ => if_neg (fun z => hcn z.1))⟩
  · intro c1 s hc1 hs
    by_cases hn1 : c1 = c0 ∧ s = (F 3 (c0 : Int)).toNat
    · obtain ⟨rfl, rfl⟩ := hn1
      have e : saN sa c1 (F 3 (c1 : Int)).toNat nx c1 (F 3 (c1 : Int)).toNat = nx := if_pos ⟨rfl, rfl⟩
      rw [e]
      refine ⟨hx, by omega, ?_, ?_⟩
      · unfold owS; rw [if_neg (by omega), if_pos rfl]
      · rw [va_up_ne _ _ (by omega), va_up_ne _ _ (by omega), va_up_self]
        have ex : 12 * (c1 : Int) + (((F 3 (c1 : Int)).toNat : Nat) : Int) = 12 * (c1 : Int) + F 3 (c1 : Int) := by omega
        rw [ex]
        show _ = Sum.inr (5, [Value.int (iI (fu (F 4) _ k _)), Value.int (iI (fu (F 6) _ c _)), Value.int (iI (fu (F 5) _ n _))])
        rw [fu_s, fu_s, fu_s]
    · have e : saN sa c0 (F 3 (c0 : Int)).toNat nx c1 s = sa c1 s := if_neg hn1
      have hs2 : (s : Int) < F 3 (c1 : Int) := by
        by_cases hcn : c1 = c0
        · subst hcn; rw [e3'] at hs; omega
        · rw [e3 c1 hcn] at hs; exact hs
      have hb1 := (hD.wf c1 (by omega) hc1).1
      obtain ⟨q1, q2, q3, q4⟩ := hD.os c1 s hc1 hs2
      rw [e, how _ (by omega), hold _ (by omega) (by omega) (by omega)]
      refine ⟨q1, by omega, q3, ?_⟩
      rw [q4]
      have hne : 12 * (c1 : Int) + (s : Int) ≠ (12 * (c0 : Int) + F 3 (c0 : Int)) := by omega
      show _ = Sum.inr (5, [Value.int (iI (fu (F 4) _ k _)), Value.int (iI (fu (F 6) _ c _)), Value.int (iI (fu (F 5) _ n _))])
      rw [fu_n hne, fu_n hne, fu_n hne]
      rfl
  · intro x h1 h2
    have h3 := hD.rg x h1 h2
    show inR (fu (F 4) (12 * (c0 : Int) + F 3 (c0 : Int)) k x) ∧ inR (fu (F 5) (12 * (c0 : Int) + F 3 (c0 : Int)) n x) ∧ inR (fu (F 6) (12 * (c0 : Int) + F 3 (c0 : Int)) c x)
    by_cases hxx : x = (12 * (c0 : Int) + F 3 (c0 : Int))
    · rw [hxx, fu_s, fu_s, fu_s]; exact ⟨hk, hn, hc⟩
    · rw [fu_n hxx, fu_n hxx, fu_n hxx]; exact h3
  · refine ⟨by omega, fun q hq => ?_, fun q h1 h2 => ⟨by rw [how q h1]; exact h2, hold q h1 (by omega) (by omega)⟩⟩
    rw [va_up_ne _ _ (by omega), va_up_ne _ _ (by omega), va_up_ne _ _ (by omega)]
set_option maxRecDepth 20000 in
theorem k_X8_step0 {l0 : Launch} {g : Gw} {w nx : Nat} {h : Nat → va_E} {C : Nat → Nat → Int} {A : Nat → Int → Int} {V : Nat → Value} {I : Nat → Int} {F : Nat → Int → Int} {ca : Nat → Nat} {sa : Nat → Nat → Nat} {own : Nat → Nat} {k n c : Int} (hD : RDy h nx C V I F ca sa own) (hk : inR k) (hn : inR n) (hc : inR c) (hb : ¬ okStep I k n c) : MD l0 g 9 mX8_step (cp w C A V h, nx) [.ref 0, .int (iI (k)), .int (iI (n)), .int (iI (c))] 2 18 (some (.int (iI (-1)))) (cp w C A V h, nx) := by
  refine MD.of (by decide +kernel) (by simp [Value.category]) (tle rfl) (fun X b => ?_)
  change WW X g _ _ 0 0 0 [some (.ref 0), some (.int (iI (k))), some (.int (iI (n))), some (.int (iI (c)))] [] _
  refine w_aload_n b dX8_step_0 rfl rfl ?_
  refine w_iload_n b dX8_step_1 rfl ?_
  refine w_iload_n b dX8_step_2 rfl ?_
  refine w_iload_n b dX8_step_3 rfl ?_
  refine c_V3 b dX8_step_4 lmX8_55 (cpS (tlt rfl) ct_0) (k_X8_isStepAsTold hD hk hn hc) (tle rfl) (by omega) (by omega) (by omega) ?_
  refine z_ifb_ne (tgt := 12) b dX8_step_7 (by decide) (fun c7 => ?_) (fun c7 => ?_)
  · exfalso; omega
  · refine z_iconst b dX8_step_10 ?_
    exact w_iret b dX8_step_11 rfl (by omega) (by omega) ⟨iv_eq (by first | rfl | omega | ((try simp only [b2]); ((repeat' split) <;> (first | rfl | omega)))), rfl⟩
set_option maxRecDepth 20000 in
theorem k_X8_step1 {l0 : Launch} {g : Gw} {w nx : Nat} {h : Nat → va_E} {C : Nat → Nat → Int} {A : Nat → Int → Int} {V : Nat → Value} {I : Nat → Int} {F : Nat → Int → Int} {ca : Nat → Nat} {sa : Nat → Nat → Nat} {own : Nat → Nat} {k n c : Int} (hD : RDy h nx C V I F ca sa own) (hk : inR k) (hn : inR n) (hc : inR c) (hb : okStep I k n c) (hf : I 2 = 0) : MD l0 g 9 mX8_step (cp w C A V h, nx) [.ref 0, .int (iI (k)), .int (iI (n)), .int (iI (c))] 2 18 (some (.int (iI (-3)))) (cp w C A V h, nx) := by
  refine MD.of (by decide +kernel) (by simp [Value.category]) (tle rfl) (fun X b => ?_)
  change WW X g _ _ 0 0 0 [some (.ref 0), some (.int (iI (k))), some (.int (iI (n))), some (.int (iI (c)))] [] _
  refine w_aload_n b dX8_step_0 rfl rfl ?_
  refine w_iload_n b dX8_step_1 rfl ?_
  refine w_iload_n b dX8_step_2 rfl ?_
  refine w_iload_n b dX8_step_3 rfl ?_
  refine c_V3 b dX8_step_4 lmX8_55 (cpS (tlt rfl) ct_0) (k_X8_isStepAsTold hD hk hn hc) (tle rfl) (by omega) (by omega) (by omega) ?_
  refine z_ifb_ne (tgt := 12) b dX8_step_7 (by decide) (fun c7 => ?_) (fun c7 => ?_)
  · refine w_aload_n b dX8_step_12 rfl rfl ?_
    refine q_get b dX8_step_13 lfX8_33 (tlt rfl) ct_0 rfl ?_
    refine w_iload_n b dX8_step_16 rfl ?_
    refine w_iload_n b dX8_step_17 rfl ?_
    refine w_iload_n b dX8_step_18 rfl ?_
    refine c_V3 b dX8_step_19 lmX8_59 (cpS (tlt rfl) ct_230) (k_X0_addStep0 hD hf) (tle rfl) (by omega) (by omega) (by omega) ?_
    exact w_iret b dX8_step_22 rfl (by omega) (by omega) ⟨iv_eq (by first | rfl | omega | ((try simp only [b2]); ((repeat' split) <;> (first | rfl | omega)))), rfl⟩
  · exact absurd hb c7
set_option maxRecDepth 20000 in
theorem k_X8_step2 {l0 : Launch} {g : Gw} {w nx : Nat} {h : Nat → va_E} {C : Nat → Nat → Int} {A : Nat → Int → Int} {V : Nat → Value} {I : Nat → Int} {F : Nat → Int → Int} {ca : Nat → Nat} {sa : Nat → Nat → Nat} {own : Nat → Nat} {k n c : Int} {c0 : Nat} (hD : RDy h nx C V I F ca sa own) (hk : inR k) (hn : inR n) (hc : inR c) (hb : okStep I k n c) (hc0 : I 2 = (c0 : Int) + 1) (hf : F 3 (c0 : Int) = 12) : MD l0 g 9 mX8_step (cp w C A V h, nx) [.ref 0, .int (iI (k)), .int (iI (n)), .int (iI (c))] 2 18 (some (.int (iI (-2)))) (cp w C A V h, nx) := by
  refine MD.of (by decide +kernel) (by simp [Value.category]) (tle rfl) (fun X b => ?_)
  change WW X g _ _ 0 0 0 [some (.ref 0), some (.int (iI (k))), some (.int (iI (n))), some (.int (iI (c)))] [] _
  refine w_aload_n b dX8_step_0 rfl rfl ?_
  refine w_iload_n b dX8_step_1 rfl ?_
  refine w_iload_n b dX8_step_2 rfl ?_
  refine w_iload_n b dX8_step_3 rfl ?_
  refine c_V3 b dX8_step_4 lmX8_55 (cpS (tlt rfl) ct_0) (k_X8_isStepAsTold hD hk hn hc) (tle rfl) (by omega) (by omega) (by omega) ?_
  refine z_ifb_ne (tgt := 12) b dX8_step_7 (by decide) (fun c7 => ?_) (fun c7 => ?_)
  · refine w_aload_n b dX8_step_12 rfl rfl ?_
    refine q_get b dX8_step_13 lfX8_33 (tlt rfl) ct_0 rfl ?_
    refine w_iload_n b dX8_step_16 rfl ?_
    refine w_iload_n b dX8_step_17 rfl ?_
    refine w_iload_n b dX8_step_18 rfl ?_
    refine c_V3 b dX8_step_19 lmX8_59 (cpS (tlt rfl) ct_230) (k_X0_addStep1 hD hc0 hf) (tle rfl) (by omega) (by omega) (by omega) ?_
    exact w_iret b dX8_step_22 rfl (by omega) (by omega) ⟨iv_eq (by first | rfl | omega | ((try simp only [b2]); ((repeat' split) <;> (first | rfl | omega)))), rfl⟩
  · exact absurd hb c7
set_option maxRecDepth 20000 in
theorem k_X8_step3 {l0 : Launch} {g : Gw} {w nx : Nat} {h : Nat → va_E} {C : Nat → Nat → Int} {A : Nat → Int → Int} {V : Nat → Value} {I : Nat → Int} {F : Nat → Int → Int} {ca : Nat → Nat} {sa : Nat → Nat → Nat} {own : Nat → Nat} {k n c : Int} {c0 : Nat} (hD : RDy h nx C V I F ca sa own) (hx : 291 ≤ nx) (hk : inR k) (hn : inR n) (hc : inR c) (hb : okStep I k n c) (hc0 : I 2 = (c0 : Int) + 1) (hf : F 3 (c0 : Int) < 12) : MM l0 g 9 mX8_step (cp w C A V h, nx) [.ref 0, .int (iI (k)), .int (iI (n)), .int (iI (c))] 2 18 (fun r σ' => r = some (.int (iI (F 3 (c0 : Int)))) ∧ ∃ (h1 : Nat → va_E) (nx1 : Nat) (ca1 : Nat → Nat) (sa1 : Nat → Nat → Nat) (own1 : Nat → Nat), σ' = (cp w C A V h1, nx1) ∧ RDy h1 nx1 C V I (va_up (va_up (va_up (va_up F 4 (fu (F 4) (12 * (c0 : Int) + F 3 (c0 : Int)) k)) 5 (fu (F 5) (12 * (c0 : Int) + F 3 (c0 : Int)) n)) 6 (fu (F 6) (12 * (c0 : Int) + F 3 (c0 : Int)) c)) 3 (fu (F 3) (c0 : Int) (F 3 (c0 : Int) + 1))) ca1 sa1 own1 ∧ frD h own nx h1 own1 nx1) := by
  refine MM.of (by decide +kernel) (by simp [Value.category]) (tle rfl) (fun X b => ?_)
  change WW X g _ _ 0 0 0 [some (.ref 0), some (.int (iI (k))), some (.int (iI (n))), some (.int (iI (c)))] [] _
  refine w_aload_n b dX8_step_0 rfl rfl ?_
  refine w_iload_n b dX8_step_1 rfl ?_
  refine w_iload_n b dX8_step_2 rfl ?_
  refine w_iload_n b dX8_step_3 rfl ?_
  refine c_V3 b dX8_step_4 lmX8_55 (cpS (tlt rfl) ct_0) (k_X8_isStepAsTold hD hk hn hc) (tle rfl) (by omega) (by omega) (by omega) ?_
  refine z_ifb_ne (tgt := 12) b dX8_step_7 (by decide) (fun c7 => ?_) (fun c7 => ?_)
  · refine w_aload_n b dX8_step_12 rfl rfl ?_
    refine q_get b dX8_step_13 lfX8_33 (tlt rfl) ct_0 rfl ?_
    refine w_iload_n b dX8_step_16 rfl ?_
    refine w_iload_n b dX8_step_17 rfl ?_
    refine w_iload_n b dX8_step_18 rfl ?_
    refine w_callV (d' := 8) (mc' := 2) (ms' := 18) (st := []) (vs := [.int (iI k), .int (iI n), .int (iI c)]) b dX8_step_19 lmX8_59 rfl rfl (cpS (tlt rfl) ct_230) (tle rfl) (by omega) (by omega) (by omega) (k_X0_addStep2 hD hx hc0 hf) (fun r σ' hz => ?_)
    obtain ⟨rfl, m1, a, len, nx1, f1, hA, rfl⟩ := hz
    exact w_iret b dX8_step_22 rfl (by omega) (by omega) ⟨rfl, _, _, _, _, _, rfl, (hD.addS (m1 := m1) hx hc0 hf hb hk hn hc hA).1, (hD.addS (m1 := m1) hx hc0 hf hb hk hn hc hA).2⟩
  · exact absurd hb c7
