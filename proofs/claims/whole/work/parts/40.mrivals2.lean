/-! THE REFERENCE: rivals, whole (by p40.py) -/
set_option maxRecDepth 20000 in
theorem k_X9_rivals0 {l0 : Launch} {g : Gw} {mo nx : Nat} {h0 : Nat → va_E} {I : Nat → Int} {F : Nat → Int → Int}  (h27 : 0 ≤ I 27 ∧ I 27 ≤ 8) (hb : I 27 = 0 ∨ 6 < I 27) : MD l0 g 3 mX9_rivals (mp mo h0 I F, nx) [.ref mo] 0 0 (some (.int (iI (if I 27 = 0 then -3 else -5)))) (mp mo h0 I F, nx) := by
  refine MD.of (by decide +kernel) (by simp [Value.category]) (tle rfl) (fun X b => ?_)
  change WW X g _ _ 0 0 0 [some (.ref mo), none, none, none, none, none, none] [] _
  refine w_aload_n b dX9_rivals_0 rfl rfl ?_
  refine m_get b dX9_rivals_1 lfX9_89 rfl ?_
  refine z_if_ne (tgt := 10) b dX9_rivals_4 (by decide) (by omega) (fun c4 => ?_) (fun c4 => ?_)
  · refine w_aload_n b dX9_rivals_10 rfl rfl ?_
    refine m_get b dX9_rivals_11 lfX9_89 rfl ?_
    refine z_bipush b dX9_rivals_14 (by decide) ?_
    refine z_icmp_le (tgt := 22) b dX9_rivals_16 (by decide) (by omega) (fun c16 => ?_) (fun c16 => ?_)
    · exfalso; omega
    · refine z_bipush b dX9_rivals_19 (by decide) ?_
      exact w_iret b dX9_rivals_21 rfl (by omega) (by omega) ⟨iv_eq (by first | rfl | omega | ((try simp only [b2]); ((repeat' split) <;> (first | rfl | omega)))), rfl⟩
  · refine z_bipush b dX9_rivals_7 (by decide) ?_
    exact w_iret b dX9_rivals_9 rfl (by omega) (by omega) ⟨iv_eq (by first | rfl | omega | ((try simp only [b2]); ((repeat' split) <;> (first | rfl | omega)))), rfl⟩
set_option maxRecDepth 20000 in
theorem k_X9_rivals1 {l0 : Launch} {g : Gw} {mo nx : Nat} {h0 : Nat → va_E} {I : Nat → Int} {F : Nat → Int → Int}  (h27 : 1 ≤ I 27 ∧ I 27 ≤ 6) (h30 : ∀ j, 0 ≤ j → j < 8 → 0 ≤ F 30 j ∧ F 30 j < 2 ^ 8) : MD l0 g 3 mX9_rivals (mp mo h0 I F, nx) [.ref mo] 0 0 (some (.int (iI (rvA (F 30) (ppA (I 27) (I 27).toNat 0 (F 33, F 34, 0)).1 (ppA (I 27) (I 27).toNat 0 (F 33, F 34, 0)).2.1 (I 27).toNat (ppA (I 27) (I 27).toNat 0 (F 33, F 34, 0)).2.2 (treeT I F).2.2.2 ((2 : Int) ^ (ppA (I 27) (I 27).toNat 0 (F 33, F 34, 0)).2.2.toNat).toNat 0 0 (treeT I F).1).1))) (mp mo h0 (tI I (treeT I F)) (va_up (pF (tF F (treeT I F)) (ppA (I 27) (I 27).toNat 0 (F 33, F 34, 0))) 31 (rvA (F 30) (ppA (I 27) (I 27).toNat 0 (F 33, F 34, 0)).1 (ppA (I 27) (I 27).toNat 0 (F 33, F 34, 0)).2.1 (I 27).toNat (ppA (I 27) (I 27).toNat 0 (F 33, F 34, 0)).2.2 (treeT I F).2.2.2 ((2 : Int) ^ (ppA (I 27) (I 27).toNat 0 (F 33, F 34, 0)).2.2.toNat).toNat 0 0 (treeT I F).1).2), nx) := by
  refine MD.of (by decide +kernel) (by simp [Value.category]) (tle rfl) (fun X b => ?_)
  change WW X g _ _ 0 0 0 [some (.ref mo), none, none, none, none, none, none] [] _
  refine w_aload_n b dX9_rivals_0 rfl rfl ?_
  refine m_get (v := .int (iI (I 27))) b dX9_rivals_1 lfX9_89 rfl ?_
  refine z_if_ne (tgt := 10) b dX9_rivals_4 (by decide) (by omega) (fun c4 => ?_) (fun c4 => ?_)
  · refine w_aload_n b dX9_rivals_10 rfl rfl ?_
    refine m_get (v := .int (iI (I 27))) b dX9_rivals_11 lfX9_89 rfl ?_
    refine z_bipush b dX9_rivals_14 (by decide) ?_
    refine z_icmp_le (tgt := 22) b dX9_rivals_16 (by decide) (by omega) (fun c16 => ?_) (fun c16 => ?_)
    · refine w_aload_n b dX9_rivals_22 rfl rfl ?_
      refine c_V0v b dX9_rivals_23 lmX9_212 (mp_obj _ _ _ _) (k_X9_makeTree (by omega) h30) (tle rfl) (by omega) (by omega) (by omega) ?_
      refine w_aload_n b dX9_rivals_26 rfl rfl ?_
      refine m_get (v := .int (iI ((treeT I F).2.2.2))) b dX9_rivals_27 lfX9_95 rfl ?_
      refine w_istore_n b dX9_rivals_30 (tlt rfl) rfl ?_
      refine z_iconst b dX9_rivals_31 ?_
      refine w_istore_n b dX9_rivals_32 (tlt rfl) rfl ?_
      refine z_iconst b dX9_rivals_33 ?_
      refine w_istore_n b dX9_rivals_34 (tlt rfl) rfl ?_
      refine ww_cast (σ' := (mp mo h0 (tI I (treeT I F)) (pF (tF F (treeT I F)) (F 33, F 34, 0)), nx)) rfl rfl (congrArg (fun z => (mp mo h0 (tI I (treeT I F)) z, nx)) (pF_self (tF F (treeT I F)) 0).symm) ?_
      refine l_pp2 (I := tI I (treeT I F)) (F := tF F (treeT I F)) b (by show 0 ≤ I 27 ∧ I 27 ≤ 6; omega) (I 27).toNat 0 (F 33, F 34, 0) (by show (0 : Int) + _ = I 27; omega) (by omega) (by show (0 : Int) ≤ 0 ∧ 2 * (0 : Int) ≤ 0 * (11 - 0); omega) ?_
      have hpp := ppA_I (v := I 27) (by omega) (I 27).toNat 0 (F 33, F 34, 0) (by omega) ⟨Int.le_refl _, fun j g1 g2 => absurd g2 (by show ¬ j < 0; omega)⟩ (by show 2 * (0 : Int) ≤ 0 * (11 - 0); omega)
      have hp15 : (ppA (I 27) (I 27).toNat 0 (F 33, F 34, 0)).2.2 ≤ 15 := by
        have h9 := hpp.2
        rcases (show I 27 = 1 ∨ I 27 = 2 ∨ I 27 = 3 ∨ I 27 = 4 ∨ I 27 = 5 ∨ I 27 = 6 by omega) with z | z | z | z | z | z <;> (rw [z] at h9 ⊢; omega)
      have hp0 := hpp.1.1
      have hsm := treeT_sum I F (by omega)
      have hpo : (0 : Int) ≤ 2 ^ (ppA (I 27) (I 27).toNat 0 (F 33, F 34, 0)).2.2.toNat := Int.pow_nonneg (by decide)
      refine z_iconst b dX9_rivals_87 ?_
      refine w_istore_n b dX9_rivals_88 (tlt rfl) rfl ?_
      refine z_iconst b dX9_rivals_89 ?_
      refine w_istore b dX9_rivals_90 (tlt rfl) rfl ?_
      refine ww_cast (σ' := (mp mo h0 (tI I (treeT I F)) (va_up (pF (tF F (treeT I F)) (ppA (I 27) (I 27).toNat 0 (F 33, F 34, 0))) 31 (treeT I F).1), nx)) rfl rfl (congrArg (fun z => (mp mo h0 (tI I (treeT I F)) z, nx)) (va_up_same (pF (tF F (treeT I F)) (ppA (I 27) (I 27).toNat 0 (F 33, F 34, 0))) 31).symm) ?_
      refine l_rv (I := tI I (treeT I F)) (F := pF (tF F (treeT I F)) (ppA (I 27) (I 27).toNat 0 (F 33, F 34, 0))) (ps := (ppA (I 27) (I 27).toNat 0 (F 33, F 34, 0)).2.2) (sum := (treeT I F).2.2.2) b (by show 1 ≤ I 27 ∧ I 27 ≤ 6; omega) h30 ⟨hp0, hp15⟩ (fun j g1 g2 => (hpp.1.2 j g1 g2).1) (fun j g1 g2 => (hpp.1.2 j g1 g2).2) (by omega) (pow15 ⟨hp0, hp15⟩) ((2 : Int) ^ (ppA (I 27) (I 27).toNat 0 (F 33, F 34, 0)).2.2.toNat).toNat 0 0 (treeT I F).1 (by omega) (by omega) (by omega) ?_
      refine w_iload_n b dX9_rivals_166 rfl ?_
      exact w_iret b dX9_rivals_167 rfl (by omega) (by omega) ⟨iv_eq (by first | rfl | omega | ((try simp only [b2]); ((repeat' split) <;> (first | rfl | omega)))), rfl⟩
    · exfalso; omega
  · exfalso; omega
