/-! THE REFERENCE: hands, wool, rows (by p24.py) -/
set_option maxRecDepth 20000 in
theorem k_X9_hand0 {l0 : Launch} {g : Gw} {mo nx : Nat} {h0 : Nat → va_E} {I : Nat → Int} {F : Nat → Int → Int} {h n p : Int} (hh : inR h) (hn : inR n) (hp : inR p) (h21 : 0 ≤ I 21 ∧ I 21 ≤ 40) (hx : ¬ ((0 ≤ h ∧ h ≤ 5) ∧ (1 ≤ n ∧ n ≤ 40) ∧ (1 ≤ p ∧ p ≤ 20)) ∨ 0 < I 21) : MD l0 g 1 mX9_hand (mp mo h0 I F, nx) [.ref mo, .int (iI (h)), .int (iI (n)), .int (iI (p))] 0 0 (some (.int (iI (if (0 ≤ h ∧ h ≤ 5) ∧ (1 ≤ n ∧ n ≤ 40) ∧ (1 ≤ p ∧ p ≤ 20) then -3 else -1)))) (mp mo h0 I F, nx) := by
  refine MD.of (by decide +kernel) (by simp [Value.category]) (tle rfl) (fun X b => ?_)
  change WW X g _ _ 0 0 0 [some (.ref mo), some (.int (iI (h))), some (.int (iI (n))), some (.int (iI (p))), none] [] _
  refine w_aload_n b dX9_hand_0 rfl rfl ?_
  refine w_iload_n b dX9_hand_1 rfl ?_
  refine z_iconst b dX9_hand_2 ?_
  refine z_iconst b dX9_hand_3 ?_
  refine c_V3 b dX9_hand_4 lmX9_137 (mp_obj _ _ _ _) (k_X9_in (by omega) (by omega) (by omega)) (tle rfl) (by omega) (by omega) (by omega) ?_
  refine z_ifb_eq (tgt := 32) b dX9_hand_7 (by decide) (fun c7 => ?_) (fun c7 => ?_)
  · refine z_iconst b dX9_hand_32 ?_
    exact w_iret b dX9_hand_33 rfl (by omega) (by omega) ⟨iv_eq (by first | rfl | omega | ((try simp only [b2]); ((repeat' split) <;> (first | rfl | omega)))), rfl⟩
  · refine w_aload_n b dX9_hand_10 rfl rfl ?_
    refine w_iload_n b dX9_hand_11 rfl ?_
    refine z_iconst b dX9_hand_12 ?_
    refine z_bipush b dX9_hand_13 (by decide) ?_
    refine c_V3 b dX9_hand_15 lmX9_137 (mp_obj _ _ _ _) (k_X9_in (by omega) (by omega) (by omega)) (tle rfl) (by omega) (by omega) (by omega) ?_
    refine z_ifb_eq (tgt := 32) b dX9_hand_18 (by decide) (fun c18 => ?_) (fun c18 => ?_)
    · refine z_iconst b dX9_hand_32 ?_
      exact w_iret b dX9_hand_33 rfl (by omega) (by omega) ⟨iv_eq (by first | rfl | omega | ((try simp only [b2]); ((repeat' split) <;> (first | rfl | omega)))), rfl⟩
    · refine w_aload_n b dX9_hand_21 rfl rfl ?_
      refine w_iload_n b dX9_hand_22 rfl ?_
      refine z_iconst b dX9_hand_23 ?_
      refine z_bipush b dX9_hand_24 (by decide) ?_
      refine c_V3 b dX9_hand_26 lmX9_137 (mp_obj _ _ _ _) (k_X9_in (by omega) (by omega) (by omega)) (tle rfl) (by omega) (by omega) (by omega) ?_
      refine z_ifb_ne (tgt := 34) b dX9_hand_29 (by decide) (fun c29 => ?_) (fun c29 => ?_)
      · refine w_aload_n b dX9_hand_34 rfl rfl ?_
        refine m_get b dX9_hand_35 lfX9_71 rfl ?_
        refine z_if_le (tgt := 44) b dX9_hand_38 (by decide) (by omega) (fun c38 => ?_) (fun c38 => ?_)
        · exfalso; omega
        · refine z_bipush b dX9_hand_41 (by decide) ?_
          exact w_iret b dX9_hand_43 rfl (by omega) (by omega) ⟨iv_eq (by first | rfl | omega | ((try simp only [b2]); ((repeat' split) <;> (first | rfl | omega)))), rfl⟩
      · refine z_iconst b dX9_hand_32 ?_
        exact w_iret b dX9_hand_33 rfl (by omega) (by omega) ⟨iv_eq (by first | rfl | omega | ((try simp only [b2]); ((repeat' split) <;> (first | rfl | omega)))), rfl⟩
set_option maxRecDepth 20000 in
theorem k_X9_hand1 {l0 : Launch} {g : Gw} {mo nx : Nat} {h0 : Nat → va_E} {I : Nat → Int} {F : Nat → Int → Int} {h n p : Int} (hok : (0 ≤ h ∧ h ≤ 5) ∧ (1 ≤ n ∧ n ≤ 40) ∧ (1 ≤ p ∧ p ≤ 20)) (h16 : ∀ j, 0 ≤ j → j ≤ 5 → 1 ≤ F 16 j ∧ F 16 j ≤ 40) (h17 : ∀ j, 0 ≤ j → j ≤ 5 → 1 ≤ F 17 j ∧ F 17 j ≤ 20) (h21 : I 21 = 0) : MD l0 g 1 mX9_hand (mp mo h0 I F, nx) [.ref mo, .int (iI (h)), .int (iI (n)), .int (iI (p))] 0 0 (some (.int (iI (b2 (¬ (F 16 h = n ∧ F 17 h = p)))))) (mp mo h0 I (va_up (va_up F 16 (fu (F 16) h n)) 17 (fu (F 17) h p)), nx) := by
  refine MD.of (by decide +kernel) (by simp [Value.category]) (tle rfl) (fun X b => ?_)
  change WW X g _ _ 0 0 0 [some (.ref mo), some (.int (iI (h))), some (.int (iI (n))), some (.int (iI (p))), none] [] _
  refine w_aload_n b dX9_hand_0 rfl rfl ?_
  refine w_iload_n b dX9_hand_1 rfl ?_
  refine z_iconst b dX9_hand_2 ?_
  refine z_iconst b dX9_hand_3 ?_
  refine c_V3 b dX9_hand_4 lmX9_137 (mp_obj _ _ _ _) (k_X9_in (by omega) (by omega) (by omega)) (tle rfl) (by omega) (by omega) (by omega) ?_
  refine z_ifb_eq (tgt := 32) b dX9_hand_7 (by decide) (fun c7 => ?_) (fun c7 => ?_)
  · exfalso; omega
  · refine w_aload_n b dX9_hand_10 rfl rfl ?_
    refine w_iload_n b dX9_hand_11 rfl ?_
    refine z_iconst b dX9_hand_12 ?_
    refine z_bipush b dX9_hand_13 (by decide) ?_
    refine c_V3 b dX9_hand_15 lmX9_137 (mp_obj _ _ _ _) (k_X9_in (by omega) (by omega) (by omega)) (tle rfl) (by omega) (by omega) (by omega) ?_
    refine z_ifb_eq (tgt := 32) b dX9_hand_18 (by decide) (fun c18 => ?_) (fun c18 => ?_)
    · exfalso; omega
    · refine w_aload_n b dX9_hand_21 rfl rfl ?_
      refine w_iload_n b dX9_hand_22 rfl ?_
      refine z_iconst b dX9_hand_23 ?_
      refine z_bipush b dX9_hand_24 (by decide) ?_
      refine c_V3 b dX9_hand_26 lmX9_137 (mp_obj _ _ _ _) (k_X9_in (by omega) (by omega) (by omega)) (tle rfl) (by omega) (by omega) (by omega) ?_
      refine z_ifb_ne (tgt := 34) b dX9_hand_29 (by decide) (fun c29 => ?_) (fun c29 => ?_)
      · refine w_aload_n b dX9_hand_34 rfl rfl ?_
        refine m_get b dX9_hand_35 lfX9_71 rfl ?_
        refine z_if_le (tgt := 44) b dX9_hand_38 (by decide) (by omega) (fun c38 => ?_) (fun c38 => ?_)
        · refine w_aload_n b dX9_hand_44 rfl rfl ?_
          refine m_get b dX9_hand_45 lfX9_56 rfl ?_
          refine w_iload_n b dX9_hand_48 rfl ?_
          refine m_ald b dX9_hand_49 rfl (by omega) rfl ?_
          refine w_iload_n b dX9_hand_50 rfl ?_
          refine z_icmp_ne (tgt := 68) b dX9_hand_51 (by decide) (by have := h16 h (by omega) (by omega); have := h17 h (by omega) (by omega); omega) (fun c51 => ?_) (fun c51 => ?_)
          · refine z_iconst b dX9_hand_68 ?_
            refine w_istore b dX9_hand_69 (tlt rfl) rfl ?_
            refine w_aload_n b dX9_hand_71 rfl rfl ?_
            refine m_get b dX9_hand_72 lfX9_56 rfl ?_
            refine w_iload_n b dX9_hand_75 rfl ?_
            refine w_iload_n b dX9_hand_76 rfl ?_
            refine m_ast b dX9_hand_77 rfl (by omega) ?_
            refine w_aload_n b dX9_hand_78 rfl rfl ?_
            refine m_get b dX9_hand_79 lfX9_59 rfl ?_
            refine w_iload_n b dX9_hand_82 rfl ?_
            refine w_iload_n b dX9_hand_83 rfl ?_
            refine m_ast b dX9_hand_84 rfl (by omega) ?_
            refine w_iload b dX9_hand_85 rfl ?_
            exact w_iret b dX9_hand_87 rfl (by omega) (by omega) ⟨iv_eq (by first | rfl | omega | ((try simp only [b2]); ((repeat' split) <;> (first | rfl | omega)))), rfl⟩
          · refine w_aload_n b dX9_hand_54 rfl rfl ?_
            refine m_get b dX9_hand_55 lfX9_59 rfl ?_
            refine w_iload_n b dX9_hand_58 rfl ?_
            refine m_ald b dX9_hand_59 rfl (by omega) rfl ?_
            refine w_iload_n b dX9_hand_60 rfl ?_
            refine z_icmp_ne (tgt := 68) b dX9_hand_61 (by decide) (by have := h16 h (by omega) (by omega); have := h17 h (by omega) (by omega); omega) (fun c61 => ?_) (fun c61 => ?_)
            · refine z_iconst b dX9_hand_68 ?_
              refine w_istore b dX9_hand_69 (tlt rfl) rfl ?_
              refine w_aload_n b dX9_hand_71 rfl rfl ?_
              refine m_get b dX9_hand_72 lfX9_56 rfl ?_
              refine w_iload_n b dX9_hand_75 rfl ?_
              refine w_iload_n b dX9_hand_76 rfl ?_
              refine m_ast b dX9_hand_77 rfl (by omega) ?_
              refine w_aload_n b dX9_hand_78 rfl rfl ?_
              refine m_get b dX9_hand_79 lfX9_59 rfl ?_
              refine w_iload_n b dX9_hand_82 rfl ?_
              refine w_iload_n b dX9_hand_83 rfl ?_
              refine m_ast b dX9_hand_84 rfl (by omega) ?_
              refine w_iload b dX9_hand_85 rfl ?_
              exact w_iret b dX9_hand_87 rfl (by omega) (by omega) ⟨iv_eq (by first | rfl | omega | ((try simp only [b2]); ((repeat' split) <;> (first | rfl | omega)))), rfl⟩
            · refine z_iconst b dX9_hand_64 ?_
              refine w_goto (tgt := 69) b dX9_hand_65 (by decide) ?_
              refine w_istore b dX9_hand_69 (tlt rfl) rfl ?_
              refine w_aload_n b dX9_hand_71 rfl rfl ?_
              refine m_get b dX9_hand_72 lfX9_56 rfl ?_
              refine w_iload_n b dX9_hand_75 rfl ?_
              refine w_iload_n b dX9_hand_76 rfl ?_
              refine m_ast b dX9_hand_77 rfl (by omega) ?_
              refine w_aload_n b dX9_hand_78 rfl rfl ?_
              refine m_get b dX9_hand_79 lfX9_59 rfl ?_
              refine w_iload_n b dX9_hand_82 rfl ?_
              refine w_iload_n b dX9_hand_83 rfl ?_
              refine m_ast b dX9_hand_84 rfl (by omega) ?_
              refine w_iload b dX9_hand_85 rfl ?_
              exact w_iret b dX9_hand_87 rfl (by omega) (by omega) ⟨iv_eq (by first | rfl | omega | ((try simp only [b2]); ((repeat' split) <;> (first | rfl | omega)))), rfl⟩
        · exfalso; omega
      · exfalso; omega
set_option maxRecDepth 20000 in
theorem k_X9_dye0 {l0 : Launch} {g : Gw} {mo nx : Nat} {h0 : Nat → va_E} {I : Nat → Int} {F : Nat → Int → Int} {c s n : Int} (hc : inR c) (hs : inR s) (hn : inR n) (h18 : ∀ j, 0 ≤ j → j ≤ 7 → 0 ≤ F 18 j ∧ F 18 j ≤ 10) (hx : ¬ ((0 ≤ c ∧ c ≤ 7) ∧ (0 ≤ s ∧ s ≤ 9) ∧ (1 ≤ n ∧ n ≤ 1000)) ∨ F 18 c = 10) : MD l0 g 2 mX9_dye (mp mo h0 I F, nx) [.ref mo, .int (iI (c)), .int (iI (s)), .int (iI (n))] 0 0 (some (.int (iI (if (0 ≤ c ∧ c ≤ 7) ∧ (0 ≤ s ∧ s ≤ 9) ∧ (1 ≤ n ∧ n ≤ 1000) then -2 else -1)))) (mp mo h0 I F, nx) := by
  refine MD.of (by decide +kernel) (by simp [Value.category]) (tle rfl) (fun X b => ?_)
  change WW X g _ _ 0 0 0 [some (.ref mo), some (.int (iI (c))), some (.int (iI (s))), some (.int (iI (n)))] [] _
  refine w_aload_n b dX9_dye_0 rfl rfl ?_
  refine w_iload_n b dX9_dye_1 rfl ?_
  refine c_V1 b dX9_dye_2 lmX9_145 (mp_obj _ _ _ _) (k_X9_isColour (by omega)) (tle rfl) (by omega) (by omega) (by omega) ?_
  refine z_ifb_eq (tgt := 31) b dX9_dye_5 (by decide) (fun c5 => ?_) (fun c5 => ?_)
  · refine z_iconst b dX9_dye_31 ?_
    exact w_iret b dX9_dye_32 rfl (by omega) (by omega) ⟨iv_eq (by first | rfl | omega | ((try simp only [b2]); ((repeat' split) <;> (first | rfl | omega)))), rfl⟩
  · refine w_aload_n b dX9_dye_8 rfl rfl ?_
    refine w_iload_n b dX9_dye_9 rfl ?_
    refine z_iconst b dX9_dye_10 ?_
    refine z_bipush b dX9_dye_11 (by decide) ?_
    refine c_V3 b dX9_dye_13 lmX9_137 (mp_obj _ _ _ _) (k_X9_in (by omega) (by omega) (by omega)) (tle rfl) (by omega) (by omega) (by omega) ?_
    refine z_ifb_eq (tgt := 31) b dX9_dye_16 (by decide) (fun c16 => ?_) (fun c16 => ?_)
    · refine z_iconst b dX9_dye_31 ?_
      exact w_iret b dX9_dye_32 rfl (by omega) (by omega) ⟨iv_eq (by first | rfl | omega | ((try simp only [b2]); ((repeat' split) <;> (first | rfl | omega)))), rfl⟩
    · refine w_aload_n b dX9_dye_19 rfl rfl ?_
      refine w_iload_n b dX9_dye_20 rfl ?_
      refine z_iconst b dX9_dye_21 ?_
      refine z_sipush b dX9_dye_22 (by decide) ?_
      refine c_V3 b dX9_dye_25 lmX9_137 (mp_obj _ _ _ _) (k_X9_in (by omega) (by omega) (by omega)) (tle rfl) (by omega) (by omega) (by omega) ?_
      refine z_ifb_ne (tgt := 33) b dX9_dye_28 (by decide) (fun c28 => ?_) (fun c28 => ?_)
      · refine w_aload_n b dX9_dye_33 rfl rfl ?_
        refine m_get b dX9_dye_34 lfX9_62 rfl ?_
        refine w_iload_n b dX9_dye_37 rfl ?_
        refine m_ald b dX9_dye_38 rfl (by omega) rfl ?_
        refine z_bipush b dX9_dye_39 (by decide) ?_
        refine z_icmp_ne (tgt := 47) b dX9_dye_41 (by decide) (by have := h18 c (by omega) (by omega); omega) (fun c41 => ?_) (fun c41 => ?_)
        · exfalso; exact hx.elim (fun z => z ⟨by omega, by omega, by omega⟩) (fun z => c41 z)
        · refine z_bipush b dX9_dye_44 (by decide) ?_
          exact w_iret b dX9_dye_46 rfl (by omega) (by omega) ⟨iv_eq (by first | rfl | omega | ((try simp only [b2]); ((repeat' split) <;> (first | rfl | omega)))), rfl⟩
      · refine z_iconst b dX9_dye_31 ?_
        exact w_iret b dX9_dye_32 rfl (by omega) (by omega) ⟨iv_eq (by first | rfl | omega | ((try simp only [b2]); ((repeat' split) <;> (first | rfl | omega)))), rfl⟩
set_option maxRecDepth 20000 in
theorem k_X9_dye1 {l0 : Launch} {g : Gw} {mo nx : Nat} {h0 : Nat → va_E} {I : Nat → Int} {F : Nat → Int → Int} {c s n : Int} (hok : (0 ≤ c ∧ c ≤ 7) ∧ (0 ≤ s ∧ s ≤ 9) ∧ (1 ≤ n ∧ n ≤ 1000)) (h18 : 0 ≤ F 18 c ∧ F 18 c < 10) : MD l0 g 2 mX9_dye (mp mo h0 I F, nx) [.ref mo, .int (iI (c)), .int (iI (s)), .int (iI (n))] 0 0 (some (.int (iI (F 18 c + 1)))) (mp mo h0 I (va_up (va_up (va_up F 19 (fu (F 19) (10 * c + F 18 c) s)) 20 (fu (F 20) (10 * c + F 18 c) n)) 18 (fu (F 18) c (F 18 c + 1))), nx) := by
  refine MD.of (by decide +kernel) (by simp [Value.category]) (tle rfl) (fun X b => ?_)
  change WW X g _ _ 0 0 0 [some (.ref mo), some (.int (iI (c))), some (.int (iI (s))), some (.int (iI (n)))] [] _
  refine w_aload_n b dX9_dye_0 rfl rfl ?_
  refine w_iload_n b dX9_dye_1 rfl ?_
  refine c_V1 b dX9_dye_2 lmX9_145 (mp_obj _ _ _ _) (k_X9_isColour (by omega)) (tle rfl) (by omega) (by omega) (by omega) ?_
  refine z_ifb_eq (tgt := 31) b dX9_dye_5 (by decide) (fun c5 => ?_) (fun c5 => ?_)
  · exfalso; omega
  · refine w_aload_n b dX9_dye_8 rfl rfl ?_
    refine w_iload_n b dX9_dye_9 rfl ?_
    refine z_iconst b dX9_dye_10 ?_
    refine z_bipush b dX9_dye_11 (by decide) ?_
    refine c_V3 b dX9_dye_13 lmX9_137 (mp_obj _ _ _ _) (k_X9_in (by omega) (by omega) (by omega)) (tle rfl) (by omega) (by omega) (by omega) ?_
    refine z_ifb_eq (tgt := 31) b dX9_dye_16 (by decide) (fun c16 => ?_) (fun c16 => ?_)
    · exfalso; omega
    · refine w_aload_n b dX9_dye_19 rfl rfl ?_
      refine w_iload_n b dX9_dye_20 rfl ?_
      refine z_iconst b dX9_dye_21 ?_
      refine z_sipush b dX9_dye_22 (by decide) ?_
      refine c_V3 b dX9_dye_25 lmX9_137 (mp_obj _ _ _ _) (k_X9_in (by omega) (by omega) (by omega)) (tle rfl) (by omega) (by omega) (by omega) ?_
      refine z_ifb_ne (tgt := 33) b dX9_dye_28 (by decide) (fun c28 => ?_) (fun c28 => ?_)
      · refine w_aload_n b dX9_dye_33 rfl rfl ?_
        refine m_get b dX9_dye_34 lfX9_62 rfl ?_
        refine w_iload_n b dX9_dye_37 rfl ?_
        refine m_ald (v := F 18 c) b dX9_dye_38 rfl (by omega) rfl ?_
        refine z_bipush b dX9_dye_39 (by decide) ?_
        refine z_icmp_ne (tgt := 47) b dX9_dye_41 (by decide) (by omega) (fun c41 => ?_) (fun c41 => ?_)
        · refine w_aload_n b dX9_dye_47 rfl rfl ?_
          refine m_get b dX9_dye_48 lfX9_65 rfl ?_
          refine z_bipush b dX9_dye_51 (by decide) ?_
          refine w_iload_n b dX9_dye_53 rfl ?_
          refine z_imul b dX9_dye_54 ?_
          refine w_aload_n b dX9_dye_55 rfl rfl ?_
          refine m_get b dX9_dye_56 lfX9_62 rfl ?_
          refine w_iload_n b dX9_dye_59 rfl ?_
          refine m_ald (v := F 18 c) b dX9_dye_60 rfl (by omega) rfl ?_
          refine z_iadd b dX9_dye_61 ?_
          refine w_iload_n b dX9_dye_62 rfl ?_
          refine m_ast b dX9_dye_63 rfl (by omega) ?_
          refine w_aload_n b dX9_dye_64 rfl rfl ?_
          refine m_get b dX9_dye_65 lfX9_68 rfl ?_
          refine z_bipush b dX9_dye_68 (by decide) ?_
          refine w_iload_n b dX9_dye_70 rfl ?_
          refine z_imul b dX9_dye_71 ?_
          refine w_aload_n b dX9_dye_72 rfl rfl ?_
          refine m_get b dX9_dye_73 lfX9_62 rfl ?_
          refine w_iload_n b dX9_dye_76 rfl ?_
          refine m_ald (v := F 18 c) b dX9_dye_77 rfl (by omega) rfl ?_
          refine z_iadd b dX9_dye_78 ?_
          refine w_iload_n b dX9_dye_79 rfl ?_
          refine m_ast b dX9_dye_80 rfl (by omega) ?_
          refine w_aload_n b dX9_dye_81 rfl rfl ?_
          refine m_get b dX9_dye_82 lfX9_62 rfl ?_
          refine w_iload_n b dX9_dye_85 rfl ?_
          refine w_dup2 b dX9_dye_86 rfl rfl ?_
          refine m_ald (v := F 18 c) b dX9_dye_87 rfl (by omega) rfl ?_
          refine z_iconst b dX9_dye_88 ?_
          refine z_iadd b dX9_dye_89 ?_
          refine m_ast b dX9_dye_90 rfl (by omega) ?_
          refine w_aload_n b dX9_dye_91 rfl rfl ?_
          refine m_get b dX9_dye_92 lfX9_62 rfl ?_
          refine w_iload_n b dX9_dye_95 rfl ?_
          refine m_ald b dX9_dye_96 rfl (by omega) rfl ?_
          exact w_iret b dX9_dye_97 rfl (by omega) (by omega) ⟨iv_eq (by simp only [va_up_self, fu_s]), rfl⟩
        · exfalso; omega
      · exfalso; omega
set_option maxRecDepth 20000 in
theorem k_X9_knot {l0 : Launch} {g : Gw} {mo nx : Nat} {h0 : Nat → va_E} {I : Nat → Int} {F : Nat → Int → Int} {r i : Int} (hr : inR r) (hi : inR i) (h21 : 0 ≤ I 21 ∧ I 21 ≤ 40) (h1_ : 4 ≤ I 1 ∧ I 1 ≤ 40) : MD l0 g 2 mX9_knot (mp mo h0 I F, nx) [.ref mo, .int (iI (r)), .int (iI (i))] 0 0 (some (.int (iI (if (0 ≤ r ∧ r ≤ I 21 - 1) ∧ (0 ≤ i ∧ i ≤ I 1 - 1) then F 23 (40 * r + i) else -1)))) (mp mo h0 I F, nx) := by
  refine MD.of (by decide +kernel) (by simp [Value.category]) (tle rfl) (fun X b => ?_)
  change WW X g _ _ 0 0 0 [some (.ref mo), some (.int (iI (r))), some (.int (iI (i)))] [] _
  refine w_aload_n b dX9_knot_0 rfl rfl ?_
  refine w_iload_n b dX9_knot_1 rfl ?_
  refine w_iload_n b dX9_knot_2 rfl ?_
  refine c_V2 b dX9_knot_3 lmX9_191 (mp_obj _ _ _ _) (k_X9_isKnot (by omega) (by omega) h21 h1_) (tle rfl) (by omega) (by omega) (by omega) ?_
  refine z_ifb_eq (tgt := 23) b dX9_knot_6 (by decide) (fun c6 => ?_) (fun c6 => ?_)
  · refine z_iconst b dX9_knot_23 ?_
    exact w_iret b dX9_knot_24 rfl (by omega) (by omega) ⟨iv_eq (by first | rfl | omega | ((try simp only [b2]); ((repeat' split) <;> (first | rfl | omega)))), rfl⟩
  · refine w_aload_n b dX9_knot_9 rfl rfl ?_
    refine m_get b dX9_knot_10 lfX9_77 rfl ?_
    refine z_bipush b dX9_knot_13 (by decide) ?_
    refine w_iload_n b dX9_knot_15 rfl ?_
    refine z_imul b dX9_knot_16 ?_
    refine w_iload_n b dX9_knot_17 rfl ?_
    refine z_iadd b dX9_knot_18 ?_
    refine m_ald b dX9_knot_19 rfl (by omega) rfl ?_
    refine w_goto (tgt := 24) b dX9_knot_20 (by decide) ?_
    exact w_iret b dX9_knot_24 rfl (by omega) (by omega) ⟨iv_eq (by first | rfl | omega | ((try simp only [b2]); ((repeat' split) <;> (first | rfl | omega)))), rfl⟩
set_option maxRecDepth 20000 in
theorem k_X9_look {l0 : Launch} {g : Gw} {mo nx : Nat} {h0 : Nat → va_E} {I : Nat → Int} {F : Nat → Int → Int} {r i k : Int} (hr : inR r) (hi : inR i) (hk : inR k) (h21 : 0 ≤ I 21 ∧ I 21 ≤ 40) (h1_ : 4 ≤ I 1 ∧ I 1 ≤ 40) (h16 : ∀ j, 0 ≤ j → j ≤ 5 → 1 ≤ F 16 j ∧ F 16 j ≤ 40) (h22 : ∀ j, 0 ≤ j → j < 1600 → 0 ≤ F 22 j ∧ F 22 j ≤ 7) (h23 : ∀ j, 0 ≤ j → j < 1600 → 0 ≤ F 23 j ∧ F 23 j ≤ 7) : MD l0 g 2 mX9_look (mp mo h0 I F, nx) [.ref mo, .int (iI (r)), .int (iI (i)), .int (iI (k))] 0 0 (some (.int (iI (if ((0 ≤ r ∧ r ≤ I 21 - 1) ∧ (0 ≤ i ∧ i ≤ I 1 - 1)) ∧ (0 ≤ k ∧ k ≤ 4) then (if k = 0 then handF (F 16) i else if k = 1 then F 24 (40 * r + i) else if k = 2 then F 22 (40 * r + i) else if k = 3 then F 25 (40 * r + i) else b2 (¬ F 23 (40 * r + i) = F 22 (40 * r + i))) else -1)))) (mp mo h0 I F, nx) := by
  refine MD.of (by decide +kernel) (by simp [Value.category]) (tle rfl) (fun X b => ?_)
  change WW X g _ _ 0 0 0 [some (.ref mo), some (.int (iI (r))), some (.int (iI (i))), some (.int (iI (k))), none] [] _
  refine w_aload_n b dX9_look_0 rfl rfl ?_
  refine w_iload_n b dX9_look_1 rfl ?_
  refine w_iload_n b dX9_look_2 rfl ?_
  refine c_V2 b dX9_look_3 lmX9_191 (mp_obj _ _ _ _) (k_X9_isKnot (by omega) (by omega) h21 h1_) (tle rfl) (by omega) (by omega) (by omega) ?_
  refine z_ifb_eq (tgt := 19) b dX9_look_6 (by decide) (fun c6 => ?_) (fun c6 => ?_)
  · refine z_iconst b dX9_look_19 ?_
    exact w_iret b dX9_look_20 rfl (by omega) (by omega) ⟨iv_eq (by first | rfl | omega | ((try simp only [b2]); ((repeat' split) <;> (first | rfl | omega)))), rfl⟩
  · refine w_aload_n b dX9_look_9 rfl rfl ?_
    refine w_iload_n b dX9_look_10 rfl ?_
    refine z_iconst b dX9_look_11 ?_
    refine z_iconst b dX9_look_12 ?_
    refine c_V3 b dX9_look_13 lmX9_137 (mp_obj _ _ _ _) (k_X9_in (by omega) (by omega) (by omega)) (tle rfl) (by omega) (by omega) (by omega) ?_
    refine z_ifb_ne (tgt := 21) b dX9_look_16 (by decide) (fun c16 => ?_) (fun c16 => ?_)
    · refine z_bipush b dX9_look_21 (by decide) ?_
      refine w_iload_n b dX9_look_23 rfl ?_
      refine z_imul b dX9_look_24 ?_
      refine w_iload_n b dX9_look_25 rfl ?_
      refine z_iadd b dX9_look_26 ?_
      refine w_istore b dX9_look_27 (tlt rfl) rfl ?_
      refine w_iload_n b dX9_look_29 rfl ?_
      refine z_if_ne (tgt := 41) b dX9_look_30 (by decide) (by omega) (fun c30 => ?_) (fun c30 => ?_)
      · refine w_iload_n b dX9_look_41 rfl ?_
        refine z_iconst b dX9_look_42 ?_
        refine z_icmp_ne (tgt := 56) b dX9_look_43 (by decide) (by omega) (fun c43 => ?_) (fun c43 => ?_)
        · refine w_iload_n b dX9_look_56 rfl ?_
          refine z_iconst b dX9_look_57 ?_
          refine z_icmp_ne (tgt := 71) b dX9_look_58 (by decide) (by omega) (fun c58 => ?_) (fun c58 => ?_)
          · refine w_iload_n b dX9_look_71 rfl ?_
            refine z_iconst b dX9_look_72 ?_
            refine z_icmp_ne (tgt := 86) b dX9_look_73 (by decide) (by omega) (fun c73 => ?_) (fun c73 => ?_)
            · refine w_aload_n b dX9_look_86 rfl rfl ?_
              refine m_get b dX9_look_87 lfX9_77 rfl ?_
              refine w_iload b dX9_look_90 rfl ?_
              refine m_ald b dX9_look_92 rfl (by omega) rfl ?_
              refine w_aload_n b dX9_look_93 rfl rfl ?_
              refine m_get b dX9_look_94 lfX9_74 rfl ?_
              refine w_iload b dX9_look_97 rfl ?_
              refine m_ald b dX9_look_99 rfl (by omega) rfl ?_
              refine z_icmp_eq (tgt := 107) b dX9_look_100 (by decide) (by have := h22 (40 * r + i) (by omega) (by omega); have := h23 (40 * r + i) (by omega) (by omega); omega) (fun c100 => ?_) (fun c100 => ?_)
              · refine z_iconst b dX9_look_107 ?_
                exact w_iret b dX9_look_108 rfl (by omega) (by omega) ⟨iv_eq (by first | rfl | omega | ((try simp only [b2]); ((repeat' split) <;> (first | rfl | omega)))), rfl⟩
              · refine z_iconst b dX9_look_103 ?_
                refine w_goto (tgt := 108) b dX9_look_104 (by decide) ?_
                exact w_iret b dX9_look_108 rfl (by omega) (by omega) ⟨iv_eq (by first | rfl | omega | ((try simp only [b2]); ((repeat' split) <;> (first | rfl | omega)))), rfl⟩
            · refine w_aload_n b dX9_look_76 rfl rfl ?_
              refine m_get b dX9_look_77 lfX9_83 rfl ?_
              refine w_iload b dX9_look_80 rfl ?_
              refine m_ald b dX9_look_82 rfl (by omega) rfl ?_
              refine w_goto (tgt := 108) b dX9_look_83 (by decide) ?_
              exact w_iret b dX9_look_108 rfl (by omega) (by omega) ⟨iv_eq (by first | rfl | omega | ((try simp only [b2]); ((repeat' split) <;> (first | rfl | omega)))), rfl⟩
          · refine w_aload_n b dX9_look_61 rfl rfl ?_
            refine m_get b dX9_look_62 lfX9_74 rfl ?_
            refine w_iload b dX9_look_65 rfl ?_
            refine m_ald b dX9_look_67 rfl (by omega) rfl ?_
            refine w_goto (tgt := 108) b dX9_look_68 (by decide) ?_
            exact w_iret b dX9_look_108 rfl (by omega) (by omega) ⟨iv_eq (by first | rfl | omega | ((try simp only [b2]); ((repeat' split) <;> (first | rfl | omega)))), rfl⟩
        · refine w_aload_n b dX9_look_46 rfl rfl ?_
          refine m_get b dX9_look_47 lfX9_80 rfl ?_
          refine w_iload b dX9_look_50 rfl ?_
          refine m_ald b dX9_look_52 rfl (by omega) rfl ?_
          refine w_goto (tgt := 108) b dX9_look_53 (by decide) ?_
          exact w_iret b dX9_look_108 rfl (by omega) (by omega) ⟨iv_eq (by first | rfl | omega | ((try simp only [b2]); ((repeat' split) <;> (first | rfl | omega)))), rfl⟩
      · refine w_aload_n b dX9_look_33 rfl rfl ?_
        refine w_iload_n b dX9_look_34 rfl ?_
        refine c_V1 b dX9_look_35 lmX9_178 (mp_obj _ _ _ _) (k_X9_handAt (by omega) h16) (tle rfl) (by omega) (by omega) (by omega) ?_
        refine w_goto (tgt := 108) b dX9_look_38 (by decide) ?_
        exact w_iret b dX9_look_108 rfl (by omega) (by omega) ⟨iv_eq (by first | rfl | omega | ((try simp only [b2]); ((repeat' split) <;> (first | rfl | omega)))), rfl⟩
    · refine z_iconst b dX9_look_19 ?_
      exact w_iret b dX9_look_20 rfl (by omega) (by omega) ⟨iv_eq (by first | rfl | omega | ((try simp only [b2]); ((repeat' split) <;> (first | rfl | omega)))), rfl⟩
set_option maxRecDepth 20000 in
theorem k_X9_found0 {l0 : Launch} {g : Gw} {mo nx : Nat} {h0 : Nat → va_E} {I : Nat → Int} {F : Nat → Int → Int} {r i c : Int} (hr : inR r) (hi : inR i) (hc : inR c) (h21 : 0 ≤ I 21 ∧ I 21 ≤ 40) (h1_ : 4 ≤ I 1 ∧ I 1 ≤ 40) (hx : ¬ (((0 ≤ r ∧ r ≤ I 21 - 1) ∧ (0 ≤ i ∧ i ≤ I 1 - 1)) ∧ (0 ≤ c ∧ c ≤ 7))) : MD l0 g 2 mX9_found (mp mo h0 I F, nx) [.ref mo, .int (iI (r)), .int (iI (i)), .int (iI (c))] 0 0 (some (.int (iI (-1)))) (mp mo h0 I F, nx) := by
  refine MD.of (by decide +kernel) (by simp [Value.category]) (tle rfl) (fun X b => ?_)
  change WW X g _ _ 0 0 0 [some (.ref mo), some (.int (iI (r))), some (.int (iI (i))), some (.int (iI (c)))] [] _
  refine w_aload_n b dX9_found_0 rfl rfl ?_
  refine w_iload_n b dX9_found_1 rfl ?_
  refine w_iload_n b dX9_found_2 rfl ?_
  refine c_V2 b dX9_found_3 lmX9_191 (mp_obj _ _ _ _) (k_X9_isKnot (by omega) (by omega) h21 h1_) (tle rfl) (by omega) (by omega) (by omega) ?_
  refine z_ifb_eq (tgt := 17) b dX9_found_6 (by decide) (fun c6 => ?_) (fun c6 => ?_)
  · refine z_iconst b dX9_found_17 ?_
    exact w_iret b dX9_found_18 rfl (by omega) (by omega) ⟨iv_eq (by first | rfl | omega | ((try simp only [b2]); ((repeat' split) <;> (first | rfl | omega)))), rfl⟩
  · refine w_aload_n b dX9_found_9 rfl rfl ?_
    refine w_iload_n b dX9_found_10 rfl ?_
    refine c_V1 b dX9_found_11 lmX9_145 (mp_obj _ _ _ _) (k_X9_isColour (by omega)) (tle rfl) (by omega) (by omega) (by omega) ?_
    refine z_ifb_ne (tgt := 19) b dX9_found_14 (by decide) (fun c14 => ?_) (fun c14 => ?_)
    · exfalso; omega
    · refine z_iconst b dX9_found_17 ?_
      exact w_iret b dX9_found_18 rfl (by omega) (by omega) ⟨iv_eq (by first | rfl | omega | ((try simp only [b2]); ((repeat' split) <;> (first | rfl | omega)))), rfl⟩
set_option maxRecDepth 20000 in
theorem k_X9_found1 {l0 : Launch} {g : Gw} {mo nx : Nat} {h0 : Nat → va_E} {I : Nat → Int} {F : Nat → Int → Int} {r i c : Int} (hok : ((0 ≤ r ∧ r ≤ I 21 - 1) ∧ (0 ≤ i ∧ i ≤ I 1 - 1)) ∧ (0 ≤ c ∧ c ≤ 7)) (h21 : 0 ≤ I 21 ∧ I 21 ≤ 40) (h1_ : 4 ≤ I 1 ∧ I 1 ≤ 40) (h22 : ∀ j, 0 ≤ j → j < 1600 → 0 ≤ F 22 j ∧ F 22 j ≤ 7) (h23 : ∀ j, 0 ≤ j → j < 1600 → 0 ≤ F 23 j ∧ F 23 j ≤ 7) : MD l0 g 2 mX9_found (mp mo h0 I F, nx) [.ref mo, .int (iI (r)), .int (iI (i)), .int (iI (c))] 0 0 (some (.int (iI (b2 (¬ c = F 22 (40 * r + i)))))) (mp mo h0 I (va_up F 23 (fu (F 23) (40 * r + i) c)), nx) := by
  refine MD.of (by decide +kernel) (by simp [Value.category]) (tle rfl) (fun X b => ?_)
  change WW X g _ _ 0 0 0 [some (.ref mo), some (.int (iI (r))), some (.int (iI (i))), some (.int (iI (c)))] [] _
  refine w_aload_n b dX9_found_0 rfl rfl ?_
  refine w_iload_n b dX9_found_1 rfl ?_
  refine w_iload_n b dX9_found_2 rfl ?_
  refine c_V2 b dX9_found_3 lmX9_191 (mp_obj _ _ _ _) (k_X9_isKnot (by omega) (by omega) h21 h1_) (tle rfl) (by omega) (by omega) (by omega) ?_
  refine z_ifb_eq (tgt := 17) b dX9_found_6 (by decide) (fun c6 => ?_) (fun c6 => ?_)
  · exfalso; omega
  · refine w_aload_n b dX9_found_9 rfl rfl ?_
    refine w_iload_n b dX9_found_10 rfl ?_
    refine c_V1 b dX9_found_11 lmX9_145 (mp_obj _ _ _ _) (k_X9_isColour (by omega)) (tle rfl) (by omega) (by omega) (by omega) ?_
    refine z_ifb_ne (tgt := 19) b dX9_found_14 (by decide) (fun c14 => ?_) (fun c14 => ?_)
    · refine w_aload_n b dX9_found_19 rfl rfl ?_
      refine m_get b dX9_found_20 lfX9_77 rfl ?_
      refine z_bipush b dX9_found_23 (by decide) ?_
      refine w_iload_n b dX9_found_25 rfl ?_
      refine z_imul b dX9_found_26 ?_
      refine w_iload_n b dX9_found_27 rfl ?_
      refine z_iadd b dX9_found_28 ?_
      refine w_iload_n b dX9_found_29 rfl ?_
      refine m_ast b dX9_found_30 rfl (by omega) ?_
      refine w_iload_n b dX9_found_31 rfl ?_
      refine w_aload_n b dX9_found_32 rfl rfl ?_
      refine m_get b dX9_found_33 lfX9_74 rfl ?_
      refine z_bipush b dX9_found_36 (by decide) ?_
      refine w_iload_n b dX9_found_38 rfl ?_
      refine z_imul b dX9_found_39 ?_
      refine w_iload_n b dX9_found_40 rfl ?_
      refine z_iadd b dX9_found_41 ?_
      refine m_ald (v := F 22 (40 * r + i)) b dX9_found_42 rfl (by omega) rfl ?_
      refine z_icmp_eq (tgt := 50) b dX9_found_43 (by decide) (by have := h22 (40 * r + i) (by omega) (by omega); have := h23 (40 * r + i) (by omega) (by omega); omega) (fun c43 => ?_) (fun c43 => ?_)
      · refine z_iconst b dX9_found_50 ?_
        exact w_iret b dX9_found_51 rfl (by omega) (by omega) ⟨iv_eq (by first | rfl | omega | ((try simp only [b2]); ((repeat' split) <;> (first | rfl | omega)))), rfl⟩
      · refine z_iconst b dX9_found_46 ?_
        refine w_goto (tgt := 51) b dX9_found_47 (by decide) ?_
        exact w_iret b dX9_found_51 rfl (by omega) (by omega) ⟨iv_eq (by first | rfl | omega | ((try simp only [b2]); ((repeat' split) <;> (first | rfl | omega)))), rfl⟩
    · exfalso; omega
set_option maxRecDepth 20000 in
theorem k_X9_cut0 {l0 : Launch} {g : Gw} {mo nx : Nat} {h0 : Nat → va_E} {I : Nat → Int} {F : Nat → Int → Int}  (h : I 21 = 0) : MD l0 g 0 mX9_cut (mp mo h0 I F, nx) [.ref mo] 0 0 (some (.int (iI (-3)))) (mp mo h0 I F, nx) := by
  refine MD.of (by decide +kernel) (by simp [Value.category]) (tle rfl) (fun X b => ?_)
  change WW X g _ _ 0 0 0 [some (.ref mo)] [] _
  refine w_aload_n b dX9_cut_0 rfl rfl ?_
  refine m_get b dX9_cut_1 lfX9_71 rfl ?_
  refine z_if_ne (tgt := 10) b dX9_cut_4 (by decide) (by omega) (fun c4 => ?_) (fun c4 => ?_)
  · exfalso; omega
  · refine z_bipush b dX9_cut_7 (by decide) ?_
    exact w_iret b dX9_cut_9 rfl (by omega) (by omega) ⟨iv_eq (by first | rfl | omega | ((try simp only [b2]); ((repeat' split) <;> (first | rfl | omega)))), rfl⟩
set_option maxRecDepth 20000 in
theorem k_X9_cut1 {l0 : Launch} {g : Gw} {mo nx : Nat} {h0 : Nat → va_E} {I : Nat → Int} {F : Nat → Int → Int}  (h : 0 < I 21) (h21 : 0 ≤ I 21 ∧ I 21 ≤ 40) : MD l0 g 0 mX9_cut (mp mo h0 I F, nx) [.ref mo] 0 0 (some (.int (iI (I 21 - 1)))) (mp mo h0 (va_up I 21 (I 21 - 1)) F, nx) := by
  refine MD.of (by decide +kernel) (by simp [Value.category]) (tle rfl) (fun X b => ?_)
  change WW X g _ _ 0 0 0 [some (.ref mo)] [] _
  refine w_aload_n b dX9_cut_0 rfl rfl ?_
  refine m_get b dX9_cut_1 lfX9_71 rfl ?_
  refine z_if_ne (tgt := 10) b dX9_cut_4 (by decide) (by omega) (fun c4 => ?_) (fun c4 => ?_)
  · refine w_aload_n b dX9_cut_10 rfl rfl ?_
    refine w_dup b dX9_cut_11 rfl ?_
    refine m_get b dX9_cut_12 lfX9_71 rfl ?_
    refine z_iconst b dX9_cut_15 ?_
    refine z_isub b dX9_cut_16 ?_
    refine m_put b dX9_cut_17 lfX9_71 gtX9_21 (tlt rfl) rfl ?_
    refine w_aload_n b dX9_cut_20 rfl rfl ?_
    refine m_get (v := .int (iI (I 21 - 1))) b dX9_cut_21 lfX9_71 rfl ?_
    exact w_iret b dX9_cut_24 rfl (by omega) (by omega) ⟨iv_eq (by first | rfl | omega | ((try simp only [b2]); ((repeat' split) <;> (first | rfl | omega)))), rfl⟩
  · exfalso; omega
set_option maxRecDepth 20000 in
theorem k_X9_minutes {l0 : Launch} {g : Gw} {mo nx : Nat} {h0 : Nat → va_E} {I : Nat → Int} {F : Nat → Int → Int} {r : Int} (hr : inR r) (h21 : 0 ≤ I 21 ∧ I 21 ≤ 40) : MD l0 g 1 mX9_minutes (mp mo h0 I F, nx) [.ref mo, .int (iI (r))] 0 0 (some (.int (iI (if 0 ≤ r ∧ r ≤ I 21 - 1 then F 26 r else -1)))) (mp mo h0 I F, nx) := by
  refine MD.of (by decide +kernel) (by simp [Value.category]) (tle rfl) (fun X b => ?_)
  change WW X g _ _ 0 0 0 [some (.ref mo), some (.int (iI (r)))] [] _
  refine w_aload_n b dX9_minutes_0 rfl rfl ?_
  refine w_iload_n b dX9_minutes_1 rfl ?_
  refine z_iconst b dX9_minutes_2 ?_
  refine w_aload_n b dX9_minutes_3 rfl rfl ?_
  refine m_get b dX9_minutes_4 lfX9_71 rfl ?_
  refine z_iconst b dX9_minutes_7 ?_
  refine z_isub b dX9_minutes_8 ?_
  refine c_V3 b dX9_minutes_9 lmX9_137 (mp_obj _ _ _ _) (k_X9_in (by omega) (by omega) (by omega)) (tle rfl) (by omega) (by omega) (by omega) ?_
  refine z_ifb_eq (tgt := 24) b dX9_minutes_12 (by decide) (fun c12 => ?_) (fun c12 => ?_)
  · refine z_iconst b dX9_minutes_24 ?_
    exact w_iret b dX9_minutes_25 rfl (by omega) (by omega) ⟨iv_eq (by first | rfl | omega | ((try simp only [b2]); ((repeat' split) <;> (first | rfl | omega)))), rfl⟩
  · refine w_aload_n b dX9_minutes_15 rfl rfl ?_
    refine m_get b dX9_minutes_16 lfX9_86 rfl ?_
    refine w_iload_n b dX9_minutes_19 rfl ?_
    refine m_ald b dX9_minutes_20 rfl (by omega) rfl ?_
    refine w_goto (tgt := 25) b dX9_minutes_21 (by decide) ?_
    exact w_iret b dX9_minutes_25 rfl (by omega) (by omega) ⟨iv_eq (by first | rfl | omega | ((try simp only [b2]); ((repeat' split) <;> (first | rfl | omega)))), rfl⟩
set_option maxRecDepth 20000 in
theorem k_X9_wool {l0 : Launch} {g : Gw} {mo nx : Nat} {h0 : Nat → va_E} {I : Nat → Int} {F : Nat → Int → Int} {c : Int} (hc : inR c) (h18 : ∀ j, 0 ≤ j → j ≤ 7 → 0 ≤ F 18 j ∧ F 18 j ≤ 10) : MD l0 g 2 mX9_wool (mp mo h0 I F, nx) [.ref mo, .int (iI (c))] 0 0 (some (.int (iI (if 0 ≤ c ∧ c ≤ 7 then sumA (fun l => F 20 (10 * c + l)) (F 18 c).toNat 0 0 else -1)))) (mp mo h0 I F, nx) := by
  refine MD.of (by decide +kernel) (by simp [Value.category]) (tle rfl) (fun X b => ?_)
  change WW X g _ _ 0 0 0 [some (.ref mo), some (.int (iI (c)))] [] _
  refine w_aload_n b dX9_wool_0 rfl rfl ?_
  refine w_iload_n b dX9_wool_1 rfl ?_
  refine c_V1 b dX9_wool_2 lmX9_145 (mp_obj _ _ _ _) (k_X9_isColour (by omega)) (tle rfl) (by omega) (by omega) (by omega) ?_
  refine z_ifb_eq (tgt := 16) b dX9_wool_5 (by decide) (fun c5 => ?_) (fun c5 => ?_)
  · refine z_iconst b dX9_wool_16 ?_
    exact w_iret b dX9_wool_17 rfl (by omega) (by omega) ⟨iv_eq (by first | rfl | omega | ((try simp only [b2]); ((repeat' split) <;> (first | rfl | omega)))), rfl⟩
  · refine w_aload_n b dX9_wool_8 rfl rfl ?_
    refine w_iload_n b dX9_wool_9 rfl ?_
    refine c_V1 b dX9_wool_10 lmX9_175 (mp_obj _ _ _ _) (k_X9_leftOf (by omega) (h18 _ (by omega) (by omega))) (tle rfl) (by omega) (by omega) (by omega) ?_
    refine w_goto (tgt := 17) b dX9_wool_13 (by decide) ?_
    exact w_iret b dX9_wool_17 rfl (by omega) (by omega) ⟨iv_eq (by first | rfl | omega | ((try simp only [b2]); ((repeat' split) <;> (first | rfl | omega)))), rfl⟩
/-- knots, faults of a hand: of a row's places; of rows -/
def hdA (s : Int → Int) (f : Int → Int) (h : Int) : Nat → Int → Int → Int → Int × Int
  | 0, _, n, m => (n, m)
  | k + 1, i, n, m => if handF s i = h then hdA s f h k (i + 1) (n + 1) (m + f i) else hdA s f h k (i + 1) n m
def hoA (s : Int → Int) (f : Int → Int → Int) (h : Int) (w : Nat) : Nat → Int → Int → Int → Int × Int
  | 0, _, n, m => (n, m)
  | k + 1, r, n, m => hoA s f h w k (r + 1) (hdA s (f r) h w 0 n m).1 (hdA s (f r) h w 0 n m).2
theorem hdA_rng (s : Int → Int) (f : Int → Int) (h : Int) (hf : ∀ i, 0 ≤ f i ∧ f i ≤ 1) : ∀ (k : Nat) (i n m : Int), n ≤ (hdA s f h k i n m).1 ∧ (hdA s f h k i n m).1 ≤ n + k ∧ m ≤ (hdA s f h k i n m).2 ∧ (hdA s f h k i n m).2 ≤ m + k := by
  intro k
  induction k with
  | zero => intro i n m; simp [hdA]
  | succ k ih =>
    intro i n m
    unfold hdA
    have := hf i
    split
    · have := ih (i + 1) (n + 1) (m + f i); omega
    · have := ih (i + 1) n m; omega
theorem hoA_rng (s : Int → Int) (f : Int → Int → Int) (h : Int) (w : Nat) (hw : w ≤ 40) (hf : ∀ r i, 0 ≤ f r i ∧ f r i ≤ 1) : ∀ (k : Nat) (r n m : Int), n ≤ (hoA s f h w k r n m).1 ∧ (hoA s f h w k r n m).1 ≤ n + 40 * k ∧ m ≤ (hoA s f h w k r n m).2 ∧ (hoA s f h w k r n m).2 ≤ m + 40 * k := by
  intro k
  induction k with
  | zero => intro r n m; simp [hoA]
  | succ k ih =>
    intro r n m
    unfold hoA
    have h1 := hdA_rng s (f r) h (hf r) w 0 n m
    have := ih (r + 1) (hdA s (f r) h w 0 n m).1 (hdA s (f r) h w 0 n m).2
    omega
set_option maxRecDepth 20000 in
theorem l_X9_hands1 {X : Cx} {l0 : Launch} {g : Gw} {Z : State → Prop} {mo nx : Nat} {h0 : Nat → va_E} {I : Nat → Int} {F : Nat → Int → Int} (b : BX X l0 g mX9_hands 2 0 0) {h x r : Int} (hr : 0 ≤ r ∧ r < I 21) (hh : 0 ≤ h ∧ h ≤ 5) (h21 : 0 ≤ I 21 ∧ I 21 ≤ 40) (h1_ : 4 ≤ I 1 ∧ I 1 ≤ 40) (h16 : ∀ j, 0 ≤ j → j ≤ 5 → 1 ≤ F 16 j ∧ F 16 j ≤ 40) (h22 : ∀ j, 0 ≤ j → j < 1600 → 0 ≤ F 22 j ∧ F 22 j ≤ 7) (h23 : ∀ j, 0 ≤ j → j < 1600 → 0 ≤ F 23 j ∧ F 23 j ≤ 7) : ∀ (k : Nat) (i n m : Int), (i + k = I 1) → (0 ≤ i) → WW X g mX9_hands.2.2.1 Z 0 0 112 [some (.ref mo), some (.int (iI (h))), some (.int (iI (x))), some (.int (iI ((hdA (F 16) (fun i => b2 (¬ F 23 (40 * r + i) = F 22 (40 * r + i))) h k i n m).1))), some (.int (iI ((hdA (F 16) (fun i => b2 (¬ F 23 (40 * r + i) = F 22 (40 * r + i))) h k i n m).2))), some (.int (iI (r))), none] [] (mp mo h0 I F, nx) → WW X g mX9_hands.2.2.1 Z 0 0 42 [some (.ref mo), some (.int (iI (h))), some (.int (iI (x))), some (.int (iI (n))), some (.int (iI (m))), some (.int (iI (r))), some (.int (iI (i)))] [] (mp mo h0 I F, nx) := by
  intro k
  induction k with
  | zero =>
    intro i n m h1 h2 kk
    refine w_iload b dX9_hands_42 rfl ?_
    refine w_aload_n b dX9_hands_44 rfl rfl ?_
    refine m_get b dX9_hands_45 lfX9_134 rfl ?_
    refine z_icmp_ge (tgt := 112) b dX9_hands_48 (by decide) (by omega) (fun c48 => ?_) (fun c48 => ?_)
    · refine ww_forget 6 ?_
      exact kk
    · exfalso; omega
  | succ k ih =>
    intro i n m h1 h2 kk
    refine w_iload b dX9_hands_42 rfl ?_
    refine w_aload_n b dX9_hands_44 rfl rfl ?_
    refine m_get b dX9_hands_45 lfX9_134 rfl ?_
    refine z_icmp_ge (tgt := 112) b dX9_hands_48 (by decide) (by omega) (fun c48 => ?_) (fun c48 => ?_)
    · exfalso; omega
    · refine w_aload_n b dX9_hands_51 rfl rfl ?_
      refine w_iload b dX9_hands_52 rfl ?_
      refine c_V1 b dX9_hands_54 lmX9_178 (mp_obj _ _ _ _) (k_X9_handAt (by omega) h16) (tle rfl) (by omega) (by omega) (by omega) ?_
      refine w_iload_n b dX9_hands_57 rfl ?_
      refine z_icmp_eq (tgt := 64) b dX9_hands_58 (by decide) (by have := handF_rng (F 16) i; omega) (fun c58 => ?_) (fun c58 => ?_)
      · refine z_iinc b dX9_hands_64 rfl rfl rfl ?_
        refine w_iload b dX9_hands_67 rfl ?_
        refine w_aload_n b dX9_hands_69 rfl rfl ?_
        refine m_get b dX9_hands_70 lfX9_77 rfl ?_
        refine z_bipush b dX9_hands_73 (by decide) ?_
        refine w_iload b dX9_hands_75 rfl ?_
        refine z_imul b dX9_hands_77 ?_
        refine w_iload b dX9_hands_78 rfl ?_
        refine z_iadd b dX9_hands_80 ?_
        refine m_ald b dX9_hands_81 rfl (by omega) rfl ?_
        refine w_aload_n b dX9_hands_82 rfl rfl ?_
        refine m_get b dX9_hands_83 lfX9_74 rfl ?_
        refine z_bipush b dX9_hands_86 (by decide) ?_
        refine w_iload b dX9_hands_88 rfl ?_
        refine z_imul b dX9_hands_90 ?_
        refine w_iload b dX9_hands_91 rfl ?_
        refine z_iadd b dX9_hands_93 ?_
        refine m_ald b dX9_hands_94 rfl (by omega) rfl ?_
        refine z_icmp_eq (tgt := 102) b dX9_hands_95 (by decide) (by have := h22 (40 * r + i) (by omega) (by omega); have := h23 (40 * r + i) (by omega) (by omega); omega) (fun c95 => ?_) (fun c95 => ?_)
        · have e2 : b2 (¬ F 23 (40 * r + i) = F 22 (40 * r + i)) = 0 := b2_f (fun z => z c95)
          have e1 : hdA (F 16) (fun i => b2 (¬ F 23 (40 * r + i) = F 22 (40 * r + i))) h (k + 1) i n m = hdA (F 16) (fun i => b2 (¬ F 23 (40 * r + i) = F 22 (40 * r + i))) h k (i + 1) (n + 1) (m + 0) := by
            conv => lhs; unfold hdA
            rw [if_pos c58, e2]
          rw [e1] at kk
          refine z_iconst b dX9_hands_102 ?_
          refine z_iadd b dX9_hands_103 ?_
          refine w_istore b dX9_hands_104 (tlt rfl) rfl ?_
          refine z_iinc b dX9_hands_106 rfl rfl rfl ?_
          refine w_goto (tgt := 42) b dX9_hands_109 (by decide) ?_
          exact ih (i + 1) (n + 1) _ (by omega) (by omega) kk
        · have e2 : b2 (¬ F 23 (40 * r + i) = F 22 (40 * r + i)) = 1 := b2_t c95
          have e1 : hdA (F 16) (fun i => b2 (¬ F 23 (40 * r + i) = F 22 (40 * r + i))) h (k + 1) i n m = hdA (F 16) (fun i => b2 (¬ F 23 (40 * r + i) = F 22 (40 * r + i))) h k (i + 1) (n + 1) (m + 1) := by
            conv => lhs; unfold hdA
            rw [if_pos c58, e2]
          rw [e1] at kk
          refine z_iconst b dX9_hands_98 ?_
          refine w_goto (tgt := 103) b dX9_hands_99 (by decide) ?_
          refine z_iadd b dX9_hands_103 ?_
          refine w_istore b dX9_hands_104 (tlt rfl) rfl ?_
          refine z_iinc b dX9_hands_106 rfl rfl rfl ?_
          refine w_goto (tgt := 42) b dX9_hands_109 (by decide) ?_
          exact ih (i + 1) (n + 1) _ (by omega) (by omega) kk
      · have e1 : hdA (F 16) (fun i => b2 (¬ F 23 (40 * r + i) = F 22 (40 * r + i))) h (k + 1) i n m = hdA (F 16) (fun i => b2 (¬ F 23 (40 * r + i) = F 22 (40 * r + i))) h k (i + 1) n m := by
          conv => lhs; unfold hdA
          rw [if_neg c58]
        rw [e1] at kk
        refine w_goto (tgt := 106) b dX9_hands_61 (by decide) ?_
        refine z_iinc b dX9_hands_106 rfl rfl rfl ?_
        refine w_goto (tgt := 42) b dX9_hands_109 (by decide) ?_
        exact ih (i + 1) n m (by omega) (by omega) kk
set_option maxRecDepth 20000 in
theorem l_X9_hands2 {X : Cx} {l0 : Launch} {g : Gw} {Z : State → Prop} {mo nx : Nat} {h0 : Nat → va_E} {I : Nat → Int} {F : Nat → Int → Int} (b : BX X l0 g mX9_hands 2 0 0) {h x : Int} (hh : 0 ≤ h ∧ h ≤ 5) (h21 : 0 ≤ I 21 ∧ I 21 ≤ 40) (h1_ : 4 ≤ I 1 ∧ I 1 ≤ 40) (h16 : ∀ j, 0 ≤ j → j ≤ 5 → 1 ≤ F 16 j ∧ F 16 j ≤ 40) (h22 : ∀ j, 0 ≤ j → j < 1600 → 0 ≤ F 22 j ∧ F 22 j ≤ 7) (h23 : ∀ j, 0 ≤ j → j < 1600 → 0 ≤ F 23 j ∧ F 23 j ≤ 7) : ∀ (k : Nat) (r n m : Int), (r + k = I 21) → (0 ≤ r) → WW X g mX9_hands.2.2.1 Z 0 0 118 [some (.ref mo), some (.int (iI (h))), some (.int (iI (x))), some (.int (iI ((hoA (F 16) (fun r i => b2 (¬ F 23 (40 * r + i) = F 22 (40 * r + i))) h (I 1).toNat k r n m).1))), some (.int (iI ((hoA (F 16) (fun r i => b2 (¬ F 23 (40 * r + i) = F 22 (40 * r + i))) h (I 1).toNat k r n m).2))), none, none] [] (mp mo h0 I F, nx) → WW X g mX9_hands.2.2.1 Z 0 0 30 [some (.ref mo), some (.int (iI (h))), some (.int (iI (x))), some (.int (iI (n))), some (.int (iI (m))), some (.int (iI (r))), none] [] (mp mo h0 I F, nx) := by
  intro k
  induction k with
  | zero =>
    intro r n m h1 h2 kk
    refine w_iload b dX9_hands_30 rfl ?_
    refine w_aload_n b dX9_hands_32 rfl rfl ?_
    refine m_get b dX9_hands_33 lfX9_71 rfl ?_
    refine z_icmp_ge (tgt := 118) b dX9_hands_36 (by decide) (by omega) (fun c36 => ?_) (fun c36 => ?_)
    · refine ww_forget 5 ?_
      exact kk
    · exfalso; omega
  | succ k ih =>
    intro r n m h1 h2 kk
    refine w_iload b dX9_hands_30 rfl ?_
    refine w_aload_n b dX9_hands_32 rfl rfl ?_
    refine m_get b dX9_hands_33 lfX9_71 rfl ?_
    refine z_icmp_ge (tgt := 118) b dX9_hands_36 (by decide) (by omega) (fun c36 => ?_) (fun c36 => ?_)
    · exfalso; omega
    · refine z_iconst b dX9_hands_39 ?_
      refine w_istore b dX9_hands_40 (tlt rfl) rfl ?_
      refine l_X9_hands1 b (by omega) hh h21 h1_ h16 h22 h23 (I 1).toNat 0 n m (by omega) (by omega) ?_
      refine z_iinc b dX9_hands_112 rfl rfl rfl ?_
      refine w_goto (tgt := 30) b dX9_hands_115 (by decide) ?_
      exact ih (r + 1) _ _ (by omega) (by omega) kk
set_option maxRecDepth 20000 in
theorem k_X9_hands {l0 : Launch} {g : Gw} {mo nx : Nat} {h0 : Nat → va_E} {I : Nat → Int} {F : Nat → Int → Int} {h x : Int} (hh : inR h) (hx : inR x) (h21 : 0 ≤ I 21 ∧ I 21 ≤ 40) (h1_ : 4 ≤ I 1 ∧ I 1 ≤ 40) (h16 : ∀ j, 0 ≤ j → j ≤ 5 → 1 ≤ F 16 j ∧ F 16 j ≤ 40) (h22 : ∀ j, 0 ≤ j → j < 1600 → 0 ≤ F 22 j ∧ F 22 j ≤ 7) (h23 : ∀ j, 0 ≤ j → j < 1600 → 0 ≤ F 23 j ∧ F 23 j ≤ 7) : MD l0 g 2 mX9_hands (mp mo h0 I F, nx) [.ref mo, .int (iI (h)), .int (iI (x))] 0 0 (some (.int (iI (if (0 ≤ h ∧ h ≤ 5) ∧ (0 ≤ x ∧ x ≤ 2) then (if x = 0 then (hoA (F 16) (fun r i => b2 (¬ F 23 (40 * r + i) = F 22 (40 * r + i))) h (I 1).toNat (I 21).toNat 0 0 0).1 else if x = 1 then (hoA (F 16) (fun r i => b2 (¬ F 23 (40 * r + i) = F 22 (40 * r + i))) h (I 1).toNat (I 21).toNat 0 0 0).2 else if 0 < (hoA (F 16) (fun r i => b2 (¬ F 23 (40 * r + i) = F 22 (40 * r + i))) h (I 1).toNat (I 21).toNat 0 0 0).1 / 10 * 5 - 20 * (hoA (F 16) (fun r i => b2 (¬ F 23 (40 * r + i) = F 22 (40 * r + i))) h (I 1).toNat (I 21).toNat 0 0 0).2 then (hoA (F 16) (fun r i => b2 (¬ F 23 (40 * r + i) = F 22 (40 * r + i))) h (I 1).toNat (I 21).toNat 0 0 0).1 / 10 * 5 - 20 * (hoA (F 16) (fun r i => b2 (¬ F 23 (40 * r + i) = F 22 (40 * r + i))) h (I 1).toNat (I 21).toNat 0 0 0).2 else 0) else -1)))) (mp mo h0 I F, nx) := by
  refine MD.of (by decide +kernel) (by simp [Value.category]) (tle rfl) (fun X b => ?_)
  change WW X g _ _ 0 0 0 [some (.ref mo), some (.int (iI (h))), some (.int (iI (x))), none, none, none, none] [] _
  refine w_aload_n b dX9_hands_0 rfl rfl ?_
  refine w_iload_n b dX9_hands_1 rfl ?_
  refine z_iconst b dX9_hands_2 ?_
  refine z_iconst b dX9_hands_3 ?_
  refine c_V3 b dX9_hands_4 lmX9_137 (mp_obj _ _ _ _) (k_X9_in (by omega) (by omega) (by omega)) (tle rfl) (by omega) (by omega) (by omega) ?_
  refine z_ifb_eq (tgt := 20) b dX9_hands_7 (by decide) (fun c7 => ?_) (fun c7 => ?_)
  · refine z_iconst b dX9_hands_20 ?_
    exact w_iret b dX9_hands_21 rfl (by omega) (by omega) ⟨iv_eq (by first | rfl | omega | ((try simp only [b2]); ((repeat' split) <;> (first | rfl | omega)))), rfl⟩
  · refine w_aload_n b dX9_hands_10 rfl rfl ?_
    refine w_iload_n b dX9_hands_11 rfl ?_
    refine z_iconst b dX9_hands_12 ?_
    refine z_iconst b dX9_hands_13 ?_
    refine c_V3 b dX9_hands_14 lmX9_137 (mp_obj _ _ _ _) (k_X9_in (by omega) (by omega) (by omega)) (tle rfl) (by omega) (by omega) (by omega) ?_
    refine z_ifb_ne (tgt := 22) b dX9_hands_17 (by decide) (fun c17 => ?_) (fun c17 => ?_)
    · refine z_iconst b dX9_hands_22 ?_
      refine w_istore_n b dX9_hands_23 (tlt rfl) rfl ?_
      refine z_iconst b dX9_hands_24 ?_
      refine w_istore b dX9_hands_25 (tlt rfl) rfl ?_
      refine z_iconst b dX9_hands_27 ?_
      refine w_istore b dX9_hands_28 (tlt rfl) rfl ?_
      refine l_X9_hands2 b (by omega) h21 h1_ h16 h22 h23 (I 21).toNat 0 0 0 (by omega) (by omega) ?_
      have hr := hoA_rng (F 16) (fun r i => b2 (¬ F 23 (40 * r + i) = F 22 (40 * r + i))) h (I 1).toNat (by omega) (fun r i => b2_rng _) (I 21).toNat 0 0 0
      generalize hz : hoA (F 16) (fun r i => b2 (¬ F 23 (40 * r + i) = F 22 (40 * r + i))) h (I 1).toNat (I 21).toNat 0 0 0 = z at hr ⊢
      refine w_iload_n b dX9_hands_118 rfl ?_
      refine z_bipush b dX9_hands_119 (by decide) ?_
      refine z_idiv b dX9_hands_121 (by omega) ?_
      refine z_iconst b dX9_hands_122 ?_
      refine z_imul b dX9_hands_123 ?_
      refine z_bipush b dX9_hands_124 (by decide) ?_
      refine w_iload b dX9_hands_126 rfl ?_
      refine z_imul b dX9_hands_128 ?_
      refine z_isub b dX9_hands_129 ?_
      refine w_istore b dX9_hands_130 (tlt rfl) rfl ?_
      refine w_iload_n b dX9_hands_132 rfl ?_
      refine z_if_ne (tgt := 140) b dX9_hands_133 (by decide) (by omega) (fun c133 => ?_) (fun c133 => ?_)
      · refine w_iload_n b dX9_hands_140 rfl ?_
        refine z_iconst b dX9_hands_141 ?_
        refine z_icmp_ne (tgt := 150) b dX9_hands_142 (by decide) (by omega) (fun c142 => ?_) (fun c142 => ?_)
        · refine w_iload b dX9_hands_150 rfl ?_
          refine z_if_le (tgt := 160) b dX9_hands_152 (by decide) (by omega) (fun c152 => ?_) (fun c152 => ?_)
          · refine z_iconst b dX9_hands_160 ?_
            exact w_iret b dX9_hands_161 rfl (by omega) (by omega) ⟨iv_eq (by first | rfl | omega | ((try simp only [b2]); ((repeat' split) <;> (first | rfl | omega)))), rfl⟩
          · refine w_iload b dX9_hands_155 rfl ?_
            refine w_goto (tgt := 161) b dX9_hands_157 (by decide) ?_
            exact w_iret b dX9_hands_161 rfl (by omega) (by omega) ⟨iv_eq (by first | rfl | omega | ((try simp only [b2]); ((repeat' split) <;> (first | rfl | omega)))), rfl⟩
        · refine w_iload b dX9_hands_145 rfl ?_
          refine w_goto (tgt := 161) b dX9_hands_147 (by decide) ?_
          exact w_iret b dX9_hands_161 rfl (by omega) (by omega) ⟨iv_eq (by first | rfl | omega | ((try simp only [b2]); ((repeat' split) <;> (first | rfl | omega)))), rfl⟩
      · refine w_iload_n b dX9_hands_136 rfl ?_
        refine w_goto (tgt := 161) b dX9_hands_137 (by decide) ?_
        exact w_iret b dX9_hands_161 rfl (by omega) (by omega) ⟨iv_eq (by first | rfl | omega | ((try simp only [b2]); ((repeat' split) <;> (first | rfl | omega)))), rfl⟩
    · refine z_iconst b dX9_hands_20 ?_
      exact w_iret b dX9_hands_21 rfl (by omega) (by omega) ⟨iv_eq (by first | rfl | omega | ((try simp only [b2]); ((repeat' split) <;> (first | rfl | omega)))), rfl⟩
set_option maxRecDepth 20000 in
theorem l_X9_unlike {X : Cx} {l0 : Launch} {g : Gw} {Z : State → Prop} {mo nx : Nat} {h0 : Nat → va_E} {I : Nat → Int} {F : Nat → Int → Int} (b : BX X l0 g mX9_unlike 1 0 0) {r o : Int} (hr : 0 ≤ r ∧ r < I 21) (ho : -1 ≤ o ∧ o < I 21) (h21 : 0 ≤ I 21 ∧ I 21 ≤ 40) (h1_ : 4 ≤ I 1 ∧ I 1 ≤ 40) (h23 : ∀ j, 0 ≤ j → j < 1600 → 0 ≤ F 23 j ∧ F 23 j ≤ 7) : ∀ (n : Nat) (i a : Int), (i + n = I 1) → (0 ≤ i) → WW X g mX9_unlike.2.2.1 Z 0 0 113 [some (.ref mo), some (.int (iI (r))), some (.int (iI (o))), some (.int (iI (sumA (fun i => b2 (¬ F 23 (40 * r + i) = (if o < 0 then F 23 (40 * r + I 1 - 1 - i) else F 23 (40 * o + i)))) n i a))), none] [] (mp mo h0 I F, nx) → WW X g mX9_unlike.2.2.1 Z 0 0 37 [some (.ref mo), some (.int (iI (r))), some (.int (iI (o))), some (.int (iI (a))), some (.int (iI (i)))] [] (mp mo h0 I F, nx) := by
  intro n
  induction n with
  | zero =>
    intro i a h1 h2 kk
    refine w_iload b dX9_unlike_37 rfl ?_
    refine w_aload_n b dX9_unlike_39 rfl rfl ?_
    refine m_get b dX9_unlike_40 lfX9_134 rfl ?_
    refine z_icmp_ge (tgt := 113) b dX9_unlike_43 (by decide) (by omega) (fun c43 => ?_) (fun c43 => ?_)
    · refine ww_forget 4 ?_
      exact kk
    · exfalso; omega
  | succ n ih =>
    intro i a h1 h2 kk
    refine w_iload b dX9_unlike_37 rfl ?_
    refine w_aload_n b dX9_unlike_39 rfl rfl ?_
    refine m_get b dX9_unlike_40 lfX9_134 rfl ?_
    refine z_icmp_ge (tgt := 113) b dX9_unlike_43 (by decide) (by omega) (fun c43 => ?_) (fun c43 => ?_)
    · exfalso; omega
    · refine w_iload_n b dX9_unlike_46 rfl ?_
      refine w_aload_n b dX9_unlike_47 rfl rfl ?_
      refine m_get b dX9_unlike_48 lfX9_77 rfl ?_
      refine z_bipush b dX9_unlike_51 (by decide) ?_
      refine w_iload_n b dX9_unlike_53 rfl ?_
      refine z_imul b dX9_unlike_54 ?_
      refine w_iload b dX9_unlike_55 rfl ?_
      refine z_iadd b dX9_unlike_57 ?_
      refine m_ald b dX9_unlike_58 rfl (by omega) rfl ?_
      refine w_iload_n b dX9_unlike_59 rfl ?_
      refine z_if_ge (tgt := 85) b dX9_unlike_60 (by decide) (by omega) (fun c60 => ?_) (fun c60 => ?_)
      · refine w_aload_n b dX9_unlike_85 rfl rfl ?_
        refine m_get b dX9_unlike_86 lfX9_77 rfl ?_
        refine z_bipush b dX9_unlike_89 (by decide) ?_
        refine w_iload_n b dX9_unlike_91 rfl ?_
        refine z_imul b dX9_unlike_92 ?_
        refine w_iload b dX9_unlike_93 rfl ?_
        refine z_iadd b dX9_unlike_95 ?_
        refine m_ald b dX9_unlike_96 rfl (by omega) rfl ?_
        refine z_icmp_eq (tgt := 104) b dX9_unlike_97 (by decide) (by have := h23 (40 * r + i) (by omega) (by omega); have := h23 (40 * o + i) (by omega) (by omega); omega) (fun c97 => ?_) (fun c97 => ?_)
        · have e1 : b2 (¬ F 23 (40 * r + i) = (if o < 0 then F 23 (40 * r + I 1 - 1 - i) else F 23 (40 * o + i))) = 0 := by
            rw [if_neg (by omega)]; exact b2_f (fun z => z c97)
          rw [sumA, e1] at kk
          refine z_iconst b dX9_unlike_104 ?_
          refine z_iadd b dX9_unlike_105 ?_
          refine w_istore_n b dX9_unlike_106 (tlt rfl) rfl ?_
          refine z_iinc b dX9_unlike_107 rfl rfl rfl ?_
          refine w_goto (tgt := 37) b dX9_unlike_110 (by decide) ?_
          exact ih (i + 1) _ (by omega) (by omega) kk
        · have e1 : b2 (¬ F 23 (40 * r + i) = (if o < 0 then F 23 (40 * r + I 1 - 1 - i) else F 23 (40 * o + i))) = 1 := by
            rw [if_neg (by omega)]; exact b2_t c97
          rw [sumA, e1] at kk
          refine z_iconst b dX9_unlike_100 ?_
          refine w_goto (tgt := 105) b dX9_unlike_101 (by decide) ?_
          refine z_iadd b dX9_unlike_105 ?_
          refine w_istore_n b dX9_unlike_106 (tlt rfl) rfl ?_
          refine z_iinc b dX9_unlike_107 rfl rfl rfl ?_
          refine w_goto (tgt := 37) b dX9_unlike_110 (by decide) ?_
          exact ih (i + 1) _ (by omega) (by omega) kk
      · refine w_aload_n b dX9_unlike_63 rfl rfl ?_
        refine m_get b dX9_unlike_64 lfX9_77 rfl ?_
        refine z_bipush b dX9_unlike_67 (by decide) ?_
        refine w_iload_n b dX9_unlike_69 rfl ?_
        refine z_imul b dX9_unlike_70 ?_
        refine w_aload_n b dX9_unlike_71 rfl rfl ?_
        refine m_get b dX9_unlike_72 lfX9_134 rfl ?_
        refine z_iadd b dX9_unlike_75 ?_
        refine z_iconst b dX9_unlike_76 ?_
        refine z_isub b dX9_unlike_77 ?_
        refine w_iload b dX9_unlike_78 rfl ?_
        refine z_isub b dX9_unlike_80 ?_
        refine m_ald b dX9_unlike_81 rfl (by omega) rfl ?_
        refine w_goto (tgt := 97) b dX9_unlike_82 (by decide) ?_
        refine z_icmp_eq (tgt := 104) b dX9_unlike_97 (by decide) (by have := h23 (40 * r + i) (by omega) (by omega); have := h23 (40 * r + I 1 - 1 - i) (by omega) (by omega); omega) (fun c97 => ?_) (fun c97 => ?_)
        · have e1 : b2 (¬ F 23 (40 * r + i) = (if o < 0 then F 23 (40 * r + I 1 - 1 - i) else F 23 (40 * o + i))) = 0 := by
            rw [if_pos (by omega)]; exact b2_f (fun z => z c97)
          rw [sumA, e1] at kk
          refine z_iconst b dX9_unlike_104 ?_
          refine z_iadd b dX9_unlike_105 ?_
          refine w_istore_n b dX9_unlike_106 (tlt rfl) rfl ?_
          refine z_iinc b dX9_unlike_107 rfl rfl rfl ?_
          refine w_goto (tgt := 37) b dX9_unlike_110 (by decide) ?_
          exact ih (i + 1) _ (by omega) (by omega) kk
        · have e1 : b2 (¬ F 23 (40 * r + i) = (if o < 0 then F 23 (40 * r + I 1 - 1 - i) else F 23 (40 * o + i))) = 1 := by
            rw [if_pos (by omega)]; exact b2_t c97
          rw [sumA, e1] at kk
          refine z_iconst b dX9_unlike_100 ?_
          refine w_goto (tgt := 105) b dX9_unlike_101 (by decide) ?_
          refine z_iadd b dX9_unlike_105 ?_
          refine w_istore_n b dX9_unlike_106 (tlt rfl) rfl ?_
          refine z_iinc b dX9_unlike_107 rfl rfl rfl ?_
          refine w_goto (tgt := 37) b dX9_unlike_110 (by decide) ?_
          exact ih (i + 1) _ (by omega) (by omega) kk
set_option maxRecDepth 20000 in
theorem k_X9_unlike {l0 : Launch} {g : Gw} {mo nx : Nat} {h0 : Nat → va_E} {I : Nat → Int} {F : Nat → Int → Int} {r o : Int} (hr : inR r) (ho : inR o) (h21 : 0 ≤ I 21 ∧ I 21 ≤ 40) (h1_ : 4 ≤ I 1 ∧ I 1 ≤ 40) (h23 : ∀ j, 0 ≤ j → j < 1600 → 0 ≤ F 23 j ∧ F 23 j ≤ 7) : MD l0 g 1 mX9_unlike (mp mo h0 I F, nx) [.ref mo, .int (iI (r)), .int (iI (o))] 0 0 (some (.int (iI (if (0 ≤ r ∧ r ≤ I 21 - 1) ∧ (-1 ≤ o ∧ o ≤ I 21 - 1) then sumA (fun i => b2 (¬ F 23 (40 * r + i) = (if o < 0 then F 23 (40 * r + I 1 - 1 - i) else F 23 (40 * o + i)))) (I 1).toNat 0 0 else -1)))) (mp mo h0 I F, nx) := by
  refine MD.of (by decide +kernel) (by simp [Value.category]) (tle rfl) (fun X b => ?_)
  change WW X g _ _ 0 0 0 [some (.ref mo), some (.int (iI (r))), some (.int (iI (o))), none, none] [] _
  refine w_aload_n b dX9_unlike_0 rfl rfl ?_
  refine w_iload_n b dX9_unlike_1 rfl ?_
  refine z_iconst b dX9_unlike_2 ?_
  refine w_aload_n b dX9_unlike_3 rfl rfl ?_
  refine m_get b dX9_unlike_4 lfX9_71 rfl ?_
  refine z_iconst b dX9_unlike_7 ?_
  refine z_isub b dX9_unlike_8 ?_
  refine c_V3 b dX9_unlike_9 lmX9_137 (mp_obj _ _ _ _) (k_X9_in (by omega) (by omega) (by omega)) (tle rfl) (by omega) (by omega) (by omega) ?_
  refine z_ifb_eq (tgt := 30) b dX9_unlike_12 (by decide) (fun c12 => ?_) (fun c12 => ?_)
  · refine z_iconst b dX9_unlike_30 ?_
    exact w_iret b dX9_unlike_31 rfl (by omega) (by omega) ⟨iv_eq (by rw [if_neg (by omega)]), rfl⟩
  · refine w_aload_n b dX9_unlike_15 rfl rfl ?_
    refine w_iload_n b dX9_unlike_16 rfl ?_
    refine z_iconst b dX9_unlike_17 ?_
    refine w_aload_n b dX9_unlike_18 rfl rfl ?_
    refine m_get b dX9_unlike_19 lfX9_71 rfl ?_
    refine z_iconst b dX9_unlike_22 ?_
    refine z_isub b dX9_unlike_23 ?_
    refine c_V3 b dX9_unlike_24 lmX9_137 (mp_obj _ _ _ _) (k_X9_in (by omega) (by omega) (by omega)) (tle rfl) (by omega) (by omega) (by omega) ?_
    refine z_ifb_ne (tgt := 32) b dX9_unlike_27 (by decide) (fun c27 => ?_) (fun c27 => ?_)
    · refine z_iconst b dX9_unlike_32 ?_
      refine w_istore_n b dX9_unlike_33 (tlt rfl) rfl ?_
      refine z_iconst b dX9_unlike_34 ?_
      refine w_istore b dX9_unlike_35 (tlt rfl) rfl ?_
      refine l_X9_unlike b (by omega) (by omega) h21 h1_ h23 (I 1).toNat 0 0 (by omega) (by omega) ?_
      refine w_iload_n b dX9_unlike_113 rfl ?_
      exact w_iret b dX9_unlike_114 rfl (by omega) (by omega) ⟨iv_eq (by rw [if_pos (by omega)]), rfl⟩
    · refine z_iconst b dX9_unlike_30 ?_
      exact w_iret b dX9_unlike_31 rfl (by omega) (by omega) ⟨iv_eq (by rw [if_neg (by omega)]), rfl⟩
