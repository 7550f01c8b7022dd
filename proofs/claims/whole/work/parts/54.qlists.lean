/-! THE CLASS: lists, steps, chants, what reads (by p54.py) -/
set_option maxRecDepth 20000 in
theorem k_J3_checkIndex_8e157 {l0 : Launch} {g : Gw} {σ : Sg} {i n : Int} (hi : 0 ≤ i ∧ i < n) (hn : inR n) : MD l0 g 0 mJ3_checkIndex_8e157 σ [.int (iI (i)), .int (iI (n)), .null] 0 0 (some (.int (iI i))) σ := by
  refine MD.of (by decide +kernel) (by simp [Value.category]) (tle rfl) (fun X b => ?_)
  change WW X g _ _ 0 0 0 [some (.int (iI (i))), some (.int (iI (n))), some (.null)] [] _
  refine w_iload_n b dJ3_checkIndex_8e157_0 rfl ?_
  refine z_if_lt (tgt := 9) b dJ3_checkIndex_8e157_1 (by decide) (by omega) (fun c1 => ?_) (fun c1 => ?_)
  · exfalso; omega
  · refine w_iload_n b dJ3_checkIndex_8e157_4 rfl ?_
    refine w_iload_n b dJ3_checkIndex_8e157_5 rfl ?_
    refine z_icmp_lt (tgt := 16) b dJ3_checkIndex_8e157_6 (by decide) (by omega) (fun c6 => ?_) (fun c6 => ?_)
    · refine w_iload_n b dJ3_checkIndex_8e157_16 rfl ?_
      exact w_iret b dJ3_checkIndex_8e157_17 rfl (by omega) (by omega) ⟨iv_eq (by first | rfl | omega | ((try simp only [b2]); ((repeat' split) <;> (first | rfl | omega)))), rfl⟩
    · exfalso; omega
set_option maxRecDepth 20000 in
theorem k_J15_checkIndex_7cf53 {l0 : Launch} {g : Gw} {σ : Sg} {i n : Int} (hi : 0 ≤ i ∧ i < n) (hn : inR n) : MD l0 g 1 mJ15_checkIndex_7cf53 σ [.int (iI (i)), .int (iI (n))] 0 0 (some (.int (iI i))) σ := by
  refine MD.of (by decide +kernel) (by simp [Value.category]) (tle rfl) (fun X b => ?_)
  change WW X g _ _ 0 0 0 [some (.int (iI (i))), some (.int (iI (n)))] [] _
  refine w_iload_n b dJ15_checkIndex_7cf53_0 rfl ?_
  refine w_iload_n b dJ15_checkIndex_7cf53_1 rfl ?_
  refine w_null b dJ15_checkIndex_7cf53_2 ?_
  refine c_S3 b dJ15_checkIndex_7cf53_3 lmJ15_105 (k_J3_checkIndex_8e157 hi hn) (tle rfl) (by omega) (by omega) (by omega) ?_
  exact w_iret b dJ15_checkIndex_7cf53_6 rfl (by omega) (by omega) ⟨iv_eq (by first | rfl | omega | ((try simp only [b2]); ((repeat' split) <;> (first | rfl | omega)))), rfl⟩
set_option maxRecDepth 20000 in
theorem k_Jx4a65c_size_8abf5 {l0 : Launch} {g : Gw} {σ : Sg} {l : Nat} {m v : Value} {n : Int} (hl : σ.1 l = .inr (10, [m, v, .int (iI n)])) : MD l0 g 0 mJx4a65c_size_8abf5 σ [.ref l] 0 0 (some (.int (iI n))) σ := by
  refine MD.of (by decide +kernel) (by simp [Value.category]) (tle rfl) (fun X b => ?_)
  change WW X g _ _ 0 0 0 [some (.ref l)] [] _
  refine w_aload_n b dJx4a65c_size_8abf5_0 rfl rfl ?_
  refine w_getf b dJx4a65c_size_8abf5_1 lfJx4a65c_48 hl rfl ?_
  exact w_iret b dJx4a65c_size_8abf5_4 rfl (by omega) (by omega) ⟨iv_eq (by first | rfl | omega | ((try simp only [b2]); ((repeat' split) <;> (first | rfl | omega)))), rfl⟩
set_option maxRecDepth 20000 in
theorem k_Jx4a65c_isEmpty_aae02 {l0 : Launch} {g : Gw} {σ : Sg} {l : Nat} {m v : Value} {n : Int} (hl : σ.1 l = .inr (10, [m, v, .int (iI n)])) (hn : inR n) : MD l0 g 0 mJx4a65c_isEmpty_aae02 σ [.ref l] 0 0 (some (.int (iI (b2 (n = 0))))) σ := by
  refine MD.of (by decide +kernel) (by simp [Value.category]) (tle rfl) (fun X b => ?_)
  change WW X g _ _ 0 0 0 [some (.ref l)] [] _
  refine w_aload_n b dJx4a65c_isEmpty_aae02_0 rfl rfl ?_
  refine w_getf b dJx4a65c_isEmpty_aae02_1 lfJx4a65c_48 hl rfl ?_
  refine z_if_ne (tgt := 11) b dJx4a65c_isEmpty_aae02_4 (by decide) (by omega) (fun c4 => ?_) (fun c4 => ?_)
  · refine z_iconst b dJx4a65c_isEmpty_aae02_11 ?_
    exact z_zret b dJx4a65c_isEmpty_aae02_12 rfl (by omega) (by omega) (by omega) ⟨iv_eq (by first | rfl | omega | ((try simp only [b2]); ((repeat' split) <;> (first | rfl | omega)))), rfl⟩
  · refine z_iconst b dJx4a65c_isEmpty_aae02_7 ?_
    refine w_goto (tgt := 12) b dJx4a65c_isEmpty_aae02_8 (by decide) ?_
    exact z_zret b dJx4a65c_isEmpty_aae02_12 rfl (by omega) (by omega) (by omega) ⟨iv_eq (by first | rfl | omega | ((try simp only [b2]); ((repeat' split) <;> (first | rfl | omega)))), rfl⟩
set_option maxRecDepth 20000 in
theorem k_Jx4a65c_elementData_915e3 {l0 : Launch} {g : Gw} {σ : Sg} {l a len k : Nat} {m : Value} {n i : Int} {f : Nat → Option Nat} (hl : σ.1 l = .inr (10, [m, .ref a, .int (iI n)])) (ha : σ.1 a = .inl (4, len, .inr (.inr (.inr (.inr f))))) (hi : 0 ≤ i ∧ i < n) (hn : n ≤ (len : Int) ∧ n ≤ 1000) (hf : f i.toNat = some k) : MD l0 g 0 mJx4a65c_elementData_915e3 σ [.ref l, .int (iI (i))] 0 0 (some (.ref k)) σ := by
  refine MD.of (by decide +kernel) (by simp [Value.category]) (tle rfl) (fun X b => ?_)
  change WW X g _ _ 0 0 0 [some (.ref l), some (.int (iI (i)))] [] _
  refine w_aload_n b dJx4a65c_elementData_915e3_0 rfl rfl ?_
  refine w_getf b dJx4a65c_elementData_915e3_1 lfJx4a65c_9 hl rfl ?_
  refine w_iload_n b dJx4a65c_elementData_915e3_4 rfl ?_
  refine w_aald b dJx4a65c_elementData_915e3_5 ha (by omega) (iI_in hi.1 (by omega) (by omega)) (show f (iI i).toNatClampNeg = some k by rw [iI_clamp hi.1 (by omega)]; exact hf) ?_
  exact w_aret b dJx4a65c_elementData_915e3_6 rfl (Or.inl ⟨_, rfl⟩) rfl (by omega) (by omega) ⟨rfl, rfl⟩
set_option maxRecDepth 20000 in
theorem k_Jx4a65c_get_915e3 {l0 : Launch} {g : Gw} {σ : Sg} {l a len k : Nat} {m : Value} {n i : Int} {f : Nat → Option Nat} (hl : σ.1 l = .inr (10, [m, .ref a, .int (iI n)])) (ha : σ.1 a = .inl (4, len, .inr (.inr (.inr (.inr f))))) (hi : 0 ≤ i ∧ i < n) (hn : n ≤ (len : Int) ∧ n ≤ 1000) (hf : f i.toNat = some k) : MD l0 g 2 mJx4a65c_get_915e3 σ [.ref l, .int (iI (i))] 0 0 (some (.ref k)) σ := by
  refine MD.of (by decide +kernel) (by simp [Value.category]) (tle rfl) (fun X b => ?_)
  change WW X g _ _ 0 0 0 [some (.ref l), some (.int (iI (i)))] [] _
  refine w_iload_n b dJx4a65c_get_915e3_0 rfl ?_
  refine w_aload_n b dJx4a65c_get_915e3_1 rfl rfl ?_
  refine w_getf b dJx4a65c_get_915e3_2 lfJx4a65c_48 hl rfl ?_
  refine c_S2 b dJx4a65c_get_915e3_5 lmJx4a65c_118 (k_J15_checkIndex_7cf53 hi (by omega)) (tle rfl) (by omega) (by omega) (by omega) ?_
  refine w_pop b dJx4a65c_get_915e3_8 rfl ?_
  refine w_aload_n b dJx4a65c_get_915e3_9 rfl rfl ?_
  refine w_iload_n b dJx4a65c_get_915e3_10 rfl ?_
  refine c_V1 b dJx4a65c_get_915e3_11 lmJx4a65c_123 hl (k_Jx4a65c_elementData_915e3 hl ha hi hn hf) (tle rfl) (by omega) (by omega) (by omega) ?_
  exact w_aret b dJx4a65c_get_915e3_14 rfl (Or.inl ⟨_, rfl⟩) rfl (by omega) (by omega) ⟨rfl, rfl⟩
set_option maxRecDepth 20000 in
theorem k_X5_hasN {l0 : Launch} {g : Gw} {σ : Sg} {q : Nat} {k c n : Int} (hs : σ.1 q = .inr (5, [.int (iI k), .int (iI c), .int (iI n)])) (hk : 0 ≤ k ∧ k ≤ 5) : MD l0 g 0 mX5_hasN σ [.ref q] 0 0 (some (.int (iI (b2 (¬ (k = 1 ∨ k = 2)))))) σ := by
  refine MD.of (by decide +kernel) (by simp [Value.category]) (tle rfl) (fun X b => ?_)
  change WW X g _ _ 0 0 0 [some (.ref q)] [] _
  refine w_aload_n b dX5_hasN_0 rfl rfl ?_
  refine w_getf b dX5_hasN_1 lfX5_9 hs rfl ?_
  refine z_iconst b dX5_hasN_4 ?_
  refine z_icmp_eq (tgt := 20) b dX5_hasN_5 (by decide) (by omega) (fun c5 => ?_) (fun c5 => ?_)
  · refine z_iconst b dX5_hasN_20 ?_
    exact z_zret b dX5_hasN_21 rfl (by omega) (by omega) (by omega) ⟨iv_eq (by first | rfl | omega | ((try simp only [b2]); ((repeat' split) <;> (first | rfl | omega)))), rfl⟩
  · refine w_aload_n b dX5_hasN_8 rfl rfl ?_
    refine w_getf b dX5_hasN_9 lfX5_9 hs rfl ?_
    refine z_iconst b dX5_hasN_12 ?_
    refine z_icmp_eq (tgt := 20) b dX5_hasN_13 (by decide) (by omega) (fun c13 => ?_) (fun c13 => ?_)
    · refine z_iconst b dX5_hasN_20 ?_
      exact z_zret b dX5_hasN_21 rfl (by omega) (by omega) (by omega) ⟨iv_eq (by first | rfl | omega | ((try simp only [b2]); ((repeat' split) <;> (first | rfl | omega)))), rfl⟩
    · refine z_iconst b dX5_hasN_16 ?_
      refine w_goto (tgt := 21) b dX5_hasN_17 (by decide) ?_
      exact z_zret b dX5_hasN_21 rfl (by omega) (by omega) (by omega) ⟨iv_eq (by first | rfl | omega | ((try simp only [b2]); ((repeat' split) <;> (first | rfl | omega)))), rfl⟩
set_option maxRecDepth 20000 in
theorem k_X5_hasColour {l0 : Launch} {g : Gw} {σ : Sg} {q : Nat} {k c n : Int} (hs : σ.1 q = .inr (5, [.int (iI k), .int (iI c), .int (iI n)])) (hk : 0 ≤ k ∧ k ≤ 5) : MD l0 g 0 mX5_hasColour σ [.ref q] 0 0 (some (.int (iI (b2 (k = 0 ∨ k = 1))))) σ := by
  refine MD.of (by decide +kernel) (by simp [Value.category]) (tle rfl) (fun X b => ?_)
  change WW X g _ _ 0 0 0 [some (.ref q)] [] _
  refine w_aload_n b dX5_hasColour_0 rfl rfl ?_
  refine w_getf b dX5_hasColour_1 lfX5_9 hs rfl ?_
  refine z_if_eq (tgt := 15) b dX5_hasColour_4 (by decide) (by omega) (fun c4 => ?_) (fun c4 => ?_)
  · refine z_iconst b dX5_hasColour_15 ?_
    refine w_goto (tgt := 20) b dX5_hasColour_16 (by decide) ?_
    exact z_zret b dX5_hasColour_20 rfl (by omega) (by omega) (by omega) ⟨iv_eq (by first | rfl | omega | ((try simp only [b2]); ((repeat' split) <;> (first | rfl | omega)))), rfl⟩
  · refine w_aload_n b dX5_hasColour_7 rfl rfl ?_
    refine w_getf b dX5_hasColour_8 lfX5_9 hs rfl ?_
    refine z_iconst b dX5_hasColour_11 ?_
    refine z_icmp_ne (tgt := 19) b dX5_hasColour_12 (by decide) (by omega) (fun c12 => ?_) (fun c12 => ?_)
    · refine z_iconst b dX5_hasColour_19 ?_
      exact z_zret b dX5_hasColour_20 rfl (by omega) (by omega) (by omega) ⟨iv_eq (by first | rfl | omega | ((try simp only [b2]); ((repeat' split) <;> (first | rfl | omega)))), rfl⟩
    · refine z_iconst b dX5_hasColour_15 ?_
      refine w_goto (tgt := 20) b dX5_hasColour_16 (by decide) ?_
      exact z_zret b dX5_hasColour_20 rfl (by omega) (by omega) (by omega) ⟨iv_eq (by first | rfl | omega | ((try simp only [b2]); ((repeat' split) <;> (first | rfl | omega)))), rfl⟩
set_option maxRecDepth 20000 in
theorem k_X5_heft {l0 : Launch} {g : Gw} {σ : Sg} {q : Nat} {k c n : Int} (hs : σ.1 q = .inr (5, [.int (iI k), .int (iI c), .int (iI n)])) (hk : 0 ≤ k ∧ k ≤ 5) : MD l0 g 1 mX5_heft σ [.ref q] 0 0 (some (.int (iI (if k = 3 then 2 * (10 + k + n + 1000) else 10 + k + (if k = 0 ∨ k = 1 then c else 0) + (if k = 1 then 100 else 0) + (if k = 2 then 1000 else 0) + (if k = 1 ∨ k = 2 then 0 else n))))) σ := by
  refine MD.of (by decide +kernel) (by simp [Value.category]) (tle rfl) (fun X b => ?_)
  change WW X g _ _ 0 0 0 [some (.ref q), none] [] _
  refine z_bipush b dX5_heft_0 (by decide) ?_
  refine w_aload_n b dX5_heft_2 rfl rfl ?_
  refine w_getf b dX5_heft_3 lfX5_9 hs rfl ?_
  refine z_iadd b dX5_heft_6 ?_
  refine w_istore_n b dX5_heft_7 (tlt rfl) rfl ?_
  refine w_aload_n b dX5_heft_8 rfl rfl ?_
  refine c_V0 b dX5_heft_9 lmX5_21 hs (k_X5_hasColour hs hk) (tle rfl) (by omega) (by omega) (by omega) ?_
  refine z_ifb_eq (tgt := 22) b dX5_heft_12 (by decide) (fun c12 => ?_) (fun c12 => ?_)
  · refine w_aload_n b dX5_heft_22 rfl rfl ?_
    refine c_V0 b dX5_heft_23 lmX5_25 hs (k_X5_hasN hs hk) (tle rfl) (by omega) (by omega) (by omega) ?_
    refine z_ifb_eq (tgt := 36) b dX5_heft_26 (by decide) (fun c26 => ?_) (fun c26 => ?_)
    · refine w_aload_n b dX5_heft_36 rfl rfl ?_
      refine w_getf b dX5_heft_37 lfX5_9 hs rfl ?_
      by_cases e40_1 : k = 1
      · refine w_tswI (tgt := 68) (off := 28) b dX5_heft_40 (by rw [iI_toInt (by omega)]; omega) (by rw [iI_toInt (by omega)]; omega) (by rw [iI_toInt (by omega), e40_1]; rfl) (by decide) ?_
        refine w_iload_n b dX5_heft_68 rfl ?_
        refine z_bipush b dX5_heft_69 (by decide) ?_
        refine z_iadd b dX5_heft_71 ?_
        exact w_iret b dX5_heft_72 rfl (by omega) (by omega) ⟨iv_eq (by first | rfl | omega | ((try simp only [b2]); ((repeat' split) <;> (first | rfl | omega)))), rfl⟩
      by_cases e40_2 : k = 2
      · refine w_tswI (tgt := 73) (off := 33) b dX5_heft_40 (by rw [iI_toInt (by omega)]; omega) (by rw [iI_toInt (by omega)]; omega) (by rw [iI_toInt (by omega), e40_2]; rfl) (by decide) ?_
        refine w_iload_n b dX5_heft_73 rfl ?_
        refine z_sipush b dX5_heft_74 (by decide) ?_
        refine z_iadd b dX5_heft_77 ?_
        exact w_iret b dX5_heft_78 rfl (by omega) (by omega) ⟨iv_eq (by first | rfl | omega | ((try simp only [b2]); ((repeat' split) <;> (first | rfl | omega)))), rfl⟩
      by_cases e40_3 : k = 3
      · refine w_tswI (tgt := 79) (off := 39) b dX5_heft_40 (by rw [iI_toInt (by omega)]; omega) (by rw [iI_toInt (by omega)]; omega) (by rw [iI_toInt (by omega), e40_3]; rfl) (by decide) ?_
        refine z_iconst b dX5_heft_79 ?_
        refine w_iload_n b dX5_heft_80 rfl ?_
        refine z_sipush b dX5_heft_81 (by decide) ?_
        refine z_iadd b dX5_heft_84 ?_
        refine z_imul b dX5_heft_85 ?_
        exact w_iret b dX5_heft_86 rfl (by omega) (by omega) ⟨iv_eq (by first | rfl | omega | ((try simp only [b2]); ((repeat' split) <;> (first | rfl | omega)))), rfl⟩
      refine w_tswO (tgt := 87) b dX5_heft_40 (by rw [iI_toInt (by omega)]; omega) (by decide) ?_
      refine w_iload_n b dX5_heft_87 rfl ?_
      exact w_iret b dX5_heft_88 rfl (by omega) (by omega) ⟨iv_eq (by first | rfl | omega | ((try simp only [b2]); ((repeat' split) <;> (first | rfl | omega)))), rfl⟩
    · refine w_iload_n b dX5_heft_29 rfl ?_
      refine w_aload_n b dX5_heft_30 rfl rfl ?_
      refine w_getf b dX5_heft_31 lfX5_15 hs rfl ?_
      refine z_iadd b dX5_heft_34 ?_
      refine w_istore_n b dX5_heft_35 (tlt rfl) rfl ?_
      refine w_aload_n b dX5_heft_36 rfl rfl ?_
      refine w_getf b dX5_heft_37 lfX5_9 hs rfl ?_
      by_cases e40_1 : k = 1
      · refine w_tswI (tgt := 68) (off := 28) b dX5_heft_40 (by rw [iI_toInt (by omega)]; omega) (by rw [iI_toInt (by omega)]; omega) (by rw [iI_toInt (by omega), e40_1]; rfl) (by decide) ?_
        refine w_iload_n b dX5_heft_68 rfl ?_
        refine z_bipush b dX5_heft_69 (by decide) ?_
        refine z_iadd b dX5_heft_71 ?_
        exact w_iret b dX5_heft_72 rfl (by omega) (by omega) ⟨iv_eq (by first | rfl | omega | ((try simp only [b2]); ((repeat' split) <;> (first | rfl | omega)))), rfl⟩
      by_cases e40_2 : k = 2
      · refine w_tswI (tgt := 73) (off := 33) b dX5_heft_40 (by rw [iI_toInt (by omega)]; omega) (by rw [iI_toInt (by omega)]; omega) (by rw [iI_toInt (by omega), e40_2]; rfl) (by decide) ?_
        refine w_iload_n b dX5_heft_73 rfl ?_
        refine z_sipush b dX5_heft_74 (by decide) ?_
        refine z_iadd b dX5_heft_77 ?_
        exact w_iret b dX5_heft_78 rfl (by omega) (by omega) ⟨iv_eq (by first | rfl | omega | ((try simp only [b2]); ((repeat' split) <;> (first | rfl | omega)))), rfl⟩
      by_cases e40_3 : k = 3
      · refine w_tswI (tgt := 79) (off := 39) b dX5_heft_40 (by rw [iI_toInt (by omega)]; omega) (by rw [iI_toInt (by omega)]; omega) (by rw [iI_toInt (by omega), e40_3]; rfl) (by decide) ?_
        refine z_iconst b dX5_heft_79 ?_
        refine w_iload_n b dX5_heft_80 rfl ?_
        refine z_sipush b dX5_heft_81 (by decide) ?_
        refine z_iadd b dX5_heft_84 ?_
        refine z_imul b dX5_heft_85 ?_
        exact w_iret b dX5_heft_86 rfl (by omega) (by omega) ⟨iv_eq (by first | rfl | omega | ((try simp only [b2]); ((repeat' split) <;> (first | rfl | omega)))), rfl⟩
      refine w_tswO (tgt := 87) b dX5_heft_40 (by rw [iI_toInt (by omega)]; omega) (by decide) ?_
      refine w_iload_n b dX5_heft_87 rfl ?_
      exact w_iret b dX5_heft_88 rfl (by omega) (by omega) ⟨iv_eq (by first | rfl | omega | ((try simp only [b2]); ((repeat' split) <;> (first | rfl | omega)))), rfl⟩
  · refine w_iload_n b dX5_heft_15 rfl ?_
    refine w_aload_n b dX5_heft_16 rfl rfl ?_
    refine w_getf b dX5_heft_17 lfX5_18 hs rfl ?_
    refine z_iadd b dX5_heft_20 ?_
    refine w_istore_n b dX5_heft_21 (tlt rfl) rfl ?_
    refine w_aload_n b dX5_heft_22 rfl rfl ?_
    refine c_V0 b dX5_heft_23 lmX5_25 hs (k_X5_hasN hs hk) (tle rfl) (by omega) (by omega) (by omega) ?_
    refine z_ifb_eq (tgt := 36) b dX5_heft_26 (by decide) (fun c26 => ?_) (fun c26 => ?_)
    · refine w_aload_n b dX5_heft_36 rfl rfl ?_
      refine w_getf b dX5_heft_37 lfX5_9 hs rfl ?_
      by_cases e40_1 : k = 1
      · refine w_tswI (tgt := 68) (off := 28) b dX5_heft_40 (by rw [iI_toInt (by omega)]; omega) (by rw [iI_toInt (by omega)]; omega) (by rw [iI_toInt (by omega), e40_1]; rfl) (by decide) ?_
        refine w_iload_n b dX5_heft_68 rfl ?_
        refine z_bipush b dX5_heft_69 (by decide) ?_
        refine z_iadd b dX5_heft_71 ?_
        exact w_iret b dX5_heft_72 rfl (by omega) (by omega) ⟨iv_eq (by first | rfl | omega | ((try simp only [b2]); ((repeat' split) <;> (first | rfl | omega)))), rfl⟩
      by_cases e40_2 : k = 2
      · refine w_tswI (tgt := 73) (off := 33) b dX5_heft_40 (by rw [iI_toInt (by omega)]; omega) (by rw [iI_toInt (by omega)]; omega) (by rw [iI_toInt (by omega), e40_2]; rfl) (by decide) ?_
        refine w_iload_n b dX5_heft_73 rfl ?_
        refine z_sipush b dX5_heft_74 (by decide) ?_
        refine z_iadd b dX5_heft_77 ?_
        exact w_iret b dX5_heft_78 rfl (by omega) (by omega) ⟨iv_eq (by first | rfl | omega | ((try simp only [b2]); ((repeat' split) <;> (first | rfl | omega)))), rfl⟩
      by_cases e40_3 : k = 3
      · refine w_tswI (tgt := 79) (off := 39) b dX5_heft_40 (by rw [iI_toInt (by omega)]; omega) (by rw [iI_toInt (by omega)]; omega) (by rw [iI_toInt (by omega), e40_3]; rfl) (by decide) ?_
        refine z_iconst b dX5_heft_79 ?_
        refine w_iload_n b dX5_heft_80 rfl ?_
        refine z_sipush b dX5_heft_81 (by decide) ?_
        refine z_iadd b dX5_heft_84 ?_
        refine z_imul b dX5_heft_85 ?_
        exact w_iret b dX5_heft_86 rfl (by omega) (by omega) ⟨iv_eq (by first | rfl | omega | ((try simp only [b2]); ((repeat' split) <;> (first | rfl | omega)))), rfl⟩
      refine w_tswO (tgt := 87) b dX5_heft_40 (by rw [iI_toInt (by omega)]; omega) (by decide) ?_
      refine w_iload_n b dX5_heft_87 rfl ?_
      exact w_iret b dX5_heft_88 rfl (by omega) (by omega) ⟨iv_eq (by first | rfl | omega | ((try simp only [b2]); ((repeat' split) <;> (first | rfl | omega)))), rfl⟩
    · refine w_iload_n b dX5_heft_29 rfl ?_
      refine w_aload_n b dX5_heft_30 rfl rfl ?_
      refine w_getf b dX5_heft_31 lfX5_15 hs rfl ?_
      refine z_iadd b dX5_heft_34 ?_
      refine w_istore_n b dX5_heft_35 (tlt rfl) rfl ?_
      refine w_aload_n b dX5_heft_36 rfl rfl ?_
      refine w_getf b dX5_heft_37 lfX5_9 hs rfl ?_
      by_cases e40_1 : k = 1
      · refine w_tswI (tgt := 68) (off := 28) b dX5_heft_40 (by rw [iI_toInt (by omega)]; omega) (by rw [iI_toInt (by omega)]; omega) (by rw [iI_toInt (by omega), e40_1]; rfl) (by decide) ?_
        refine w_iload_n b dX5_heft_68 rfl ?_
        refine z_bipush b dX5_heft_69 (by decide) ?_
        refine z_iadd b dX5_heft_71 ?_
        exact w_iret b dX5_heft_72 rfl (by omega) (by omega) ⟨iv_eq (by first | rfl | omega | ((try simp only [b2]); ((repeat' split) <;> (first | rfl | omega)))), rfl⟩
      by_cases e40_2 : k = 2
      · refine w_tswI (tgt := 73) (off := 33) b dX5_heft_40 (by rw [iI_toInt (by omega)]; omega) (by rw [iI_toInt (by omega)]; omega) (by rw [iI_toInt (by omega), e40_2]; rfl) (by decide) ?_
        refine w_iload_n b dX5_heft_73 rfl ?_
        refine z_sipush b dX5_heft_74 (by decide) ?_
        refine z_iadd b dX5_heft_77 ?_
        exact w_iret b dX5_heft_78 rfl (by omega) (by omega) ⟨iv_eq (by first | rfl | omega | ((try simp only [b2]); ((repeat' split) <;> (first | rfl | omega)))), rfl⟩
      by_cases e40_3 : k = 3
      · refine w_tswI (tgt := 79) (off := 39) b dX5_heft_40 (by rw [iI_toInt (by omega)]; omega) (by rw [iI_toInt (by omega)]; omega) (by rw [iI_toInt (by omega), e40_3]; rfl) (by decide) ?_
        refine z_iconst b dX5_heft_79 ?_
        refine w_iload_n b dX5_heft_80 rfl ?_
        refine z_sipush b dX5_heft_81 (by decide) ?_
        refine z_iadd b dX5_heft_84 ?_
        refine z_imul b dX5_heft_85 ?_
        exact w_iret b dX5_heft_86 rfl (by omega) (by omega) ⟨iv_eq (by first | rfl | omega | ((try simp only [b2]); ((repeat' split) <;> (first | rfl | omega)))), rfl⟩
      refine w_tswO (tgt := 87) b dX5_heft_40 (by rw [iI_toInt (by omega)]; omega) (by decide) ?_
      refine w_iload_n b dX5_heft_87 rfl ?_
      exact w_iret b dX5_heft_88 rfl (by omega) (by omega) ⟨iv_eq (by first | rfl | omega | ((try simp only [b2]); ((repeat' split) <;> (first | rfl | omega)))), rfl⟩
/-- a list's array: n elements el; nothing of it but the empty one is there, or an array of 10 or 15 places with the label tag -/
def LSl (h : Nat → va_E) (nx : Nat) (own : Nat → Nat) (tag : Nat) (v : Value) (n : Int) (el : Nat → Nat) : Prop := (n = 0 ∧ v = .float 0) ∨ ∃ (a len : Nat) (f : Nat → Option Nat), v = .ref a ∧ 291 ≤ a ∧ a < nx ∧ own a = tag ∧ h a = .inl (4, len, .inr (.inr (.inr (.inr f)))) ∧ 0 ≤ n ∧ n ≤ (len : Int) ∧ (len = 10 ∨ len = 15) ∧ ∀ i : Nat, (i : Int) < n → f i = some (el i)
def stE (F : Nat → Int → Int) (x : Int) : va_E := .inr (5, [.int (iI (F 4 x)), .int (iI (F 6 x)), .int (iI (F 5 x))])
def RDy (h : Nat → va_E) (nx : Nat) (C : Nat → Nat → Int) (V : Nat → Value) (I : Nat → Int) (F : Nat → Int → Int) (ca : Nat → Nat) (sa : Nat → Nat → Nat) (own : Nat → Nat) : Prop := (C 231 2 = I 2) ∧ (0 ≤ I 2 ∧ I 2 ≤ 12) ∧ (wfC I F) ∧ (LSl h nx own 60 (V 231) (I 2) ca) ∧ (∀ c : Nat, (c : Int) < I 2 → 291 ≤ ca c ∧ ca c + 1 < nx ∧ own (ca c) = 20 + c ∧ own (ca c + 1) = 40 + c ∧ h (ca c) = .inr (2, [.ref (ca c + 1)])) ∧ (∀ c : Nat, (c : Int) < I 2 → ∃ (m : Int) (v : Value), h (ca c + 1) = .inr (10, [.int (iI m), v, .int (iI (F 3 (c : Int)))]) ∧ LSl h nx own (61 + c) v (F 3 (c : Int)) (sa c)) ∧ (∀ c s : Nat, (c : Int) < I 2 → (s : Int) < F 3 (c : Int) → 291 ≤ sa c s ∧ sa c s < nx ∧ own (sa c s) = 100 + 12 * c + s ∧ h (sa c s) = stE F (12 * (c : Int) + (s : Int))) ∧ (∀ x, 0 ≤ x → x < 144 → inR (F 4 x) ∧ inR (F 5 x) ∧ inR (F 6 x))
theorem RDy.n1 {h : Nat → va_E} {nx : Nat} {C : Nat → Nat → Int} {V : Nat → Value} {I : Nat → Int} {F : Nat → Int → Int} {ca : Nat → Nat} {sa : Nat → Nat → Nat} {own : Nat → Nat} (hR : RDy h nx C V I F ca sa own) : C 231 2 = I 2 := hR.1
theorem RDy.n2 {h : Nat → va_E} {nx : Nat} {C : Nat → Nat → Int} {V : Nat → Value} {I : Nat → Int} {F : Nat → Int → Int} {ca : Nat → Nat} {sa : Nat → Nat → Nat} {own : Nat → Nat} (hR : RDy h nx C V I F ca sa own) : 0 ≤ I 2 ∧ I 2 ≤ 12 := hR.2.1
theorem RDy.wf {h : Nat → va_E} {nx : Nat} {C : Nat → Nat → Int} {V : Nat → Value} {I : Nat → Int} {F : Nat → Int → Int} {ca : Nat → Nat} {sa : Nat → Nat → Nat} {own : Nat → Nat} (hR : RDy h nx C V I F ca sa own) : wfC I F := hR.2.2.1
theorem RDy.lc {h : Nat → va_E} {nx : Nat} {C : Nat → Nat → Int} {V : Nat → Value} {I : Nat → Int} {F : Nat → Int → Int} {ca : Nat → Nat} {sa : Nat → Nat → Nat} {own : Nat → Nat} (hR : RDy h nx C V I F ca sa own) : LSl h nx own 60 (V 231) (I 2) ca := hR.2.2.2.1
theorem RDy.oc {h : Nat → va_E} {nx : Nat} {C : Nat → Nat → Int} {V : Nat → Value} {I : Nat → Int} {F : Nat → Int → Int} {ca : Nat → Nat} {sa : Nat → Nat → Nat} {own : Nat → Nat} (hR : RDy h nx C V I F ca sa own) : ∀ c : Nat, (c : Int) < I 2 → 291 ≤ ca c ∧ ca c + 1 < nx ∧ own (ca c) = 20 + c ∧ own (ca c + 1) = 40 + c ∧ h (ca c) = .inr (2, [.ref (ca c + 1)]) := hR.2.2.2.2.1
theorem RDy.ol {h : Nat → va_E} {nx : Nat} {C : Nat → Nat → Int} {V : Nat → Value} {I : Nat → Int} {F : Nat → Int → Int} {ca : Nat → Nat} {sa : Nat → Nat → Nat} {own : Nat → Nat} (hR : RDy h nx C V I F ca sa own) : ∀ c : Nat, (c : Int) < I 2 → ∃ (m : Int) (v : Value), h (ca c + 1) = .inr (10, [.int (iI m), v, .int (iI (F 3 (c : Int)))]) ∧ LSl h nx own (61 + c) v (F 3 (c : Int)) (sa c) := hR.2.2.2.2.2.1
theorem RDy.os {h : Nat → va_E} {nx : Nat} {C : Nat → Nat → Int} {V : Nat → Value} {I : Nat → Int} {F : Nat → Int → Int} {ca : Nat → Nat} {sa : Nat → Nat → Nat} {own : Nat → Nat} (hR : RDy h nx C V I F ca sa own) : ∀ c s : Nat, (c : Int) < I 2 → (s : Int) < F 3 (c : Int) → 291 ≤ sa c s ∧ sa c s < nx ∧ own (sa c s) = 100 + 12 * c + s ∧ h (sa c s) = stE F (12 * (c : Int) + (s : Int)) := hR.2.2.2.2.2.2.1
theorem RDy.rg {h : Nat → va_E} {nx : Nat} {C : Nat → Nat → Int} {V : Nat → Value} {I : Nat → Int} {F : Nat → Int → Int} {ca : Nat → Nat} {sa : Nat → Nat → Nat} {own : Nat → Nat} (hR : RDy h nx C V I F ca sa own) : ∀ x, 0 ≤ x → x < 144 → inR (F 4 x) ∧ inR (F 5 x) ∧ inR (F 6 x) := hR.2.2.2.2.2.2.2
theorem RDy.chant {I : Nat → Int} {F : Nat → Int → Int} {ca : Nat → Nat} {sa : Nat → Nat → Nat} {own : Nat → Nat} {w : Nat} {C : Nat → Nat → Int} {A : Nat → Int → Int} {V : Nat → Value} {h : Nat → va_E} {nx : Nat} (hD : RDy h nx C V I F ca sa own) {c : Nat} (hc : (c : Int) < I 2) : cp w C A V h (ca c) = .inr (2, [.ref (ca c + 1)]) := by
  obtain ⟨h1, h2, h3, h4, h5⟩ := hD.oc c hc
  rw [cp_ge (by omega)]; exact h5
theorem RDy.list {I : Nat → Int} {F : Nat → Int → Int} {ca : Nat → Nat} {sa : Nat → Nat → Nat} {own : Nat → Nat} {w : Nat} {C : Nat → Nat → Int} {A : Nat → Int → Int} {V : Nat → Value} {h : Nat → va_E} {nx : Nat} (hD : RDy h nx C V I F ca sa own) {c : Nat} (hc : (c : Int) < I 2) : ∃ (m : Int) (v : Value), cp w C A V h (ca c + 1) = .inr (10, [.int (iI m), v, .int (iI (F 3 (c : Int)))]) ∧ LSl h nx own (61 + c) v (F 3 (c : Int)) (sa c) := by
  obtain ⟨h1, h2, h3, h4, h5⟩ := hD.oc c hc
  obtain ⟨m, v, h6, h7⟩ := hD.ol c hc
  exact ⟨m, v, by rw [cp_ge (by omega)]; exact h6, h7⟩
theorem RDy.step {I : Nat → Int} {F : Nat → Int → Int} {ca : Nat → Nat} {sa : Nat → Nat → Nat} {own : Nat → Nat} {w : Nat} {C : Nat → Nat → Int} {A : Nat → Int → Int} {V : Nat → Value} {h : Nat → va_E} {nx : Nat} (hD : RDy h nx C V I F ca sa own) {c s : Nat} (hc : (c : Int) < I 2) (hs : (s : Int) < F 3 (c : Int)) : cp w C A V h (sa c s) = .inr (5, [.int (iI (F 4 (12 * (c : Int) + (s : Int)))), .int (iI (F 6 (12 * (c : Int) + (s : Int)))), .int (iI (F 5 (12 * (c : Int) + (s : Int))))]) := by
  obtain ⟨h1, h2, h3, h4⟩ := hD.os c s hc hs
  rw [cp_ge (by omega)]; exact h4
theorem k_getC {l0 : Launch} {g : Gw} {w nx : Nat} {h : Nat → va_E} {C : Nat → Nat → Int} {A : Nat → Int → Int} {V : Nat → Value} {I : Nat → Int} {F : Nat → Int → Int} {ca : Nat → Nat} {sa : Nat → Nat → Nat} {own : Nat → Nat} {c : Nat} (hD : RDy h nx C V I F ca sa own) (hc : (c : Int) < I 2) : MD l0 g 2 mJx4a65c_get_915e3 (cp w C A V h, nx) [.ref 231, .int (iI (c : Int))] 0 0 (some (.ref (ca c))) (cp w C A V h, nx) := by
  have hn2 := hD.n2
  rcases hD.lc with ⟨e1, e2⟩ | ⟨a, len, f, e1, e2, e3, e4, e5, e6, e7, e8, e9⟩
  · omega
  · refine k_Jx4a65c_get_915e3 (l := 231) (a := a) (len := len) (k := ca c) (m := .int (iI (C 231 0))) (n := I 2) (f := f) ?_ ?_ ⟨by omega, hc⟩ ⟨e7, by omega⟩ (by rw [Int.toNat_natCast]; exact e9 c hc)
    · show cp w C A V h 231 = _
      rw [cp_lt (by omega), ct_231, e1, ← hD.n1]
    · show cp w C A V h a = _
      rw [cp_ge (by omega), e5]
theorem k_getS {l0 : Launch} {g : Gw} {w nx : Nat} {h : Nat → va_E} {C : Nat → Nat → Int} {A : Nat → Int → Int} {V : Nat → Value} {I : Nat → Int} {F : Nat → Int → Int} {ca : Nat → Nat} {sa : Nat → Nat → Nat} {own : Nat → Nat} {c s : Nat} (hD : RDy h nx C V I F ca sa own) (hc : (c : Int) < I 2) (hs : (s : Int) < F 3 (c : Int)) : MD l0 g 2 mJx4a65c_get_915e3 (cp w C A V h, nx) [.ref (ca c + 1), .int (iI (s : Int))] 0 0 (some (.ref (sa c s))) (cp w C A V h, nx) := by
  have hn2 := hD.n2
  have hwf := (hD.wf c (by omega) hc).1
  obtain ⟨m, v, e0, e⟩ := hD.list (w := w) (A := A) hc
  rcases e with ⟨e1, e2⟩ | ⟨a, len, f, e1, e2, e3, e4, e5, e6, e7, e8, e9⟩
  · omega
  · subst e1
    refine k_Jx4a65c_get_915e3 (l := ca c + 1) (a := a) (len := len) (k := sa c s) (m := .int (iI m)) (n := F 3 (c : Int)) (f := f) e0 ?_ ⟨by omega, hs⟩ ⟨e7, by omega⟩ (by rw [Int.toNat_natCast]; exact e9 s hs)
    show cp w C A V h a = _
    rw [cp_ge (by omega), e5]
theorem k_sizeC {l0 : Launch} {g : Gw} {w nx : Nat} {h : Nat → va_E} {C : Nat → Nat → Int} {A : Nat → Int → Int} {V : Nat → Value} {I : Nat → Int} {F : Nat → Int → Int} {ca : Nat → Nat} {sa : Nat → Nat → Nat} {own : Nat → Nat} (hD : RDy h nx C V I F ca sa own) : MD l0 g 0 mJx4a65c_size_8abf5 (cp w C A V h, nx) [.ref 231] 0 0 (some (.int (iI (I 2)))) (cp w C A V h, nx) := k_Jx4a65c_size_8abf5 (m := .int (iI (C 231 0))) (v := V 231) (by show cp w C A V h 231 = _; rw [cp_lt (by omega), ct_231, ← hD.n1])
theorem k_sizeS {l0 : Launch} {g : Gw} {w nx : Nat} {h : Nat → va_E} {C : Nat → Nat → Int} {A : Nat → Int → Int} {V : Nat → Value} {I : Nat → Int} {F : Nat → Int → Int} {ca : Nat → Nat} {sa : Nat → Nat → Nat} {own : Nat → Nat} {c : Nat} (hD : RDy h nx C V I F ca sa own) (hc : (c : Int) < I 2) : MD l0 g 0 mJx4a65c_size_8abf5 (cp w C A V h, nx) [.ref (ca c + 1)] 0 0 (some (.int (iI (F 3 (c : Int))))) (cp w C A V h, nx) := by
  obtain ⟨m, v, e0, e⟩ := hD.list (w := w) (A := A) hc
  exact k_Jx4a65c_size_8abf5 e0
set_option maxRecDepth 20000 in
theorem k_X0_chants {l0 : Launch} {g : Gw} {w nx : Nat} {h : Nat → va_E} {C : Nat → Nat → Int} {A : Nat → Int → Int} {V : Nat → Value} {I : Nat → Int} {F : Nat → Int → Int} {ca : Nat → Nat} {sa : Nat → Nat → Nat} {own : Nat → Nat}  (hD : RDy h nx C V I F ca sa own)  : MD l0 g 1 mX0_chants (cp w C A V h, nx) [.ref 230] 0 0 (some (.int (iI (I 2)))) (cp w C A V h, nx) := by
  refine MD.of (by decide +kernel) (by simp [Value.category]) (tle rfl) (fun X b => ?_)
  change WW X g _ _ 0 0 0 [some (.ref 230)] [] _
  refine w_aload_n b dX0_chants_0 rfl rfl ?_
  refine q_get b dX0_chants_1 lfX0_12 (tlt rfl) ct_230 rfl ?_
  refine c_V0 b dX0_chants_4 lmX0_34 (cpS (tlt rfl) ct_231) (k_sizeC hD) (tle rfl) (by omega) (by omega) (by omega) ?_
  exact w_iret b dX0_chants_7 rfl (by omega) (by omega) ⟨iv_eq (by first | rfl | omega | ((try simp only [b2]); ((repeat' split) <;> (first | rfl | omega)))), rfl⟩
set_option maxRecDepth 20000 in
theorem k_X0_hasChant {l0 : Launch} {g : Gw} {w nx : Nat} {h : Nat → va_E} {C : Nat → Nat → Int} {A : Nat → Int → Int} {V : Nat → Value} {I : Nat → Int} {F : Nat → Int → Int} {ca : Nat → Nat} {sa : Nat → Nat → Nat} {own : Nat → Nat} {c : Int} (hD : RDy h nx C V I F ca sa own) (hc : inR c) : MD l0 g 1 mX0_hasChant (cp w C A V h, nx) [.ref 230, .int (iI (c))] 0 0 (some (.int (iI (b2 (0 ≤ c ∧ c < I 2))))) (cp w C A V h, nx) := by
  have hn2 := hD.n2
  refine MD.of (by decide +kernel) (by simp [Value.category]) (tle rfl) (fun X b => ?_)
  change WW X g _ _ 0 0 0 [some (.ref 230), some (.int (iI (c)))] [] _
  refine w_iload_n b dX0_hasChant_0 rfl ?_
  refine z_if_lt (tgt := 19) b dX0_hasChant_1 (by decide) (by omega) (fun c1 => ?_) (fun c1 => ?_)
  · refine z_iconst b dX0_hasChant_19 ?_
    exact z_zret b dX0_hasChant_20 rfl (by omega) (by omega) (by omega) ⟨iv_eq (by first | rfl | omega | ((try simp only [b2]); ((repeat' split) <;> (first | rfl | omega)))), rfl⟩
  · refine w_iload_n b dX0_hasChant_4 rfl ?_
    refine w_aload_n b dX0_hasChant_5 rfl rfl ?_
    refine q_get b dX0_hasChant_6 lfX0_12 (tlt rfl) ct_230 rfl ?_
    refine c_V0 b dX0_hasChant_9 lmX0_34 (cpS (tlt rfl) ct_231) (k_sizeC hD) (tle rfl) (by omega) (by omega) (by omega) ?_
    refine z_icmp_ge (tgt := 19) b dX0_hasChant_12 (by decide) (by omega) (fun c12 => ?_) (fun c12 => ?_)
    · refine z_iconst b dX0_hasChant_19 ?_
      exact z_zret b dX0_hasChant_20 rfl (by omega) (by omega) (by omega) ⟨iv_eq (by first | rfl | omega | ((try simp only [b2]); ((repeat' split) <;> (first | rfl | omega)))), rfl⟩
    · refine z_iconst b dX0_hasChant_15 ?_
      refine w_goto (tgt := 20) b dX0_hasChant_16 (by decide) ?_
      exact z_zret b dX0_hasChant_20 rfl (by omega) (by omega) (by omega) ⟨iv_eq (by first | rfl | omega | ((try simp only [b2]); ((repeat' split) <;> (first | rfl | omega)))), rfl⟩
set_option maxRecDepth 20000 in
theorem k_X0_hasStep0 {l0 : Launch} {g : Gw} {w nx : Nat} {h : Nat → va_E} {C : Nat → Nat → Int} {A : Nat → Int → Int} {V : Nat → Value} {I : Nat → Int} {F : Nat → Int → Int} {ca : Nat → Nat} {sa : Nat → Nat → Nat} {own : Nat → Nat} {c s : Int} (hD : RDy h nx C V I F ca sa own) (hc : inR c) (hb : ¬ (0 ≤ c ∧ c < I 2)) : MD l0 g 3 mX0_hasStep (cp w C A V h, nx) [.ref 230, .int (iI (c)), .int (iI (s))] 0 0 (some (.int (iI 0))) (cp w C A V h, nx) := by
  refine MD.of (by decide +kernel) (by simp [Value.category]) (tle rfl) (fun X b => ?_)
  change WW X g _ _ 0 0 0 [some (.ref 230), some (.int (iI (c))), some (.int (iI (s)))] [] _
  refine w_aload_n b dX0_hasStep_0 rfl rfl ?_
  refine w_iload_n b dX0_hasStep_1 rfl ?_
  refine c_V1 b dX0_hasStep_2 lmX0_38 (cpS (tlt rfl) ct_230) (k_X0_hasChant hD (by omega)) (tle rfl) (by omega) (by omega) (by omega) ?_
  refine z_ifb_eq (tgt := 37) b dX0_hasStep_5 (by decide) (fun c5 => ?_) (fun c5 => ?_)
  · refine z_iconst b dX0_hasStep_37 ?_
    exact z_zret b dX0_hasStep_38 rfl (by omega) (by omega) (by omega) ⟨iv_eq (by first | rfl | omega | ((try simp only [b2]); ((repeat' split) <;> (first | rfl | omega)))), rfl⟩
  · exfalso; omega
set_option maxRecDepth 20000 in
theorem k_X0_hasStep1 {l0 : Launch} {g : Gw} {w nx : Nat} {h : Nat → va_E} {C : Nat → Nat → Int} {A : Nat → Int → Int} {V : Nat → Value} {I : Nat → Int} {F : Nat → Int → Int} {ca : Nat → Nat} {sa : Nat → Nat → Nat} {own : Nat → Nat} {c : Nat} {s : Int} (hD : RDy h nx C V I F ca sa own) (hs : inR s) (hc : (c : Int) < I 2) : MD l0 g 3 mX0_hasStep (cp w C A V h, nx) [.ref 230, .int (iI ((c : Int))), .int (iI (s))] 0 0 (some (.int (iI (b2 (0 ≤ s ∧ s < F 3 (c : Int)))))) (cp w C A V h, nx) := by
  have hn2 := hD.n2
  have hwf := (hD.wf c (by omega) hc).1
  obtain ⟨m9, v9, e0, e9⟩ := hD.list (w := w) (A := A) hc
  refine MD.of (by decide +kernel) (by simp [Value.category]) (tle rfl) (fun X b => ?_)
  change WW X g _ _ 0 0 0 [some (.ref 230), some (.int (iI ((c : Int)))), some (.int (iI (s)))] [] _
  refine w_aload_n b dX0_hasStep_0 rfl rfl ?_
  refine w_iload_n b dX0_hasStep_1 rfl ?_
  refine c_V1 b dX0_hasStep_2 lmX0_38 (cpS (tlt rfl) ct_230) (k_X0_hasChant hD (by omega)) (tle rfl) (by omega) (by omega) (by omega) ?_
  refine z_ifb_eq (tgt := 37) b dX0_hasStep_5 (by decide) (fun c5 => ?_) (fun c5 => ?_)
  · exfalso; omega
  · refine w_iload_n b dX0_hasStep_8 rfl ?_
    refine z_if_lt (tgt := 37) b dX0_hasStep_9 (by decide) (by omega) (fun c9 => ?_) (fun c9 => ?_)
    · refine z_iconst b dX0_hasStep_37 ?_
      exact z_zret b dX0_hasStep_38 rfl (by omega) (by omega) (by omega) ⟨iv_eq (by first | rfl | omega | ((try simp only [b2]); ((repeat' split) <;> (first | rfl | omega)))), rfl⟩
    · refine w_iload_n b dX0_hasStep_12 rfl ?_
      refine w_aload_n b dX0_hasStep_13 rfl rfl ?_
      refine q_get b dX0_hasStep_14 lfX0_12 (tlt rfl) ct_230 rfl ?_
      refine w_iload_n b dX0_hasStep_17 rfl ?_
      refine c_V1 b dX0_hasStep_18 lmX0_42 (cpS (tlt rfl) ct_231) (k_getC hD (by omega)) (tle rfl) (by omega) (by omega) (by omega) ?_
      refine w_castS (ci := 2) b dX0_hasStep_21 rfl lcX0_46 (hD.chant (by omega)) ?_
      refine w_getf b dX0_hasStep_24 lfX0_48 (hD.chant (by omega)) rfl ?_
      refine c_V0 b dX0_hasStep_27 lmX0_34 e0 (k_sizeS hD (by omega)) (tle rfl) (by omega) (by omega) (by omega) ?_
      refine z_icmp_ge (tgt := 37) b dX0_hasStep_30 (by decide) (by omega) (fun c30 => ?_) (fun c30 => ?_)
      · refine z_iconst b dX0_hasStep_37 ?_
        exact z_zret b dX0_hasStep_38 rfl (by omega) (by omega) (by omega) ⟨iv_eq (by first | rfl | omega | ((try simp only [b2]); ((repeat' split) <;> (first | rfl | omega)))), rfl⟩
      · refine z_iconst b dX0_hasStep_33 ?_
        refine w_goto (tgt := 38) b dX0_hasStep_34 (by decide) ?_
        exact z_zret b dX0_hasStep_38 rfl (by omega) (by omega) (by omega) ⟨iv_eq (by first | rfl | omega | ((try simp only [b2]); ((repeat' split) <;> (first | rfl | omega)))), rfl⟩
set_option maxRecDepth 20000 in
theorem k_X0_stepOf {l0 : Launch} {g : Gw} {w nx : Nat} {h : Nat → va_E} {C : Nat → Nat → Int} {A : Nat → Int → Int} {V : Nat → Value} {I : Nat → Int} {F : Nat → Int → Int} {ca : Nat → Nat} {sa : Nat → Nat → Nat} {own : Nat → Nat} {c s : Nat} (hD : RDy h nx C V I F ca sa own) (hc : (c : Int) < I 2) (hs : (s : Int) < F 3 (c : Int)) : MD l0 g 3 mX0_stepOf (cp w C A V h, nx) [.ref 230, .int (iI ((c : Int))), .int (iI ((s : Int)))] 0 0 (some (.ref (sa c s))) (cp w C A V h, nx) := by
  have hn2 := hD.n2
  obtain ⟨m9, v9, e0, e9⟩ := hD.list (w := w) (A := A) hc
  refine MD.of (by decide +kernel) (by simp [Value.category]) (tle rfl) (fun X b => ?_)
  change WW X g _ _ 0 0 0 [some (.ref 230), some (.int (iI ((c : Int)))), some (.int (iI ((s : Int))))] [] _
  refine w_aload_n b dX0_stepOf_0 rfl rfl ?_
  refine q_get b dX0_stepOf_1 lfX0_12 (tlt rfl) ct_230 rfl ?_
  refine w_iload_n b dX0_stepOf_4 rfl ?_
  refine c_V1 b dX0_stepOf_5 lmX0_42 (cpS (tlt rfl) ct_231) (k_getC hD (by omega)) (tle rfl) (by omega) (by omega) (by omega) ?_
  refine w_castS (ci := 2) b dX0_stepOf_8 rfl lcX0_46 (hD.chant (by omega)) ?_
  refine w_getf b dX0_stepOf_11 lfX0_48 (hD.chant (by omega)) rfl ?_
  refine w_iload_n b dX0_stepOf_14 rfl ?_
  refine c_V1 b dX0_stepOf_15 lmX0_42 e0 (k_getS hD hc hs) (tle rfl) (by omega) (by omega) (by omega) ?_
  refine w_castS (ci := 5) b dX0_stepOf_18 rfl lcX0_51 (hD.step hc hs) ?_
  exact w_aret b dX0_stepOf_21 rfl (Or.inl ⟨_, rfl⟩) rfl (by omega) (by omega) ⟨rfl, rfl⟩
set_option maxRecDepth 20000 in
theorem k_X0_heard {l0 : Launch} {g : Gw} {w nx : Nat} {h : Nat → va_E} {C : Nat → Nat → Int} {A : Nat → Int → Int} {V : Nat → Value} {p : Int} (hp : inR p) (hf : 0 ≤ C 230 5 ∧ C 230 5 ≤ 1000) : MD l0 g 0 mX0_heard (cp w C A V h, nx) [.ref 230, .int (iI (p))] 0 0 (some (.int (iI (if 0 ≤ p ∧ p < C 230 5 then A 232 p else 0)))) (cp w C A V h, nx) := by
  refine MD.of (by decide +kernel) (by simp [Value.category]) (tle rfl) (fun X b => ?_)
  change WW X g _ _ 0 0 0 [some (.ref 230), some (.int (iI (p)))] [] _
  refine w_iload_n b dX0_heard_0 rfl ?_
  refine z_if_lt (tgt := 21) b dX0_heard_1 (by decide) (by omega) (fun c1 => ?_) (fun c1 => ?_)
  · refine z_iconst b dX0_heard_21 ?_
    exact w_iret b dX0_heard_22 rfl (by omega) (by omega) ⟨iv_eq (by first | rfl | omega | ((try simp only [b2]); ((repeat' split) <;> (first | rfl | omega)))), rfl⟩
  · refine w_iload_n b dX0_heard_4 rfl ?_
    refine w_aload_n b dX0_heard_5 rfl rfl ?_
    refine q_get b dX0_heard_6 lfX0_92 (tlt rfl) ct_230 rfl ?_
    refine z_icmp_ge (tgt := 21) b dX0_heard_9 (by decide) (by omega) (fun c9 => ?_) (fun c9 => ?_)
    · refine z_iconst b dX0_heard_21 ?_
      exact w_iret b dX0_heard_22 rfl (by omega) (by omega) ⟨iv_eq (by first | rfl | omega | ((try simp only [b2]); ((repeat' split) <;> (first | rfl | omega)))), rfl⟩
    · refine w_aload_n b dX0_heard_12 rfl rfl ?_
      refine q_get b dX0_heard_13 lfX0_18 (tlt rfl) ct_230 rfl ?_
      refine w_iload_n b dX0_heard_16 rfl ?_
      refine q_bald b dX0_heard_17 (tlt rfl) ct_232 (by omega) ?_
      refine w_goto (tgt := 22) b dX0_heard_18 (by decide) ?_
      exact w_iret b dX0_heard_22 rfl (by omega) (by omega) ⟨iv_eq (by first | rfl | omega | ((try simp only [b2]); ((repeat' split) <;> (first | rfl | omega)))), rfl⟩
set_option maxRecDepth 20000 in
theorem k_X0_endOf {l0 : Launch} {g : Gw} {w nx : Nat} {h : Nat → va_E} {C : Nat → Nat → Int} {A : Nat → Int → Int} {V : Nat → Value} {s : Int} (hs : inR s) : MD l0 g 0 mX0_endOf (cp w C A V h, nx) [.ref 230, .int (iI (s))] 0 0 (some (.int (iI (if 0 ≤ s ∧ s < 12 then A 233 s else 0)))) (cp w C A V h, nx) := by
  refine MD.of (by decide +kernel) (by simp [Value.category]) (tle rfl) (fun X b => ?_)
  change WW X g _ _ 0 0 0 [some (.ref 230), some (.int (iI (s)))] [] _
  refine w_iload_n b dX0_endOf_0 rfl ?_
  refine z_if_lt (tgt := 22) b dX0_endOf_1 (by decide) (by omega) (fun c1 => ?_) (fun c1 => ?_)
  · refine z_iconst b dX0_endOf_22 ?_
    exact w_iret b dX0_endOf_23 rfl (by omega) (by omega) ⟨iv_eq (by first | rfl | omega | ((try simp only [b2]); ((repeat' split) <;> (first | rfl | omega)))), rfl⟩
  · refine w_iload_n b dX0_endOf_4 rfl ?_
    refine w_aload_n b dX0_endOf_5 rfl rfl ?_
    refine q_get b dX0_endOf_6 lfX0_22 (tlt rfl) ct_230 rfl ?_
    refine q_alen b dX0_endOf_9 (tlt rfl) ct_233 (tlt rfl) ?_
    refine z_icmp_ge (tgt := 22) b dX0_endOf_10 (by decide) (by omega) (fun c10 => ?_) (fun c10 => ?_)
    · refine z_iconst b dX0_endOf_22 ?_
      exact w_iret b dX0_endOf_23 rfl (by omega) (by omega) ⟨iv_eq (by first | rfl | omega | ((try simp only [b2]); ((repeat' split) <;> (first | rfl | omega)))), rfl⟩
    · refine w_aload_n b dX0_endOf_13 rfl rfl ?_
      refine q_get b dX0_endOf_14 lfX0_22 (tlt rfl) ct_230 rfl ?_
      refine w_iload_n b dX0_endOf_17 rfl ?_
      refine q_iald b dX0_endOf_18 (tlt rfl) ct_233 (by omega) ?_
      refine w_goto (tgt := 23) b dX0_endOf_19 (by decide) ?_
      exact w_iret b dX0_endOf_23 rfl (by omega) (by omega) ⟨iv_eq (by first | rfl | omega | ((try simp only [b2]); ((repeat' split) <;> (first | rfl | omega)))), rfl⟩
set_option maxRecDepth 20000 in
theorem l_X0_stepThatCalled {X : Cx} {l0 : Launch} {g : Gw} {Q : Option Value → Sg → Prop} {w nx : Nat} {h : Nat → va_E} {C : Nat → Nat → Int} {A : Nat → Int → Int} {V : Nat → Value} (b : BX X l0 g mX0_stepThatCalled 0 0 0) {p : Int} (hp : inR p) (hE : ∀ j, 0 ≤ j → j < 12 → inR (A 233 j)) : ∀ (n : Nat) (s : Int), (s + n = 12) → (0 ≤ s) → (∃ j, s ≤ j ∧ j < 12 ∧ p < A 233 j) → Q (some (.int (iI (stA (A 233) p n s)))) (cp w C A V h, nx) → WW X g mX0_stepThatCalled.2.2.1 (ZQ X g Q 0 0) 0 0 2 [some (.ref 230), some (.int (iI (p))), some (.int (iI (s)))] [] (cp w C A V h, nx) := by
  intro n
  induction n with
  | zero =>
    intro s h1 h2 h3 hq
    refine w_iload_n b dX0_stepThatCalled_2 rfl ?_
    refine w_aload_n b dX0_stepThatCalled_3 rfl rfl ?_
    refine q_get b dX0_stepThatCalled_4 lfX0_22 (tlt rfl) ct_230 rfl ?_
    refine q_alen b dX0_stepThatCalled_7 (tlt rfl) ct_233 (tlt rfl) ?_
    refine z_icmp_ge (tgt := 29) b dX0_stepThatCalled_8 (by decide) (by omega) (fun c8 => ?_) (fun c8 => ?_)
    · refine z_iconst b dX0_stepThatCalled_29 ?_
      exact w_iret b dX0_stepThatCalled_30 rfl (by omega) (by omega) (by exfalso; obtain ⟨j, q1, q2, q3⟩ := h3; omega)
    · exfalso; omega
  | succ n ih =>
    intro s h1 h2 h3 hq
    refine w_iload_n b dX0_stepThatCalled_2 rfl ?_
    refine w_aload_n b dX0_stepThatCalled_3 rfl rfl ?_
    refine q_get b dX0_stepThatCalled_4 lfX0_22 (tlt rfl) ct_230 rfl ?_
    refine q_alen b dX0_stepThatCalled_7 (tlt rfl) ct_233 (tlt rfl) ?_
    refine z_icmp_ge (tgt := 29) b dX0_stepThatCalled_8 (by decide) (by omega) (fun c8 => ?_) (fun c8 => ?_)
    · exfalso; omega
    · refine w_aload_n b dX0_stepThatCalled_11 rfl rfl ?_
      refine q_get b dX0_stepThatCalled_12 lfX0_22 (tlt rfl) ct_230 rfl ?_
      refine w_iload_n b dX0_stepThatCalled_15 rfl ?_
      refine q_iald b dX0_stepThatCalled_16 (tlt rfl) ct_233 (by omega) ?_
      refine w_iload_n b dX0_stepThatCalled_17 rfl ?_
      refine z_icmp_le (tgt := 23) b dX0_stepThatCalled_18 (by decide) ⟨hE s (by omega) (by omega), hp⟩ (fun c18 => ?_) (fun c18 => ?_)
      · have e1 : stA (A 233) p (n + 1) s = stA (A 233) p n (s + 1) := by
          conv => lhs; unfold stA
          exact if_pos c18
        rw [e1] at hq
        have h3 : ∃ j, s + 1 ≤ j ∧ j < 12 ∧ p < A 233 j := by
          obtain ⟨j, q1, q2, q3⟩ := h3
          refine ⟨j, ?_, q2, q3⟩
          rcases Int.lt_or_eq_of_le q1 with z | z
          · omega
          · subst z; omega
        refine z_iinc b dX0_stepThatCalled_23 rfl rfl rfl ?_
        refine w_goto (tgt := 2) b dX0_stepThatCalled_26 (by decide) ?_
        exact ih (s + 1) (by omega) (by omega) h3 hq
      · have e1 : stA (A 233) p (n + 1) s = s := by
          unfold stA
          exact if_neg c18
        rw [e1] at hq
        refine w_iload_n b dX0_stepThatCalled_21 rfl ?_
        exact w_iret b dX0_stepThatCalled_22 rfl (by omega) (by omega) hq
set_option maxRecDepth 20000 in
theorem k_X0_stepThatCalled {l0 : Launch} {g : Gw} {w nx : Nat} {h : Nat → va_E} {C : Nat → Nat → Int} {A : Nat → Int → Int} {V : Nat → Value} {p : Int} (hp : inR p) (hE : ∀ j, 0 ≤ j → j < 12 → inR (A 233 j)) (hx : ∃ j, 0 ≤ j ∧ j < 12 ∧ p < A 233 j) : MD l0 g 0 mX0_stepThatCalled (cp w C A V h, nx) [.ref 230, .int (iI (p))] 0 0 (some (.int (iI (stF (A 233) p)))) (cp w C A V h, nx) := by
  refine MD.of (by decide +kernel) (by simp [Value.category]) (tle rfl) (fun X b => ?_)
  change WW X g _ _ 0 0 0 [some (.ref 230), some (.int (iI (p))), none] [] _
  refine z_iconst b dX0_stepThatCalled_0 ?_
  refine w_istore_n b dX0_stepThatCalled_1 (tlt rfl) rfl ?_
  exact l_X0_stepThatCalled b hp hE 12 0 (by omega) (by omega) hx ⟨rfl, rfl⟩
