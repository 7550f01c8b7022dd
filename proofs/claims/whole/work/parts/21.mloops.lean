/-! THE REFERENCE: loops (by p21.py) -/
set_option maxRecDepth 20000 in
theorem l_X9_handAt {X : Cx} {l0 : Launch} {g : Gw} {Z : State → Prop} {mo nx : Nat} {h0 : Nat → va_E} {I : Nat → Int} {F : Nat → Int → Int} (b : BX X l0 g mX9_handAt 0 0 0) {p : Int} (hp : inR p) (h16 : ∀ j, 0 ≤ j → j ≤ 5 → 1 ≤ F 16 j ∧ F 16 j ≤ 40) : ∀ (n : Nat) (h e : Int), (h + n = 5) → (0 ≤ h) → (0 ≤ e ∧ e ≤ 40 * h + 40) → WW X g mX9_handAt.2.2.1 Z 0 0 34 [some (.ref mo), some (.int (iI (p))), some (.int (iI (hfA (F 16) p n h e))), none] [] (mp mo h0 I F, nx) → WW X g mX9_handAt.2.2.1 Z 0 0 9 [some (.ref mo), some (.int (iI (p))), some (.int (iI (h))), some (.int (iI (e)))] [] (mp mo h0 I F, nx) := by
  intro n
  induction n with
  | zero =>
    intro h e h1 h2 h3 kk
    refine w_iload_n b dX9_handAt_9 rfl ?_
    refine z_iconst b dX9_handAt_10 ?_
    refine z_icmp_ge (tgt := 34) b dX9_handAt_11 (by decide) (by omega) (fun c11 => ?_) (fun c11 => ?_)
    · refine ww_forget 3 ?_
      exact kk
    · exfalso; omega
  | succ n ih =>
    intro h e h1 h2 h3 kk
    refine w_iload_n b dX9_handAt_9 rfl ?_
    refine z_iconst b dX9_handAt_10 ?_
    refine z_icmp_ge (tgt := 34) b dX9_handAt_11 (by decide) (by omega) (fun c11 => ?_) (fun c11 => ?_)
    · exfalso; omega
    · refine w_iload_n b dX9_handAt_14 rfl ?_
      refine w_iload_n b dX9_handAt_15 rfl ?_
      refine z_icmp_lt (tgt := 34) b dX9_handAt_16 (by decide) (by omega) (fun h16_ => ?_) (fun h16_ => ?_)
      · refine ww_forget 3 ?_
        have e1 : hfA (F 16) p (n + 1) h e = h := by unfold hfA; exact if_pos h16_
        rw [e1] at kk
        exact kk
      · refine z_iinc b dX9_handAt_19 rfl rfl rfl ?_
        refine w_iload_n b dX9_handAt_22 rfl ?_
        refine w_aload_n b dX9_handAt_23 rfl rfl ?_
        refine m_get b dX9_handAt_24 lfX9_56 rfl ?_
        refine w_iload_n b dX9_handAt_27 rfl ?_
        refine m_ald b dX9_handAt_28 rfl (by omega) rfl ?_
        refine z_iadd b dX9_handAt_29 ?_
        refine w_istore_n b dX9_handAt_30 (tlt rfl) rfl ?_
        refine w_goto (tgt := 9) b dX9_handAt_31 (by decide) ?_
        have e1 : hfA (F 16) p (n + 1) h e = hfA (F 16) p n (h + 1) (e + F 16 (h + 1)) := by
          conv => lhs; unfold hfA
          exact if_neg h16_
        rw [e1] at kk
        exact ih (h + 1) (e + F 16 (h + 1)) (by omega) (by omega) (by have := h16 (h + 1) (by omega) (by omega); omega) kk
set_option maxRecDepth 20000 in
theorem k_X9_handAt {l0 : Launch} {g : Gw} {mo nx : Nat} {h0 : Nat → va_E} {I : Nat → Int} {F : Nat → Int → Int} {p : Int} (hp : inR p) (h16 : ∀ j, 0 ≤ j → j ≤ 5 → 1 ≤ F 16 j ∧ F 16 j ≤ 40) : MD l0 g 0 mX9_handAt (mp mo h0 I F, nx) [.ref mo, .int (iI (p))] 0 0 (some (.int (iI (handF (F 16) p)))) (mp mo h0 I F, nx) := by
  refine MD.of (by decide +kernel) (by simp [Value.category]) (tle rfl) (fun X b => ?_)
  change WW X g _ _ 0 0 0 [some (.ref mo), some (.int (iI (p))), none, none] [] _
  refine z_iconst b dX9_handAt_0 ?_
  refine w_istore_n b dX9_handAt_1 (tlt rfl) rfl ?_
  refine w_aload_n b dX9_handAt_2 rfl rfl ?_
  refine m_get b dX9_handAt_3 lfX9_56 rfl ?_
  refine z_iconst b dX9_handAt_6 ?_
  refine m_ald b dX9_handAt_7 rfl (by omega) rfl ?_
  refine w_istore_n b dX9_handAt_8 (tlt rfl) rfl ?_
  refine l_X9_handAt b hp h16 5 0 (F 16 0) (by omega) (by omega) (by have := h16 0 (by omega) (by omega); omega) ?_
  refine w_iload_n b dX9_handAt_34 rfl ?_
  exact w_iret b dX9_handAt_35 rfl (by omega) (by omega) ⟨iv_eq (by first | rfl | omega | (simp only [b2]; split <;> omega)), rfl⟩
set_option maxRecDepth 20000 in
theorem l_X9_leftOf {X : Cx} {l0 : Launch} {g : Gw} {Z : State → Prop} {mo nx : Nat} {h0 : Nat → va_E} {I : Nat → Int} {F : Nat → Int → Int} (b : BX X l0 g mX9_leftOf 0 0 0) {c : Int} (hc : 0 ≤ c ∧ c ≤ 7) (h18 : 0 ≤ F 18 c ∧ F 18 c ≤ 10) : ∀ (n : Nat) (l a : Int), (l + n = F 18 c) → (0 ≤ l) → WW X g mX9_leftOf.2.2.1 Z 0 0 34 [some (.ref mo), some (.int (iI (c))), some (.int (iI (sumA (fun l => F 20 (10 * c + l)) n l a))), none] [] (mp mo h0 I F, nx) → WW X g mX9_leftOf.2.2.1 Z 0 0 4 [some (.ref mo), some (.int (iI (c))), some (.int (iI (a))), some (.int (iI (l)))] [] (mp mo h0 I F, nx) := by
  intro n
  induction n with
  | zero =>
    intro l a h1 h2 kk
    refine w_iload_n b dX9_leftOf_4 rfl ?_
    refine w_aload_n b dX9_leftOf_5 rfl rfl ?_
    refine m_get b dX9_leftOf_6 lfX9_62 rfl ?_
    refine w_iload_n b dX9_leftOf_9 rfl ?_
    refine m_ald b dX9_leftOf_10 rfl (by omega) rfl ?_
    refine z_icmp_ge (tgt := 34) b dX9_leftOf_11 (by decide) (by omega) (fun c11 => ?_) (fun c11 => ?_)
    · refine ww_forget 3 ?_
      exact kk
    · exfalso; omega
  | succ n ih =>
    intro l a h1 h2 kk
    refine w_iload_n b dX9_leftOf_4 rfl ?_
    refine w_aload_n b dX9_leftOf_5 rfl rfl ?_
    refine m_get b dX9_leftOf_6 lfX9_62 rfl ?_
    refine w_iload_n b dX9_leftOf_9 rfl ?_
    refine m_ald b dX9_leftOf_10 rfl (by omega) rfl ?_
    refine z_icmp_ge (tgt := 34) b dX9_leftOf_11 (by decide) (by omega) (fun c11 => ?_) (fun c11 => ?_)
    · exfalso; omega
    · refine w_iload_n b dX9_leftOf_14 rfl ?_
      refine w_aload_n b dX9_leftOf_15 rfl rfl ?_
      refine m_get b dX9_leftOf_16 lfX9_68 rfl ?_
      refine z_bipush b dX9_leftOf_19 (by decide) ?_
      refine w_iload_n b dX9_leftOf_21 rfl ?_
      refine z_imul b dX9_leftOf_22 ?_
      refine w_iload_n b dX9_leftOf_23 rfl ?_
      refine z_iadd b dX9_leftOf_24 ?_
      refine m_ald b dX9_leftOf_25 rfl (by omega) rfl ?_
      refine z_iadd b dX9_leftOf_26 ?_
      refine w_istore_n b dX9_leftOf_27 (tlt rfl) rfl ?_
      refine z_iinc b dX9_leftOf_28 rfl rfl rfl ?_
      refine w_goto (tgt := 4) b dX9_leftOf_31 (by decide) ?_
      exact ih (l + 1) (a + F 20 (10 * c + l)) (by omega) (by omega) kk
set_option maxRecDepth 20000 in
theorem k_X9_leftOf {l0 : Launch} {g : Gw} {mo nx : Nat} {h0 : Nat → va_E} {I : Nat → Int} {F : Nat → Int → Int} {c : Int} (hc : 0 ≤ c ∧ c ≤ 7) (h18 : 0 ≤ F 18 c ∧ F 18 c ≤ 10) : MD l0 g 0 mX9_leftOf (mp mo h0 I F, nx) [.ref mo, .int (iI (c))] 0 0 (some (.int (iI (sumA (fun l => F 20 (10 * c + l)) (F 18 c).toNat 0 0)))) (mp mo h0 I F, nx) := by
  refine MD.of (by decide +kernel) (by simp [Value.category]) (tle rfl) (fun X b => ?_)
  change WW X g _ _ 0 0 0 [some (.ref mo), some (.int (iI (c))), none, none] [] _
  refine z_iconst b dX9_leftOf_0 ?_
  refine w_istore_n b dX9_leftOf_1 (tlt rfl) rfl ?_
  refine z_iconst b dX9_leftOf_2 ?_
  refine w_istore_n b dX9_leftOf_3 (tlt rfl) rfl ?_
  refine l_X9_leftOf b hc h18 (F 18 c).toNat 0 0 (by omega) (by omega) ?_
  refine w_iload_n b dX9_leftOf_34 rfl ?_
  exact w_iret b dX9_leftOf_35 rfl (by omega) (by omega) ⟨iv_eq (by first | rfl | omega | (simp only [b2]; split <;> omega)), rfl⟩
set_option maxRecDepth 20000 in
theorem l_X9_isEnough {X : Cx} {l0 : Launch} {g : Gw} {Z : State → Prop} {mo nx : Nat} {h0 : Nat → va_E} {I : Nat → Int} {F : Nat → Int → Int} (b : BX X l0 g mX9_isEnough 1 0 0) {e c : Int} (hc : 0 ≤ c ∧ c ≤ 7) (h1_ : 4 ≤ I 1 ∧ I 1 ≤ 40) (h7_ : ∀ j, 0 ≤ j → j < 1000 → inR (F 7 j)) : ∀ (n : Nat) (i a : Int), (i + n = I 1) → (0 ≤ i) → WW X g mX9_isEnough.2.2.1 Z 0 0 49 [some (.ref mo), some (.int (iI (e))), some (.int (iI (c))), some (.int (iI (sumA (fun i => b2 (F 7 i = c)) n i a))), none] [] (mp mo h0 I F, nx) → WW X g mX9_isEnough.2.2.1 Z 0 0 15 [some (.ref mo), some (.int (iI (e))), some (.int (iI (c))), some (.int (iI (a))), some (.int (iI (i)))] [] (mp mo h0 I F, nx) := by
  intro n
  induction n with
  | zero =>
    intro i a h1 h2 kk
    refine w_iload b dX9_isEnough_15 rfl ?_
    refine w_aload_n b dX9_isEnough_17 rfl rfl ?_
    refine m_get b dX9_isEnough_18 lfX9_134 rfl ?_
    refine z_icmp_ge (tgt := 49) b dX9_isEnough_21 (by decide) (by omega) (fun c21 => ?_) (fun c21 => ?_)
    · refine ww_forget 4 ?_
      exact kk
    · exfalso; omega
  | succ n ih =>
    intro i a h1 h2 kk
    refine w_iload b dX9_isEnough_15 rfl ?_
    refine w_aload_n b dX9_isEnough_17 rfl rfl ?_
    refine m_get b dX9_isEnough_18 lfX9_134 rfl ?_
    refine z_icmp_ge (tgt := 49) b dX9_isEnough_21 (by decide) (by omega) (fun c21 => ?_) (fun c21 => ?_)
    · exfalso; omega
    · refine w_iload_n b dX9_isEnough_24 rfl ?_
      refine w_aload_n b dX9_isEnough_25 rfl rfl ?_
      refine m_get b dX9_isEnough_26 lfX9_29 rfl ?_
      refine w_iload b dX9_isEnough_29 rfl ?_
      refine m_ald b dX9_isEnough_31 rfl (by omega) rfl ?_
      refine w_iload_n b dX9_isEnough_32 rfl ?_
      refine z_icmp_ne (tgt := 40) b dX9_isEnough_33 (by decide) (by have := h7_ i (by omega) (by omega); omega) (fun hq => ?_) (fun hq => ?_)
      · have e1 : b2 (F 7 i = c) = 0 := b2_f hq
        have kk : _ := kk
        rw [sumA, e1] at kk
        refine z_iconst b dX9_isEnough_40 ?_
        refine z_iadd b dX9_isEnough_41 ?_
        refine w_istore_n b dX9_isEnough_42 (tlt rfl) rfl ?_
        refine z_iinc b dX9_isEnough_43 rfl rfl rfl ?_
        refine w_goto (tgt := 15) b dX9_isEnough_46 (by decide) ?_
        exact ih (i + 1) _ (by omega) (by omega) kk
      · have e1 : b2 (F 7 i = c) = 1 := b2_t hq
        rw [sumA, e1] at kk
        refine z_iconst b dX9_isEnough_36 ?_
        refine w_goto (tgt := 41) b dX9_isEnough_37 (by decide) ?_
        refine z_iadd b dX9_isEnough_41 ?_
        refine w_istore_n b dX9_isEnough_42 (tlt rfl) rfl ?_
        refine z_iinc b dX9_isEnough_43 rfl rfl rfl ?_
        refine w_goto (tgt := 15) b dX9_isEnough_46 (by decide) ?_
        exact ih (i + 1) _ (by omega) (by omega) kk
theorem cnt_rng (p : Int → Prop) [DecidablePred p] {n : Nat} (h : n ≤ 1600) : 0 ≤ sumA (fun i => b2 (p i)) n 0 0 ∧ sumA (fun i => b2 (p i)) n 0 0 ≤ 1600 := by
  have h1 := sumA_bd (f := fun i => b2 (p i)) (lo := 0) (hi := 1) n 0 0 (fun j _ _ => b2_rng (p j))
  omega
theorem left_rng {f : Int → Int} {c : Int} {n : Nat} (hn : n ≤ 10) (hf : ∀ l, 0 ≤ l → l < 10 → 0 ≤ f l ∧ f l ≤ 1000) : 0 ≤ sumA f n 0 0 ∧ sumA f n 0 0 ≤ 10000 := by
  have h1 := sumA_bd (f := f) (lo := 0) (hi := 1000) n 0 0 (fun j h1 h2 => hf j (by omega) (by omega))
  omega
set_option maxRecDepth 20000 in
theorem l_X9_isEnough2 {X : Cx} {l0 : Launch} {g : Gw} {Z : State → Prop} {mo nx : Nat} {h0 : Nat → va_E} {I : Nat → Int} {F : Nat → Int → Int} (b : BX X l0 g mX9_isEnough 1 0 0)  (h1_ : 4 ≤ I 1 ∧ I 1 ≤ 40) (h7_ : ∀ j, 0 ≤ j → j < 1000 → inR (F 7 j)) (h18 : ∀ c, 0 ≤ c → c ≤ 7 → 0 ≤ F 18 c ∧ F 18 c ≤ 10) (h20 : ∀ j, 0 ≤ j → j < 80 → 0 ≤ F 20 j ∧ F 20 j ≤ 1000) : ∀ (n : Nat) (c e : Int), (c + n = 8) → (0 ≤ c) → (e = 0 ∨ e = 1) → WW X g mX9_isEnough.2.2.1 Z 0 0 74 [some (.ref mo), some (.int (iI (allA (fun c => sumA (fun i => b2 (F 7 i = c)) (I 1).toNat 0 0 ≤ sumA (fun l => F 20 (10 * c + l)) (F 18 c).toNat 0 0) n c e))), none, none, none] [] (mp mo h0 I F, nx) → WW X g mX9_isEnough.2.2.1 Z 0 0 4 [some (.ref mo), some (.int (iI (e))), some (.int (iI (c))), none, none] [] (mp mo h0 I F, nx) := by
  intro n
  induction n with
  | zero =>
    intro c e h1 h2 h3 kk
    refine w_iload_n b dX9_isEnough_4 rfl ?_
    refine z_bipush b dX9_isEnough_5 (by decide) ?_
    refine z_icmp_ge (tgt := 74) b dX9_isEnough_7 (by decide) (by omega) (fun c7 => ?_) (fun c7 => ?_)
    · refine ww_forget 2 ?_
      exact kk
    · exfalso; omega
  | succ n ih =>
    intro c e h1 h2 h3 kk
    refine w_iload_n b dX9_isEnough_4 rfl ?_
    refine z_bipush b dX9_isEnough_5 (by decide) ?_
    refine z_icmp_ge (tgt := 74) b dX9_isEnough_7 (by decide) (by omega) (fun c7 => ?_) (fun c7 => ?_)
    · exfalso; omega
    · refine z_iconst b dX9_isEnough_10 ?_
      refine w_istore_n b dX9_isEnough_11 (tlt rfl) rfl ?_
      refine z_iconst b dX9_isEnough_12 ?_
      refine w_istore b dX9_isEnough_13 (tlt rfl) rfl ?_
      refine l_X9_isEnough b (by omega) h1_ h7_ (I 1).toNat 0 0 (by omega) (by omega) ?_
      have hr1 := cnt_rng (fun i => F 7 i = c) (n := (I 1).toNat) (by omega)
      have hr2 := left_rng (f := fun l => F 20 (10 * c + l)) (c := c) (n := (F 18 c).toNat) (by have := h18 c (by omega) (by omega); omega) (fun l h1 h2 => h20 (10 * c + l) (by omega) (by omega))
      refine w_iload_n b dX9_isEnough_49 rfl ?_
      refine z_if_eq (tgt := 66) b dX9_isEnough_50 (by decide) (by omega) (fun h50 => ?_) (fun h50 => ?_)
      · have e1 : b2 (¬ e = 0 ∧ (fun c => sumA (fun i => b2 (F 7 i = c)) (I 1).toNat 0 0 ≤ sumA (fun l => F 20 (10 * c + l)) (F 18 c).toNat 0 0) c) = 0 := b2_f (fun z => z.1 h50)
        rw [allA, e1] at kk
        refine z_iconst b dX9_isEnough_66 ?_
        refine w_istore_n b dX9_isEnough_67 (tlt rfl) rfl ?_
        refine z_iinc b dX9_isEnough_68 rfl rfl rfl ?_
        refine w_goto (tgt := 4) b dX9_isEnough_71 (by decide) ?_
        refine ww_forget 3 ?_
        refine ww_forget 4 ?_
        exact ih (c + 1) _ (by omega) (by omega) (by omega) kk
      · refine w_iload_n b dX9_isEnough_53 rfl ?_
        refine w_aload_n b dX9_isEnough_54 rfl rfl ?_
        refine w_iload_n b dX9_isEnough_55 rfl ?_
        refine c_V1 b dX9_isEnough_56 lmX9_175 (mp_obj _ _ _ _) (k_X9_leftOf (by omega) (h18 c (by omega) (by omega))) (tle rfl) (by omega) (by omega) (by omega) ?_
        refine z_icmp_gt (tgt := 66) b dX9_isEnough_59 (by decide) (by omega) (fun h59 => ?_) (fun h59 => ?_)
        · have e1 : b2 (¬ e = 0 ∧ (fun c => sumA (fun i => b2 (F 7 i = c)) (I 1).toNat 0 0 ≤ sumA (fun l => F 20 (10 * c + l)) (F 18 c).toNat 0 0) c) = 0 := b2_f (fun z => absurd z.2 (Int.not_le.mpr h59))
          rw [allA, e1] at kk
          refine z_iconst b dX9_isEnough_66 ?_
          refine w_istore_n b dX9_isEnough_67 (tlt rfl) rfl ?_
          refine z_iinc b dX9_isEnough_68 rfl rfl rfl ?_
          refine w_goto (tgt := 4) b dX9_isEnough_71 (by decide) ?_
          refine ww_forget 3 ?_
          refine ww_forget 4 ?_
          exact ih (c + 1) _ (by omega) (by omega) (by omega) kk
        · have e1 : b2 (¬ e = 0 ∧ (fun c => sumA (fun i => b2 (F 7 i = c)) (I 1).toNat 0 0 ≤ sumA (fun l => F 20 (10 * c + l)) (F 18 c).toNat 0 0) c) = 1 := b2_t ⟨h50, Int.not_lt.mp h59⟩
          rw [allA, e1] at kk
          refine z_iconst b dX9_isEnough_62 ?_
          refine w_goto (tgt := 67) b dX9_isEnough_63 (by decide) ?_
          refine w_istore_n b dX9_isEnough_67 (tlt rfl) rfl ?_
          refine z_iinc b dX9_isEnough_68 rfl rfl rfl ?_
          refine w_goto (tgt := 4) b dX9_isEnough_71 (by decide) ?_
          refine ww_forget 3 ?_
          refine ww_forget 4 ?_
          exact ih (c + 1) _ (by omega) (by omega) (by omega) kk
set_option maxRecDepth 20000 in
theorem k_X9_isEnough {l0 : Launch} {g : Gw} {mo nx : Nat} {h0 : Nat → va_E} {I : Nat → Int} {F : Nat → Int → Int}  (h1_ : 4 ≤ I 1 ∧ I 1 ≤ 40) (h7_ : ∀ j, 0 ≤ j → j < 1000 → inR (F 7 j)) (h18 : ∀ c, 0 ≤ c → c ≤ 7 → 0 ≤ F 18 c ∧ F 18 c ≤ 10) (h20 : ∀ j, 0 ≤ j → j < 80 → 0 ≤ F 20 j ∧ F 20 j ≤ 1000) : MD l0 g 1 mX9_isEnough (mp mo h0 I F, nx) [.ref mo] 0 0 (some (.int (iI (allA (fun c => sumA (fun i => b2 (F 7 i = c)) (I 1).toNat 0 0 ≤ sumA (fun l => F 20 (10 * c + l)) (F 18 c).toNat 0 0) 8 0 1)))) (mp mo h0 I F, nx) := by
  refine MD.of (by decide +kernel) (by simp [Value.category]) (tle rfl) (fun X b => ?_)
  change WW X g _ _ 0 0 0 [some (.ref mo), none, none, none, none] [] _
  refine z_iconst b dX9_isEnough_0 ?_
  refine w_istore_n b dX9_isEnough_1 (tlt rfl) rfl ?_
  refine z_iconst b dX9_isEnough_2 ?_
  refine w_istore_n b dX9_isEnough_3 (tlt rfl) rfl ?_
  refine l_X9_isEnough2 b h1_ h7_ h18 h20 8 0 1 (by omega) (by omega) (by omega) ?_
  refine w_iload_n b dX9_isEnough_74 rfl ?_
  exact z_zret b dX9_isEnough_75 rfl (allA_01 _ 8 0 1 (by omega)) (by omega) (by omega) ⟨iv_eq (by first | rfl | omega | (simp only [b2]; split <;> omega)), rfl⟩
set_option maxRecDepth 20000 in
theorem l_X9_takeWool {X : Cx} {l0 : Launch} {g : Gw} {Z : State → Prop} {mo nx : Nat} {h0 : Nat → va_E} {I : Nat → Int} {F : Nat → Int → Int} (b : BX X l0 g mX9_takeWool 0 0 0) {c l1 : Int} (hc : 0 ≤ c ∧ c ≤ 7) (hl9 : 0 ≤ l1 ∧ l1 ≤ 9) (hz : ∀ j, 0 ≤ j → j < l1 → F 20 (10 * c + j) = 0) (hl1 : ¬ F 20 (10 * c + l1) = 0) (h20 : ∀ j, 0 ≤ j → j < 80 → 0 ≤ F 20 j ∧ F 20 j ≤ 1000) : ∀ (n : Nat) (l : Int), (l + n = l1) → (0 ≤ l) → WW X g mX9_takeWool.2.2.1 Z 0 0 22 [some (.ref mo), some (.int (iI (c))), some (.int (iI (l1)))] [] (mp mo h0 I F, nx) → WW X g mX9_takeWool.2.2.1 Z 0 0 2 [some (.ref mo), some (.int (iI (c))), some (.int (iI (l)))] [] (mp mo h0 I F, nx) := by
  intro n
  induction n with
  | zero =>
    intro l h1 h2 kk
    refine w_aload_n b dX9_takeWool_2 rfl rfl ?_
    refine m_get b dX9_takeWool_3 lfX9_68 rfl ?_
    refine z_bipush b dX9_takeWool_6 (by decide) ?_
    refine w_iload_n b dX9_takeWool_8 rfl ?_
    refine z_imul b dX9_takeWool_9 ?_
    refine w_iload_n b dX9_takeWool_10 rfl ?_
    refine z_iadd b dX9_takeWool_11 ?_
    refine m_ald b dX9_takeWool_12 rfl (by omega) rfl ?_
    refine z_if_ne (tgt := 22) b dX9_takeWool_13 (by decide) (by have := h20 (10 * c + l) (by omega) (by omega); omega) (fun c13 => ?_) (fun c13 => ?_)
    · have e1 : l = l1 := by omega
      subst e1
      exact kk
    · have e1 : l = l1 := by omega
      subst e1
      exact absurd c13 hl1
  | succ n ih =>
    intro l h1 h2 kk
    refine w_aload_n b dX9_takeWool_2 rfl rfl ?_
    refine m_get b dX9_takeWool_3 lfX9_68 rfl ?_
    refine z_bipush b dX9_takeWool_6 (by decide) ?_
    refine w_iload_n b dX9_takeWool_8 rfl ?_
    refine z_imul b dX9_takeWool_9 ?_
    refine w_iload_n b dX9_takeWool_10 rfl ?_
    refine z_iadd b dX9_takeWool_11 ?_
    refine m_ald b dX9_takeWool_12 rfl (by omega) rfl ?_
    refine z_if_ne (tgt := 22) b dX9_takeWool_13 (by decide) (by have := h20 (10 * c + l) (by omega) (by omega); omega) (fun c13 => ?_) (fun c13 => ?_)
    · exact absurd (hz l (by omega) (by omega)) c13
    · refine z_iinc b dX9_takeWool_16 rfl rfl rfl ?_
      refine w_goto (tgt := 2) b dX9_takeWool_19 (by decide) ?_
      exact ih (l + 1) (by omega) (by omega) kk
set_option maxRecDepth 20000 in
theorem k_X9_takeWool {l0 : Launch} {g : Gw} {mo nx : Nat} {h0 : Nat → va_E} {I : Nat → Int} {F : Nat → Int → Int} {c l1 : Int} (hc : 0 ≤ c ∧ c ≤ 7) (hl9 : 0 ≤ l1 ∧ l1 ≤ 9) (hz : ∀ j, 0 ≤ j → j < l1 → F 20 (10 * c + j) = 0) (hl1 : ¬ F 20 (10 * c + l1) = 0) (h20 : ∀ j, 0 ≤ j → j < 80 → 0 ≤ F 20 j ∧ F 20 j ≤ 1000) : MD l0 g 0 mX9_takeWool (mp mo h0 I F, nx) [.ref mo, .int (iI (c))] 0 0 (some (.int (iI (F 19 (10 * c + l1))))) (mp mo h0 I (va_up F 20 (fu (F 20) (10 * c + l1) (F 20 (10 * c + l1) - 1))), nx) := by
  refine MD.of (by decide +kernel) (by simp [Value.category]) (tle rfl) (fun X b => ?_)
  change WW X g _ _ 0 0 0 [some (.ref mo), some (.int (iI (c))), none] [] _
  refine z_iconst b dX9_takeWool_0 ?_
  refine w_istore_n b dX9_takeWool_1 (tlt rfl) rfl ?_
  refine l_X9_takeWool b hc hl9 hz hl1 h20 l1.toNat 0 (by omega) (by omega) ?_
  refine w_aload_n b dX9_takeWool_22 rfl rfl ?_
  refine m_get b dX9_takeWool_23 lfX9_68 rfl ?_
  refine z_bipush b dX9_takeWool_26 (by decide) ?_
  refine w_iload_n b dX9_takeWool_28 rfl ?_
  refine z_imul b dX9_takeWool_29 ?_
  refine w_iload_n b dX9_takeWool_30 rfl ?_
  refine z_iadd b dX9_takeWool_31 ?_
  refine w_dup2 b dX9_takeWool_32 rfl rfl ?_
  refine m_ald b dX9_takeWool_33 rfl (by omega) rfl ?_
  refine z_iconst b dX9_takeWool_34 ?_
  refine z_isub b dX9_takeWool_35 ?_
  refine m_ast b dX9_takeWool_36 rfl (by omega) ?_
  refine w_aload_n b dX9_takeWool_37 rfl rfl ?_
  refine m_get b dX9_takeWool_38 lfX9_65 rfl ?_
  refine z_bipush b dX9_takeWool_41 (by decide) ?_
  refine w_iload_n b dX9_takeWool_43 rfl ?_
  refine z_imul b dX9_takeWool_44 ?_
  refine w_iload_n b dX9_takeWool_45 rfl ?_
  refine z_iadd b dX9_takeWool_46 ?_
  refine m_ald b dX9_takeWool_47 rfl (by omega) rfl ?_
  exact w_iret b dX9_takeWool_48 rfl (by omega) (by omega) ⟨iv_eq (by first | rfl | omega | (simp only [b2]; split <;> omega)), rfl⟩
set_option maxRecDepth 20000 in
theorem l_X9_minutesOf {X : Cx} {l0 : Launch} {g : Gw} {Z : State → Prop} {mo nx : Nat} {h0 : Nat → va_E} {I : Nat → Int} {F : Nat → Int → Int} (b : BX X l0 g mX9_minutesOf 1 0 0) {h : Int} (hh : 0 ≤ h ∧ h ≤ 5) (h1_ : 4 ≤ I 1 ∧ I 1 ≤ 40) (h7_ : ∀ j, 0 ≤ j → j < 1000 → 0 ≤ F 7 j ∧ F 7 j ≤ 7) (h16 : ∀ j, 0 ≤ j → j ≤ 5 → 1 ≤ F 16 j ∧ F 16 j ≤ 40) : ∀ (n : Nat) (i k c l : Int), (i + n = I 1) → (0 ≤ i) → (-1 ≤ l ∧ l ≤ 7) → WW X g mX9_minutesOf.2.2.1 Z 0 0 75 [some (.ref mo), some (.int (iI (h))), some (.int (iI ((mnA (F 16) (F 7) h n i k c l).1))), some (.int (iI ((mnA (F 16) (F 7) h n i k c l).2))), none, none] [] (mp mo h0 I F, nx) → WW X g mX9_minutesOf.2.2.1 Z 0 0 10 [some (.ref mo), some (.int (iI (h))), some (.int (iI (k))), some (.int (iI (c))), some (.int (iI (l))), some (.int (iI (i)))] [] (mp mo h0 I F, nx) := by
  intro n
  induction n with
  | zero =>
    intro i k c l h1 h2 h3 kk
    refine w_iload b dX9_minutesOf_10 rfl ?_
    refine w_aload_n b dX9_minutesOf_12 rfl rfl ?_
    refine m_get b dX9_minutesOf_13 lfX9_134 rfl ?_
    refine z_icmp_ge (tgt := 75) b dX9_minutesOf_16 (by decide) (by omega) (fun c16 => ?_) (fun c16 => ?_)
    · refine ww_forget 4 ?_
      refine ww_forget 5 ?_
      exact kk
    · exfalso; omega
  | succ n ih =>
    intro i k c l h1 h2 h3 kk
    refine w_iload b dX9_minutesOf_10 rfl ?_
    refine w_aload_n b dX9_minutesOf_12 rfl rfl ?_
    refine m_get b dX9_minutesOf_13 lfX9_134 rfl ?_
    refine z_icmp_ge (tgt := 75) b dX9_minutesOf_16 (by decide) (by omega) (fun c16 => ?_) (fun c16 => ?_)
    · exfalso; omega
    · refine w_aload_n b dX9_minutesOf_19 rfl rfl ?_
      refine w_iload b dX9_minutesOf_20 rfl ?_
      refine c_V1 b dX9_minutesOf_22 lmX9_178 (mp_obj _ _ _ _) (k_X9_handAt (by omega) h16) (tle rfl) (by omega) (by omega) (by omega) ?_
      refine w_iload_n b dX9_minutesOf_25 rfl ?_
      refine z_icmp_eq (tgt := 32) b dX9_minutesOf_26 (by decide) (by have := handF_rng (F 16) i; omega) (fun c26 => ?_) (fun c26 => ?_)
      · refine z_iinc b dX9_minutesOf_32 rfl rfl rfl ?_
        refine w_iload_n b dX9_minutesOf_35 rfl ?_
        refine w_iload b dX9_minutesOf_36 rfl ?_
        refine z_if_lt (tgt := 57) b dX9_minutesOf_38 (by decide) (by omega) (fun c38 => ?_) (fun c38 => ?_)
        · have e2 : b2 (0 ≤ l ∧ ¬ F 7 i = l) = 0 := b2_f (fun z => absurd z.1 (Int.not_le.mpr c38))
          have e1 : mnA (F 16) (F 7) h (n + 1) i k c l = mnA (F 16) (F 7) h n (i + 1) (k + 1) (c + 0) (F 7 i) := by
            conv => lhs; unfold mnA
            rw [if_pos c26, e2]
          rw [e1] at kk
          refine z_iconst b dX9_minutesOf_57 ?_
          refine z_iadd b dX9_minutesOf_58 ?_
          refine w_istore_n b dX9_minutesOf_59 (tlt rfl) rfl ?_
          refine w_aload_n b dX9_minutesOf_60 rfl rfl ?_
          refine m_get b dX9_minutesOf_61 lfX9_29 rfl ?_
          refine w_iload b dX9_minutesOf_64 rfl ?_
          refine m_ald b dX9_minutesOf_66 rfl (by omega) rfl ?_
          refine w_istore b dX9_minutesOf_67 (tlt rfl) rfl ?_
          refine z_iinc b dX9_minutesOf_69 rfl rfl rfl ?_
          refine w_goto (tgt := 10) b dX9_minutesOf_72 (by decide) ?_
          exact ih (i + 1) _ _ _ (by omega) (by omega) (by have := h7_ i (by omega) (by omega); omega) kk
        · refine w_aload_n b dX9_minutesOf_41 rfl rfl ?_
          refine m_get b dX9_minutesOf_42 lfX9_29 rfl ?_
          refine w_iload b dX9_minutesOf_45 rfl ?_
          refine m_ald b dX9_minutesOf_47 rfl (by omega) rfl ?_
          refine w_iload b dX9_minutesOf_48 rfl ?_
          refine z_icmp_eq (tgt := 57) b dX9_minutesOf_50 (by decide) (by have := h7_ i (by omega) (by omega); omega) (fun c50 => ?_) (fun c50 => ?_)
          · have e2 : b2 (0 ≤ l ∧ ¬ F 7 i = l) = 0 := b2_f (fun z => z.2 c50)
            have e1 : mnA (F 16) (F 7) h (n + 1) i k c l = mnA (F 16) (F 7) h n (i + 1) (k + 1) (c + 0) (F 7 i) := by
              conv => lhs; unfold mnA
              rw [if_pos c26, e2]
            rw [e1] at kk
            refine z_iconst b dX9_minutesOf_57 ?_
            refine z_iadd b dX9_minutesOf_58 ?_
            refine w_istore_n b dX9_minutesOf_59 (tlt rfl) rfl ?_
            refine w_aload_n b dX9_minutesOf_60 rfl rfl ?_
            refine m_get b dX9_minutesOf_61 lfX9_29 rfl ?_
            refine w_iload b dX9_minutesOf_64 rfl ?_
            refine m_ald b dX9_minutesOf_66 rfl (by omega) rfl ?_
            refine w_istore b dX9_minutesOf_67 (tlt rfl) rfl ?_
            refine z_iinc b dX9_minutesOf_69 rfl rfl rfl ?_
            refine w_goto (tgt := 10) b dX9_minutesOf_72 (by decide) ?_
            exact ih (i + 1) _ _ _ (by omega) (by omega) (by have := h7_ i (by omega) (by omega); omega) kk
          · have e2 : b2 (0 ≤ l ∧ ¬ F 7 i = l) = 1 := b2_t ⟨Int.not_lt.mp c38, c50⟩
            have e1 : mnA (F 16) (F 7) h (n + 1) i k c l = mnA (F 16) (F 7) h n (i + 1) (k + 1) (c + 1) (F 7 i) := by
              conv => lhs; unfold mnA
              rw [if_pos c26, e2]
            rw [e1] at kk
            refine z_iconst b dX9_minutesOf_53 ?_
            refine w_goto (tgt := 58) b dX9_minutesOf_54 (by decide) ?_
            refine z_iadd b dX9_minutesOf_58 ?_
            refine w_istore_n b dX9_minutesOf_59 (tlt rfl) rfl ?_
            refine w_aload_n b dX9_minutesOf_60 rfl rfl ?_
            refine m_get b dX9_minutesOf_61 lfX9_29 rfl ?_
            refine w_iload b dX9_minutesOf_64 rfl ?_
            refine m_ald b dX9_minutesOf_66 rfl (by omega) rfl ?_
            refine w_istore b dX9_minutesOf_67 (tlt rfl) rfl ?_
            refine z_iinc b dX9_minutesOf_69 rfl rfl rfl ?_
            refine w_goto (tgt := 10) b dX9_minutesOf_72 (by decide) ?_
            exact ih (i + 1) _ _ _ (by omega) (by omega) (by have := h7_ i (by omega) (by omega); omega) kk
      · have e1 : mnA (F 16) (F 7) h (n + 1) i k c l = mnA (F 16) (F 7) h n (i + 1) k c l := by
          conv => lhs; unfold mnA
          rw [if_neg c26]
        rw [e1] at kk
        refine w_goto (tgt := 69) b dX9_minutesOf_29 (by decide) ?_
        refine z_iinc b dX9_minutesOf_69 rfl rfl rfl ?_
        refine w_goto (tgt := 10) b dX9_minutesOf_72 (by decide) ?_
        exact ih (i + 1) k c l (by omega) (by omega) (by omega) kk
theorem mnA_rng (s k : Int → Int) (h : Int) : ∀ (m : Nat) (i n c l : Int), 0 ≤ n → 0 ≤ c → 0 ≤ (mnA s k h m i n c l).1 ∧ (mnA s k h m i n c l).1 ≤ n + m ∧ 0 ≤ (mnA s k h m i n c l).2 ∧ (mnA s k h m i n c l).2 ≤ c + m := by
  intro m
  induction m with
  | zero => intro i n c l h1 h2; simp [mnA]; omega
  | succ m ih =>
    intro i n c l h1 h2
    unfold mnA
    have hb := b2_rng (0 ≤ l ∧ ¬ k i = l)
    split
    · have := ih (i + 1) (n + 1) (c + b2 (0 ≤ l ∧ ¬ k i = l)) (k i) (by omega) (by omega)
      omega
    · have := ih (i + 1) n c l h1 h2
      omega
set_option maxRecDepth 20000 in
theorem k_X9_minutesOf {l0 : Launch} {g : Gw} {mo nx : Nat} {h0 : Nat → va_E} {I : Nat → Int} {F : Nat → Int → Int} {h : Int} (hh : 0 ≤ h ∧ h ≤ 5) (h17 : 1 ≤ F 17 h ∧ F 17 h ≤ 20) (h1_ : 4 ≤ I 1 ∧ I 1 ≤ 40) (h7_ : ∀ j, 0 ≤ j → j < 1000 → 0 ≤ F 7 j ∧ F 7 j ≤ 7) (h16 : ∀ j, 0 ≤ j → j ≤ 5 → 1 ≤ F 16 j ∧ F 16 j ≤ 40) : MD l0 g 1 mX9_minutesOf (mp mo h0 I F, nx) [.ref mo, .int (iI (h))] 0 0 (some (.int (iI (((mnA (F 16) (F 7) h (I 1).toNat 0 0 0 (-1)).1 + F 17 h - 1) / F 17 h + (mnA (F 16) (F 7) h (I 1).toNat 0 0 0 (-1)).2)))) (mp mo h0 I F, nx) := by
  refine MD.of (by decide +kernel) (by simp [Value.category]) (tle rfl) (fun X b => ?_)
  change WW X g _ _ 0 0 0 [some (.ref mo), some (.int (iI (h))), none, none, none, none] [] _
  refine z_iconst b dX9_minutesOf_0 ?_
  refine w_istore_n b dX9_minutesOf_1 (tlt rfl) rfl ?_
  refine z_iconst b dX9_minutesOf_2 ?_
  refine w_istore_n b dX9_minutesOf_3 (tlt rfl) rfl ?_
  refine z_iconst b dX9_minutesOf_4 ?_
  refine w_istore b dX9_minutesOf_5 (tlt rfl) rfl ?_
  refine z_iconst b dX9_minutesOf_7 ?_
  refine w_istore b dX9_minutesOf_8 (tlt rfl) rfl ?_
  refine l_X9_minutesOf b hh h1_ h7_ h16 (I 1).toNat 0 0 0 (-1) (by omega) (by omega) (by omega) ?_
  have hr := mnA_rng (F 16) (F 7) h (I 1).toNat 0 0 0 (-1) (by omega) (by omega)
  refine w_iload_n b dX9_minutesOf_75 rfl ?_
  refine w_aload_n b dX9_minutesOf_76 rfl rfl ?_
  refine m_get b dX9_minutesOf_77 lfX9_59 rfl ?_
  refine w_iload_n b dX9_minutesOf_80 rfl ?_
  refine m_ald b dX9_minutesOf_81 rfl (by omega) rfl ?_
  refine z_iadd b dX9_minutesOf_82 ?_
  refine z_iconst b dX9_minutesOf_83 ?_
  refine z_isub b dX9_minutesOf_84 ?_
  refine w_aload_n b dX9_minutesOf_85 rfl rfl ?_
  refine m_get b dX9_minutesOf_86 lfX9_59 rfl ?_
  refine w_iload_n b dX9_minutesOf_89 rfl ?_
  refine m_ald b dX9_minutesOf_90 rfl (by omega) rfl ?_
  refine z_idiv b dX9_minutesOf_91 (by omega) ?_
  refine w_iload_n b dX9_minutesOf_92 rfl ?_
  refine z_iadd b dX9_minutesOf_93 ?_
  exact w_iret b dX9_minutesOf_94 rfl (by omega) (by omega) ⟨iv_eq (by first | rfl | omega | (simp only [b2]; split <;> omega)), rfl⟩
set_option maxRecDepth 20000 in
theorem l_X9_faults {X : Cx} {l0 : Launch} {g : Gw} {Z : State → Prop} {mo nx : Nat} {h0 : Nat → va_E} {I : Nat → Int} {F : Nat → Int → Int} (b : BX X l0 g mX9_faults 0 0 0) {r : Int} (hr : 0 ≤ r ∧ r < 40) (h1_ : 4 ≤ I 1 ∧ I 1 ≤ 40) (h21 : 0 ≤ I 21 ∧ I 21 ≤ 40) (h22 : ∀ j, 0 ≤ j → j < 1600 → inR (F 22 j)) (h23 : ∀ j, 0 ≤ j → j < 1600 → inR (F 23 j)) : ∀ (n : Nat) (i a : Int), (i + n = I 1) → (0 ≤ i) → WW X g mX9_faults.2.2.1 Z 0 0 61 [some (.ref mo), some (.int (iI (sumA (fun i => b2 (¬ F 23 (40 * r + i) = F 22 (40 * r + i))) n i a))), some (.int (iI (r))), none] [] (mp mo h0 I F, nx) → WW X g mX9_faults.2.2.1 Z 0 0 14 [some (.ref mo), some (.int (iI (a))), some (.int (iI (r))), some (.int (iI (i)))] [] (mp mo h0 I F, nx) := by
  intro n
  induction n with
  | zero =>
    intro i a h1 h2 kk
    refine w_iload_n b dX9_faults_14 rfl ?_
    refine w_aload_n b dX9_faults_15 rfl rfl ?_
    refine m_get b dX9_faults_16 lfX9_134 rfl ?_
    refine z_icmp_ge (tgt := 61) b dX9_faults_19 (by decide) (by omega) (fun c19 => ?_) (fun c19 => ?_)
    · refine ww_forget 3 ?_
      exact kk
    · exfalso; omega
  | succ n ih =>
    intro i a h1 h2 kk
    refine w_iload_n b dX9_faults_14 rfl ?_
    refine w_aload_n b dX9_faults_15 rfl rfl ?_
    refine m_get b dX9_faults_16 lfX9_134 rfl ?_
    refine z_icmp_ge (tgt := 61) b dX9_faults_19 (by decide) (by omega) (fun c19 => ?_) (fun c19 => ?_)
    · exfalso; omega
    · refine w_iload_n b dX9_faults_22 rfl ?_
      refine w_aload_n b dX9_faults_23 rfl rfl ?_
      refine m_get b dX9_faults_24 lfX9_77 rfl ?_
      refine z_bipush b dX9_faults_27 (by decide) ?_
      refine w_iload_n b dX9_faults_29 rfl ?_
      refine z_imul b dX9_faults_30 ?_
      refine w_iload_n b dX9_faults_31 rfl ?_
      refine z_iadd b dX9_faults_32 ?_
      refine m_ald b dX9_faults_33 rfl (by omega) rfl ?_
      refine w_aload_n b dX9_faults_34 rfl rfl ?_
      refine m_get b dX9_faults_35 lfX9_74 rfl ?_
      refine z_bipush b dX9_faults_38 (by decide) ?_
      refine w_iload_n b dX9_faults_40 rfl ?_
      refine z_imul b dX9_faults_41 ?_
      refine w_iload_n b dX9_faults_42 rfl ?_
      refine z_iadd b dX9_faults_43 ?_
      refine m_ald b dX9_faults_44 rfl (by omega) rfl ?_
      refine z_icmp_eq (tgt := 52) b dX9_faults_45 (by decide) (by have := h22 (40 * r + i) (by omega) (by omega); have := h23 (40 * r + i) (by omega) (by omega); omega) (fun c45 => ?_) (fun c45 => ?_)
      · have e1 : b2 (¬ F 23 (40 * r + i) = F 22 (40 * r + i)) = 0 := b2_f (fun z => z c45)
        rw [sumA, e1] at kk
        refine z_iconst b dX9_faults_52 ?_
        refine z_iadd b dX9_faults_53 ?_
        refine w_istore_n b dX9_faults_54 (tlt rfl) rfl ?_
        refine z_iinc b dX9_faults_55 rfl rfl rfl ?_
        refine w_goto (tgt := 14) b dX9_faults_58 (by decide) ?_
        exact ih (i + 1) _ (by omega) (by omega) kk
      · have e1 : b2 (¬ F 23 (40 * r + i) = F 22 (40 * r + i)) = 1 := b2_t c45
        rw [sumA, e1] at kk
        refine z_iconst b dX9_faults_48 ?_
        refine w_goto (tgt := 53) b dX9_faults_49 (by decide) ?_
        refine z_iadd b dX9_faults_53 ?_
        refine w_istore_n b dX9_faults_54 (tlt rfl) rfl ?_
        refine z_iinc b dX9_faults_55 rfl rfl rfl ?_
        refine w_goto (tgt := 14) b dX9_faults_58 (by decide) ?_
        exact ih (i + 1) _ (by omega) (by omega) kk
/-- faults of n rows from r on -/
def faA (w : Nat) (f : Int → Int → Int) : Nat → Int → Int → Int
  | 0, _, a => a
  | n + 1, r, a => faA w f n (r + 1) (sumA (f r) w 0 a)
set_option maxRecDepth 20000 in
theorem l_X9_faults2 {X : Cx} {l0 : Launch} {g : Gw} {Z : State → Prop} {mo nx : Nat} {h0 : Nat → va_E} {I : Nat → Int} {F : Nat → Int → Int} (b : BX X l0 g mX9_faults 0 0 0)  (h1_ : 4 ≤ I 1 ∧ I 1 ≤ 40) (h21 : 0 ≤ I 21 ∧ I 21 ≤ 40) (h22 : ∀ j, 0 ≤ j → j < 1600 → inR (F 22 j)) (h23 : ∀ j, 0 ≤ j → j < 1600 → inR (F 23 j)) : ∀ (n : Nat) (r a : Int), (r + n = I 21) → (0 ≤ r) → WW X g mX9_faults.2.2.1 Z 0 0 67 [some (.ref mo), some (.int (iI (faA (I 1).toNat (fun r i => b2 (¬ F 23 (40 * r + i) = F 22 (40 * r + i))) n r a))), none, none] [] (mp mo h0 I F, nx) → WW X g mX9_faults.2.2.1 Z 0 0 4 [some (.ref mo), some (.int (iI (a))), some (.int (iI (r))), none] [] (mp mo h0 I F, nx) := by
  intro n
  induction n with
  | zero =>
    intro r a h1 h2 kk
    refine w_iload_n b dX9_faults_4 rfl ?_
    refine w_aload_n b dX9_faults_5 rfl rfl ?_
    refine m_get b dX9_faults_6 lfX9_71 rfl ?_
    refine z_icmp_ge (tgt := 67) b dX9_faults_9 (by decide) (by omega) (fun c9 => ?_) (fun c9 => ?_)
    · refine ww_forget 2 ?_
      exact kk
    · exfalso; omega
  | succ n ih =>
    intro r a h1 h2 kk
    refine w_iload_n b dX9_faults_4 rfl ?_
    refine w_aload_n b dX9_faults_5 rfl rfl ?_
    refine m_get b dX9_faults_6 lfX9_71 rfl ?_
    refine z_icmp_ge (tgt := 67) b dX9_faults_9 (by decide) (by omega) (fun c9 => ?_) (fun c9 => ?_)
    · exfalso; omega
    · refine z_iconst b dX9_faults_12 ?_
      refine w_istore_n b dX9_faults_13 (tlt rfl) rfl ?_
      refine l_X9_faults b (by omega) h1_ h21 h22 h23 (I 1).toNat 0 a (by omega) (by omega) ?_
      refine z_iinc b dX9_faults_61 rfl rfl rfl ?_
      refine w_goto (tgt := 4) b dX9_faults_64 (by decide) ?_
      exact ih (r + 1) _ (by omega) (by omega) kk
set_option maxRecDepth 20000 in
theorem k_X9_faults {l0 : Launch} {g : Gw} {mo nx : Nat} {h0 : Nat → va_E} {I : Nat → Int} {F : Nat → Int → Int}  (h1_ : 4 ≤ I 1 ∧ I 1 ≤ 40) (h21 : 0 ≤ I 21 ∧ I 21 ≤ 40) (h22 : ∀ j, 0 ≤ j → j < 1600 → inR (F 22 j)) (h23 : ∀ j, 0 ≤ j → j < 1600 → inR (F 23 j)) : MD l0 g 0 mX9_faults (mp mo h0 I F, nx) [.ref mo] 0 0 (some (.int (iI (faA (I 1).toNat (fun r i => b2 (¬ F 23 (40 * r + i) = F 22 (40 * r + i))) (I 21).toNat 0 0)))) (mp mo h0 I F, nx) := by
  refine MD.of (by decide +kernel) (by simp [Value.category]) (tle rfl) (fun X b => ?_)
  change WW X g _ _ 0 0 0 [some (.ref mo), none, none, none] [] _
  refine z_iconst b dX9_faults_0 ?_
  refine w_istore_n b dX9_faults_1 (tlt rfl) rfl ?_
  refine z_iconst b dX9_faults_2 ?_
  refine w_istore_n b dX9_faults_3 (tlt rfl) rfl ?_
  refine l_X9_faults2 b h1_ h21 h22 h23 (I 21).toNat 0 0 (by omega) (by omega) ?_
  refine w_iload_n b dX9_faults_67 rfl ?_
  exact w_iret b dX9_faults_68 rfl (by omega) (by omega) ⟨iv_eq (by first | rfl | omega | (simp only [b2]; split <;> omega)), rfl⟩
set_option maxRecDepth 20000 in
theorem l_X9_wipe {X : Cx} {l0 : Launch} {g : Gw} {Z : State → Prop} {mo nx : Nat} {h0 : Nat → va_E} {I : Nat → Int} (b : BX X l0 g mX9_wipe 0 0 0) {d : Int} (hd : 0 ≤ d ∧ d ≤ 7) : ∀ (n : Nat) (i : Int) (F : Nat → Int → Int), (i + n = 60) → (0 ≤ i) → WW X g mX9_wipe.2.2.1 Z 0 0 26 [some (.ref mo), some (.int (iI (d))), none] [] (mp mo h0 I (va_up F 40 (fillA 0 n (60 * d + i) (F 40))), nx) → WW X g mX9_wipe.2.2.1 Z 0 0 2 [some (.ref mo), some (.int (iI (d))), some (.int (iI (i)))] [] (mp mo h0 I F, nx) := by
  intro n
  induction n with
  | zero =>
    intro i F h1 h2 kk
    refine w_iload_n b dX9_wipe_2 rfl ?_
    refine z_bipush b dX9_wipe_3 (by decide) ?_
    refine z_icmp_ge (tgt := 26) b dX9_wipe_5 (by decide) (by omega) (fun c5 => ?_) (fun c5 => ?_)
    · refine ww_forget 2 ?_
      exact ww_cast rfl rfl (by simp only [fillA, va_up_same]) kk
    · exfalso; omega
  | succ n ih =>
    intro i F h1 h2 kk
    refine w_iload_n b dX9_wipe_2 rfl ?_
    refine z_bipush b dX9_wipe_3 (by decide) ?_
    refine z_icmp_ge (tgt := 26) b dX9_wipe_5 (by decide) (by omega) (fun c5 => ?_) (fun c5 => ?_)
    · exfalso; omega
    · refine w_aload_n b dX9_wipe_8 rfl rfl ?_
      refine m_get b dX9_wipe_9 lfX9_128 rfl ?_
      refine z_bipush b dX9_wipe_12 (by decide) ?_
      refine w_iload_n b dX9_wipe_14 rfl ?_
      refine z_imul b dX9_wipe_15 ?_
      refine w_iload_n b dX9_wipe_16 rfl ?_
      refine z_iadd b dX9_wipe_17 ?_
      refine z_iconst b dX9_wipe_18 ?_
      refine m_ast b dX9_wipe_19 rfl (by omega) ?_
      refine z_iinc b dX9_wipe_20 rfl rfl rfl ?_
      refine w_goto (tgt := 2) b dX9_wipe_23 (by decide) ?_
      exact ih (i + 1) _ (by omega) (by omega) (ww_cast rfl rfl (by simp only [va_up_self, va_up_twice, fillA, Int.add_assoc]) kk) -- kk
set_option maxRecDepth 20000 in
theorem k_X9_wipe {l0 : Launch} {g : Gw} {mo nx : Nat} {h0 : Nat → va_E} {I : Nat → Int} {F : Nat → Int → Int} {d : Int} (hd : 0 ≤ d ∧ d ≤ 7) : MD l0 g 0 mX9_wipe (mp mo h0 I F, nx) [.ref mo, .int (iI (d))] 0 0 (none) (mp mo h0 I (va_up F 40 (fillA 0 60 (60 * d) (F 40))), nx) := by
  refine MD.of (by decide +kernel) (by simp [Value.category]) (tle rfl) (fun X b => ?_)
  change WW X g _ _ 0 0 0 [some (.ref mo), some (.int (iI (d))), none] [] _
  refine z_iconst b dX9_wipe_0 ?_
  refine w_istore_n b dX9_wipe_1 (tlt rfl) rfl ?_
  refine l_X9_wipe b hd 60 0 F (by omega) (by omega) ?_
  exact w_vret b dX9_wipe_26 rfl (by omega) (by omega) ⟨rfl, by rw [Int.add_zero]⟩
