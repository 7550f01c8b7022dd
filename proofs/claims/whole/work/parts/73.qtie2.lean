/-! THE CLASS: tie (by p73.py) -/
set_option maxRecDepth 20000 in
theorem k_tieRow0 {l0 : Launch} {g : Gw} {w nx : Nat} {h : Nat → va_E} {C : Nat → Nat → Int} {A : Nat → Int → Int} {V : Nat → Value} {I : Nat → Int} {F : Nat → Int → Int} (hR : RCa w C A I F) (hf : I 21 = 40) : MD l0 g 2 mX1_tieRow (cp w C A V h, nx) [.ref 1, .ref 230] 0 0 (some (.int (iI (-2)))) (cp w C A V h, nx) := by
  have ht1 := hR.t1
  refine MD.of (by decide +kernel) (by simp [Value.category]) (tle rfl) (fun X b => ?_)
  change WW X g _ _ 0 0 0 [some (.ref 1), some (.ref 230), none] [] _
  refine w_aload_n b dX1_tieRow_0 rfl rfl ?_
  refine q_get b dX1_tieRow_1 lfX1_38 (tlt rfl) ct_1 rfl ?_
  refine z_bipush b dX1_tieRow_4 (by decide) ?_
  refine z_icmp_lt (tgt := 12) b dX1_tieRow_6 (by decide) (by omega) (fun c6 => ?_) (fun c6 => ?_)
  · exfalso; omega
  · refine z_bipush b dX1_tieRow_9 (by decide) ?_
    exact w_iret b dX1_tieRow_11 rfl (by omega) (by omega) ⟨iv_eq (by first | rfl | omega | ((try simp only [b2]); ((repeat' split) <;> (first | rfl | omega)))), rfl⟩
set_option maxRecDepth 20000 in
theorem l_tieRow1 {X : Cx} {l0 : Launch} {g : Gw} {Z : State → Prop} {w nx : Nat} {h : Nat → va_E} {C : Nat → Nat → Int} {A : Nat → Int → Int} {V : Nat → Value} (b : BX X l0 g mX1_tieRow 2 0 0) {I : Nat → Int} {F : Nat → Int → Int} (hR : RCa w C A I F) (hfl : C 230 5 = (w : Int)) (hk7 : ∀ j, 0 ≤ j → j < (w : Int) → 0 ≤ A 232 j ∧ A 232 j ≤ 7) : ∀ (n : Nat) (c : Int), (c + n = 8) → (0 ≤ c) → (∀ x, c ≤ x → x ≤ 7 → cntF (A 232) x (w : Int) ≤ sumA (fun l => F 20 (10 * x + l)) (F 18 x).toNat 0 0) → WW X g mX1_tieRow.2.2.1 Z 0 0 47 [some (.ref 1), some (.ref 230), none] [] (cp w C A V h, nx) → WW X g mX1_tieRow.2.2.1 Z 0 0 14 [some (.ref 1), some (.ref 230), some (.int (iI (c)))] [] (cp w C A V h, nx) := by
  intro n
  induction n with
  | zero =>
    intro c h1 h2 h3 kk
    have hw2 := hR.w2; have ht1 := hR.t1; have ht2 := hR.t2
    refine w_iload_n b dX1_tieRow_14 rfl ?_
    refine z_bipush b dX1_tieRow_15 (by decide) ?_
    refine z_icmp_ge (tgt := 47) b dX1_tieRow_17 (by decide) (by omega) (fun c17 => ?_) (fun c17 => ?_)
    · refine ww_forget 2 ?_
      exact kk
    · exfalso; omega
  | succ n ih =>
    intro c h1 h2 h3 kk
    have hw2 := hR.w2; have ht1 := hR.t1; have ht2 := hR.t2
    have hb18 := hR.b18 c (by omega) (by omega)
    have hsl := sumA_bd (f := fun l => F 20 (10 * c + l)) (lo := 0) (hi := 1000) (F 18 c).toNat 0 0 (fun j q1 q2 => hR.b20 _ (by omega) (by omega))
    have hcr : 0 ≤ cntF (A 232) c (w : Int) ∧ cntF (A 232) c (w : Int) ≤ 40 := by
      have z := sumA_bd (f := fun j => b2 (A 232 j = c)) (lo := 0) (hi := 1) ((w : Int)).toNat 0 0 (fun j _ _ => b2_rng _)
      unfold cntF
      omega
    refine w_iload_n b dX1_tieRow_14 rfl ?_
    refine z_bipush b dX1_tieRow_15 (by decide) ?_
    refine z_icmp_ge (tgt := 47) b dX1_tieRow_17 (by decide) (by omega) (fun c17 => ?_) (fun c17 => ?_)
    · exfalso; omega
    · refine w_aload_n b dX1_tieRow_20 rfl rfl ?_
      refine w_aload_n b dX1_tieRow_21 rfl rfl ?_
      refine w_iload_n b dX1_tieRow_22 rfl ?_
      refine c_V2 b dX1_tieRow_23 lmX1_53 (cpS (tlt rfl) ct_1) (k_X1_knotsHeard hR.w2 hfl hk7 (by omega)) (tle rfl) (by omega) (by omega) (by omega) ?_
      refine w_aload_n b dX1_tieRow_26 rfl rfl ?_
      refine q_get b dX1_tieRow_27 lfX1_20 (tlt rfl) ct_1 rfl ?_
      refine w_iload_n b dX1_tieRow_30 rfl ?_
      refine q_aald b dX1_tieRow_31 (tlt rfl) ct_4 (by omega) (by omega) ?_
      refine c_V0 b dX1_tieRow_32 lmX1_57 (cpS (by omega) (ct_wool (by omega))) (k_X7_leftInAll hR (by omega)) (tle rfl) (by omega) (by omega) (by omega) ?_
      have h9 := h3 c (by omega) (by omega)
      refine z_icmp_le (tgt := 41) b dX1_tieRow_35 (by decide) (by omega) (fun c35 => ?_) (fun c35 => ?_)
      · refine z_iinc b dX1_tieRow_41 rfl rfl rfl ?_
        refine w_goto (tgt := 14) b dX1_tieRow_44 (by decide) ?_
        exact ih (c + 1) (by omega) (by omega) (fun x g1 g2 => h3 x (by omega) g2) kk
      · exfalso; omega
set_option maxRecDepth 20000 in
theorem l_tieRow2 {X : Cx} {l0 : Launch} {g : Gw} {Q : Option Value → Sg → Prop} {w nx : Nat} {h : Nat → va_E} {C : Nat → Nat → Int} {A : Nat → Int → Int} {V : Nat → Value} (b : BX X l0 g mX1_tieRow 2 0 0) {I : Nat → Int} {F : Nat → Int → Int} (hR : RCa w C A I F) (hfl : C 230 5 = (w : Int)) (hk7 : ∀ j, 0 ≤ j → j < (w : Int) → 0 ≤ A 232 j ∧ A 232 j ≤ 7) : ∀ (n : Nat) (c : Int), (c + n = 8) → (0 ≤ c) → (∃ x, c ≤ x ∧ x ≤ 7 ∧ ¬ cntF (A 232) x (w : Int) ≤ sumA (fun l => F 20 (10 * x + l)) (F 18 x).toNat 0 0) → Q (some (.int (iI (-5)))) (cp w C A V h, nx) → WW X g mX1_tieRow.2.2.1 (ZQ X g Q 0 0) 0 0 14 [some (.ref 1), some (.ref 230), some (.int (iI (c)))] [] (cp w C A V h, nx) := by
  intro n
  induction n with
  | zero =>
    intro c h1 h2 h3 hq
    have hw2 := hR.w2; have ht1 := hR.t1; have ht2 := hR.t2
    refine w_iload_n b dX1_tieRow_14 rfl ?_
    refine z_bipush b dX1_tieRow_15 (by decide) ?_
    refine z_icmp_ge (tgt := 47) b dX1_tieRow_17 (by decide) (by omega) (fun c17 => ?_) (fun c17 => ?_)
    · obtain ⟨x, q1, q2, q3⟩ := h3
      exfalso; omega
    · exfalso; omega
  | succ n ih =>
    intro c h1 h2 h3 hq
    have hw2 := hR.w2; have ht1 := hR.t1; have ht2 := hR.t2
    have hb18 := hR.b18 c (by omega) (by omega)
    have hsl := sumA_bd (f := fun l => F 20 (10 * c + l)) (lo := 0) (hi := 1000) (F 18 c).toNat 0 0 (fun j q1 q2 => hR.b20 _ (by omega) (by omega))
    have hcr : 0 ≤ cntF (A 232) c (w : Int) ∧ cntF (A 232) c (w : Int) ≤ 40 := by
      have z := sumA_bd (f := fun j => b2 (A 232 j = c)) (lo := 0) (hi := 1) ((w : Int)).toNat 0 0 (fun j _ _ => b2_rng _)
      unfold cntF
      omega
    refine w_iload_n b dX1_tieRow_14 rfl ?_
    refine z_bipush b dX1_tieRow_15 (by decide) ?_
    refine z_icmp_ge (tgt := 47) b dX1_tieRow_17 (by decide) (by omega) (fun c17 => ?_) (fun c17 => ?_)
    · exfalso; omega
    · refine w_aload_n b dX1_tieRow_20 rfl rfl ?_
      refine w_aload_n b dX1_tieRow_21 rfl rfl ?_
      refine w_iload_n b dX1_tieRow_22 rfl ?_
      refine c_V2 b dX1_tieRow_23 lmX1_53 (cpS (tlt rfl) ct_1) (k_X1_knotsHeard hR.w2 hfl hk7 (by omega)) (tle rfl) (by omega) (by omega) (by omega) ?_
      refine w_aload_n b dX1_tieRow_26 rfl rfl ?_
      refine q_get b dX1_tieRow_27 lfX1_20 (tlt rfl) ct_1 rfl ?_
      refine w_iload_n b dX1_tieRow_30 rfl ?_
      refine q_aald b dX1_tieRow_31 (tlt rfl) ct_4 (by omega) (by omega) ?_
      refine c_V0 b dX1_tieRow_32 lmX1_57 (cpS (by omega) (ct_wool (by omega))) (k_X7_leftInAll hR (by omega)) (tle rfl) (by omega) (by omega) (by omega) ?_
      refine z_icmp_le (tgt := 41) b dX1_tieRow_35 (by decide) (by omega) (fun c35 => ?_) (fun c35 => ?_)
      · refine z_iinc b dX1_tieRow_41 rfl rfl rfl ?_
        refine w_goto (tgt := 14) b dX1_tieRow_44 (by decide) ?_
        exact ih (c + 1) (by omega) (by omega) (by obtain ⟨x, q1, q2, q3⟩ := h3; refine ⟨x, ?_, q2, q3⟩; rcases Int.lt_or_eq_of_le q1 with z | z; (· omega); (· subst z; exact absurd c35 q3)) hq
      · refine z_bipush b dX1_tieRow_38 (by decide) ?_
        exact w_iret b dX1_tieRow_40 rfl (by omega) (by omega) hq
set_option maxRecDepth 20000 in
theorem k_tieRow1 {l0 : Launch} {g : Gw} {w nx : Nat} {h : Nat → va_E} {C : Nat → Nat → Int} {A : Nat → Int → Int} {V : Nat → Value} {I : Nat → Int} {F : Nat → Int → Int} (hR : RCa w C A I F) (hfl : C 230 5 = (w : Int)) (hk7 : ∀ j, 0 ≤ j → j < (w : Int) → 0 ≤ A 232 j ∧ A 232 j ≤ 7) (hf : I 21 < 40) (hen : ¬ enF (w : Int) (A 232) (F 20) (F 18)) : MD l0 g 2 mX1_tieRow (cp w C A V h, nx) [.ref 1, .ref 230] 0 0 (some (.int (iI (-5)))) (cp w C A V h, nx) := by
  have ht1 := hR.t1
  have ht2 := hR.t2
  refine MD.of (by decide +kernel) (by simp [Value.category]) (tle rfl) (fun X b => ?_)
  change WW X g _ _ 0 0 0 [some (.ref 1), some (.ref 230), none] [] _
  refine w_aload_n b dX1_tieRow_0 rfl rfl ?_
  refine q_get b dX1_tieRow_1 lfX1_38 (tlt rfl) ct_1 rfl ?_
  refine z_bipush b dX1_tieRow_4 (by decide) ?_
  refine z_icmp_lt (tgt := 12) b dX1_tieRow_6 (by decide) (by omega) (fun c6 => ?_) (fun c6 => ?_)
  · refine z_iconst b dX1_tieRow_12 ?_
    refine w_istore_n b dX1_tieRow_13 (tlt rfl) rfl ?_
    refine l_tieRow2 b hR hfl hk7 8 0 (by omega) (by omega) ?_ ⟨rfl, rfl⟩
    refine Classical.byContradiction fun z => hen fun x q1 q2 => Classical.byContradiction fun y => z ⟨x, q1, q2, y⟩
  · exfalso; omega
theorem RCa.ty {I : Nat → Int} {F : Nat → Int → Int} {w r : Nat} {C : Nat → Nat → Int} {A : Nat → Int → Int} (hR : RCa w C A I F) (hfl : C 230 5 = (w : Int)) (hk7 : ∀ j, 0 ≤ j → j < (w : Int) → 0 ≤ A 232 j ∧ A 232 j ≤ 7) (hr : I 21 = (r : Int)) (hf : I 21 < 40) (hE : ∀ j, 0 ≤ j → j < 12 → inR (A 233 j)) (hEx : ∀ i, 0 ≤ i → i < (w : Int) → ∃ j, 0 ≤ j ∧ j < 12 ∧ i < A 233 j) (hen : enF (w : Int) (A 232) (F 20) (F 18)) : TYo w r C A := by
  refine ⟨hR.w2, by omega, by rw [hR.t1, hr], hfl, hk7, hE, hEx, fun c hc => ?_⟩
  have hb := hR.b18 (c : Int) (by omega) (by omega)
  have e18 : C (6 + 3 * c) 2 = F 18 (c : Int) := by have z := hR.c18 (c : Int) (by omega) (by omega); rw [Int.toNat_natCast] at z; exact z
  have e20 : ∀ l, 0 ≤ l → l < 10 → A (6 + 3 * c + 2) l = F 20 (10 * (c : Int) + l) := fun l q1 q2 => by have z := hR.a20 (c : Int) l (by omega) (by omega) q1 q2; rw [Int.toNat_natCast] at z; exact z
  refine ⟨by rw [e18]; exact hb, fun l q1 q2 => ?_, fun l q1 q2 => ?_, fun l q1 q2 => ?_, ?_⟩
  · rw [e20 l q1 q2]; exact hR.b20 _ (by omega) (by omega)
  · rw [e18] at q1
    rw [e20 l (by omega) q2]; exact hR.z20 (c : Int) l (by omega) (by omega) q1 q2
  · have z := hR.a19 (c : Int) l (by omega) (by omega) q1 q2
    rw [Int.toNat_natCast] at z
    rw [z]; exact hR.b19 _ (by omega) (by omega)
  · have z := hen (c : Int) (by omega) (by omega)
    rw [lz_sum hR.z20 (by omega) hb] at z
    rw [sumA_cong (h := lotF (F 20) (c : Int)) 10 0 0 (fun j q1 q2 => e20 j q1 (by omega))]
    exact z
set_option maxRecDepth 20000 in
theorem l_tieRow3 {X : Cx} {l0 : Launch} {g : Gw} {Z : State → Prop} {w nx : Nat} {h : Nat → va_E} {C : Nat → Nat → Int} {A : Nat → Int → Int} {V : Nat → Value} (b : BX X l0 g mX1_tieRow 2 0 0) {r : Nat} (hT : TYo w r C A) : ∀ (n c : Nat) (A1 : Nat → Int → Int), c + n = 8 → LY w r A (c : Int) 0 A1 → (∀ A2, LY w r A 8 0 A2 → WW X g mX1_tieRow.2.2.1 Z 0 0 67 [some (.ref 1), some (.ref 230), none] [] (cp w C A2 V h, nx)) → WW X g mX1_tieRow.2.2.1 Z 0 0 49 [some (.ref 1), some (.ref 230), some (.int (iI ((c : Int))))] [] (cp w C A1 V h, nx) := by
  intro n
  induction n with
  | zero =>
    intro c A1 h1 hA kk
    have e5 : c = 8 := by omega
    subst e5
    refine w_iload_n b dX1_tieRow_49 rfl ?_
    refine z_bipush b dX1_tieRow_50 (by decide) ?_
    refine z_icmp_ge (tgt := 67) b dX1_tieRow_52 (by decide) (by omega) (fun c52 => ?_) (fun c52 => ?_)
    · refine ww_forget 2 ?_
      exact kk A1 hA
    · exfalso; omega
  | succ n ih =>
    intro c A1 h1 hA kk
    refine w_iload_n b dX1_tieRow_49 rfl ?_
    refine z_bipush b dX1_tieRow_50 (by decide) ?_
    refine z_icmp_ge (tgt := 67) b dX1_tieRow_52 (by decide) (by omega) (fun c52 => ?_) (fun c52 => ?_)
    · exfalso; omega
    · refine w_aload_n b dX1_tieRow_55 rfl rfl ?_
      refine w_aload_n b dX1_tieRow_56 rfl rfl ?_
      refine w_iload_n b dX1_tieRow_57 rfl ?_
      refine w_callV (d' := 1) (mc' := 0) (ms' := 0) (st := []) (vs := [.ref 230, .int (iI (c : Int))]) b dX1_tieRow_58 lmX1_61 rfl rfl (cpS (tlt rfl) ct_1) (tle rfl) (by omega) (by omega) (by omega) (k_X1_layColour hT (by omega) hA) (fun q σ' hz => ?_)
      obtain ⟨rfl, A2, hA2, rfl⟩ := hz
      refine z_iinc b dX1_tieRow_61 rfl rfl rfl ?_
      refine w_goto (tgt := 49) b dX1_tieRow_64 (by decide) ?_
      have e6 : ((c : Int) + 1) = ((c + 1 : Nat) : Int) := by omega
      rw [e6] at hA2
      refine ww_cast (L' := [some (.ref 1), some (.ref 230), some (.int (iI (((c + 1 : Nat) : Int))))]) (by rw [← e6]; rfl) rfl rfl ?_
      exact ih (c + 1) A2 (by omega) hA2 kk
/-- minutes of the row r, one row more -/
def cR (C : Nat → Nat → Int) (r : Nat) (m : Int) : Nat → Nat → Int := va_up (va_up C (30 + 5 * r) (va_up (C (30 + 5 * r)) 4 m)) 1 (va_up (C 1) 5 ((r : Int) + 1))
theorem cR_put (C : Nat → Nat → Int) (r : Nat) (m : Int) : va_up (va_up C (30 + 5 * r) (va_up (C (30 + 5 * r)) 4 m)) 1 (va_up (va_up C (30 + 5 * r) (va_up (C (30 + 5 * r)) 4 m) 1) 5 ((r : Int) + 1)) = cR C r m := by
  unfold cR
  rw [va_up_ne _ _ (show 1 ≠ 30 + 5 * r by omega)]
set_option maxRecDepth 20000 in
theorem k_tieRow2 {l0 : Launch} {g : Gw} {w nx : Nat} {h : Nat → va_E} {C : Nat → Nat → Int} {A : Nat → Int → Int} {V : Nat → Value} {I : Nat → Int} {F : Nat → Int → Int} {r : Nat} (hR : RCa w C A I F) (hfl : C 230 5 = (w : Int)) (hk7 : ∀ j, 0 ≤ j → j < (w : Int) → 0 ≤ A 232 j ∧ A 232 j ≤ 7) (hr : I 21 = (r : Int)) (hf : I 21 < 40) (hE : ∀ j, 0 ≤ j → j < 12 → inR (A 233 j)) (hEx : ∀ i, 0 ≤ i → i < (w : Int) → ∃ j, 0 ≤ j ∧ j < 12 ∧ i < A 233 j) (hen : enF (w : Int) (A 232) (F 20) (F 18)) : MM l0 g 2 mX1_tieRow (cp w C A V h, nx) [.ref 1, .ref 230] 0 0 (fun q σ' => q = some (.int (iI (r : Int))) ∧ ∃ A2, LY w r A 8 0 A2 ∧ σ' = (cp w (cR C r ((mwA (A 2) (A 3) (A2 (30 + 5 * r + 1)) w 0 (0, 0, 0)).1)) A2 V h, nx)) := by
  have hT := hR.ty hfl hk7 hr hf hE hEx hen
  have ht1 := hR.t1
  have ht2 := hR.t2
  have hw2 := hR.w2
  have hT1 : C 1 5 = (r : Int) := by rw [ht1, hr]
  refine MM.of (by decide +kernel) (by simp [Value.category]) (tle rfl) (fun X b => ?_)
  change WW X g _ _ 0 0 0 [some (.ref 1), some (.ref 230), none] [] _
  refine w_aload_n b dX1_tieRow_0 rfl rfl ?_
  refine q_get b dX1_tieRow_1 lfX1_38 (tlt rfl) ct_1 rfl ?_
  refine z_bipush b dX1_tieRow_4 (by decide) ?_
  refine z_icmp_lt (tgt := 12) b dX1_tieRow_6 (by decide) (by omega) (fun c6 => ?_) (fun c6 => ?_)
  · refine z_iconst b dX1_tieRow_12 ?_
    refine w_istore_n b dX1_tieRow_13 (tlt rfl) rfl ?_
    refine l_tieRow1 b hR hfl hk7 8 0 (by omega) (by omega) (fun x q1 q2 => hen x q1 q2) ?_
    refine z_iconst b dX1_tieRow_47 ?_
    refine w_istore_n b dX1_tieRow_48 (tlt rfl) rfl ?_
    refine l_tieRow3 b hT 8 0 A (by omega) (LY_0 (fun j q1 q2 => (hk7 j q1 q2).1)) (fun A2 hA2 => ?_)
    have e2 : A2 2 = A 2 := hA2.1 2 (by omega) (by omega)
    have e3 : A2 3 = A 3 := hA2.1 3 (by omega) (by omega)
    have ek : ∀ j, 0 ≤ j → j < (w : Int) → A2 (30 + 5 * r + 1) j = A 232 j := by
      intro j q1 q2
      rw [(hA2.2.2 j q1 q2).1, if_pos (Or.inl (by have := hk7 j q1 q2; omega))]
    refine w_aload_n b dX1_tieRow_67 rfl rfl ?_
    refine q_get b dX1_tieRow_68 lfX1_26 (tlt rfl) ct_1 rfl ?_
    refine w_aload_n b dX1_tieRow_71 rfl rfl ?_
    refine q_get b dX1_tieRow_72 lfX1_38 (tlt rfl) ct_1 rfl ?_
    refine y_top hT1 ?_
    refine q_aald b dX1_tieRow_75 (tlt rfl) ct_5 (by omega) (by omega) ?_
    rw [Int.toNat_natCast]
    refine w_aload_n b dX1_tieRow_76 rfl rfl ?_
    refine w_aload_n b dX1_tieRow_77 rfl rfl ?_
    refine q_get b dX1_tieRow_78 lfX1_26 (tlt rfl) ct_1 rfl ?_
    refine w_aload_n b dX1_tieRow_81 rfl rfl ?_
    refine q_get b dX1_tieRow_82 lfX1_38 (tlt rfl) ct_1 rfl ?_
    refine y_top hT1 ?_
    refine q_aald b dX1_tieRow_85 (tlt rfl) ct_5 (by omega) (by omega) ?_
    rw [Int.toNat_natCast]
    refine c_V1 b dX1_tieRow_86 lmX1_65 (cpS (tlt rfl) ct_1) (k_X1_minutesFor hw2 (by omega) (by rw [e2, hR.a2]; exact hR.b16) (by rw [e3, hR.a3]; exact hR.b17) (fun j q1 q2 => by rw [ek j q1 q2]; exact hk7 j q1 q2)) (tle rfl) (by omega) (by omega) (by omega) ?_
    rw [e2, e3]
    refine q_put b dX1_tieRow_89 lfX1_69 gcX3 gtX3_4 (by omega) (fun _ => ct_row (by omega)) (tlt rfl) rfl ?_
    refine w_aload_n b dX1_tieRow_92 rfl rfl ?_
    refine w_dup b dX1_tieRow_93 rfl ?_
    refine q_get b dX1_tieRow_94 lfX1_38 (tlt rfl) ct_1 rfl ?_
    refine y_top (y := (r : Int)) (by rw [va_up_ne _ _ (show 1 ≠ 30 + 5 * r by omega)]; exact hT1) ?_
    refine z_iconst b dX1_tieRow_97 ?_
    refine z_iadd b dX1_tieRow_98 ?_
    refine q_put b dX1_tieRow_99 lfX1_38 gcX1 gtX1_5 (tlt rfl) (fun _ => ct_1) (tlt rfl) rfl ?_
    rw [cR_put]
    refine w_aload_n b dX1_tieRow_102 rfl rfl ?_
    refine q_get (v := .int (iI ((r : Int) + 1))) b dX1_tieRow_103 lfX1_38 (tlt rfl) ct_1 rfl ?_
    refine z_iconst b dX1_tieRow_106 ?_
    refine z_isub b dX1_tieRow_107 ?_
    exact w_iret b dX1_tieRow_108 rfl (by omega) (by omega) ⟨iv_eq (by omega), A2, hA2, rfl⟩
  · exfalso; omega
set_option maxRecDepth 20000 in
theorem k_X8_tie0 {l0 : Launch} {g : Gw} {w nx : Nat} {h : Nat → va_E} {C : Nat → Nat → Int} {A : Nat → Int → Int} {V : Nat → Value} {I : Nat → Int} {F : Nat → Int → Int} {ca : Nat → Nat} {sa : Nat → Nat → Nat} {own : Nat → Nat} {c : Nat} (hD : RDy h nx C V I F ca sa own) (hc : (c : Int) < I 2) (hw : 4 ≤ w ∧ w ≤ 40) (hm : ms (F 3) (F 4) (F 5) 12 (c : Int) (w : Int) (0, 0) = none) : MM l0 g 33 mX8_tie (cp w C A V h, nx) [.ref 0, .int (iI ((c : Int)))] 0 0 (fun r σ' => r = some (.int (iI (-6))) ∧ ∃ (C' : Nat → Nat → Int) (A' : Nat → Int → Int), scC C A C' A' ∧ σ' = (cp w C' A' V h, nx)) := by
  have hn2 := hD.n2
  refine MM.of (by decide +kernel) (by simp [Value.category]) (tle rfl) (fun X b => ?_)
  change WW X g _ _ 0 0 0 [some (.ref 0), some (.int (iI ((c : Int)))), none] [] _
  refine w_aload_n b dX8_tie_0 rfl rfl ?_
  refine q_get b dX8_tie_1 lfX8_33 (tlt rfl) ct_0 rfl ?_
  refine w_iload_n b dX8_tie_4 rfl ?_
  refine c_V1 b dX8_tie_5 lmX8_63 (cpS (tlt rfl) ct_230) (k_X0_hasChant hD (by omega)) (tle rfl) (by omega) (by omega) (by omega) ?_
  refine z_ifb_ne (tgt := 13) b dX8_tie_8 (by decide) (fun c8 => ?_) (fun c8 => ?_)
  · refine w_aload_n b dX8_tie_13 rfl rfl ?_
    refine q_get b dX8_tie_14 lfX8_33 (tlt rfl) ct_0 rfl ?_
    refine w_iload_n b dX8_tie_17 rfl ?_
    refine w_callV (d' := 30) (mc' := 0) (ms' := 0) (st := []) (vs := [.int (iI (c : Int))]) b dX8_tie_18 lmX8_71 rfl rfl (cpS (tlt rfl) ct_230) (tle rfl) (by omega) (by omega) (by omega) (k_X0_sung0 hD hc hw hm) (fun r σ' hz => ?_)
    obtain ⟨rfl, bg, en, rfl⟩ := hz
    refine w_istore_n b dX8_tie_21 (tlt rfl) rfl ?_
    refine w_iload_n b dX8_tie_22 rfl ?_
    refine z_if_ge (tgt := 29) b dX8_tie_23 (by decide) (by omega) (fun c23 => ?_) (fun c23 => ?_)
    · exfalso; omega
    · refine z_bipush b dX8_tie_26 (by decide) ?_
      exact w_iret b dX8_tie_28 rfl (by omega) (by omega) ⟨rfl, _, _, scC_M C A bg en, rfl⟩
  · exfalso; omega
set_option maxRecDepth 20000 in
theorem k_X8_tie1 {l0 : Launch} {g : Gw} {w nx : Nat} {h : Nat → va_E} {C : Nat → Nat → Int} {A : Nat → Int → Int} {V : Nat → Value} {I : Nat → Int} {F : Nat → Int → Int} {ca : Nat → Nat} {sa : Nat → Nat → Nat} {own : Nat → Nat} {c : Nat} {t : CS} (hD : RDy h nx C V I F ca sa own) (hR : RCa w C A I F) (hc : (c : Int) < I 2) (h7 : col7 (A 232)) (ht : sg I F 12 (c : Int) (w : Int) (0, A 232, 0) = some t) (hne : ¬ t.1 = (w : Int)) : MM l0 g 33 mX8_tie (cp w C A V h, nx) [.ref 0, .int (iI ((c : Int)))] 0 0 (fun r σ' => r = some (.int (iI (-4))) ∧ ∃ (C' : Nat → Nat → Int) (A' : Nat → Int → Int), scC C A C' A' ∧ σ' = (cp w C' A' V h, nx)) := by
  have hn2 := hD.n2
  have hw2 := hR.w2
  have hw1 := hR.w1
  have ht2 := hR.t2
  have htr := sg_mono hD.wf 12 (c : Int) (w : Int) (0, A 232, 0) t (by omega) hc (by show (0 : Int) ≤ 1000; omega) ht
  have htr0 : 0 ≤ t.1 := htr.1
  have hc7 := sg_c7 hD.wf hR.t2 (by omega) hR.b23 12 (c : Int) (w : Int) (0, A 232, 0) t (by omega) hc (by show (0 : Int) ≤ 0 ∧ (0 : Int) ≤ 1000; omega) h7 ht
  refine MM.of (by decide +kernel) (by simp [Value.category]) (tle rfl) (fun X b => ?_)
  change WW X g _ _ 0 0 0 [some (.ref 0), some (.int (iI ((c : Int)))), none] [] _
  refine w_aload_n b dX8_tie_0 rfl rfl ?_
  refine q_get b dX8_tie_1 lfX8_33 (tlt rfl) ct_0 rfl ?_
  refine w_iload_n b dX8_tie_4 rfl ?_
  refine c_V1 b dX8_tie_5 lmX8_63 (cpS (tlt rfl) ct_230) (k_X0_hasChant hD (by omega)) (tle rfl) (by omega) (by omega) (by omega) ?_
  refine z_ifb_ne (tgt := 13) b dX8_tie_8 (by decide) (fun c8 => ?_) (fun c8 => ?_)
  · refine w_aload_n b dX8_tie_13 rfl rfl ?_
    refine q_get b dX8_tie_14 lfX8_33 (tlt rfl) ct_0 rfl ?_
    refine w_iload_n b dX8_tie_17 rfl ?_
    refine w_callV (d' := 31) (mc' := 0) (ms' := 0) (st := []) (vs := [.int (iI (c : Int))]) b dX8_tie_18 lmX8_71 rfl rfl (cpS (tlt rfl) ct_230) (tle rfl) (by omega) (by omega) (by omega) (k_X0_sung1 hD hR hc h7 ht) (fun r σ' hz => ?_)
    obtain ⟨rfl, rfl⟩ := hz
    refine w_istore_n b dX8_tie_21 (tlt rfl) rfl ?_
    refine w_iload_n b dX8_tie_22 rfl ?_
    refine z_if_ge (tgt := 29) b dX8_tie_23 (by decide) (by omega) (fun c23 => ?_) (fun c23 => ?_)
    · refine w_iload_n b dX8_tie_29 rfl ?_
      refine w_aload_n b dX8_tie_30 rfl rfl ?_
      refine q_get b dX8_tie_31 lfX8_15 (tlt rfl) ct_0 rfl ?_
      refine z_icmp_ne (tgt := 51) b dX8_tie_34 (by decide) (by omega) (fun c34 => ?_) (fun c34 => ?_)
      · refine z_bipush b dX8_tie_51 (by decide) ?_
        exact w_iret b dX8_tie_53 rfl (by omega) (by omega) ⟨rfl, _, _, scC_W hc7, rfl⟩
      · exfalso; omega
    · exfalso; omega
  · exfalso; omega
set_option maxRecDepth 20000 in
theorem k_X8_tie2 {l0 : Launch} {g : Gw} {w nx : Nat} {h : Nat → va_E} {C : Nat → Nat → Int} {A : Nat → Int → Int} {V : Nat → Value} {I : Nat → Int} {F : Nat → Int → Int} {ca : Nat → Nat} {sa : Nat → Nat → Nat} {own : Nat → Nat} {c : Nat} {t : CS} (hD : RDy h nx C V I F ca sa own) (hR : RCa w C A I F) (hc : (c : Int) < I 2) (h7 : col7 (A 232)) (ht : sg I F 12 (c : Int) (w : Int) (0, A 232, 0) = some t) (heq : t.1 = (w : Int)) (hf : I 21 = 40) : MM l0 g 33 mX8_tie (cp w C A V h, nx) [.ref 0, .int (iI ((c : Int)))] 0 0 (fun r σ' => r = some (.int (iI (-2))) ∧ ∃ (C' : Nat → Nat → Int) (A' : Nat → Int → Int), scC C A C' A' ∧ σ' = (cp w C' A' V h, nx)) := by
  have hn2 := hD.n2
  have hw2 := hR.w2
  have hw1 := hR.w1
  have ht2 := hR.t2
  have htr := sg_mono hD.wf 12 (c : Int) (w : Int) (0, A 232, 0) t (by omega) hc (by show (0 : Int) ≤ 1000; omega) ht
  have htr0 : 0 ≤ t.1 := htr.1
  have hc7 := sg_c7 hD.wf hR.t2 (by omega) hR.b23 12 (c : Int) (w : Int) (0, A 232, 0) t (by omega) hc (by show (0 : Int) ≤ 0 ∧ (0 : Int) ≤ 1000; omega) h7 ht
  refine MM.of (by decide +kernel) (by simp [Value.category]) (tle rfl) (fun X b => ?_)
  change WW X g _ _ 0 0 0 [some (.ref 0), some (.int (iI ((c : Int)))), none] [] _
  refine w_aload_n b dX8_tie_0 rfl rfl ?_
  refine q_get b dX8_tie_1 lfX8_33 (tlt rfl) ct_0 rfl ?_
  refine w_iload_n b dX8_tie_4 rfl ?_
  refine c_V1 b dX8_tie_5 lmX8_63 (cpS (tlt rfl) ct_230) (k_X0_hasChant hD (by omega)) (tle rfl) (by omega) (by omega) (by omega) ?_
  refine z_ifb_ne (tgt := 13) b dX8_tie_8 (by decide) (fun c8 => ?_) (fun c8 => ?_)
  · refine w_aload_n b dX8_tie_13 rfl rfl ?_
    refine q_get b dX8_tie_14 lfX8_33 (tlt rfl) ct_0 rfl ?_
    refine w_iload_n b dX8_tie_17 rfl ?_
    refine w_callV (d' := 31) (mc' := 0) (ms' := 0) (st := []) (vs := [.int (iI (c : Int))]) b dX8_tie_18 lmX8_71 rfl rfl (cpS (tlt rfl) ct_230) (tle rfl) (by omega) (by omega) (by omega) (k_X0_sung1 hD hR hc h7 ht) (fun r σ' hz => ?_)
    obtain ⟨rfl, rfl⟩ := hz
    refine w_istore_n b dX8_tie_21 (tlt rfl) rfl ?_
    refine w_iload_n b dX8_tie_22 rfl ?_
    refine z_if_ge (tgt := 29) b dX8_tie_23 (by decide) (by omega) (fun c23 => ?_) (fun c23 => ?_)
    · refine w_iload_n b dX8_tie_29 rfl ?_
      refine w_aload_n b dX8_tie_30 rfl rfl ?_
      refine q_get b dX8_tie_31 lfX8_15 (tlt rfl) ct_0 rfl ?_
      refine z_icmp_ne (tgt := 51) b dX8_tie_34 (by decide) (by omega) (fun c34 => ?_) (fun c34 => ?_)
      · exfalso; omega
      · refine w_aload_n b dX8_tie_37 rfl rfl ?_
        refine q_get b dX8_tie_38 lfX8_24 (tlt rfl) ct_0 rfl ?_
        refine w_aload_n b dX8_tie_41 rfl rfl ?_
        refine q_get b dX8_tie_42 lfX8_33 (tlt rfl) ct_0 rfl ?_
        refine c_V1 b dX8_tie_45 lmX8_145 (cpS (tlt rfl) ct_1) (k_tieRow0 (hR.sc (scC_W (C := C) (bg := t.2.2) (a := t.1) (en := edM (F 5) (F 4) (ms (F 3) (F 4) (F 5) 11) (c : Int) 0 (w : Int) (F 3 (c : Int)).toNat 0 (0, 0) (A 233)) hc7)) hf) (tle rfl) (by omega) (by omega) (by omega) ?_
        refine w_goto (tgt := 53) b dX8_tie_48 (by decide) ?_
        exact w_iret b dX8_tie_53 rfl (by omega) (by omega) ⟨rfl, _, _, scC_W hc7, rfl⟩
    · exfalso; omega
  · exfalso; omega
set_option maxRecDepth 20000 in
theorem k_X8_tie3 {l0 : Launch} {g : Gw} {w nx : Nat} {h : Nat → va_E} {C : Nat → Nat → Int} {A : Nat → Int → Int} {V : Nat → Value} {I : Nat → Int} {F : Nat → Int → Int} {ca : Nat → Nat} {sa : Nat → Nat → Nat} {own : Nat → Nat} {c : Nat} {t : CS} (hD : RDy h nx C V I F ca sa own) (hR : RCa w C A I F) (hc : (c : Int) < I 2) (h7 : col7 (A 232)) (ht : sg I F 12 (c : Int) (w : Int) (0, A 232, 0) = some t) (heq : t.1 = (w : Int)) (hf : I 21 < 40) (hen : ¬ enF (w : Int) t.2.1 (F 20) (F 18)) : MM l0 g 33 mX8_tie (cp w C A V h, nx) [.ref 0, .int (iI ((c : Int)))] 0 0 (fun r σ' => r = some (.int (iI (-5))) ∧ ∃ (C' : Nat → Nat → Int) (A' : Nat → Int → Int), scC C A C' A' ∧ σ' = (cp w C' A' V h, nx)) := by
  have hn2 := hD.n2
  have hw2 := hR.w2
  have hw1 := hR.w1
  have ht2 := hR.t2
  have htr := sg_mono hD.wf 12 (c : Int) (w : Int) (0, A 232, 0) t (by omega) hc (by show (0 : Int) ≤ 1000; omega) ht
  have htr0 : 0 ≤ t.1 := htr.1
  have hc7 := sg_c7 hD.wf hR.t2 (by omega) hR.b23 12 (c : Int) (w : Int) (0, A 232, 0) t (by omega) hc (by show (0 : Int) ≤ 0 ∧ (0 : Int) ≤ 1000; omega) h7 ht
  refine MM.of (by decide +kernel) (by simp [Value.category]) (tle rfl) (fun X b => ?_)
  change WW X g _ _ 0 0 0 [some (.ref 0), some (.int (iI ((c : Int)))), none] [] _
  refine w_aload_n b dX8_tie_0 rfl rfl ?_
  refine q_get b dX8_tie_1 lfX8_33 (tlt rfl) ct_0 rfl ?_
  refine w_iload_n b dX8_tie_4 rfl ?_
  refine c_V1 b dX8_tie_5 lmX8_63 (cpS (tlt rfl) ct_230) (k_X0_hasChant hD (by omega)) (tle rfl) (by omega) (by omega) (by omega) ?_
  refine z_ifb_ne (tgt := 13) b dX8_tie_8 (by decide) (fun c8 => ?_) (fun c8 => ?_)
  · refine w_aload_n b dX8_tie_13 rfl rfl ?_
    refine q_get b dX8_tie_14 lfX8_33 (tlt rfl) ct_0 rfl ?_
    refine w_iload_n b dX8_tie_17 rfl ?_
    refine w_callV (d' := 31) (mc' := 0) (ms' := 0) (st := []) (vs := [.int (iI (c : Int))]) b dX8_tie_18 lmX8_71 rfl rfl (cpS (tlt rfl) ct_230) (tle rfl) (by omega) (by omega) (by omega) (k_X0_sung1 hD hR hc h7 ht) (fun r σ' hz => ?_)
    obtain ⟨rfl, rfl⟩ := hz
    refine w_istore_n b dX8_tie_21 (tlt rfl) rfl ?_
    refine w_iload_n b dX8_tie_22 rfl ?_
    refine z_if_ge (tgt := 29) b dX8_tie_23 (by decide) (by omega) (fun c23 => ?_) (fun c23 => ?_)
    · refine w_iload_n b dX8_tie_29 rfl ?_
      refine w_aload_n b dX8_tie_30 rfl rfl ?_
      refine q_get b dX8_tie_31 lfX8_15 (tlt rfl) ct_0 rfl ?_
      refine z_icmp_ne (tgt := 51) b dX8_tie_34 (by decide) (by omega) (fun c34 => ?_) (fun c34 => ?_)
      · exfalso; omega
      · refine w_aload_n b dX8_tie_37 rfl rfl ?_
        refine q_get b dX8_tie_38 lfX8_24 (tlt rfl) ct_0 rfl ?_
        refine w_aload_n b dX8_tie_41 rfl rfl ?_
        refine q_get b dX8_tie_42 lfX8_33 (tlt rfl) ct_0 rfl ?_
        refine c_V1 b dX8_tie_45 lmX8_145 (cpS (tlt rfl) ct_1) (k_tieRow1 (hR.sc (scC_W (C := C) (bg := t.2.2) (a := t.1) (en := edM (F 5) (F 4) (ms (F 3) (F 4) (F 5) 11) (c : Int) 0 (w : Int) (F 3 (c : Int)).toNat 0 (0, 0) (A 233)) hc7)) (show (cW (cM C t.2.2) t.1) 230 5 = (w : Int) from heq) (fun j q1 q2 => hc7 j q1 (by omega)) hf hen) (tle rfl) (by omega) (by omega) (by omega) ?_
        refine w_goto (tgt := 53) b dX8_tie_48 (by decide) ?_
        exact w_iret b dX8_tie_53 rfl (by omega) (by omega) ⟨rfl, _, _, scC_W hc7, rfl⟩
    · exfalso; omega
  · exfalso; omega
set_option maxRecDepth 20000 in
theorem k_X8_tie4 {l0 : Launch} {g : Gw} {w nx : Nat} {h : Nat → va_E} {C : Nat → Nat → Int} {A : Nat → Int → Int} {V : Nat → Value} {I : Nat → Int} {F : Nat → Int → Int} {ca : Nat → Nat} {sa : Nat → Nat → Nat} {own : Nat → Nat} {c : Nat} {t : CS} (hD : RDy h nx C V I F ca sa own) (hR : RCa w C A I F) (hc : (c : Int) < I 2) (h7 : col7 (A 232)) (ht : sg I F 12 (c : Int) (w : Int) (0, A 232, 0) = some t) {r : Nat} (heq : t.1 = (w : Int)) (hr : I 21 = (r : Int)) (hf : I 21 < 40) (hen : enF (w : Int) t.2.1 (F 20) (F 18)) (hE : ∀ j, 0 ≤ j → j < 12 → inR ((edM (F 5) (F 4) (ms (F 3) (F 4) (F 5) 11) (c : Int) 0 (w : Int) (F 3 (c : Int)).toNat 0 (0, 0) (A 233)) j)) (hEx : ∀ i, 0 ≤ i → i < (w : Int) → ∃ j, 0 ≤ j ∧ j < 12 ∧ i < (edM (F 5) (F 4) (ms (F 3) (F 4) (F 5) 11) (c : Int) 0 (w : Int) (F 3 (c : Int)).toNat 0 (0, 0) (A 233)) j) : MM l0 g 33 mX8_tie (cp w C A V h, nx) [.ref 0, .int (iI ((c : Int)))] 0 0 (fun q σ' => q = some (.int (iI (I 21))) ∧ ∃ A2, LY w r (aW (aM A (edM (F 5) (F 4) (ms (F 3) (F 4) (F 5) 11) (c : Int) 0 (w : Int) (F 3 (c : Int)).toNat 0 (0, 0) (A 233))) t.2.1) 8 0 A2 ∧ σ' = (cp w (cR (cW (cM C t.2.2) t.1) r ((mwA (A 2) (A 3) (A2 (30 + 5 * r + 1)) w 0 (0, 0, 0)).1)) A2 V h, nx)) := by
  have hn2 := hD.n2
  have hw2 := hR.w2
  have hw1 := hR.w1
  have ht2 := hR.t2
  have htr := sg_mono hD.wf 12 (c : Int) (w : Int) (0, A 232, 0) t (by omega) hc (by show (0 : Int) ≤ 1000; omega) ht
  have htr0 : 0 ≤ t.1 := htr.1
  have hc7 := sg_c7 hD.wf hR.t2 (by omega) hR.b23 12 (c : Int) (w : Int) (0, A 232, 0) t (by omega) hc (by show (0 : Int) ≤ 0 ∧ (0 : Int) ≤ 1000; omega) h7 ht
  refine MM.of (by decide +kernel) (by simp [Value.category]) (tle rfl) (fun X b => ?_)
  change WW X g _ _ 0 0 0 [some (.ref 0), some (.int (iI ((c : Int)))), none] [] _
  refine w_aload_n b dX8_tie_0 rfl rfl ?_
  refine q_get b dX8_tie_1 lfX8_33 (tlt rfl) ct_0 rfl ?_
  refine w_iload_n b dX8_tie_4 rfl ?_
  refine c_V1 b dX8_tie_5 lmX8_63 (cpS (tlt rfl) ct_230) (k_X0_hasChant hD (by omega)) (tle rfl) (by omega) (by omega) (by omega) ?_
  refine z_ifb_ne (tgt := 13) b dX8_tie_8 (by decide) (fun c8 => ?_) (fun c8 => ?_)
  · refine w_aload_n b dX8_tie_13 rfl rfl ?_
    refine q_get b dX8_tie_14 lfX8_33 (tlt rfl) ct_0 rfl ?_
    refine w_iload_n b dX8_tie_17 rfl ?_
    refine w_callV (d' := 31) (mc' := 0) (ms' := 0) (st := []) (vs := [.int (iI (c : Int))]) b dX8_tie_18 lmX8_71 rfl rfl (cpS (tlt rfl) ct_230) (tle rfl) (by omega) (by omega) (by omega) (k_X0_sung1 hD hR hc h7 ht) (fun r σ' hz => ?_)
    obtain ⟨rfl, rfl⟩ := hz
    refine w_istore_n b dX8_tie_21 (tlt rfl) rfl ?_
    refine w_iload_n b dX8_tie_22 rfl ?_
    refine z_if_ge (tgt := 29) b dX8_tie_23 (by decide) (by omega) (fun c23 => ?_) (fun c23 => ?_)
    · refine w_iload_n b dX8_tie_29 rfl ?_
      refine w_aload_n b dX8_tie_30 rfl rfl ?_
      refine q_get b dX8_tie_31 lfX8_15 (tlt rfl) ct_0 rfl ?_
      refine z_icmp_ne (tgt := 51) b dX8_tie_34 (by decide) (by omega) (fun c34 => ?_) (fun c34 => ?_)
      · exfalso; omega
      · refine w_aload_n b dX8_tie_37 rfl rfl ?_
        refine q_get b dX8_tie_38 lfX8_24 (tlt rfl) ct_0 rfl ?_
        refine w_aload_n b dX8_tie_41 rfl rfl ?_
        refine q_get b dX8_tie_42 lfX8_33 (tlt rfl) ct_0 rfl ?_
        refine w_callV (d' := 2) (mc' := 0) (ms' := 0) (st := []) (vs := [.ref 230]) b dX8_tie_45 lmX8_145 rfl rfl (cpS (tlt rfl) ct_1) (tle rfl) (by omega) (by omega) (by omega) (k_tieRow2 (hR.sc (scC_W (C := C) (bg := t.2.2) (a := t.1) (en := edM (F 5) (F 4) (ms (F 3) (F 4) (F 5) 11) (c : Int) 0 (w : Int) (F 3 (c : Int)).toNat 0 (0, 0) (A 233)) hc7)) (show (cW (cM C t.2.2) t.1) 230 5 = (w : Int) from heq) (fun j q1 q2 => hc7 j q1 (by omega)) hr hf hE hEx hen) (fun q σ' hz => ?_)
        obtain ⟨rfl, A2, hA2, rfl⟩ := hz
        refine w_goto (tgt := 53) b dX8_tie_48 (by decide) ?_
        exact w_iret b dX8_tie_53 rfl (by omega) (by omega) ⟨by rw [hr], A2, hA2, rfl⟩
    · exfalso; omega
  · exfalso; omega
