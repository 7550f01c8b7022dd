/-! THE REFERENCE: rivals, borders (by p23.py) -/
set_option maxRecDepth 20000 in
theorem l_X9_wayOf {X : Cx} {l0 : Launch} {g : Gw} {Z : State → Prop} {mo nx : Nat} {h0 : Nat → va_E} {I : Nat → Int} {F : Nat → Int → Int} (b : BX X l0 g mX9_wayOf 0 0 0) {n a c : Int} (hn : 1 ≤ n ∧ n ≤ 400) (ha : 1 ≤ a ∧ a ≤ 40) (hc : 1 ≤ c ∧ c ≤ 40) : ∀ (k : Nat) (x best least : Int), (x + 1 = k) → (0 ≤ least ∧ least ≤ 1000) → (x * a ≤ n) → WW X g mX9_wayOf.2.2.1 Z 0 0 77 [some (.ref mo), some (.int (iI (n))), some (.int (iI (a))), some (.int (iI (c))), some (.int (iI (wayA n a c k x best least))), none, none, none] [] (mp mo h0 I F, nx) → WW X g mX9_wayOf.2.2.1 Z 0 0 14 [some (.ref mo), some (.int (iI (n))), some (.int (iI (a))), some (.int (iI (c))), some (.int (iI (best))), some (.int (iI (least))), some (.int (iI (x))), none] [] (mp mo h0 I F, nx) := by
  intro k
  induction k with
  | zero =>
    intro x best least h1 h2 h3 kk
    refine w_iload b dX9_wayOf_14 rfl ?_
    refine z_if_lt (tgt := 77) b dX9_wayOf_16 (by decide) (by omega) (fun c16 => ?_) (fun c16 => ?_)
    · refine ww_forget 5 ?_
      refine ww_forget 6 ?_
      exact kk
    · exfalso; omega
  | succ k ih =>
    intro x best least h1 h2 h3 kk
    have hx0 : 0 ≤ x := by omega
    have hxa : 0 ≤ x * a := Int.mul_nonneg hx0 (by omega)
    have hd1 := Int.ediv_nonneg (a := n - x * a) (b := c) (by omega) (by omega)
    have hd2 := Int.ediv_le_self (a := n - x * a) c (by omega)
    have hm1 := Int.emod_nonneg (n - x * a) (b := c) (by omega)
    have hm2 := Int.emod_lt_of_pos (n - x * a) (b := c) (by omega)
    have hx4 : x ≤ 400 := by have := Int.mul_le_mul_of_nonneg_left (show (1 : Int) ≤ a by omega) hx0; omega
    refine w_iload b dX9_wayOf_14 rfl ?_
    refine z_if_lt (tgt := 77) b dX9_wayOf_16 (by decide) (by omega) (fun c16 => ?_) (fun c16 => ?_)
    · exfalso; omega
    · refine w_iload_n b dX9_wayOf_19 rfl ?_
      refine w_iload b dX9_wayOf_20 rfl ?_
      refine w_iload_n b dX9_wayOf_22 rfl ?_
      
      refine z_imul b dX9_wayOf_23 ?_
      refine z_isub b dX9_wayOf_24 ?_
      
      refine w_istore b dX9_wayOf_25 (tlt rfl) rfl ?_
      refine w_iload b dX9_wayOf_27 rfl ?_
      refine w_iload_n b dX9_wayOf_29 rfl ?_
      refine z_irem b dX9_wayOf_30 (by omega) ?_
      refine z_if_ne (tgt := 71) b dX9_wayOf_31 (by decide) (by omega) (fun c31 => ?_) (fun c31 => ?_)
      · have e1 : wayA n a c (k + 1) x best least = wayA n a c k (x - 1) best least := by
          conv => lhs; unfold wayA
          rw [if_neg (fun z => c31 z.1)]
        rw [e1] at kk
        refine z_iinc b dX9_wayOf_71 rfl rfl rfl ?_
        refine w_goto (tgt := 14) b dX9_wayOf_74 (by decide) ?_
        refine ww_forget 7 ?_
        exact ih (x - 1) best least (by omega) (by omega) (by rw [Int.sub_mul]; omega) kk
      · refine w_iload b dX9_wayOf_34 rfl ?_
        refine w_iload b dX9_wayOf_36 rfl ?_
        refine w_iload_n b dX9_wayOf_38 rfl ?_
        refine z_idiv b dX9_wayOf_39 (by omega) ?_
        refine z_iadd b dX9_wayOf_40 ?_
        refine w_iload b dX9_wayOf_41 rfl ?_
        refine z_icmp_lt (tgt := 49) b dX9_wayOf_43 (by decide) (by omega) (fun c43 => ?_) (fun c43 => ?_)
        · have e1 : wayA n a c (k + 1) x best least = wayA n a c k (x - 1) (1000 * x + (n - x * a) / c) (x + (n - x * a) / c) := by
            conv => lhs; unfold wayA
            rw [if_pos ⟨c31, c43⟩]
          rw [e1] at kk
          refine w_iload b dX9_wayOf_49 rfl ?_
          refine w_iload b dX9_wayOf_51 rfl ?_
          refine w_iload_n b dX9_wayOf_53 rfl ?_
          refine z_idiv b dX9_wayOf_54 (by omega) ?_
          refine z_iadd b dX9_wayOf_55 ?_
          refine w_istore b dX9_wayOf_56 (tlt rfl) rfl ?_
          refine z_sipush b dX9_wayOf_58 (by decide) ?_
          refine w_iload b dX9_wayOf_61 rfl ?_
          refine z_imul b dX9_wayOf_63 ?_
          refine w_iload b dX9_wayOf_64 rfl ?_
          refine w_iload_n b dX9_wayOf_66 rfl ?_
          refine z_idiv b dX9_wayOf_67 (by omega) ?_
          refine z_iadd b dX9_wayOf_68 ?_
          refine w_istore b dX9_wayOf_69 (tlt rfl) rfl ?_
          refine z_iinc b dX9_wayOf_71 rfl rfl rfl ?_
          refine w_goto (tgt := 14) b dX9_wayOf_74 (by decide) ?_
          refine ww_forget 7 ?_
          exact ih (x - 1) _ _ (by omega) (by omega) (by rw [Int.sub_mul]; omega) kk
        · have e1 : wayA n a c (k + 1) x best least = wayA n a c k (x - 1) best least := by
            conv => lhs; unfold wayA
            rw [if_neg (fun z => c43 z.2)]
          rw [e1] at kk
          refine w_goto (tgt := 71) b dX9_wayOf_46 (by decide) ?_
          refine z_iinc b dX9_wayOf_71 rfl rfl rfl ?_
          refine w_goto (tgt := 14) b dX9_wayOf_74 (by decide) ?_
          refine ww_forget 7 ?_
          exact ih (x - 1) best least (by omega) (by omega) (by rw [Int.sub_mul]; omega) kk
set_option maxRecDepth 20000 in
theorem k_X9_wayOf {l0 : Launch} {g : Gw} {mo nx : Nat} {h0 : Nat → va_E} {I : Nat → Int} {F : Nat → Int → Int} {n a c : Int} (hn : 1 ≤ n ∧ n ≤ 400) (ha : 1 ≤ a ∧ a ≤ 40) (hc : 1 ≤ c ∧ c ≤ 40) : MD l0 g 0 mX9_wayOf (mp mo h0 I F, nx) [.ref mo, .int (iI (n)), .int (iI (a)), .int (iI (c))] 0 0 (some (.int (iI (wayA n a c (n / a + 1).toNat (n / a) (-4) 1000)))) (mp mo h0 I F, nx) := by
  refine MD.of (by decide +kernel) (by simp [Value.category]) (tle rfl) (fun X b => ?_)
  change WW X g _ _ 0 0 0 [some (.ref mo), some (.int (iI (n))), some (.int (iI (a))), some (.int (iI (c))), none, none, none, none] [] _
  refine z_bipush b dX9_wayOf_0 (by decide) ?_
  refine w_istore b dX9_wayOf_2 (tlt rfl) rfl ?_
  refine z_sipush b dX9_wayOf_4 (by decide) ?_
  refine w_istore b dX9_wayOf_7 (tlt rfl) rfl ?_
  refine w_iload_n b dX9_wayOf_9 rfl ?_
  refine w_iload_n b dX9_wayOf_10 rfl ?_
  refine z_idiv b dX9_wayOf_11 (by omega) ?_
  refine w_istore b dX9_wayOf_12 (tlt rfl) rfl ?_
  have hq1 := Int.ediv_nonneg (a := n) (b := a) (by omega) (by omega)
  refine l_X9_wayOf b hn ha hc (n / a + 1).toNat (n / a) (-4) 1000 (by omega) (by omega) (Int.ediv_mul_le n (by omega)) ?_
  refine w_iload b dX9_wayOf_77 rfl ?_
  exact w_iret b dX9_wayOf_79 rfl (by omega) (by omega) ⟨iv_eq (by first | rfl | omega | ((try simp only [b2]); ((repeat' split) <;> (first | rfl | omega)))), rfl⟩
set_option maxRecDepth 20000 in
theorem k_X9_meets {l0 : Launch} {g : Gw} {mo nx : Nat} {h0 : Nat → va_E} {I : Nat → Int} {F : Nat → Int → Int} {x y : Int} (hx : 0 ≤ x ∧ x < 2147483648) (hy : 0 ≤ y ∧ y < 2147483648) : MD l0 g 0 mX9_meets (mp mo h0 I F, nx) [.ref mo, .int (iI (x)), .int (iI (y))] 0 0 (some (.int (iI (b2 (¬ (0 < x % 1000 ↔ 0 < y / 1000)))))) (mp mo h0 I F, nx) := by
  refine MD.of (by decide +kernel) (by simp [Value.category]) (tle rfl) (fun X b => ?_)
  change WW X g _ _ 0 0 0 [some (.ref mo), some (.int (iI (x))), some (.int (iI (y)))] [] _
  refine w_iload_n b dX9_meets_0 rfl ?_
  refine z_sipush b dX9_meets_1 (by decide) ?_
  refine z_irem b dX9_meets_4 (by omega) ?_
  refine z_if_le (tgt := 12) b dX9_meets_5 (by decide) (by omega) (fun c5 => ?_) (fun c5 => ?_)
  · refine z_iconst b dX9_meets_12 ?_
    refine w_iload_n b dX9_meets_13 rfl ?_
    refine z_sipush b dX9_meets_14 (by decide) ?_
    refine z_idiv b dX9_meets_17 (by omega) ?_
    refine z_if_le (tgt := 25) b dX9_meets_18 (by decide) (by omega) (fun c18 => ?_) (fun c18 => ?_)
    · refine z_iconst b dX9_meets_25 ?_
      refine z_icmp_eq (tgt := 33) b dX9_meets_26 (by decide) (by omega) (fun c26 => ?_) (fun c26 => ?_)
      · refine z_iconst b dX9_meets_33 ?_
        exact z_zret b dX9_meets_34 rfl (by omega) (by omega) (by omega) ⟨iv_eq (by first | rfl | omega | ((try simp only [b2]); ((repeat' split) <;> (first | rfl | omega)))), rfl⟩
      · refine z_iconst b dX9_meets_29 ?_
        refine w_goto (tgt := 34) b dX9_meets_30 (by decide) ?_
        exact z_zret b dX9_meets_34 rfl (by omega) (by omega) (by omega) ⟨iv_eq (by first | rfl | omega | ((try simp only [b2]); ((repeat' split) <;> (first | rfl | omega)))), rfl⟩
    · refine z_iconst b dX9_meets_21 ?_
      refine w_goto (tgt := 26) b dX9_meets_22 (by decide) ?_
      refine z_icmp_eq (tgt := 33) b dX9_meets_26 (by decide) (by omega) (fun c26 => ?_) (fun c26 => ?_)
      · refine z_iconst b dX9_meets_33 ?_
        exact z_zret b dX9_meets_34 rfl (by omega) (by omega) (by omega) ⟨iv_eq (by first | rfl | omega | ((try simp only [b2]); ((repeat' split) <;> (first | rfl | omega)))), rfl⟩
      · refine z_iconst b dX9_meets_29 ?_
        refine w_goto (tgt := 34) b dX9_meets_30 (by decide) ?_
        exact z_zret b dX9_meets_34 rfl (by omega) (by omega) (by omega) ⟨iv_eq (by first | rfl | omega | ((try simp only [b2]); ((repeat' split) <;> (first | rfl | omega)))), rfl⟩
  · refine z_iconst b dX9_meets_8 ?_
    refine w_goto (tgt := 13) b dX9_meets_9 (by decide) ?_
    refine w_iload_n b dX9_meets_13 rfl ?_
    refine z_sipush b dX9_meets_14 (by decide) ?_
    refine z_idiv b dX9_meets_17 (by omega) ?_
    refine z_if_le (tgt := 25) b dX9_meets_18 (by decide) (by omega) (fun c18 => ?_) (fun c18 => ?_)
    · refine z_iconst b dX9_meets_25 ?_
      refine z_icmp_eq (tgt := 33) b dX9_meets_26 (by decide) (by omega) (fun c26 => ?_) (fun c26 => ?_)
      · refine z_iconst b dX9_meets_33 ?_
        exact z_zret b dX9_meets_34 rfl (by omega) (by omega) (by omega) ⟨iv_eq (by first | rfl | omega | ((try simp only [b2]); ((repeat' split) <;> (first | rfl | omega)))), rfl⟩
      · refine z_iconst b dX9_meets_29 ?_
        refine w_goto (tgt := 34) b dX9_meets_30 (by decide) ?_
        exact z_zret b dX9_meets_34 rfl (by omega) (by omega) (by omega) ⟨iv_eq (by first | rfl | omega | ((try simp only [b2]); ((repeat' split) <;> (first | rfl | omega)))), rfl⟩
    · refine z_iconst b dX9_meets_21 ?_
      refine w_goto (tgt := 26) b dX9_meets_22 (by decide) ?_
      refine z_icmp_eq (tgt := 33) b dX9_meets_26 (by decide) (by omega) (fun c26 => ?_) (fun c26 => ?_)
      · refine z_iconst b dX9_meets_33 ?_
        exact z_zret b dX9_meets_34 rfl (by omega) (by omega) (by omega) ⟨iv_eq (by first | rfl | omega | ((try simp only [b2]); ((repeat' split) <;> (first | rfl | omega)))), rfl⟩
      · refine z_iconst b dX9_meets_29 ?_
        refine w_goto (tgt := 34) b dX9_meets_30 (by decide) ?_
        exact z_zret b dX9_meets_34 rfl (by omega) (by omega) (by omega) ⟨iv_eq (by first | rfl | omega | ((try simp only [b2]); ((repeat' split) <;> (first | rfl | omega)))), rfl⟩
set_option maxRecDepth 20000 in
theorem k_X9_areUnits {l0 : Launch} {g : Gw} {mo nx : Nat} {h0 : Nat → va_E} {I : Nat → Int} {F : Nat → Int → Int} {a c : Int} (ha : inR a) (hc : inR c) : MD l0 g 1 mX9_areUnits (mp mo h0 I F, nx) [.ref mo, .int (iI (a)), .int (iI (c))] 0 0 (some (.int (iI (b2 ((1 ≤ a ∧ a ≤ 40) ∧ (1 ≤ c ∧ c ≤ 40) ∧ ¬ a = c))))) (mp mo h0 I F, nx) := by
  refine MD.of (by decide +kernel) (by simp [Value.category]) (tle rfl) (fun X b => ?_)
  change WW X g _ _ 0 0 0 [some (.ref mo), some (.int (iI (a))), some (.int (iI (c)))] [] _
  refine w_aload_n b dX9_areUnits_0 rfl rfl ?_
  refine w_iload_n b dX9_areUnits_1 rfl ?_
  refine z_iconst b dX9_areUnits_2 ?_
  refine z_bipush b dX9_areUnits_3 (by decide) ?_
  refine c_V3 b dX9_areUnits_5 lmX9_137 (mp_obj _ _ _ _) (k_X9_in (by omega) (by omega) (by omega)) (tle rfl) (by omega) (by omega) (by omega) ?_
  refine z_ifb_eq (tgt := 31) b dX9_areUnits_8 (by decide) (fun c8 => ?_) (fun c8 => ?_)
  · refine z_iconst b dX9_areUnits_31 ?_
    exact z_zret b dX9_areUnits_32 rfl (by omega) (by omega) (by omega) ⟨iv_eq (by first | rfl | omega | ((try simp only [b2]); ((repeat' split) <;> (first | rfl | omega)))), rfl⟩
  · refine w_aload_n b dX9_areUnits_11 rfl rfl ?_
    refine w_iload_n b dX9_areUnits_12 rfl ?_
    refine z_iconst b dX9_areUnits_13 ?_
    refine z_bipush b dX9_areUnits_14 (by decide) ?_
    refine c_V3 b dX9_areUnits_16 lmX9_137 (mp_obj _ _ _ _) (k_X9_in (by omega) (by omega) (by omega)) (tle rfl) (by omega) (by omega) (by omega) ?_
    refine z_ifb_eq (tgt := 31) b dX9_areUnits_19 (by decide) (fun c19 => ?_) (fun c19 => ?_)
    · refine z_iconst b dX9_areUnits_31 ?_
      exact z_zret b dX9_areUnits_32 rfl (by omega) (by omega) (by omega) ⟨iv_eq (by first | rfl | omega | ((try simp only [b2]); ((repeat' split) <;> (first | rfl | omega)))), rfl⟩
    · refine w_iload_n b dX9_areUnits_22 rfl ?_
      refine w_iload_n b dX9_areUnits_23 rfl ?_
      refine z_icmp_eq (tgt := 31) b dX9_areUnits_24 (by decide) (by omega) (fun c24 => ?_) (fun c24 => ?_)
      · refine z_iconst b dX9_areUnits_31 ?_
        exact z_zret b dX9_areUnits_32 rfl (by omega) (by omega) (by omega) ⟨iv_eq (by first | rfl | omega | ((try simp only [b2]); ((repeat' split) <;> (first | rfl | omega)))), rfl⟩
      · refine z_iconst b dX9_areUnits_27 ?_
        refine w_goto (tgt := 32) b dX9_areUnits_28 (by decide) ?_
        exact z_zret b dX9_areUnits_32 rfl (by omega) (by omega) (by omega) ⟨iv_eq (by first | rfl | omega | ((try simp only [b2]); ((repeat' split) <;> (first | rfl | omega)))), rfl⟩
/-- a side's way; all is as told -/
def wyF (n a c : Int) : Int := wayA n a c (n / a + 1).toNat (n / a) (-4) 1000
theorem wayA_rng {n a c : Int} (hn : 1 ≤ n ∧ n ≤ 400) (ha : 1 ≤ a) (hc : 1 ≤ c) : ∀ (k : Nat) (x best least : Int), x + 1 = k → x ≤ 400 → x * a ≤ n → (best = -4 ∨ (0 ≤ best ∧ best ≤ 401000)) → wayA n a c k x best least = -4 ∨ (0 ≤ wayA n a c k x best least ∧ wayA n a c k x best least ≤ 401000) := by
  intro k
  induction k with
  | zero => intro x best least _ _ _ h; exact h
  | succ k ih =>
    intro x best least h1 h2 h3 h4
    have hx0 : 0 ≤ x := by omega
    have hxa : 0 ≤ x * a := Int.mul_nonneg hx0 (by omega)
    have hd1 := Int.ediv_nonneg (a := n - x * a) (b := c) (by omega) (by omega)
    have hd2 := Int.ediv_le_self (a := n - x * a) c (by omega)
    unfold wayA
    split
    · exact ih (x - 1) _ _ (by omega) (by omega) (by rw [Int.sub_mul]; omega) (by omega)
    · exact ih (x - 1) _ _ (by omega) (by omega) (by rw [Int.sub_mul]; omega) h4
theorem wyF_rng {n a c : Int} (hn : 1 ≤ n ∧ n ≤ 400) (ha : 1 ≤ a) (hc : 1 ≤ c) : wyF n a c = -4 ∨ (0 ≤ wyF n a c ∧ wyF n a c ≤ 401000) := by
  have hq1 := Int.ediv_nonneg (a := n) (b := a) (by omega) (by omega)
  have hq2 := Int.ediv_le_self (a := n) a (by omega)
  exact wayA_rng hn ha hc _ _ _ _ (by omega) (by omega) (Int.ediv_mul_le n (by omega)) (Or.inl rfl)
set_option maxRecDepth 20000 in
theorem k_X9_side {l0 : Launch} {g : Gw} {mo nx : Nat} {h0 : Nat → va_E} {I : Nat → Int} {F : Nat → Int → Int} {n a c : Int} (hn : inR n) (ha : inR a) (hc : inR c) : MD l0 g 2 mX9_side (mp mo h0 I F, nx) [.ref mo, .int (iI (n)), .int (iI (a)), .int (iI (c))] 0 0 (some (.int (iI (if (1 ≤ n ∧ n ≤ 400) ∧ (1 ≤ a ∧ a ≤ 40) ∧ (1 ≤ c ∧ c ≤ 40) ∧ ¬ a = c then wyF n a c else -1)))) (mp mo h0 I F, nx) := by
  refine MD.of (by decide +kernel) (by simp [Value.category]) (tle rfl) (fun X b => ?_)
  change WW X g _ _ 0 0 0 [some (.ref mo), some (.int (iI (n))), some (.int (iI (a))), some (.int (iI (c)))] [] _
  refine w_aload_n b dX9_side_0 rfl rfl ?_
  refine w_iload_n b dX9_side_1 rfl ?_
  refine z_iconst b dX9_side_2 ?_
  refine z_sipush b dX9_side_3 (by decide) ?_
  refine c_V3 b dX9_side_6 lmX9_137 (mp_obj _ _ _ _) (k_X9_in (by omega) (by omega) (by omega)) (tle rfl) (by omega) (by omega) (by omega) ?_
  refine z_ifb_eq (tgt := 31) b dX9_side_9 (by decide) (fun c9 => ?_) (fun c9 => ?_)
  · refine z_iconst b dX9_side_31 ?_
    exact w_iret b dX9_side_32 rfl (by omega) (by omega) ⟨iv_eq (by first | (rw [if_pos (by omega)]; rfl) | (rw [if_neg (by omega)])), rfl⟩
  · refine w_aload_n b dX9_side_12 rfl rfl ?_
    refine w_iload_n b dX9_side_13 rfl ?_
    refine w_iload_n b dX9_side_14 rfl ?_
    refine c_V2 b dX9_side_15 lmX9_195 (mp_obj _ _ _ _) (k_X9_areUnits (by omega) (by omega)) (tle rfl) (by omega) (by omega) (by omega) ?_
    refine z_ifb_eq (tgt := 31) b dX9_side_18 (by decide) (fun c18 => ?_) (fun c18 => ?_)
    · refine z_iconst b dX9_side_31 ?_
      exact w_iret b dX9_side_32 rfl (by omega) (by omega) ⟨iv_eq (by first | (rw [if_pos (by omega)]; rfl) | (rw [if_neg (by omega)])), rfl⟩
    · refine w_aload_n b dX9_side_21 rfl rfl ?_
      refine w_iload_n b dX9_side_22 rfl ?_
      refine w_iload_n b dX9_side_23 rfl ?_
      refine w_iload_n b dX9_side_24 rfl ?_
      refine c_V3 b dX9_side_25 lmX9_198 (mp_obj _ _ _ _) (k_X9_wayOf (by omega) (by omega) (by omega)) (tle rfl) (by omega) (by omega) (by omega) ?_
      refine w_goto (tgt := 32) b dX9_side_28 (by decide) ?_
      exact w_iret b dX9_side_32 rfl (by omega) (by omega) ⟨iv_eq (by first | (rw [if_pos (by omega)]; rfl) | (rw [if_neg (by omega)])), rfl⟩
set_option maxRecDepth 20000 in
theorem k_X9_corner {l0 : Launch} {g : Gw} {mo nx : Nat} {h0 : Nat → va_E} {I : Nat → Int} {F : Nat → Int → Int} {n m a c : Int} (hn : inR n) (hm : inR m) (ha : inR a) (hc : inR c) : MD l0 g 2 mX9_corner (mp mo h0 I F, nx) [.ref mo, .int (iI (n)), .int (iI (m)), .int (iI (a)), .int (iI (c))] 0 0 (some (.int (iI (if (1 ≤ n ∧ n ≤ 400) ∧ (1 ≤ m ∧ m ≤ 400) ∧ (1 ≤ a ∧ a ≤ 40) ∧ (1 ≤ c ∧ c ≤ 40) ∧ ¬ a = c then (if wyF n a c < 0 ∨ wyF m a c < 0 then -4 else b2 (¬ (0 < wyF n a c % 1000 ↔ 0 < wyF m a c / 1000))) else -1)))) (mp mo h0 I F, nx) := by
  refine MD.of (by decide +kernel) (by simp [Value.category]) (tle rfl) (fun X b => ?_)
  change WW X g _ _ 0 0 0 [some (.ref mo), some (.int (iI (n))), some (.int (iI (m))), some (.int (iI (a))), some (.int (iI (c))), none, none] [] _
  refine w_aload_n b dX9_corner_0 rfl rfl ?_
  refine w_iload_n b dX9_corner_1 rfl ?_
  refine z_iconst b dX9_corner_2 ?_
  refine z_sipush b dX9_corner_3 (by decide) ?_
  refine c_V3 b dX9_corner_6 lmX9_137 (mp_obj _ _ _ _) (k_X9_in (by omega) (by omega) (by omega)) (tle rfl) (by omega) (by omega) (by omega) ?_
  refine z_ifb_eq (tgt := 34) b dX9_corner_9 (by decide) (fun c9 => ?_) (fun c9 => ?_)
  · refine z_iconst b dX9_corner_34 ?_
    exact w_iret b dX9_corner_35 rfl (by omega) (by omega) ⟨iv_eq (by first | (rw [if_neg (by omega)]) | (rw [if_pos (by omega), if_pos (by omega)]) | (rw [if_pos (by omega), if_neg (by omega)]; first | (rw [b2_t c79]) | (rw [b2_f c79]))), rfl⟩
  · refine w_aload_n b dX9_corner_12 rfl rfl ?_
    refine w_iload_n b dX9_corner_13 rfl ?_
    refine z_iconst b dX9_corner_14 ?_
    refine z_sipush b dX9_corner_15 (by decide) ?_
    refine c_V3 b dX9_corner_18 lmX9_137 (mp_obj _ _ _ _) (k_X9_in (by omega) (by omega) (by omega)) (tle rfl) (by omega) (by omega) (by omega) ?_
    refine z_ifb_eq (tgt := 34) b dX9_corner_21 (by decide) (fun c21 => ?_) (fun c21 => ?_)
    · refine z_iconst b dX9_corner_34 ?_
      exact w_iret b dX9_corner_35 rfl (by omega) (by omega) ⟨iv_eq (by first | (rw [if_neg (by omega)]) | (rw [if_pos (by omega), if_pos (by omega)]) | (rw [if_pos (by omega), if_neg (by omega)]; first | (rw [b2_t c79]) | (rw [b2_f c79]))), rfl⟩
    · refine w_aload_n b dX9_corner_24 rfl rfl ?_
      refine w_iload_n b dX9_corner_25 rfl ?_
      refine w_iload b dX9_corner_26 rfl ?_
      refine c_V2 b dX9_corner_28 lmX9_195 (mp_obj _ _ _ _) (k_X9_areUnits (by omega) (by omega)) (tle rfl) (by omega) (by omega) (by omega) ?_
      refine z_ifb_ne (tgt := 36) b dX9_corner_31 (by decide) (fun c31 => ?_) (fun c31 => ?_)
      · refine w_aload_n b dX9_corner_36 rfl rfl ?_
        refine w_iload_n b dX9_corner_37 rfl ?_
        refine w_iload_n b dX9_corner_38 rfl ?_
        refine w_iload b dX9_corner_39 rfl ?_
        refine c_V3 (w := .int (iI (wyF n a c))) b dX9_corner_41 lmX9_198 (mp_obj _ _ _ _) (k_X9_wayOf (by omega) (by omega) (by omega)) (tle rfl) (by omega) (by omega) (by omega) ?_
        refine w_istore b dX9_corner_44 (tlt rfl) rfl ?_
        refine w_aload_n b dX9_corner_46 rfl rfl ?_
        refine w_iload_n b dX9_corner_47 rfl ?_
        refine w_iload_n b dX9_corner_48 rfl ?_
        refine w_iload b dX9_corner_49 rfl ?_
        refine c_V3 (w := .int (iI (wyF m a c))) b dX9_corner_51 lmX9_198 (mp_obj _ _ _ _) (k_X9_wayOf (by omega) (by omega) (by omega)) (tle rfl) (by omega) (by omega) (by omega) ?_
        refine w_istore b dX9_corner_54 (tlt rfl) rfl ?_
        have hy1 := wyF_rng (n := n) (a := a) (c := c) (by omega) (by omega) (by omega)
        have hy2 := wyF_rng (n := m) (a := a) (c := c) (by omega) (by omega) (by omega)
        refine w_iload b dX9_corner_56 rfl ?_
        refine z_if_lt (tgt := 66) b dX9_corner_58 (by decide) (by omega) (fun c58 => ?_) (fun c58 => ?_)
        · refine z_bipush b dX9_corner_66 (by decide) ?_
          refine w_goto (tgt := 87) b dX9_corner_68 (by decide) ?_
          exact w_iret b dX9_corner_87 rfl (by omega) (by omega) ⟨iv_eq (by first | (rw [if_neg (by omega)]) | (rw [if_pos (by omega), if_pos (by omega)]) | (rw [if_pos (by omega), if_neg (by omega)]; first | (rw [b2_t c79]) | (rw [b2_f c79]))), rfl⟩
        · refine w_iload b dX9_corner_61 rfl ?_
          refine z_if_ge (tgt := 71) b dX9_corner_63 (by decide) (by omega) (fun c63 => ?_) (fun c63 => ?_)
          · refine w_aload_n b dX9_corner_71 rfl rfl ?_
            refine w_iload b dX9_corner_72 rfl ?_
            refine w_iload b dX9_corner_74 rfl ?_
            refine c_V2 b dX9_corner_76 lmX9_202 (mp_obj _ _ _ _) (k_X9_meets (by omega) (by omega)) (tle rfl) (by omega) (by omega) (by omega) ?_
            refine z_ifb_eq (tgt := 86) b dX9_corner_79 (by decide) (fun c79 => ?_) (fun c79 => ?_)
            · refine z_iconst b dX9_corner_86 ?_
              exact w_iret b dX9_corner_87 rfl (by omega) (by omega) ⟨iv_eq (by first | (rw [if_neg (by omega)]) | (rw [if_pos (by omega), if_pos (by omega)]) | (rw [if_pos (by omega), if_neg (by omega)]; first | (rw [b2_t c79]) | (rw [b2_f c79]))), rfl⟩
            · refine z_iconst b dX9_corner_82 ?_
              refine w_goto (tgt := 87) b dX9_corner_83 (by decide) ?_
              exact w_iret b dX9_corner_87 rfl (by omega) (by omega) ⟨iv_eq (by first | (rw [if_neg (by omega)]) | (rw [if_pos (by omega), if_pos (by omega)]) | (rw [if_pos (by omega), if_neg (by omega)]; first | (rw [b2_t c79]) | (rw [b2_f c79]))), rfl⟩
          · refine z_bipush b dX9_corner_66 (by decide) ?_
            refine w_goto (tgt := 87) b dX9_corner_68 (by decide) ?_
            exact w_iret b dX9_corner_87 rfl (by omega) (by omega) ⟨iv_eq (by first | (rw [if_neg (by omega)]) | (rw [if_pos (by omega), if_pos (by omega)]) | (rw [if_pos (by omega), if_neg (by omega)]; first | (rw [b2_t c79]) | (rw [b2_f c79]))), rfl⟩
      · refine z_iconst b dX9_corner_34 ?_
        exact w_iret b dX9_corner_35 rfl (by omega) (by omega) ⟨iv_eq (by first | (rw [if_neg (by omega)]) | (rw [if_pos (by omega), if_pos (by omega)]) | (rw [if_pos (by omega), if_neg (by omega)]; first | (rw [b2_t c79]) | (rw [b2_f c79]))), rfl⟩
/-- the least n, from n on, for which a corner meets -/
def ftA (a c : Int) : Nat → Int → Int
  | 0, _ => -4
  | k + 1, n => if 0 ≤ wyF n a c ∧ ¬ (0 < wyF n a c % 1000 ↔ 0 < wyF n a c / 1000) then n else ftA a c k (n + 1)
set_option maxRecDepth 20000 in
theorem l_X9_fits {X : Cx} {l0 : Launch} {g : Gw} {Q : Option Value → Sg → Prop} {mo nx : Nat} {h0 : Nat → va_E} {I : Nat → Int} {F : Nat → Int → Int} (b : BX X l0 g mX9_fits 2 0 0) {f a c : Int} (ha : 1 ≤ a ∧ a ≤ 40) (hc : 1 ≤ c ∧ c ≤ 40) : ∀ (k : Nat) (n : Int), (n + k = 401) → (1 ≤ n) → Q (some (.int (iI (ftA a c k n)))) (mp mo h0 I F, nx) → WW X g mX9_fits.2.2.1 (ZQ X g Q 0 0) 0 0 26 [some (.ref mo), some (.int (iI (f))), some (.int (iI (a))), some (.int (iI (c))), some (.int (iI (n))), none] [] (mp mo h0 I F, nx) := by
  intro k
  induction k with
  | zero =>
    intro n h1 h2 hq
    refine w_iload b dX9_fits_26 rfl ?_
    refine z_sipush b dX9_fits_28 (by decide) ?_
    refine z_icmp_gt (tgt := 69) b dX9_fits_31 (by decide) (by omega) (fun c31 => ?_) (fun c31 => ?_)
    · refine z_bipush b dX9_fits_69 (by decide) ?_
      exact w_iret b dX9_fits_71 rfl (by omega) (by omega) hq
    · exfalso; omega
  | succ k ih =>
    intro n h1 h2 hq
    refine w_iload b dX9_fits_26 rfl ?_
    refine z_sipush b dX9_fits_28 (by decide) ?_
    refine z_icmp_gt (tgt := 69) b dX9_fits_31 (by decide) (by omega) (fun c31 => ?_) (fun c31 => ?_)
    · exfalso; omega
    · refine w_aload_n b dX9_fits_34 rfl rfl ?_
      refine w_iload b dX9_fits_35 rfl ?_
      refine w_iload_n b dX9_fits_37 rfl ?_
      refine w_iload_n b dX9_fits_38 rfl ?_
      refine c_V3 (w := .int (iI (wyF n a c))) b dX9_fits_39 lmX9_198 (mp_obj _ _ _ _) (k_X9_wayOf (by omega) (by omega) (by omega)) (tle rfl) (by omega) (by omega) (by omega) ?_
      have hy1 := wyF_rng (n := n) (a := a) (c := c) (by omega) (by omega) (by omega)
      refine w_istore b dX9_fits_42 (tlt rfl) rfl ?_
      refine w_iload b dX9_fits_44 rfl ?_
      refine z_if_lt (tgt := 63) b dX9_fits_46 (by decide) (by omega) (fun c46 => ?_) (fun c46 => ?_)
      · have e1 : ftA a c (k + 1) n = ftA a c k (n + 1) := by
          conv => lhs; unfold ftA
          rw [if_neg (fun z => by omega)]
        rw [e1] at hq
        refine z_iinc b dX9_fits_63 rfl rfl rfl ?_
        refine w_goto (tgt := 26) b dX9_fits_66 (by decide) ?_
        refine ww_forget 5 ?_
        exact ih (n + 1) (by omega) (by omega) hq
      · refine w_aload_n b dX9_fits_49 rfl rfl ?_
        refine w_iload b dX9_fits_50 rfl ?_
        refine w_iload b dX9_fits_52 rfl ?_
        refine c_V2 b dX9_fits_54 lmX9_202 (mp_obj _ _ _ _) (k_X9_meets (by omega) (by omega)) (tle rfl) (by omega) (by omega) (by omega) ?_
        refine z_ifb_eq (tgt := 63) b dX9_fits_57 (by decide) (fun c57 => ?_) (fun c57 => ?_)
        · have e1 : ftA a c (k + 1) n = ftA a c k (n + 1) := by
            conv => lhs; unfold ftA
            rw [if_neg (fun z => c57 z.2)]
          rw [e1] at hq
          refine z_iinc b dX9_fits_63 rfl rfl rfl ?_
          refine w_goto (tgt := 26) b dX9_fits_66 (by decide) ?_
          refine ww_forget 5 ?_
          exact ih (n + 1) (by omega) (by omega) hq
        · have e1 : ftA a c (k + 1) n = n := by
            conv => lhs; unfold ftA
            rw [if_pos ⟨by omega, c57⟩]
          rw [e1] at hq
          refine w_iload b dX9_fits_60 rfl ?_
          exact w_iret b dX9_fits_62 rfl (by omega) (by omega) hq
set_option maxRecDepth 20000 in
theorem k_X9_fits {l0 : Launch} {g : Gw} {mo nx : Nat} {h0 : Nat → va_E} {I : Nat → Int} {F : Nat → Int → Int} {f a c : Int} (hf : inR f) (ha : inR a) (hc : inR c) : MD l0 g 2 mX9_fits (mp mo h0 I F, nx) [.ref mo, .int (iI (f)), .int (iI (a)), .int (iI (c))] 0 0 (some (.int (iI (if (1 ≤ f ∧ f ≤ 400) ∧ (1 ≤ a ∧ a ≤ 40) ∧ (1 ≤ c ∧ c ≤ 40) ∧ ¬ a = c then ftA a c (401 - f).toNat f else -1)))) (mp mo h0 I F, nx) := by
  refine MD.of (by decide +kernel) (by simp [Value.category]) (tle rfl) (fun X b => ?_)
  change WW X g _ _ 0 0 0 [some (.ref mo), some (.int (iI (f))), some (.int (iI (a))), some (.int (iI (c))), none, none] [] _
  refine w_aload_n b dX9_fits_0 rfl rfl ?_
  refine w_iload_n b dX9_fits_1 rfl ?_
  refine z_iconst b dX9_fits_2 ?_
  refine z_sipush b dX9_fits_3 (by decide) ?_
  refine c_V3 b dX9_fits_6 lmX9_137 (mp_obj _ _ _ _) (k_X9_in (by omega) (by omega) (by omega)) (tle rfl) (by omega) (by omega) (by omega) ?_
  refine z_ifb_eq (tgt := 21) b dX9_fits_9 (by decide) (fun c9 => ?_) (fun c9 => ?_)
  · refine z_iconst b dX9_fits_21 ?_
    exact w_iret b dX9_fits_22 rfl (by omega) (by omega) ⟨iv_eq (by rw [if_neg (by omega)]), rfl⟩
  · refine w_aload_n b dX9_fits_12 rfl rfl ?_
    refine w_iload_n b dX9_fits_13 rfl ?_
    refine w_iload_n b dX9_fits_14 rfl ?_
    refine c_V2 b dX9_fits_15 lmX9_195 (mp_obj _ _ _ _) (k_X9_areUnits (by omega) (by omega)) (tle rfl) (by omega) (by omega) (by omega) ?_
    refine z_ifb_ne (tgt := 23) b dX9_fits_18 (by decide) (fun c18 => ?_) (fun c18 => ?_)
    · refine w_iload_n b dX9_fits_23 rfl ?_
      refine w_istore b dX9_fits_24 (tlt rfl) rfl ?_
      exact l_X9_fits b (by omega) (by omega) (401 - f).toNat f (by omega) (by omega) ⟨iv_eq (by rw [if_pos (by omega)]), rfl⟩
    · refine z_iconst b dX9_fits_21 ?_
      exact w_iret b dX9_fits_22 rfl (by omega) (by omega) ⟨iv_eq (by rw [if_neg (by omega)]), rfl⟩
