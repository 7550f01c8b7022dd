/-! THE CLASS: borders (by p64.py) -/
/-- the class's way: the larger unit as often as can be -/
def wcA (n a l s : Int) : Nat → Int → Int
  | 0, _ => -4
  | m + 1, x => if (n - x * l) % s = 0 then (if a = l then 1000 * x + (n - x * l) / s else 1000 * ((n - x * l) / s) + x) else wcA n a l s m (x - 1)
theorem wayA_stay {n a c : Int} (hc : 0 < c) (hac : c ≤ a) : ∀ (m : Nat) (x best least : Int), least ≤ x + (n - x * a) / c → wayA n a c m x best least = best := by
  intro m
  induction m with
  | zero => intro x best least _; rfl
  | succ m ih =>
    intro x best least h
    unfold wayA
    rw [if_neg (fun z => by omega)]
    refine ih (x - 1) best least ?_
    have e1 : n - (x - 1) * a = n - x * a + a := by rw [Int.sub_mul]; omega
    have e2 : (n - x * a + c) / c = (n - x * a) / c + 1 := by
      have := Int.add_mul_ediv_right (n - x * a) 1 (c := c) (by omega)
      rwa [Int.one_mul] at this
    have e3 : (n - x * a + c) / c ≤ (n - x * a + a) / c := Int.ediv_le_ediv hc (by omega)
    rw [e1]
    omega
theorem way_big {n a c : Int} (hn : 1 ≤ n ∧ n ≤ 400) (hc : 0 < c) (hac : c ≤ a) : ∀ (m : Nat) (x : Int), x + 1 = m → x * a ≤ n → wayA n a c m x (-4) 1000 = wcA n a a c m x := by
  intro m
  induction m with
  | zero => intro x _ _; rfl
  | succ m ih =>
    intro x h1 h2
    have hx0 : 0 ≤ x := by omega
    have hxa : 0 ≤ x * a := Int.mul_nonneg hx0 (by omega)
    have hd1 := Int.ediv_nonneg (a := n - x * a) (b := c) (by omega) (by omega)
    have hd2 := Int.ediv_le_self (a := n - x * a) c (by omega)
    have hx4 : x ≤ x * a := by have := Int.mul_le_mul_of_nonneg_left (show (1 : Int) ≤ a by omega) hx0; omega
    unfold wayA wcA
    by_cases e : (n - x * a) % c = 0
    · rw [if_pos ⟨e, by omega⟩, if_pos e, if_pos rfl]
      refine wayA_stay hc hac m (x - 1) _ _ ?_
      have e1 : n - (x - 1) * a = n - x * a + a := by rw [Int.sub_mul]; omega
      have e2 : (n - x * a + c) / c = (n - x * a) / c + 1 := by
        have := Int.add_mul_ediv_right (n - x * a) 1 (c := c) (by omega)
        rwa [Int.one_mul] at this
      have e3 : (n - x * a + c) / c ≤ (n - x * a + a) / c := Int.ediv_le_ediv hc (by omega)
      rw [e1]
      omega
    · rw [if_neg (fun z => e z.1), if_neg e]
      exact ih (x - 1) (by omega) (by rw [Int.sub_mul]; omega)
theorem way_tot {n a c x y : Int} (hc : 0 < c) (hac : a < c) (hx : (n - x * a) % c = 0) (hy : (n - y * a) % c = 0) (h : y < x) : y + (n - y * a) / c < x + (n - x * a) / c := by
  have e1 := Int.ediv_mul_cancel (Int.dvd_of_emod_eq_zero hx)
  have e2 := Int.ediv_mul_cancel (Int.dvd_of_emod_eq_zero hy)
  generalize (n - x * a) / c = p at e1 ⊢
  generalize (n - y * a) / c = q at e2 ⊢
  have e3 : (q - p) * c = (x - y) * a := by rw [Int.sub_mul, Int.sub_mul]; omega
  rcases Int.lt_or_le (q - p) (x - y) with z | z
  · omega
  · exfalso
    have h1 : (x - y) * c ≤ (q - p) * c := Int.mul_le_mul_of_nonneg_right z (by omega)
    have h2 : (x - y) * (a + 1) ≤ (x - y) * c := Int.mul_le_mul_of_nonneg_left (by omega) (by omega)
    have h3 : (x - y) * (a + 1) = (x - y) * a + (x - y) := by rw [Int.mul_add, Int.mul_one]
    omega
theorem way_low {n a c : Int} (hc : 0 < c) (hac : a < c) : ∀ (m : Nat) (x best least : Int), x + 1 = m → (∀ y, 0 ≤ y → y ≤ x → (n - y * a) % c = 0 → y + (n - y * a) / c < least) → ((∀ y, 0 ≤ y → y ≤ x → ¬ (n - y * a) % c = 0) → wayA n a c m x best least = best) ∧ (∀ y, 0 ≤ y → y ≤ x → (n - y * a) % c = 0 → (∀ z, 0 ≤ z → z < y → ¬ (n - z * a) % c = 0) → wayA n a c m x best least = 1000 * y + (n - y * a) / c) := by
  intro m
  induction m with
  | zero => intro x best least h1 _; exact ⟨fun _ => rfl, fun y h2 h3 => by omega⟩
  | succ m ih =>
    intro x best least h1 h2
    by_cases e : (n - x * a) % c = 0
    · have e9 : wayA n a c (m + 1) x best least = wayA n a c m (x - 1) (1000 * x + (n - x * a) / c) (x + (n - x * a) / c) := by
        conv => lhs; unfold wayA
        rw [if_pos ⟨e, h2 x (by omega) (by omega) e⟩]
      have h9 := ih (x - 1) (1000 * x + (n - x * a) / c) (x + (n - x * a) / c) (by omega) (fun y g1 g2 g3 => way_tot hc hac e g3 (by omega))
      rw [e9]
      refine ⟨fun g => absurd e (g x (by omega) (by omega)), fun y g1 g2 g3 g4 => ?_⟩
      by_cases ey : y = x
      · subst ey
        exact h9.1 (fun z k1 k2 => g4 z k1 (by omega))
      · exact h9.2 y g1 (by omega) g3 g4
    · have e9 : wayA n a c (m + 1) x best least = wayA n a c m (x - 1) best least := by
        conv => lhs; unfold wayA
        rw [if_neg (fun z => e z.1)]
      have h9 := ih (x - 1) best least (by omega) (fun y g1 g2 g3 => h2 y g1 (by omega) g3)
      rw [e9]
      refine ⟨fun g => h9.1 (fun z k1 k2 => g z k1 (by omega)), fun y g1 g2 g3 g4 => ?_⟩
      by_cases ey : y = x
      · subst ey
        exact absurd g3 e
      · exact h9.2 y g1 (by omega) g3 g4
theorem wc_low {n a l s : Int} (hne : ¬ a = l) : ∀ (m : Nat) (x : Int), x + 1 = m → (wcA n a l s m x = -4 ∧ ∀ y, 0 ≤ y → y ≤ x → ¬ (n - y * l) % s = 0) ∨ ∃ y, 0 ≤ y ∧ y ≤ x ∧ (n - y * l) % s = 0 ∧ (∀ z, y < z → z ≤ x → ¬ (n - z * l) % s = 0) ∧ wcA n a l s m x = 1000 * ((n - y * l) / s) + y := by
  intro m
  induction m with
  | zero => intro x h1; exact Or.inl ⟨rfl, fun y h2 h3 => by omega⟩
  | succ m ih =>
    intro x h1
    by_cases e : (n - x * l) % s = 0
    · refine Or.inr ⟨x, by omega, by omega, e, fun z k1 k2 => by omega, ?_⟩
      unfold wcA
      rw [if_pos e, if_neg hne]
    · have e9 : wcA n a l s (m + 1) x = wcA n a l s m (x - 1) := by
        conv => lhs; unfold wcA
        rw [if_neg e]
      rw [e9]
      rcases ih (x - 1) (by omega) with ⟨g1, g2⟩ | ⟨y, g1, g2, g3, g4, g5⟩
      · refine Or.inl ⟨g1, fun y k1 k2 => ?_⟩
        by_cases ey : y = x
        · subst ey; exact e
        · exact g2 y k1 (by omega)
      · refine Or.inr ⟨y, g1, by omega, g3, fun z k1 k2 => ?_, g5⟩
        by_cases ez : z = x
        · subst ez; exact e
        · exact g4 z k1 (by omega)
theorem way_eq {n a c : Int} (hn : 1 ≤ n ∧ n ≤ 400) (ha : 1 ≤ a ∧ a ≤ 40) (hc : 1 ≤ c ∧ c ≤ 40) (hac : a < c) : wcA n a c a (n / c + 1).toNat (n / c) = wyF n a c := by
  have hq1 := Int.ediv_nonneg (a := n) (b := a) (by omega) (by omega)
  have hq2 := Int.ediv_nonneg (a := n) (b := c) (by omega) (by omega)
  have hm1 := Int.ediv_mul_le n (b := a) (by omega)
  have hm2 := Int.ediv_mul_le n (b := c) (by omega)
  have tot : ∀ y, 0 ≤ y → y ≤ n / a → y + (n - y * a) / c < 1000 := fun y g1 g2 => by
    have h1 : y * a ≤ n / a * a := Int.mul_le_mul_of_nonneg_right g2 (by omega)
    have h2 := Int.mul_le_mul_of_nonneg_left (show (1 : Int) ≤ a by omega) g1
    have h3 : 0 ≤ y * a := Int.mul_nonneg g1 (by omega)
    have hd2 := Int.ediv_le_self (a := n - y * a) c (by omega)
    omega
  have hL := way_low (n := n) (a := a) (c := c) (by omega) hac (n / a + 1).toNat (n / a) (-4) 1000 (by omega) (fun y g1 g2 _ => tot y g1 g2)
  rcases wc_low (n := n) (a := a) (l := c) (s := a) (by omega) (n / c + 1).toNat (n / c) (by omega) with ⟨g1, g2⟩ | ⟨y, g1, g2, g3, g4, g5⟩
  · rw [g1]
    refine (hL.1 (fun x k1 k2 k3 => ?_)).symm
    have e1 := Int.ediv_mul_cancel (Int.dvd_of_emod_eq_zero k3)
    have h1 : x * a ≤ n / a * a := Int.mul_le_mul_of_nonneg_right k2 (by omega)
    have hd1 := Int.ediv_nonneg (a := n - x * a) (b := c) (by omega) (by omega)
    refine g2 ((n - x * a) / c) hd1 (Int.ediv_le_ediv (by omega) (by have := Int.mul_nonneg k1 (show 0 ≤ a by omega); omega)) ?_
    rw [e1, show n - (n - x * a) = x * a by omega]
    exact Int.mul_emod_left x a
  · rw [g5]
    have e1 := Int.ediv_mul_cancel (Int.dvd_of_emod_eq_zero g3)
    have h1 : y * c ≤ n / c * c := Int.mul_le_mul_of_nonneg_right g2 (by omega)
    have h0 := Int.mul_nonneg g1 (show 0 ≤ c by omega)
    have hd1 := Int.ediv_nonneg (a := n - y * c) (b := a) (by omega) (by omega)
    have e2 : n - (n - y * c) / a * a = y * c := by rw [e1]; omega
    have e3 : (n - (n - y * c) / a * a) / c = y := by rw [e2]; exact Int.mul_ediv_cancel y (by omega)
    have h9 := hL.2 ((n - y * c) / a) hd1 (Int.ediv_le_ediv (by omega) (by omega)) (by rw [e2]; exact Int.mul_emod_left y c) (fun x k1 k2 k3 => ?_)
    · rw [e3] at h9
      exact h9.symm
    · have e4 := Int.ediv_mul_cancel (Int.dvd_of_emod_eq_zero k3)
      have h2 : (x + 1) * a ≤ (n - y * c) / a * a := Int.mul_le_mul_of_nonneg_right (by omega) (by omega)
      rw [Int.add_mul] at h2
      have hxa := Int.mul_nonneg k1 (show 0 ≤ a by omega)
      refine g4 ((n - x * a) / c) ?_ (Int.ediv_le_ediv (by omega) (by omega)) ?_
      · rcases Int.lt_or_le y ((n - x * a) / c) with z | z
        · exact z
        · exfalso
          have := Int.mul_le_mul_of_nonneg_right z (show 0 ≤ c by omega)
          omega
      · rw [e4, show n - (n - x * a) = x * a by omega]
        exact Int.mul_emod_left x a
theorem wcA_wyF {n a c : Int} (hn : 1 ≤ n ∧ n ≤ 400) (ha : 1 ≤ a ∧ a ≤ 40) (hc : 1 ≤ c ∧ c ≤ 40) (hne : ¬ a = c) : wcA n a (if c ≤ a then a else c) (if a ≤ c then a else c) (n / (if c ≤ a then a else c) + 1).toNat (n / (if c ≤ a then a else c)) = wyF n a c := by
  by_cases h : c ≤ a
  · rw [if_pos h, if_neg (by omega)]
    have hq1 := Int.ediv_nonneg (a := n) (b := a) (by omega) (by omega)
    exact (way_big hn (by omega) h _ _ (by omega) (Int.ediv_mul_le n (by omega))).symm
  · rw [if_neg h, if_pos (by omega)]
    exact way_eq hn ha hc (by omega)
set_option maxRecDepth 20000 in
theorem l_X8_wayOf {X : Cx} {l0 : Launch} {g : Gw} {Q : Option Value → Sg → Prop} {w nx : Nat} {h : Nat → va_E} {C : Nat → Nat → Int} {A : Nat → Int → Int} {V : Nat → Value} (b : BX X l0 g mX8_wayOf 1 0 0) {n a c l s : Int} (hn : 1 ≤ n ∧ n ≤ 400) (ha : 1 ≤ a ∧ a ≤ 40) (hl : 1 ≤ l ∧ l ≤ 40) (hs : 1 ≤ s ∧ s ≤ 40) : ∀ (k : Nat) (x : Int), (x + 1 = k) → (x * l ≤ n) → Q (some (.int (iI (wcA n a l s k x)))) (cp w C A V h, nx) → WW X g mX8_wayOf.2.2.1 (ZQ X g Q 0 0) 0 0 18 [some (.int (iI (n))), some (.int (iI (a))), some (.int (iI (c))), some (.int (iI (l))), some (.int (iI (s))), some (.int (iI (x))), none, none] [] (cp w C A V h, nx) := by
  intro k
  induction k with
  | zero =>
    intro x h1 h3 hq
    refine w_iload b dX8_wayOf_18 rfl ?_
    refine z_if_lt (tgt := 79) b dX8_wayOf_20 (by decide) (by omega) (fun c20 => ?_) (fun c20 => ?_)
    · refine z_bipush b dX8_wayOf_79 (by decide) ?_
      exact w_iret b dX8_wayOf_81 rfl (by omega) (by omega) hq
    · exfalso; omega
  | succ k ih =>
    intro x h1 h3 hq
    have hx0 : 0 ≤ x := by omega
    have hx4 : x ≤ x * l := by have := Int.mul_le_mul_of_nonneg_left (show (1 : Int) ≤ l by omega) hx0; omega
    have hxa : 0 ≤ x * l := Int.mul_nonneg hx0 (by omega)
    have hd1 := Int.ediv_nonneg (a := n - x * l) (b := s) (by omega) (by omega)
    have hd2 := Int.ediv_le_self (a := n - x * l) s (by omega)
    have hm1 := Int.emod_nonneg (n - x * l) (b := s) (by omega)
    have hm2 := Int.emod_lt_of_pos (n - x * l) (b := s) (by omega)
    refine w_iload b dX8_wayOf_18 rfl ?_
    refine z_if_lt (tgt := 79) b dX8_wayOf_20 (by decide) (by omega) (fun c20 => ?_) (fun c20 => ?_)
    · exfalso; omega
    · refine w_iload_n b dX8_wayOf_23 rfl ?_
      refine w_iload b dX8_wayOf_24 rfl ?_
      refine w_iload_n b dX8_wayOf_26 rfl ?_
      refine z_imul b dX8_wayOf_27 ?_
      refine z_isub b dX8_wayOf_28 ?_
      refine w_istore b dX8_wayOf_29 (tlt rfl) rfl ?_
      refine w_iload b dX8_wayOf_31 rfl ?_
      refine w_iload b dX8_wayOf_33 rfl ?_
      refine z_irem b dX8_wayOf_35 (by omega) ?_
      refine z_if_ne (tgt := 73) b dX8_wayOf_36 (by decide) (by omega) (fun c36 => ?_) (fun c36 => ?_)
      · have e1 : wcA n a l s (k + 1) x = wcA n a l s k (x - 1) := by
          conv => lhs; unfold wcA
          rw [if_neg c36]
        rw [e1] at hq
        refine z_iinc b dX8_wayOf_73 rfl rfl rfl ?_
        refine w_goto (tgt := 18) b dX8_wayOf_76 (by decide) ?_
        refine ww_forget 6 ?_
        exact ih (x - 1) (by omega) (by rw [Int.sub_mul]; omega) hq
      · refine w_iload b dX8_wayOf_39 rfl ?_
        refine w_iload b dX8_wayOf_41 rfl ?_
        refine z_idiv b dX8_wayOf_43 (by omega) ?_
        refine w_istore b dX8_wayOf_44 (tlt rfl) rfl ?_
        refine w_iload_n b dX8_wayOf_46 rfl ?_
        refine w_iload_n b dX8_wayOf_47 rfl ?_
        refine z_icmp_ne (tgt := 63) b dX8_wayOf_48 (by decide) (by omega) (fun c48 => ?_) (fun c48 => ?_)
        · have e1 : wcA n a l s (k + 1) x = 1000 * ((n - x * l) / s) + x := by
            conv => lhs; unfold wcA
            rw [if_pos c36, if_neg c48]
          rw [e1] at hq
          refine z_sipush b dX8_wayOf_63 (by decide) ?_
          refine w_iload b dX8_wayOf_66 rfl ?_
          refine z_imul b dX8_wayOf_68 ?_
          refine w_iload b dX8_wayOf_69 rfl ?_
          refine z_iadd b dX8_wayOf_71 ?_
          exact w_iret b dX8_wayOf_72 rfl (by omega) (by omega) hq
        · have e1 : wcA n a l s (k + 1) x = 1000 * x + (n - x * l) / s := by
            conv => lhs; unfold wcA
            rw [if_pos c36, if_pos c48]
          rw [e1] at hq
          refine z_sipush b dX8_wayOf_51 (by decide) ?_
          refine w_iload b dX8_wayOf_54 rfl ?_
          refine z_imul b dX8_wayOf_56 ?_
          refine w_iload b dX8_wayOf_57 rfl ?_
          refine z_iadd b dX8_wayOf_59 ?_
          refine w_goto (tgt := 72) b dX8_wayOf_60 (by decide) ?_
          exact w_iret b dX8_wayOf_72 rfl (by omega) (by omega) hq
set_option maxRecDepth 20000 in
theorem k_X8_wayOf {l0 : Launch} {g : Gw} {w nx : Nat} {h : Nat → va_E} {C : Nat → Nat → Int} {A : Nat → Int → Int} {V : Nat → Value} {n a c : Int} (hn : 1 ≤ n ∧ n ≤ 400) (ha : 1 ≤ a ∧ a ≤ 40) (hc : 1 ≤ c ∧ c ≤ 40) (hne : ¬ a = c) : MD l0 g 1 mX8_wayOf (cp w C A V h, nx) [.int (iI (n)), .int (iI (a)), .int (iI (c))] 0 0 (some (.int (iI (wyF n a c)))) (cp w C A V h, nx) := by
  have hL : 1 ≤ (if c ≤ a then a else c) ∧ (if c ≤ a then a else c) ≤ 40 := by split <;> omega
  have hS : 1 ≤ (if a ≤ c then a else c) ∧ (if a ≤ c then a else c) ≤ 40 := by split <;> omega
  refine MD.of (by decide +kernel) (by simp [Value.category]) (tle rfl) (fun X b => ?_)
  change WW X g _ _ 0 0 0 [some (.int (iI (n))), some (.int (iI (a))), some (.int (iI (c))), none, none, none, none, none] [] _
  refine w_iload_n b dX8_wayOf_0 rfl ?_
  refine w_iload_n b dX8_wayOf_1 rfl ?_
  refine c_S2 b dX8_wayOf_2 lmX8_309 (k_J9_max_7cf53 (by omega) (by omega)) (tle rfl) (by omega) (by omega) (by omega) ?_
  refine w_istore_n b dX8_wayOf_5 (tlt rfl) rfl ?_
  refine w_iload_n b dX8_wayOf_6 rfl ?_
  refine w_iload_n b dX8_wayOf_7 rfl ?_
  refine c_S2 b dX8_wayOf_8 lmX8_312 (k_J9_min_7cf53 (by omega) (by omega)) (tle rfl) (by omega) (by omega) (by omega) ?_
  refine w_istore b dX8_wayOf_11 (tlt rfl) rfl ?_
  refine w_iload_n b dX8_wayOf_13 rfl ?_
  refine w_iload_n b dX8_wayOf_14 rfl ?_
  refine z_idiv b dX8_wayOf_15 (by omega) ?_
  refine w_istore b dX8_wayOf_16 (tlt rfl) rfl ?_
  have hq1 := Int.ediv_nonneg (a := n) (b := (if c ≤ a then a else c)) (by omega) (by omega)
  exact l_X8_wayOf b hn ha hL hS (n / (if c ≤ a then a else c) + 1).toNat (n / (if c ≤ a then a else c)) (by omega) (Int.ediv_mul_le n (by omega)) ⟨iv_eq (wcA_wyF hn ha hc hne), rfl⟩
set_option maxRecDepth 20000 in
theorem k_X8_meet {l0 : Launch} {g : Gw} {w nx : Nat} {h : Nat → va_E} {C : Nat → Nat → Int} {A : Nat → Int → Int} {V : Nat → Value} {x y : Int} (hx : 0 ≤ x ∧ x < 2147483648) (hy : 0 ≤ y ∧ y < 2147483648) : MD l0 g 0 mX8_meet (cp w C A V h, nx) [.int (iI (x)), .int (iI (y))] 0 0 (some (.int (iI (b2 (¬ (0 < x % 1000 ↔ 0 < y / 1000)))))) (cp w C A V h, nx) := by
  refine MD.of (by decide +kernel) (by simp [Value.category]) (tle rfl) (fun X b => ?_)
  change WW X g _ _ 0 0 0 [some (.int (iI (x))), some (.int (iI (y))), none, none] [] _
  refine w_iload_n b dX8_meet_0 rfl ?_
  refine z_sipush b dX8_meet_1 (by decide) ?_
  refine z_irem b dX8_meet_4 (by omega) ?_
  refine z_if_ne (tgt := 12) b dX8_meet_5 (by decide) (by omega) (fun c5 => ?_) (fun c5 => ?_)
  · refine z_iconst b dX8_meet_12 ?_
    refine w_istore_n b dX8_meet_13 (tlt rfl) rfl ?_
    refine w_iload_n b dX8_meet_14 rfl ?_
    refine z_sipush b dX8_meet_15 (by decide) ?_
    refine z_idiv b dX8_meet_18 (by omega) ?_
    refine z_if_le (tgt := 26) b dX8_meet_19 (by decide) (by omega) (fun c19 => ?_) (fun c19 => ?_)
    · refine z_iconst b dX8_meet_26 ?_
      refine w_istore_n b dX8_meet_27 (tlt rfl) rfl ?_
      refine w_iload_n b dX8_meet_28 rfl ?_
      refine w_iload_n b dX8_meet_29 rfl ?_
      refine z_icmp_ne (tgt := 37) b dX8_meet_30 (by decide) (by omega) (fun c30 => ?_) (fun c30 => ?_)
      · refine z_iconst b dX8_meet_37 ?_
        exact z_zret b dX8_meet_38 rfl (by omega) (by omega) (by omega) ⟨iv_eq (by first | rfl | omega | ((try simp only [b2]); ((repeat' split) <;> (first | rfl | omega)))), rfl⟩
      · refine z_iconst b dX8_meet_33 ?_
        refine w_goto (tgt := 38) b dX8_meet_34 (by decide) ?_
        exact z_zret b dX8_meet_38 rfl (by omega) (by omega) (by omega) ⟨iv_eq (by first | rfl | omega | ((try simp only [b2]); ((repeat' split) <;> (first | rfl | omega)))), rfl⟩
    · refine z_iconst b dX8_meet_22 ?_
      refine w_goto (tgt := 27) b dX8_meet_23 (by decide) ?_
      refine w_istore_n b dX8_meet_27 (tlt rfl) rfl ?_
      refine w_iload_n b dX8_meet_28 rfl ?_
      refine w_iload_n b dX8_meet_29 rfl ?_
      refine z_icmp_ne (tgt := 37) b dX8_meet_30 (by decide) (by omega) (fun c30 => ?_) (fun c30 => ?_)
      · refine z_iconst b dX8_meet_37 ?_
        exact z_zret b dX8_meet_38 rfl (by omega) (by omega) (by omega) ⟨iv_eq (by first | rfl | omega | ((try simp only [b2]); ((repeat' split) <;> (first | rfl | omega)))), rfl⟩
      · refine z_iconst b dX8_meet_33 ?_
        refine w_goto (tgt := 38) b dX8_meet_34 (by decide) ?_
        exact z_zret b dX8_meet_38 rfl (by omega) (by omega) (by omega) ⟨iv_eq (by first | rfl | omega | ((try simp only [b2]); ((repeat' split) <;> (first | rfl | omega)))), rfl⟩
  · refine z_iconst b dX8_meet_8 ?_
    refine w_goto (tgt := 13) b dX8_meet_9 (by decide) ?_
    refine w_istore_n b dX8_meet_13 (tlt rfl) rfl ?_
    refine w_iload_n b dX8_meet_14 rfl ?_
    refine z_sipush b dX8_meet_15 (by decide) ?_
    refine z_idiv b dX8_meet_18 (by omega) ?_
    refine z_if_le (tgt := 26) b dX8_meet_19 (by decide) (by omega) (fun c19 => ?_) (fun c19 => ?_)
    · refine z_iconst b dX8_meet_26 ?_
      refine w_istore_n b dX8_meet_27 (tlt rfl) rfl ?_
      refine w_iload_n b dX8_meet_28 rfl ?_
      refine w_iload_n b dX8_meet_29 rfl ?_
      refine z_icmp_ne (tgt := 37) b dX8_meet_30 (by decide) (by omega) (fun c30 => ?_) (fun c30 => ?_)
      · refine z_iconst b dX8_meet_37 ?_
        exact z_zret b dX8_meet_38 rfl (by omega) (by omega) (by omega) ⟨iv_eq (by first | rfl | omega | ((try simp only [b2]); ((repeat' split) <;> (first | rfl | omega)))), rfl⟩
      · refine z_iconst b dX8_meet_33 ?_
        refine w_goto (tgt := 38) b dX8_meet_34 (by decide) ?_
        exact z_zret b dX8_meet_38 rfl (by omega) (by omega) (by omega) ⟨iv_eq (by first | rfl | omega | ((try simp only [b2]); ((repeat' split) <;> (first | rfl | omega)))), rfl⟩
    · refine z_iconst b dX8_meet_22 ?_
      refine w_goto (tgt := 27) b dX8_meet_23 (by decide) ?_
      refine w_istore_n b dX8_meet_27 (tlt rfl) rfl ?_
      refine w_iload_n b dX8_meet_28 rfl ?_
      refine w_iload_n b dX8_meet_29 rfl ?_
      refine z_icmp_ne (tgt := 37) b dX8_meet_30 (by decide) (by omega) (fun c30 => ?_) (fun c30 => ?_)
      · refine z_iconst b dX8_meet_37 ?_
        exact z_zret b dX8_meet_38 rfl (by omega) (by omega) (by omega) ⟨iv_eq (by first | rfl | omega | ((try simp only [b2]); ((repeat' split) <;> (first | rfl | omega)))), rfl⟩
      · refine z_iconst b dX8_meet_33 ?_
        refine w_goto (tgt := 38) b dX8_meet_34 (by decide) ?_
        exact z_zret b dX8_meet_38 rfl (by omega) (by omega) (by omega) ⟨iv_eq (by first | rfl | omega | ((try simp only [b2]); ((repeat' split) <;> (first | rfl | omega)))), rfl⟩
set_option maxRecDepth 20000 in
theorem k_X8_side {l0 : Launch} {g : Gw} {w nx : Nat} {h : Nat → va_E} {C : Nat → Nat → Int} {A : Nat → Int → Int} {V : Nat → Value} {n a c : Int} (hn : inR n) (ha : inR a) (hc : inR c) : MD l0 g 2 mX8_side (cp w C A V h, nx) [.ref 0, .int (iI (n)), .int (iI (a)), .int (iI (c))] 0 0 (some (.int (iI (if (1 ≤ n ∧ n ≤ 400) ∧ (1 ≤ a ∧ a ≤ 40) ∧ (1 ≤ c ∧ c ≤ 40) ∧ ¬ a = c then wyF n a c else -1)))) (cp w C A V h, nx) := by
  refine MD.of (by decide +kernel) (by simp [Value.category]) (tle rfl) (fun X b => ?_)
  change WW X g _ _ 0 0 0 [some (.ref 0), some (.int (iI (n))), some (.int (iI (a))), some (.int (iI (c)))] [] _
  refine w_iload_n b dX8_side_0 rfl ?_
  refine c_S1 b dX8_side_1 lmX8_205 (k_X8_isSide (by omega)) (tle rfl) (by omega) (by omega) (by omega) ?_
  refine z_ifb_eq (tgt := 24) b dX8_side_4 (by decide) (fun c4 => ?_) (fun c4 => ?_)
  · refine z_iconst b dX8_side_24 ?_
    exact w_iret b dX8_side_25 rfl (by omega) (by omega) ⟨iv_eq (by first | (rw [if_pos (by omega)]; done) | (rw [if_neg (by omega)]; done)), rfl⟩
  · refine w_iload_n b dX8_side_7 rfl ?_
    refine w_iload_n b dX8_side_8 rfl ?_
    refine c_S2 b dX8_side_9 lmX8_208 (k_X8_areUnits (by omega) (by omega)) (tle rfl) (by omega) (by omega) (by omega) ?_
    refine z_ifb_eq (tgt := 24) b dX8_side_12 (by decide) (fun c12 => ?_) (fun c12 => ?_)
    · refine z_iconst b dX8_side_24 ?_
      exact w_iret b dX8_side_25 rfl (by omega) (by omega) ⟨iv_eq (by first | (rw [if_pos (by omega)]; done) | (rw [if_neg (by omega)]; done)), rfl⟩
    · refine w_iload_n b dX8_side_15 rfl ?_
      refine w_iload_n b dX8_side_16 rfl ?_
      refine w_iload_n b dX8_side_17 rfl ?_
      refine c_S3 b dX8_side_18 lmX8_211 (k_X8_wayOf (by omega) (by omega) (by omega) (by omega)) (tle rfl) (by omega) (by omega) (by omega) ?_
      refine w_goto (tgt := 25) b dX8_side_21 (by decide) ?_
      exact w_iret b dX8_side_25 rfl (by omega) (by omega) ⟨iv_eq (by first | (rw [if_pos (by omega)]; done) | (rw [if_neg (by omega)]; done)), rfl⟩
set_option maxRecDepth 20000 in
theorem k_X8_corner {l0 : Launch} {g : Gw} {w nx : Nat} {h : Nat → va_E} {C : Nat → Nat → Int} {A : Nat → Int → Int} {V : Nat → Value} {n m a c : Int} (hn : inR n) (hm : inR m) (ha : inR a) (hc : inR c) : MD l0 g 2 mX8_corner (cp w C A V h, nx) [.ref 0, .int (iI (n)), .int (iI (m)), .int (iI (a)), .int (iI (c))] 0 0 (some (.int (iI (if (1 ≤ n ∧ n ≤ 400) ∧ (1 ≤ m ∧ m ≤ 400) ∧ (1 ≤ a ∧ a ≤ 40) ∧ (1 ≤ c ∧ c ≤ 40) ∧ ¬ a = c then (if wyF n a c < 0 ∨ wyF m a c < 0 then -4 else b2 (¬ (0 < wyF n a c % 1000 ↔ 0 < wyF m a c / 1000))) else -1)))) (cp w C A V h, nx) := by
  refine MD.of (by decide +kernel) (by simp [Value.category]) (tle rfl) (fun X b => ?_)
  change WW X g _ _ 0 0 0 [some (.ref 0), some (.int (iI (n))), some (.int (iI (m))), some (.int (iI (a))), some (.int (iI (c))), none, none] [] _
  refine w_iload_n b dX8_corner_0 rfl ?_
  refine c_S1 b dX8_corner_1 lmX8_205 (k_X8_isSide (by omega)) (tle rfl) (by omega) (by omega) (by omega) ?_
  refine z_ifb_eq (tgt := 23) b dX8_corner_4 (by decide) (fun c4 => ?_) (fun c4 => ?_)
  · refine z_iconst b dX8_corner_23 ?_
    exact w_iret b dX8_corner_24 rfl (by omega) (by omega) ⟨iv_eq (by first | (rw [if_neg (by omega)]; done) | (rw [if_pos (by omega), if_pos (by omega)]; done) | (rw [if_pos (by omega), if_neg (by omega)]; first | (rw [b2_t c63]; done) | (rw [b2_f c63]; done))), rfl⟩
  · refine w_iload_n b dX8_corner_7 rfl ?_
    refine c_S1 b dX8_corner_8 lmX8_205 (k_X8_isSide (by omega)) (tle rfl) (by omega) (by omega) (by omega) ?_
    refine z_ifb_eq (tgt := 23) b dX8_corner_11 (by decide) (fun c11 => ?_) (fun c11 => ?_)
    · refine z_iconst b dX8_corner_23 ?_
      exact w_iret b dX8_corner_24 rfl (by omega) (by omega) ⟨iv_eq (by first | (rw [if_neg (by omega)]; done) | (rw [if_pos (by omega), if_pos (by omega)]; done) | (rw [if_pos (by omega), if_neg (by omega)]; first | (rw [b2_t c63]; done) | (rw [b2_f c63]; done))), rfl⟩
    · refine w_iload_n b dX8_corner_14 rfl ?_
      refine w_iload b dX8_corner_15 rfl ?_
      refine c_S2 b dX8_corner_17 lmX8_208 (k_X8_areUnits (by omega) (by omega)) (tle rfl) (by omega) (by omega) (by omega) ?_
      refine z_ifb_ne (tgt := 25) b dX8_corner_20 (by decide) (fun c20 => ?_) (fun c20 => ?_)
      · refine w_iload_n b dX8_corner_25 rfl ?_
        refine w_iload_n b dX8_corner_26 rfl ?_
        refine w_iload b dX8_corner_27 rfl ?_
        refine c_S3 b dX8_corner_29 lmX8_211 (k_X8_wayOf (by omega) (by omega) (by omega) (by omega)) (tle rfl) (by omega) (by omega) (by omega) ?_
        refine w_istore b dX8_corner_32 (tlt rfl) rfl ?_
        refine w_iload_n b dX8_corner_34 rfl ?_
        refine w_iload_n b dX8_corner_35 rfl ?_
        refine w_iload b dX8_corner_36 rfl ?_
        refine c_S3 b dX8_corner_38 lmX8_211 (k_X8_wayOf (by omega) (by omega) (by omega) (by omega)) (tle rfl) (by omega) (by omega) (by omega) ?_
        refine w_istore b dX8_corner_41 (tlt rfl) rfl ?_
        have hy1 := wyF_rng (n := n) (a := a) (c := c) (by omega) (by omega) (by omega)
        have hy2 := wyF_rng (n := m) (a := a) (c := c) (by omega) (by omega) (by omega)
        refine w_iload b dX8_corner_43 rfl ?_
        refine z_if_lt (tgt := 53) b dX8_corner_45 (by decide) (by omega) (fun c45 => ?_) (fun c45 => ?_)
        · refine z_bipush b dX8_corner_53 (by decide) ?_
          exact w_iret b dX8_corner_55 rfl (by omega) (by omega) ⟨iv_eq (by first | (rw [if_neg (by omega)]; done) | (rw [if_pos (by omega), if_pos (by omega)]; done) | (rw [if_pos (by omega), if_neg (by omega)]; first | (rw [b2_t c63]; done) | (rw [b2_f c63]; done))), rfl⟩
        · refine w_iload b dX8_corner_48 rfl ?_
          refine z_if_ge (tgt := 56) b dX8_corner_50 (by decide) (by omega) (fun c50 => ?_) (fun c50 => ?_)
          · refine w_iload b dX8_corner_56 rfl ?_
            refine w_iload b dX8_corner_58 rfl ?_
            refine c_S2 b dX8_corner_60 lmX8_214 (k_X8_meet (by omega) (by omega)) (tle rfl) (by omega) (by omega) (by omega) ?_
            refine z_ifb_eq (tgt := 70) b dX8_corner_63 (by decide) (fun c63 => ?_) (fun c63 => ?_)
            · refine z_iconst b dX8_corner_70 ?_
              exact w_iret b dX8_corner_71 rfl (by omega) (by omega) ⟨iv_eq (by first | (rw [if_neg (by omega)]; done) | (rw [if_pos (by omega), if_pos (by omega)]; done) | (rw [if_pos (by omega), if_neg (by omega)]; first | (rw [b2_t c63]; done) | (rw [b2_f c63]; done))), rfl⟩
            · refine z_iconst b dX8_corner_66 ?_
              refine w_goto (tgt := 71) b dX8_corner_67 (by decide) ?_
              exact w_iret b dX8_corner_71 rfl (by omega) (by omega) ⟨iv_eq (by first | (rw [if_neg (by omega)]; done) | (rw [if_pos (by omega), if_pos (by omega)]; done) | (rw [if_pos (by omega), if_neg (by omega)]; first | (rw [b2_t c63]; done) | (rw [b2_f c63]; done))), rfl⟩
          · refine z_bipush b dX8_corner_53 (by decide) ?_
            exact w_iret b dX8_corner_55 rfl (by omega) (by omega) ⟨iv_eq (by first | (rw [if_neg (by omega)]; done) | (rw [if_pos (by omega), if_pos (by omega)]; done) | (rw [if_pos (by omega), if_neg (by omega)]; first | (rw [b2_t c63]; done) | (rw [b2_f c63]; done))), rfl⟩
      · refine z_iconst b dX8_corner_23 ?_
        exact w_iret b dX8_corner_24 rfl (by omega) (by omega) ⟨iv_eq (by first | (rw [if_neg (by omega)]; done) | (rw [if_pos (by omega), if_pos (by omega)]; done) | (rw [if_pos (by omega), if_neg (by omega)]; first | (rw [b2_t c63]; done) | (rw [b2_f c63]; done))), rfl⟩
set_option maxRecDepth 20000 in
theorem l_X8_fits {X : Cx} {l0 : Launch} {g : Gw} {Q : Option Value → Sg → Prop} {w nx : Nat} {h : Nat → va_E} {C : Nat → Nat → Int} {A : Nat → Int → Int} {V : Nat → Value} (b : BX X l0 g mX8_fits 2 0 0) {f a c : Int} (ha : 1 ≤ a ∧ a ≤ 40) (hc : 1 ≤ c ∧ c ≤ 40) (hne : ¬ a = c) : ∀ (k : Nat) (n : Int), (n + k = 401) → (1 ≤ n) → Q (some (.int (iI (ftA a c k n)))) (cp w C A V h, nx) → WW X g mX8_fits.2.2.1 (ZQ X g Q 0 0) 0 0 20 [some (.ref 0), some (.int (iI (f))), some (.int (iI (a))), some (.int (iI (c))), some (.int (iI (n))), none] [] (cp w C A V h, nx) := by
  intro k
  induction k with
  | zero =>
    intro n h1 h2 hq
    refine w_iload b dX8_fits_20 rfl ?_
    refine z_sipush b dX8_fits_22 (by decide) ?_
    refine z_icmp_gt (tgt := 61) b dX8_fits_25 (by decide) (by omega) (fun c25 => ?_) (fun c25 => ?_)
    · refine z_bipush b dX8_fits_61 (by decide) ?_
      exact w_iret b dX8_fits_63 rfl (by omega) (by omega) hq
    · exfalso; omega
  | succ k ih =>
    intro n h1 h2 hq
    refine w_iload b dX8_fits_20 rfl ?_
    refine z_sipush b dX8_fits_22 (by decide) ?_
    refine z_icmp_gt (tgt := 61) b dX8_fits_25 (by decide) (by omega) (fun c25 => ?_) (fun c25 => ?_)
    · exfalso; omega
    · refine w_iload b dX8_fits_28 rfl ?_
      refine w_iload_n b dX8_fits_30 rfl ?_
      refine w_iload_n b dX8_fits_31 rfl ?_
      refine c_S3 b dX8_fits_32 lmX8_211 (k_X8_wayOf (by omega) (by omega) (by omega) (by omega)) (tle rfl) (by omega) (by omega) (by omega) ?_
      have hy1 := wyF_rng (n := n) (a := a) (c := c) (by omega) (by omega) (by omega)
      refine w_istore b dX8_fits_35 (tlt rfl) rfl ?_
      refine w_iload b dX8_fits_37 rfl ?_
      refine z_if_lt (tgt := 55) b dX8_fits_39 (by decide) (by omega) (fun c39 => ?_) (fun c39 => ?_)
      · have e1 : ftA a c (k + 1) n = ftA a c k (n + 1) := by
          conv => lhs; unfold ftA
          rw [if_neg (fun z => by omega)]
        rw [e1] at hq
        refine z_iinc b dX8_fits_55 rfl rfl rfl ?_
        refine w_goto (tgt := 20) b dX8_fits_58 (by decide) ?_
        refine ww_forget 5 ?_
        exact ih (n + 1) (by omega) (by omega) hq
      · refine w_iload b dX8_fits_42 rfl ?_
        refine w_iload b dX8_fits_44 rfl ?_
        refine c_S2 b dX8_fits_46 lmX8_214 (k_X8_meet (by omega) (by omega)) (tle rfl) (by omega) (by omega) (by omega) ?_
        refine z_ifb_eq (tgt := 55) b dX8_fits_49 (by decide) (fun c49 => ?_) (fun c49 => ?_)
        · have e1 : ftA a c (k + 1) n = ftA a c k (n + 1) := by
            conv => lhs; unfold ftA
            rw [if_neg (fun z => c49 z.2)]
          rw [e1] at hq
          refine z_iinc b dX8_fits_55 rfl rfl rfl ?_
          refine w_goto (tgt := 20) b dX8_fits_58 (by decide) ?_
          refine ww_forget 5 ?_
          exact ih (n + 1) (by omega) (by omega) hq
        · have e1 : ftA a c (k + 1) n = n := by
            conv => lhs; unfold ftA
            rw [if_pos ⟨by omega, c49⟩]
          rw [e1] at hq
          refine w_iload b dX8_fits_52 rfl ?_
          exact w_iret b dX8_fits_54 rfl (by omega) (by omega) hq
set_option maxRecDepth 20000 in
theorem k_X8_fits {l0 : Launch} {g : Gw} {w nx : Nat} {h : Nat → va_E} {C : Nat → Nat → Int} {A : Nat → Int → Int} {V : Nat → Value} {f a c : Int} (hf : inR f) (ha : inR a) (hc : inR c) : MD l0 g 2 mX8_fits (cp w C A V h, nx) [.ref 0, .int (iI (f)), .int (iI (a)), .int (iI (c))] 0 0 (some (.int (iI (if (1 ≤ f ∧ f ≤ 400) ∧ (1 ≤ a ∧ a ≤ 40) ∧ (1 ≤ c ∧ c ≤ 40) ∧ ¬ a = c then ftA a c (401 - f).toNat f else -1)))) (cp w C A V h, nx) := by
  refine MD.of (by decide +kernel) (by simp [Value.category]) (tle rfl) (fun X b => ?_)
  change WW X g _ _ 0 0 0 [some (.ref 0), some (.int (iI (f))), some (.int (iI (a))), some (.int (iI (c))), none, none] [] _
  refine w_iload_n b dX8_fits_0 rfl ?_
  refine c_S1 b dX8_fits_1 lmX8_205 (k_X8_isSide (by omega)) (tle rfl) (by omega) (by omega) (by omega) ?_
  refine z_ifb_eq (tgt := 15) b dX8_fits_4 (by decide) (fun c4 => ?_) (fun c4 => ?_)
  · refine z_iconst b dX8_fits_15 ?_
    exact w_iret b dX8_fits_16 rfl (by omega) (by omega) ⟨iv_eq (by rw [if_neg (by omega)]), rfl⟩
  · refine w_iload_n b dX8_fits_7 rfl ?_
    refine w_iload_n b dX8_fits_8 rfl ?_
    refine c_S2 b dX8_fits_9 lmX8_208 (k_X8_areUnits (by omega) (by omega)) (tle rfl) (by omega) (by omega) (by omega) ?_
    refine z_ifb_ne (tgt := 17) b dX8_fits_12 (by decide) (fun c12 => ?_) (fun c12 => ?_)
    · refine w_iload_n b dX8_fits_17 rfl ?_
      refine w_istore b dX8_fits_18 (tlt rfl) rfl ?_
      exact l_X8_fits b (by omega) (by omega) (by omega) (401 - f).toNat f (by omega) (by omega) ⟨iv_eq (by rw [if_pos (by omega)]), rfl⟩
    · refine z_iconst b dX8_fits_15 ?_
      exact w_iret b dX8_fits_16 rfl (by omega) (by omega) ⟨iv_eq (by rw [if_neg (by omega)]), rfl⟩
