/-! THE CLASS: its face for hands, wool, rows (by p63.py) -/
theorem sumA_add (f h : Int → Int) : ∀ (n : Nat) (i : Int), sumA (fun j => f j + h j) n i 0 = sumA f n i 0 + sumA h n i 0 := by
  intro n
  induction n with
  | zero => intro i; rfl
  | succ n ih =>
    intro i
    simp only [sumA]
    rw [sumA_acc _ n (i + 1) (0 + (f i + h i)), ih, sumA_acc f n (i + 1) (0 + f i), sumA_acc h n (i + 1) (0 + h i)]
    omega
theorem sumA_zero : ∀ (n : Nat) (i : Int), sumA (fun _ => 0) n i 0 = 0 := by
  intro n
  induction n with
  | zero => intro i; rfl
  | succ n ih => intro i; simp only [sumA]; exact ih (i + 1)
theorem sumA_swap (f : Int → Int → Int) (w : Nat) : ∀ (k : Nat) (r : Int), sumA (fun r => sumA (fun i => f r i) w 0 0) k r 0 = sumA (fun i => sumA (fun r => f r i) k r 0) w 0 0 := by
  intro k
  induction k with
  | zero => intro r; simp only [sumA]; exact (sumA_zero w 0).symm
  | succ k ih =>
    intro r
    have e : (fun i => sumA (fun r => f r i) (k + 1) r 0) = (fun i => f r i + sumA (fun r => f r i) k (r + 1) 0) := by
      funext i
      show sumA (fun r => f r i) k (r + 1) (0 + f r i) = _
      rw [sumA_acc]
      omega
    rw [e, sumA_add, ← ih (r + 1)]
    show sumA (fun r => sumA (fun i => f r i) w 0 0) k (r + 1) (0 + sumA (fun i => f r i) w 0 0) = _
    rw [sumA_acc]
    have e2 : sumA (fun i => f r i) w 0 0 = sumA (f r) w 0 0 := rfl
    omega
theorem sumA_if {p : Prop} [Decidable p] (f : Int → Int) (n : Nat) (i : Int) : sumA (fun j => if p then f j else 0) n i 0 = if p then sumA f n i 0 else 0 := by
  by_cases h : p
  · rw [if_pos h]; exact congrArg (fun q => sumA q n i 0) (funext fun j => if_pos h)
  · rw [if_neg h]; exact (congrArg (fun q => sumA q n i 0) (funext fun j => if_neg h)).trans (sumA_zero n i)
theorem faA_eq (w : Nat) (f : Int → Int → Int) : ∀ (n : Nat) (r a : Int), faA w f n r a = a + sumA (fun r => sumA (f r) w 0 0) n r 0 := by
  intro n
  induction n with
  | zero => intro r a; simp [faA, sumA]
  | succ n ih =>
    intro r a
    simp only [faA, sumA]
    rw [ih, sumA_acc (f r) w 0 a, sumA_acc (fun r => sumA (f r) w 0 0) n (r + 1) (0 + _)]
    omega
theorem hdA_eq (s : Int → Int) (f : Int → Int) (h : Int) : ∀ (k : Nat) (i n m : Int), hdA s f h k i n m = (n + sumA (fun i => b2 (handF s i = h)) k i 0, m + sumA (fun i => if handF s i = h then f i else 0) k i 0) := by
  intro k
  induction k with
  | zero => intro i n m; simp [hdA, sumA]
  | succ k ih =>
    intro i n m
    simp only [hdA, sumA]
    rw [sumA_acc (fun i => b2 (handF s i = h)) k (i + 1) (0 + _), sumA_acc (fun i => if handF s i = h then f i else 0) k (i + 1) (0 + _)]
    by_cases e : handF s i = h
    · rw [if_pos e, ih, b2_t e, if_pos e]
      refine Prod.ext ?_ ?_
      · show _ + _ + _ = _ + (_ + _); omega
      · show _ + _ + _ = _ + (_ + _); omega
    · rw [if_neg e, ih, b2_f e, if_neg e]
      refine Prod.ext ?_ ?_
      · show _ + _ = _ + (_ + _); omega
      · show _ + _ = _ + (_ + _); omega
theorem hoA_eq (s : Int → Int) (f : Int → Int → Int) (h : Int) (w : Nat) : ∀ (k : Nat) (r n m : Int), hoA s f h w k r n m = (n + sumA (fun i => b2 (handF s i = h)) w 0 0 * (k : Int), m + sumA (fun r => sumA (fun i => if handF s i = h then f r i else 0) w 0 0) k r 0) := by
  intro k
  induction k with
  | zero => intro r n m; simp [hoA, sumA]
  | succ k ih =>
    intro r n m
    simp only [hoA, sumA]
    rw [hdA_eq, ih, sumA_acc (fun r => sumA (fun i => if handF s i = h then f r i else 0) w 0 0) k (r + 1) (0 + _)]
    refine Prod.ext ?_ ?_
    · show _ + _ + _ = _ + _ * ((k + 1 : Nat) : Int)
      rw [Int.natCast_add, Int.mul_add]
      omega
    · show _ + _ + _ = _ + (_ + _); omega
theorem ho_1 (s : Int → Int) (f : Int → Int → Int) (h : Int) (w : Nat) {t : Int} (ht : 0 ≤ t) : (hoA s f h w t.toNat 0 0 0).1 = sumA (fun i => b2 (handF s i = h)) w 0 0 * t := by
  rw [hoA_eq, Int.zero_add, Int.toNat_of_nonneg ht]
theorem ho_2 (s : Int → Int) (f : Int → Int → Int) (h : Int) (w t : Nat) : (hoA s f h w t 0 0 0).2 = sumA (fun i => if handF s i = h then sumA (fun r => f r i) t 0 0 else 0) w 0 0 := by
  rw [hoA_eq]
  show 0 + _ = _
  rw [Int.zero_add, sumA_swap]
  exact congrArg (fun q => sumA q w 0 0) (funext fun i => sumA_if _ _ _)
theorem wg_eq (a b : Int) : (if 5 * (a / 10) - 20 * b ≤ 0 then 0 else 5 * (a / 10) - 20 * b) = (if 0 < a / 10 * 5 - 20 * b then a / 10 * 5 - 20 * b else 0) := by
  split <;> split <;> omega
theorem fa_c (f : Int → Int → Int) (w t : Nat) : faA w f t 0 0 = sumA (fun i => sumA (fun r => f r i) t 0 0) w 0 0 := by
  rw [faA_eq, Int.zero_add, sumA_swap]
set_option maxRecDepth 20000 in
theorem k_X8_hand0 {l0 : Launch} {g : Gw} {w nx : Nat} {h : Nat → va_E} {C : Nat → Nat → Int} {A : Nat → Int → Int} {V : Nat → Value} {I : Nat → Int} {F : Nat → Int → Int} {x n p : Int} (hR : RCa w C A I F) (hx : inR x) (hn : inR n) (hp : inR p) (hb : ¬ ((0 ≤ x ∧ x ≤ 5) ∧ (1 ≤ n ∧ n ≤ 40) ∧ (1 ≤ p ∧ p ≤ 20)) ∨ 0 < I 21) : MD l0 g 2 mX8_hand (cp w C A V h, nx) [.ref 0, .int (iI (x)), .int (iI (n)), .int (iI (p))] 0 0 (some (.int (iI (if (0 ≤ x ∧ x ≤ 5) ∧ (1 ≤ n ∧ n ≤ 40) ∧ (1 ≤ p ∧ p ≤ 20) then -3 else -1)))) (cp w C A V h, nx) := by
  have hw1 := hR.w1
  have hw2 := hR.w2
  have ht1 := hR.t1
  have ht2 := hR.t2
  refine MD.of (by decide +kernel) (by simp [Value.category]) (tle rfl) (fun X b => ?_)
  change WW X g _ _ 0 0 0 [some (.ref 0), some (.int (iI (x))), some (.int (iI (n))), some (.int (iI (p)))] [] _
  refine w_iload_n b dX8_hand_0 rfl ?_
  refine c_S1 b dX8_hand_1 lmX8_127 (k_X8_isHand (by omega)) (tle rfl) (by omega) (by omega) (by omega) ?_
  refine z_ifb_eq (tgt := 27) b dX8_hand_4 (by decide) (fun c4 => ?_) (fun c4 => ?_)
  · refine z_iconst b dX8_hand_27 ?_
    exact w_iret b dX8_hand_28 rfl (by omega) (by omega) ⟨iv_eq (by first | rfl | omega | ((try simp only [b2]); ((repeat' split) <;> (first | rfl | omega)))), rfl⟩
  · refine w_iload_n b dX8_hand_7 rfl ?_
    refine z_iconst b dX8_hand_8 ?_
    refine z_bipush b dX8_hand_9 (by decide) ?_
    refine c_S3 b dX8_hand_11 lmX8_74 (k_X8_isWithin (by omega) (by omega) (by omega)) (tle rfl) (by omega) (by omega) (by omega) ?_
    refine z_ifb_eq (tgt := 27) b dX8_hand_14 (by decide) (fun c14 => ?_) (fun c14 => ?_)
    · refine z_iconst b dX8_hand_27 ?_
      exact w_iret b dX8_hand_28 rfl (by omega) (by omega) ⟨iv_eq (by first | rfl | omega | ((try simp only [b2]); ((repeat' split) <;> (first | rfl | omega)))), rfl⟩
    · refine w_iload_n b dX8_hand_17 rfl ?_
      refine z_iconst b dX8_hand_18 ?_
      refine z_bipush b dX8_hand_19 (by decide) ?_
      refine c_S3 b dX8_hand_21 lmX8_74 (k_X8_isWithin (by omega) (by omega) (by omega)) (tle rfl) (by omega) (by omega) (by omega) ?_
      refine z_ifb_ne (tgt := 29) b dX8_hand_24 (by decide) (fun c24 => ?_) (fun c24 => ?_)
      · refine w_aload_n b dX8_hand_29 rfl rfl ?_
        refine q_get b dX8_hand_30 lfX8_24 (tlt rfl) ct_0 rfl ?_
        refine q_get b dX8_hand_33 lfX8_130 (tlt rfl) ct_1 rfl ?_
        refine z_if_le (tgt := 42) b dX8_hand_36 (by decide) (by omega) (fun c36 => ?_) (fun c36 => ?_)
        · exfalso; omega
        · refine z_bipush b dX8_hand_39 (by decide) ?_
          exact w_iret b dX8_hand_41 rfl (by omega) (by omega) ⟨iv_eq (by first | rfl | omega | ((try simp only [b2]); ((repeat' split) <;> (first | rfl | omega)))), rfl⟩
      · refine z_iconst b dX8_hand_27 ?_
        exact w_iret b dX8_hand_28 rfl (by omega) (by omega) ⟨iv_eq (by first | rfl | omega | ((try simp only [b2]); ((repeat' split) <;> (first | rfl | omega)))), rfl⟩
set_option maxRecDepth 20000 in
theorem k_X8_hand1 {l0 : Launch} {g : Gw} {w nx : Nat} {h : Nat → va_E} {C : Nat → Nat → Int} {A : Nat → Int → Int} {V : Nat → Value} {I : Nat → Int} {F : Nat → Int → Int} {x n p : Int} (hR : RCa w C A I F) (hok : (0 ≤ x ∧ x ≤ 5) ∧ (1 ≤ n ∧ n ≤ 40) ∧ (1 ≤ p ∧ p ≤ 20)) (h21 : I 21 = 0) : MD l0 g 2 mX8_hand (cp w C A V h, nx) [.ref 0, .int (iI (x)), .int (iI (n)), .int (iI (p))] 0 0 (some (.int (iI (b2 (¬ (F 16 x = n ∧ F 17 x = p)))))) (cp w C (va_up (va_up A 2 (fu (F 16) x n)) 3 (fu (F 17) x p)) V h, nx) := by
  have hw1 := hR.w1
  have hw2 := hR.w2
  have ht1 := hR.t1
  have ht2 := hR.t2
  refine MD.of (by decide +kernel) (by simp [Value.category]) (tle rfl) (fun X b => ?_)
  change WW X g _ _ 0 0 0 [some (.ref 0), some (.int (iI (x))), some (.int (iI (n))), some (.int (iI (p)))] [] _
  refine w_iload_n b dX8_hand_0 rfl ?_
  refine c_S1 b dX8_hand_1 lmX8_127 (k_X8_isHand (by omega)) (tle rfl) (by omega) (by omega) (by omega) ?_
  refine z_ifb_eq (tgt := 27) b dX8_hand_4 (by decide) (fun c4 => ?_) (fun c4 => ?_)
  · exfalso; omega
  · refine w_iload_n b dX8_hand_7 rfl ?_
    refine z_iconst b dX8_hand_8 ?_
    refine z_bipush b dX8_hand_9 (by decide) ?_
    refine c_S3 b dX8_hand_11 lmX8_74 (k_X8_isWithin (by omega) (by omega) (by omega)) (tle rfl) (by omega) (by omega) (by omega) ?_
    refine z_ifb_eq (tgt := 27) b dX8_hand_14 (by decide) (fun c14 => ?_) (fun c14 => ?_)
    · exfalso; omega
    · refine w_iload_n b dX8_hand_17 rfl ?_
      refine z_iconst b dX8_hand_18 ?_
      refine z_bipush b dX8_hand_19 (by decide) ?_
      refine c_S3 b dX8_hand_21 lmX8_74 (k_X8_isWithin (by omega) (by omega) (by omega)) (tle rfl) (by omega) (by omega) (by omega) ?_
      refine z_ifb_ne (tgt := 29) b dX8_hand_24 (by decide) (fun c24 => ?_) (fun c24 => ?_)
      · refine w_aload_n b dX8_hand_29 rfl rfl ?_
        refine q_get b dX8_hand_30 lfX8_24 (tlt rfl) ct_0 rfl ?_
        refine q_get b dX8_hand_33 lfX8_130 (tlt rfl) ct_1 rfl ?_
        refine z_if_le (tgt := 42) b dX8_hand_36 (by decide) (by omega) (fun c36 => ?_) (fun c36 => ?_)
        · refine w_aload_n b dX8_hand_42 rfl rfl ?_
          refine q_get b dX8_hand_43 lfX8_24 (tlt rfl) ct_0 rfl ?_
          refine w_iload_n b dX8_hand_46 rfl ?_
          refine w_iload_n b dX8_hand_47 rfl ?_
          refine w_iload_n b dX8_hand_48 rfl ?_
          refine c_V3 b dX8_hand_49 lmX8_133 (cpS (tlt rfl) ct_1) (k_X1_setHand hok.1 (by omega) (by omega) (fun j h1 h2 => by rw [hR.a2]; exact hR.b16 j h1 h2) (fun j h1 h2 => by rw [hR.a3]; exact hR.b17 j h1 h2)) (tle rfl) (by omega) (by omega) (by omega) ?_
          refine z_ifb_eq (tgt := 59) b dX8_hand_52 (by decide) (fun c52 => ?_) (fun c52 => ?_)
          · refine z_iconst b dX8_hand_59 ?_
            exact w_iret b dX8_hand_60 rfl (by omega) (by omega) ⟨iv_eq (by rw [← hR.a2, ← hR.a3]; first | exact (b2_t c52).symm | exact (b2_f c52).symm), by rw [hR.a2, hR.a3]⟩
          · refine z_iconst b dX8_hand_55 ?_
            refine w_goto (tgt := 60) b dX8_hand_56 (by decide) ?_
            exact w_iret b dX8_hand_60 rfl (by omega) (by omega) ⟨iv_eq (by rw [← hR.a2, ← hR.a3]; first | exact (b2_t c52).symm | exact (b2_f c52).symm), by rw [hR.a2, hR.a3]⟩
        · exfalso; omega
      · exfalso; omega
set_option maxRecDepth 20000 in
theorem k_X7_addLot0 {l0 : Launch} {g : Gw} {w nx : Nat} {h : Nat → va_E} {C : Nat → Nat → Int} {A : Nat → Int → Int} {V : Nat → Value} {I : Nat → Int} {F : Nat → Int → Int} {c s n : Int} (hR : RCa w C A I F) (hc : 0 ≤ c ∧ c ≤ 7) (hf : F 18 c = 10) : MD l0 g 0 mX7_addLot (cp w C A V h, nx) [.ref (6 + 3 * c.toNat), .int (iI (s)), .int (iI (n))] 0 0 (some (.int (iI (-2)))) (cp w C A V h, nx) := by
  have hw1 := hR.w1
  have hw2 := hR.w2
  have ht1 := hR.t1
  have ht2 := hR.t2
  refine MD.of (by decide +kernel) (by simp [Value.category]) (tle rfl) (fun X b => ?_)
  change WW X g _ _ 0 0 0 [some (.ref (6 + 3 * c.toNat)), some (.int (iI (s))), some (.int (iI (n)))] [] _
  refine w_aload_n b dX7_addLot_0 rfl rfl ?_
  refine q_get b dX7_addLot_1 lfX7_18 (by omega) (ct_wool (by omega)) rfl ?_
  refine y_top ((hR.c18 _ (by omega) (by omega))) ?_
  refine z_bipush b dX7_addLot_4 (by decide) ?_
  refine z_icmp_lt (tgt := 12) b dX7_addLot_6 (by decide) (by omega) (fun c6 => ?_) (fun c6 => ?_)
  · exfalso; omega
  · refine z_bipush b dX7_addLot_9 (by decide) ?_
    exact w_iret b dX7_addLot_11 rfl (by omega) (by omega) ⟨iv_eq (by first | rfl | omega | ((try simp only [b2]); ((repeat' split) <;> (first | rfl | omega)))), rfl⟩
set_option maxRecDepth 20000 in
theorem k_X7_addLot1 {l0 : Launch} {g : Gw} {w nx : Nat} {h : Nat → va_E} {C : Nat → Nat → Int} {A : Nat → Int → Int} {V : Nat → Value} {I : Nat → Int} {F : Nat → Int → Int} {c s n : Int} (hR : RCa w C A I F) (hc : 0 ≤ c ∧ c ≤ 7) (hf : 0 ≤ F 18 c ∧ F 18 c < 10) : MD l0 g 0 mX7_addLot (cp w C A V h, nx) [.ref (6 + 3 * c.toNat), .int (iI (s)), .int (iI (n))] 0 0 (some (.int (iI (F 18 c + 1)))) (cp w (va_up C (6 + 3 * c.toNat) (va_up (C (6 + 3 * c.toNat)) 2 (F 18 c + 1))) (va_up (va_up A (6 + 3 * c.toNat + 1) (fu (A (6 + 3 * c.toNat + 1)) (F 18 c) s)) (6 + 3 * c.toNat + 2) (fu (A (6 + 3 * c.toNat + 2)) (F 18 c) n)) V h, nx) := by
  have hw1 := hR.w1
  have hw2 := hR.w2
  have ht1 := hR.t1
  have ht2 := hR.t2
  refine MD.of (by decide +kernel) (by simp [Value.category]) (tle rfl) (fun X b => ?_)
  change WW X g _ _ 0 0 0 [some (.ref (6 + 3 * c.toNat)), some (.int (iI (s))), some (.int (iI (n)))] [] _
  refine w_aload_n b dX7_addLot_0 rfl rfl ?_
  refine q_get b dX7_addLot_1 lfX7_18 (by omega) (ct_wool (by omega)) rfl ?_
  refine y_top ((hR.c18 _ (by omega) (by omega))) ?_
  refine z_bipush b dX7_addLot_4 (by decide) ?_
  refine z_icmp_lt (tgt := 12) b dX7_addLot_6 (by decide) (by omega) (fun c6 => ?_) (fun c6 => ?_)
  · refine w_aload_n b dX7_addLot_12 rfl rfl ?_
    refine q_get b dX7_addLot_13 lfX7_9 (by omega) (ct_wool (by omega)) rfl ?_
    refine w_aload_n b dX7_addLot_16 rfl rfl ?_
    refine q_get b dX7_addLot_17 lfX7_18 (by omega) (ct_wool (by omega)) rfl ?_
    refine y_top ((hR.c18 _ (by omega) (by omega))) ?_
    refine w_iload_n b dX7_addLot_20 rfl ?_
    refine q_iast b dX7_addLot_21 (by omega) (fun _ => ct_wool1 (by omega)) (by omega) ?_
    refine w_aload_n b dX7_addLot_22 rfl rfl ?_
    refine q_get b dX7_addLot_23 lfX7_15 (by omega) (ct_wool (by omega)) rfl ?_
    refine w_aload_n b dX7_addLot_26 rfl rfl ?_
    refine q_get b dX7_addLot_27 lfX7_18 (by omega) (ct_wool (by omega)) rfl ?_
    refine y_top ((hR.c18 _ (by omega) (by omega))) ?_
    refine w_iload_n b dX7_addLot_30 rfl ?_
    refine q_iast b dX7_addLot_31 (by omega) (fun _ => ct_wool2 (by omega)) (by omega) ?_
    refine w_aload_n b dX7_addLot_32 rfl rfl ?_
    refine w_dup b dX7_addLot_33 rfl ?_
    refine q_get b dX7_addLot_34 lfX7_18 (by omega) (ct_wool (by omega)) rfl ?_
    refine y_top ((hR.c18 _ (by omega) (by omega))) ?_
    refine z_iconst b dX7_addLot_37 ?_
    refine z_iadd b dX7_addLot_38 ?_
    refine q_put b dX7_addLot_39 lfX7_18 gcX7 gtX7_2 (by omega) (fun _ => ct_wool (by omega)) (tlt rfl) rfl ?_
    refine w_aload_n b dX7_addLot_42 rfl rfl ?_
    refine q_get b dX7_addLot_43 lfX7_18 (by omega) (ct_wool (by omega)) rfl ?_
    refine y_top (y := F 18 c + 1) (by rw [va_up_self]; rfl) ?_
    exact w_iret b dX7_addLot_46 rfl (by omega) (by omega) ⟨rfl, by rw [va_up_ne _ _ (show 6 + 3 * c.toNat + 2 ≠ 6 + 3 * c.toNat + 1 by omega)]⟩
  · exfalso; omega
set_option maxRecDepth 20000 in
theorem k_X8_dye0 {l0 : Launch} {g : Gw} {w nx : Nat} {h : Nat → va_E} {C : Nat → Nat → Int} {A : Nat → Int → Int} {V : Nat → Value} {I : Nat → Int} {F : Nat → Int → Int} {c s n : Int} (hR : RCa w C A I F) (hc : inR c) (hs : inR s) (hn : inR n) (hb : ¬ ((0 ≤ c ∧ c ≤ 7) ∧ (0 ≤ s ∧ s ≤ 9) ∧ (1 ≤ n ∧ n ≤ 1000)) ∨ F 18 c = 10) : MD l0 g 2 mX8_dye (cp w C A V h, nx) [.ref 0, .int (iI (c)), .int (iI (s)), .int (iI (n))] 0 0 (some (.int (iI (if (0 ≤ c ∧ c ≤ 7) ∧ (0 ≤ s ∧ s ≤ 9) ∧ (1 ≤ n ∧ n ≤ 1000) then -2 else -1)))) (cp w C A V h, nx) := by
  have hw1 := hR.w1
  have hw2 := hR.w2
  have ht1 := hR.t1
  have ht2 := hR.t2
  refine MD.of (by decide +kernel) (by simp [Value.category]) (tle rfl) (fun X b => ?_)
  change WW X g _ _ 0 0 0 [some (.ref 0), some (.int (iI (c))), some (.int (iI (s))), some (.int (iI (n)))] [] _
  refine w_iload_n b dX8_dye_0 rfl ?_
  refine c_S1 b dX8_dye_1 lmX8_121 (k_X8_isColour (by omega)) (tle rfl) (by omega) (by omega) (by omega) ?_
  refine z_ifb_eq (tgt := 28) b dX8_dye_4 (by decide) (fun c4 => ?_) (fun c4 => ?_)
  · refine z_iconst b dX8_dye_28 ?_
    exact w_iret b dX8_dye_29 rfl (by omega) (by omega) ⟨iv_eq (by first | rfl | omega | ((try simp only [b2]); ((repeat' split) <;> (first | rfl | omega)))), rfl⟩
  · refine w_iload_n b dX8_dye_7 rfl ?_
    refine z_iconst b dX8_dye_8 ?_
    refine z_bipush b dX8_dye_9 (by decide) ?_
    refine c_S3 b dX8_dye_11 lmX8_74 (k_X8_isWithin (by omega) (by omega) (by omega)) (tle rfl) (by omega) (by omega) (by omega) ?_
    refine z_ifb_eq (tgt := 28) b dX8_dye_14 (by decide) (fun c14 => ?_) (fun c14 => ?_)
    · refine z_iconst b dX8_dye_28 ?_
      exact w_iret b dX8_dye_29 rfl (by omega) (by omega) ⟨iv_eq (by first | rfl | omega | ((try simp only [b2]); ((repeat' split) <;> (first | rfl | omega)))), rfl⟩
    · refine w_iload_n b dX8_dye_17 rfl ?_
      refine z_iconst b dX8_dye_18 ?_
      refine z_sipush b dX8_dye_19 (by decide) ?_
      refine c_S3 b dX8_dye_22 lmX8_74 (k_X8_isWithin (by omega) (by omega) (by omega)) (tle rfl) (by omega) (by omega) (by omega) ?_
      refine z_ifb_ne (tgt := 30) b dX8_dye_25 (by decide) (fun c25 => ?_) (fun c25 => ?_)
      · refine w_aload_n b dX8_dye_30 rfl rfl ?_
        refine q_get b dX8_dye_31 lfX8_24 (tlt rfl) ct_0 rfl ?_
        refine q_get b dX8_dye_34 lfX8_136 (tlt rfl) ct_1 rfl ?_
        refine w_iload_n b dX8_dye_37 rfl ?_
        refine q_aald b dX8_dye_38 (tlt rfl) ct_4 (by omega) (by omega) ?_
        refine w_iload_n b dX8_dye_39 rfl ?_
        refine w_iload_n b dX8_dye_40 rfl ?_
        refine c_V2 b dX8_dye_41 lmX8_140 (cpS (by omega) (ct_wool (by omega))) (k_X7_addLot0 hR (by omega) (by omega)) (tle rfl) (by omega) (by omega) (by omega) ?_
        exact w_iret b dX8_dye_44 rfl (by omega) (by omega) ⟨iv_eq (by first | rfl | omega | ((try simp only [b2]); ((repeat' split) <;> (first | rfl | omega)))), rfl⟩
      · refine z_iconst b dX8_dye_28 ?_
        exact w_iret b dX8_dye_29 rfl (by omega) (by omega) ⟨iv_eq (by first | rfl | omega | ((try simp only [b2]); ((repeat' split) <;> (first | rfl | omega)))), rfl⟩
set_option maxRecDepth 20000 in
theorem k_X8_dye1 {l0 : Launch} {g : Gw} {w nx : Nat} {h : Nat → va_E} {C : Nat → Nat → Int} {A : Nat → Int → Int} {V : Nat → Value} {I : Nat → Int} {F : Nat → Int → Int} {c s n : Int} (hR : RCa w C A I F) (hok : (0 ≤ c ∧ c ≤ 7) ∧ (0 ≤ s ∧ s ≤ 9) ∧ (1 ≤ n ∧ n ≤ 1000)) (hf : 0 ≤ F 18 c ∧ F 18 c < 10) : MD l0 g 2 mX8_dye (cp w C A V h, nx) [.ref 0, .int (iI (c)), .int (iI (s)), .int (iI (n))] 0 0 (some (.int (iI (F 18 c + 1)))) (cp w (va_up C (6 + 3 * c.toNat) (va_up (C (6 + 3 * c.toNat)) 2 (F 18 c + 1))) (va_up (va_up A (6 + 3 * c.toNat + 1) (fu (A (6 + 3 * c.toNat + 1)) (F 18 c) s)) (6 + 3 * c.toNat + 2) (fu (A (6 + 3 * c.toNat + 2)) (F 18 c) n)) V h, nx) := by
  have hw1 := hR.w1
  have hw2 := hR.w2
  have ht1 := hR.t1
  have ht2 := hR.t2
  refine MD.of (by decide +kernel) (by simp [Value.category]) (tle rfl) (fun X b => ?_)
  change WW X g _ _ 0 0 0 [some (.ref 0), some (.int (iI (c))), some (.int (iI (s))), some (.int (iI (n)))] [] _
  refine w_iload_n b dX8_dye_0 rfl ?_
  refine c_S1 b dX8_dye_1 lmX8_121 (k_X8_isColour (by omega)) (tle rfl) (by omega) (by omega) (by omega) ?_
  refine z_ifb_eq (tgt := 28) b dX8_dye_4 (by decide) (fun c4 => ?_) (fun c4 => ?_)
  · exfalso; omega
  · refine w_iload_n b dX8_dye_7 rfl ?_
    refine z_iconst b dX8_dye_8 ?_
    refine z_bipush b dX8_dye_9 (by decide) ?_
    refine c_S3 b dX8_dye_11 lmX8_74 (k_X8_isWithin (by omega) (by omega) (by omega)) (tle rfl) (by omega) (by omega) (by omega) ?_
    refine z_ifb_eq (tgt := 28) b dX8_dye_14 (by decide) (fun c14 => ?_) (fun c14 => ?_)
    · exfalso; omega
    · refine w_iload_n b dX8_dye_17 rfl ?_
      refine z_iconst b dX8_dye_18 ?_
      refine z_sipush b dX8_dye_19 (by decide) ?_
      refine c_S3 b dX8_dye_22 lmX8_74 (k_X8_isWithin (by omega) (by omega) (by omega)) (tle rfl) (by omega) (by omega) (by omega) ?_
      refine z_ifb_ne (tgt := 30) b dX8_dye_25 (by decide) (fun c25 => ?_) (fun c25 => ?_)
      · refine w_aload_n b dX8_dye_30 rfl rfl ?_
        refine q_get b dX8_dye_31 lfX8_24 (tlt rfl) ct_0 rfl ?_
        refine q_get b dX8_dye_34 lfX8_136 (tlt rfl) ct_1 rfl ?_
        refine w_iload_n b dX8_dye_37 rfl ?_
        refine q_aald b dX8_dye_38 (tlt rfl) ct_4 (by omega) (by omega) ?_
        refine w_iload_n b dX8_dye_39 rfl ?_
        refine w_iload_n b dX8_dye_40 rfl ?_
        refine c_V2 b dX8_dye_41 lmX8_140 (cpS (by omega) (ct_wool (by omega))) (k_X7_addLot1 hR (by omega) (by omega)) (tle rfl) (by omega) (by omega) (by omega) ?_
        exact w_iret b dX8_dye_44 rfl (by omega) (by omega) ⟨iv_eq (by first | rfl | omega | ((try simp only [b2]); ((repeat' split) <;> (first | rfl | omega)))), rfl⟩
      · exfalso; omega
set_option maxRecDepth 20000 in
theorem k_X8_knot {l0 : Launch} {g : Gw} {w nx : Nat} {h : Nat → va_E} {C : Nat → Nat → Int} {A : Nat → Int → Int} {V : Nat → Value} {I : Nat → Int} {F : Nat → Int → Int} {r i : Int} (hR : RCa w C A I F) (hr : inR r) (hi : inR i) : MD l0 g 2 mX8_knot (cp w C A V h, nx) [.ref 0, .int (iI (r)), .int (iI (i))] 0 0 (some (.int (iI (if (0 ≤ r ∧ r ≤ I 21 - 1) ∧ (0 ≤ i ∧ i ≤ I 1 - 1) then F 23 (40 * r + i) else -1)))) (cp w C A V h, nx) := by
  have hw1 := hR.w1
  have hw2 := hR.w2
  have ht1 := hR.t1
  have ht2 := hR.t2
  refine MD.of (by decide +kernel) (by simp [Value.category]) (tle rfl) (fun X b => ?_)
  change WW X g _ _ 0 0 0 [some (.ref 0), some (.int (iI (r))), some (.int (iI (i)))] [] _
  refine w_aload_n b dX8_knot_0 rfl rfl ?_
  refine q_get b dX8_knot_1 lfX8_24 (tlt rfl) ct_0 rfl ?_
  refine w_iload_n b dX8_knot_4 rfl ?_
  refine w_iload_n b dX8_knot_5 rfl ?_
  refine c_V2 b dX8_knot_6 lmX8_149 (cpS (tlt rfl) ct_1) (k_X1_hasKnot (by omega) (by omega) (by omega) hR.w2) (tle rfl) (by omega) (by omega) (by omega) ?_
  refine z_ifb_eq (tgt := 29) b dX8_knot_9 (by decide) (fun c9 => ?_) (fun c9 => ?_)
  · refine z_iconst b dX8_knot_29 ?_
    exact w_iret b dX8_knot_30 rfl (by omega) (by omega) ⟨iv_eq (by (repeat' split) <;> first | rfl | omega), rfl⟩
  · refine w_aload_n b dX8_knot_12 rfl rfl ?_
    refine q_get b dX8_knot_13 lfX8_24 (tlt rfl) ct_0 rfl ?_
    refine q_get b dX8_knot_16 lfX8_152 (tlt rfl) ct_1 rfl ?_
    refine w_iload_n b dX8_knot_19 rfl ?_
    refine q_aald b dX8_knot_20 (tlt rfl) ct_5 (by omega) (by omega) ?_
    refine q_get b dX8_knot_21 lfX8_156 (by omega) (ct_row (by omega)) rfl ?_
    refine w_iload_n b dX8_knot_24 rfl ?_
    refine q_bald b dX8_knot_25 (by omega) (ct_row2 (by omega)) (by omega) ?_
    refine y_top (hR.a23 _ _ (by omega) (by omega) (by omega) (by omega)) ?_
    refine w_goto (tgt := 30) b dX8_knot_26 (by decide) ?_
    exact w_iret b dX8_knot_30 rfl (by omega) (by omega) ⟨iv_eq (by (repeat' split) <;> first | rfl | omega), rfl⟩
set_option maxRecDepth 20000 in
theorem k_X8_look {l0 : Launch} {g : Gw} {w nx : Nat} {h : Nat → va_E} {C : Nat → Nat → Int} {A : Nat → Int → Int} {V : Nat → Value} {I : Nat → Int} {F : Nat → Int → Int} {r i k : Int} (hR : RCa w C A I F) (hr : inR r) (hi : inR i) (hk : inR k) : MD l0 g 2 mX8_look (cp w C A V h, nx) [.ref 0, .int (iI (r)), .int (iI (i)), .int (iI (k))] 0 0 (some (.int (iI (if ((0 ≤ r ∧ r ≤ I 21 - 1) ∧ (0 ≤ i ∧ i ≤ I 1 - 1)) ∧ (0 ≤ k ∧ k ≤ 4) then (if k = 0 then handF (F 16) i else if k = 1 then F 24 (40 * r + i) else if k = 2 then F 22 (40 * r + i) else if k = 3 then F 25 (40 * r + i) else b2 (¬ F 23 (40 * r + i) = F 22 (40 * r + i))) else -1)))) (cp w C A V h, nx) := by
  have hw1 := hR.w1
  have hw2 := hR.w2
  have ht1 := hR.t1
  have ht2 := hR.t2
  refine MD.of (by decide +kernel) (by simp [Value.category]) (tle rfl) (fun X b => ?_)
  change WW X g _ _ 0 0 0 [some (.ref 0), some (.int (iI (r))), some (.int (iI (i))), some (.int (iI (k))), none] [] _
  refine w_aload_n b dX8_look_0 rfl rfl ?_
  refine q_get b dX8_look_1 lfX8_24 (tlt rfl) ct_0 rfl ?_
  refine w_iload_n b dX8_look_4 rfl ?_
  refine w_iload_n b dX8_look_5 rfl ?_
  refine c_V2 b dX8_look_6 lmX8_149 (cpS (tlt rfl) ct_1) (k_X1_hasKnot (by omega) (by omega) (by omega) hR.w2) (tle rfl) (by omega) (by omega) (by omega) ?_
  refine z_ifb_ne (tgt := 14) b dX8_look_9 (by decide) (fun c9 => ?_) (fun c9 => ?_)
  · refine w_aload_n b dX8_look_14 rfl rfl ?_
    refine q_get b dX8_look_15 lfX8_24 (tlt rfl) ct_0 rfl ?_
    refine q_get b dX8_look_18 lfX8_152 (tlt rfl) ct_1 rfl ?_
    refine w_iload_n b dX8_look_21 rfl ?_
    refine q_aald b dX8_look_22 (tlt rfl) ct_5 (by omega) (by omega) ?_
    refine w_astore b dX8_look_23 (tlt rfl) rfl rfl ?_
    refine w_iload_n b dX8_look_25 rfl ?_
    by_cases e26_0 : k = 0
    · refine w_tswI (tgt := 60) (off := 34) b dX8_look_26 (by rw [iI_toInt (by omega)]; omega) (by rw [iI_toInt (by omega)]; omega) (by rw [iI_toInt (by omega), e26_0]; rfl) (by decide) ?_
      refine w_aload_n b dX8_look_60 rfl rfl ?_
      refine q_get b dX8_look_61 lfX8_24 (tlt rfl) ct_0 rfl ?_
      refine w_iload_n b dX8_look_64 rfl ?_
      refine c_V1 b dX8_look_65 lmX8_162 (cpS (tlt rfl) ct_1) (k_X1_handAt (by omega) (fun j h1 h2 => by rw [hR.a2]; exact hR.b16 j h1 h2)) (tle rfl) (by omega) (by omega) (by omega) ?_
      refine y_top (by rw [hR.a2]) ?_
      exact w_iret b dX8_look_68 rfl (by omega) (by omega) ⟨iv_eq (by rw [if_pos (by omega)]; first | (rw [if_pos (by omega)]; done) | (rw [if_neg (by omega), if_pos (by omega)]; done) | (rw [if_neg (by omega), if_neg (by omega), if_pos (by omega)]; done) | (rw [if_neg (by omega), if_neg (by omega), if_neg (by omega), if_pos (by omega)]; done) | (rw [if_neg (by omega), if_neg (by omega), if_neg (by omega), if_neg (by omega)]; first | exact (b2_t c99).symm | exact (b2_f c99).symm)), rfl⟩
    by_cases e26_1 : k = 1
    · refine w_tswI (tgt := 69) (off := 43) b dX8_look_26 (by rw [iI_toInt (by omega)]; omega) (by rw [iI_toInt (by omega)]; omega) (by rw [iI_toInt (by omega), e26_1]; rfl) (by decide) ?_
      refine w_aload b dX8_look_69 rfl rfl ?_
      refine q_get b dX8_look_71 lfX8_165 (by omega) (ct_row (by omega)) rfl ?_
      refine w_iload_n b dX8_look_74 rfl ?_
      refine q_bald b dX8_look_75 (by omega) (ct_row3 (by omega)) (by omega) ?_
      refine y_top (hR.a24 _ _ (by omega) (by omega) (by omega) (by omega)) ?_
      exact w_iret b dX8_look_76 rfl (by omega) (by omega) ⟨iv_eq (by rw [if_pos (by omega)]; first | (rw [if_pos (by omega)]; done) | (rw [if_neg (by omega), if_pos (by omega)]; done) | (rw [if_neg (by omega), if_neg (by omega), if_pos (by omega)]; done) | (rw [if_neg (by omega), if_neg (by omega), if_neg (by omega), if_pos (by omega)]; done) | (rw [if_neg (by omega), if_neg (by omega), if_neg (by omega), if_neg (by omega)]; first | exact (b2_t c99).symm | exact (b2_f c99).symm)), rfl⟩
    by_cases e26_2 : k = 2
    · refine w_tswI (tgt := 77) (off := 51) b dX8_look_26 (by rw [iI_toInt (by omega)]; omega) (by rw [iI_toInt (by omega)]; omega) (by rw [iI_toInt (by omega), e26_2]; rfl) (by decide) ?_
      refine w_aload b dX8_look_77 rfl rfl ?_
      refine q_get b dX8_look_79 lfX8_168 (by omega) (ct_row (by omega)) rfl ?_
      refine w_iload_n b dX8_look_82 rfl ?_
      refine q_bald b dX8_look_83 (by omega) (ct_row1 (by omega)) (by omega) ?_
      refine y_top (hR.a22 _ _ (by omega) (by omega) (by omega) (by omega)) ?_
      exact w_iret b dX8_look_84 rfl (by omega) (by omega) ⟨iv_eq (by rw [if_pos (by omega)]; first | (rw [if_pos (by omega)]; done) | (rw [if_neg (by omega), if_pos (by omega)]; done) | (rw [if_neg (by omega), if_neg (by omega), if_pos (by omega)]; done) | (rw [if_neg (by omega), if_neg (by omega), if_neg (by omega), if_pos (by omega)]; done) | (rw [if_neg (by omega), if_neg (by omega), if_neg (by omega), if_neg (by omega)]; first | exact (b2_t c99).symm | exact (b2_f c99).symm)), rfl⟩
    by_cases e26_3 : k = 3
    · refine w_tswI (tgt := 85) (off := 59) b dX8_look_26 (by rw [iI_toInt (by omega)]; omega) (by rw [iI_toInt (by omega)]; omega) (by rw [iI_toInt (by omega), e26_3]; rfl) (by decide) ?_
      refine w_aload b dX8_look_85 rfl rfl ?_
      refine q_get b dX8_look_87 lfX8_171 (by omega) (ct_row (by omega)) rfl ?_
      refine w_iload_n b dX8_look_90 rfl ?_
      refine q_bald b dX8_look_91 (by omega) (ct_row4 (by omega)) (by omega) ?_
      refine y_top (hR.a25 _ _ (by omega) (by omega) (by omega) (by omega)) ?_
      exact w_iret b dX8_look_92 rfl (by omega) (by omega) ⟨iv_eq (by rw [if_pos (by omega)]; first | (rw [if_pos (by omega)]; done) | (rw [if_neg (by omega), if_pos (by omega)]; done) | (rw [if_neg (by omega), if_neg (by omega), if_pos (by omega)]; done) | (rw [if_neg (by omega), if_neg (by omega), if_neg (by omega), if_pos (by omega)]; done) | (rw [if_neg (by omega), if_neg (by omega), if_neg (by omega), if_neg (by omega)]; first | exact (b2_t c99).symm | exact (b2_f c99).symm)), rfl⟩
    by_cases e26_4 : k = 4
    · refine w_tswI (tgt := 93) (off := 67) b dX8_look_26 (by rw [iI_toInt (by omega)]; omega) (by rw [iI_toInt (by omega)]; omega) (by rw [iI_toInt (by omega), e26_4]; rfl) (by decide) ?_
      refine w_aload b dX8_look_93 rfl rfl ?_
      refine w_iload_n b dX8_look_95 rfl ?_
      refine c_V1 b dX8_look_96 lmX8_174 (cpS (by omega) (ct_row (by omega))) (k_X3_isFault (by omega) (by omega) hR.w2 (by rw [hR.a22 _ _ (by omega) (by omega) (by omega) (by omega)]; have := hR.b22 (40 * r + i) (by omega) (by omega); omega) (by rw [hR.a23 _ _ (by omega) (by omega) (by omega) (by omega)]; have := hR.b23 (40 * r + i) (by omega) (by omega); omega)) (tle rfl) (by omega) (by omega) (by omega) ?_
      refine y_top (by rw [hR.a22 r i (by omega) (by omega) (by omega) (by omega), hR.a23 r i (by omega) (by omega) (by omega) (by omega)]) ?_
      refine z_ifb_eq (tgt := 106) b dX8_look_99 (by decide) (fun c99 => ?_) (fun c99 => ?_)
      · refine z_iconst b dX8_look_106 ?_
        exact w_iret b dX8_look_107 rfl (by omega) (by omega) ⟨iv_eq (by rw [if_pos (by omega)]; first | (rw [if_pos (by omega)]; done) | (rw [if_neg (by omega), if_pos (by omega)]; done) | (rw [if_neg (by omega), if_neg (by omega), if_pos (by omega)]; done) | (rw [if_neg (by omega), if_neg (by omega), if_neg (by omega), if_pos (by omega)]; done) | (rw [if_neg (by omega), if_neg (by omega), if_neg (by omega), if_neg (by omega)]; first | exact (b2_t c99).symm | exact (b2_f c99).symm)), rfl⟩
      · refine z_iconst b dX8_look_102 ?_
        refine w_goto (tgt := 107) b dX8_look_103 (by decide) ?_
        exact w_iret b dX8_look_107 rfl (by omega) (by omega) ⟨iv_eq (by rw [if_pos (by omega)]; first | (rw [if_pos (by omega)]; done) | (rw [if_neg (by omega), if_pos (by omega)]; done) | (rw [if_neg (by omega), if_neg (by omega), if_pos (by omega)]; done) | (rw [if_neg (by omega), if_neg (by omega), if_neg (by omega), if_pos (by omega)]; done) | (rw [if_neg (by omega), if_neg (by omega), if_neg (by omega), if_neg (by omega)]; first | exact (b2_t c99).symm | exact (b2_f c99).symm)), rfl⟩
    refine w_tswO (tgt := 108) b dX8_look_26 (by rw [iI_toInt (by omega)]; omega) (by decide) ?_
    refine z_iconst b dX8_look_108 ?_
    exact w_iret b dX8_look_109 rfl (by omega) (by omega) ⟨iv_eq (if_neg (by omega)).symm, rfl⟩
  · refine z_iconst b dX8_look_12 ?_
    exact w_iret b dX8_look_13 rfl (by omega) (by omega) ⟨iv_eq (if_neg (by omega)).symm, rfl⟩
set_option maxRecDepth 20000 in
theorem k_X8_found0 {l0 : Launch} {g : Gw} {w nx : Nat} {h : Nat → va_E} {C : Nat → Nat → Int} {A : Nat → Int → Int} {V : Nat → Value} {I : Nat → Int} {F : Nat → Int → Int} {r i c : Int} (hR : RCa w C A I F) (hr : inR r) (hi : inR i) (hc : inR c) (hb : ¬ (((0 ≤ r ∧ r ≤ I 21 - 1) ∧ (0 ≤ i ∧ i ≤ I 1 - 1)) ∧ (0 ≤ c ∧ c ≤ 7))) : MD l0 g 2 mX8_found (cp w C A V h, nx) [.ref 0, .int (iI (r)), .int (iI (i)), .int (iI (c))] 0 0 (some (.int (iI (-1)))) (cp w C A V h, nx) := by
  have hw1 := hR.w1
  have hw2 := hR.w2
  have ht1 := hR.t1
  have ht2 := hR.t2
  refine MD.of (by decide +kernel) (by simp [Value.category]) (tle rfl) (fun X b => ?_)
  change WW X g _ _ 0 0 0 [some (.ref 0), some (.int (iI (r))), some (.int (iI (i))), some (.int (iI (c))), none] [] _
  refine w_aload_n b dX8_found_0 rfl rfl ?_
  refine q_get b dX8_found_1 lfX8_24 (tlt rfl) ct_0 rfl ?_
  refine w_iload_n b dX8_found_4 rfl ?_
  refine w_iload_n b dX8_found_5 rfl ?_
  refine c_V2 b dX8_found_6 lmX8_149 (cpS (tlt rfl) ct_1) (k_X1_hasKnot (by omega) (by omega) (by omega) hR.w2) (tle rfl) (by omega) (by omega) (by omega) ?_
  refine z_ifb_eq (tgt := 19) b dX8_found_9 (by decide) (fun c9 => ?_) (fun c9 => ?_)
  · refine z_iconst b dX8_found_19 ?_
    exact w_iret b dX8_found_20 rfl (by omega) (by omega) ⟨iv_eq (by first | rfl | omega | ((try simp only [b2]); ((repeat' split) <;> (first | rfl | omega)))), rfl⟩
  · refine w_iload_n b dX8_found_12 rfl ?_
    refine c_S1 b dX8_found_13 lmX8_121 (k_X8_isColour (by omega)) (tle rfl) (by omega) (by omega) (by omega) ?_
    refine z_ifb_ne (tgt := 21) b dX8_found_16 (by decide) (fun c16 => ?_) (fun c16 => ?_)
    · exfalso; omega
    · refine z_iconst b dX8_found_19 ?_
      exact w_iret b dX8_found_20 rfl (by omega) (by omega) ⟨iv_eq (by first | rfl | omega | ((try simp only [b2]); ((repeat' split) <;> (first | rfl | omega)))), rfl⟩
set_option maxRecDepth 20000 in
theorem k_X8_found1 {l0 : Launch} {g : Gw} {w nx : Nat} {h : Nat → va_E} {C : Nat → Nat → Int} {A : Nat → Int → Int} {V : Nat → Value} {I : Nat → Int} {F : Nat → Int → Int} {r i c : Int} (hR : RCa w C A I F) (hok : ((0 ≤ r ∧ r ≤ I 21 - 1) ∧ (0 ≤ i ∧ i ≤ I 1 - 1)) ∧ (0 ≤ c ∧ c ≤ 7)) : MD l0 g 2 mX8_found (cp w C A V h, nx) [.ref 0, .int (iI (r)), .int (iI (i)), .int (iI (c))] 0 0 (some (.int (iI (b2 (¬ c = F 22 (40 * r + i)))))) (cp w C (va_up A (30 + 5 * r.toNat + 2) (fu (A (30 + 5 * r.toNat + 2)) i c)) V h, nx) := by
  have hw1 := hR.w1
  have hw2 := hR.w2
  have ht1 := hR.t1
  have ht2 := hR.t2
  refine MD.of (by decide +kernel) (by simp [Value.category]) (tle rfl) (fun X b => ?_)
  change WW X g _ _ 0 0 0 [some (.ref 0), some (.int (iI (r))), some (.int (iI (i))), some (.int (iI (c))), none] [] _
  refine w_aload_n b dX8_found_0 rfl rfl ?_
  refine q_get b dX8_found_1 lfX8_24 (tlt rfl) ct_0 rfl ?_
  refine w_iload_n b dX8_found_4 rfl ?_
  refine w_iload_n b dX8_found_5 rfl ?_
  refine c_V2 b dX8_found_6 lmX8_149 (cpS (tlt rfl) ct_1) (k_X1_hasKnot (by omega) (by omega) (by omega) hR.w2) (tle rfl) (by omega) (by omega) (by omega) ?_
  refine z_ifb_eq (tgt := 19) b dX8_found_9 (by decide) (fun c9 => ?_) (fun c9 => ?_)
  · exfalso; omega
  · refine w_iload_n b dX8_found_12 rfl ?_
    refine c_S1 b dX8_found_13 lmX8_121 (k_X8_isColour (by omega)) (tle rfl) (by omega) (by omega) (by omega) ?_
    refine z_ifb_ne (tgt := 21) b dX8_found_16 (by decide) (fun c16 => ?_) (fun c16 => ?_)
    · refine w_aload_n b dX8_found_21 rfl rfl ?_
      refine q_get b dX8_found_22 lfX8_24 (tlt rfl) ct_0 rfl ?_
      refine q_get b dX8_found_25 lfX8_152 (tlt rfl) ct_1 rfl ?_
      refine w_iload_n b dX8_found_28 rfl ?_
      refine q_aald b dX8_found_29 (tlt rfl) ct_5 (by omega) (by omega) ?_
      refine w_astore b dX8_found_30 (tlt rfl) rfl rfl ?_
      refine w_aload b dX8_found_32 rfl rfl ?_
      refine q_get b dX8_found_34 lfX8_156 (by omega) (ct_row (by omega)) rfl ?_
      refine w_iload_n b dX8_found_37 rfl ?_
      refine w_iload_n b dX8_found_38 rfl ?_
      refine z_i2b b dX8_found_39 (by omega) ?_
      refine q_bast b dX8_found_40 (by omega) (fun _ => ct_row2 (by omega)) (by omega) (by omega) ?_
      refine w_aload b dX8_found_41 rfl rfl ?_
      refine w_iload_n b dX8_found_43 rfl ?_
      refine c_V1 b dX8_found_44 lmX8_174 (cpS (by omega) (ct_row (by omega))) (k_X3_isFault (by omega) (by omega) hR.w2 (by rw [va_up_ne _ _ (by omega), hR.a22 _ _ (by omega) (by omega) (by omega) (by omega)]; have := hR.b22 (40 * r + i) (by omega) (by omega); omega) (by rw [va_up_self, fu_s]; omega)) (tle rfl) (by omega) (by omega) (by omega) ?_
      refine y_top (y := b2 (¬ c = F 22 (40 * r + i))) (by rw [va_up_self, fu_s, va_up_ne _ _ (by omega), hR.a22 r i (by omega) (by omega) (by omega) (by omega)]) ?_
      refine z_ifb_eq (tgt := 54) b dX8_found_47 (by decide) (fun c47 => ?_) (fun c47 => ?_)
      · refine z_iconst b dX8_found_54 ?_
        exact w_iret b dX8_found_55 rfl (by omega) (by omega) ⟨iv_eq (by first | exact (b2_t c47).symm | exact (b2_f c47).symm), rfl⟩
      · refine z_iconst b dX8_found_50 ?_
        refine w_goto (tgt := 55) b dX8_found_51 (by decide) ?_
        exact w_iret b dX8_found_55 rfl (by omega) (by omega) ⟨iv_eq (by first | exact (b2_t c47).symm | exact (b2_f c47).symm), rfl⟩
    · exfalso; omega
set_option maxRecDepth 20000 in
theorem k_X8_cut0 {l0 : Launch} {g : Gw} {w nx : Nat} {h : Nat → va_E} {C : Nat → Nat → Int} {A : Nat → Int → Int} {V : Nat → Value} {I : Nat → Int} {F : Nat → Int → Int}  (hR : RCa w C A I F) (hb : I 21 = 0) : MD l0 g 0 mX8_cut (cp w C A V h, nx) [.ref 0] 0 0 (some (.int (iI (-3)))) (cp w C A V h, nx) := by
  have hw1 := hR.w1
  have hw2 := hR.w2
  have ht1 := hR.t1
  have ht2 := hR.t2
  refine MD.of (by decide +kernel) (by simp [Value.category]) (tle rfl) (fun X b => ?_)
  change WW X g _ _ 0 0 0 [some (.ref 0)] [] _
  refine w_aload_n b dX8_cut_0 rfl rfl ?_
  refine q_get b dX8_cut_1 lfX8_24 (tlt rfl) ct_0 rfl ?_
  refine q_get b dX8_cut_4 lfX8_130 (tlt rfl) ct_1 rfl ?_
  refine z_if_ne (tgt := 13) b dX8_cut_7 (by decide) (by omega) (fun c7 => ?_) (fun c7 => ?_)
  · exfalso; omega
  · refine z_bipush b dX8_cut_10 (by decide) ?_
    exact w_iret b dX8_cut_12 rfl (by omega) (by omega) ⟨iv_eq (by first | rfl | omega | ((try simp only [b2]); ((repeat' split) <;> (first | rfl | omega)))), rfl⟩
set_option maxRecDepth 20000 in
theorem k_X8_cut1 {l0 : Launch} {g : Gw} {w nx : Nat} {h : Nat → va_E} {C : Nat → Nat → Int} {A : Nat → Int → Int} {V : Nat → Value} {I : Nat → Int} {F : Nat → Int → Int}  (hR : RCa w C A I F) (hb : 0 < I 21) : MD l0 g 0 mX8_cut (cp w C A V h, nx) [.ref 0] 0 0 (some (.int (iI (I 21 - 1)))) (cp w (va_up C 1 (va_up (C 1) 5 (I 21 - 1))) A V h, nx) := by
  have hw1 := hR.w1
  have hw2 := hR.w2
  have ht1 := hR.t1
  have ht2 := hR.t2
  refine MD.of (by decide +kernel) (by simp [Value.category]) (tle rfl) (fun X b => ?_)
  change WW X g _ _ 0 0 0 [some (.ref 0)] [] _
  refine w_aload_n b dX8_cut_0 rfl rfl ?_
  refine q_get b dX8_cut_1 lfX8_24 (tlt rfl) ct_0 rfl ?_
  refine q_get b dX8_cut_4 lfX8_130 (tlt rfl) ct_1 rfl ?_
  refine z_if_ne (tgt := 13) b dX8_cut_7 (by decide) (by omega) (fun c7 => ?_) (fun c7 => ?_)
  · refine w_aload_n b dX8_cut_13 rfl rfl ?_
    refine q_get b dX8_cut_14 lfX8_24 (tlt rfl) ct_0 rfl ?_
    refine w_dup b dX8_cut_17 rfl ?_
    refine q_get b dX8_cut_18 lfX8_130 (tlt rfl) ct_1 rfl ?_
    refine y_top (ht1) ?_
    refine z_iconst b dX8_cut_21 ?_
    refine z_isub b dX8_cut_22 ?_
    refine q_put b dX8_cut_23 lfX8_130 gcX1 gtX1_5 (tlt rfl) (fun _ => ct_1) (tlt rfl) rfl ?_
    refine w_aload_n b dX8_cut_26 rfl rfl ?_
    refine q_get b dX8_cut_27 lfX8_24 (tlt rfl) ct_0 rfl ?_
    refine q_get (v := .int (iI (I 21 - 1))) b dX8_cut_30 lfX8_130 (tlt rfl) ct_1 rfl ?_
    exact w_iret b dX8_cut_33 rfl (by omega) (by omega) ⟨iv_eq (by first | rfl | omega | ((try simp only [b2]); ((repeat' split) <;> (first | rfl | omega)))), rfl⟩
  · exfalso; omega
set_option maxRecDepth 20000 in
theorem k_X8_minutes {l0 : Launch} {g : Gw} {w nx : Nat} {h : Nat → va_E} {C : Nat → Nat → Int} {A : Nat → Int → Int} {V : Nat → Value} {I : Nat → Int} {F : Nat → Int → Int} {r : Int} (hR : RCa w C A I F) (hr : inR r) : MD l0 g 1 mX8_minutes (cp w C A V h, nx) [.ref 0, .int (iI (r))] 0 0 (some (.int (iI (if 0 ≤ r ∧ r ≤ I 21 - 1 then F 26 r else -1)))) (cp w C A V h, nx) := by
  have hw1 := hR.w1
  have hw2 := hR.w2
  have ht1 := hR.t1
  have ht2 := hR.t2
  refine MD.of (by decide +kernel) (by simp [Value.category]) (tle rfl) (fun X b => ?_)
  change WW X g _ _ 0 0 0 [some (.ref 0), some (.int (iI (r)))] [] _
  refine w_aload_n b dX8_minutes_0 rfl rfl ?_
  refine q_get b dX8_minutes_1 lfX8_24 (tlt rfl) ct_0 rfl ?_
  refine w_iload_n b dX8_minutes_4 rfl ?_
  refine c_V1 b dX8_minutes_5 lmX8_177 (cpS (tlt rfl) ct_1) (k_X1_hasRow (by omega) (by omega)) (tle rfl) (by omega) (by omega) (by omega) ?_
  refine z_ifb_eq (tgt := 26) b dX8_minutes_8 (by decide) (fun c8 => ?_) (fun c8 => ?_)
  · refine z_iconst b dX8_minutes_26 ?_
    exact w_iret b dX8_minutes_27 rfl (by omega) (by omega) ⟨iv_eq (by (repeat' split) <;> first | rfl | omega), rfl⟩
  · refine w_aload_n b dX8_minutes_11 rfl rfl ?_
    refine q_get b dX8_minutes_12 lfX8_24 (tlt rfl) ct_0 rfl ?_
    refine q_get b dX8_minutes_15 lfX8_152 (tlt rfl) ct_1 rfl ?_
    refine w_iload_n b dX8_minutes_18 rfl ?_
    refine q_aald b dX8_minutes_19 (tlt rfl) ct_5 (by omega) (by omega) ?_
    refine q_get b dX8_minutes_20 lfX8_180 (by omega) (ct_row (by omega)) rfl ?_
    refine y_top (hR.c26 _ (by omega) (by omega)) ?_
    refine w_goto (tgt := 27) b dX8_minutes_23 (by decide) ?_
    exact w_iret b dX8_minutes_27 rfl (by omega) (by omega) ⟨iv_eq (by (repeat' split) <;> first | rfl | omega), rfl⟩
set_option maxRecDepth 20000 in
theorem k_X8_shifts {l0 : Launch} {g : Gw} {w nx : Nat} {h : Nat → va_E} {C : Nat → Nat → Int} {A : Nat → Int → Int} {V : Nat → Value} {I : Nat → Int} {F : Nat → Int → Int} {x : Int} (hR : RCa w C A I F) (hx : inR x) : MD l0 g 2 mX8_shifts (cp w C A V h, nx) [.ref 0, .int (iI (x))] 0 0 (some (.int (iI (if 0 ≤ x ∧ x ≤ 1 then shC (F 22) (F 24) x w (I 21).toNat 8 0 0 else -1)))) (cp w C A V h, nx) := by
  have hw1 := hR.w1
  have hw2 := hR.w2
  have ht1 := hR.t1
  have ht2 := hR.t2
  refine MD.of (by decide +kernel) (by simp [Value.category]) (tle rfl) (fun X b => ?_)
  change WW X g _ _ 0 0 0 [some (.ref 0), some (.int (iI (x)))] [] _
  refine w_iload_n b dX8_shifts_0 rfl ?_
  refine z_iconst b dX8_shifts_1 ?_
  refine z_iconst b dX8_shifts_2 ?_
  refine c_S3 b dX8_shifts_3 lmX8_74 (k_X8_isWithin (by omega) (by omega) (by omega)) (tle rfl) (by omega) (by omega) (by omega) ?_
  refine z_ifb_eq (tgt := 29) b dX8_shifts_6 (by decide) (fun c6 => ?_) (fun c6 => ?_)
  · refine z_iconst b dX8_shifts_29 ?_
    exact w_iret b dX8_shifts_30 rfl (by omega) (by omega) ⟨iv_eq (if_neg (by omega)).symm, rfl⟩
  · refine w_aload_n b dX8_shifts_9 rfl rfl ?_
    refine q_get b dX8_shifts_10 lfX8_24 (tlt rfl) ct_0 rfl ?_
    refine w_iload_n b dX8_shifts_13 rfl ?_
    refine z_iconst b dX8_shifts_14 ?_
    refine z_icmp_ne (tgt := 22) b dX8_shifts_15 (by decide) (by omega) (fun c15 => ?_) (fun c15 => ?_)
    · have e5 : x = 0 := by omega
      subst e5
      refine z_iconst b dX8_shifts_22 ?_
      refine c_V1 b dX8_shifts_23 lmX8_183 (cpS (tlt rfl) ct_1) (k_X1_shiftsInAll hR (by omega)) (tle rfl) (by omega) (by omega) (by omega) ?_
      refine w_goto (tgt := 30) b dX8_shifts_26 (by decide) ?_
      exact w_iret b dX8_shifts_30 rfl (by omega) (by omega) ⟨iv_eq (if_pos (by omega)).symm, rfl⟩
    · have e5 : x = 1 := by omega
      subst e5
      refine z_iconst b dX8_shifts_18 ?_
      refine w_goto (tgt := 23) b dX8_shifts_19 (by decide) ?_
      refine c_V1 b dX8_shifts_23 lmX8_183 (cpS (tlt rfl) ct_1) (k_X1_shiftsInAll hR (by omega)) (tle rfl) (by omega) (by omega) (by omega) ?_
      refine w_goto (tgt := 30) b dX8_shifts_26 (by decide) ?_
      exact w_iret b dX8_shifts_30 rfl (by omega) (by omega) ⟨iv_eq (if_pos (by omega)).symm, rfl⟩
set_option maxRecDepth 20000 in
theorem k_X8_wool {l0 : Launch} {g : Gw} {w nx : Nat} {h : Nat → va_E} {C : Nat → Nat → Int} {A : Nat → Int → Int} {V : Nat → Value} {I : Nat → Int} {F : Nat → Int → Int} {c : Int} (hR : RCa w C A I F) (hc : inR c) : MD l0 g 2 mX8_wool (cp w C A V h, nx) [.ref 0, .int (iI (c))] 0 0 (some (.int (iI (if 0 ≤ c ∧ c ≤ 7 then sumA (fun l => F 20 (10 * c + l)) (F 18 c).toNat 0 0 else -1)))) (cp w C A V h, nx) := by
  have hw1 := hR.w1
  have hw2 := hR.w2
  have ht1 := hR.t1
  have ht2 := hR.t2
  refine MD.of (by decide +kernel) (by simp [Value.category]) (tle rfl) (fun X b => ?_)
  change WW X g _ _ 0 0 0 [some (.ref 0), some (.int (iI (c)))] [] _
  refine w_iload_n b dX8_wool_0 rfl ?_
  refine c_S1 b dX8_wool_1 lmX8_121 (k_X8_isColour (by omega)) (tle rfl) (by omega) (by omega) (by omega) ?_
  refine z_ifb_eq (tgt := 22) b dX8_wool_4 (by decide) (fun c4 => ?_) (fun c4 => ?_)
  · refine z_iconst b dX8_wool_22 ?_
    exact w_iret b dX8_wool_23 rfl (by omega) (by omega) ⟨iv_eq (by (repeat' split) <;> first | rfl | omega), rfl⟩
  · refine w_aload_n b dX8_wool_7 rfl rfl ?_
    refine q_get b dX8_wool_8 lfX8_24 (tlt rfl) ct_0 rfl ?_
    refine q_get b dX8_wool_11 lfX8_136 (tlt rfl) ct_1 rfl ?_
    refine w_iload_n b dX8_wool_14 rfl ?_
    refine q_aald b dX8_wool_15 (tlt rfl) ct_4 (by omega) (by omega) ?_
    refine c_V0 b dX8_wool_16 lmX8_187 (cpS (by omega) (ct_wool (by omega))) (k_X7_leftInAll hR (by omega)) (tle rfl) (by omega) (by omega) (by omega) ?_
    refine w_goto (tgt := 23) b dX8_wool_19 (by decide) ?_
    exact w_iret b dX8_wool_23 rfl (by omega) (by omega) ⟨iv_eq (by (repeat' split) <;> first | rfl | omega), rfl⟩
set_option maxRecDepth 20000 in
theorem k_X8_hands {l0 : Launch} {g : Gw} {w nx : Nat} {h : Nat → va_E} {C : Nat → Nat → Int} {A : Nat → Int → Int} {V : Nat → Value} {I : Nat → Int} {F : Nat → Int → Int} {x k : Int} (hR : RCa w C A I F) (hx : inR x) (hk : inR k) : MD l0 g 4 mX8_hands (cp w C A V h, nx) [.ref 0, .int (iI (x)), .int (iI (k))] 0 0 (some (.int (iI (if (0 ≤ x ∧ x ≤ 5) ∧ (0 ≤ k ∧ k ≤ 2) then (if k = 0 then (hoA (F 16) (fun r i => b2 (¬ F 23 (40 * r + i) = F 22 (40 * r + i))) x (I 1).toNat (I 21).toNat 0 0 0).1 else if k = 1 then (hoA (F 16) (fun r i => b2 (¬ F 23 (40 * r + i) = F 22 (40 * r + i))) x (I 1).toNat (I 21).toNat 0 0 0).2 else if 0 < (hoA (F 16) (fun r i => b2 (¬ F 23 (40 * r + i) = F 22 (40 * r + i))) x (I 1).toNat (I 21).toNat 0 0 0).1 / 10 * 5 - 20 * (hoA (F 16) (fun r i => b2 (¬ F 23 (40 * r + i) = F 22 (40 * r + i))) x (I 1).toNat (I 21).toNat 0 0 0).2 then (hoA (F 16) (fun r i => b2 (¬ F 23 (40 * r + i) = F 22 (40 * r + i))) x (I 1).toNat (I 21).toNat 0 0 0).1 / 10 * 5 - 20 * (hoA (F 16) (fun r i => b2 (¬ F 23 (40 * r + i) = F 22 (40 * r + i))) x (I 1).toNat (I 21).toNat 0 0 0).2 else 0) else -1)))) (cp w C A V h, nx) := by
  have hw1 := hR.w1
  have hw2 := hR.w2
  have ht1 := hR.t1
  have ht2 := hR.t2
  refine MD.of (by decide +kernel) (by simp [Value.category]) (tle rfl) (fun X b => ?_)
  change WW X g _ _ 0 0 0 [some (.ref 0), some (.int (iI (x))), some (.int (iI (k)))] [] _
  refine w_iload_n b dX8_hands_0 rfl ?_
  refine c_S1 b dX8_hands_1 lmX8_127 (k_X8_isHand (by omega)) (tle rfl) (by omega) (by omega) (by omega) ?_
  refine z_ifb_ne (tgt := 9) b dX8_hands_4 (by decide) (fun c4 => ?_) (fun c4 => ?_)
  · refine w_iload_n b dX8_hands_9 rfl ?_
    by_cases e10_0 : k = 0
    · refine w_tswI (tgt := 36) (off := 26) b dX8_hands_10 (by rw [iI_toInt (by omega)]; omega) (by rw [iI_toInt (by omega)]; omega) (by rw [iI_toInt (by omega), e10_0]; rfl) (by decide) ?_
      refine w_aload_n b dX8_hands_36 rfl rfl ?_
      refine q_get b dX8_hands_37 lfX8_24 (tlt rfl) ct_0 rfl ?_
      refine w_iload_n b dX8_hands_40 rfl ?_
      refine c_V1 b dX8_hands_41 lmX8_190 (cpS (tlt rfl) ct_1) (k_X1_knotsBy hR (by omega)) (tle rfl) (by omega) (by omega) (by omega) ?_
      exact w_iret b dX8_hands_44 rfl (by omega) (by omega) ⟨iv_eq (by rw [if_pos (by omega), ho_1 _ _ _ _ ht2.1, ho_2, hw1, Int.toNat_natCast]; rw [if_pos (by omega)]), rfl⟩
    by_cases e10_1 : k = 1
    · refine w_tswI (tgt := 45) (off := 35) b dX8_hands_10 (by rw [iI_toInt (by omega)]; omega) (by rw [iI_toInt (by omega)]; omega) (by rw [iI_toInt (by omega), e10_1]; rfl) (by decide) ?_
      refine w_aload_n b dX8_hands_45 rfl rfl ?_
      refine q_get b dX8_hands_46 lfX8_24 (tlt rfl) ct_0 rfl ?_
      refine w_iload_n b dX8_hands_49 rfl ?_
      refine c_V1 b dX8_hands_50 lmX8_193 (cpS (tlt rfl) ct_1) (k_X1_faultsBy hR (by omega)) (tle rfl) (by omega) (by omega) (by omega) ?_
      exact w_iret b dX8_hands_53 rfl (by omega) (by omega) ⟨iv_eq (by rw [if_pos (by omega), ho_1 _ _ _ _ ht2.1, ho_2, hw1, Int.toNat_natCast]; rw [if_neg (by omega), if_pos (by omega)]), rfl⟩
    by_cases e10_2 : k = 2
    · refine w_tswI (tgt := 54) (off := 44) b dX8_hands_10 (by rw [iI_toInt (by omega)]; omega) (by rw [iI_toInt (by omega)]; omega) (by rw [iI_toInt (by omega), e10_2]; rfl) (by decide) ?_
      refine w_aload_n b dX8_hands_54 rfl rfl ?_
      refine q_get b dX8_hands_55 lfX8_24 (tlt rfl) ct_0 rfl ?_
      refine w_iload_n b dX8_hands_58 rfl ?_
      refine c_V1 b dX8_hands_59 lmX8_196 (cpS (tlt rfl) ct_1) (k_X1_wagesOf hR (by omega)) (tle rfl) (by omega) (by omega) (by omega) ?_
      exact w_iret b dX8_hands_62 rfl (by omega) (by omega) ⟨iv_eq (by refine Eq.trans ?_ (if_pos (show (0 ≤ x ∧ x ≤ 5) ∧ (0 ≤ k ∧ k ≤ 2) by omega)).symm; refine Eq.trans ?_ (if_neg (show ¬ k = 0 by omega)).symm; refine Eq.trans ?_ (if_neg (show ¬ k = 1 by omega)).symm; rw [ho_1 _ _ _ _ ht2.1, ho_2, hw1, Int.toNat_natCast]; exact wg_eq _ _), rfl⟩
    refine w_tswO (tgt := 63) b dX8_hands_10 (by rw [iI_toInt (by omega)]; omega) (by decide) ?_
    refine z_iconst b dX8_hands_63 ?_
    exact w_iret b dX8_hands_64 rfl (by omega) (by omega) ⟨iv_eq (if_neg (by omega)).symm, rfl⟩
  · refine z_iconst b dX8_hands_7 ?_
    exact w_iret b dX8_hands_8 rfl (by omega) (by omega) ⟨iv_eq (if_neg (by omega)).symm, rfl⟩
set_option maxRecDepth 20000 in
theorem k_X8_unlike {l0 : Launch} {g : Gw} {w nx : Nat} {h : Nat → va_E} {C : Nat → Nat → Int} {A : Nat → Int → Int} {V : Nat → Value} {I : Nat → Int} {F : Nat → Int → Int} {r q : Int} (hR : RCa w C A I F) (hr : inR r) (hq : inR q) : MD l0 g 1 mX8_unlike (cp w C A V h, nx) [.ref 0, .int (iI (r)), .int (iI (q))] 0 0 (some (.int (iI (if (0 ≤ r ∧ r ≤ I 21 - 1) ∧ (-1 ≤ q ∧ q ≤ I 21 - 1) then sumA (fun i => b2 (¬ F 23 (40 * r + i) = (if q < 0 then F 23 (40 * r + I 1 - 1 - i) else F 23 (40 * q + i)))) (I 1).toNat 0 0 else -1)))) (cp w C A V h, nx) := by
  have hw1 := hR.w1
  have hw2 := hR.w2
  have ht1 := hR.t1
  have ht2 := hR.t2
  refine MD.of (by decide +kernel) (by simp [Value.category]) (tle rfl) (fun X b => ?_)
  change WW X g _ _ 0 0 0 [some (.ref 0), some (.int (iI (r))), some (.int (iI (q)))] [] _
  refine w_aload_n b dX8_unlike_0 rfl rfl ?_
  refine q_get b dX8_unlike_1 lfX8_24 (tlt rfl) ct_0 rfl ?_
  refine w_iload_n b dX8_unlike_4 rfl ?_
  refine c_V1 b dX8_unlike_5 lmX8_177 (cpS (tlt rfl) ct_1) (k_X1_hasRow (by omega) (by omega)) (tle rfl) (by omega) (by omega) (by omega) ?_
  refine z_ifb_ne (tgt := 13) b dX8_unlike_8 (by decide) (fun c8 => ?_) (fun c8 => ?_)
  · refine w_iload_n b dX8_unlike_13 rfl ?_
    refine z_iconst b dX8_unlike_14 ?_
    refine z_icmp_ne (tgt := 27) b dX8_unlike_15 (by decide) (by omega) (fun c15 => ?_) (fun c15 => ?_)
    · refine w_aload_n b dX8_unlike_27 rfl rfl ?_
      refine q_get b dX8_unlike_28 lfX8_24 (tlt rfl) ct_0 rfl ?_
      refine w_iload_n b dX8_unlike_31 rfl ?_
      refine c_V1 b dX8_unlike_32 lmX8_177 (cpS (tlt rfl) ct_1) (k_X1_hasRow (by omega) (by omega)) (tle rfl) (by omega) (by omega) (by omega) ?_
      refine z_ifb_eq (tgt := 50) b dX8_unlike_35 (by decide) (fun c35 => ?_) (fun c35 => ?_)
      · refine z_iconst b dX8_unlike_50 ?_
        exact w_iret b dX8_unlike_51 rfl (by omega) (by omega) ⟨iv_eq (if_neg (by omega)).symm, rfl⟩
      · refine w_aload_n b dX8_unlike_38 rfl rfl ?_
        refine q_get b dX8_unlike_39 lfX8_24 (tlt rfl) ct_0 rfl ?_
        refine w_iload_n b dX8_unlike_42 rfl ?_
        refine w_iload_n b dX8_unlike_43 rfl ?_
        refine c_V2 b dX8_unlike_44 lmX8_202 (cpS (tlt rfl) ct_1) (k_X1_unlikeRows hR (by omega) (by omega)) (tle rfl) (by omega) (by omega) (by omega) ?_
        refine w_goto (tgt := 51) b dX8_unlike_47 (by decide) ?_
        exact w_iret b dX8_unlike_51 rfl (by omega) (by omega) ⟨iv_eq (by rw [if_pos (by omega), hw1, Int.toNat_natCast]; exact sumA_cong _ _ _ (fun j _ _ => by rw [if_neg (by omega)])), rfl⟩
    · refine w_aload_n b dX8_unlike_18 rfl rfl ?_
      refine q_get b dX8_unlike_19 lfX8_24 (tlt rfl) ct_0 rfl ?_
      refine w_iload_n b dX8_unlike_22 rfl ?_
      refine c_V1 b dX8_unlike_23 lmX8_199 (cpS (tlt rfl) ct_1) (k_X1_unlikeMirrored hR (by omega)) (tle rfl) (by omega) (by omega) (by omega) ?_
      exact w_iret b dX8_unlike_26 rfl (by omega) (by omega) ⟨iv_eq (by rw [if_pos (by omega), hw1, Int.toNat_natCast]; exact sumA_cong _ _ _ (fun j _ _ => by rw [if_pos (by omega)])), rfl⟩
  · refine z_iconst b dX8_unlike_11 ?_
    exact w_iret b dX8_unlike_12 rfl (by omega) (by omega) ⟨iv_eq (if_neg (by omega)).symm, rfl⟩
