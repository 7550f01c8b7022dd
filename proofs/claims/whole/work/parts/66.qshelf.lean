/-! THE CLASS: shelves, counts (by p66.py) -/
/-- a shelf's kind and size -/
def cH (C : Nat → Nat → Int) (q : Nat) (k s : Int) : Nat → Nat → Int := va_up C q (va_up (va_up (C q) 1 k) 2 s)
theorem cH_put (C : Nat → Nat → Int) (q : Nat) (k s : Int) : va_up (va_up C q (va_up (C q) 1 k)) q (va_up (va_up C q (va_up (C q) 1 k) q) 2 s) = cH C q k s := by rw [va_up_twice, va_up_self]; rfl
theorem cH_1 (C : Nat → Nat → Int) (q : Nat) (k s : Int) : cH C q k s q 1 = k := by simp [cH, va_up]
theorem cH_2 (C : Nat → Nat → Int) (q : Nat) (k s : Int) : cH C q k s q 2 = s := by simp [cH, va_up]
theorem cH_ne {C : Nat → Nat → Int} {q j : Nat} {k s : Int} (h : j ≠ q) : cH C q k s j = C j := by simp [cH, va_up, h]
/-- n elements of src from place i on -/
def cpB (src : Int → Int) : Nat → Int → (Int → Int) → Int → Int
  | 0, _, f => f
  | n + 1, i, f => cpB src n (i + 1) (fu f i (src i))
theorem cpB_at (src : Int → Int) : ∀ (n : Nat) (i : Int) (f : Int → Int) (j : Int), cpB src n i f j = if i ≤ j ∧ j < i + n then src j else f j := by
  intro n
  induction n with
  | zero => intro i f j; rw [if_neg (by omega)]; rfl
  | succ n ih =>
    intro i f j
    show cpB src n (i + 1) (fu f i (src i)) j = _
    rw [ih]
    by_cases h1 : j = i
    · subst h1; rw [if_neg (by omega), if_pos (by omega), fu_s]
    · rw [fu_n h1]
      by_cases h2 : i + 1 ≤ j ∧ j < i + 1 + n
      · rw [if_pos h2, if_pos (by omega)]
      · rw [if_neg h2, if_neg (by omega)]
set_option maxRecDepth 20000 in
theorem k_X4_holdNothing {l0 : Launch} {g : Gw} {w nx : Nat} {h : Nat → va_E} {C : Nat → Nat → Int} {A : Nat → Int → Int} {V : Nat → Value} {r : Nat} (hr : r < 8) : MD l0 g 0 mX4_holdNothing (cp w C A V h, nx) [.ref (241 + 2 * r)] 0 0 (none) (cp w (cH C (241 + 2 * r) 0 0) A (va_up V (241 + 2 * r) .null) h, nx) := by
  refine MD.of (by decide +kernel) (by simp [Value.category]) (tle rfl) (fun X b => ?_)
  change WW X g _ _ 0 0 0 [some (.ref (241 + 2 * r))] [] _
  refine w_aload_n b dX4_holdNothing_0 rfl rfl ?_
  refine z_iconst b dX4_holdNothing_1 ?_
  refine q_put b dX4_holdNothing_2 lfX4_15 gcX4 gtX4_1 (by omega) (fun _ => ct_shelf (by omega)) (tlt rfl) rfl ?_
  refine w_aload_n b dX4_holdNothing_5 rfl rfl ?_
  refine z_iconst b dX4_holdNothing_6 ?_
  refine q_put b dX4_holdNothing_7 lfX4_19 gcX4 gtX4_2 (by omega) (fun _ => ct_shelf (by omega)) (tlt rfl) rfl ?_
  refine w_aload_n b dX4_holdNothing_10 rfl rfl ?_
  refine w_null b dX4_holdNothing_11 ?_
  refine q_putr b dX4_holdNothing_12 lfX4_22 gcX4 gtX4_3 (by omega) (fun _ => ct_shelf (by omega)) (tlt rfl) rfl rfl rfl ?_
  exact w_vret b dX4_holdNothing_15 rfl (by omega) (by omega) ⟨rfl, by rw [cH_put]⟩
set_option maxRecDepth 20000 in
theorem k_X4_holdStep {l0 : Launch} {g : Gw} {w nx : Nat} {h : Nat → va_E} {C : Nat → Nat → Int} {A : Nat → Int → Int} {V : Nat → Value} {r q : Nat} (hr : r < 8) : MD l0 g 0 mX4_holdStep (cp w C A V h, nx) [.ref (241 + 2 * r), .ref q] 0 0 (none) (cp w (cH C (241 + 2 * r) 1 0) A (va_up V (241 + 2 * r) (.ref q)) h, nx) := by
  refine MD.of (by decide +kernel) (by simp [Value.category]) (tle rfl) (fun X b => ?_)
  change WW X g _ _ 0 0 0 [some (.ref (241 + 2 * r)), some (.ref q)] [] _
  refine w_aload_n b dX4_holdStep_0 rfl rfl ?_
  refine z_iconst b dX4_holdStep_1 ?_
  refine q_put b dX4_holdStep_2 lfX4_15 gcX4 gtX4_1 (by omega) (fun _ => ct_shelf (by omega)) (tlt rfl) rfl ?_
  refine w_aload_n b dX4_holdStep_5 rfl rfl ?_
  refine z_iconst b dX4_holdStep_6 ?_
  refine q_put b dX4_holdStep_7 lfX4_19 gcX4 gtX4_2 (by omega) (fun _ => ct_shelf (by omega)) (tlt rfl) rfl ?_
  refine w_aload_n b dX4_holdStep_10 rfl rfl ?_
  refine w_aload_n b dX4_holdStep_11 rfl rfl ?_
  refine q_putr b dX4_holdStep_12 lfX4_22 gcX4 gtX4_3 (by omega) (fun _ => ct_shelf (by omega)) (tlt rfl) rfl rfl rfl ?_
  exact w_vret b dX4_holdStep_15 rfl (by omega) (by omega) ⟨rfl, by rw [cH_put]⟩
set_option maxRecDepth 20000 in
theorem l_X4_holdZeros {X : Cx} {l0 : Launch} {g : Gw} {Z : State → Prop} {w nx : Nat} {h : Nat → va_E} {C : Nat → Nat → Int} {A : Nat → Int → Int} {V : Nat → Value} (b : BX X l0 g mX4_holdZeros 1 0 0) {r : Nat} {m : Int} (hr : r < 8) (hm : 0 ≤ m ∧ m ≤ 60) (hC : C (241 + 2 * r) 2 = m) : ∀ (n : Nat) (i : Int) (f : Int → Int), (i + n = m) → (0 ≤ i) → WW X g mX4_holdZeros.2.2.1 Z 0 0 50 [some (.ref (241 + 2 * r)), none, none, none] [] (cp w C (va_up A (241 + 2 * r + 1) (fillA 0 n i f)) V h, nx) → WW X g mX4_holdZeros.2.2.1 Z 0 0 29 [some (.ref (241 + 2 * r)), none, none, some (.int (iI (i)))] [] (cp w C (va_up A (241 + 2 * r + 1) f) V h, nx) := by
  intro n
  induction n with
  | zero =>
    intro i f h1 h2 kk
    refine w_iload_n b dX4_holdZeros_29 rfl ?_
    refine w_aload_n b dX4_holdZeros_30 rfl rfl ?_
    refine q_get b dX4_holdZeros_31 lfX4_19 (by omega) (ct_shelf (by omega)) rfl ?_
    refine z_icmp_ge (tgt := 50) b dX4_holdZeros_34 (by decide) (by omega) (fun c34 => ?_) (fun c34 => ?_)
    · refine ww_forget 3 ?_
      exact kk
    · exfalso; omega
  | succ n ih =>
    intro i f h1 h2 kk
    refine w_iload_n b dX4_holdZeros_29 rfl ?_
    refine w_aload_n b dX4_holdZeros_30 rfl rfl ?_
    refine q_get b dX4_holdZeros_31 lfX4_19 (by omega) (ct_shelf (by omega)) rfl ?_
    refine z_icmp_ge (tgt := 50) b dX4_holdZeros_34 (by decide) (by omega) (fun c34 => ?_) (fun c34 => ?_)
    · exfalso; omega
    · refine w_aload_n b dX4_holdZeros_37 rfl rfl ?_
      refine q_get b dX4_holdZeros_38 lfX4_9 (by omega) (ct_shelf (by omega)) rfl ?_
      refine w_iload_n b dX4_holdZeros_41 rfl ?_
      refine z_iconst b dX4_holdZeros_42 ?_
      refine q_sast b dX4_holdZeros_43 (by omega) (fun _ => ct_shelf1 (by omega)) (by omega) (by omega) ?_
      refine ww_cast (σ' := (cp w C (va_up A (241 + 2 * r + 1) (fu f i 0)) V h, nx)) rfl rfl (by rw [va_up_twice, va_up_self]) ?_
      refine z_iinc b dX4_holdZeros_44 rfl rfl rfl ?_
      refine w_goto (tgt := 29) b dX4_holdZeros_47 (by decide) ?_
      exact ih (i + 1) (fu f i 0) (by omega) (by omega) kk
set_option maxRecDepth 20000 in
theorem k_X4_holdZeros {l0 : Launch} {g : Gw} {w nx : Nat} {h : Nat → va_E} {C : Nat → Nat → Int} {A : Nat → Int → Int} {V : Nat → Value} {r : Nat} {k m : Int} (hr : r < 8) (hk : inR k) (hm : 0 ≤ m ∧ m ≤ 60) : MD l0 g 1 mX4_holdZeros (cp w C A V h, nx) [.ref (241 + 2 * r), .int (iI (k)), .int (iI (m))] 0 0 (none) (cp w (cH C (241 + 2 * r) k m) (va_up A (241 + 2 * r + 1) (fillA 0 m.toNat 0 (A (241 + 2 * r + 1)))) (va_up V (241 + 2 * r) .null) h, nx) := by
  refine MD.of (by decide +kernel) (by simp [Value.category]) (tle rfl) (fun X b => ?_)
  change WW X g _ _ 0 0 0 [some (.ref (241 + 2 * r)), some (.int (iI (k))), some (.int (iI (m))), none] [] _
  refine w_aload_n b dX4_holdZeros_0 rfl rfl ?_
  refine w_iload_n b dX4_holdZeros_1 rfl ?_
  refine q_put b dX4_holdZeros_2 lfX4_15 gcX4 gtX4_1 (by omega) (fun _ => ct_shelf (by omega)) (tlt rfl) rfl ?_
  refine w_aload_n b dX4_holdZeros_5 rfl rfl ?_
  refine z_iconst b dX4_holdZeros_6 ?_
  refine w_iload_n b dX4_holdZeros_7 rfl ?_
  refine w_aload_n b dX4_holdZeros_8 rfl rfl ?_
  refine q_get b dX4_holdZeros_9 lfX4_9 (by omega) (ct_shelf (by omega)) rfl ?_
  refine q_alen b dX4_holdZeros_12 (by omega) (ct_shelf1 (by omega)) (tlt rfl) ?_
  refine c_S2 b dX4_holdZeros_13 lmX4_26 (k_J9_min_7cf53 (by omega) (by omega)) (tle rfl) (by omega) (by omega) (by omega) ?_
  refine c_S2 b dX4_holdZeros_16 lmX4_32 (k_J9_max_7cf53 (by omega) (by split <;> omega)) (tle rfl) (by omega) (by omega) (by omega) ?_
  refine y_top (y := m) (by rw [if_pos (show m ≤ ((60 : Nat) : Int) by omega)]; split <;> omega) ?_
  refine q_put b dX4_holdZeros_19 lfX4_19 gcX4 gtX4_2 (by omega) (fun _ => ct_shelf (by omega)) (tlt rfl) rfl ?_
  refine w_aload_n b dX4_holdZeros_22 rfl rfl ?_
  refine w_null b dX4_holdZeros_23 ?_
  refine q_putr b dX4_holdZeros_24 lfX4_22 gcX4 gtX4_3 (by omega) (fun _ => ct_shelf (by omega)) (tlt rfl) rfl rfl rfl ?_
  refine z_iconst b dX4_holdZeros_27 ?_
  refine w_istore_n b dX4_holdZeros_28 (tlt rfl) rfl ?_
  rw [cH_put]
  refine ww_cast (σ' := (cp w (cH C (241 + 2 * r) k m) (va_up A (241 + 2 * r + 1) (A (241 + 2 * r + 1))) (va_up V (241 + 2 * r) .null) h, nx)) rfl rfl (by rw [va_up_same]) ?_
  refine ww_forget 1 ?_
  refine ww_forget 2 ?_
  refine l_X4_holdZeros b hr hm (cH_2 _ _ _ _) m.toNat 0 (A (241 + 2 * r + 1)) (by omega) (by omega) ?_
  exact w_vret b dX4_holdZeros_50 rfl (by omega) (by omega) ⟨rfl, rfl⟩
set_option maxRecDepth 20000 in
theorem k_X4_holdsRow {l0 : Launch} {g : Gw} {w nx : Nat} {h : Nat → va_E} {C : Nat → Nat → Int} {A : Nat → Int → Int} {V : Nat → Value} {r : Nat} (hr : r < 8) (hk : inR (C (241 + 2 * r) 1)) : MD l0 g 0 mX4_holdsRow (cp w C A V h, nx) [.ref (241 + 2 * r)] 0 0 (some (.int (iI (b2 (C (241 + 2 * r) 1 = 3 ∨ C (241 + 2 * r) 1 = 4))))) (cp w C A V h, nx) := by
  refine MD.of (by decide +kernel) (by simp [Value.category]) (tle rfl) (fun X b => ?_)
  change WW X g _ _ 0 0 0 [some (.ref (241 + 2 * r))] [] _
  refine w_aload_n b dX4_holdsRow_0 rfl rfl ?_
  refine q_get b dX4_holdsRow_1 lfX4_15 (by omega) (ct_shelf (by omega)) rfl ?_
  refine z_iconst b dX4_holdsRow_4 ?_
  refine z_icmp_eq (tgt := 16) b dX4_holdsRow_5 (by decide) (by omega) (fun c5 => ?_) (fun c5 => ?_)
  · refine z_iconst b dX4_holdsRow_16 ?_
    refine w_goto (tgt := 21) b dX4_holdsRow_17 (by decide) ?_
    exact z_zret b dX4_holdsRow_21 rfl (by omega) (by omega) (by omega) ⟨iv_eq (by first | rfl | omega | ((try simp only [b2]); ((repeat' split) <;> (first | rfl | omega)))), rfl⟩
  · refine w_aload_n b dX4_holdsRow_8 rfl rfl ?_
    refine q_get b dX4_holdsRow_9 lfX4_15 (by omega) (ct_shelf (by omega)) rfl ?_
    refine z_iconst b dX4_holdsRow_12 ?_
    refine z_icmp_ne (tgt := 20) b dX4_holdsRow_13 (by decide) (by omega) (fun c13 => ?_) (fun c13 => ?_)
    · refine z_iconst b dX4_holdsRow_20 ?_
      exact z_zret b dX4_holdsRow_21 rfl (by omega) (by omega) (by omega) ⟨iv_eq (by first | rfl | omega | ((try simp only [b2]); ((repeat' split) <;> (first | rfl | omega)))), rfl⟩
    · refine z_iconst b dX4_holdsRow_16 ?_
      refine w_goto (tgt := 21) b dX4_holdsRow_17 (by decide) ?_
      exact z_zret b dX4_holdsRow_21 rfl (by omega) (by omega) (by omega) ⟨iv_eq (by first | rfl | omega | ((try simp only [b2]); ((repeat' split) <;> (first | rfl | omega)))), rfl⟩
set_option maxRecDepth 20000 in
theorem k_X4_hasPlaces {l0 : Launch} {g : Gw} {w nx : Nat} {h : Nat → va_E} {C : Nat → Nat → Int} {A : Nat → Int → Int} {V : Nat → Value} {r : Nat} {i n : Int} (hr : r < 8) (hi : inR i) (hn : inR n) (hz : 0 ≤ C (241 + 2 * r) 2 ∧ C (241 + 2 * r) 2 ≤ 60) : MD l0 g 0 mX4_hasPlaces (cp w C A V h, nx) [.ref (241 + 2 * r), .int (iI (i)), .int (iI (n))] 0 0 (some (.int (iI (b2 (0 ≤ n ∧ 0 ≤ i ∧ i ≤ C (241 + 2 * r) 2 - n))))) (cp w C A V h, nx) := by
  refine MD.of (by decide +kernel) (by simp [Value.category]) (tle rfl) (fun X b => ?_)
  change WW X g _ _ 0 0 0 [some (.ref (241 + 2 * r)), some (.int (iI (i))), some (.int (iI (n)))] [] _
  refine w_iload_n b dX4_hasPlaces_0 rfl ?_
  refine z_if_lt (tgt := 30) b dX4_hasPlaces_1 (by decide) (by omega) (fun c1 => ?_) (fun c1 => ?_)
  · refine z_iconst b dX4_hasPlaces_30 ?_
    exact z_zret b dX4_hasPlaces_31 rfl (by omega) (by omega) (by omega) ⟨iv_eq (by first | rfl | omega | ((try simp only [b2]); ((repeat' split) <;> (first | rfl | omega)))), rfl⟩
  · refine w_iload_n b dX4_hasPlaces_4 rfl ?_
    refine w_aload_n b dX4_hasPlaces_5 rfl rfl ?_
    refine q_get b dX4_hasPlaces_6 lfX4_19 (by omega) (ct_shelf (by omega)) rfl ?_
    refine z_icmp_gt (tgt := 30) b dX4_hasPlaces_9 (by decide) (by omega) (fun c9 => ?_) (fun c9 => ?_)
    · refine z_iconst b dX4_hasPlaces_30 ?_
      exact z_zret b dX4_hasPlaces_31 rfl (by omega) (by omega) (by omega) ⟨iv_eq (by first | rfl | omega | ((try simp only [b2]); ((repeat' split) <;> (first | rfl | omega)))), rfl⟩
    · refine w_iload_n b dX4_hasPlaces_12 rfl ?_
      refine z_if_lt (tgt := 30) b dX4_hasPlaces_13 (by decide) (by omega) (fun c13 => ?_) (fun c13 => ?_)
      · refine z_iconst b dX4_hasPlaces_30 ?_
        exact z_zret b dX4_hasPlaces_31 rfl (by omega) (by omega) (by omega) ⟨iv_eq (by first | rfl | omega | ((try simp only [b2]); ((repeat' split) <;> (first | rfl | omega)))), rfl⟩
      · refine w_iload_n b dX4_hasPlaces_16 rfl ?_
        refine w_aload_n b dX4_hasPlaces_17 rfl rfl ?_
        refine q_get b dX4_hasPlaces_18 lfX4_19 (by omega) (ct_shelf (by omega)) rfl ?_
        refine w_iload_n b dX4_hasPlaces_21 rfl ?_
        refine z_isub b dX4_hasPlaces_22 ?_
        refine z_icmp_gt (tgt := 30) b dX4_hasPlaces_23 (by decide) (by omega) (fun c23 => ?_) (fun c23 => ?_)
        · refine z_iconst b dX4_hasPlaces_30 ?_
          exact z_zret b dX4_hasPlaces_31 rfl (by omega) (by omega) (by omega) ⟨iv_eq (by first | rfl | omega | ((try simp only [b2]); ((repeat' split) <;> (first | rfl | omega)))), rfl⟩
        · refine z_iconst b dX4_hasPlaces_26 ?_
          refine w_goto (tgt := 31) b dX4_hasPlaces_27 (by decide) ?_
          exact z_zret b dX4_hasPlaces_31 rfl (by omega) (by omega) (by omega) ⟨iv_eq (by first | rfl | omega | ((try simp only [b2]); ((repeat' split) <;> (first | rfl | omega)))), rfl⟩
set_option maxRecDepth 20000 in
theorem k_X8_make0 {l0 : Launch} {g : Gw} {w nx : Nat} {h : Nat → va_E} {C : Nat → Nat → Int} {A : Nat → Int → Int} {V : Nat → Value} {d x n : Int} (hd : inR d) (hx : inR x) (hn : inR n) (hbad : ¬ ((0 ≤ d ∧ d ≤ 7) ∧ (3 ≤ x ∧ x ≤ 4) ∧ (0 ≤ n ∧ n ≤ 60))) : MD l0 g 2 mX8_make (cp w C A V h, nx) [.ref 0, .int (iI (d)), .int (iI (x)), .int (iI (n))] 0 0 (some (.int (iI (if (0 ≤ d ∧ d ≤ 7) ∧ (3 ≤ x ∧ x ≤ 4) ∧ n ≤ 60 then -14 else -1)))) (cp w C A V h, nx) := by
  refine MD.of (by decide +kernel) (by simp [Value.category]) (tle rfl) (fun X b => ?_)
  change WW X g _ _ 0 0 0 [some (.ref 0), some (.int (iI (d))), some (.int (iI (x))), some (.int (iI (n)))] [] _
  refine w_iload_n b dX8_make_0 rfl ?_
  refine c_S1 b dX8_make_1 lmX8_242 (k_X8_isShelf (by omega)) (tle rfl) (by omega) (by omega) (by omega) ?_
  refine z_ifb_eq (tgt := 23) b dX8_make_4 (by decide) (fun c4 => ?_) (fun c4 => ?_)
  · refine z_iconst b dX8_make_23 ?_
    exact w_iret b dX8_make_24 rfl (by omega) (by omega) ⟨iv_eq (by first | rfl | omega | ((try simp only [b2]); ((repeat' split) <;> (first | rfl | omega)))), rfl⟩
  · refine w_iload_n b dX8_make_7 rfl ?_
    refine z_iconst b dX8_make_8 ?_
    refine z_icmp_eq (tgt := 17) b dX8_make_9 (by decide) (by omega) (fun c9 => ?_) (fun c9 => ?_)
    · refine w_iload_n b dX8_make_17 rfl ?_
      refine z_bipush b dX8_make_18 (by decide) ?_
      refine z_icmp_le (tgt := 25) b dX8_make_20 (by decide) (by omega) (fun c20 => ?_) (fun c20 => ?_)
      · refine w_iload_n b dX8_make_25 rfl ?_
        refine z_if_ge (tgt := 32) b dX8_make_26 (by decide) (by omega) (fun c26 => ?_) (fun c26 => ?_)
        · exfalso; omega
        · refine z_bipush b dX8_make_29 (by decide) ?_
          exact w_iret b dX8_make_31 rfl (by omega) (by omega) ⟨iv_eq (by first | rfl | omega | ((try simp only [b2]); ((repeat' split) <;> (first | rfl | omega)))), rfl⟩
      · refine z_iconst b dX8_make_23 ?_
        exact w_iret b dX8_make_24 rfl (by omega) (by omega) ⟨iv_eq (by first | rfl | omega | ((try simp only [b2]); ((repeat' split) <;> (first | rfl | omega)))), rfl⟩
    · refine w_iload_n b dX8_make_12 rfl ?_
      refine z_iconst b dX8_make_13 ?_
      refine z_icmp_ne (tgt := 23) b dX8_make_14 (by decide) (by omega) (fun c14 => ?_) (fun c14 => ?_)
      · refine z_iconst b dX8_make_23 ?_
        exact w_iret b dX8_make_24 rfl (by omega) (by omega) ⟨iv_eq (by first | rfl | omega | ((try simp only [b2]); ((repeat' split) <;> (first | rfl | omega)))), rfl⟩
      · refine w_iload_n b dX8_make_17 rfl ?_
        refine z_bipush b dX8_make_18 (by decide) ?_
        refine z_icmp_le (tgt := 25) b dX8_make_20 (by decide) (by omega) (fun c20 => ?_) (fun c20 => ?_)
        · refine w_iload_n b dX8_make_25 rfl ?_
          refine z_if_ge (tgt := 32) b dX8_make_26 (by decide) (by omega) (fun c26 => ?_) (fun c26 => ?_)
          · exfalso; omega
          · refine z_bipush b dX8_make_29 (by decide) ?_
            exact w_iret b dX8_make_31 rfl (by omega) (by omega) ⟨iv_eq (by first | rfl | omega | ((try simp only [b2]); ((repeat' split) <;> (first | rfl | omega)))), rfl⟩
        · refine z_iconst b dX8_make_23 ?_
          exact w_iret b dX8_make_24 rfl (by omega) (by omega) ⟨iv_eq (by first | rfl | omega | ((try simp only [b2]); ((repeat' split) <;> (first | rfl | omega)))), rfl⟩
set_option maxRecDepth 20000 in
theorem k_X8_make1 {l0 : Launch} {g : Gw} {w nx : Nat} {h : Nat → va_E} {C : Nat → Nat → Int} {A : Nat → Int → Int} {V : Nat → Value} {d x n : Int} (hd : 0 ≤ d ∧ d ≤ 7) (hx : 3 ≤ x ∧ x ≤ 4) (hn : 0 ≤ n ∧ n ≤ 60) : MD l0 g 2 mX8_make (cp w C A V h, nx) [.ref 0, .int (iI (d)), .int (iI (x)), .int (iI (n))] 0 0 (some (.int (iI (0)))) (cp w (cH C (241 + 2 * d.toNat) x n) (va_up A (241 + 2 * d.toNat + 1) (fillA 0 (n).toNat 0 (A (241 + 2 * d.toNat + 1)))) (va_up V (241 + 2 * d.toNat) .null) h, nx) := by
  refine MD.of (by decide +kernel) (by simp [Value.category]) (tle rfl) (fun X b => ?_)
  change WW X g _ _ 0 0 0 [some (.ref 0), some (.int (iI (d))), some (.int (iI (x))), some (.int (iI (n)))] [] _
  refine w_iload_n b dX8_make_0 rfl ?_
  refine c_S1 b dX8_make_1 lmX8_242 (k_X8_isShelf (by omega)) (tle rfl) (by omega) (by omega) (by omega) ?_
  refine z_ifb_eq (tgt := 23) b dX8_make_4 (by decide) (fun c4 => ?_) (fun c4 => ?_)
  · exfalso; omega
  · refine w_iload_n b dX8_make_7 rfl ?_
    refine z_iconst b dX8_make_8 ?_
    refine z_icmp_eq (tgt := 17) b dX8_make_9 (by decide) (by omega) (fun c9 => ?_) (fun c9 => ?_)
    · refine w_iload_n b dX8_make_17 rfl ?_
      refine z_bipush b dX8_make_18 (by decide) ?_
      refine z_icmp_le (tgt := 25) b dX8_make_20 (by decide) (by omega) (fun c20 => ?_) (fun c20 => ?_)
      · refine w_iload_n b dX8_make_25 rfl ?_
        refine z_if_ge (tgt := 32) b dX8_make_26 (by decide) (by omega) (fun c26 => ?_) (fun c26 => ?_)
        · refine w_aload_n b dX8_make_32 rfl rfl ?_
          refine q_get b dX8_make_33 lfX8_46 (tlt rfl) ct_0 rfl ?_
          refine w_iload_n b dX8_make_36 rfl ?_
          refine q_aald b dX8_make_37 (tlt rfl) ct_240 (by omega) (by omega) ?_
          refine w_iload_n b dX8_make_38 rfl ?_
          refine w_iload_n b dX8_make_39 rfl ?_
          refine c_V2v b dX8_make_40 lmX8_260 (cpS (by omega) (ct_shelf (by omega))) (k_X4_holdZeros (by omega) (by omega) hn) (tle rfl) (by omega) (by omega) (by omega) ?_
          refine z_iconst b dX8_make_43 ?_
          exact w_iret b dX8_make_44 rfl (by omega) (by omega) ⟨iv_eq (by first | rfl | omega | ((try simp only [b2]); ((repeat' split) <;> (first | rfl | omega)))), rfl⟩
        · exfalso; omega
      · exfalso; omega
    · refine w_iload_n b dX8_make_12 rfl ?_
      refine z_iconst b dX8_make_13 ?_
      refine z_icmp_ne (tgt := 23) b dX8_make_14 (by decide) (by omega) (fun c14 => ?_) (fun c14 => ?_)
      · exfalso; omega
      · refine w_iload_n b dX8_make_17 rfl ?_
        refine z_bipush b dX8_make_18 (by decide) ?_
        refine z_icmp_le (tgt := 25) b dX8_make_20 (by decide) (by omega) (fun c20 => ?_) (fun c20 => ?_)
        · refine w_iload_n b dX8_make_25 rfl ?_
          refine z_if_ge (tgt := 32) b dX8_make_26 (by decide) (by omega) (fun c26 => ?_) (fun c26 => ?_)
          · refine w_aload_n b dX8_make_32 rfl rfl ?_
            refine q_get b dX8_make_33 lfX8_46 (tlt rfl) ct_0 rfl ?_
            refine w_iload_n b dX8_make_36 rfl ?_
            refine q_aald b dX8_make_37 (tlt rfl) ct_240 (by omega) (by omega) ?_
            refine w_iload_n b dX8_make_38 rfl ?_
            refine w_iload_n b dX8_make_39 rfl ?_
            refine c_V2v b dX8_make_40 lmX8_260 (cpS (by omega) (ct_shelf (by omega))) (k_X4_holdZeros (by omega) (by omega) hn) (tle rfl) (by omega) (by omega) (by omega) ?_
            refine z_iconst b dX8_make_43 ?_
            exact w_iret b dX8_make_44 rfl (by omega) (by omega) ⟨iv_eq (by first | rfl | omega | ((try simp only [b2]); ((repeat' split) <;> (first | rfl | omega)))), rfl⟩
          · exfalso; omega
        · exfalso; omega
set_option maxRecDepth 20000 in
theorem l_X8_keepColours {X : Cx} {l0 : Launch} {g : Gw} {Z : State → Prop} {w nx : Nat} {h : Nat → va_E} {C : Nat → Nat → Int} {A : Nat → Int → Int} {V : Nat → Value} (b : BX X l0 g mX8_keepColours 2 0 0) {r : Nat} {k : Int} {C1 : Nat → Nat → Int} {I : Nat → Int} {F : Nat → Int → Int} (hr : r < 8) (hR : RCa w C A I F) (hk : 0 ≤ k ∧ k < I 21) : ∀ (n : Nat) (i : Int) (f : Int → Int), (i + n = (w : Int)) → (0 ≤ i) → WW X g mX8_keepColours.2.2.1 Z 0 0 59 [some (.ref 0), some (.ref (241 + 2 * r)), some (.int (iI (k))), none] [] (cp w C1 (va_up A (241 + 2 * r + 1) (cpB (fun i => F 23 (40 * k + i)) n i f)) V h, nx) → WW X g mX8_keepColours.2.2.1 Z 0 0 24 [some (.ref 0), some (.ref (241 + 2 * r)), some (.int (iI (k))), some (.int (iI (i)))] [] (cp w C1 (va_up A (241 + 2 * r + 1) f) V h, nx) := by
  intro n
  induction n with
  | zero =>
    intro i f h1 h2 kk
    have hw1 := hR.w1; have hw2 := hR.w2; have ht1 := hR.t1; have ht2 := hR.t2
    refine w_iload_n b dX8_keepColours_24 rfl ?_
    refine w_aload_n b dX8_keepColours_25 rfl rfl ?_
    refine q_get b dX8_keepColours_26 lfX8_15 (tlt rfl) ct_0 rfl ?_
    refine z_icmp_ge (tgt := 59) b dX8_keepColours_29 (by decide) (by omega) (fun c29 => ?_) (fun c29 => ?_)
    · refine ww_forget 3 ?_
      exact kk
    · exfalso; omega
  | succ n ih =>
    intro i f h1 h2 kk
    have hw1 := hR.w1; have hw2 := hR.w2; have ht1 := hR.t1; have ht2 := hR.t2
    refine w_iload_n b dX8_keepColours_24 rfl ?_
    refine w_aload_n b dX8_keepColours_25 rfl rfl ?_
    refine q_get b dX8_keepColours_26 lfX8_15 (tlt rfl) ct_0 rfl ?_
    refine z_icmp_ge (tgt := 59) b dX8_keepColours_29 (by decide) (by omega) (fun c29 => ?_) (fun c29 => ?_)
    · exfalso; omega
    · refine w_aload_n b dX8_keepColours_32 rfl rfl ?_
      refine q_get b dX8_keepColours_33 lfX8_282 (by omega) (ct_shelf (by omega)) rfl ?_
      refine w_iload_n b dX8_keepColours_36 rfl ?_
      refine w_aload_n b dX8_keepColours_37 rfl rfl ?_
      refine q_get b dX8_keepColours_38 lfX8_24 (tlt rfl) ct_0 rfl ?_
      refine q_get b dX8_keepColours_41 lfX8_152 (tlt rfl) ct_1 rfl ?_
      refine w_iload_n b dX8_keepColours_44 rfl ?_
      refine q_aald b dX8_keepColours_45 (tlt rfl) ct_5 (by omega) (by omega) ?_
      refine q_get b dX8_keepColours_46 lfX8_156 (by omega) (ct_row (by omega)) rfl ?_
      refine w_iload_n b dX8_keepColours_49 rfl ?_
      have hv := hR.b23 (40 * k + i) (by omega) (by omega)
      refine q_bald b dX8_keepColours_50 (by omega) (ct_row2 (by omega)) (by omega) ?_
      refine y_top (y := F 23 (40 * k + i)) (by rw [va_up_ne _ _ (by omega)]; exact hR.a23 _ _ (by omega) (by omega) (by omega) (by omega)) ?_
      refine z_i2s b dX8_keepColours_51 (by omega) ?_
      refine q_sast b dX8_keepColours_52 (by omega) (fun _ => ct_shelf1 (by omega)) (by omega) (by omega) ?_
      refine ww_cast (σ' := (cp w C1 (va_up A (241 + 2 * r + 1) (fu f i (F 23 (40 * k + i)))) V h, nx)) rfl rfl (by rw [va_up_twice, va_up_self]) ?_
      refine z_iinc b dX8_keepColours_53 rfl rfl rfl ?_
      refine w_goto (tgt := 24) b dX8_keepColours_56 (by decide) ?_
      exact ih (i + 1) (fu f i (F 23 (40 * k + i))) (by omega) (by omega) kk
set_option maxRecDepth 20000 in
theorem k_X8_keepColours0 {l0 : Launch} {g : Gw} {w nx : Nat} {h : Nat → va_E} {C : Nat → Nat → Int} {A : Nat → Int → Int} {V : Nat → Value} {I : Nat → Int} {F : Nat → Int → Int} {r : Nat} {k : Int} (hR : RCa w C A I F) (hr : r < 8) (hk : inR k) (hb : ¬ (0 ≤ k ∧ k < I 21)) : MD l0 g 2 mX8_keepColours (cp w C A V h, nx) [.ref 0, .ref (241 + 2 * r), .int (iI (k))] 0 0 (some (.int (iI (-1)))) (cp w C A V h, nx) := by
  have hw1 := hR.w1
  have hw2 := hR.w2
  have ht1 := hR.t1
  have ht2 := hR.t2
  refine MD.of (by decide +kernel) (by simp [Value.category]) (tle rfl) (fun X b => ?_)
  change WW X g _ _ 0 0 0 [some (.ref 0), some (.ref (241 + 2 * r)), some (.int (iI (k))), none] [] _
  refine w_aload_n b dX8_keepColours_0 rfl rfl ?_
  refine q_get b dX8_keepColours_1 lfX8_24 (tlt rfl) ct_0 rfl ?_
  refine w_iload_n b dX8_keepColours_4 rfl ?_
  refine c_V1 b dX8_keepColours_5 lmX8_177 (cpS (tlt rfl) ct_1) (k_X1_hasRow (by omega) (by omega)) (tle rfl) (by omega) (by omega) (by omega) ?_
  refine z_ifb_ne (tgt := 13) b dX8_keepColours_8 (by decide) (fun c8 => ?_) (fun c8 => ?_)
  · exfalso; omega
  · refine z_iconst b dX8_keepColours_11 ?_
    exact w_iret b dX8_keepColours_12 rfl (by omega) (by omega) ⟨iv_eq (by first | rfl | omega | ((try simp only [b2]); ((repeat' split) <;> (first | rfl | omega)))), rfl⟩
set_option maxRecDepth 20000 in
theorem k_X8_keepColours1 {l0 : Launch} {g : Gw} {w nx : Nat} {h : Nat → va_E} {C : Nat → Nat → Int} {A : Nat → Int → Int} {V : Nat → Value} {I : Nat → Int} {F : Nat → Int → Int} {r : Nat} {k : Int} (hR : RCa w C A I F) (hr : r < 8) (hk : 0 ≤ k ∧ k < I 21) : MD l0 g 2 mX8_keepColours (cp w C A V h, nx) [.ref 0, .ref (241 + 2 * r), .int (iI (k))] 0 0 (some (.int (iI (0)))) (cp w (cH C (241 + 2 * r) 3 (w : Int)) (va_up A (241 + 2 * r + 1) (cpB (fun i => F 23 (40 * k + i)) w 0 (fillA 0 ((w : Int)).toNat 0 (A (241 + 2 * r + 1))))) (va_up V (241 + 2 * r) .null) h, nx) := by
  have hw1 := hR.w1
  have hw2 := hR.w2
  have ht1 := hR.t1
  have ht2 := hR.t2
  refine MD.of (by decide +kernel) (by simp [Value.category]) (tle rfl) (fun X b => ?_)
  change WW X g _ _ 0 0 0 [some (.ref 0), some (.ref (241 + 2 * r)), some (.int (iI (k))), none] [] _
  refine w_aload_n b dX8_keepColours_0 rfl rfl ?_
  refine q_get b dX8_keepColours_1 lfX8_24 (tlt rfl) ct_0 rfl ?_
  refine w_iload_n b dX8_keepColours_4 rfl ?_
  refine c_V1 b dX8_keepColours_5 lmX8_177 (cpS (tlt rfl) ct_1) (k_X1_hasRow (by omega) (by omega)) (tle rfl) (by omega) (by omega) (by omega) ?_
  refine z_ifb_ne (tgt := 13) b dX8_keepColours_8 (by decide) (fun c8 => ?_) (fun c8 => ?_)
  · refine w_aload_n b dX8_keepColours_13 rfl rfl ?_
    refine z_iconst b dX8_keepColours_14 ?_
    refine w_aload_n b dX8_keepColours_15 rfl rfl ?_
    refine q_get b dX8_keepColours_16 lfX8_15 (tlt rfl) ct_0 rfl ?_
    refine c_V2v b dX8_keepColours_19 lmX8_260 (cpS (by omega) (ct_shelf (by omega))) (k_X4_holdZeros hr (by omega) (by omega)) (tle rfl) (by omega) (by omega) (by omega) ?_
    refine z_iconst b dX8_keepColours_22 ?_
    refine w_istore_n b dX8_keepColours_23 (tlt rfl) rfl ?_
    refine l_X8_keepColours b hr hR hk w 0 _ (by omega) (by omega) ?_
    refine z_iconst b dX8_keepColours_59 ?_
    exact w_iret b dX8_keepColours_60 rfl (by omega) (by omega) ⟨iv_eq (by first | rfl | omega | ((try simp only [b2]); ((repeat' split) <;> (first | rfl | omega)))), rfl⟩
  · exfalso; omega
set_option maxRecDepth 20000 in
theorem l_X8_keepMinutes {X : Cx} {l0 : Launch} {g : Gw} {Z : State → Prop} {w nx : Nat} {h : Nat → va_E} {C : Nat → Nat → Int} {A : Nat → Int → Int} {V : Nat → Value} (b : BX X l0 g mX8_keepMinutes 2 0 0) {r : Nat} {C1 : Nat → Nat → Int} {I : Nat → Int} {F : Nat → Int → Int} (hr : r < 8) (hR : RCa w C A I F) (hC : ∀ j, j < 230 → C1 j = C j) : ∀ (n : Nat) (i : Int) (f : Int → Int), (i + n = I 21) → (0 ≤ i) → WW X g mX8_keepMinutes.2.2.1 Z 0 0 50 [some (.ref 0), some (.ref (241 + 2 * r)), none] [] (cp w C1 (va_up A (241 + 2 * r + 1) (cpB (F 26) n i f)) V h, nx) → WW X g mX8_keepMinutes.2.2.1 Z 0 0 14 [some (.ref 0), some (.ref (241 + 2 * r)), some (.int (iI (i)))] [] (cp w C1 (va_up A (241 + 2 * r + 1) f) V h, nx) := by
  intro n
  induction n with
  | zero =>
    intro i f h1 h2 kk
    have hw1 := hR.w1; have hw2 := hR.w2; have ht1 := hR.t1; have ht2 := hR.t2
    refine w_iload_n b dX8_keepMinutes_14 rfl ?_
    refine w_aload_n b dX8_keepMinutes_15 rfl rfl ?_
    refine q_get b dX8_keepMinutes_16 lfX8_24 (tlt rfl) ct_0 rfl ?_
    refine q_get b dX8_keepMinutes_19 lfX8_130 (tlt rfl) ct_1 rfl ?_
    refine y_top (y := I 21) (by rw [hC _ (by omega)]; exact ht1) ?_
    refine z_icmp_ge (tgt := 50) b dX8_keepMinutes_22 (by decide) (by omega) (fun c22 => ?_) (fun c22 => ?_)
    · refine ww_forget 2 ?_
      exact kk
    · exfalso; omega
  | succ n ih =>
    intro i f h1 h2 kk
    have hw1 := hR.w1; have hw2 := hR.w2; have ht1 := hR.t1; have ht2 := hR.t2
    refine w_iload_n b dX8_keepMinutes_14 rfl ?_
    refine w_aload_n b dX8_keepMinutes_15 rfl rfl ?_
    refine q_get b dX8_keepMinutes_16 lfX8_24 (tlt rfl) ct_0 rfl ?_
    refine q_get b dX8_keepMinutes_19 lfX8_130 (tlt rfl) ct_1 rfl ?_
    refine y_top (y := I 21) (by rw [hC _ (by omega)]; exact ht1) ?_
    refine z_icmp_ge (tgt := 50) b dX8_keepMinutes_22 (by decide) (by omega) (fun c22 => ?_) (fun c22 => ?_)
    · exfalso; omega
    · refine w_aload_n b dX8_keepMinutes_25 rfl rfl ?_
      refine q_get b dX8_keepMinutes_26 lfX8_282 (by omega) (ct_shelf (by omega)) rfl ?_
      refine w_iload_n b dX8_keepMinutes_29 rfl ?_
      refine w_aload_n b dX8_keepMinutes_30 rfl rfl ?_
      refine q_get b dX8_keepMinutes_31 lfX8_24 (tlt rfl) ct_0 rfl ?_
      refine q_get b dX8_keepMinutes_34 lfX8_152 (tlt rfl) ct_1 rfl ?_
      refine w_iload_n b dX8_keepMinutes_37 rfl ?_
      refine q_aald b dX8_keepMinutes_38 (tlt rfl) ct_5 (by omega) (by omega) ?_
      have hv := hR.b26 i (by omega) (by omega)
      refine q_get b dX8_keepMinutes_39 lfX8_180 (by omega) (ct_row (by omega)) rfl ?_
      refine y_top (y := F 26 i) (by first | exact hR.c26 _ (by omega) (by omega) | (rw [hC _ (by omega)]; exact hR.c26 _ (by omega) (by omega))) ?_
      refine z_i2s b dX8_keepMinutes_42 (by omega) ?_
      refine q_sast b dX8_keepMinutes_43 (by omega) (fun _ => ct_shelf1 (by omega)) (by omega) (by omega) ?_
      refine ww_cast (σ' := (cp w C1 (va_up A (241 + 2 * r + 1) (fu f i (F 26 i))) V h, nx)) rfl rfl (by rw [va_up_twice, va_up_self]) ?_
      refine z_iinc b dX8_keepMinutes_44 rfl rfl rfl ?_
      refine w_goto (tgt := 14) b dX8_keepMinutes_47 (by decide) ?_
      exact ih (i + 1) (fu f i (F 26 i)) (by omega) (by omega) kk
set_option maxRecDepth 20000 in
theorem k_X8_keepMinutes {l0 : Launch} {g : Gw} {w nx : Nat} {h : Nat → va_E} {C : Nat → Nat → Int} {A : Nat → Int → Int} {V : Nat → Value} {I : Nat → Int} {F : Nat → Int → Int} {r : Nat} (hR : RCa w C A I F) (hr : r < 8) : MD l0 g 2 mX8_keepMinutes (cp w C A V h, nx) [.ref 0, .ref (241 + 2 * r)] 0 0 (some (.int (iI (0)))) (cp w (cH C (241 + 2 * r) 4 (I 21)) (va_up A (241 + 2 * r + 1) (cpB (F 26) (I 21).toNat 0 (fillA 0 (I 21).toNat 0 (A (241 + 2 * r + 1))))) (va_up V (241 + 2 * r) .null) h, nx) := by
  have hw1 := hR.w1
  have hw2 := hR.w2
  have ht1 := hR.t1
  have ht2 := hR.t2
  refine MD.of (by decide +kernel) (by simp [Value.category]) (tle rfl) (fun X b => ?_)
  change WW X g _ _ 0 0 0 [some (.ref 0), some (.ref (241 + 2 * r)), none] [] _
  refine w_aload_n b dX8_keepMinutes_0 rfl rfl ?_
  refine z_iconst b dX8_keepMinutes_1 ?_
  refine w_aload_n b dX8_keepMinutes_2 rfl rfl ?_
  refine q_get b dX8_keepMinutes_3 lfX8_24 (tlt rfl) ct_0 rfl ?_
  refine q_get b dX8_keepMinutes_6 lfX8_130 (tlt rfl) ct_1 rfl ?_
  refine y_top ht1 ?_
  refine c_V2v b dX8_keepMinutes_9 lmX8_260 (cpS (by omega) (ct_shelf (by omega))) (k_X4_holdZeros hr (by omega) (by omega)) (tle rfl) (by omega) (by omega) (by omega) ?_
  refine z_iconst b dX8_keepMinutes_12 ?_
  refine w_istore_n b dX8_keepMinutes_13 (tlt rfl) rfl ?_
  refine l_X8_keepMinutes b hr hR (fun j hj => cH_ne (by omega)) (I 21).toNat 0 _ (by omega) (by omega) ?_
  refine z_iconst b dX8_keepMinutes_50 ?_
  exact w_iret b dX8_keepMinutes_51 rfl (by omega) (by omega) ⟨iv_eq (by first | rfl | omega | ((try simp only [b2]); ((repeat' split) <;> (first | rfl | omega)))), rfl⟩
set_option maxRecDepth 20000 in
theorem k_X5_init {l0 : Launch} {g : Gw} {σ : Sg} {q : Nat} {k n c : Int} (hs : σ.1 q = .inr (5, [.int 0, .int 0, .int 0])) : MD l0 g 1 mX5_init σ [.ref q, .int (iI (k)), .int (iI (n)), .int (iI (c))] 0 0 (none) (va_up σ.1 q (.inr (5, [.int (iI k), .int (iI c), .int (iI n)])), σ.2) := by
  refine MD.of (by decide +kernel) (by simp [Value.category]) (tle rfl) (fun X b => ?_)
  change WW X g _ _ 0 0 0 [some (.ref q), some (.int (iI (k))), some (.int (iI (n))), some (.int (iI (c)))] [] _
  refine w_aload_n b dX5_init_0 rfl rfl ?_
  refine w_objInit b dX5_init_1 loX5_3 lo_inst lo_code (tle rfl) (by omega) ?_
  refine w_aload_n b dX5_init_4 rfl rfl ?_
  refine w_iload_n b dX5_init_5 rfl ?_
  refine w_putf b dX5_init_6 lfX5_9 gcX5 gtX5_0 (fun _ => rfl) hs (tlt rfl) rfl rfl ?_
  refine w_aload_n b dX5_init_9 rfl rfl ?_
  refine w_iload_n b dX5_init_10 rfl ?_
  refine w_putf b dX5_init_11 lfX5_15 gcX5 gtX5_2 (fun z => by cases z) (va_up_self _ _ _) (tlt rfl) rfl rfl ?_
  refine w_aload_n b dX5_init_14 rfl rfl ?_
  refine w_iload_n b dX5_init_15 rfl ?_
  refine w_putf b dX5_init_16 lfX5_18 gcX5 gtX5_1 (fun _ => rfl) (va_up_self _ _ _) (tlt rfl) rfl rfl ?_
  exact w_vret b dX5_init_19 rfl (by omega) (by omega) ⟨rfl, by rw [va_up_twice, va_up_twice]; rfl⟩
set_option maxRecDepth 20000 in
theorem k_X8_keepStep0 {l0 : Launch} {g : Gw} {w nx : Nat} {h : Nat → va_E} {C : Nat → Nat → Int} {A : Nat → Int → Int} {V : Nat → Value} {I : Nat → Int} {F : Nat → Int → Int} {ca : Nat → Nat} {sa : Nat → Nat → Nat} {own : Nat → Nat} {r : Nat} {c s : Int} (hD : RDy h nx C V I F ca sa own) (hr : r < 8) (hci : inR c) (hb : ¬ (0 ≤ c ∧ c < I 2)) : MD l0 g 4 mX8_keepStep (cp w C A V h, nx) [.ref 0, .ref (241 + 2 * r), .int (iI (c)), .int (iI (s))] 0 0 (some (.int (iI (-1)))) (cp w C A V h, nx) := by
  refine MD.of (by decide +kernel) (by simp [Value.category]) (tle rfl) (fun X b => ?_)
  change WW X g _ _ 0 0 0 [some (.ref 0), some (.ref (241 + 2 * r)), some (.int (iI (c))), some (.int (iI (s))), none] [] _
  refine w_aload_n b dX8_keepStep_0 rfl rfl ?_
  refine q_get b dX8_keepStep_1 lfX8_33 (tlt rfl) ct_0 rfl ?_
  refine w_iload_n b dX8_keepStep_4 rfl ?_
  refine w_iload_n b dX8_keepStep_5 rfl ?_
  refine c_V2 b dX8_keepStep_6 lmX8_92 (cpS (tlt rfl) ct_230) (k_X0_hasStep0 hD hci hb) (tle rfl) (by omega) (by omega) (by omega) ?_
  refine z_if_ne (tgt := 14) b dX8_keepStep_9 (by decide) (by omega) (fun c9 => ?_) (fun c9 => ?_)
  · exfalso; omega
  · refine z_iconst b dX8_keepStep_12 ?_
    exact w_iret b dX8_keepStep_13 rfl (by omega) (by omega) ⟨iv_eq (by first | rfl | omega | ((try simp only [b2]); ((repeat' split) <;> (first | rfl | omega)))), rfl⟩
set_option maxRecDepth 20000 in
theorem k_X8_keepStep1 {l0 : Launch} {g : Gw} {w nx : Nat} {h : Nat → va_E} {C : Nat → Nat → Int} {A : Nat → Int → Int} {V : Nat → Value} {I : Nat → Int} {F : Nat → Int → Int} {ca : Nat → Nat} {sa : Nat → Nat → Nat} {own : Nat → Nat} {r c : Nat} {s : Int} (hD : RDy h nx C V I F ca sa own) (hr : r < 8) (hc : (c : Int) < I 2) (hs : inR s) (hb : ¬ (0 ≤ s ∧ s < F 3 (c : Int))) : MD l0 g 4 mX8_keepStep (cp w C A V h, nx) [.ref 0, .ref (241 + 2 * r), .int (iI ((c : Int))), .int (iI (s))] 0 0 (some (.int (iI (-1)))) (cp w C A V h, nx) := by
  refine MD.of (by decide +kernel) (by simp [Value.category]) (tle rfl) (fun X b => ?_)
  change WW X g _ _ 0 0 0 [some (.ref 0), some (.ref (241 + 2 * r)), some (.int (iI ((c : Int)))), some (.int (iI (s))), none] [] _
  refine w_aload_n b dX8_keepStep_0 rfl rfl ?_
  refine q_get b dX8_keepStep_1 lfX8_33 (tlt rfl) ct_0 rfl ?_
  refine w_iload_n b dX8_keepStep_4 rfl ?_
  refine w_iload_n b dX8_keepStep_5 rfl ?_
  refine c_V2 b dX8_keepStep_6 lmX8_92 (cpS (tlt rfl) ct_230) (k_X0_hasStep1 hD hs hc) (tle rfl) (by omega) (by omega) (by omega) ?_
  refine z_ifb_ne (tgt := 14) b dX8_keepStep_9 (by decide) (fun c9 => ?_) (fun c9 => ?_)
  · exfalso; omega
  · refine z_iconst b dX8_keepStep_12 ?_
    exact w_iret b dX8_keepStep_13 rfl (by omega) (by omega) ⟨iv_eq (by first | rfl | omega | ((try simp only [b2]); ((repeat' split) <;> (first | rfl | omega)))), rfl⟩
set_option maxRecDepth 20000 in
theorem k_X8_keepStep2 {l0 : Launch} {g : Gw} {w nx : Nat} {h : Nat → va_E} {C : Nat → Nat → Int} {A : Nat → Int → Int} {V : Nat → Value} {I : Nat → Int} {F : Nat → Int → Int} {ca : Nat → Nat} {sa : Nat → Nat → Nat} {own : Nat → Nat} {r c s : Nat} (hD : RDy h nx C V I F ca sa own) (hr : r < 8) (hx : 291 ≤ nx) (hc : (c : Int) < I 2) (hs : (s : Int) < F 3 (c : Int)) : MD l0 g 4 mX8_keepStep (cp w C A V h, nx) [.ref 0, .ref (241 + 2 * r), .int (iI ((c : Int))), .int (iI ((s : Int)))] 1 3 (some (.int (iI (0)))) (cp w (cH C (241 + 2 * r) 1 0) A (va_up V (241 + 2 * r) (.ref nx)) (va_up h nx (stE F (12 * (c : Int) + (s : Int)))), nx + 1) := by
  have hn2 := hD.n2
  have hw0 := (hD.wf c (by omega) hc).1
  obtain ⟨o1, o2, o3, o4⟩ := hD.os c s hc hs
  have hst : ((cp w C A V (va_up h nx (.inr (5, [.int 0, .int 0, .int 0]))), nx + 1) : Sg).1 (sa c s) = .inr (5, [.int (iI (F 4 (12 * (c : Int) + (s : Int)))), .int (iI (F 6 (12 * (c : Int) + (s : Int)))), .int (iI (F 5 (12 * (c : Int) + (s : Int))))]) := by
    show cp w C A V (va_up h nx _) (sa c s) = _
    rw [cp_ge (by omega), va_up_ne _ _ (by omega)]
    exact o4
  have hnw : ((cp w C A V (va_up h nx (.inr (5, [.int 0, .int 0, .int 0]))), nx + 1) : Sg).1 nx = (.inr (5, [.int 0, .int 0, .int 0])) := by
    show cp w C A V (va_up h nx _) nx = _
    rw [cp_ge (by omega), va_up_self]
  refine MD.of (by decide +kernel) (by simp [Value.category]) (tle rfl) (fun X b => ?_)
  change WW X g _ _ 0 0 0 [some (.ref 0), some (.ref (241 + 2 * r)), some (.int (iI ((c : Int)))), some (.int (iI ((s : Int)))), none] [] _
  refine w_aload_n b dX8_keepStep_0 rfl rfl ?_
  refine q_get b dX8_keepStep_1 lfX8_33 (tlt rfl) ct_0 rfl ?_
  refine w_iload_n b dX8_keepStep_4 rfl ?_
  refine w_iload_n b dX8_keepStep_5 rfl ?_
  refine c_V2 b dX8_keepStep_6 lmX8_92 (cpS (tlt rfl) ct_230) (k_X0_hasStep1 hD (by omega) hc) (tle rfl) (by omega) (by omega) (by omega) ?_
  refine z_ifb_ne (tgt := 14) b dX8_keepStep_9 (by decide) (fun c9 => ?_) (fun c9 => ?_)
  · refine w_aload_n b dX8_keepStep_14 rfl rfl ?_
    refine q_get b dX8_keepStep_15 lfX8_33 (tlt rfl) ct_0 rfl ?_
    refine w_iload_n b dX8_keepStep_18 rfl ?_
    refine w_iload_n b dX8_keepStep_19 rfl ?_
    refine c_V2 b dX8_keepStep_20 lmX8_96 (cpS (tlt rfl) ct_230) (k_X0_stepOf hD hc hs) (tle rfl) (by omega) (by omega) (by omega) ?_
    refine w_astore b dX8_keepStep_23 (tlt rfl) rfl rfl ?_
    refine w_aload_n b dX8_keepStep_25 rfl rfl ?_
    refine w_new b dX8_keepStep_26 lnX8_101 (by omega) (by simp <;> omega) ?_
    change WW X g _ _ (0 + 1) (0 + 3) _ _ _ _
    refine ww_cast (σ' := (cp w C A V (va_up h nx (.inr (5, [.int 0, .int 0, .int 0]))), nx + 1)) rfl rfl (by rw [cp_uph (by omega)]) ?_
    refine w_dup b dX8_keepStep_29 rfl ?_
    refine w_aload b dX8_keepStep_30 rfl rfl ?_
    refine w_getf b dX8_keepStep_32 lfX8_100 hst rfl ?_
    refine w_aload b dX8_keepStep_35 rfl rfl ?_
    refine w_getf b dX8_keepStep_37 lfX8_109 hst rfl ?_
    refine w_aload b dX8_keepStep_40 rfl rfl ?_
    refine w_getf b dX8_keepStep_42 lfX8_115 hst rfl ?_
    refine c_I3 b dX8_keepStep_45 lmX8_315 (k_X5_init (k := F 4 (12 * (c : Int) + (s : Int))) (n := F 5 (12 * (c : Int) + (s : Int))) (c := F 6 (12 * (c : Int) + (s : Int))) hnw) (tle rfl) (by omega) (by omega) (by omega) ?_
    refine ww_cast (σ' := (cp w C A V (va_up h nx (stE F (12 * (c : Int) + (s : Int)))), nx + 1)) rfl rfl (by rw [cp_uph (by omega), va_up_twice]; rfl) ?_
    refine c_V1v b dX8_keepStep_48 lmX8_318 (cpS (by omega) (ct_shelf (by omega))) (k_X4_holdStep hr) (tle rfl) (by omega) (by omega) (by omega) ?_
    refine z_iconst b dX8_keepStep_51 ?_
    exact w_iret b dX8_keepStep_52 rfl (by omega) (by omega) ⟨iv_eq (by first | rfl | omega | ((try simp only [b2]); ((repeat' split) <;> (first | rfl | omega)))), rfl⟩
  · exfalso; omega
set_option maxRecDepth 20000 in
theorem k_X8_keepZ {l0 : Launch} {g : Gw} {w nx : Nat} {h : Nat → va_E} {C : Nat → Nat → Int} {A : Nat → Int → Int} {V : Nat → Value} {d x k n : Int} (hd : inR d) (hx : inR x) (hb : ¬ (0 ≤ d ∧ d ≤ 7) ∨ ¬ (x = 0 ∨ x = 1 ∨ x = 3 ∨ x = 4)) : MD l0 g 2 mX8_keep (cp w C A V h, nx) [.ref 0, .int (iI (d)), .int (iI (x)), .int (iI (k)), .int (iI (n))] 0 0 (some (.int (iI (-1)))) (cp w C A V h, nx) := by
  refine MD.of (by decide +kernel) (by simp [Value.category]) (tle rfl) (fun X b => ?_)
  change WW X g _ _ 0 0 0 [some (.ref 0), some (.int (iI (d))), some (.int (iI (x))), some (.int (iI (k))), some (.int (iI (n)))] [] _
  refine w_iload_n b dX8_keep_0 rfl ?_
  refine c_S1 b dX8_keep_1 lmX8_242 (k_X8_isShelf (by omega)) (tle rfl) (by omega) (by omega) (by omega) ?_
  refine z_ifb_ne (tgt := 9) b dX8_keep_4 (by decide) (fun c4 => ?_) (fun c4 => ?_)
  · refine w_iload_n b dX8_keep_9 rfl ?_
    by_cases e10_0 : x = 0
    · refine w_tswI (tgt := 44) (off := 34) b dX8_keep_10 (by rw [iI_toInt (by omega)]; omega) (by rw [iI_toInt (by omega)]; omega) (by rw [iI_toInt (by omega), e10_0]; rfl) (by decide) ?_
      exfalso; omega
    by_cases e10_1 : x = 1
    · refine w_tswI (tgt := 55) (off := 45) b dX8_keep_10 (by rw [iI_toInt (by omega)]; omega) (by rw [iI_toInt (by omega)]; omega) (by rw [iI_toInt (by omega), e10_1]; rfl) (by decide) ?_
      exfalso; omega
    by_cases e10_2 : x = 2
    · refine w_tswI (tgt := 92) (off := 82) b dX8_keep_10 (by rw [iI_toInt (by omega)]; omega) (by rw [iI_toInt (by omega)]; omega) (by rw [iI_toInt (by omega), e10_2]; rfl) (by decide) ?_
      refine z_iconst b dX8_keep_92 ?_
      exact w_iret b dX8_keep_93 rfl (by omega) (by omega) ⟨iv_eq (by first | rfl | omega | ((try simp only [b2]); ((repeat' split) <;> (first | rfl | omega)))), rfl⟩
    by_cases e10_3 : x = 3
    · refine w_tswI (tgt := 69) (off := 59) b dX8_keep_10 (by rw [iI_toInt (by omega)]; omega) (by rw [iI_toInt (by omega)]; omega) (by rw [iI_toInt (by omega), e10_3]; rfl) (by decide) ?_
      exfalso; omega
    by_cases e10_4 : x = 4
    · refine w_tswI (tgt := 81) (off := 71) b dX8_keep_10 (by rw [iI_toInt (by omega)]; omega) (by rw [iI_toInt (by omega)]; omega) (by rw [iI_toInt (by omega), e10_4]; rfl) (by decide) ?_
      exfalso; omega
    refine w_tswO (tgt := 92) b dX8_keep_10 (by rw [iI_toInt (by omega)]; omega) (by decide) ?_
    refine z_iconst b dX8_keep_92 ?_
    exact w_iret b dX8_keep_93 rfl (by omega) (by omega) ⟨iv_eq (by first | rfl | omega | ((try simp only [b2]); ((repeat' split) <;> (first | rfl | omega)))), rfl⟩
  · refine z_iconst b dX8_keep_7 ?_
    exact w_iret b dX8_keep_8 rfl (by omega) (by omega) ⟨iv_eq (by first | rfl | omega | ((try simp only [b2]); ((repeat' split) <;> (first | rfl | omega)))), rfl⟩
set_option maxRecDepth 20000 in
theorem k_X8_keepN {l0 : Launch} {g : Gw} {w nx : Nat} {h : Nat → va_E} {C : Nat → Nat → Int} {A : Nat → Int → Int} {V : Nat → Value} {d k n : Int} (hd : 0 ≤ d ∧ d ≤ 7) : MD l0 g 2 mX8_keep (cp w C A V h, nx) [.ref 0, .int (iI (d)), .int (iI (0)), .int (iI (k)), .int (iI (n))] 0 0 (some (.int (iI (0)))) (cp w (cH C (241 + 2 * d.toNat) 0 0) A (va_up V (241 + 2 * d.toNat) .null) h, nx) := by
  refine MD.of (by decide +kernel) (by simp [Value.category]) (tle rfl) (fun X b => ?_)
  change WW X g _ _ 0 0 0 [some (.ref 0), some (.int (iI (d))), some (.int (iI (0))), some (.int (iI (k))), some (.int (iI (n)))] [] _
  refine w_iload_n b dX8_keep_0 rfl ?_
  refine c_S1 b dX8_keep_1 lmX8_242 (k_X8_isShelf (by omega)) (tle rfl) (by omega) (by omega) (by omega) ?_
  refine z_ifb_ne (tgt := 9) b dX8_keep_4 (by decide) (fun c4 => ?_) (fun c4 => ?_)
  · refine w_iload_n b dX8_keep_9 rfl ?_
    refine w_tswI (tgt := 44) (off := 34) b dX8_keep_10 (by decide) (by decide) (by decide) (by decide) ?_
    refine w_aload_n b dX8_keep_44 rfl rfl ?_
    refine q_get b dX8_keep_45 lfX8_46 (tlt rfl) ct_0 rfl ?_
    refine w_iload_n b dX8_keep_48 rfl ?_
    refine q_aald b dX8_keep_49 (tlt rfl) ct_240 (by omega) (by omega) ?_
    refine c_V0v b dX8_keep_50 lmX8_245 (cpS (by omega) (ct_shelf (by omega))) (k_X4_holdNothing (by omega)) (tle rfl) (by omega) (by omega) (by omega) ?_
    refine z_iconst b dX8_keep_53 ?_
    exact w_iret b dX8_keep_54 rfl (by omega) (by omega) ⟨iv_eq (by first | rfl | omega | ((try simp only [b2]); ((repeat' split) <;> (first | rfl | omega)))), rfl⟩
  · exfalso; omega
set_option maxRecDepth 20000 in
theorem k_X8_keepS0 {l0 : Launch} {g : Gw} {w nx : Nat} {h : Nat → va_E} {C : Nat → Nat → Int} {A : Nat → Int → Int} {V : Nat → Value} {I : Nat → Int} {F : Nat → Int → Int} {ca : Nat → Nat} {sa : Nat → Nat → Nat} {own : Nat → Nat} {d c s : Int} (hD : RDy h nx C V I F ca sa own) (hd : 0 ≤ d ∧ d ≤ 7) (hci : inR c) (hb : ¬ (0 ≤ c ∧ c < I 2)) : MD l0 g 5 mX8_keep (cp w C A V h, nx) [.ref 0, .int (iI (d)), .int (iI (1)), .int (iI (c)), .int (iI (s))] 0 0 (some (.int (iI (-1)))) (cp w C A V h, nx) := by
  refine MD.of (by decide +kernel) (by simp [Value.category]) (tle rfl) (fun X b => ?_)
  change WW X g _ _ 0 0 0 [some (.ref 0), some (.int (iI (d))), some (.int (iI (1))), some (.int (iI (c))), some (.int (iI (s)))] [] _
  refine w_iload_n b dX8_keep_0 rfl ?_
  refine c_S1 b dX8_keep_1 lmX8_242 (k_X8_isShelf (by omega)) (tle rfl) (by omega) (by omega) (by omega) ?_
  refine z_ifb_ne (tgt := 9) b dX8_keep_4 (by decide) (fun c4 => ?_) (fun c4 => ?_)
  · refine w_iload_n b dX8_keep_9 rfl ?_
    refine w_tswI (tgt := 55) (off := 45) b dX8_keep_10 (by decide) (by decide) (by decide) (by decide) ?_
    refine w_aload_n b dX8_keep_55 rfl rfl ?_
    refine w_aload_n b dX8_keep_56 rfl rfl ?_
    refine q_get b dX8_keep_57 lfX8_46 (tlt rfl) ct_0 rfl ?_
    refine w_iload_n b dX8_keep_60 rfl ?_
    refine q_aald b dX8_keep_61 (tlt rfl) ct_240 (by omega) (by omega) ?_
    refine w_iload_n b dX8_keep_62 rfl ?_
    refine w_iload b dX8_keep_63 rfl ?_
    refine c_V3 b dX8_keep_65 lmX8_248 (cpS (tlt rfl) ct_0) (k_X8_keepStep0 hD (by omega) hci hb) (tle rfl) (by omega) (by omega) (by omega) ?_
    exact w_iret b dX8_keep_68 rfl (by omega) (by omega) ⟨iv_eq (by first | rfl | omega | ((try simp only [b2]); ((repeat' split) <;> (first | rfl | omega)))), rfl⟩
  · exfalso; omega
set_option maxRecDepth 20000 in
theorem k_X8_keepS1 {l0 : Launch} {g : Gw} {w nx : Nat} {h : Nat → va_E} {C : Nat → Nat → Int} {A : Nat → Int → Int} {V : Nat → Value} {I : Nat → Int} {F : Nat → Int → Int} {ca : Nat → Nat} {sa : Nat → Nat → Nat} {own : Nat → Nat} {c : Nat} {d s : Int} (hD : RDy h nx C V I F ca sa own) (hd : 0 ≤ d ∧ d ≤ 7) (hc : (c : Int) < I 2) (hs : inR s) (hb : ¬ (0 ≤ s ∧ s < F 3 (c : Int))) : MD l0 g 5 mX8_keep (cp w C A V h, nx) [.ref 0, .int (iI (d)), .int (iI (1)), .int (iI ((c : Int))), .int (iI (s))] 0 0 (some (.int (iI (-1)))) (cp w C A V h, nx) := by
  refine MD.of (by decide +kernel) (by simp [Value.category]) (tle rfl) (fun X b => ?_)
  change WW X g _ _ 0 0 0 [some (.ref 0), some (.int (iI (d))), some (.int (iI (1))), some (.int (iI ((c : Int)))), some (.int (iI (s)))] [] _
  refine w_iload_n b dX8_keep_0 rfl ?_
  refine c_S1 b dX8_keep_1 lmX8_242 (k_X8_isShelf (by omega)) (tle rfl) (by omega) (by omega) (by omega) ?_
  refine z_ifb_ne (tgt := 9) b dX8_keep_4 (by decide) (fun c4 => ?_) (fun c4 => ?_)
  · refine w_iload_n b dX8_keep_9 rfl ?_
    refine w_tswI (tgt := 55) (off := 45) b dX8_keep_10 (by decide) (by decide) (by decide) (by decide) ?_
    refine w_aload_n b dX8_keep_55 rfl rfl ?_
    refine w_aload_n b dX8_keep_56 rfl rfl ?_
    refine q_get b dX8_keep_57 lfX8_46 (tlt rfl) ct_0 rfl ?_
    refine w_iload_n b dX8_keep_60 rfl ?_
    refine q_aald b dX8_keep_61 (tlt rfl) ct_240 (by omega) (by omega) ?_
    refine w_iload_n b dX8_keep_62 rfl ?_
    refine w_iload b dX8_keep_63 rfl ?_
    refine c_V3 b dX8_keep_65 lmX8_248 (cpS (tlt rfl) ct_0) (k_X8_keepStep1 hD (by omega) hc hs hb) (tle rfl) (by omega) (by omega) (by omega) ?_
    exact w_iret b dX8_keep_68 rfl (by omega) (by omega) ⟨iv_eq (by first | rfl | omega | ((try simp only [b2]); ((repeat' split) <;> (first | rfl | omega)))), rfl⟩
  · exfalso; omega
set_option maxRecDepth 20000 in
theorem k_X8_keepS2 {l0 : Launch} {g : Gw} {w nx : Nat} {h : Nat → va_E} {C : Nat → Nat → Int} {A : Nat → Int → Int} {V : Nat → Value} {I : Nat → Int} {F : Nat → Int → Int} {ca : Nat → Nat} {sa : Nat → Nat → Nat} {own : Nat → Nat} {c s : Nat} {d : Int} (hD : RDy h nx C V I F ca sa own) (hd : 0 ≤ d ∧ d ≤ 7) (hx : 291 ≤ nx) (hc : (c : Int) < I 2) (hs : (s : Int) < F 3 (c : Int)) : MD l0 g 5 mX8_keep (cp w C A V h, nx) [.ref 0, .int (iI (d)), .int (iI (1)), .int (iI ((c : Int))), .int (iI ((s : Int)))] 1 3 (some (.int (iI (0)))) (cp w (cH C (241 + 2 * d.toNat) 1 0) A (va_up V (241 + 2 * d.toNat) (.ref nx)) (va_up h nx (stE F (12 * (c : Int) + (s : Int)))), nx + 1) := by
  refine MD.of (by decide +kernel) (by simp [Value.category]) (tle rfl) (fun X b => ?_)
  change WW X g _ _ 0 0 0 [some (.ref 0), some (.int (iI (d))), some (.int (iI (1))), some (.int (iI ((c : Int)))), some (.int (iI ((s : Int))))] [] _
  refine w_iload_n b dX8_keep_0 rfl ?_
  refine c_S1 b dX8_keep_1 lmX8_242 (k_X8_isShelf (by omega)) (tle rfl) (by omega) (by omega) (by omega) ?_
  refine z_ifb_ne (tgt := 9) b dX8_keep_4 (by decide) (fun c4 => ?_) (fun c4 => ?_)
  · refine w_iload_n b dX8_keep_9 rfl ?_
    refine w_tswI (tgt := 55) (off := 45) b dX8_keep_10 (by decide) (by decide) (by decide) (by decide) ?_
    refine w_aload_n b dX8_keep_55 rfl rfl ?_
    refine w_aload_n b dX8_keep_56 rfl rfl ?_
    refine q_get b dX8_keep_57 lfX8_46 (tlt rfl) ct_0 rfl ?_
    refine w_iload_n b dX8_keep_60 rfl ?_
    refine q_aald b dX8_keep_61 (tlt rfl) ct_240 (by omega) (by omega) ?_
    refine w_iload_n b dX8_keep_62 rfl ?_
    refine w_iload b dX8_keep_63 rfl ?_
    refine c_V3 b dX8_keep_65 lmX8_248 (cpS (tlt rfl) ct_0) (k_X8_keepStep2 hD (by omega) hx hc hs) (tle rfl) (by omega) (by omega) (by omega) ?_
    exact w_iret b dX8_keep_68 rfl (by omega) (by omega) ⟨iv_eq (by first | rfl | omega | ((try simp only [b2]); ((repeat' split) <;> (first | rfl | omega)))), rfl⟩
  · exfalso; omega
set_option maxRecDepth 20000 in
theorem k_X8_keepB0 {l0 : Launch} {g : Gw} {w nx : Nat} {h : Nat → va_E} {C : Nat → Nat → Int} {A : Nat → Int → Int} {V : Nat → Value} {I : Nat → Int} {F : Nat → Int → Int} {d k n : Int} (hR : RCa w C A I F) (hd : 0 ≤ d ∧ d ≤ 7) (hk : inR k) (hb : ¬ (0 ≤ k ∧ k < I 21)) : MD l0 g 3 mX8_keep (cp w C A V h, nx) [.ref 0, .int (iI (d)), .int (iI (3)), .int (iI (k)), .int (iI (n))] 0 0 (some (.int (iI (-1)))) (cp w C A V h, nx) := by
  refine MD.of (by decide +kernel) (by simp [Value.category]) (tle rfl) (fun X b => ?_)
  change WW X g _ _ 0 0 0 [some (.ref 0), some (.int (iI (d))), some (.int (iI (3))), some (.int (iI (k))), some (.int (iI (n)))] [] _
  refine w_iload_n b dX8_keep_0 rfl ?_
  refine c_S1 b dX8_keep_1 lmX8_242 (k_X8_isShelf (by omega)) (tle rfl) (by omega) (by omega) (by omega) ?_
  refine z_ifb_ne (tgt := 9) b dX8_keep_4 (by decide) (fun c4 => ?_) (fun c4 => ?_)
  · refine w_iload_n b dX8_keep_9 rfl ?_
    refine w_tswI (tgt := 69) (off := 59) b dX8_keep_10 (by decide) (by decide) (by decide) (by decide) ?_
    refine w_aload_n b dX8_keep_69 rfl rfl ?_
    refine w_aload_n b dX8_keep_70 rfl rfl ?_
    refine q_get b dX8_keep_71 lfX8_46 (tlt rfl) ct_0 rfl ?_
    refine w_iload_n b dX8_keep_74 rfl ?_
    refine q_aald b dX8_keep_75 (tlt rfl) ct_240 (by omega) (by omega) ?_
    refine w_iload_n b dX8_keep_76 rfl ?_
    refine c_V2 b dX8_keep_77 lmX8_252 (cpS (tlt rfl) ct_0) (k_X8_keepColours0 hR (by omega) hk hb) (tle rfl) (by omega) (by omega) (by omega) ?_
    exact w_iret b dX8_keep_80 rfl (by omega) (by omega) ⟨iv_eq (by first | rfl | omega | ((try simp only [b2]); ((repeat' split) <;> (first | rfl | omega)))), rfl⟩
  · exfalso; omega
set_option maxRecDepth 20000 in
theorem k_X8_keepB1 {l0 : Launch} {g : Gw} {w nx : Nat} {h : Nat → va_E} {C : Nat → Nat → Int} {A : Nat → Int → Int} {V : Nat → Value} {I : Nat → Int} {F : Nat → Int → Int} {d k n : Int} (hR : RCa w C A I F) (hd : 0 ≤ d ∧ d ≤ 7) (hk : 0 ≤ k ∧ k < I 21) : MD l0 g 3 mX8_keep (cp w C A V h, nx) [.ref 0, .int (iI (d)), .int (iI (3)), .int (iI (k)), .int (iI (n))] 0 0 (some (.int (iI (0)))) (cp w (cH C (241 + 2 * d.toNat) 3 (w : Int)) (va_up A (241 + 2 * d.toNat + 1) (cpB (fun i => F 23 (40 * k + i)) w 0 (fillA 0 ((w : Int)).toNat 0 (A (241 + 2 * d.toNat + 1))))) (va_up V (241 + 2 * d.toNat) .null) h, nx) := by
  refine MD.of (by decide +kernel) (by simp [Value.category]) (tle rfl) (fun X b => ?_)
  change WW X g _ _ 0 0 0 [some (.ref 0), some (.int (iI (d))), some (.int (iI (3))), some (.int (iI (k))), some (.int (iI (n)))] [] _
  refine w_iload_n b dX8_keep_0 rfl ?_
  refine c_S1 b dX8_keep_1 lmX8_242 (k_X8_isShelf (by omega)) (tle rfl) (by omega) (by omega) (by omega) ?_
  refine z_ifb_ne (tgt := 9) b dX8_keep_4 (by decide) (fun c4 => ?_) (fun c4 => ?_)
  · refine w_iload_n b dX8_keep_9 rfl ?_
    refine w_tswI (tgt := 69) (off := 59) b dX8_keep_10 (by decide) (by decide) (by decide) (by decide) ?_
    refine w_aload_n b dX8_keep_69 rfl rfl ?_
    refine w_aload_n b dX8_keep_70 rfl rfl ?_
    refine q_get b dX8_keep_71 lfX8_46 (tlt rfl) ct_0 rfl ?_
    refine w_iload_n b dX8_keep_74 rfl ?_
    refine q_aald b dX8_keep_75 (tlt rfl) ct_240 (by omega) (by omega) ?_
    refine w_iload_n b dX8_keep_76 rfl ?_
    refine c_V2 b dX8_keep_77 lmX8_252 (cpS (tlt rfl) ct_0) (k_X8_keepColours1 hR (by omega) hk) (tle rfl) (by omega) (by omega) (by omega) ?_
    exact w_iret b dX8_keep_80 rfl (by omega) (by omega) ⟨iv_eq (by first | rfl | omega | ((try simp only [b2]); ((repeat' split) <;> (first | rfl | omega)))), rfl⟩
  · exfalso; omega
set_option maxRecDepth 20000 in
theorem k_X8_keepM {l0 : Launch} {g : Gw} {w nx : Nat} {h : Nat → va_E} {C : Nat → Nat → Int} {A : Nat → Int → Int} {V : Nat → Value} {I : Nat → Int} {F : Nat → Int → Int} {d k n : Int} (hR : RCa w C A I F) (hd : 0 ≤ d ∧ d ≤ 7) : MD l0 g 3 mX8_keep (cp w C A V h, nx) [.ref 0, .int (iI (d)), .int (iI (4)), .int (iI (k)), .int (iI (n))] 0 0 (some (.int (iI (0)))) (cp w (cH C (241 + 2 * d.toNat) 4 (I 21)) (va_up A (241 + 2 * d.toNat + 1) (cpB (F 26) (I 21).toNat 0 (fillA 0 (I 21).toNat 0 (A (241 + 2 * d.toNat + 1))))) (va_up V (241 + 2 * d.toNat) .null) h, nx) := by
  refine MD.of (by decide +kernel) (by simp [Value.category]) (tle rfl) (fun X b => ?_)
  change WW X g _ _ 0 0 0 [some (.ref 0), some (.int (iI (d))), some (.int (iI (4))), some (.int (iI (k))), some (.int (iI (n)))] [] _
  refine w_iload_n b dX8_keep_0 rfl ?_
  refine c_S1 b dX8_keep_1 lmX8_242 (k_X8_isShelf (by omega)) (tle rfl) (by omega) (by omega) (by omega) ?_
  refine z_ifb_ne (tgt := 9) b dX8_keep_4 (by decide) (fun c4 => ?_) (fun c4 => ?_)
  · refine w_iload_n b dX8_keep_9 rfl ?_
    refine w_tswI (tgt := 81) (off := 71) b dX8_keep_10 (by decide) (by decide) (by decide) (by decide) ?_
    refine w_aload_n b dX8_keep_81 rfl rfl ?_
    refine w_aload_n b dX8_keep_82 rfl rfl ?_
    refine q_get b dX8_keep_83 lfX8_46 (tlt rfl) ct_0 rfl ?_
    refine w_iload_n b dX8_keep_86 rfl ?_
    refine q_aald b dX8_keep_87 (tlt rfl) ct_240 (by omega) (by omega) ?_
    refine c_V1 b dX8_keep_88 lmX8_256 (cpS (tlt rfl) ct_0) (k_X8_keepMinutes hR (by omega)) (tle rfl) (by omega) (by omega) (by omega) ?_
    exact w_iret b dX8_keep_91 rfl (by omega) (by omega) ⟨iv_eq (by first | rfl | omega | ((try simp only [b2]); ((repeat' split) <;> (first | rfl | omega)))), rfl⟩
  · exfalso; omega
set_option maxRecDepth 20000 in
theorem k_X8_count {l0 : Launch} {g : Gw} {w nx : Nat} {h : Nat → va_E} {C : Nat → Nat → Int} {A : Nat → Int → Int} {V : Nat → Value} {I : Nat → Int} {F : Nat → Int → Int} {ca : Nat → Nat} {sa : Nat → Nat → Nat} {own : Nat → Nat} {x : Int} (hD : RDy h nx C V I F ca sa own) (hR : RCa w C A I F) (hx : inR x) : MD l0 g 3 mX8_count (cp w C A V h, nx) [.ref 0, .int (iI (x))] 0 0 (some (.int (iI (if x = 0 then I 2 else if x = 1 then I 21 else if x = 2 then sumA (fun i => sumA (fun r => b2 (¬ F 23 (40 * r + i) = F 22 (40 * r + i))) (I 21).toNat 0 0) w 0 0 else if x = 3 then C 234 5 else if x = 4 then I 1 else if x = 5 then sumA (fun r => F 26 r) (I 21).toNat 0 0 else -1)))) (cp w C A V h, nx) := by
  have hw1 := hR.w1
  have hw2 := hR.w2
  have ht1 := hR.t1
  have ht2 := hR.t2
  refine MD.of (by decide +kernel) (by simp [Value.category]) (tle rfl) (fun X b => ?_)
  change WW X g _ _ 0 0 0 [some (.ref 0), some (.int (iI (x)))] [] _
  refine w_iload_n b dX8_count_0 rfl ?_
  by_cases e1_0 : x = 0
  · refine w_tswI (tgt := 40) (off := 39) b dX8_count_1 (by rw [iI_toInt hx]; omega) (by rw [iI_toInt hx]; omega) (by rw [iI_toInt hx, e1_0]; rfl) (by decide) ?_
    refine w_aload_n b dX8_count_40 rfl rfl ?_
    refine q_get b dX8_count_41 lfX8_33 (tlt rfl) ct_0 rfl ?_
    refine c_V0 b dX8_count_44 lmX8_124 (cpS (tlt rfl) ct_230) (k_X0_chants hD) (tle rfl) (by omega) (by omega) (by omega) ?_
    exact w_iret b dX8_count_47 rfl (by omega) (by omega) ⟨iv_eq (by (repeat' split) <;> first | rfl | omega), rfl⟩
  by_cases e1_1 : x = 1
  · refine w_tswI (tgt := 48) (off := 47) b dX8_count_1 (by rw [iI_toInt hx]; omega) (by rw [iI_toInt hx]; omega) (by rw [iI_toInt hx, e1_1]; rfl) (by decide) ?_
    refine w_aload_n b dX8_count_48 rfl rfl ?_
    refine q_get b dX8_count_49 lfX8_24 (tlt rfl) ct_0 rfl ?_
    refine q_get b dX8_count_52 lfX8_130 (tlt rfl) ct_1 rfl ?_
    refine y_top ht1 ?_
    exact w_iret b dX8_count_55 rfl (by omega) (by omega) ⟨iv_eq (by (repeat' split) <;> first | rfl | omega), rfl⟩
  by_cases e1_2 : x = 2
  · refine w_tswI (tgt := 56) (off := 55) b dX8_count_1 (by rw [iI_toInt hx]; omega) (by rw [iI_toInt hx]; omega) (by rw [iI_toInt hx, e1_2]; rfl) (by decide) ?_
    refine w_aload_n b dX8_count_56 rfl rfl ?_
    refine q_get b dX8_count_57 lfX8_24 (tlt rfl) ct_0 rfl ?_
    refine c_V0 b dX8_count_60 lmX8_236 (cpS (tlt rfl) ct_1) (k_X1_faultsInAll hR) (tle rfl) (by omega) (by omega) (by omega) ?_
    exact w_iret b dX8_count_63 rfl (by omega) (by omega) ⟨iv_eq (by (repeat' split) <;> first | rfl | omega), rfl⟩
  by_cases e1_3 : x = 3
  · refine w_tswI (tgt := 64) (off := 63) b dX8_count_1 (by rw [iI_toInt hx]; omega) (by rw [iI_toInt hx]; omega) (by rw [iI_toInt hx, e1_3]; rfl) (by decide) ?_
    refine w_aload_n b dX8_count_64 rfl rfl ?_
    refine q_get b dX8_count_65 lfX8_40 (tlt rfl) ct_0 rfl ?_
    refine q_get b dX8_count_68 lfX8_220 (tlt rfl) ct_234 rfl ?_
    exact w_iret b dX8_count_71 rfl (by omega) (by omega) ⟨iv_eq (by (repeat' split) <;> first | rfl | omega), rfl⟩
  by_cases e1_4 : x = 4
  · refine w_tswI (tgt := 72) (off := 71) b dX8_count_1 (by rw [iI_toInt hx]; omega) (by rw [iI_toInt hx]; omega) (by rw [iI_toInt hx, e1_4]; rfl) (by decide) ?_
    refine w_aload_n b dX8_count_72 rfl rfl ?_
    refine q_get b dX8_count_73 lfX8_15 (tlt rfl) ct_0 rfl ?_
    refine y_top hw1.symm ?_
    exact w_iret b dX8_count_76 rfl (by omega) (by omega) ⟨iv_eq (by (repeat' split) <;> first | rfl | omega), rfl⟩
  by_cases e1_5 : x = 5
  · refine w_tswI (tgt := 77) (off := 76) b dX8_count_1 (by rw [iI_toInt hx]; omega) (by rw [iI_toInt hx]; omega) (by rw [iI_toInt hx, e1_5]; rfl) (by decide) ?_
    refine w_aload_n b dX8_count_77 rfl rfl ?_
    refine q_get b dX8_count_78 lfX8_24 (tlt rfl) ct_0 rfl ?_
    refine c_V0 b dX8_count_81 lmX8_239 (cpS (tlt rfl) ct_1) (k_X1_minutesInAll hR) (tle rfl) (by omega) (by omega) (by omega) ?_
    exact w_iret b dX8_count_84 rfl (by omega) (by omega) ⟨iv_eq (by (repeat' split) <;> first | rfl | omega), rfl⟩
  refine w_tswO (tgt := 85) b dX8_count_1 (by rw [iI_toInt hx]; omega) (by decide) ?_
  refine z_iconst b dX8_count_85 ?_
  exact w_iret b dX8_count_86 rfl (by omega) (by omega) ⟨iv_eq (by (repeat' split) <;> first | rfl | omega), rfl⟩
set_option maxRecDepth 20000 in
theorem k_X8_stepOn0 {l0 : Launch} {g : Gw} {w nx : Nat} {h : Nat → va_E} {C : Nat → Nat → Int} {A : Nat → Int → Int} {V : Nat → Value} {d : Int} (hd : inR d) (hb : ¬ (0 ≤ d ∧ d ≤ 7)) : MD l0 g 2 mX8_stepOn (cp w C A V h, nx) [.ref 0, .int (iI (d))] 0 0 (some .null) (cp w C A V h, nx) := by
  refine MD.of (by decide +kernel) (by simp [Value.category]) (tle rfl) (fun X b => ?_)
  change WW X g _ _ 0 0 0 [some (.ref 0), some (.int (iI (d)))] [] _
  refine w_iload_n b dX8_stepOn_0 rfl ?_
  refine c_S1 b dX8_stepOn_1 lmX8_242 (k_X8_isShelf (by omega)) (tle rfl) (by omega) (by omega) (by omega) ?_
  refine z_ifb_eq (tgt := 19) b dX8_stepOn_4 (by decide) (fun c4 => ?_) (fun c4 => ?_)
  · refine w_null b dX8_stepOn_19 ?_
    exact w_aret b dX8_stepOn_20 rfl (Or.inl ⟨_, rfl⟩) rfl (by omega) (by omega) ⟨rfl, rfl⟩
  · exfalso; omega
set_option maxRecDepth 20000 in
theorem k_X8_stepOn1 {l0 : Launch} {g : Gw} {w nx : Nat} {h : Nat → va_E} {C : Nat → Nat → Int} {A : Nat → Int → Int} {V : Nat → Value} {d : Int} {v : Value} (hd : 0 ≤ d ∧ d ≤ 7) (hv : V (241 + 2 * d.toNat) = v) (hi : isR v = true) : MD l0 g 2 mX8_stepOn (cp w C A V h, nx) [.ref 0, .int (iI (d))] 0 0 (some v) (cp w C A V h, nx) := by
  refine MD.of (by decide +kernel) (by simp [Value.category]) (tle rfl) (fun X b => ?_)
  change WW X g _ _ 0 0 0 [some (.ref 0), some (.int (iI (d)))] [] _
  refine w_iload_n b dX8_stepOn_0 rfl ?_
  refine c_S1 b dX8_stepOn_1 lmX8_242 (k_X8_isShelf (by omega)) (tle rfl) (by omega) (by omega) (by omega) ?_
  refine z_ifb_eq (tgt := 19) b dX8_stepOn_4 (by decide) (fun c4 => ?_) (fun c4 => ?_)
  · exfalso; omega
  · refine w_aload_n b dX8_stepOn_7 rfl rfl ?_
    refine q_get b dX8_stepOn_8 lfX8_46 (tlt rfl) ct_0 rfl ?_
    refine w_iload_n b dX8_stepOn_11 rfl ?_
    refine q_aald b dX8_stepOn_12 (tlt rfl) ct_240 (by omega) (by omega) ?_
    refine q_get b dX8_stepOn_13 lfX8_322 (by omega) (ct_shelf (by omega)) rfl ?_
    rw [hv]
    refine w_goto (tgt := 20) b dX8_stepOn_16 (by decide) ?_
    exact w_aret b dX8_stepOn_20 rfl (Or.inl ⟨_, rfl⟩) hi (by omega) (by omega) ⟨rfl, rfl⟩
set_option maxRecDepth 20000 in
theorem k_X8_whyNoStepOn {l0 : Launch} {g : Gw} {w nx : Nat} {h : Nat → va_E} {C : Nat → Nat → Int} {A : Nat → Int → Int} {V : Nat → Value} {d : Int} (hd : inR d) (hk : 0 ≤ d ∧ d ≤ 7 → inR (C (241 + 2 * d.toNat) 1)) : MD l0 g 2 mX8_whyNoStepOn (cp w C A V h, nx) [.ref 0, .int (iI (d))] 0 0 (some (.int (iI (if 0 ≤ d ∧ d ≤ 7 then (if C (241 + 2 * d.toNat) 1 = 0 then -11 else -12) else -1)))) (cp w C A V h, nx) := by
  refine MD.of (by decide +kernel) (by simp [Value.category]) (tle rfl) (fun X b => ?_)
  change WW X g _ _ 0 0 0 [some (.ref 0), some (.int (iI (d)))] [] _
  refine w_iload_n b dX8_whyNoStepOn_0 rfl ?_
  refine c_S1 b dX8_whyNoStepOn_1 lmX8_242 (k_X8_isShelf (by omega)) (tle rfl) (by omega) (by omega) (by omega) ?_
  refine z_ifb_ne (tgt := 9) b dX8_whyNoStepOn_4 (by decide) (fun c4 => ?_) (fun c4 => ?_)
  · refine w_aload_n b dX8_whyNoStepOn_9 rfl rfl ?_
    refine q_get b dX8_whyNoStepOn_10 lfX8_46 (tlt rfl) ct_0 rfl ?_
    refine w_iload_n b dX8_whyNoStepOn_13 rfl ?_
    refine q_aald b dX8_whyNoStepOn_14 (tlt rfl) ct_240 (by omega) (by omega) ?_
    refine q_get b dX8_whyNoStepOn_15 lfX8_286 (by omega) (ct_shelf (by omega)) rfl ?_
    have hd1 : 0 ≤ d ∧ d ≤ 7 := by omega
    refine z_if_ne (tgt := 26) b dX8_whyNoStepOn_18 (by decide) (hk hd1) (fun c18 => ?_) (fun c18 => ?_)
    · refine z_bipush b dX8_whyNoStepOn_26 (by decide) ?_
      exact w_iret b dX8_whyNoStepOn_28 rfl (by omega) (by omega) ⟨iv_eq (by first | rfl | omega | ((try simp only [b2]); ((repeat' split) <;> (first | rfl | omega)))), rfl⟩
    · refine z_bipush b dX8_whyNoStepOn_21 (by decide) ?_
      refine w_goto (tgt := 28) b dX8_whyNoStepOn_23 (by decide) ?_
      exact w_iret b dX8_whyNoStepOn_28 rfl (by omega) (by omega) ⟨iv_eq (by first | rfl | omega | ((try simp only [b2]); ((repeat' split) <;> (first | rfl | omega)))), rfl⟩
  · refine z_iconst b dX8_whyNoStepOn_7 ?_
    exact w_iret b dX8_whyNoStepOn_8 rfl (by omega) (by omega) ⟨iv_eq (by first | rfl | omega | ((try simp only [b2]); ((repeat' split) <;> (first | rfl | omega)))), rfl⟩
set_option maxRecDepth 20000 in
theorem k_X8_weight0 {l0 : Launch} {g : Gw} {w nx : Nat} {h : Nat → va_E} {C : Nat → Nat → Int} {A : Nat → Int → Int} {V : Nat → Value} {d : Int} (hd : inR d) (hk : 0 ≤ d ∧ d ≤ 7 → inR (C (241 + 2 * d.toNat) 1)) (hv : 0 ≤ d ∧ d ≤ 7 → V (241 + 2 * d.toNat) = .null) : MD l0 g 3 mX8_weight (cp w C A V h, nx) [.ref 0, .int (iI (d))] 0 0 (some (.int (iI (if 0 ≤ d ∧ d ≤ 7 then (if C (241 + 2 * d.toNat) 1 = 0 then -11 else -12) else -1)))) (cp w C A V h, nx) := by
  have hso : MD l0 g 2 mX8_stepOn (cp w C A V h, nx) [.ref 0, .int (iI d)] 0 0 (some .null) (cp w C A V h, nx) := by
    by_cases z : 0 ≤ d ∧ d ≤ 7
    · exact k_X8_stepOn1 z (hv z) rfl
    · exact k_X8_stepOn0 hd z
  refine MD.of (by decide +kernel) (by simp [Value.category]) (tle rfl) (fun X b => ?_)
  change WW X g _ _ 0 0 0 [some (.ref 0), some (.int (iI (d))), none] [] _
  refine w_aload_n b dX8_weight_0 rfl rfl ?_
  refine w_iload_n b dX8_weight_1 rfl ?_
  refine c_V1 b dX8_weight_2 lmX8_296 (cpS (tlt rfl) ct_0) (hso) (tle rfl) (by omega) (by omega) (by omega) ?_
  refine w_astore_n b dX8_weight_5 (tlt rfl) rfl rfl ?_
  refine w_aload_n b dX8_weight_6 rfl rfl ?_
  refine w_ifnonnull_n b dX8_weight_7 ?_
  refine w_aload_n b dX8_weight_10 rfl rfl ?_
  refine w_iload_n b dX8_weight_11 rfl ?_
  refine c_V1 b dX8_weight_12 lmX8_300 (cpS (tlt rfl) ct_0) (k_X8_whyNoStepOn hd hk) (tle rfl) (by omega) (by omega) (by omega) ?_
  refine w_goto (tgt := 22) b dX8_weight_15 (by decide) ?_
  exact w_iret b dX8_weight_22 rfl (by omega) (by omega) ⟨iv_eq (by first | rfl | omega | ((try simp only [b2]); ((repeat' split) <;> (first | rfl | omega)))), rfl⟩
set_option maxRecDepth 20000 in
theorem k_X8_weight1 {l0 : Launch} {g : Gw} {w nx : Nat} {h : Nat → va_E} {C : Nat → Nat → Int} {A : Nat → Int → Int} {V : Nat → Value} {d k c n : Int} {q : Nat} (hd : 0 ≤ d ∧ d ≤ 7) (hv : V (241 + 2 * d.toNat) = .ref q) (hs : ((cp w C A V h, nx) : Sg).1 q = .inr (5, [.int (iI k), .int (iI c), .int (iI n)])) (hk : 0 ≤ k ∧ k ≤ 5) : MD l0 g 3 mX8_weight (cp w C A V h, nx) [.ref 0, .int (iI (d))] 0 0 (some (.int (iI (wtF k n c)))) (cp w C A V h, nx) := by
  refine MD.of (by decide +kernel) (by simp [Value.category]) (tle rfl) (fun X b => ?_)
  change WW X g _ _ 0 0 0 [some (.ref 0), some (.int (iI (d))), none] [] _
  refine w_aload_n b dX8_weight_0 rfl rfl ?_
  refine w_iload_n b dX8_weight_1 rfl ?_
  refine c_V1 b dX8_weight_2 lmX8_296 (cpS (tlt rfl) ct_0) (k_X8_stepOn1 hd hv rfl) (tle rfl) (by omega) (by omega) (by omega) ?_
  refine w_astore_n b dX8_weight_5 (tlt rfl) rfl rfl ?_
  refine w_aload_n b dX8_weight_6 rfl rfl ?_
  refine w_ifnonnull_r (tgt := 18) b dX8_weight_7 (by decide) ?_
  refine w_aload_n b dX8_weight_18 rfl rfl ?_
  refine c_V0 b dX8_weight_19 lmX8_303 hs (k_X5_heft hs hk) (tle rfl) (by omega) (by omega) (by omega) ?_
  exact w_iret b dX8_weight_22 rfl (by omega) (by omega) ⟨iv_eq (by unfold wtF; rcases (show k = 0 ∨ k = 1 ∨ k = 2 ∨ k = 3 ∨ k = 4 ∨ k = 5 by omega) with rfl | rfl | rfl | rfl | rfl | rfl <;> simp <;> omega), rfl⟩
