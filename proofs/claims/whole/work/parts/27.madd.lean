/-! THE REFERENCE: add, addAll, stepOf (by p27.py) -/
/-- f with m values val from place a on -/
def exF (val : Int → Int) (a m : Int) (f : Int → Int) : Int → Int := fun j => if a ≤ j ∧ j < a + m then val (j - a) else f j
theorem exF_0 (val : Int → Int) (a : Int) (f : Int → Int) : exF val a 0 f = f := by
  funext j
  unfold exF
  rw [if_neg (by omega)]
theorem exF_lo {val : Int → Int} {a m : Int} {f : Int → Int} {j : Int} (h : j < a) : exF val a m f j = f j := by
  unfold exF
  rw [if_neg (by omega)]
theorem exF_s {val : Int → Int} {a i c : Int} {f : Int → Int} (hi : 0 ≤ i) (hc : val i = c) : fu (exF val a i f) (a + i) c = exF val a (i + 1) f := by
  subst hc
  funext j
  by_cases h : j = a + i
  · subst h
    rw [fu_s]
    unfold exF
    rw [if_pos (by omega)]
    congr 1
    omega
  · rw [fu_n h]
    unfold exF
    by_cases h2 : a ≤ j ∧ j < a + i
    · rw [if_pos h2, if_pos (by omega)]
    · rw [if_neg h2, if_neg (by omega)]
theorem exF_app {val v2 : Int → Int} {a m n : Int} {f : Int → Int} (hm : 0 ≤ m) (hn : 0 ≤ n) (h : ∀ j, 0 ≤ j → j < n → v2 j = val (m + j)) : exF v2 (a + m) n (exF val a m f) = exF val a (m + n) f := by
  funext j
  unfold exF
  by_cases h1 : a + m ≤ j ∧ j < a + m + n
  · rw [if_pos h1, if_pos (by omega), h (j - (a + m)) (by omega) (by omega)]
    congr 1
    omega
  · rw [if_neg h1]
    by_cases h2 : a ≤ j ∧ j < a + m
    · rw [if_pos h2, if_pos (by omega)]
    · rw [if_neg h2, if_neg (by omega)]
theorem exF_cong {v1 v2 : Int → Int} {a m : Int} {f : Int → Int} (h : ∀ j, 0 ≤ j → j < m → v1 j = v2 j) : exF v1 a m f = exF v2 a m f := by
  funext j
  unfold exF
  split
  · exact h _ (by omega) (by omega)
  · rfl
/-- the knots so far are colours -/
def col7 (f : Int → Int) : Prop := ∀ j, 0 ≤ j → j < 1000 → 0 ≤ f j ∧ f j ≤ 7
theorem col7_fu {f : Int → Int} {a c : Int} (h : col7 f) (hc : 0 ≤ c ∧ c ≤ 7) : col7 (fu f a c) := by
  intro j h1 h2
  by_cases e : j = a
  · rw [e, fu_s]; exact hc
  · rw [fu_n e]; exact h j h1 h2
theorem k_add1 {l0 : Launch} {g : Gw} {mo nx : Nat} {h0 : Nat → va_E} {I : Nat → Int} {F : Nat → Int → Int} {a c : Int} {f : Int → Int} (ha : 0 ≤ a ∧ a < 1000) : MD l0 g 0 mX9_add (mp mo h0 (va_up I 13 a) (va_up F 7 f), nx) [.ref mo, .int (iI c)] 0 0 (some (.int (iI 1))) (mp mo h0 (va_up I 13 (a + 1)) (va_up F 7 (fu f a c)), nx) := by
  have h := k_X9_add (l0 := l0) (g := g) (mo := mo) (nx := nx) (h0 := h0) (I := va_up I 13 a) (F := va_up F 7 f) (c := c) (by rw [va_up_self]; omega)
  rw [va_up_self, va_up_self, b2_t (by omega), if_neg (by omega), va_up_twice, va_up_twice] at h
  exact h
theorem k_add0 {l0 : Launch} {g : Gw} {mo nx : Nat} {h0 : Nat → va_E} {I : Nat → Int} {F : Nat → Int → Int} {a c : Int} {f : Int → Int} (ha : a = 1000) : MD l0 g 0 mX9_add (mp mo h0 (va_up I 13 a) (va_up F 7 f), nx) [.ref mo, .int (iI c)] 0 0 (some (.int (iI 0))) (mp mo h0 (va_up I 13 a) (va_up F 7 f), nx) := by
  have h := k_X9_add (l0 := l0) (g := g) (mo := mo) (nx := nx) (h0 := h0) (I := va_up I 13 a) (F := va_up F 7 f) (c := c) (by rw [va_up_self]; omega)
  rw [va_up_self, va_up_self, b2_f (fun z => z ha), if_pos ha] at h
  exact h
set_option maxRecDepth 20000 in
theorem l_X9_addAll {X : Cx} {l0 : Launch} {g : Gw} {Z : State → Prop} {mo nx : Nat} {h0 : Nat → va_E} {I : Nat → Int} {F : Nat → Int → Int} (b : BX X l0 g mX9_addAll 1 0 0) {fr to bk a : Int} {f : Int → Int} (hf : 0 ≤ fr ∧ fr ≤ to) (ht : to ≤ a) (ha : 0 ≤ a ∧ a + (to - fr) ≤ 1000) (hbk : bk = 0 ∨ bk = 1) : ∀ (n : Nat) (i : Int), (i + n = to - fr) → (0 ≤ i) → WW X g mX9_addAll.2.2.1 Z 0 0 53 [some (.ref mo), some (.int (iI (fr))), some (.int (iI (to))), some (.int (iI (bk))), some (.int (iI (1))), none] [] (mp mo h0 (va_up I 13 (a + (to - fr))) (va_up F 7 (exF (fun k => if bk = 0 then f (fr + k) else f (to - 1 - k)) a (to - fr) f)), nx) → WW X g mX9_addAll.2.2.1 Z 0 0 6 [some (.ref mo), some (.int (iI (fr))), some (.int (iI (to))), some (.int (iI (bk))), some (.int (iI (1))), some (.int (iI (i)))] [] (mp mo h0 (va_up I 13 (a + i)) (va_up F 7 (exF (fun k => if bk = 0 then f (fr + k) else f (to - 1 - k)) a i f)), nx) := by
  intro n
  induction n with
  | zero =>
    intro i h1 h2 kk
    refine w_iload b dX9_addAll_6 rfl ?_
    refine w_iload_n b dX9_addAll_8 rfl ?_
    refine w_iload_n b dX9_addAll_9 rfl ?_
    refine z_isub b dX9_addAll_10 ?_
    refine z_icmp_ge (tgt := 53) b dX9_addAll_11 (by decide) (by omega) (fun c11 => ?_) (fun c11 => ?_)
    · refine ww_forget 5 ?_
      exact ww_cast rfl rfl (by rw [show i = to - fr by omega]) kk
    · exfalso; omega
  | succ n ih =>
    intro i h1 h2 kk
    refine w_iload b dX9_addAll_6 rfl ?_
    refine w_iload_n b dX9_addAll_8 rfl ?_
    refine w_iload_n b dX9_addAll_9 rfl ?_
    refine z_isub b dX9_addAll_10 ?_
    refine z_icmp_ge (tgt := 53) b dX9_addAll_11 (by decide) (by omega) (fun c11 => ?_) (fun c11 => ?_)
    · exfalso; omega
    · refine w_iload b dX9_addAll_14 rfl ?_
      refine z_if_eq (tgt := 53) b dX9_addAll_16 (by decide) (by omega) (fun c16 => ?_) (fun c16 => ?_)
      · exfalso; omega
      · refine w_aload_n b dX9_addAll_19 rfl rfl ?_
        refine w_aload_n b dX9_addAll_20 rfl rfl ?_
        refine m_get b dX9_addAll_21 lfX9_29 rfl ?_
        refine w_iload_n b dX9_addAll_24 rfl ?_
        refine z_if_eq (tgt := 37) b dX9_addAll_25 (by decide) (by omega) (fun c25 => ?_) (fun c25 => ?_)
        · refine w_iload_n b dX9_addAll_37 rfl ?_
          refine w_iload b dX9_addAll_38 rfl ?_
          refine z_iadd b dX9_addAll_40 ?_
          refine m_ald (v := f (fr + i)) b dX9_addAll_41 rfl (by omega) (by rw [va_up_self]; exact exF_lo (by omega)) ?_
          refine c_V1 b dX9_addAll_42 lmX9_151 (mp_obj _ _ _ _) (k_add1 (by omega)) (tle rfl) (by omega) (by omega) (by omega) ?_
          refine ww_cast (σ' := (mp mo h0 (va_up I 13 (a + (i + 1))) (va_up F 7 (exF (fun k => if bk = 0 then f (fr + k) else f (to - 1 - k)) a (i + 1) f)), nx)) rfl rfl (by rw [exF_s h2 (by show (if bk = 0 then _ else _) = _; rw [if_pos c25]), show a + i + 1 = a + (i + 1) by omega]) ?_
          refine w_istore b dX9_addAll_45 (tlt rfl) rfl ?_
          refine z_iinc b dX9_addAll_47 rfl rfl rfl ?_
          refine w_goto (tgt := 6) b dX9_addAll_50 (by decide) ?_
          exact ih (i + 1) (by omega) (by omega) kk
        · refine w_iload_n b dX9_addAll_28 rfl ?_
          refine z_iconst b dX9_addAll_29 ?_
          refine z_isub b dX9_addAll_30 ?_
          refine w_iload b dX9_addAll_31 rfl ?_
          refine z_isub b dX9_addAll_33 ?_
          refine w_goto (tgt := 41) b dX9_addAll_34 (by decide) ?_
          refine m_ald (v := f (to - 1 - i)) b dX9_addAll_41 rfl (by omega) (by rw [va_up_self]; exact exF_lo (by omega)) ?_
          refine c_V1 b dX9_addAll_42 lmX9_151 (mp_obj _ _ _ _) (k_add1 (by omega)) (tle rfl) (by omega) (by omega) (by omega) ?_
          refine ww_cast (σ' := (mp mo h0 (va_up I 13 (a + (i + 1))) (va_up F 7 (exF (fun k => if bk = 0 then f (fr + k) else f (to - 1 - k)) a (i + 1) f)), nx)) rfl rfl (by rw [exF_s h2 (by show (if bk = 0 then _ else _) = _; rw [if_neg c25]), show a + i + 1 = a + (i + 1) by omega]) ?_
          refine w_istore b dX9_addAll_45 (tlt rfl) rfl ?_
          refine z_iinc b dX9_addAll_47 rfl rfl rfl ?_
          refine w_goto (tgt := 6) b dX9_addAll_50 (by decide) ?_
          exact ih (i + 1) (by omega) (by omega) kk
set_option maxRecDepth 20000 in
theorem k_addAll1 {l0 : Launch} {g : Gw} {mo nx : Nat} {h0 : Nat → va_E} {I : Nat → Int} {F : Nat → Int → Int} {fr to bk a : Int} {f : Int → Int} (hf : 0 ≤ fr ∧ fr ≤ to) (ht : to ≤ a) (ha : 0 ≤ a ∧ a + (to - fr) ≤ 1000) (hbk : bk = 0 ∨ bk = 1) : MD l0 g 1 mX9_addAll (mp mo h0 (va_up I 13 (a)) (va_up F 7 (f)), nx) [.ref mo, .int (iI (fr)), .int (iI (to)), .int (iI (bk))] 0 0 (some (.int (iI 1))) (mp mo h0 (va_up I 13 (a + (to - fr))) (va_up F 7 (exF (fun k => if bk = 0 then f (fr + k) else f (to - 1 - k)) a (to - fr) f)), nx) := by
  refine MD.of (by decide +kernel) (by simp [Value.category]) (tle rfl) (fun X b => ?_)
  change WW X g _ _ 0 0 0 [some (.ref mo), some (.int (iI (fr))), some (.int (iI (to))), some (.int (iI (bk))), none, none] [] _
  refine z_iconst b dX9_addAll_0 ?_
  refine w_istore b dX9_addAll_1 (tlt rfl) rfl ?_
  refine z_iconst b dX9_addAll_3 ?_
  refine w_istore b dX9_addAll_4 (tlt rfl) rfl ?_
  refine ww_cast (σ' := (mp mo h0 (va_up I 13 (a + 0)) (va_up F 7 (exF (fun k => if bk = 0 then f (fr + k) else f (to - 1 - k)) a 0 f)), nx)) rfl rfl (by rw [exF_0, Int.add_zero]) ?_
  refine l_X9_addAll b hf ht ha hbk (to - fr).toNat 0 (by omega) (by omega) ?_
  refine w_iload b dX9_addAll_53 rfl ?_
  exact z_zret b dX9_addAll_55 rfl (by omega) (by omega) (by omega) ⟨iv_eq (by first | rfl | omega | ((try simp only [b2]); ((repeat' split) <;> (first | rfl | omega)))), rfl⟩
set_option maxRecDepth 20000 in
theorem l_X9_addAll0 {X : Cx} {l0 : Launch} {g : Gw} {Q : Option Value → Sg → Prop} {mo nx : Nat} {h0 : Nat → va_E} {I : Nat → Int} {F : Nat → Int → Int} (b : BX X l0 g mX9_addAll 1 0 0) {fr to bk : Int} (hf : 0 ≤ fr ∧ fr ≤ to) (ht : to ≤ 1000) (hbk : bk = 0 ∨ bk = 1) : ∀ (n : Nat) (i a : Int) (f : Int → Int), (a + n = 1000) → (0 ≤ i ∧ 0 ≤ a) → (a + (to - fr - i) > 1000) → (col7 f) → (∀ f', col7 f' → Q (some (.int (iI 0))) (mp mo h0 (va_up I 13 (1000)) (va_up F 7 (f')), nx)) → WW X g mX9_addAll.2.2.1 (ZQ X g Q 0 0) 0 0 6 [some (.ref mo), some (.int (iI (fr))), some (.int (iI (to))), some (.int (iI (bk))), some (.int (iI (1))), some (.int (iI (i)))] [] (mp mo h0 (va_up I 13 (a)) (va_up F 7 (f)), nx) := by
  intro n
  induction n with
  | zero =>
    intro i a f h1 h2 h3 hc7 hq
    refine w_iload b dX9_addAll_6 rfl ?_
    refine w_iload_n b dX9_addAll_8 rfl ?_
    refine w_iload_n b dX9_addAll_9 rfl ?_
    refine z_isub b dX9_addAll_10 ?_
    refine z_icmp_ge (tgt := 53) b dX9_addAll_11 (by decide) (by omega) (fun c11 => ?_) (fun c11 => ?_)
    · exfalso; omega
    · refine w_iload b dX9_addAll_14 rfl ?_
      refine z_if_eq (tgt := 53) b dX9_addAll_16 (by decide) (by omega) (fun c16 => ?_) (fun c16 => ?_)
      · exfalso; omega
      · refine w_aload_n b dX9_addAll_19 rfl rfl ?_
        refine w_aload_n b dX9_addAll_20 rfl rfl ?_
        refine m_get b dX9_addAll_21 lfX9_29 rfl ?_
        refine w_iload_n b dX9_addAll_24 rfl ?_
        refine z_if_eq (tgt := 37) b dX9_addAll_25 (by decide) (by omega) (fun c25 => ?_) (fun c25 => ?_)
        · refine w_iload_n b dX9_addAll_37 rfl ?_
          refine w_iload b dX9_addAll_38 rfl ?_
          refine z_iadd b dX9_addAll_40 ?_
          refine m_ald (v := f (fr + i)) b dX9_addAll_41 rfl (by omega) rfl ?_
          refine c_V1 b dX9_addAll_42 lmX9_151 (mp_obj _ _ _ _) (k_add0 (by omega)) (tle rfl) (by omega) (by omega) (by omega) ?_
          refine w_istore b dX9_addAll_45 (tlt rfl) rfl ?_
          refine z_iinc b dX9_addAll_47 rfl rfl rfl ?_
          refine w_goto (tgt := 6) b dX9_addAll_50 (by decide) ?_
          refine w_iload b dX9_addAll_6 rfl ?_
          refine w_iload_n b dX9_addAll_8 rfl ?_
          refine w_iload_n b dX9_addAll_9 rfl ?_
          refine z_isub b dX9_addAll_10 ?_
          refine z_icmp_ge (tgt := 53) b dX9_addAll_11 (by decide) (by omega) (fun c11 => ?_) (fun c11 => ?_)
          · refine w_iload b dX9_addAll_53 rfl ?_
            exact z_zret b dX9_addAll_55 rfl (by omega) (by omega) (by omega) ((show a = 1000 by omega) ▸ hq f hc7)
          · refine w_iload b dX9_addAll_14 rfl ?_
            refine z_if_eq (tgt := 53) b dX9_addAll_16 (by decide) (by omega) (fun c16 => ?_) (fun c16 => ?_)
            · refine w_iload b dX9_addAll_53 rfl ?_
              exact z_zret b dX9_addAll_55 rfl (by omega) (by omega) (by omega) ((show a = 1000 by omega) ▸ hq f hc7)
            · exfalso; omega
        · refine w_iload_n b dX9_addAll_28 rfl ?_
          refine z_iconst b dX9_addAll_29 ?_
          refine z_isub b dX9_addAll_30 ?_
          refine w_iload b dX9_addAll_31 rfl ?_
          refine z_isub b dX9_addAll_33 ?_
          refine w_goto (tgt := 41) b dX9_addAll_34 (by decide) ?_
          refine m_ald (v := f (to - 1 - i)) b dX9_addAll_41 rfl (by omega) rfl ?_
          refine c_V1 b dX9_addAll_42 lmX9_151 (mp_obj _ _ _ _) (k_add0 (by omega)) (tle rfl) (by omega) (by omega) (by omega) ?_
          refine w_istore b dX9_addAll_45 (tlt rfl) rfl ?_
          refine z_iinc b dX9_addAll_47 rfl rfl rfl ?_
          refine w_goto (tgt := 6) b dX9_addAll_50 (by decide) ?_
          refine w_iload b dX9_addAll_6 rfl ?_
          refine w_iload_n b dX9_addAll_8 rfl ?_
          refine w_iload_n b dX9_addAll_9 rfl ?_
          refine z_isub b dX9_addAll_10 ?_
          refine z_icmp_ge (tgt := 53) b dX9_addAll_11 (by decide) (by omega) (fun c11 => ?_) (fun c11 => ?_)
          · refine w_iload b dX9_addAll_53 rfl ?_
            exact z_zret b dX9_addAll_55 rfl (by omega) (by omega) (by omega) ((show a = 1000 by omega) ▸ hq f hc7)
          · refine w_iload b dX9_addAll_14 rfl ?_
            refine z_if_eq (tgt := 53) b dX9_addAll_16 (by decide) (by omega) (fun c16 => ?_) (fun c16 => ?_)
            · refine w_iload b dX9_addAll_53 rfl ?_
              exact z_zret b dX9_addAll_55 rfl (by omega) (by omega) (by omega) ((show a = 1000 by omega) ▸ hq f hc7)
            · exfalso; omega
  | succ n ih =>
    intro i a f h1 h2 h3 hc7 hq
    refine w_iload b dX9_addAll_6 rfl ?_
    refine w_iload_n b dX9_addAll_8 rfl ?_
    refine w_iload_n b dX9_addAll_9 rfl ?_
    refine z_isub b dX9_addAll_10 ?_
    refine z_icmp_ge (tgt := 53) b dX9_addAll_11 (by decide) (by omega) (fun c11 => ?_) (fun c11 => ?_)
    · exfalso; omega
    · refine w_iload b dX9_addAll_14 rfl ?_
      refine z_if_eq (tgt := 53) b dX9_addAll_16 (by decide) (by omega) (fun c16 => ?_) (fun c16 => ?_)
      · exfalso; omega
      · refine w_aload_n b dX9_addAll_19 rfl rfl ?_
        refine w_aload_n b dX9_addAll_20 rfl rfl ?_
        refine m_get b dX9_addAll_21 lfX9_29 rfl ?_
        refine w_iload_n b dX9_addAll_24 rfl ?_
        refine z_if_eq (tgt := 37) b dX9_addAll_25 (by decide) (by omega) (fun c25 => ?_) (fun c25 => ?_)
        · refine w_iload_n b dX9_addAll_37 rfl ?_
          refine w_iload b dX9_addAll_38 rfl ?_
          refine z_iadd b dX9_addAll_40 ?_
          refine m_ald (v := f (fr + i)) b dX9_addAll_41 rfl (by omega) rfl ?_
          refine c_V1 b dX9_addAll_42 lmX9_151 (mp_obj _ _ _ _) (k_add1 (by omega)) (tle rfl) (by omega) (by omega) (by omega) ?_
          refine w_istore b dX9_addAll_45 (tlt rfl) rfl ?_
          refine z_iinc b dX9_addAll_47 rfl rfl rfl ?_
          refine w_goto (tgt := 6) b dX9_addAll_50 (by decide) ?_
          exact ih (i + 1) (a + 1) _ (by omega) (by omega) (by omega) (col7_fu hc7 (hc7 _ (by omega) (by omega))) hq
        · refine w_iload_n b dX9_addAll_28 rfl ?_
          refine z_iconst b dX9_addAll_29 ?_
          refine z_isub b dX9_addAll_30 ?_
          refine w_iload b dX9_addAll_31 rfl ?_
          refine z_isub b dX9_addAll_33 ?_
          refine w_goto (tgt := 41) b dX9_addAll_34 (by decide) ?_
          refine m_ald (v := f (to - 1 - i)) b dX9_addAll_41 rfl (by omega) rfl ?_
          refine c_V1 b dX9_addAll_42 lmX9_151 (mp_obj _ _ _ _) (k_add1 (by omega)) (tle rfl) (by omega) (by omega) (by omega) ?_
          refine w_istore b dX9_addAll_45 (tlt rfl) rfl ?_
          refine z_iinc b dX9_addAll_47 rfl rfl rfl ?_
          refine w_goto (tgt := 6) b dX9_addAll_50 (by decide) ?_
          exact ih (i + 1) (a + 1) _ (by omega) (by omega) (by omega) (col7_fu hc7 (hc7 _ (by omega) (by omega))) hq
theorem k_addAll0 {l0 : Launch} {g : Gw} {mo nx : Nat} {h0 : Nat → va_E} {I : Nat → Int} {F : Nat → Int → Int} {fr to bk a : Int} {f : Int → Int} (hf : 0 ≤ fr ∧ fr ≤ to) (ht : to ≤ 1000) (hbk : bk = 0 ∨ bk = 1) (ha : 0 ≤ a ∧ a ≤ 1000) (h3 : a + (to - fr) > 1000) (hc7 : col7 f) : MM l0 g 1 mX9_addAll (mp mo h0 (va_up I 13 a) (va_up F 7 f), nx) [.ref mo, .int (iI fr), .int (iI to), .int (iI bk)] 0 0 (fun r σ' => r = some (.int (iI 0)) ∧ ∃ f', col7 f' ∧ σ' = (mp mo h0 (va_up I 13 1000) (va_up F 7 f'), nx)) := by
  refine MM.of (by decide +kernel) (by simp [Value.category]) (tle rfl) (fun X b => ?_)
  change WW X g _ _ 0 0 0 [some (.ref mo), some (.int (iI fr)), some (.int (iI to)), some (.int (iI bk)), none, none] [] _
  refine z_iconst b dX9_addAll_0 ?_
  refine w_istore b dX9_addAll_1 (tlt rfl) rfl ?_
  refine z_iconst b dX9_addAll_3 ?_
  refine w_istore b dX9_addAll_4 (tlt rfl) rfl ?_
  exact l_X9_addAll0 b hf ht hbk (1000 - a).toNat 0 a f (by omega) (by omega) (by omega) hc7 (fun f' h => ⟨rfl, f', h, rfl⟩)
