/-! THE CLASS: rivals, sets (by p79.py) -/
set_option maxRecDepth 20000 in
theorem l_X6_linkBranch {X : Cx} {l0 : Launch} {g : Gw} {Z : State → Prop} {w nx : Nat} {h : Nat → va_E} {C : Nat → Nat → Int} {A : Nat → Int → Int} {V : Nat → Value} (b : BX X l0 g mX6_linkBranch 2 0 0) {s r e x y : Int} (hs : 0 ≤ s ∧ s < 64) (hr : 0 ≤ r ∧ r < 6) (he : 0 ≤ e ∧ e < 64) (hx : 0 ≤ x ∧ x ≤ 128) (h30 : ∀ j, 0 ≤ j → j < 8 → 0 ≤ A 235 j ∧ A 235 j < 2 ^ 8) : ∀ (n : Nat) (v : Int) (p : SP), (v + n = 6) → (0 ≤ v) → (SB p) → WW X g mX6_linkBranch.2.2.1 Z 0 0 76 [some (.ref 234), some (.int (iI (s))), some (.int (iI (r))), some (.int (iI (e))), some (.int (iI (x))), some (.int (iI (y))), none] [] (cp w C (rvS A (lbA (A 235) s r e x y n v p)) V h, nx) → WW X g mX6_linkBranch.2.2.1 Z 0 0 37 [some (.ref 234), some (.int (iI (s))), some (.int (iI (r))), some (.int (iI (e))), some (.int (iI (x))), some (.int (iI (y))), some (.int (iI (v)))] [] (cp w C (rvS A p) V h, nx) := by
  intro n
  induction n with
  | zero =>
    intro v p h1 h2 hB kk
    refine w_iload b dX6_linkBranch_37 rfl ?_
    refine z_bipush b dX6_linkBranch_39 (by decide) ?_
    refine z_icmp_ge (tgt := 76) b dX6_linkBranch_41 (by decide) (by omega) (fun c41 => ?_) (fun c41 => ?_)
    · refine ww_forget 6 ?_
      exact kk
    · exfalso; omega
  | succ n ih =>
    intro v p h1 h2 hB kk
    refine w_iload b dX6_linkBranch_37 rfl ?_
    refine z_bipush b dX6_linkBranch_39 (by decide) ?_
    refine z_icmp_ge (tgt := 76) b dX6_linkBranch_41 (by decide) (by omega) (fun c41 => ?_) (fun c41 => ?_)
    · exfalso; omega
    · have hz := zn_rng (b := 2 ^ v.toNat) he.1
      have hp := pow_v (v := v) (by omega)
      have hb := hB s hs.1 hs.2
      have ha := apF_rng (A 235 r) (A 235 v)
      refine w_iload_n b dX6_linkBranch_44 rfl ?_
      refine z_iconst b dX6_linkBranch_45 ?_
      refine w_iload b dX6_linkBranch_46 rfl ?_
      refine z_ishl1 b dX6_linkBranch_48 (by omega) ?_
      refine z_iand b dX6_linkBranch_49 (by omega) ?_
      refine z_if_eq (tgt := 70) b dX6_linkBranch_50 (by decide) (by omega) (fun c50 => ?_) (fun c50 => ?_)
      · have e1 : lbA (A 235) s r e x y (n + 1) v p = lbA (A 235) s r e x y n (v + 1) (p) := by
          conv => lhs; unfold lbA
          rw [if_pos c50]
        rw [e1] at kk
        refine z_iinc b dX6_linkBranch_70 rfl rfl rfl ?_
        refine w_goto (tgt := 37) b dX6_linkBranch_73 (by decide) ?_
        exact ih (v + 1) p (by omega) (by omega) hB kk
      · have e1 : lbA (A 235) s r e x y (n + 1) v p = lbA (A 235) s r e x y n (v + 1) (adT s (x + (apF (A 235 r) (A 235 v))) y p) := by
          conv => lhs; unfold lbA
          rw [if_neg c50]
        rw [e1] at kk
        refine w_aload_n b dX6_linkBranch_53 rfl rfl ?_
        refine w_iload_n b dX6_linkBranch_54 rfl ?_
        refine w_iload b dX6_linkBranch_55 rfl ?_
        refine w_aload_n b dX6_linkBranch_57 rfl rfl ?_
        refine w_iload_n b dX6_linkBranch_58 rfl ?_
        refine w_iload b dX6_linkBranch_59 rfl ?_
        refine c_V2 (w := .int (iI (apF (A 235 r) (A 235 v)))) b dX6_linkBranch_61 lmX6_46 (cpS (tlt rfl) ct_234) (k_X6_apart (A := rvS A p) (by omega) (by omega) h30) (tle rfl) (by omega) (by omega) (by omega) ?_
        refine z_iadd b dX6_linkBranch_64 ?_
        refine w_iload b dX6_linkBranch_65 rfl ?_
        refine c_V3v b dX6_linkBranch_67 lmX6_69 (cpS (tlt rfl) ct_234) (k_X6_addTrees hs (by omega) hb) (tle rfl) (by omega) (by omega) (by omega) ?_
        refine z_iinc b dX6_linkBranch_70 rfl rfl rfl ?_
        refine w_goto (tgt := 37) b dX6_linkBranch_73 (by decide) ?_
        exact ih (v + 1) _ (by omega) (by omega) (SB_ad hB hs (by omega)) kk
set_option maxRecDepth 20000 in
theorem k_X6_linkBranch {l0 : Launch} {g : Gw} {w nx : Nat} {h : Nat → va_E} {C : Nat → Nat → Int} {A : Nat → Int → Int} {V : Nat → Value} {s r e : Int} {p : SP} (hs : 0 ≤ s ∧ s < 64) (hr : 0 ≤ r ∧ r < 6) (he : 0 ≤ e ∧ e ≤ s) (hB : SB p) (h30 : ∀ j, 0 ≤ j → j < 8 → 0 ≤ A 235 j ∧ A 235 j < 2 ^ 8) : MD l0 g 2 mX6_linkBranch (cp w C (rvS A p) V h, nx) [.ref 234, .int (iI (s)), .int (iI (r)), .int (iI (e))] 0 0 (none) (cp w C (rvS A (lbF (A 235) s r e p)) V h, nx) := by
  have hb1 := hB e (by omega) (by omega)
  have hb2 := hB (s - e) (by omega) (by omega)
  refine MD.of (by decide +kernel) (by simp [Value.category]) (tle rfl) (fun X b => ?_)
  change WW X g _ _ 0 0 0 [some (.ref 234), some (.int (iI (s))), some (.int (iI (r))), some (.int (iI (e))), none, none, none] [] _
  refine w_aload_n b dX6_linkBranch_0 rfl rfl ?_
  refine q_get b dX6_linkBranch_1 lfX6_18 (tlt rfl) ct_234 rfl ?_
  refine w_iload_n b dX6_linkBranch_4 rfl ?_
  refine q_iald b dX6_linkBranch_5 (tlt rfl) ct_237 (by omega) ?_
  refine y_top (y := p.1 e) rfl ?_
  refine w_aload_n b dX6_linkBranch_6 rfl rfl ?_
  refine q_get b dX6_linkBranch_7 lfX6_18 (tlt rfl) ct_234 rfl ?_
  refine w_iload_n b dX6_linkBranch_10 rfl ?_
  refine w_iload_n b dX6_linkBranch_11 rfl ?_
  refine z_isub b dX6_linkBranch_12 ?_
  refine q_iald b dX6_linkBranch_13 (tlt rfl) ct_237 (by omega) ?_
  refine y_top (y := p.1 (s - e)) rfl ?_
  refine z_iadd b dX6_linkBranch_14 ?_
  refine w_istore b dX6_linkBranch_15 (tlt rfl) rfl ?_
  refine w_aload_n b dX6_linkBranch_17 rfl rfl ?_
  refine q_get b dX6_linkBranch_18 lfX6_21 (tlt rfl) ct_234 rfl ?_
  refine w_iload_n b dX6_linkBranch_21 rfl ?_
  refine q_iald b dX6_linkBranch_22 (tlt rfl) ct_238 (by omega) ?_
  refine y_top (y := p.2 e) rfl ?_
  refine w_aload_n b dX6_linkBranch_23 rfl rfl ?_
  refine q_get b dX6_linkBranch_24 lfX6_21 (tlt rfl) ct_234 rfl ?_
  refine w_iload_n b dX6_linkBranch_27 rfl ?_
  refine w_iload_n b dX6_linkBranch_28 rfl ?_
  refine z_isub b dX6_linkBranch_29 ?_
  refine q_iald b dX6_linkBranch_30 (tlt rfl) ct_238 (by omega) ?_
  refine y_top (y := p.2 (s - e)) rfl ?_
  refine z_imul b dX6_linkBranch_31 ?_
  refine w_istore b dX6_linkBranch_32 (tlt rfl) rfl ?_
  refine z_iconst b dX6_linkBranch_34 ?_
  refine w_istore b dX6_linkBranch_35 (tlt rfl) rfl ?_
  refine l_X6_linkBranch b hs hr (by omega) (by omega) h30 6 0 p (by omega) (by omega) hB ?_
  exact w_vret b dX6_linkBranch_76 rfl (by omega) (by omega) ⟨rfl, rfl⟩
set_option maxRecDepth 20000 in
theorem l_X6_splitSet {X : Cx} {l0 : Launch} {g : Gw} {Z : State → Prop} {w nx : Nat} {h : Nat → va_E} {C : Nat → Nat → Int} {A : Nat → Int → Int} {V : Nat → Value} (b : BX X l0 g mX6_splitSet 3 0 0) {s r t x : Int} (hs : 0 ≤ s ∧ s < 64) (hr : 0 ≤ r ∧ r < 6) (ht : 0 ≤ t ∧ t ≤ s) (hx : 0 ≤ x ∧ x < 64) (h30 : ∀ j, 0 ≤ j → j < 8 → 0 ≤ A 235 j ∧ A 235 j < 2 ^ 8) : ∀ (n : Nat) (e : Int) (p : SP), (e + n = t + 1) → (0 ≤ e) → (SB p) → WW X g mX6_splitSet.2.2.1 Z 0 0 70 [some (.ref 234), some (.int (iI (s))), some (.int (iI (r))), some (.int (iI (t))), some (.int (iI (x))), none] [] (cp w C (rvS A (spA (A 235) s r t x n e p)) V h, nx) → WW X g mX6_splitSet.2.2.1 Z 0 0 33 [some (.ref 234), some (.int (iI (s))), some (.int (iI (r))), some (.int (iI (t))), some (.int (iI (x))), some (.int (iI (e)))] [] (cp w C (rvS A p) V h, nx) := by
  intro n
  induction n with
  | zero =>
    intro e p h1 h2 hB kk
    refine w_iload b dX6_splitSet_33 rfl ?_
    refine w_iload_n b dX6_splitSet_35 rfl ?_
    refine z_icmp_gt (tgt := 70) b dX6_splitSet_36 (by decide) (by omega) (fun c36 => ?_) (fun c36 => ?_)
    · refine ww_forget 5 ?_
      exact kk
    · exfalso; omega
  | succ n ih =>
    intro e p h1 h2 hB kk
    refine w_iload b dX6_splitSet_33 rfl ?_
    refine w_iload_n b dX6_splitSet_35 rfl ?_
    refine z_icmp_gt (tgt := 70) b dX6_splitSet_36 (by decide) (by omega) (fun c36 => ?_) (fun c36 => ?_)
    · exfalso; omega
    · have hz := zn_rng (b := t) h2
      have hz2 := zn_rng (b := x) h2
      refine w_iload b dX6_splitSet_39 rfl ?_
      refine w_iload_n b dX6_splitSet_41 rfl ?_
      refine z_iand b dX6_splitSet_42 (by omega) ?_
      refine w_iload b dX6_splitSet_43 rfl ?_
      refine z_icmp_ne (tgt := 64) b dX6_splitSet_45 (by decide) (by omega) (fun c45 => ?_) (fun c45 => ?_)
      · have e1 : spA (A 235) s r t x (n + 1) e p = spA (A 235) s r t x n (e + 1) (p) := by
          conv => lhs; unfold spA
          rw [if_neg (fun z => c45 z.1)]
        rw [e1] at kk
        refine z_iinc b dX6_splitSet_64 rfl rfl rfl ?_
        refine w_goto (tgt := 33) b dX6_splitSet_67 (by decide) ?_
        exact ih (e + 1) p (by omega) (by omega) hB kk
      · refine w_iload b dX6_splitSet_48 rfl ?_
        refine w_iload b dX6_splitSet_50 rfl ?_
        refine z_iand b dX6_splitSet_52 (by omega) ?_
        refine z_if_eq (tgt := 64) b dX6_splitSet_53 (by decide) (by omega) (fun c53 => ?_) (fun c53 => ?_)
        · have e1 : spA (A 235) s r t x (n + 1) e p = spA (A 235) s r t x n (e + 1) (p) := by
            conv => lhs; unfold spA
            rw [if_neg (fun z => z.2 c53)]
          rw [e1] at kk
          refine z_iinc b dX6_splitSet_64 rfl rfl rfl ?_
          refine w_goto (tgt := 33) b dX6_splitSet_67 (by decide) ?_
          exact ih (e + 1) p (by omega) (by omega) hB kk
        · have e1 : spA (A 235) s r t x (n + 1) e p = spA (A 235) s r t x n (e + 1) (lbF (A 235) s r e p) := by
            conv => lhs; unfold spA
            rw [if_pos ⟨c45, c53⟩]
          rw [e1] at kk
          refine w_aload_n b dX6_splitSet_56 rfl rfl ?_
          refine w_iload_n b dX6_splitSet_57 rfl ?_
          refine w_iload_n b dX6_splitSet_58 rfl ?_
          refine w_iload b dX6_splitSet_59 rfl ?_
          refine c_V3v b dX6_splitSet_61 lmX6_65 (cpS (tlt rfl) ct_234) (k_X6_linkBranch hs hr (by omega) hB h30) (tle rfl) (by omega) (by omega) (by omega) ?_
          refine z_iinc b dX6_splitSet_64 rfl rfl rfl ?_
          refine w_goto (tgt := 33) b dX6_splitSet_67 (by decide) ?_
          exact ih (e + 1) _ (by omega) (by omega) (SB_lbF hs (by omega) hB) kk
set_option maxRecDepth 20000 in
theorem k_X6_splitSet {l0 : Launch} {g : Gw} {w nx : Nat} {h : Nat → va_E} {C : Nat → Nat → Int} {A : Nat → Int → Int} {V : Nat → Value} {s r : Int} {p : SP} (hs : 0 ≤ s ∧ s < 64) (hr : 0 ≤ r ∧ r < 6) (hr2 : (2 : Int) ^ r.toNat ≤ s) (hB : SB p) (h30 : ∀ j, 0 ≤ j → j < 8 → 0 ≤ A 235 j ∧ A 235 j < 2 ^ 8) : MD l0 g 3 mX6_splitSet (cp w C (rvS A p) V h, nx) [.ref 234, .int (iI (s)), .int (iI (r))] 0 0 (none) (cp w C (rvS A (spF (A 235) s r p)) V h, nx) := by
  have hp1 := pow_v hr
  have hp2 := fo_rng (s - 2 ^ r.toNat) 6 0 (by omega) (by omega)
  have hp3 := pow_v hp2
  have hp4 := (fo_le (x := (s - 2 ^ r.toNat)) (by omega)).1
  refine MD.of (by decide +kernel) (by simp [Value.category]) (tle rfl) (fun X b => ?_)
  change WW X g _ _ 0 0 0 [some (.ref 234), some (.int (iI (s))), some (.int (iI (r))), none, none, none] [] _
  refine w_iload_n b dX6_splitSet_0 rfl ?_
  refine z_iconst b dX6_splitSet_1 ?_
  refine w_iload_n b dX6_splitSet_2 rfl ?_
  refine z_ishl1 b dX6_splitSet_3 (by omega) ?_
  refine z_isub b dX6_splitSet_4 ?_
  refine w_istore_n b dX6_splitSet_5 (tlt rfl) rfl ?_
  refine z_iconst b dX6_splitSet_6 ?_
  refine w_iload_n b dX6_splitSet_7 rfl ?_
  refine c_S1 b dX6_splitSet_8 lmX6_59 (k_X6_firstOf (by omega)) (tle rfl) (by omega) (by omega) (by omega) ?_
  refine z_ishl1 b dX6_splitSet_11 (by omega) ?_
  refine w_istore b dX6_splitSet_12 (tlt rfl) rfl ?_
  refine w_aload_n b dX6_splitSet_14 rfl rfl ?_
  refine q_get b dX6_splitSet_15 lfX6_18 (tlt rfl) ct_234 rfl ?_
  refine w_iload_n b dX6_splitSet_18 rfl ?_
  refine z_bipush b dX6_splitSet_19 (by decide) ?_
  refine q_iast b dX6_splitSet_21 (tlt rfl) (fun _ => ct_237) (by omega) ?_
  refine ww_cast (σ' := (cp w C (rvS A ((fu p.1 s 64, p.2))) V h, nx)) rfl rfl (congrArg (fun z => (cp w C z V h, nx)) (rvS_1 A p _)) ?_
  refine w_aload_n b dX6_splitSet_22 rfl rfl ?_
  refine q_get b dX6_splitSet_23 lfX6_21 (tlt rfl) ct_234 rfl ?_
  refine w_iload_n b dX6_splitSet_26 rfl ?_
  refine z_iconst b dX6_splitSet_27 ?_
  refine q_iast b dX6_splitSet_28 (tlt rfl) (fun _ => ct_238) (by omega) ?_
  refine ww_cast (σ' := (cp w C (rvS A ((fu p.1 s 64, fu p.2 s 0))) V h, nx)) rfl rfl (congrArg (fun z => (cp w C z V h, nx)) (rvS_2 A (fu p.1 s 64, p.2) _)) ?_
  refine w_iload b dX6_splitSet_29 rfl ?_
  refine w_istore b dX6_splitSet_31 (tlt rfl) rfl ?_
  refine l_X6_splitSet b hs hr (by omega) (by omega) h30 ((s - 2 ^ r.toNat) + 1 - (2 ^ (foA (s - 2 ^ r.toNat) 6 0).toNat)).toNat (2 ^ (foA (s - 2 ^ r.toNat) 6 0).toNat) (fu p.1 s 64, fu p.2 s 0) (by omega) (by omega) (SB_fu hB (by omega)) ?_
  exact w_vret b dX6_splitSet_70 rfl (by omega) (by omega) ⟨rfl, rfl⟩
set_option maxRecDepth 20000 in
theorem l_X6_rivalTrees {X : Cx} {l0 : Launch} {g : Gw} {Z : State → Prop} {w nx : Nat} {h : Nat → va_E} {C : Nat → Nat → Int} {A : Nat → Int → Int} {V : Nat → Value} (b : BX X l0 g mX6_rivalTrees 4 0 0) {m : Int} (hm : 0 ≤ m ∧ m < 64) (h30 : ∀ j, 0 ≤ j → j < 8 → 0 ≤ A 235 j ∧ A 235 j < 2 ^ 8) : ∀ (n : Nat) (s : Int) (p : SP), (s + n = m + 1) → (1 ≤ s) → (SB p) → WW X g mX6_rivalTrees.2.2.1 Z 0 0 58 [some (.ref 234), some (.int (iI (m))), none] [] (cp w C (rvS A (rtA (A 235) n s p)) V h, nx) → WW X g mX6_rivalTrees.2.2.1 Z 0 0 16 [some (.ref 234), some (.int (iI (m))), some (.int (iI (s)))] [] (cp w C (rvS A p) V h, nx) := by
  intro n
  induction n with
  | zero =>
    intro s p h1 h2 hB kk
    refine w_iload_n b dX6_rivalTrees_16 rfl ?_
    refine w_iload_n b dX6_rivalTrees_17 rfl ?_
    refine z_icmp_gt (tgt := 58) b dX6_rivalTrees_18 (by decide) (by omega) (fun c18 => ?_) (fun c18 => ?_)
    · refine ww_forget 2 ?_
      exact kk
    · exfalso; omega
  | succ n ih =>
    intro s p h1 h2 hB kk
    refine w_iload_n b dX6_rivalTrees_16 rfl ?_
    refine w_iload_n b dX6_rivalTrees_17 rfl ?_
    refine z_icmp_gt (tgt := 58) b dX6_rivalTrees_18 (by decide) (by omega) (fun c18 => ?_) (fun c18 => ?_)
    · exfalso; omega
    · refine w_aload_n b dX6_rivalTrees_21 rfl rfl ?_
      refine q_get b dX6_rivalTrees_22 lfX6_18 (tlt rfl) ct_234 rfl ?_
      refine w_iload_n b dX6_rivalTrees_25 rfl ?_
      refine z_iconst b dX6_rivalTrees_26 ?_
      refine q_iast b dX6_rivalTrees_27 (tlt rfl) (fun _ => ct_237) (by omega) ?_
      refine ww_cast (σ' := (cp w C (rvS A ((fu p.1 s 0, p.2))) V h, nx)) rfl rfl (congrArg (fun z => (cp w C z V h, nx)) (rvS_1 A p _)) ?_
      refine w_aload_n b dX6_rivalTrees_28 rfl rfl ?_
      refine q_get b dX6_rivalTrees_29 lfX6_21 (tlt rfl) ct_234 rfl ?_
      refine w_iload_n b dX6_rivalTrees_32 rfl ?_
      refine z_iconst b dX6_rivalTrees_33 ?_
      refine q_iast b dX6_rivalTrees_34 (tlt rfl) (fun _ => ct_238) (by omega) ?_
      refine ww_cast (σ' := (cp w C (rvS A ((fu p.1 s 0, fu p.2 s 1))) V h, nx)) rfl rfl (congrArg (fun z => (cp w C z V h, nx)) (rvS_2 A (fu p.1 s 0, p.2) _)) ?_
      refine w_iload_n b dX6_rivalTrees_35 rfl ?_
      have hbc := bcF_rng s
      have hB1 : SB (fu p.1 s 0, fu p.2 s 1) := SB_fu hB (by omega)
      have hB2 : SB (rtS (A 235) s p) := SB_rt (by omega) hB
      have hf := fo_rng s 6 0 (by omega) (by omega)
      refine c_S1 b dX6_rivalTrees_36 lmX6_34 (k_J6_bitCount (by omega)) (tle rfl) (by omega) (by omega) (by omega) ?_
      refine z_iconst b dX6_rivalTrees_39 ?_
      refine z_icmp_le (tgt := 52) b dX6_rivalTrees_40 (by decide) (by omega) (fun c40 => ?_) (fun c40 => ?_)
      · have e1 : rtA (A 235) (n + 1) s p = rtA (A 235) n (s + 1) ((fu p.1 s 0, fu p.2 s 1)) := by
          conv => lhs; unfold rtA rtS
          rw [if_pos c40]
        rw [e1] at kk
        have e2 : rtS (A 235) s p = (fu p.1 s 0, fu p.2 s 1) := by
          unfold rtS
          rw [if_pos c40]
        refine z_iinc b dX6_rivalTrees_52 rfl rfl rfl ?_
        refine w_goto (tgt := 16) b dX6_rivalTrees_55 (by decide) ?_
        exact ih (s + 1) _ (by omega) (by omega) hB1 kk
      · have e1 : rtA (A 235) (n + 1) s p = rtA (A 235) n (s + 1) (spF (A 235) s (foA s 6 0) (fu p.1 s 0, fu p.2 s 1)) := by
          conv => lhs; unfold rtA rtS
          rw [if_neg c40]
        rw [e1] at kk
        have e2 : rtS (A 235) s p = spF (A 235) s (foA s 6 0) (fu p.1 s 0, fu p.2 s 1) := by
          unfold rtS
          rw [if_neg c40]
        rw [e2] at hB2
        refine w_aload_n b dX6_rivalTrees_43 rfl rfl ?_
        refine w_iload_n b dX6_rivalTrees_44 rfl ?_
        refine w_iload_n b dX6_rivalTrees_45 rfl ?_
        refine c_S1 b dX6_rivalTrees_46 lmX6_59 (k_X6_firstOf (by omega)) (tle rfl) (by omega) (by omega) (by omega) ?_
        refine c_V2v b dX6_rivalTrees_49 lmX6_62 (cpS (tlt rfl) ct_234) (k_X6_splitSet (by omega) hf ((fo_le (x := s) (by omega)).2 (by omega)) hB1 h30) (tle rfl) (by omega) (by omega) (by omega) ?_
        refine z_iinc b dX6_rivalTrees_52 rfl rfl rfl ?_
        refine w_goto (tgt := 16) b dX6_rivalTrees_55 (by decide) ?_
        exact ih (s + 1) _ (by omega) (by omega) hB2 kk
set_option maxRecDepth 20000 in
theorem k_X6_rivalTrees {l0 : Launch} {g : Gw} {w nx : Nat} {h : Nat → va_E} {C : Nat → Nat → Int} {A : Nat → Int → Int} {V : Nat → Value} {v : Nat} (hn : C 234 5 = (v : Int)) (hv : v ≤ 6) (hB : SB (A 237, A 238)) (h30 : ∀ j, 0 ≤ j → j < 8 → 0 ≤ A 235 j ∧ A 235 j < 2 ^ 8) : MD l0 g 4 mX6_rivalTrees (cp w C A V h, nx) [.ref 234] 0 0 (some (.int (iI ((rtA (A 235) (2 ^ v - 1) 1 (A 237, A 238)).2 (2 ^ v - 1))))) (cp w C (rvS A (rtA (A 235) (2 ^ v - 1) 1 (A 237, A 238))) V h, nx) := by
  have hp : (1 : Int) ≤ 2 ^ v ∧ (2 : Int) ^ v ≤ 64 := by
    rcases (show v = 0 ∨ v = 1 ∨ v = 2 ∨ v = 3 ∨ v = 4 ∨ v = 5 ∨ v = 6 by omega) with z | z | z | z | z | z | z <;> (rw [z]; decide)
  have hc : ((2 ^ v : Nat) : Int) = 2 ^ v := by simp
  refine MD.of (by decide +kernel) (by simp [Value.category]) (tle rfl) (fun X b => ?_)
  change WW X g _ _ 0 0 0 [some (.ref 234), none, none] [] _
  refine z_iconst b dX6_rivalTrees_0 ?_
  refine w_aload_n b dX6_rivalTrees_1 rfl rfl ?_
  refine q_get b dX6_rivalTrees_2 lfX6_27 (tlt rfl) ct_234 rfl ?_
  refine y_top hn ?_
  refine z_bipush b dX6_rivalTrees_5 (by decide) ?_
  refine c_S2 b dX6_rivalTrees_7 lmX6_54 (k_J9_min_7cf53 (by omega) (by omega)) (tle rfl) (by omega) (by omega) (by omega) ?_
  refine y_top (y := (v : Int)) (if_pos (by omega)) ?_
  refine z_ishl1 b dX6_rivalTrees_10 (by omega) ?_
  refine z_iconst b dX6_rivalTrees_11 ?_
  refine z_isub b dX6_rivalTrees_12 ?_
  refine y_top (y := 2 ^ v - 1) rfl ?_
  refine w_istore_n b dX6_rivalTrees_13 (tlt rfl) rfl ?_
  refine z_iconst b dX6_rivalTrees_14 ?_
  refine w_istore_n b dX6_rivalTrees_15 (tlt rfl) rfl ?_
  refine ww_cast (σ' := (cp w C (rvS A (A 237, A 238)) V h, nx)) rfl rfl (by rw [rvS_0]) ?_
  refine l_X6_rivalTrees b (m := 2 ^ v - 1) (by omega) h30 (2 ^ v - 1) 1 _ (by omega) (by omega) hB ?_
  refine w_aload_n b dX6_rivalTrees_58 rfl rfl ?_
  refine q_get b dX6_rivalTrees_59 lfX6_21 (tlt rfl) ct_234 rfl ?_
  refine w_iload_n b dX6_rivalTrees_62 rfl ?_
  refine q_iald b dX6_rivalTrees_63 (tlt rfl) ct_238 (by omega) ?_
  exact w_iret b dX6_rivalTrees_64 rfl (by omega) (by omega) ⟨iv_eq (by first | rfl | omega | ((try simp only [b2]); ((repeat' split) <;> (first | rfl | omega)))), rfl⟩
set_option maxRecDepth 20000 in
theorem k_X8_rivals0 {l0 : Launch} {g : Gw} {w nx : Nat} {h : Nat → va_E} {C : Nat → Nat → Int} {A : Nat → Int → Int} {V : Nat → Value}  (hn : 0 ≤ C 234 5 ∧ C 234 5 ≤ 8) (hb : C 234 5 = 0 ∨ 6 < C 234 5) : MD l0 g 5 mX8_rivals (cp w C A V h, nx) [.ref 0] 0 0 (some (.int (iI (if C 234 5 = 0 then -3 else -5)))) (cp w C A V h, nx) := by
  refine MD.of (by decide +kernel) (by simp [Value.category]) (tle rfl) (fun X b => ?_)
  change WW X g _ _ 0 0 0 [some (.ref 0)] [] _
  refine w_aload_n b dX8_rivals_0 rfl rfl ?_
  refine q_get b dX8_rivals_1 lfX8_40 (tlt rfl) ct_0 rfl ?_
  refine q_get b dX8_rivals_4 lfX8_220 (tlt rfl) ct_234 rfl ?_
  refine z_if_ne (tgt := 13) b dX8_rivals_7 (by decide) (by omega) (fun c7 => ?_) (fun c7 => ?_)
  · refine w_aload_n b dX8_rivals_13 rfl rfl ?_
    refine q_get b dX8_rivals_14 lfX8_40 (tlt rfl) ct_0 rfl ?_
    refine q_get b dX8_rivals_17 lfX8_220 (tlt rfl) ct_234 rfl ?_
    refine z_bipush b dX8_rivals_20 (by decide) ?_
    refine z_icmp_le (tgt := 30) b dX8_rivals_22 (by decide) (by omega) (fun c22 => ?_) (fun c22 => ?_)
    · exfalso; omega
    · refine z_bipush b dX8_rivals_25 (by decide) ?_
      refine w_goto (tgt := 37) b dX8_rivals_27 (by decide) ?_
      exact w_iret b dX8_rivals_37 rfl (by omega) (by omega) ⟨iv_eq (by first | rfl | omega | ((try simp only [b2]); ((repeat' split) <;> (first | rfl | omega)))), rfl⟩
  · refine z_bipush b dX8_rivals_10 (by decide) ?_
    exact w_iret b dX8_rivals_12 rfl (by omega) (by omega) ⟨iv_eq (by first | rfl | omega | ((try simp only [b2]); ((repeat' split) <;> (first | rfl | omega)))), rfl⟩
set_option maxRecDepth 20000 in
theorem k_X8_rivals1 {l0 : Launch} {g : Gw} {w nx : Nat} {h : Nat → va_E} {C : Nat → Nat → Int} {A : Nat → Int → Int} {V : Nat → Value} {v : Nat} (hn : C 234 5 = (v : Int)) (hv : 1 ≤ v ∧ v ≤ 6) (hB : SB (A 237, A 238)) (h30 : ∀ j, 0 ≤ j → j < 8 → 0 ≤ A 235 j ∧ A 235 j < 2 ^ 8) : MD l0 g 5 mX8_rivals (cp w C A V h, nx) [.ref 0] 0 0 (some (.int (iI ((rtA (A 235) (2 ^ v - 1) 1 (A 237, A 238)).2 (2 ^ v - 1))))) (cp w C (rvS A (rtA (A 235) (2 ^ v - 1) 1 (A 237, A 238))) V h, nx) := by
  refine MD.of (by decide +kernel) (by simp [Value.category]) (tle rfl) (fun X b => ?_)
  change WW X g _ _ 0 0 0 [some (.ref 0)] [] _
  refine w_aload_n b dX8_rivals_0 rfl rfl ?_
  refine q_get b dX8_rivals_1 lfX8_40 (tlt rfl) ct_0 rfl ?_
  refine q_get b dX8_rivals_4 lfX8_220 (tlt rfl) ct_234 rfl ?_
  refine z_if_ne (tgt := 13) b dX8_rivals_7 (by decide) (by omega) (fun c7 => ?_) (fun c7 => ?_)
  · refine w_aload_n b dX8_rivals_13 rfl rfl ?_
    refine q_get b dX8_rivals_14 lfX8_40 (tlt rfl) ct_0 rfl ?_
    refine q_get b dX8_rivals_17 lfX8_220 (tlt rfl) ct_234 rfl ?_
    refine z_bipush b dX8_rivals_20 (by decide) ?_
    refine z_icmp_le (tgt := 30) b dX8_rivals_22 (by decide) (by omega) (fun c22 => ?_) (fun c22 => ?_)
    · refine w_aload_n b dX8_rivals_30 rfl rfl ?_
      refine q_get b dX8_rivals_31 lfX8_40 (tlt rfl) ct_0 rfl ?_
      refine c_V0 b dX8_rivals_34 lmX8_233 (cpS (tlt rfl) ct_234) (k_X6_rivalTrees hn hv.2 hB h30) (tle rfl) (by omega) (by omega) (by omega) ?_
      exact w_iret b dX8_rivals_37 rfl (by omega) (by omega) ⟨iv_eq (by first | rfl | omega | ((try simp only [b2]); ((repeat' split) <;> (first | rfl | omega)))), rfl⟩
    · exfalso; omega
  · exfalso; omega
