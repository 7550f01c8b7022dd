/-! THE CLASS: shifts, wages, wool (by p53.py) -/
theorem shI_acc (was sh : Int → Int) (x c r : Int) : ∀ (k : Nat) (i n l : Int), shI was sh x c r k i n l = (n + (shI was sh x c r k i 0 l).1, (shI was sh x c r k i 0 l).2) := by
  intro k
  induction k with
  | zero => intro i n l; simp [shI]
  | succ k ih =>
    intro i n l
    unfold shI
    split
    · rw [ih (i + 1) (n + _) (40 * r + i), ih (i + 1) (0 + _) (40 * r + i)]
      refine Prod.ext ?_ rfl
      show _ + _ + _ = _ + (0 + _ + _)
      omega
    · exact ih (i + 1) n l
theorem shR_acc (was sh : Int → Int) (x c : Int) (w : Nat) : ∀ (k : Nat) (r n l : Int), shR was sh x c w k r n l = (n + (shR was sh x c w k r 0 l).1, (shR was sh x c w k r 0 l).2) := by
  intro k
  induction k with
  | zero => intro r n l; simp [shR]
  | succ k ih =>
    intro r n l
    unfold shR
    rw [shI_acc was sh x c r w 0 n l]
    show shR was sh x c w k (r + 1) (n + (shI was sh x c r w 0 0 l).1) (shI was sh x c r w 0 0 l).2 = _
    rw [ih (r + 1) (n + _) _, ih (r + 1) ((shI was sh x c r w 0 0 l).1) _]
    refine Prod.ext ?_ rfl
    show _ + _ + _ = _ + (_ + _)
    omega
theorem shC_acc (was sh : Int → Int) (x : Int) (w rows : Nat) : ∀ (k : Nat) (c n : Int), shC was sh x w rows (k + 1) c n = shC was sh x w rows k (c + 1) (n + (shR was sh x c w rows 0 0 (-1)).1) := by
  intro k c n
  conv => lhs; unfold shC
  rw [shR_acc was sh x c w rows 0 n (-1)]
/-- what the class keeps of the latest place l: its shade, its row -/
def lshF (sh : Int → Int) (l : Int) : Int := if l < 0 then -1 else sh l
def lroF (l : Int) : Int := if l < 0 then -1 else l / 40
theorem lshF_at {sh : Int → Int} {l : Int} (h : 0 ≤ l) : sh l = lshF sh l := (if_neg (by omega)).symm
theorem lroF_at {r i : Int} (hr : 0 ≤ r) (hi : 0 ≤ i ∧ i < 40) : r = lroF (40 * r + i) := by unfold lroF; rw [if_neg (by omega)]; omega
theorem lroF_lt {l : Int} (h : -1 ≤ l) : (lroF l < 0 ↔ l < 0) ∧ (0 ≤ l → lroF l = l / 40) := by
  unfold lroF
  split
  · exact ⟨⟨fun _ => by omega, fun _ => by omega⟩, fun _ => by omega⟩
  · exact ⟨⟨fun _ => by omega, fun _ => by omega⟩, fun _ => rfl⟩
theorem lshF_rng {sh : Int → Int} {l : Int} (hb : ∀ j, 0 ≤ j → j < 1600 → 0 ≤ sh j ∧ sh j ≤ 9) (h : -1 ≤ l ∧ l < 1600) : inR (lshF sh l) ∧ inR (lroF l) := by
  unfold lshF lroF
  split
  · exact ⟨⟨by omega, by omega⟩, ⟨by omega, by omega⟩⟩
  · have := hb l (by omega) (by omega)
    exact ⟨⟨by omega, by omega⟩, ⟨by omega, by omega⟩⟩
set_option maxRecDepth 20000 in
theorem l_X1_shiftsOf1 {X : Cx} {l0 : Launch} {g : Gw} {Z : State → Prop} {w nx : Nat} {h : Nat → va_E} {C : Nat → Nat → Int} {A : Nat → Int → Int} {V : Nat → Value} (b : BX X l0 g mX1_shiftsOf 0 0 0) {c x r : Int} {I : Nat → Int} {F : Nat → Int → Int} (hR : RCa w C A I F) (hc : 0 ≤ c ∧ c ≤ 7) (hx : x = 0 ∨ x = 1) (hr : 0 ≤ r ∧ r < I 21) : ∀ (k : Nat) (i n l : Int), (i + k = w) → (0 ≤ i) → (-1 ≤ l ∧ l < 1600) → WW X g mX1_shiftsOf.2.2.1 Z 0 0 117 [some (.ref 1), some (.int (iI (c))), some (.int (iI (x))), some (.int (iI ((shI (F 22) (F 24) x c r k i n l).1))), some (.int (iI (lshF (F 24) (shI (F 22) (F 24) x c r k i n l).2))), some (.int (iI (lroF (shI (F 22) (F 24) x c r k i n l).2))), some (.int (iI (r))), none, none, none] [] (cp w C A V h, nx) → WW X g mX1_shiftsOf.2.2.1 Z 0 0 32 [some (.ref 1), some (.int (iI (c))), some (.int (iI (x))), some (.int (iI (n))), some (.int (iI (lshF (F 24) l))), some (.int (iI (lroF l))), some (.int (iI (r))), some (.ref (30 + 5 * r.toNat)), some (.int (iI (i))), none] [] (cp w C A V h, nx) := by
  intro k
  induction k with
  | zero =>
    intro i n l h1 h2 h3 kk
    have hw2 := hR.w2
    have ht1 := hR.t1
    have ht2 := hR.t2
    refine w_iload b dX1_shiftsOf_32 rfl ?_
    refine w_aload_n b dX1_shiftsOf_34 rfl rfl ?_
    refine q_get b dX1_shiftsOf_35 lfX1_30 (tlt rfl) ct_1 rfl ?_
    refine z_icmp_ge (tgt := 117) b dX1_shiftsOf_38 (by decide) (by omega) (fun c38 => ?_) (fun c38 => ?_)
    · refine ww_forget 7 ?_
      refine ww_forget 8 ?_
      exact kk
    · exfalso; omega
  | succ k ih =>
    intro i n l h1 h2 h3 kk
    have hw2 := hR.w2
    have ht1 := hR.t1
    have ht2 := hR.t2
    refine w_iload b dX1_shiftsOf_32 rfl ?_
    refine w_aload_n b dX1_shiftsOf_34 rfl rfl ?_
    refine q_get b dX1_shiftsOf_35 lfX1_30 (tlt rfl) ct_1 rfl ?_
    refine z_icmp_ge (tgt := 117) b dX1_shiftsOf_38 (by decide) (by omega) (fun c38 => ?_) (fun c38 => ?_)
    · exfalso; omega
    · refine w_aload b dX1_shiftsOf_41 rfl rfl ?_
      refine q_get b dX1_shiftsOf_43 lfX1_91 (by omega) (ct_row (by omega)) rfl ?_
      refine w_iload b dX1_shiftsOf_46 rfl ?_
      refine q_bald b dX1_shiftsOf_48 (by omega) (ct_row1 (by omega)) (by omega) ?_
      refine y_top (hR.a22 _ _ (by omega) (by omega) (by omega) (by omega)) ?_
      refine w_iload_n b dX1_shiftsOf_49 rfl ?_
      refine z_icmp_ne (tgt := 111) b dX1_shiftsOf_50 (by decide) (by have := hR.b22 (40 * r + i) (by omega) (by omega); omega) (fun c50 => ?_) (fun c50 => ?_)
      · have e1 : shI (F 22) (F 24) x c r (k + 1) i n l = shI (F 22) (F 24) x c r k (i + 1) n l := by
          conv => lhs; unfold shI
          rw [if_neg c50]
        rw [e1] at kk
        refine z_iinc b dX1_shiftsOf_111 rfl rfl rfl ?_
        refine w_goto (tgt := 32) b dX1_shiftsOf_114 (by decide) ?_
        refine ww_forget 9 ?_
        exact ih (i + 1) n l (by omega) (by omega) h3 kk
      · refine w_iload b dX1_shiftsOf_53 rfl ?_
        have hq3 := lroF_lt h3.1
        have hq4 := lshF_rng hR.b24 h3
        refine z_if_lt (tgt := 75) b dX1_shiftsOf_55 (by decide) (by omega) (fun c55 => ?_) (fun c55 => ?_)
        · have e2 : b2 (0 ≤ l ∧ ¬ F 24 l = F 24 (40 * r + i) ∧ (x = 0 ∨ l / 40 = r)) = 0 := b2_f (fun z => absurd z.1 (by have := hq3.1.mp c55; omega))
          have e1 : shI (F 22) (F 24) x c r (k + 1) i n l = shI (F 22) (F 24) x c r k (i + 1) (n + 0) (40 * r + i) := by
            conv => lhs; unfold shI
            rw [if_pos c50, e2]
          rw [e1] at kk
          rw [Int.add_zero] at kk
          refine z_iconst b dX1_shiftsOf_75 ?_
          refine w_istore b dX1_shiftsOf_76 (tlt rfl) rfl ?_
          refine w_iload b dX1_shiftsOf_78 rfl ?_
          refine z_if_eq (tgt := 97) b dX1_shiftsOf_80 (by decide) (by omega) (fun c80 => ?_) (fun c80 => ?_)
          · refine w_aload b dX1_shiftsOf_97 rfl rfl ?_
            refine q_get b dX1_shiftsOf_99 lfX1_107 (by omega) (ct_row (by omega)) rfl ?_
            refine w_iload b dX1_shiftsOf_102 rfl ?_
            refine q_bald b dX1_shiftsOf_104 (by omega) (ct_row3 (by omega)) (by omega) ?_
            refine y_top (hR.a24 _ _ (by omega) (by omega) (by omega) (by omega)) ?_
            refine w_istore b dX1_shiftsOf_105 (tlt rfl) rfl ?_
            refine w_iload b dX1_shiftsOf_107 rfl ?_
            refine w_istore b dX1_shiftsOf_109 (tlt rfl) rfl ?_
            refine z_iinc b dX1_shiftsOf_111 rfl rfl rfl ?_
            refine w_goto (tgt := 32) b dX1_shiftsOf_114 (by decide) ?_
            refine ww_forget 9 ?_
            have e5 : F 24 (40 * r + i) = lshF (F 24) (40 * r + i) := lshF_at (by omega)
            have e6 : r = lroF (40 * r + i) := lroF_at (by omega) (by omega)
            have h9 := ih (i + 1) (n) (40 * r + i) (by omega) (by omega) (by omega) kk
            rw [← e5, ← e6] at h9
            exact h9
          · exfalso; omega
        · refine w_aload b dX1_shiftsOf_58 rfl rfl ?_
          refine q_get b dX1_shiftsOf_60 lfX1_107 (by omega) (ct_row (by omega)) rfl ?_
          refine w_iload b dX1_shiftsOf_63 rfl ?_
          refine q_bald b dX1_shiftsOf_65 (by omega) (ct_row3 (by omega)) (by omega) ?_
          refine y_top (hR.a24 _ _ (by omega) (by omega) (by omega) (by omega)) ?_
          refine w_iload b dX1_shiftsOf_66 rfl ?_
          have hq5 : 0 ≤ l := by have := hq3.1; omega
          have hq6 : lshF (F 24) l = F 24 l := (lshF_at hq5).symm
          have hq7 := hR.b24 (40 * r + i) (by omega) (by omega)
          refine z_icmp_eq (tgt := 75) b dX1_shiftsOf_68 (by decide) (by omega) (fun c68 => ?_) (fun c68 => ?_)
          · have e2 : b2 (0 ≤ l ∧ ¬ F 24 l = F 24 (40 * r + i) ∧ (x = 0 ∨ l / 40 = r)) = 0 := b2_f (fun z => z.2.1 (by rw [← hq6]; exact c68.symm))
            have e1 : shI (F 22) (F 24) x c r (k + 1) i n l = shI (F 22) (F 24) x c r k (i + 1) (n + 0) (40 * r + i) := by
              conv => lhs; unfold shI
              rw [if_pos c50, e2]
            rw [e1] at kk
            rw [Int.add_zero] at kk
            refine z_iconst b dX1_shiftsOf_75 ?_
            refine w_istore b dX1_shiftsOf_76 (tlt rfl) rfl ?_
            refine w_iload b dX1_shiftsOf_78 rfl ?_
            refine z_if_eq (tgt := 97) b dX1_shiftsOf_80 (by decide) (by omega) (fun c80 => ?_) (fun c80 => ?_)
            · refine w_aload b dX1_shiftsOf_97 rfl rfl ?_
              refine q_get b dX1_shiftsOf_99 lfX1_107 (by omega) (ct_row (by omega)) rfl ?_
              refine w_iload b dX1_shiftsOf_102 rfl ?_
              refine q_bald b dX1_shiftsOf_104 (by omega) (ct_row3 (by omega)) (by omega) ?_
              refine y_top (hR.a24 _ _ (by omega) (by omega) (by omega) (by omega)) ?_
              refine w_istore b dX1_shiftsOf_105 (tlt rfl) rfl ?_
              refine w_iload b dX1_shiftsOf_107 rfl ?_
              refine w_istore b dX1_shiftsOf_109 (tlt rfl) rfl ?_
              refine z_iinc b dX1_shiftsOf_111 rfl rfl rfl ?_
              refine w_goto (tgt := 32) b dX1_shiftsOf_114 (by decide) ?_
              refine ww_forget 9 ?_
              have e5 : F 24 (40 * r + i) = lshF (F 24) (40 * r + i) := lshF_at (by omega)
              have e6 : r = lroF (40 * r + i) := lroF_at (by omega) (by omega)
              have h9 := ih (i + 1) (n) (40 * r + i) (by omega) (by omega) (by omega) kk
              rw [← e5, ← e6] at h9
              exact h9
            · exfalso; omega
          · refine z_iconst b dX1_shiftsOf_71 ?_
            refine w_goto (tgt := 76) b dX1_shiftsOf_72 (by decide) ?_
            refine w_istore b dX1_shiftsOf_76 (tlt rfl) rfl ?_
            refine w_iload b dX1_shiftsOf_78 rfl ?_
            refine z_if_eq (tgt := 97) b dX1_shiftsOf_80 (by decide) (by omega) (fun c80 => ?_) (fun c80 => ?_)
            · exfalso; omega
            · refine w_iload_n b dX1_shiftsOf_83 rfl ?_
              refine z_if_eq (tgt := 94) b dX1_shiftsOf_84 (by decide) (by omega) (fun c84 => ?_) (fun c84 => ?_)
              · have e2 : b2 (0 ≤ l ∧ ¬ F 24 l = F 24 (40 * r + i) ∧ (x = 0 ∨ l / 40 = r)) = 1 := b2_t ⟨hq5, fun z => c68 (by rw [hq6]; exact z.symm), Or.inl c84⟩
                have e1 : shI (F 22) (F 24) x c r (k + 1) i n l = shI (F 22) (F 24) x c r k (i + 1) (n + 1) (40 * r + i) := by
                  conv => lhs; unfold shI
                  rw [if_pos c50, e2]
                rw [e1] at kk
                refine z_iinc b dX1_shiftsOf_94 rfl rfl rfl ?_
                refine w_aload b dX1_shiftsOf_97 rfl rfl ?_
                refine q_get b dX1_shiftsOf_99 lfX1_107 (by omega) (ct_row (by omega)) rfl ?_
                refine w_iload b dX1_shiftsOf_102 rfl ?_
                refine q_bald b dX1_shiftsOf_104 (by omega) (ct_row3 (by omega)) (by omega) ?_
                refine y_top (hR.a24 _ _ (by omega) (by omega) (by omega) (by omega)) ?_
                refine w_istore b dX1_shiftsOf_105 (tlt rfl) rfl ?_
                refine w_iload b dX1_shiftsOf_107 rfl ?_
                refine w_istore b dX1_shiftsOf_109 (tlt rfl) rfl ?_
                refine z_iinc b dX1_shiftsOf_111 rfl rfl rfl ?_
                refine w_goto (tgt := 32) b dX1_shiftsOf_114 (by decide) ?_
                refine ww_forget 9 ?_
                have e5 : F 24 (40 * r + i) = lshF (F 24) (40 * r + i) := lshF_at (by omega)
                have e6 : r = lroF (40 * r + i) := lroF_at (by omega) (by omega)
                have h9 := ih (i + 1) (n + 1) (40 * r + i) (by omega) (by omega) (by omega) kk
                rw [← e5, ← e6] at h9
                exact h9
              · refine w_iload b dX1_shiftsOf_87 rfl ?_
                refine w_iload b dX1_shiftsOf_89 rfl ?_
                refine z_icmp_ne (tgt := 97) b dX1_shiftsOf_91 (by decide) (by omega) (fun c91 => ?_) (fun c91 => ?_)
                · have e2 : b2 (0 ≤ l ∧ ¬ F 24 l = F 24 (40 * r + i) ∧ (x = 0 ∨ l / 40 = r)) = 0 := b2_f (fun z => z.2.2.elim c84 (fun q => c91 (by rw [hq3.2 hq5]; exact q)))
                  have e1 : shI (F 22) (F 24) x c r (k + 1) i n l = shI (F 22) (F 24) x c r k (i + 1) (n + 0) (40 * r + i) := by
                    conv => lhs; unfold shI
                    rw [if_pos c50, e2]
                  rw [e1] at kk
                  rw [Int.add_zero] at kk
                  refine w_aload b dX1_shiftsOf_97 rfl rfl ?_
                  refine q_get b dX1_shiftsOf_99 lfX1_107 (by omega) (ct_row (by omega)) rfl ?_
                  refine w_iload b dX1_shiftsOf_102 rfl ?_
                  refine q_bald b dX1_shiftsOf_104 (by omega) (ct_row3 (by omega)) (by omega) ?_
                  refine y_top (hR.a24 _ _ (by omega) (by omega) (by omega) (by omega)) ?_
                  refine w_istore b dX1_shiftsOf_105 (tlt rfl) rfl ?_
                  refine w_iload b dX1_shiftsOf_107 rfl ?_
                  refine w_istore b dX1_shiftsOf_109 (tlt rfl) rfl ?_
                  refine z_iinc b dX1_shiftsOf_111 rfl rfl rfl ?_
                  refine w_goto (tgt := 32) b dX1_shiftsOf_114 (by decide) ?_
                  refine ww_forget 9 ?_
                  have e5 : F 24 (40 * r + i) = lshF (F 24) (40 * r + i) := lshF_at (by omega)
                  have e6 : r = lroF (40 * r + i) := lroF_at (by omega) (by omega)
                  have h9 := ih (i + 1) (n) (40 * r + i) (by omega) (by omega) (by omega) kk
                  rw [← e5, ← e6] at h9
                  exact h9
                · have e2 : b2 (0 ≤ l ∧ ¬ F 24 l = F 24 (40 * r + i) ∧ (x = 0 ∨ l / 40 = r)) = 1 := b2_t ⟨hq5, fun z => c68 (by rw [hq6]; exact z.symm), Or.inr (by rw [← hq3.2 hq5]; exact c91)⟩
                  have e1 : shI (F 22) (F 24) x c r (k + 1) i n l = shI (F 22) (F 24) x c r k (i + 1) (n + 1) (40 * r + i) := by
                    conv => lhs; unfold shI
                    rw [if_pos c50, e2]
                  rw [e1] at kk
                  refine z_iinc b dX1_shiftsOf_94 rfl rfl rfl ?_
                  refine w_aload b dX1_shiftsOf_97 rfl rfl ?_
                  refine q_get b dX1_shiftsOf_99 lfX1_107 (by omega) (ct_row (by omega)) rfl ?_
                  refine w_iload b dX1_shiftsOf_102 rfl ?_
                  refine q_bald b dX1_shiftsOf_104 (by omega) (ct_row3 (by omega)) (by omega) ?_
                  refine y_top (hR.a24 _ _ (by omega) (by omega) (by omega) (by omega)) ?_
                  refine w_istore b dX1_shiftsOf_105 (tlt rfl) rfl ?_
                  refine w_iload b dX1_shiftsOf_107 rfl ?_
                  refine w_istore b dX1_shiftsOf_109 (tlt rfl) rfl ?_
                  refine z_iinc b dX1_shiftsOf_111 rfl rfl rfl ?_
                  refine w_goto (tgt := 32) b dX1_shiftsOf_114 (by decide) ?_
                  refine ww_forget 9 ?_
                  have e5 : F 24 (40 * r + i) = lshF (F 24) (40 * r + i) := lshF_at (by omega)
                  have e6 : r = lroF (40 * r + i) := lroF_at (by omega) (by omega)
                  have h9 := ih (i + 1) (n + 1) (40 * r + i) (by omega) (by omega) (by omega) kk
                  rw [← e5, ← e6] at h9
                  exact h9
set_option maxRecDepth 20000 in
theorem l_X1_shiftsOf2 {X : Cx} {l0 : Launch} {g : Gw} {Z : State → Prop} {w nx : Nat} {h : Nat → va_E} {C : Nat → Nat → Int} {A : Nat → Int → Int} {V : Nat → Value} (b : BX X l0 g mX1_shiftsOf 0 0 0) {c x : Int} {I : Nat → Int} {F : Nat → Int → Int} (hR : RCa w C A I F) (hc : 0 ≤ c ∧ c ≤ 7) (hx : x = 0 ∨ x = 1) : ∀ (k : Nat) (r n l : Int), (r + k = I 21) → (0 ≤ r) → (-1 ≤ l ∧ l < 1600) → WW X g mX1_shiftsOf.2.2.1 Z 0 0 123 [some (.ref 1), some (.int (iI (c))), some (.int (iI (x))), some (.int (iI ((shR (F 22) (F 24) x c w k r n l).1))), none, none, none, none, none, none] [] (cp w C A V h, nx) → WW X g mX1_shiftsOf.2.2.1 Z 0 0 11 [some (.ref 1), some (.int (iI (c))), some (.int (iI (x))), some (.int (iI (n))), some (.int (iI (lshF (F 24) l))), some (.int (iI (lroF l))), some (.int (iI (r))), none, none, none] [] (cp w C A V h, nx) := by
  intro k
  induction k with
  | zero =>
    intro r n l h1 h2 h3 kk
    have hw2 := hR.w2
    have ht1 := hR.t1
    have ht2 := hR.t2
    refine w_iload b dX1_shiftsOf_11 rfl ?_
    refine w_aload_n b dX1_shiftsOf_13 rfl rfl ?_
    refine q_get b dX1_shiftsOf_14 lfX1_38 (tlt rfl) ct_1 rfl ?_
    refine z_icmp_ge (tgt := 123) b dX1_shiftsOf_17 (by decide) (by omega) (fun c17 => ?_) (fun c17 => ?_)
    · refine ww_forget 4 ?_
      refine ww_forget 5 ?_
      refine ww_forget 6 ?_
      exact kk
    · exfalso; omega
  | succ k ih =>
    intro r n l h1 h2 h3 kk
    have hw2 := hR.w2
    have ht1 := hR.t1
    have ht2 := hR.t2
    refine w_iload b dX1_shiftsOf_11 rfl ?_
    refine w_aload_n b dX1_shiftsOf_13 rfl rfl ?_
    refine q_get b dX1_shiftsOf_14 lfX1_38 (tlt rfl) ct_1 rfl ?_
    refine z_icmp_ge (tgt := 123) b dX1_shiftsOf_17 (by decide) (by omega) (fun c17 => ?_) (fun c17 => ?_)
    · exfalso; omega
    · refine w_aload_n b dX1_shiftsOf_20 rfl rfl ?_
      refine q_get b dX1_shiftsOf_21 lfX1_26 (tlt rfl) ct_1 rfl ?_
      refine w_iload b dX1_shiftsOf_24 rfl ?_
      refine q_aald b dX1_shiftsOf_26 (tlt rfl) ct_5 (by omega) (by omega) ?_
      refine w_astore b dX1_shiftsOf_27 (tlt rfl) rfl rfl ?_
      refine z_iconst b dX1_shiftsOf_29 ?_
      refine w_istore b dX1_shiftsOf_30 (tlt rfl) rfl ?_
      refine l_X1_shiftsOf1 b hR hc hx (by omega) w 0 n l (by omega) (by omega) h3 ?_
      refine z_iinc b dX1_shiftsOf_117 rfl rfl rfl ?_
      refine w_goto (tgt := 11) b dX1_shiftsOf_120 (by decide) ?_
      exact ih (r + 1) _ _ (by omega) (by omega) (shI_l _ _ _ _ _ (by omega) _ _ _ _ (by omega) (by omega) h3) kk
set_option maxRecDepth 20000 in
theorem k_X1_shiftsOf {l0 : Launch} {g : Gw} {w nx : Nat} {h : Nat → va_E} {C : Nat → Nat → Int} {A : Nat → Int → Int} {V : Nat → Value} {I : Nat → Int} {F : Nat → Int → Int} {c x : Int} (hR : RCa w C A I F) (hc : 0 ≤ c ∧ c ≤ 7) (hx : x = 0 ∨ x = 1) : MD l0 g 0 mX1_shiftsOf (cp w C A V h, nx) [.ref 1, .int (iI (c)), .int (iI (x))] 0 0 (some (.int (iI ((shR (F 22) (F 24) x c w (I 21).toNat 0 0 (-1)).1)))) (cp w C A V h, nx) := by
  have hw2 := hR.w2
  have ht1 := hR.t1
  have ht2 := hR.t2
  refine MD.of (by decide +kernel) (by simp [Value.category]) (tle rfl) (fun X b => ?_)
  change WW X g _ _ 0 0 0 [some (.ref 1), some (.int (iI (c))), some (.int (iI (x))), none, none, none, none, none, none, none] [] _
  refine z_iconst b dX1_shiftsOf_0 ?_
  refine w_istore_n b dX1_shiftsOf_1 (tlt rfl) rfl ?_
  refine z_iconst b dX1_shiftsOf_2 ?_
  refine w_istore b dX1_shiftsOf_3 (tlt rfl) rfl ?_
  refine z_iconst b dX1_shiftsOf_5 ?_
  refine w_istore b dX1_shiftsOf_6 (tlt rfl) rfl ?_
  refine z_iconst b dX1_shiftsOf_8 ?_
  refine w_istore b dX1_shiftsOf_9 (tlt rfl) rfl ?_
  refine l_X1_shiftsOf2 b hR hc hx (I 21).toNat 0 0 (-1) (by omega) (by omega) (by omega) ?_
  refine w_iload_n b dX1_shiftsOf_123 rfl ?_
  exact w_iret b dX1_shiftsOf_124 rfl (by omega) (by omega) ⟨iv_eq (by first | rfl | omega | ((try simp only [b2]); ((repeat' split) <;> (first | rfl | omega)))), rfl⟩
set_option maxRecDepth 20000 in
theorem l_X1_shiftsInAll {X : Cx} {l0 : Launch} {g : Gw} {Z : State → Prop} {w nx : Nat} {h : Nat → va_E} {C : Nat → Nat → Int} {A : Nat → Int → Int} {V : Nat → Value} (b : BX X l0 g mX1_shiftsInAll 1 0 0) {x : Int} {I : Nat → Int} {F : Nat → Int → Int} (hR : RCa w C A I F) (hx : x = 0 ∨ x = 1) : ∀ (k : Nat) (c n : Int), (c + k = 8) → (0 ≤ c) → WW X g mX1_shiftsInAll.2.2.1 Z 0 0 25 [some (.ref 1), some (.int (iI (x))), some (.int (iI (shC (F 22) (F 24) x w (I 21).toNat k c n))), none] [] (cp w C A V h, nx) → WW X g mX1_shiftsInAll.2.2.1 Z 0 0 4 [some (.ref 1), some (.int (iI (x))), some (.int (iI (n))), some (.int (iI (c)))] [] (cp w C A V h, nx) := by
  intro k
  induction k with
  | zero =>
    intro c n h1 h2 kk
    refine w_iload_n b dX1_shiftsInAll_4 rfl ?_
    refine z_bipush b dX1_shiftsInAll_5 (by decide) ?_
    refine z_icmp_ge (tgt := 25) b dX1_shiftsInAll_7 (by decide) (by omega) (fun c7 => ?_) (fun c7 => ?_)
    · refine ww_forget 3 ?_
      exact kk
    · exfalso; omega
  | succ k ih =>
    intro c n h1 h2 kk
    refine w_iload_n b dX1_shiftsInAll_4 rfl ?_
    refine z_bipush b dX1_shiftsInAll_5 (by decide) ?_
    refine z_icmp_ge (tgt := 25) b dX1_shiftsInAll_7 (by decide) (by omega) (fun c7 => ?_) (fun c7 => ?_)
    · exfalso; omega
    · refine w_iload_n b dX1_shiftsInAll_10 rfl ?_
      refine w_aload_n b dX1_shiftsInAll_11 rfl rfl ?_
      refine w_iload_n b dX1_shiftsInAll_12 rfl ?_
      refine w_iload_n b dX1_shiftsInAll_13 rfl ?_
      refine c_V2 b dX1_shiftsInAll_14 lmX1_103 (cpS (tlt rfl) ct_1) (k_X1_shiftsOf hR (by omega) hx) (tle rfl) (by omega) (by omega) (by omega) ?_
      refine z_iadd b dX1_shiftsInAll_17 ?_
      refine w_istore_n b dX1_shiftsInAll_18 (tlt rfl) rfl ?_
      refine z_iinc b dX1_shiftsInAll_19 rfl rfl rfl ?_
      refine w_goto (tgt := 4) b dX1_shiftsInAll_22 (by decide) ?_
      rw [shC_acc] at kk
      exact ih (c + 1) _ (by omega) (by omega) kk
set_option maxRecDepth 20000 in
theorem k_X1_shiftsInAll {l0 : Launch} {g : Gw} {w nx : Nat} {h : Nat → va_E} {C : Nat → Nat → Int} {A : Nat → Int → Int} {V : Nat → Value} {I : Nat → Int} {F : Nat → Int → Int} {x : Int} (hR : RCa w C A I F) (hx : x = 0 ∨ x = 1) : MD l0 g 1 mX1_shiftsInAll (cp w C A V h, nx) [.ref 1, .int (iI (x))] 0 0 (some (.int (iI (shC (F 22) (F 24) x w (I 21).toNat 8 0 0)))) (cp w C A V h, nx) := by
  refine MD.of (by decide +kernel) (by simp [Value.category]) (tle rfl) (fun X b => ?_)
  change WW X g _ _ 0 0 0 [some (.ref 1), some (.int (iI (x))), none, none] [] _
  refine z_iconst b dX1_shiftsInAll_0 ?_
  refine w_istore_n b dX1_shiftsInAll_1 (tlt rfl) rfl ?_
  refine z_iconst b dX1_shiftsInAll_2 ?_
  refine w_istore_n b dX1_shiftsInAll_3 (tlt rfl) rfl ?_
  refine l_X1_shiftsInAll b hR hx 8 0 0 (by omega) (by omega) ?_
  refine w_iload_n b dX1_shiftsInAll_25 rfl ?_
  exact w_iret b dX1_shiftsInAll_26 rfl (by omega) (by omega) ⟨iv_eq (by first | rfl | omega | ((try simp only [b2]); ((repeat' split) <;> (first | rfl | omega)))), rfl⟩
theorem wg_rng {w : Nat} {I : Nat → Int} {F : Nat → Int → Int} {x : Int} (hw : w ≤ 40) (ht : 0 ≤ I 21 ∧ I 21 ≤ 40) : (0 ≤ sumA (fun i => b2 (handF (F 16) i = x)) w 0 0 * I 21 ∧ sumA (fun i => b2 (handF (F 16) i = x)) w 0 0 * I 21 ≤ 1600) ∧ (0 ≤ sumA (fun i => if handF (F 16) i = x then sumA (fun r => b2 (¬ F 23 (40 * r + i) = F 22 (40 * r + i))) (I 21).toNat 0 0 else 0) w 0 0 ∧ sumA (fun i => if handF (F 16) i = x then sumA (fun r => b2 (¬ F 23 (40 * r + i) = F 22 (40 * r + i))) (I 21).toNat 0 0 else 0) w 0 0 ≤ 1600) := by
  have h1 := sumA_bd (f := fun i => b2 (handF (F 16) i = x)) (lo := 0) (hi := 1) w 0 0 (fun j _ _ => b2_rng _)
  have h2 : ∀ i, 0 ≤ sumA (fun r => b2 (¬ F 23 (40 * r + i) = F 22 (40 * r + i))) (I 21).toNat 0 0 ∧ sumA (fun r => b2 (¬ F 23 (40 * r + i) = F 22 (40 * r + i))) (I 21).toNat 0 0 ≤ 40 := fun i => by
    have := sumA_bd (f := fun r => b2 (¬ F 23 (40 * r + i) = F 22 (40 * r + i))) (lo := 0) (hi := 1) (I 21).toNat 0 0 (fun j _ _ => b2_rng _)
    omega
  have h3 := sumA_bd (f := (fun i => if handF (F 16) i = x then sumA (fun r => b2 (¬ F 23 (40 * r + i) = F 22 (40 * r + i))) (I 21).toNat 0 0 else 0)) (lo := 0) (hi := 40) w 0 0 (fun j _ _ => by have := h2 j; show 0 ≤ (if _ then _ else (0:Int)) ∧ (if _ then _ else (0:Int)) ≤ 40; split <;> omega)
  generalize sumA (fun i => b2 (handF (F 16) i = x)) w 0 0 = s at h1 ⊢
  have h4 : 0 ≤ s * I 21 := Int.mul_nonneg (by omega) ht.1
  have h5 : s * I 21 ≤ 40 * 40 := Int.mul_le_mul (by omega) ht.2 ht.1 (by decide)
  exact ⟨⟨h4, by omega⟩, by omega, by omega⟩
set_option maxRecDepth 20000 in
theorem k_X1_wagesOf {l0 : Launch} {g : Gw} {w nx : Nat} {h : Nat → va_E} {C : Nat → Nat → Int} {A : Nat → Int → Int} {V : Nat → Value} {I : Nat → Int} {F : Nat → Int → Int} {x : Int} (hR : RCa w C A I F) (hx : inR x) : MD l0 g 3 mX1_wagesOf (cp w C A V h, nx) [.ref 1, .int (iI (x))] 0 0 (some (.int (iI (if 5 * ((sumA (fun i => b2 (handF (F 16) i = x)) w 0 0 * I 21) / 10) - 20 * sumA (fun i => if handF (F 16) i = x then sumA (fun r => b2 (¬ F 23 (40 * r + i) = F 22 (40 * r + i))) (I 21).toNat 0 0 else 0) w 0 0 ≤ 0 then 0 else 5 * ((sumA (fun i => b2 (handF (F 16) i = x)) w 0 0 * I 21) / 10) - 20 * sumA (fun i => if handF (F 16) i = x then sumA (fun r => b2 (¬ F 23 (40 * r + i) = F 22 (40 * r + i))) (I 21).toNat 0 0 else 0) w 0 0)))) (cp w C A V h, nx) := by
  have hw2 := hR.w2
  have ht1 := hR.t1
  have ht2 := hR.t2
  have hwg := wg_rng (I := I) (F := F) (x := x) hw2.2 ht2
  refine MD.of (by decide +kernel) (by simp [Value.category]) (tle rfl) (fun X b => ?_)
  change WW X g _ _ 0 0 0 [some (.ref 1), some (.int (iI (x)))] [] _
  refine z_iconst b dX1_wagesOf_0 ?_
  refine z_iconst b dX1_wagesOf_1 ?_
  refine w_aload_n b dX1_wagesOf_2 rfl rfl ?_
  refine w_iload_n b dX1_wagesOf_3 rfl ?_
  refine c_V1 b dX1_wagesOf_4 lmX1_116 (cpS (tlt rfl) ct_1) (k_X1_knotsBy hR hx) (tle rfl) (by omega) (by omega) (by omega) ?_
  refine z_bipush b dX1_wagesOf_7 (by decide) ?_
  refine z_idiv b dX1_wagesOf_9 (by omega) ?_
  refine z_imul b dX1_wagesOf_10 ?_
  refine z_bipush b dX1_wagesOf_11 (by decide) ?_
  refine w_aload_n b dX1_wagesOf_13 rfl rfl ?_
  refine w_iload_n b dX1_wagesOf_14 rfl ?_
  refine c_V1 b dX1_wagesOf_15 lmX1_119 (cpS (tlt rfl) ct_1) (k_X1_faultsBy hR hx) (tle rfl) (by omega) (by omega) (by omega) ?_
  refine z_imul b dX1_wagesOf_18 ?_
  refine z_isub b dX1_wagesOf_19 ?_
  refine c_S2 b dX1_wagesOf_20 lmX1_98 (k_J9_max_7cf53 (by omega) (by omega)) (tle rfl) (by omega) (by omega) (by omega) ?_
  exact w_iret b dX1_wagesOf_23 rfl (by omega) (by omega) ⟨iv_eq (by first | rfl | omega | ((try simp only [b2]); ((repeat' split) <;> (first | rfl | omega)))), rfl⟩
