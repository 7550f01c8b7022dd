/-! THE CLASS: the carpet, what reads (by p52.py) -/
/-- carpet and wool of the class are the reference's -/
def RCa (w : Nat) (C : Nat → Nat → Int) (A : Nat → Int → Int) (I : Nat → Int) (F : Nat → Int → Int) : Prop := (I 1 = (w : Int)) ∧ (4 ≤ w ∧ w ≤ 40) ∧ (C 1 5 = I 21) ∧ (0 ≤ I 21 ∧ I 21 ≤ 40) ∧ (A 2 = F 16) ∧ (∀ j, 0 ≤ j → j ≤ 5 → 1 ≤ F 16 j ∧ F 16 j ≤ 40) ∧ (A 3 = F 17) ∧ (∀ j, 0 ≤ j → j ≤ 5 → 1 ≤ F 17 j ∧ F 17 j ≤ 20) ∧ (∀ c, 0 ≤ c → c ≤ 7 → C (6 + 3 * c.toNat) 2 = F 18 c) ∧ (∀ c, 0 ≤ c → c ≤ 7 → 0 ≤ F 18 c ∧ F 18 c ≤ 10) ∧ (∀ c l, 0 ≤ c → c ≤ 7 → 0 ≤ l → l < 10 → A (6 + 3 * c.toNat + 1) l = F 19 (10 * c + l)) ∧ (∀ j, 0 ≤ j → j < 80 → 0 ≤ F 19 j ∧ F 19 j ≤ 9) ∧ (∀ c l, 0 ≤ c → c ≤ 7 → 0 ≤ l → l < 10 → A (6 + 3 * c.toNat + 2) l = F 20 (10 * c + l)) ∧ (∀ j, 0 ≤ j → j < 80 → 0 ≤ F 20 j ∧ F 20 j ≤ 1000) ∧ (lz (F 20) (F 18)) ∧ (∀ r i, 0 ≤ r → r < 40 → 0 ≤ i → i < (w : Int) → A (30 + 5 * r.toNat + 1) i = F 22 (40 * r + i)) ∧ (∀ r i, 0 ≤ r → r < 40 → 0 ≤ i → i < (w : Int) → A (30 + 5 * r.toNat + 2) i = F 23 (40 * r + i)) ∧ (∀ r i, 0 ≤ r → r < 40 → 0 ≤ i → i < (w : Int) → A (30 + 5 * r.toNat + 3) i = F 24 (40 * r + i)) ∧ (∀ r i, 0 ≤ r → r < 40 → 0 ≤ i → i < (w : Int) → A (30 + 5 * r.toNat + 4) i = F 25 (40 * r + i)) ∧ (∀ j, 0 ≤ j → j < 1600 → 0 ≤ F 22 j ∧ F 22 j ≤ 7) ∧ (∀ j, 0 ≤ j → j < 1600 → 0 ≤ F 23 j ∧ F 23 j ≤ 7) ∧ (∀ j, 0 ≤ j → j < 1600 → 0 ≤ F 24 j ∧ F 24 j ≤ 9) ∧ (∀ j, 0 ≤ j → j < 1600 → 0 ≤ F 25 j ∧ F 25 j ≤ 11) ∧ (∀ r, 0 ≤ r → r < 40 → C (30 + 5 * r.toNat) 4 = F 26 r) ∧ (∀ r, 0 ≤ r → r < 40 → 0 ≤ F 26 r ∧ F 26 r ≤ 99)
theorem RCa.w1 {w : Nat} {C : Nat → Nat → Int} {A : Nat → Int → Int} {I : Nat → Int} {F : Nat → Int → Int} (hR : RCa w C A I F) : I 1 = (w : Int) := hR.1
theorem RCa.w2 {w : Nat} {C : Nat → Nat → Int} {A : Nat → Int → Int} {I : Nat → Int} {F : Nat → Int → Int} (hR : RCa w C A I F) : 4 ≤ w ∧ w ≤ 40 := hR.2.1
theorem RCa.t1 {w : Nat} {C : Nat → Nat → Int} {A : Nat → Int → Int} {I : Nat → Int} {F : Nat → Int → Int} (hR : RCa w C A I F) : C 1 5 = I 21 := hR.2.2.1
theorem RCa.t2 {w : Nat} {C : Nat → Nat → Int} {A : Nat → Int → Int} {I : Nat → Int} {F : Nat → Int → Int} (hR : RCa w C A I F) : 0 ≤ I 21 ∧ I 21 ≤ 40 := hR.2.2.2.1
theorem RCa.a2 {w : Nat} {C : Nat → Nat → Int} {A : Nat → Int → Int} {I : Nat → Int} {F : Nat → Int → Int} (hR : RCa w C A I F) : A 2 = F 16 := hR.2.2.2.2.1
theorem RCa.b16 {w : Nat} {C : Nat → Nat → Int} {A : Nat → Int → Int} {I : Nat → Int} {F : Nat → Int → Int} (hR : RCa w C A I F) : ∀ j, 0 ≤ j → j ≤ 5 → 1 ≤ F 16 j ∧ F 16 j ≤ 40 := hR.2.2.2.2.2.1
theorem RCa.a3 {w : Nat} {C : Nat → Nat → Int} {A : Nat → Int → Int} {I : Nat → Int} {F : Nat → Int → Int} (hR : RCa w C A I F) : A 3 = F 17 := hR.2.2.2.2.2.2.1
theorem RCa.b17 {w : Nat} {C : Nat → Nat → Int} {A : Nat → Int → Int} {I : Nat → Int} {F : Nat → Int → Int} (hR : RCa w C A I F) : ∀ j, 0 ≤ j → j ≤ 5 → 1 ≤ F 17 j ∧ F 17 j ≤ 20 := hR.2.2.2.2.2.2.2.1
theorem RCa.c18 {w : Nat} {C : Nat → Nat → Int} {A : Nat → Int → Int} {I : Nat → Int} {F : Nat → Int → Int} (hR : RCa w C A I F) : ∀ c, 0 ≤ c → c ≤ 7 → C (6 + 3 * c.toNat) 2 = F 18 c := hR.2.2.2.2.2.2.2.2.1
theorem RCa.b18 {w : Nat} {C : Nat → Nat → Int} {A : Nat → Int → Int} {I : Nat → Int} {F : Nat → Int → Int} (hR : RCa w C A I F) : ∀ c, 0 ≤ c → c ≤ 7 → 0 ≤ F 18 c ∧ F 18 c ≤ 10 := hR.2.2.2.2.2.2.2.2.2.1
theorem RCa.a19 {w : Nat} {C : Nat → Nat → Int} {A : Nat → Int → Int} {I : Nat → Int} {F : Nat → Int → Int} (hR : RCa w C A I F) : ∀ c l, 0 ≤ c → c ≤ 7 → 0 ≤ l → l < 10 → A (6 + 3 * c.toNat + 1) l = F 19 (10 * c + l) := hR.2.2.2.2.2.2.2.2.2.2.1
theorem RCa.b19 {w : Nat} {C : Nat → Nat → Int} {A : Nat → Int → Int} {I : Nat → Int} {F : Nat → Int → Int} (hR : RCa w C A I F) : ∀ j, 0 ≤ j → j < 80 → 0 ≤ F 19 j ∧ F 19 j ≤ 9 := hR.2.2.2.2.2.2.2.2.2.2.2.1
theorem RCa.a20 {w : Nat} {C : Nat → Nat → Int} {A : Nat → Int → Int} {I : Nat → Int} {F : Nat → Int → Int} (hR : RCa w C A I F) : ∀ c l, 0 ≤ c → c ≤ 7 → 0 ≤ l → l < 10 → A (6 + 3 * c.toNat + 2) l = F 20 (10 * c + l) := hR.2.2.2.2.2.2.2.2.2.2.2.2.1
theorem RCa.b20 {w : Nat} {C : Nat → Nat → Int} {A : Nat → Int → Int} {I : Nat → Int} {F : Nat → Int → Int} (hR : RCa w C A I F) : ∀ j, 0 ≤ j → j < 80 → 0 ≤ F 20 j ∧ F 20 j ≤ 1000 := hR.2.2.2.2.2.2.2.2.2.2.2.2.2.1
theorem RCa.z20 {w : Nat} {C : Nat → Nat → Int} {A : Nat → Int → Int} {I : Nat → Int} {F : Nat → Int → Int} (hR : RCa w C A I F) : lz (F 20) (F 18) := hR.2.2.2.2.2.2.2.2.2.2.2.2.2.2.1
theorem RCa.a22 {w : Nat} {C : Nat → Nat → Int} {A : Nat → Int → Int} {I : Nat → Int} {F : Nat → Int → Int} (hR : RCa w C A I F) : ∀ r i, 0 ≤ r → r < 40 → 0 ≤ i → i < (w : Int) → A (30 + 5 * r.toNat + 1) i = F 22 (40 * r + i) := hR.2.2.2.2.2.2.2.2.2.2.2.2.2.2.2.1
theorem RCa.a23 {w : Nat} {C : Nat → Nat → Int} {A : Nat → Int → Int} {I : Nat → Int} {F : Nat → Int → Int} (hR : RCa w C A I F) : ∀ r i, 0 ≤ r → r < 40 → 0 ≤ i → i < (w : Int) → A (30 + 5 * r.toNat + 2) i = F 23 (40 * r + i) := hR.2.2.2.2.2.2.2.2.2.2.2.2.2.2.2.2.1
theorem RCa.a24 {w : Nat} {C : Nat → Nat → Int} {A : Nat → Int → Int} {I : Nat → Int} {F : Nat → Int → Int} (hR : RCa w C A I F) : ∀ r i, 0 ≤ r → r < 40 → 0 ≤ i → i < (w : Int) → A (30 + 5 * r.toNat + 3) i = F 24 (40 * r + i) := hR.2.2.2.2.2.2.2.2.2.2.2.2.2.2.2.2.2.1
theorem RCa.a25 {w : Nat} {C : Nat → Nat → Int} {A : Nat → Int → Int} {I : Nat → Int} {F : Nat → Int → Int} (hR : RCa w C A I F) : ∀ r i, 0 ≤ r → r < 40 → 0 ≤ i → i < (w : Int) → A (30 + 5 * r.toNat + 4) i = F 25 (40 * r + i) := hR.2.2.2.2.2.2.2.2.2.2.2.2.2.2.2.2.2.2.1
theorem RCa.b22 {w : Nat} {C : Nat → Nat → Int} {A : Nat → Int → Int} {I : Nat → Int} {F : Nat → Int → Int} (hR : RCa w C A I F) : ∀ j, 0 ≤ j → j < 1600 → 0 ≤ F 22 j ∧ F 22 j ≤ 7 := hR.2.2.2.2.2.2.2.2.2.2.2.2.2.2.2.2.2.2.2.1
theorem RCa.b23 {w : Nat} {C : Nat → Nat → Int} {A : Nat → Int → Int} {I : Nat → Int} {F : Nat → Int → Int} (hR : RCa w C A I F) : ∀ j, 0 ≤ j → j < 1600 → 0 ≤ F 23 j ∧ F 23 j ≤ 7 := hR.2.2.2.2.2.2.2.2.2.2.2.2.2.2.2.2.2.2.2.2.1
theorem RCa.b24 {w : Nat} {C : Nat → Nat → Int} {A : Nat → Int → Int} {I : Nat → Int} {F : Nat → Int → Int} (hR : RCa w C A I F) : ∀ j, 0 ≤ j → j < 1600 → 0 ≤ F 24 j ∧ F 24 j ≤ 9 := hR.2.2.2.2.2.2.2.2.2.2.2.2.2.2.2.2.2.2.2.2.2.1
theorem RCa.b25 {w : Nat} {C : Nat → Nat → Int} {A : Nat → Int → Int} {I : Nat → Int} {F : Nat → Int → Int} (hR : RCa w C A I F) : ∀ j, 0 ≤ j → j < 1600 → 0 ≤ F 25 j ∧ F 25 j ≤ 11 := hR.2.2.2.2.2.2.2.2.2.2.2.2.2.2.2.2.2.2.2.2.2.2.1
theorem RCa.c26 {w : Nat} {C : Nat → Nat → Int} {A : Nat → Int → Int} {I : Nat → Int} {F : Nat → Int → Int} (hR : RCa w C A I F) : ∀ r, 0 ≤ r → r < 40 → C (30 + 5 * r.toNat) 4 = F 26 r := hR.2.2.2.2.2.2.2.2.2.2.2.2.2.2.2.2.2.2.2.2.2.2.2.1
theorem RCa.b26 {w : Nat} {C : Nat → Nat → Int} {A : Nat → Int → Int} {I : Nat → Int} {F : Nat → Int → Int} (hR : RCa w C A I F) : ∀ r, 0 ≤ r → r < 40 → 0 ≤ F 26 r ∧ F 26 r ≤ 99 := hR.2.2.2.2.2.2.2.2.2.2.2.2.2.2.2.2.2.2.2.2.2.2.2.2
section FWV
variable {X : Cx} {l0 : Launch} {g : Gw} {μ : Md} {d mc ms : Nat} {Z : State → Prop} {kc ks pc : Nat} {L : List (Option Value)} {st : List Value} {σ : Sg}
theorem y_top {x y : Int} (e : x = y) (kk : WW X g μ.2.2.1 Z kc ks pc L (.int (iI y) :: st) σ) : WW X g μ.2.2.1 Z kc ks pc L (.int (iI x) :: st) σ := by rw [e]; exact kk
end FWV
set_option maxRecDepth 20000 in
theorem l_X7_leftInAll {X : Cx} {l0 : Launch} {g : Gw} {Z : State → Prop} {w nx : Nat} {h : Nat → va_E} {C : Nat → Nat → Int} {A : Nat → Int → Int} {V : Nat → Value} (b : BX X l0 g mX7_leftInAll 0 0 0) {c : Int} {I : Nat → Int} {F : Nat → Int → Int} (hR : RCa w C A I F) (hc : 0 ≤ c ∧ c ≤ 7) : ∀ (n : Nat) (l a : Int), (l + n = F 18 c) → (0 ≤ l) → WW X g mX7_leftInAll.2.2.1 Z 0 0 27 [some (.ref (6 + 3 * c.toNat)), some (.int (iI (sumA (fun l => F 20 (10 * c + l)) n l a))), none] [] (cp w C A V h, nx) → WW X g mX7_leftInAll.2.2.1 Z 0 0 4 [some (.ref (6 + 3 * c.toNat)), some (.int (iI (a))), some (.int (iI (l)))] [] (cp w C A V h, nx) := by
  intro n
  induction n with
  | zero =>
    intro l a h1 h2 kk
    have hb18 := hR.b18 c hc.1 hc.2
    refine w_iload_n b dX7_leftInAll_4 rfl ?_
    refine w_aload_n b dX7_leftInAll_5 rfl rfl ?_
    refine q_get b dX7_leftInAll_6 lfX7_18 (by omega) (ct_wool (by omega)) rfl ?_
    refine y_top (hR.c18 _ (by omega) (by omega)) ?_
    refine z_icmp_ge (tgt := 27) b dX7_leftInAll_9 (by decide) (by omega) (fun c9 => ?_) (fun c9 => ?_)
    · refine ww_forget 2 ?_
      exact kk
    · exfalso; omega
  | succ n ih =>
    intro l a h1 h2 kk
    have hb18 := hR.b18 c hc.1 hc.2
    refine w_iload_n b dX7_leftInAll_4 rfl ?_
    refine w_aload_n b dX7_leftInAll_5 rfl rfl ?_
    refine q_get b dX7_leftInAll_6 lfX7_18 (by omega) (ct_wool (by omega)) rfl ?_
    refine y_top (hR.c18 _ (by omega) (by omega)) ?_
    refine z_icmp_ge (tgt := 27) b dX7_leftInAll_9 (by decide) (by omega) (fun c9 => ?_) (fun c9 => ?_)
    · exfalso; omega
    · refine w_iload_n b dX7_leftInAll_12 rfl ?_
      refine w_aload_n b dX7_leftInAll_13 rfl rfl ?_
      refine q_get b dX7_leftInAll_14 lfX7_15 (by omega) (ct_wool (by omega)) rfl ?_
      refine w_iload_n b dX7_leftInAll_17 rfl ?_
      refine q_iald b dX7_leftInAll_18 (by omega) (ct_wool2 (by omega)) (by omega) ?_
      refine y_top (hR.a20 _ _ (by omega) (by omega) (by omega) (by omega)) ?_
      refine z_iadd b dX7_leftInAll_19 ?_
      refine w_istore_n b dX7_leftInAll_20 (tlt rfl) rfl ?_
      refine z_iinc b dX7_leftInAll_21 rfl rfl rfl ?_
      refine w_goto (tgt := 4) b dX7_leftInAll_24 (by decide) ?_
      exact ih (l + 1) _ (by omega) (by omega) kk
set_option maxRecDepth 20000 in
theorem l_X1_knotsBy {X : Cx} {l0 : Launch} {g : Gw} {Z : State → Prop} {w nx : Nat} {h : Nat → va_E} {C : Nat → Nat → Int} {A : Nat → Int → Int} {V : Nat → Value} (b : BX X l0 g mX1_knotsBy 1 0 0) {x : Int} {I : Nat → Int} {F : Nat → Int → Int} (hR : RCa w C A I F) (hx : inR x) : ∀ (n : Nat) (i a : Int), (i + n = w) → (0 ≤ i) → WW X g mX1_knotsBy.2.2.1 Z 0 0 30 [some (.ref 1), some (.int (iI (x))), some (.int (iI (sumA (fun i => b2 (handF (F 16) i = x)) n i a))), none] [] (cp w C A V h, nx) → WW X g mX1_knotsBy.2.2.1 Z 0 0 4 [some (.ref 1), some (.int (iI (x))), some (.int (iI (a))), some (.int (iI (i)))] [] (cp w C A V h, nx) := by
  intro n
  induction n with
  | zero =>
    intro i a h1 h2 kk
    have hw2 := hR.w2
    have ht1 := hR.t1
    have ht2 := hR.t2
    refine w_iload_n b dX1_knotsBy_4 rfl ?_
    refine w_aload_n b dX1_knotsBy_5 rfl rfl ?_
    refine q_get b dX1_knotsBy_6 lfX1_30 (tlt rfl) ct_1 rfl ?_
    refine z_icmp_ge (tgt := 30) b dX1_knotsBy_9 (by decide) (by omega) (fun c9 => ?_) (fun c9 => ?_)
    · refine ww_forget 3 ?_
      exact kk
    · exfalso; omega
  | succ n ih =>
    intro i a h1 h2 kk
    have hw2 := hR.w2
    have ht1 := hR.t1
    have ht2 := hR.t2
    refine w_iload_n b dX1_knotsBy_4 rfl ?_
    refine w_aload_n b dX1_knotsBy_5 rfl rfl ?_
    refine q_get b dX1_knotsBy_6 lfX1_30 (tlt rfl) ct_1 rfl ?_
    refine z_icmp_ge (tgt := 30) b dX1_knotsBy_9 (by decide) (by omega) (fun c9 => ?_) (fun c9 => ?_)
    · exfalso; omega
    · refine w_aload_n b dX1_knotsBy_12 rfl rfl ?_
      refine w_iload_n b dX1_knotsBy_13 rfl ?_
      refine c_V1 b dX1_knotsBy_14 lmX1_88 (cpS (tlt rfl) ct_1) (k_X1_handAt (by omega) (fun j h1 h2 => by rw [hR.a2]; exact hR.b16 j h1 h2)) (tle rfl) (by omega) (by omega) (by omega) ?_
      refine y_top (by rw [hR.a2]) ?_
      refine w_iload_n b dX1_knotsBy_17 rfl ?_
      refine z_icmp_ne (tgt := 24) b dX1_knotsBy_18 (by decide) (by have := handF_rng (F 16) i; omega) (fun c18 => ?_) (fun c18 => ?_)
      · have e1 : a + b2 (handF (F 16) i = x) = a := by rw [b2_f c18]; omega
        refine z_iinc b dX1_knotsBy_24 rfl rfl rfl ?_
        refine w_goto (tgt := 4) b dX1_knotsBy_27 (by decide) ?_
        have kk : WW X g mX1_knotsBy.2.2.1 Z 0 0 30 [some (.ref 1), some (.int (iI x)), some (.int (iI (sumA (fun i => b2 (handF (F 16) i = x)) n (i + 1) (a + b2 (handF (F 16) i = x))))), none] [] (cp w C A V h, nx) := kk
        rw [e1] at kk
        exact ih (i + 1) _ (by omega) (by omega) kk
      · have e1 : a + b2 (handF (F 16) i = x) = a + 1 := by rw [b2_t c18]
        refine z_iinc b dX1_knotsBy_21 rfl rfl rfl ?_
        refine z_iinc b dX1_knotsBy_24 rfl rfl rfl ?_
        refine w_goto (tgt := 4) b dX1_knotsBy_27 (by decide) ?_
        have kk : WW X g mX1_knotsBy.2.2.1 Z 0 0 30 [some (.ref 1), some (.int (iI x)), some (.int (iI (sumA (fun i => b2 (handF (F 16) i = x)) n (i + 1) (a + b2 (handF (F 16) i = x))))), none] [] (cp w C A V h, nx) := kk
        rw [e1] at kk
        exact ih (i + 1) _ (by omega) (by omega) kk
set_option maxRecDepth 20000 in
theorem l_X1_faultsAt {X : Cx} {l0 : Launch} {g : Gw} {Z : State → Prop} {w nx : Nat} {h : Nat → va_E} {C : Nat → Nat → Int} {A : Nat → Int → Int} {V : Nat → Value} (b : BX X l0 g mX1_faultsAt 1 0 0) {p : Int} {I : Nat → Int} {F : Nat → Int → Int} (hR : RCa w C A I F) (hp : 0 ≤ p ∧ p < (w : Int)) : ∀ (n : Nat) (r a : Int), (r + n = I 21) → (0 ≤ r) → WW X g mX1_faultsAt.2.2.1 Z 0 0 34 [some (.ref 1), some (.int (iI (p))), some (.int (iI (sumA (fun r => b2 (¬ F 23 (40 * r + p) = F 22 (40 * r + p))) n r a))), none] [] (cp w C A V h, nx) → WW X g mX1_faultsAt.2.2.1 Z 0 0 4 [some (.ref 1), some (.int (iI (p))), some (.int (iI (a))), some (.int (iI (r)))] [] (cp w C A V h, nx) := by
  intro n
  induction n with
  | zero =>
    intro r a h1 h2 kk
    have hw2 := hR.w2
    have ht1 := hR.t1
    have ht2 := hR.t2
    refine w_iload_n b dX1_faultsAt_4 rfl ?_
    refine w_aload_n b dX1_faultsAt_5 rfl rfl ?_
    refine q_get b dX1_faultsAt_6 lfX1_38 (tlt rfl) ct_1 rfl ?_
    refine z_icmp_ge (tgt := 34) b dX1_faultsAt_9 (by decide) (by omega) (fun c9 => ?_) (fun c9 => ?_)
    · refine ww_forget 3 ?_
      exact kk
    · exfalso; omega
  | succ n ih =>
    intro r a h1 h2 kk
    have hw2 := hR.w2
    have ht1 := hR.t1
    have ht2 := hR.t2
    refine w_iload_n b dX1_faultsAt_4 rfl ?_
    refine w_aload_n b dX1_faultsAt_5 rfl rfl ?_
    refine q_get b dX1_faultsAt_6 lfX1_38 (tlt rfl) ct_1 rfl ?_
    refine z_icmp_ge (tgt := 34) b dX1_faultsAt_9 (by decide) (by omega) (fun c9 => ?_) (fun c9 => ?_)
    · exfalso; omega
    · refine w_aload_n b dX1_faultsAt_12 rfl rfl ?_
      refine q_get b dX1_faultsAt_13 lfX1_26 (tlt rfl) ct_1 rfl ?_
      refine w_iload_n b dX1_faultsAt_16 rfl ?_
      refine q_aald b dX1_faultsAt_17 (tlt rfl) ct_5 (by omega) (by omega) ?_
      refine w_iload_n b dX1_faultsAt_18 rfl ?_
      refine c_V1 b dX1_faultsAt_19 lmX1_113 (cpS (by omega) (ct_row (by omega))) (k_X3_isFault (by omega) (by omega) hR.w2 (by rw [hR.a22 _ _ (by omega) (by omega) (by omega) (by omega)]; have := hR.b22 (40 * r + p) (by omega) (by omega); omega) (by rw [hR.a23 _ _ (by omega) (by omega) (by omega) (by omega)]; have := hR.b23 (40 * r + p) (by omega) (by omega); omega)) (tle rfl) (by omega) (by omega) (by omega) ?_
      refine y_top (by rw [hR.a22 r p (by omega) (by omega) (by omega) (by omega), hR.a23 r p (by omega) (by omega) (by omega) (by omega)]) ?_
      refine z_ifb_eq (tgt := 28) b dX1_faultsAt_22 (by decide) (fun c22 => ?_) (fun c22 => ?_)
      · have e1 : a + b2 (¬ F 23 (40 * r + p) = F 22 (40 * r + p)) = a := by rw [b2_f c22]; omega
        refine z_iinc b dX1_faultsAt_28 rfl rfl rfl ?_
        refine w_goto (tgt := 4) b dX1_faultsAt_31 (by decide) ?_
        have kk : WW X g mX1_faultsAt.2.2.1 Z 0 0 34 [some (.ref 1), some (.int (iI p)), some (.int (iI (sumA (fun r => b2 (¬ F 23 (40 * r + p) = F 22 (40 * r + p))) n (r + 1) (a + b2 (¬ F 23 (40 * r + p) = F 22 (40 * r + p)))))), none] [] (cp w C A V h, nx) := kk
        rw [e1] at kk
        exact ih (r + 1) _ (by omega) (by omega) kk
      · have e1 : a + b2 (¬ F 23 (40 * r + p) = F 22 (40 * r + p)) = a + 1 := by rw [b2_t c22]
        refine z_iinc b dX1_faultsAt_25 rfl rfl rfl ?_
        refine z_iinc b dX1_faultsAt_28 rfl rfl rfl ?_
        refine w_goto (tgt := 4) b dX1_faultsAt_31 (by decide) ?_
        have kk : WW X g mX1_faultsAt.2.2.1 Z 0 0 34 [some (.ref 1), some (.int (iI p)), some (.int (iI (sumA (fun r => b2 (¬ F 23 (40 * r + p) = F 22 (40 * r + p))) n (r + 1) (a + b2 (¬ F 23 (40 * r + p) = F 22 (40 * r + p)))))), none] [] (cp w C A V h, nx) := kk
        rw [e1] at kk
        exact ih (r + 1) _ (by omega) (by omega) kk
set_option maxRecDepth 20000 in
theorem k_X7_leftInAll {l0 : Launch} {g : Gw} {w nx : Nat} {h : Nat → va_E} {C : Nat → Nat → Int} {A : Nat → Int → Int} {V : Nat → Value} {I : Nat → Int} {F : Nat → Int → Int} {c : Int} (hR : RCa w C A I F) (hc : 0 ≤ c ∧ c ≤ 7) : MD l0 g 0 mX7_leftInAll (cp w C A V h, nx) [.ref (6 + 3 * c.toNat)] 0 0 (some (.int (iI (sumA (fun l => F 20 (10 * c + l)) (F 18 c).toNat 0 0)))) (cp w C A V h, nx) := by
  have hb18 := hR.b18 c hc.1 hc.2
  refine MD.of (by decide +kernel) (by simp [Value.category]) (tle rfl) (fun X b => ?_)
  change WW X g _ _ 0 0 0 [some (.ref (6 + 3 * c.toNat)), none, none] [] _
  refine z_iconst b dX7_leftInAll_0 ?_
  refine w_istore_n b dX7_leftInAll_1 (tlt rfl) rfl ?_
  refine z_iconst b dX7_leftInAll_2 ?_
  refine w_istore_n b dX7_leftInAll_3 (tlt rfl) rfl ?_
  refine l_X7_leftInAll b hR hc (F 18 c).toNat 0 0 (by omega) (by omega) ?_
  refine w_iload_n b dX7_leftInAll_27 rfl ?_
  exact w_iret b dX7_leftInAll_28 rfl (by omega) (by omega) ⟨iv_eq (by first | rfl | omega | ((try simp only [b2]); ((repeat' split) <;> (first | rfl | omega)))), rfl⟩
set_option maxRecDepth 20000 in
theorem k_X1_knotsBy {l0 : Launch} {g : Gw} {w nx : Nat} {h : Nat → va_E} {C : Nat → Nat → Int} {A : Nat → Int → Int} {V : Nat → Value} {I : Nat → Int} {F : Nat → Int → Int} {x : Int} (hR : RCa w C A I F) (hx : inR x) : MD l0 g 1 mX1_knotsBy (cp w C A V h, nx) [.ref 1, .int (iI (x))] 0 0 (some (.int (iI (sumA (fun i => b2 (handF (F 16) i = x)) w 0 0 * I 21)))) (cp w C A V h, nx) := by
  have hw2 := hR.w2
  have ht1 := hR.t1
  have ht2 := hR.t2
  refine MD.of (by decide +kernel) (by simp [Value.category]) (tle rfl) (fun X b => ?_)
  change WW X g _ _ 0 0 0 [some (.ref 1), some (.int (iI (x))), none, none] [] _
  refine z_iconst b dX1_knotsBy_0 ?_
  refine w_istore_n b dX1_knotsBy_1 (tlt rfl) rfl ?_
  refine z_iconst b dX1_knotsBy_2 ?_
  refine w_istore_n b dX1_knotsBy_3 (tlt rfl) rfl ?_
  refine l_X1_knotsBy b hR hx w 0 0 (by omega) (by omega) ?_
  refine w_iload_n b dX1_knotsBy_30 rfl ?_
  refine w_aload_n b dX1_knotsBy_31 rfl rfl ?_
  refine q_get b dX1_knotsBy_32 lfX1_38 (tlt rfl) ct_1 rfl ?_
  refine y_top ht1 ?_
  refine z_imul b dX1_knotsBy_35 ?_
  exact w_iret b dX1_knotsBy_36 rfl (by omega) (by omega) ⟨iv_eq (by first | rfl | omega | ((try simp only [b2]); ((repeat' split) <;> (first | rfl | omega)))), rfl⟩
set_option maxRecDepth 20000 in
theorem k_X1_faultsAt {l0 : Launch} {g : Gw} {w nx : Nat} {h : Nat → va_E} {C : Nat → Nat → Int} {A : Nat → Int → Int} {V : Nat → Value} {I : Nat → Int} {F : Nat → Int → Int} {p : Int} (hR : RCa w C A I F) (hp : 0 ≤ p ∧ p < (w : Int)) : MD l0 g 1 mX1_faultsAt (cp w C A V h, nx) [.ref 1, .int (iI (p))] 0 0 (some (.int (iI (sumA (fun r => b2 (¬ F 23 (40 * r + p) = F 22 (40 * r + p))) (I 21).toNat 0 0)))) (cp w C A V h, nx) := by
  have hw2 := hR.w2
  have ht1 := hR.t1
  have ht2 := hR.t2
  refine MD.of (by decide +kernel) (by simp [Value.category]) (tle rfl) (fun X b => ?_)
  change WW X g _ _ 0 0 0 [some (.ref 1), some (.int (iI (p))), none, none] [] _
  refine z_iconst b dX1_faultsAt_0 ?_
  refine w_istore_n b dX1_faultsAt_1 (tlt rfl) rfl ?_
  refine z_iconst b dX1_faultsAt_2 ?_
  refine w_istore_n b dX1_faultsAt_3 (tlt rfl) rfl ?_
  refine l_X1_faultsAt b hR hp (I 21).toNat 0 0 (by omega) (by omega) ?_
  refine w_iload_n b dX1_faultsAt_34 rfl ?_
  exact w_iret b dX1_faultsAt_35 rfl (by omega) (by omega) ⟨iv_eq (by first | rfl | omega | ((try simp only [b2]); ((repeat' split) <;> (first | rfl | omega)))), rfl⟩
set_option maxRecDepth 20000 in
theorem l_X1_faultsBy {X : Cx} {l0 : Launch} {g : Gw} {Z : State → Prop} {w nx : Nat} {h : Nat → va_E} {C : Nat → Nat → Int} {A : Nat → Int → Int} {V : Nat → Value} (b : BX X l0 g mX1_faultsBy 2 0 0) {x : Int} {I : Nat → Int} {F : Nat → Int → Int} (hR : RCa w C A I F) (hx : inR x) : ∀ (n : Nat) (i a : Int), (i + n = w) → (0 ≤ i) → WW X g mX1_faultsBy.2.2.1 Z 0 0 35 [some (.ref 1), some (.int (iI (x))), some (.int (iI (sumA (fun i => if handF (F 16) i = x then sumA (fun r => b2 (¬ F 23 (40 * r + i) = F 22 (40 * r + i))) (I 21).toNat 0 0 else 0) n i a))), none] [] (cp w C A V h, nx) → WW X g mX1_faultsBy.2.2.1 Z 0 0 4 [some (.ref 1), some (.int (iI (x))), some (.int (iI (a))), some (.int (iI (i)))] [] (cp w C A V h, nx) := by
  intro n
  induction n with
  | zero =>
    intro i a h1 h2 kk
    have hw2 := hR.w2
    have ht1 := hR.t1
    have ht2 := hR.t2
    refine w_iload_n b dX1_faultsBy_4 rfl ?_
    refine w_aload_n b dX1_faultsBy_5 rfl rfl ?_
    refine q_get b dX1_faultsBy_6 lfX1_30 (tlt rfl) ct_1 rfl ?_
    refine z_icmp_ge (tgt := 35) b dX1_faultsBy_9 (by decide) (by omega) (fun c9 => ?_) (fun c9 => ?_)
    · refine ww_forget 3 ?_
      exact kk
    · exfalso; omega
  | succ n ih =>
    intro i a h1 h2 kk
    have hw2 := hR.w2
    have ht1 := hR.t1
    have ht2 := hR.t2
    refine w_iload_n b dX1_faultsBy_4 rfl ?_
    refine w_aload_n b dX1_faultsBy_5 rfl rfl ?_
    refine q_get b dX1_faultsBy_6 lfX1_30 (tlt rfl) ct_1 rfl ?_
    refine z_icmp_ge (tgt := 35) b dX1_faultsBy_9 (by decide) (by omega) (fun c9 => ?_) (fun c9 => ?_)
    · exfalso; omega
    · refine w_aload_n b dX1_faultsBy_12 rfl rfl ?_
      refine w_iload_n b dX1_faultsBy_13 rfl ?_
      refine c_V1 b dX1_faultsBy_14 lmX1_88 (cpS (tlt rfl) ct_1) (k_X1_handAt (by omega) (fun j h1 h2 => by rw [hR.a2]; exact hR.b16 j h1 h2)) (tle rfl) (by omega) (by omega) (by omega) ?_
      refine y_top (by rw [hR.a2]) ?_
      refine w_iload_n b dX1_faultsBy_17 rfl ?_
      refine z_icmp_ne (tgt := 29) b dX1_faultsBy_18 (by decide) (by have := handF_rng (F 16) i; omega) (fun c18 => ?_) (fun c18 => ?_)
      · have e1 : (if handF (F 16) i = x then sumA (fun r => b2 (¬ F 23 (40 * r + i) = F 22 (40 * r + i))) (I 21).toNat 0 0 else 0) = 0 := if_neg c18
        have kk : WW X g mX1_faultsBy.2.2.1 Z 0 0 35 [some (.ref 1), some (.int (iI x)), some (.int (iI (sumA (fun i => if handF (F 16) i = x then sumA (fun r => b2 (¬ F 23 (40 * r + i) = F 22 (40 * r + i))) (I 21).toNat 0 0 else 0) n (i + 1) (a + (if handF (F 16) i = x then sumA (fun r => b2 (¬ F 23 (40 * r + i) = F 22 (40 * r + i))) (I 21).toNat 0 0 else 0))))), none] [] (cp w C A V h, nx) := kk
        rw [e1, Int.add_zero] at kk
        refine z_iinc b dX1_faultsBy_29 rfl rfl rfl ?_
        refine w_goto (tgt := 4) b dX1_faultsBy_32 (by decide) ?_
        exact ih (i + 1) _ (by omega) (by omega) kk
      · have e1 : (if handF (F 16) i = x then sumA (fun r => b2 (¬ F 23 (40 * r + i) = F 22 (40 * r + i))) (I 21).toNat 0 0 else 0) = sumA (fun r => b2 (¬ F 23 (40 * r + i) = F 22 (40 * r + i))) (I 21).toNat 0 0 := if_pos c18
        have kk : WW X g mX1_faultsBy.2.2.1 Z 0 0 35 [some (.ref 1), some (.int (iI x)), some (.int (iI (sumA (fun i => if handF (F 16) i = x then sumA (fun r => b2 (¬ F 23 (40 * r + i) = F 22 (40 * r + i))) (I 21).toNat 0 0 else 0) n (i + 1) (a + (if handF (F 16) i = x then sumA (fun r => b2 (¬ F 23 (40 * r + i) = F 22 (40 * r + i))) (I 21).toNat 0 0 else 0))))), none] [] (cp w C A V h, nx) := kk
        rw [e1] at kk
        refine w_iload_n b dX1_faultsBy_21 rfl ?_
        refine w_aload_n b dX1_faultsBy_22 rfl rfl ?_
        refine w_iload_n b dX1_faultsBy_23 rfl ?_
        refine c_V1 b dX1_faultsBy_24 lmX1_110 (cpS (tlt rfl) ct_1) (k_X1_faultsAt hR (by omega)) (tle rfl) (by omega) (by omega) (by omega) ?_
        refine z_iadd b dX1_faultsBy_27 ?_
        refine w_istore_n b dX1_faultsBy_28 (tlt rfl) rfl ?_
        refine z_iinc b dX1_faultsBy_29 rfl rfl rfl ?_
        refine w_goto (tgt := 4) b dX1_faultsBy_32 (by decide) ?_
        exact ih (i + 1) _ (by omega) (by omega) kk
set_option maxRecDepth 20000 in
theorem l_X1_faultsInAll {X : Cx} {l0 : Launch} {g : Gw} {Z : State → Prop} {w nx : Nat} {h : Nat → va_E} {C : Nat → Nat → Int} {A : Nat → Int → Int} {V : Nat → Value} (b : BX X l0 g mX1_faultsInAll 2 0 0) {I : Nat → Int} {F : Nat → Int → Int} (hR : RCa w C A I F) : ∀ (n : Nat) (i a : Int), (i + n = w) → (0 ≤ i) → WW X g mX1_faultsInAll.2.2.1 Z 0 0 26 [some (.ref 1), some (.int (iI (sumA (fun i => sumA (fun r => b2 (¬ F 23 (40 * r + i) = F 22 (40 * r + i))) (I 21).toNat 0 0) n i a))), none] [] (cp w C A V h, nx) → WW X g mX1_faultsInAll.2.2.1 Z 0 0 4 [some (.ref 1), some (.int (iI (a))), some (.int (iI (i)))] [] (cp w C A V h, nx) := by
  intro n
  induction n with
  | zero =>
    intro i a h1 h2 kk
    have hw2 := hR.w2
    have ht1 := hR.t1
    have ht2 := hR.t2
    refine w_iload_n b dX1_faultsInAll_4 rfl ?_
    refine w_aload_n b dX1_faultsInAll_5 rfl rfl ?_
    refine q_get b dX1_faultsInAll_6 lfX1_30 (tlt rfl) ct_1 rfl ?_
    refine z_icmp_ge (tgt := 26) b dX1_faultsInAll_9 (by decide) (by omega) (fun c9 => ?_) (fun c9 => ?_)
    · refine ww_forget 2 ?_
      exact kk
    · exfalso; omega
  | succ n ih =>
    intro i a h1 h2 kk
    have hw2 := hR.w2
    have ht1 := hR.t1
    have ht2 := hR.t2
    refine w_iload_n b dX1_faultsInAll_4 rfl ?_
    refine w_aload_n b dX1_faultsInAll_5 rfl rfl ?_
    refine q_get b dX1_faultsInAll_6 lfX1_30 (tlt rfl) ct_1 rfl ?_
    refine z_icmp_ge (tgt := 26) b dX1_faultsInAll_9 (by decide) (by omega) (fun c9 => ?_) (fun c9 => ?_)
    · exfalso; omega
    · refine w_iload_n b dX1_faultsInAll_12 rfl ?_
      refine w_aload_n b dX1_faultsInAll_13 rfl rfl ?_
      refine w_iload_n b dX1_faultsInAll_14 rfl ?_
      refine c_V1 b dX1_faultsInAll_15 lmX1_110 (cpS (tlt rfl) ct_1) (k_X1_faultsAt hR (by omega)) (tle rfl) (by omega) (by omega) (by omega) ?_
      refine z_iadd b dX1_faultsInAll_18 ?_
      refine w_istore_n b dX1_faultsInAll_19 (tlt rfl) rfl ?_
      refine z_iinc b dX1_faultsInAll_20 rfl rfl rfl ?_
      refine w_goto (tgt := 4) b dX1_faultsInAll_23 (by decide) ?_
      exact ih (i + 1) _ (by omega) (by omega) kk
set_option maxRecDepth 20000 in
theorem l_X1_minutesInAll {X : Cx} {l0 : Launch} {g : Gw} {Z : State → Prop} {w nx : Nat} {h : Nat → va_E} {C : Nat → Nat → Int} {A : Nat → Int → Int} {V : Nat → Value} (b : BX X l0 g mX1_minutesInAll 0 0 0) {I : Nat → Int} {F : Nat → Int → Int} (hR : RCa w C A I F) : ∀ (n : Nat) (r a : Int), (r + n = I 21) → (0 ≤ r) → WW X g mX1_minutesInAll.2.2.1 Z 0 0 30 [some (.ref 1), some (.int (iI (sumA (fun r => F 26 r) n r a))), none] [] (cp w C A V h, nx) → WW X g mX1_minutesInAll.2.2.1 Z 0 0 4 [some (.ref 1), some (.int (iI (a))), some (.int (iI (r)))] [] (cp w C A V h, nx) := by
  intro n
  induction n with
  | zero =>
    intro r a h1 h2 kk
    have hw2 := hR.w2
    have ht1 := hR.t1
    have ht2 := hR.t2
    refine w_iload_n b dX1_minutesInAll_4 rfl ?_
    refine w_aload_n b dX1_minutesInAll_5 rfl rfl ?_
    refine q_get b dX1_minutesInAll_6 lfX1_38 (tlt rfl) ct_1 rfl ?_
    refine z_icmp_ge (tgt := 30) b dX1_minutesInAll_9 (by decide) (by omega) (fun c9 => ?_) (fun c9 => ?_)
    · refine ww_forget 2 ?_
      exact kk
    · exfalso; omega
  | succ n ih =>
    intro r a h1 h2 kk
    have hw2 := hR.w2
    have ht1 := hR.t1
    have ht2 := hR.t2
    refine w_iload_n b dX1_minutesInAll_4 rfl ?_
    refine w_aload_n b dX1_minutesInAll_5 rfl rfl ?_
    refine q_get b dX1_minutesInAll_6 lfX1_38 (tlt rfl) ct_1 rfl ?_
    refine z_icmp_ge (tgt := 30) b dX1_minutesInAll_9 (by decide) (by omega) (fun c9 => ?_) (fun c9 => ?_)
    · exfalso; omega
    · refine w_iload_n b dX1_minutesInAll_12 rfl ?_
      refine w_aload_n b dX1_minutesInAll_13 rfl rfl ?_
      refine q_get b dX1_minutesInAll_14 lfX1_26 (tlt rfl) ct_1 rfl ?_
      refine w_iload_n b dX1_minutesInAll_17 rfl ?_
      refine q_aald b dX1_minutesInAll_18 (tlt rfl) ct_5 (by omega) (by omega) ?_
      refine q_get b dX1_minutesInAll_19 lfX1_69 (by omega) (ct_row (by omega)) rfl ?_
      refine y_top (hR.c26 _ (by omega) (by omega)) ?_
      refine z_iadd b dX1_minutesInAll_22 ?_
      refine w_istore_n b dX1_minutesInAll_23 (tlt rfl) rfl ?_
      refine z_iinc b dX1_minutesInAll_24 rfl rfl rfl ?_
      refine w_goto (tgt := 4) b dX1_minutesInAll_27 (by decide) ?_
      exact ih (r + 1) _ (by omega) (by omega) kk
set_option maxRecDepth 20000 in
theorem l_X1_unlikeRows {X : Cx} {l0 : Launch} {g : Gw} {Z : State → Prop} {w nx : Nat} {h : Nat → va_E} {C : Nat → Nat → Int} {A : Nat → Int → Int} {V : Nat → Value} (b : BX X l0 g mX1_unlikeRows 0 0 0) {r s : Int} {I : Nat → Int} {F : Nat → Int → Int} (hR : RCa w C A I F) (hr : 0 ≤ r ∧ r < I 21) (hs : 0 ≤ s ∧ s < I 21) : ∀ (n : Nat) (i a : Int), (i + n = w) → (0 ≤ i) → WW X g mX1_unlikeRows.2.2.1 Z 0 0 50 [some (.ref 1), some (.int (iI (r))), some (.int (iI (s))), some (.int (iI (sumA (fun i => b2 (¬ F 23 (40 * r + i) = F 23 (40 * s + i))) n i a))), none] [] (cp w C A V h, nx) → WW X g mX1_unlikeRows.2.2.1 Z 0 0 5 [some (.ref 1), some (.int (iI (r))), some (.int (iI (s))), some (.int (iI (a))), some (.int (iI (i)))] [] (cp w C A V h, nx) := by
  intro n
  induction n with
  | zero =>
    intro i a h1 h2 kk
    have hw2 := hR.w2
    have ht1 := hR.t1
    have ht2 := hR.t2
    refine w_iload b dX1_unlikeRows_5 rfl ?_
    refine w_aload_n b dX1_unlikeRows_7 rfl rfl ?_
    refine q_get b dX1_unlikeRows_8 lfX1_30 (tlt rfl) ct_1 rfl ?_
    refine z_icmp_ge (tgt := 50) b dX1_unlikeRows_11 (by decide) (by omega) (fun c11 => ?_) (fun c11 => ?_)
    · refine ww_forget 4 ?_
      exact kk
    · exfalso; omega
  | succ n ih =>
    intro i a h1 h2 kk
    have hw2 := hR.w2
    have ht1 := hR.t1
    have ht2 := hR.t2
    refine w_iload b dX1_unlikeRows_5 rfl ?_
    refine w_aload_n b dX1_unlikeRows_7 rfl rfl ?_
    refine q_get b dX1_unlikeRows_8 lfX1_30 (tlt rfl) ct_1 rfl ?_
    refine z_icmp_ge (tgt := 50) b dX1_unlikeRows_11 (by decide) (by omega) (fun c11 => ?_) (fun c11 => ?_)
    · exfalso; omega
    · refine w_aload_n b dX1_unlikeRows_14 rfl rfl ?_
      refine q_get b dX1_unlikeRows_15 lfX1_26 (tlt rfl) ct_1 rfl ?_
      refine w_iload_n b dX1_unlikeRows_18 rfl ?_
      refine q_aald b dX1_unlikeRows_19 (tlt rfl) ct_5 (by omega) (by omega) ?_
      refine q_get b dX1_unlikeRows_20 lfX1_49 (by omega) (ct_row (by omega)) rfl ?_
      refine w_iload b dX1_unlikeRows_23 rfl ?_
      refine q_bald b dX1_unlikeRows_25 (by omega) (ct_row2 (by omega)) (by omega) ?_
      refine y_top (hR.a23 _ _ (by omega) (by omega) (by omega) (by omega)) ?_
      refine w_aload_n b dX1_unlikeRows_26 rfl rfl ?_
      refine q_get b dX1_unlikeRows_27 lfX1_26 (tlt rfl) ct_1 rfl ?_
      refine w_iload_n b dX1_unlikeRows_30 rfl ?_
      refine q_aald b dX1_unlikeRows_31 (tlt rfl) ct_5 (by omega) (by omega) ?_
      refine q_get b dX1_unlikeRows_32 lfX1_49 (by omega) (ct_row (by omega)) rfl ?_
      refine w_iload b dX1_unlikeRows_35 rfl ?_
      refine q_bald b dX1_unlikeRows_37 (by omega) (ct_row2 (by omega)) (by omega) ?_
      refine y_top (hR.a23 _ _ (by omega) (by omega) (by omega) (by omega)) ?_
      refine z_icmp_eq (tgt := 44) b dX1_unlikeRows_38 (by decide) (by have := hR.b23 (40 * r + i) (by omega) (by omega); have := hR.b23 (40 * s + i) (by omega) (by omega); omega) (fun c38 => ?_) (fun c38 => ?_)
      · have e1 : a + b2 (¬ F 23 (40 * r + i) = F 23 (40 * s + i)) = a := by rw [b2_f (fun z => z c38)]; omega
        refine z_iinc b dX1_unlikeRows_44 rfl rfl rfl ?_
        refine w_goto (tgt := 5) b dX1_unlikeRows_47 (by decide) ?_
        have kk : WW X g mX1_unlikeRows.2.2.1 Z 0 0 50 [some (.ref 1), some (.int (iI (r))), some (.int (iI (s))), some (.int (iI (sumA (fun i => b2 (¬ F 23 (40 * r + i) = F 23 (40 * s + i))) n (i + 1) (a + b2 (¬ F 23 (40 * r + i) = F 23 (40 * s + i)))))), none] [] (cp w C A V h, nx) := kk
        rw [e1] at kk
        exact ih (i + 1) _ (by omega) (by omega) kk
      · have e1 : a + b2 (¬ F 23 (40 * r + i) = F 23 (40 * s + i)) = a + 1 := by rw [b2_t c38]
        refine z_iinc b dX1_unlikeRows_41 rfl rfl rfl ?_
        refine z_iinc b dX1_unlikeRows_44 rfl rfl rfl ?_
        refine w_goto (tgt := 5) b dX1_unlikeRows_47 (by decide) ?_
        have kk : WW X g mX1_unlikeRows.2.2.1 Z 0 0 50 [some (.ref 1), some (.int (iI (r))), some (.int (iI (s))), some (.int (iI (sumA (fun i => b2 (¬ F 23 (40 * r + i) = F 23 (40 * s + i))) n (i + 1) (a + b2 (¬ F 23 (40 * r + i) = F 23 (40 * s + i)))))), none] [] (cp w C A V h, nx) := kk
        rw [e1] at kk
        exact ih (i + 1) _ (by omega) (by omega) kk
set_option maxRecDepth 20000 in
theorem l_X1_unlikeMirrored {X : Cx} {l0 : Launch} {g : Gw} {Z : State → Prop} {w nx : Nat} {h : Nat → va_E} {C : Nat → Nat → Int} {A : Nat → Int → Int} {V : Nat → Value} (b : BX X l0 g mX1_unlikeMirrored 0 0 0) {r : Int} {I : Nat → Int} {F : Nat → Int → Int} (hR : RCa w C A I F) (hr : 0 ≤ r ∧ r < I 21) : ∀ (n : Nat) (i a : Int), (i + n = w) → (0 ≤ i) → WW X g mX1_unlikeMirrored.2.2.1 Z 0 0 51 [some (.ref 1), some (.int (iI (r))), some (.ref (30 + 5 * r.toNat + 2)), some (.int (iI (sumA (fun i => b2 (¬ F 23 (40 * r + i) = F 23 (40 * r + I 1 - 1 - i))) n i a))), none] [] (cp w C A V h, nx) → WW X g mX1_unlikeMirrored.2.2.1 Z 0 0 15 [some (.ref 1), some (.int (iI (r))), some (.ref (30 + 5 * r.toNat + 2)), some (.int (iI (a))), some (.int (iI (i)))] [] (cp w C A V h, nx) := by
  intro n
  induction n with
  | zero =>
    intro i a h1 h2 kk
    have hw2 := hR.w2
    have ht1 := hR.t1
    have ht2 := hR.t2
    have hw1 := hR.w1
    refine w_iload b dX1_unlikeMirrored_15 rfl ?_
    refine w_aload_n b dX1_unlikeMirrored_17 rfl rfl ?_
    refine q_get b dX1_unlikeMirrored_18 lfX1_30 (tlt rfl) ct_1 rfl ?_
    refine z_icmp_ge (tgt := 51) b dX1_unlikeMirrored_21 (by decide) (by omega) (fun c21 => ?_) (fun c21 => ?_)
    · refine ww_forget 4 ?_
      exact kk
    · exfalso; omega
  | succ n ih =>
    intro i a h1 h2 kk
    have hw2 := hR.w2
    have ht1 := hR.t1
    have ht2 := hR.t2
    have hw1 := hR.w1
    refine w_iload b dX1_unlikeMirrored_15 rfl ?_
    refine w_aload_n b dX1_unlikeMirrored_17 rfl rfl ?_
    refine q_get b dX1_unlikeMirrored_18 lfX1_30 (tlt rfl) ct_1 rfl ?_
    refine z_icmp_ge (tgt := 51) b dX1_unlikeMirrored_21 (by decide) (by omega) (fun c21 => ?_) (fun c21 => ?_)
    · exfalso; omega
    · refine w_aload_n b dX1_unlikeMirrored_24 rfl rfl ?_
      refine w_iload b dX1_unlikeMirrored_25 rfl ?_
      refine q_bald b dX1_unlikeMirrored_27 (by omega) (ct_row2 (by omega)) (by omega) ?_
      refine y_top (hR.a23 _ _ (by omega) (by omega) (by omega) (by omega)) ?_
      refine w_aload_n b dX1_unlikeMirrored_28 rfl rfl ?_
      refine w_aload_n b dX1_unlikeMirrored_29 rfl rfl ?_
      refine q_get b dX1_unlikeMirrored_30 lfX1_30 (tlt rfl) ct_1 rfl ?_
      refine z_iconst b dX1_unlikeMirrored_33 ?_
      refine z_isub b dX1_unlikeMirrored_34 ?_
      refine w_iload b dX1_unlikeMirrored_35 rfl ?_
      refine z_isub b dX1_unlikeMirrored_37 ?_
      refine q_bald b dX1_unlikeMirrored_38 (by omega) (ct_row2 (by omega)) (by omega) ?_
      refine y_top (y := F 23 (40 * r + I 1 - 1 - i)) (by rw [hR.a23 _ _ (by omega) (by omega) (by omega) (by omega), hR.w1]; congr 1; omega) ?_
      refine z_icmp_eq (tgt := 45) b dX1_unlikeMirrored_39 (by decide) (by have := hR.b23 (40 * r + i) (by omega) (by omega); have := hR.b23 (40 * r + I 1 - 1 - i) (by omega) (by omega); omega) (fun c39 => ?_) (fun c39 => ?_)
      · have e1 : a + b2 (¬ F 23 (40 * r + i) = F 23 (40 * r + I 1 - 1 - i)) = a := by rw [b2_f (fun z => z c39)]; omega
        refine z_iinc b dX1_unlikeMirrored_45 rfl rfl rfl ?_
        refine w_goto (tgt := 15) b dX1_unlikeMirrored_48 (by decide) ?_
        have kk : WW X g mX1_unlikeMirrored.2.2.1 Z 0 0 51 [some (.ref 1), some (.int (iI (r))), some (.ref (30 + 5 * r.toNat + 2)), some (.int (iI (sumA (fun i => b2 (¬ F 23 (40 * r + i) = F 23 (40 * r + I 1 - 1 - i))) n (i + 1) (a + b2 (¬ F 23 (40 * r + i) = F 23 (40 * r + I 1 - 1 - i)))))), none] [] (cp w C A V h, nx) := kk
        rw [e1] at kk
        exact ih (i + 1) _ (by omega) (by omega) kk
      · have e1 : a + b2 (¬ F 23 (40 * r + i) = F 23 (40 * r + I 1 - 1 - i)) = a + 1 := by rw [b2_t c39]
        refine z_iinc b dX1_unlikeMirrored_42 rfl rfl rfl ?_
        refine z_iinc b dX1_unlikeMirrored_45 rfl rfl rfl ?_
        refine w_goto (tgt := 15) b dX1_unlikeMirrored_48 (by decide) ?_
        have kk : WW X g mX1_unlikeMirrored.2.2.1 Z 0 0 51 [some (.ref 1), some (.int (iI (r))), some (.ref (30 + 5 * r.toNat + 2)), some (.int (iI (sumA (fun i => b2 (¬ F 23 (40 * r + i) = F 23 (40 * r + I 1 - 1 - i))) n (i + 1) (a + b2 (¬ F 23 (40 * r + i) = F 23 (40 * r + I 1 - 1 - i)))))), none] [] (cp w C A V h, nx) := kk
        rw [e1] at kk
        exact ih (i + 1) _ (by omega) (by omega) kk
set_option maxRecDepth 20000 in
theorem k_X1_faultsBy {l0 : Launch} {g : Gw} {w nx : Nat} {h : Nat → va_E} {C : Nat → Nat → Int} {A : Nat → Int → Int} {V : Nat → Value} {I : Nat → Int} {F : Nat → Int → Int} {x : Int} (hR : RCa w C A I F) (hx : inR x) : MD l0 g 2 mX1_faultsBy (cp w C A V h, nx) [.ref 1, .int (iI (x))] 0 0 (some (.int (iI (sumA (fun i => if handF (F 16) i = x then sumA (fun r => b2 (¬ F 23 (40 * r + i) = F 22 (40 * r + i))) (I 21).toNat 0 0 else 0) w 0 0)))) (cp w C A V h, nx) := by
  have hw2 := hR.w2
  have ht1 := hR.t1
  have ht2 := hR.t2
  refine MD.of (by decide +kernel) (by simp [Value.category]) (tle rfl) (fun X b => ?_)
  change WW X g _ _ 0 0 0 [some (.ref 1), some (.int (iI (x))), none, none] [] _
  refine z_iconst b dX1_faultsBy_0 ?_
  refine w_istore_n b dX1_faultsBy_1 (tlt rfl) rfl ?_
  refine z_iconst b dX1_faultsBy_2 ?_
  refine w_istore_n b dX1_faultsBy_3 (tlt rfl) rfl ?_
  refine l_X1_faultsBy b hR hx w 0 0 (by omega) (by omega) ?_
  refine w_iload_n b dX1_faultsBy_35 rfl ?_
  exact w_iret b dX1_faultsBy_36 rfl (by omega) (by omega) ⟨iv_eq (by first | rfl | omega | ((try simp only [b2]); ((repeat' split) <;> (first | rfl | omega)))), rfl⟩
set_option maxRecDepth 20000 in
theorem k_X1_faultsInAll {l0 : Launch} {g : Gw} {w nx : Nat} {h : Nat → va_E} {C : Nat → Nat → Int} {A : Nat → Int → Int} {V : Nat → Value} {I : Nat → Int} {F : Nat → Int → Int}  (hR : RCa w C A I F)  : MD l0 g 2 mX1_faultsInAll (cp w C A V h, nx) [.ref 1] 0 0 (some (.int (iI (sumA (fun i => sumA (fun r => b2 (¬ F 23 (40 * r + i) = F 22 (40 * r + i))) (I 21).toNat 0 0) w 0 0)))) (cp w C A V h, nx) := by
  have hw2 := hR.w2
  have ht1 := hR.t1
  have ht2 := hR.t2
  refine MD.of (by decide +kernel) (by simp [Value.category]) (tle rfl) (fun X b => ?_)
  change WW X g _ _ 0 0 0 [some (.ref 1), none, none] [] _
  refine z_iconst b dX1_faultsInAll_0 ?_
  refine w_istore_n b dX1_faultsInAll_1 (tlt rfl) rfl ?_
  refine z_iconst b dX1_faultsInAll_2 ?_
  refine w_istore_n b dX1_faultsInAll_3 (tlt rfl) rfl ?_
  refine l_X1_faultsInAll b hR w 0 0 (by omega) (by omega) ?_
  refine w_iload_n b dX1_faultsInAll_26 rfl ?_
  exact w_iret b dX1_faultsInAll_27 rfl (by omega) (by omega) ⟨iv_eq (by first | rfl | omega | ((try simp only [b2]); ((repeat' split) <;> (first | rfl | omega)))), rfl⟩
set_option maxRecDepth 20000 in
theorem k_X1_minutesInAll {l0 : Launch} {g : Gw} {w nx : Nat} {h : Nat → va_E} {C : Nat → Nat → Int} {A : Nat → Int → Int} {V : Nat → Value} {I : Nat → Int} {F : Nat → Int → Int}  (hR : RCa w C A I F)  : MD l0 g 0 mX1_minutesInAll (cp w C A V h, nx) [.ref 1] 0 0 (some (.int (iI (sumA (fun r => F 26 r) (I 21).toNat 0 0)))) (cp w C A V h, nx) := by
  have hw2 := hR.w2
  have ht1 := hR.t1
  have ht2 := hR.t2
  refine MD.of (by decide +kernel) (by simp [Value.category]) (tle rfl) (fun X b => ?_)
  change WW X g _ _ 0 0 0 [some (.ref 1), none, none] [] _
  refine z_iconst b dX1_minutesInAll_0 ?_
  refine w_istore_n b dX1_minutesInAll_1 (tlt rfl) rfl ?_
  refine z_iconst b dX1_minutesInAll_2 ?_
  refine w_istore_n b dX1_minutesInAll_3 (tlt rfl) rfl ?_
  refine l_X1_minutesInAll b hR (I 21).toNat 0 0 (by omega) (by omega) ?_
  refine w_iload_n b dX1_minutesInAll_30 rfl ?_
  exact w_iret b dX1_minutesInAll_31 rfl (by omega) (by omega) ⟨iv_eq (by first | rfl | omega | ((try simp only [b2]); ((repeat' split) <;> (first | rfl | omega)))), rfl⟩
set_option maxRecDepth 20000 in
theorem k_X1_unlikeRows {l0 : Launch} {g : Gw} {w nx : Nat} {h : Nat → va_E} {C : Nat → Nat → Int} {A : Nat → Int → Int} {V : Nat → Value} {I : Nat → Int} {F : Nat → Int → Int} {r s : Int} (hR : RCa w C A I F) (hr : 0 ≤ r ∧ r < I 21) (hs : 0 ≤ s ∧ s < I 21) : MD l0 g 0 mX1_unlikeRows (cp w C A V h, nx) [.ref 1, .int (iI (r)), .int (iI (s))] 0 0 (some (.int (iI (sumA (fun i => b2 (¬ F 23 (40 * r + i) = F 23 (40 * s + i))) w 0 0)))) (cp w C A V h, nx) := by
  have hw2 := hR.w2
  have ht1 := hR.t1
  have ht2 := hR.t2
  refine MD.of (by decide +kernel) (by simp [Value.category]) (tle rfl) (fun X b => ?_)
  change WW X g _ _ 0 0 0 [some (.ref 1), some (.int (iI (r))), some (.int (iI (s))), none, none] [] _
  refine z_iconst b dX1_unlikeRows_0 ?_
  refine w_istore_n b dX1_unlikeRows_1 (tlt rfl) rfl ?_
  refine z_iconst b dX1_unlikeRows_2 ?_
  refine w_istore b dX1_unlikeRows_3 (tlt rfl) rfl ?_
  refine l_X1_unlikeRows b hR hr hs w 0 0 (by omega) (by omega) ?_
  refine w_iload_n b dX1_unlikeRows_50 rfl ?_
  exact w_iret b dX1_unlikeRows_51 rfl (by omega) (by omega) ⟨iv_eq (by first | rfl | omega | ((try simp only [b2]); ((repeat' split) <;> (first | rfl | omega)))), rfl⟩
set_option maxRecDepth 20000 in
theorem k_X1_unlikeMirrored {l0 : Launch} {g : Gw} {w nx : Nat} {h : Nat → va_E} {C : Nat → Nat → Int} {A : Nat → Int → Int} {V : Nat → Value} {I : Nat → Int} {F : Nat → Int → Int} {r : Int} (hR : RCa w C A I F) (hr : 0 ≤ r ∧ r < I 21) : MD l0 g 0 mX1_unlikeMirrored (cp w C A V h, nx) [.ref 1, .int (iI (r))] 0 0 (some (.int (iI (sumA (fun i => b2 (¬ F 23 (40 * r + i) = F 23 (40 * r + I 1 - 1 - i))) w 0 0)))) (cp w C A V h, nx) := by
  have hw2 := hR.w2
  have ht1 := hR.t1
  have ht2 := hR.t2
  refine MD.of (by decide +kernel) (by simp [Value.category]) (tle rfl) (fun X b => ?_)
  change WW X g _ _ 0 0 0 [some (.ref 1), some (.int (iI (r))), none, none, none] [] _
  refine w_aload_n b dX1_unlikeMirrored_0 rfl rfl ?_
  refine q_get b dX1_unlikeMirrored_1 lfX1_26 (tlt rfl) ct_1 rfl ?_
  refine w_iload_n b dX1_unlikeMirrored_4 rfl ?_
  refine q_aald b dX1_unlikeMirrored_5 (tlt rfl) ct_5 (by omega) (by omega) ?_
  refine q_get b dX1_unlikeMirrored_6 lfX1_49 (by omega) (ct_row (by omega)) rfl ?_
  refine w_astore_n b dX1_unlikeMirrored_9 (tlt rfl) rfl rfl ?_
  refine z_iconst b dX1_unlikeMirrored_10 ?_
  refine w_istore_n b dX1_unlikeMirrored_11 (tlt rfl) rfl ?_
  refine z_iconst b dX1_unlikeMirrored_12 ?_
  refine w_istore b dX1_unlikeMirrored_13 (tlt rfl) rfl ?_
  refine l_X1_unlikeMirrored b hR hr w 0 0 (by omega) (by omega) ?_
  refine w_iload_n b dX1_unlikeMirrored_51 rfl ?_
  exact w_iret b dX1_unlikeMirrored_52 rfl (by omega) (by omega) ⟨iv_eq (by first | rfl | omega | ((try simp only [b2]); ((repeat' split) <;> (first | rfl | omega)))), rfl⟩
set_option maxRecDepth 20000 in
theorem k_X1_colourBelow {l0 : Launch} {g : Gw} {w nx : Nat} {h : Nat → va_E} {C : Nat → Nat → Int} {A : Nat → Int → Int} {V : Nat → Value} {I : Nat → Int} {F : Nat → Int → Int} {x p : Int} (hR : RCa w C A I F) (hx : 0 ≤ x ∧ x ≤ 100) (hp : inR p) : MD l0 g 2 mX1_colourBelow (cp w C A V h, nx) [.ref 1, .int (iI (x)), .int (iI (p))] 0 0 (some (.int (iI (if (0 ≤ I 21 - x ∧ I 21 - x < I 21) ∧ (0 ≤ p ∧ p < (w : Int)) then F 23 (40 * (I 21 - x) + p) else 0)))) (cp w C A V h, nx) := by
  have hw2 := hR.w2
  have ht1 := hR.t1
  have ht2 := hR.t2
  refine MD.of (by decide +kernel) (by simp [Value.category]) (tle rfl) (fun X b => ?_)
  change WW X g _ _ 0 0 0 [some (.ref 1), some (.int (iI (x))), some (.int (iI (p)))] [] _
  refine w_aload_n b dX1_colourBelow_0 rfl rfl ?_
  refine w_aload_n b dX1_colourBelow_1 rfl rfl ?_
  refine q_get b dX1_colourBelow_2 lfX1_38 (tlt rfl) ct_1 rfl ?_
  refine y_top ht1 ?_
  refine w_iload_n b dX1_colourBelow_5 rfl ?_
  refine z_isub b dX1_colourBelow_6 ?_
  refine w_iload_n b dX1_colourBelow_7 rfl ?_
  refine c_V2 b dX1_colourBelow_8 lmX1_45 (cpS (tlt rfl) ct_1) (k_X1_hasKnot (by omega) (by omega) (by omega) hR.w2) (tle rfl) (by omega) (by omega) (by omega) ?_
  refine y_top (by rw [ht1]) ?_
  refine z_ifb_eq (tgt := 33) b dX1_colourBelow_11 (by decide) (fun c11 => ?_) (fun c11 => ?_)
  · refine z_iconst b dX1_colourBelow_33 ?_
    exact w_iret b dX1_colourBelow_34 rfl (by omega) (by omega) ⟨iv_eq (by first | rfl | omega | ((try simp only [b2]); ((repeat' split) <;> (first | rfl | omega)))), rfl⟩
  · refine w_aload_n b dX1_colourBelow_14 rfl rfl ?_
    refine q_get b dX1_colourBelow_15 lfX1_26 (tlt rfl) ct_1 rfl ?_
    refine w_aload_n b dX1_colourBelow_18 rfl rfl ?_
    refine q_get b dX1_colourBelow_19 lfX1_38 (tlt rfl) ct_1 rfl ?_
    refine y_top ht1 ?_
    refine w_iload_n b dX1_colourBelow_22 rfl ?_
    refine z_isub b dX1_colourBelow_23 ?_
    refine q_aald b dX1_colourBelow_24 (tlt rfl) ct_5 (by omega) (by omega) ?_
    refine q_get b dX1_colourBelow_25 lfX1_49 (by omega) (ct_row (by omega)) rfl ?_
    refine w_iload_n b dX1_colourBelow_28 rfl ?_
    refine q_bald b dX1_colourBelow_29 (by omega) (ct_row2 (by omega)) (by omega) ?_
    refine y_top (hR.a23 _ _ (by omega) (by omega) (by omega) (by omega)) ?_
    refine w_goto (tgt := 34) b dX1_colourBelow_30 (by decide) ?_
    exact w_iret b dX1_colourBelow_34 rfl (by omega) (by omega) ⟨iv_eq (by first | rfl | omega | ((try simp only [b2]); ((repeat' split) <;> (first | rfl | omega)))), rfl⟩
