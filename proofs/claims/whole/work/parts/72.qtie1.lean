/-! THE CLASS: a row is tied (by p72.py) -/
set_option maxRecDepth 20000 in
theorem l_X7_take {X : Cx} {l0 : Launch} {g : Gw} {Q : Option Value → Sg → Prop} {w nx : Nat} {h : Nat → va_E} {C : Nat → Nat → Int} {A : Nat → Int → Int} {V : Nat → Value} (b : BX X l0 g mX7_take 0 0 0) {c : Nat} (hc : c < 8) (ok : okL (A (6 + 3 * c + 2))) (hs : 0 < sumA (A (6 + 3 * c + 2)) 10 0 0) (hl : ixF (A (6 + 3 * c + 2)) < C (6 + 3 * c) 2) (hlo : C (6 + 3 * c) 2 ≤ 10) : ∀ (n : Nat) (i : Int), (i + n = ixF (A (6 + 3 * c + 2))) → (0 ≤ i) → Q (some (.int (iI (A (6 + 3 * c + 1) (ixF (A (6 + 3 * c + 2))))))) (cp w C (va_up A (6 + 3 * c + 2) (take1 (A (6 + 3 * c + 2)))) V h, nx) → WW X g mX7_take.2.2.1 (ZQ X g Q 0 0) 0 0 2 [some (.ref (6 + 3 * c)), some (.int (iI (i)))] [] (cp w C A V h, nx) := by
  intro n
  induction n with
  | zero =>
    intro i h1 h2 hq
    have hx := ix_of ok hs
    have hoi := ok i (by omega) (by omega)
    have hnz : ¬ A (6 + 3 * c + 2) i = 0 := by rw [show i = ixF (A (6 + 3 * c + 2)) by omega]; exact hx.2.1
    refine w_iload_n b dX7_take_2 rfl ?_
    refine w_aload_n b dX7_take_3 rfl rfl ?_
    refine q_get b dX7_take_4 lfX7_18 (by omega) (ct_wool (by omega)) rfl ?_
    refine z_icmp_ge (tgt := 42) b dX7_take_7 (by decide) (by omega) (fun c7 => ?_) (fun c7 => ?_)
    · exfalso; omega
    · refine w_aload_n b dX7_take_10 rfl rfl ?_
      refine q_get b dX7_take_11 lfX7_15 (by omega) (ct_wool (by omega)) rfl ?_
      refine w_iload_n b dX7_take_14 rfl ?_
      refine q_iald b dX7_take_15 (by omega) (ct_wool2 (by omega)) (by omega) ?_
      refine z_if_le (tgt := 36) b dX7_take_16 (by decide) (by omega) (fun c16 => ?_) (fun c16 => ?_)
      · exfalso; omega
      · refine w_aload_n b dX7_take_19 rfl rfl ?_
        refine q_get b dX7_take_20 lfX7_15 (by omega) (ct_wool (by omega)) rfl ?_
        refine w_iload_n b dX7_take_23 rfl ?_
        refine w_dup2 b dX7_take_24 rfl rfl ?_
        refine q_iald b dX7_take_25 (by omega) (ct_wool2 (by omega)) (by omega) ?_
        refine z_iconst b dX7_take_26 ?_
        refine z_isub b dX7_take_27 ?_
        refine q_iast b dX7_take_28 (by omega) (fun _ => ct_wool2 (by omega)) (by omega) ?_
        have ei : i = ixF (A (6 + 3 * c + 2)) := by omega
        subst ei
        refine ww_cast (σ' := (cp w C (va_up A (6 + 3 * c + 2) (take1 (A (6 + 3 * c + 2)))) V h, nx)) rfl rfl rfl ?_
        refine w_aload_n b dX7_take_29 rfl rfl ?_
        refine q_get b dX7_take_30 lfX7_9 (by omega) (ct_wool (by omega)) rfl ?_
        refine w_iload_n b dX7_take_33 rfl ?_
        refine q_iald b dX7_take_34 (by omega) (ct_wool1 (by omega)) (by omega) ?_
        refine y_top (y := A (6 + 3 * c + 1) (ixF (A (6 + 3 * c + 2)))) (by rw [va_up_ne _ _ (by omega)]) ?_
        exact w_iret b dX7_take_35 rfl (by omega) (by omega) hq
  | succ n ih =>
    intro i h1 h2 hq
    have hx := ix_of ok hs
    have hoi := ok i (by omega) (by omega)
    have hz : A (6 + 3 * c + 2) i = 0 := hx.2.2 i (by omega) (by omega)
    refine w_iload_n b dX7_take_2 rfl ?_
    refine w_aload_n b dX7_take_3 rfl rfl ?_
    refine q_get b dX7_take_4 lfX7_18 (by omega) (ct_wool (by omega)) rfl ?_
    refine z_icmp_ge (tgt := 42) b dX7_take_7 (by decide) (by omega) (fun c7 => ?_) (fun c7 => ?_)
    · exfalso; omega
    · refine w_aload_n b dX7_take_10 rfl rfl ?_
      refine q_get b dX7_take_11 lfX7_15 (by omega) (ct_wool (by omega)) rfl ?_
      refine w_iload_n b dX7_take_14 rfl ?_
      refine q_iald b dX7_take_15 (by omega) (ct_wool2 (by omega)) (by omega) ?_
      refine z_if_le (tgt := 36) b dX7_take_16 (by decide) (by omega) (fun c16 => ?_) (fun c16 => ?_)
      · refine z_iinc b dX7_take_36 rfl rfl rfl ?_
        refine w_goto (tgt := 2) b dX7_take_39 (by decide) ?_
        exact ih (i + 1) (by omega) (by omega) hq
      · exfalso; omega
set_option maxRecDepth 20000 in
theorem k_X7_take {l0 : Launch} {g : Gw} {w nx : Nat} {h : Nat → va_E} {C : Nat → Nat → Int} {A : Nat → Int → Int} {V : Nat → Value} {c : Nat} (hc : c < 8) (ok : okL (A (6 + 3 * c + 2))) (hs : 0 < sumA (A (6 + 3 * c + 2)) 10 0 0) (hl : ixF (A (6 + 3 * c + 2)) < C (6 + 3 * c) 2) (hlo : C (6 + 3 * c) 2 ≤ 10) : MD l0 g 0 mX7_take (cp w C A V h, nx) [.ref (6 + 3 * c)] 0 0 (some (.int (iI (A (6 + 3 * c + 1) (ixF (A (6 + 3 * c + 2))))))) (cp w C (va_up A (6 + 3 * c + 2) (take1 (A (6 + 3 * c + 2)))) V h, nx) := by
  refine MD.of (by decide +kernel) (by simp [Value.category]) (tle rfl) (fun X b => ?_)
  change WW X g _ _ 0 0 0 [some (.ref (6 + 3 * c)), none] [] _
  refine z_iconst b dX7_take_0 ?_
  refine w_istore_n b dX7_take_1 (tlt rfl) rfl ?_
  have hx := ix_of ok hs
  exact l_X7_take b hc ok hs hl hlo (ixF (A (6 + 3 * c + 2))).toNat 0 (by omega) (by omega) ⟨rfl, rfl⟩
set_option maxRecDepth 20000 in
theorem l_X1_knotsHeard {X : Cx} {l0 : Launch} {g : Gw} {Z : State → Prop} {w nx : Nat} {h : Nat → va_E} {C : Nat → Nat → Int} {A : Nat → Int → Int} {V : Nat → Value} (b : BX X l0 g mX1_knotsHeard 1 0 0) {c : Int} (hw : 4 ≤ w ∧ w ≤ 40) (hfl : C 230 5 = (w : Int)) (hk7 : ∀ j, 0 ≤ j → j < (w : Int) → 0 ≤ A 232 j ∧ A 232 j ≤ 7) (hc : inR c) : ∀ (n : Nat) (i a : Int), (i + n = (w : Int)) → (0 ≤ i) → WW X g mX1_knotsHeard.2.2.1 Z 0 0 33 [some (.ref 1), some (.ref 230), some (.int (iI (c))), some (.int (iI (sumA (fun j => b2 (A 232 j = c)) n i a))), none] [] (cp w C A V h, nx) → WW X g mX1_knotsHeard.2.2.1 Z 0 0 5 [some (.ref 1), some (.ref 230), some (.int (iI (c))), some (.int (iI (a))), some (.int (iI (i)))] [] (cp w C A V h, nx) := by
  intro n
  induction n with
  | zero =>
    intro i a h1 h2 kk
    refine w_iload b dX1_knotsHeard_5 rfl ?_
    refine w_aload_n b dX1_knotsHeard_7 rfl rfl ?_
    refine q_get b dX1_knotsHeard_8 lfX1_30 (tlt rfl) ct_1 rfl ?_
    refine z_icmp_ge (tgt := 33) b dX1_knotsHeard_11 (by decide) (by omega) (fun c11 => ?_) (fun c11 => ?_)
    · refine ww_forget 4 ?_
      exact kk
    · exfalso; omega
  | succ n ih =>
    intro i a h1 h2 kk
    refine w_iload b dX1_knotsHeard_5 rfl ?_
    refine w_aload_n b dX1_knotsHeard_7 rfl rfl ?_
    refine q_get b dX1_knotsHeard_8 lfX1_30 (tlt rfl) ct_1 rfl ?_
    refine z_icmp_ge (tgt := 33) b dX1_knotsHeard_11 (by decide) (by omega) (fun c11 => ?_) (fun c11 => ?_)
    · exfalso; omega
    · refine w_aload_n b dX1_knotsHeard_14 rfl rfl ?_
      refine w_iload b dX1_knotsHeard_15 rfl ?_
      refine c_V1 b dX1_knotsHeard_17 lmX1_72 (cpS (tlt rfl) ct_230) (k_X0_heard (by omega) (by omega)) (tle rfl) (by omega) (by omega) (by omega) ?_
      refine y_top (y := A 232 i) (if_pos (by omega)) ?_
      have hki := hk7 i (by omega) (by omega)
      refine w_iload_n b dX1_knotsHeard_20 rfl ?_
      refine z_icmp_ne (tgt := 27) b dX1_knotsHeard_21 (by decide) (by omega) (fun c21 => ?_) (fun c21 => ?_)
      · have e1 : a + b2 (A 232 i = c) = a := by rw [b2_f c21]; omega
        refine z_iinc b dX1_knotsHeard_27 rfl rfl rfl ?_
        refine w_goto (tgt := 5) b dX1_knotsHeard_30 (by decide) ?_
        have kk : WW X g mX1_knotsHeard.2.2.1 Z 0 0 33 [some (.ref 1), some (.ref 230), some (.int (iI (c))), some (.int (iI (sumA (fun j => b2 (A 232 j = c)) n (i + 1) (a + b2 (A 232 i = c))))), none] [] (cp w C A V h, nx) := kk
        rw [e1] at kk
        exact ih (i + 1) _ (by omega) (by omega) kk
      · have e1 : a + b2 (A 232 i = c) = a + 1 := by rw [b2_t c21]
        refine z_iinc b dX1_knotsHeard_24 rfl rfl rfl ?_
        refine z_iinc b dX1_knotsHeard_27 rfl rfl rfl ?_
        refine w_goto (tgt := 5) b dX1_knotsHeard_30 (by decide) ?_
        have kk : WW X g mX1_knotsHeard.2.2.1 Z 0 0 33 [some (.ref 1), some (.ref 230), some (.int (iI (c))), some (.int (iI (sumA (fun j => b2 (A 232 j = c)) n (i + 1) (a + b2 (A 232 i = c))))), none] [] (cp w C A V h, nx) := kk
        rw [e1] at kk
        exact ih (i + 1) _ (by omega) (by omega) kk
set_option maxRecDepth 20000 in
theorem k_X1_knotsHeard {l0 : Launch} {g : Gw} {w nx : Nat} {h : Nat → va_E} {C : Nat → Nat → Int} {A : Nat → Int → Int} {V : Nat → Value} {c : Int} (hw : 4 ≤ w ∧ w ≤ 40) (hfl : C 230 5 = (w : Int)) (hk7 : ∀ j, 0 ≤ j → j < (w : Int) → 0 ≤ A 232 j ∧ A 232 j ≤ 7) (hc : inR c) : MD l0 g 1 mX1_knotsHeard (cp w C A V h, nx) [.ref 1, .ref 230, .int (iI (c))] 0 0 (some (.int (iI (cntF (A 232) c (w : Int))))) (cp w C A V h, nx) := by
  refine MD.of (by decide +kernel) (by simp [Value.category]) (tle rfl) (fun X b => ?_)
  change WW X g _ _ 0 0 0 [some (.ref 1), some (.ref 230), some (.int (iI (c))), none, none] [] _
  refine z_iconst b dX1_knotsHeard_0 ?_
  refine w_istore_n b dX1_knotsHeard_1 (tlt rfl) rfl ?_
  refine z_iconst b dX1_knotsHeard_2 ?_
  refine w_istore b dX1_knotsHeard_3 (tlt rfl) rfl ?_
  refine l_X1_knotsHeard b hw hfl hk7 hc w 0 0 (by omega) (by omega) ?_
  refine w_iload_n b dX1_knotsHeard_33 rfl ?_
  exact w_iret b dX1_knotsHeard_34 rfl (by omega) (by omega) ⟨iv_eq (by first | rfl | omega | ((try simp only [b2]); ((repeat' split) <;> (first | rfl | omega)))), rfl⟩
abbrev dnP (kn : Int → Int) (c i j : Int) : Prop := kn j < c ∨ (kn j = c ∧ j < i)
def sdC (A : Nat → Int → Int) (kn : Int → Int) (j : Int) : Int := A (6 + 3 * (kn j).toNat + 1) (ixF (tkF (A (6 + 3 * (kn j).toNat + 2)) (cntF kn (kn j) j).toNat))
def nTk (kn : Int → Int) (w c i : Int) (c' : Nat) : Nat := if (c' : Int) < c then (cntF kn (c' : Int) w).toNat else if (c' : Int) = c then (cntF kn (c' : Int) i).toNat else 0
/-- the colours below c are laid into the row r, and c's places below i -/
def LY (w r : Nat) (A : Nat → Int → Int) (c i : Int) (A1 : Nat → Int → Int) : Prop :=
  (∀ q, ¬ (30 + 5 * r < q ∧ q ≤ 30 + 5 * r + 4) → ¬ (6 ≤ q ∧ q < 30 ∧ q % 3 = 2) → A1 q = A q) ∧
  (∀ c' : Nat, c' < 8 → A1 (6 + 3 * c' + 2) = tkF (A (6 + 3 * c' + 2)) (nTk (A 232) (w : Int) c i c')) ∧
  ∀ j, 0 ≤ j → j < (w : Int) → A1 (30 + 5 * r + 1) j = (if dnP (A 232) c i j then A 232 j else A (30 + 5 * r + 1) j) ∧ A1 (30 + 5 * r + 2) j = (if dnP (A 232) c i j then A 232 j else A (30 + 5 * r + 2) j) ∧ A1 (30 + 5 * r + 3) j = (if dnP (A 232) c i j then sdC A (A 232) j else A (30 + 5 * r + 3) j) ∧ A1 (30 + 5 * r + 4) j = (if dnP (A 232) c i j then stF (A 233) j else A (30 + 5 * r + 4) j)
theorem LY_0 {w r : Nat} {A : Nat → Int → Int} (hk : ∀ j, 0 ≤ j → j < (w : Int) → 0 ≤ A 232 j) : LY w r A 0 0 A := by
  refine ⟨fun _ _ _ => rfl, fun c' _ => ?_, fun j h1 h2 => ?_⟩
  · have e : nTk (A 232) (w : Int) 0 0 c' = 0 := by
      unfold nTk
      rw [if_neg (by omega)]
      split
      · rw [cntF_0]; rfl
      · rfl
    rw [e]; rfl
  · have hk0 := hk j h1 h2
    have hn : ¬ dnP (A 232) 0 0 j := by intro z; rcases z with z | z <;> omega
    rw [if_neg hn, if_neg hn, if_neg hn, if_neg hn]
    exact ⟨rfl, rfl, rfl, rfl⟩
theorem LY_next {w r : Nat} {A A1 : Nat → Int → Int} {c : Int} (h : LY w r A c (w : Int) A1) : LY w r A (c + 1) 0 A1 := by
  obtain ⟨h1, h2, h3⟩ := h
  refine ⟨h1, fun c' hc' => ?_, fun j g1 g2 => ?_⟩
  · rw [h2 c' hc']
    congr 1
    unfold nTk
    by_cases q1 : (c' : Int) < c
    · rw [if_pos q1, if_pos (by omega)]
    · rw [if_neg q1]
      by_cases q2 : (c' : Int) = c
      · rw [if_pos q2, if_pos (by omega)]
      · rw [if_neg q2, if_neg (by omega)]
        split
        · rw [cntF_0]; rfl
        · rfl
  · have e : dnP (A 232) c (w : Int) j ↔ dnP (A 232) (c + 1) 0 j := by constructor <;> intro z <;> (rcases z with z | z <;> (unfold dnP; omega))
    obtain ⟨a1, a2, a3, a4⟩ := h3 j g1 g2
    refine ⟨?_, ?_, ?_, ?_⟩
    · rw [a1]; by_cases z : dnP (A 232) c (w : Int) j
      · rw [if_pos z, if_pos (e.mp z)]
      · rw [if_neg z, if_neg (fun y => z (e.mpr y))]
    · rw [a2]; by_cases z : dnP (A 232) c (w : Int) j
      · rw [if_pos z, if_pos (e.mp z)]
      · rw [if_neg z, if_neg (fun y => z (e.mpr y))]
    · rw [a3]; by_cases z : dnP (A 232) c (w : Int) j
      · rw [if_pos z, if_pos (e.mp z)]
      · rw [if_neg z, if_neg (fun y => z (e.mpr y))]
    · rw [a4]; by_cases z : dnP (A 232) c (w : Int) j
      · rw [if_pos z, if_pos (e.mp z)]
      · rw [if_neg z, if_neg (fun y => z (e.mpr y))]
theorem LY_skip {w r : Nat} {A A1 : Nat → Int → Int} {c i : Int} (hi : 0 ≤ i) (hne : ¬ A 232 i = c) (h : LY w r A c i A1) : LY w r A c (i + 1) A1 := by
  obtain ⟨h1, h2, h3⟩ := h
  refine ⟨h1, fun c' hc' => ?_, fun j g1 g2 => ?_⟩
  · rw [h2 c' hc']
    congr 1
    unfold nTk
    by_cases q1 : (c' : Int) < c
    · rw [if_pos q1, if_pos q1]
    · rw [if_neg q1, if_neg q1]
      by_cases q2 : (c' : Int) = c
      · rw [if_pos q2, if_pos q2, q2, cntF_s hi, b2_f hne, Int.add_zero]
      · rw [if_neg q2, if_neg q2]
  · have e : dnP (A 232) c i j ↔ dnP (A 232) c (i + 1) j := by
      by_cases q : j = i
      · subst q; constructor <;> intro z <;> (rcases z with z | z <;> (unfold dnP; omega))
      · constructor <;> intro z <;> (rcases z with z | z <;> (unfold dnP; omega))
    obtain ⟨a1, a2, a3, a4⟩ := h3 j g1 g2
    by_cases z : dnP (A 232) c i j
    · rw [if_pos z] at a1 a2 a3 a4
      rw [if_pos (e.mp z), if_pos (e.mp z), if_pos (e.mp z), if_pos (e.mp z)]
      exact ⟨a1, a2, a3, a4⟩
    · rw [if_neg z] at a1 a2 a3 a4
      have y : ¬ dnP (A 232) c (i + 1) j := fun y => z (e.mpr y)
      rw [if_neg y, if_neg y, if_neg y, if_neg y]
      exact ⟨a1, a2, a3, a4⟩
def layF (A : Nat → Int → Int) (r : Nat) (i c s t : Int) : Nat → Int → Int := va_up (va_up (va_up (va_up A (30 + 5 * r + 1) (fu (A (30 + 5 * r + 1)) i c)) (30 + 5 * r + 2) (fu (A (30 + 5 * r + 2)) i c)) (30 + 5 * r + 3) (fu (A (30 + 5 * r + 3)) i s)) (30 + 5 * r + 4) (fu (A (30 + 5 * r + 4)) i t)
theorem layF_out {A : Nat → Int → Int} {r q : Nat} {i c s t : Int} (h : ¬ (30 + 5 * r < q ∧ q ≤ 30 + 5 * r + 4)) : layF A r i c s t q = A q := by
  unfold layF
  rw [va_up_ne _ _ (by omega), va_up_ne _ _ (by omega), va_up_ne _ _ (by omega), va_up_ne _ _ (by omega)]
theorem layF_1 (A : Nat → Int → Int) (r : Nat) (i c s t : Int) : layF A r i c s t (30 + 5 * r + 1) = fu (A (30 + 5 * r + 1)) i c := by
  unfold layF
  rw [va_up_ne _ _ (by omega), va_up_ne _ _ (by omega), va_up_ne _ _ (by omega), va_up_self]
theorem layF_2 (A : Nat → Int → Int) (r : Nat) (i c s t : Int) : layF A r i c s t (30 + 5 * r + 2) = fu (A (30 + 5 * r + 2)) i c := by
  unfold layF
  rw [va_up_ne _ _ (by omega), va_up_ne _ _ (by omega), va_up_self]
theorem layF_3 (A : Nat → Int → Int) (r : Nat) (i c s t : Int) : layF A r i c s t (30 + 5 * r + 3) = fu (A (30 + 5 * r + 3)) i s := by
  unfold layF
  rw [va_up_ne _ _ (by omega), va_up_self]
theorem layF_4 (A : Nat → Int → Int) (r : Nat) (i c s t : Int) : layF A r i c s t (30 + 5 * r + 4) = fu (A (30 + 5 * r + 4)) i t := by
  unfold layF
  rw [va_up_self]
theorem LY_take {w r c : Nat} {A A1 : Nat → Int → Int} {i : Int} (hi : 0 ≤ i ∧ i < (w : Int)) (hc : c < 8) (he : A 232 i = (c : Int)) (h : LY w r A (c : Int) i A1) : LY w r A (c : Int) (i + 1) (layF (va_up A1 (6 + 3 * c + 2) (take1 (A1 (6 + 3 * c + 2)))) r i (c : Int) (sdC A (A 232) i) (stF (A 233) i)) := by
  obtain ⟨h1, h2, h3⟩ := h
  have hcn := cntF_nn (A 232) (c : Int) i
  refine ⟨fun q q1 q2 => ?_, fun c' hc' => ?_, fun j g1 g2 => ?_⟩
  · rw [layF_out q1, va_up_ne _ _ (by omega)]
    exact h1 q q1 q2
  · rw [layF_out (by omega)]
    by_cases q2 : c' = c
    · subst q2
      have e1 : nTk (A 232) (w : Int) (c' : Int) i c' = (cntF (A 232) (c' : Int) i).toNat := by unfold nTk; rw [if_neg (by omega), if_pos rfl]
      have e2 : nTk (A 232) (w : Int) (c' : Int) (i + 1) c' = (cntF (A 232) (c' : Int) i).toNat + 1 := by
        unfold nTk
        rw [if_neg (by omega), if_pos rfl, cntF_s hi.1, b2_t he]
        omega
      rw [va_up_self, h2 c' hc', e1, e2]
      rfl
    · rw [va_up_ne _ _ (by omega), h2 c' hc']
      congr 1
      unfold nTk
      by_cases q1 : (c' : Int) < (c : Int)
      · rw [if_pos q1, if_pos q1]
      · rw [if_neg q1, if_neg q1, if_neg (by omega), if_neg (by omega)]
  · rw [layF_1, layF_2, layF_3, layF_4, va_up_ne _ _ (by omega), va_up_ne _ _ (by omega), va_up_ne _ _ (by omega), va_up_ne _ _ (by omega)]
    by_cases q : j = i
    · subst q
      have z : dnP (A 232) (c : Int) (j + 1) j := Or.inr ⟨he, by omega⟩
      rw [fu_s, fu_s, fu_s, fu_s, if_pos z, if_pos z, if_pos z, if_pos z, he]
      exact ⟨rfl, rfl, rfl, rfl⟩
    · rw [fu_n q, fu_n q, fu_n q, fu_n q]
      have e : dnP (A 232) (c : Int) i j ↔ dnP (A 232) (c : Int) (i + 1) j := by constructor <;> intro z <;> (rcases z with z | z <;> (unfold dnP; omega))
      obtain ⟨a1, a2, a3, a4⟩ := h3 j g1 g2
      by_cases z : dnP (A 232) (c : Int) i j
      · rw [if_pos z] at a1 a2 a3 a4
        rw [if_pos (e.mp z), if_pos (e.mp z), if_pos (e.mp z), if_pos (e.mp z)]
        exact ⟨a1, a2, a3, a4⟩
      · rw [if_neg z] at a1 a2 a3 a4
        have y : ¬ dnP (A 232) (c : Int) (i + 1) j := fun y => z (e.mpr y)
        rw [if_neg y, if_neg y, if_neg y, if_neg y]
        exact ⟨a1, a2, a3, a4⟩
/-- what tying needs of the class's state -/
def TYo (w r : Nat) (C : Nat → Nat → Int) (A : Nat → Int → Int) : Prop := (4 ≤ w ∧ w ≤ 40) ∧ r < 40 ∧ C 1 5 = (r : Int) ∧ C 230 5 = (w : Int) ∧ (∀ j, 0 ≤ j → j < (w : Int) → 0 ≤ A 232 j ∧ A 232 j ≤ 7) ∧ (∀ j, 0 ≤ j → j < 12 → inR (A 233 j)) ∧ (∀ i, 0 ≤ i → i < (w : Int) → ∃ j, 0 ≤ j ∧ j < 12 ∧ i < A 233 j) ∧ (∀ c : Nat, c < 8 → (0 ≤ C (6 + 3 * c) 2 ∧ C (6 + 3 * c) 2 ≤ 10) ∧ okL (A (6 + 3 * c + 2)) ∧ (∀ l, C (6 + 3 * c) 2 ≤ l → l < 10 → A (6 + 3 * c + 2) l = 0) ∧ (∀ l, 0 ≤ l → l < 10 → 0 ≤ A (6 + 3 * c + 1) l ∧ A (6 + 3 * c + 1) l ≤ 9) ∧ cntF (A 232) (c : Int) (w : Int) ≤ sumA (A (6 + 3 * c + 2)) 10 0 0)
set_option maxRecDepth 20000 in
theorem l_X1_layColour {X : Cx} {l0 : Launch} {g : Gw} {Z : State → Prop} {w nx : Nat} {h : Nat → va_E} {C : Nat → Nat → Int} {A : Nat → Int → Int} {V : Nat → Value} (b : BX X l0 g mX1_layColour 1 0 0) {r c : Nat} (hT : TYo w r C A) (hc : c < 8) : ∀ (n : Nat) (i : Int) (A1 : Nat → Int → Int), i + n = (w : Int) → 0 ≤ i → LY w r A (c : Int) i A1 → (∀ A2, LY w r A (c : Int) (w : Int) A2 → WW X g mX1_layColour.2.2.1 Z 0 0 57 [some (.ref 1), some (.ref 230), some (.int (iI ((c : Int)))), none, none] [] (cp w C A2 V h, nx)) → WW X g mX1_layColour.2.2.1 Z 0 0 2 [some (.ref 1), some (.ref 230), some (.int (iI ((c : Int)))), some (.int (iI (i))), none] [] (cp w C A1 V h, nx) := by
  obtain ⟨hw, hr, hT1, hfl, hk7, hE, hEx, hWo⟩ := hT
  obtain ⟨hlo, hok, hze, hsh, hsum⟩ := hWo c hc
  intro n
  induction n with
  | zero =>
    intro i A1 h1 h2 hA kk
    have e5 : i = (w : Int) := by omega
    subst e5
    refine w_iload_n b dX1_layColour_2 rfl ?_
    refine w_aload_n b dX1_layColour_3 rfl rfl ?_
    refine q_get b dX1_layColour_4 lfX1_30 (tlt rfl) ct_1 rfl ?_
    refine z_icmp_ge (tgt := 57) b dX1_layColour_7 (by decide) (by omega) (fun c7 => ?_) (fun c7 => ?_)
    · refine ww_forget 3 ?_
      exact kk A1 hA
    · exfalso; omega
  | succ n ih =>
    intro i A1 h1 h2 hA kk
    have hki := hk7 i (by omega) (by omega)
    have hA232 : A1 232 = A 232 := hA.1 232 (by omega) (by omega)
    have hA233 : A1 233 = A 233 := hA.1 233 (by omega) (by omega)
    have hA1c : A1 (6 + 3 * c + 1) = A (6 + 3 * c + 1) := hA.1 _ (by omega) (by omega)
    refine w_iload_n b dX1_layColour_2 rfl ?_
    refine w_aload_n b dX1_layColour_3 rfl rfl ?_
    refine q_get b dX1_layColour_4 lfX1_30 (tlt rfl) ct_1 rfl ?_
    refine z_icmp_ge (tgt := 57) b dX1_layColour_7 (by decide) (by omega) (fun c7 => ?_) (fun c7 => ?_)
    · exfalso; omega
    · refine w_aload_n b dX1_layColour_10 rfl rfl ?_
      refine w_iload_n b dX1_layColour_11 rfl ?_
      refine c_V1 b dX1_layColour_12 lmX1_72 (cpS (tlt rfl) ct_230) (k_X0_heard (by omega) (by omega)) (tle rfl) (by omega) (by omega) (by omega) ?_
      refine y_top (y := A 232 i) (by rw [if_pos (show 0 ≤ i ∧ i < C 230 5 by omega), hA232]) ?_
      refine w_iload_n b dX1_layColour_15 rfl ?_
      refine z_icmp_ne (tgt := 51) b dX1_layColour_16 (by decide) (by omega) (fun c16 => ?_) (fun c16 => ?_)
      · refine z_iinc b dX1_layColour_51 rfl rfl rfl ?_
        refine w_goto (tgt := 2) b dX1_layColour_54 (by decide) ?_
        exact ih (i + 1) _ (by omega) (by omega) (LY_skip h2 c16 hA) kk
      · have hn0 := cntF_nn (A 232) (c : Int) i
        have hn1 : cntF (A 232) (c : Int) i + 1 ≤ cntF (A 232) (c : Int) (w : Int) := by
          have q1 := cntF_le (kn := A 232) (c := (c : Int)) (i := i + 1) (w := (w : Int)) (by omega) (by omega)
          rw [cntF_s h2, b2_t c16] at q1
          exact q1
        have e2 : A1 (6 + 3 * c + 2) = tkF (A (6 + 3 * c + 2)) (cntF (A 232) (c : Int) i).toNat := by
          rw [hA.2.1 c hc]; congr 1; unfold nTk; rw [if_neg (by omega), if_pos rfl]
        have htk := tk_ok hok (cntF (A 232) (c : Int) i).toNat (by omega)
        have hix := ix_of htk.1 (by rw [htk.2]; omega)
        rw [← e2] at htk hix
        have hlt : ixF (A1 (6 + 3 * c + 2)) < C (6 + 3 * c) 2 := by
          by_cases z : ixF (A1 (6 + 3 * c + 2)) < C (6 + 3 * c) 2
          · exact z
          · exfalso; have z1 := tk_zero hok (hze _ (Int.not_lt.mp z) (by omega)) (cntF (A 232) (c : Int) i).toNat (by omega); rw [← e2] at z1; exact hix.2.1 z1
        have hsd : A1 (6 + 3 * c + 1) (ixF (A1 (6 + 3 * c + 2))) = sdC A (A 232) i := by
          unfold sdC
          rw [c16, Int.toNat_natCast, hA1c, e2]
        have hsr : 0 ≤ sdC A (A 232) i ∧ sdC A (A 232) i ≤ 9 := by rw [← hsd, hA1c]; exact hsh _ (by omega) (by omega)
        have hst := stA_spec (en := A 233) (i := i) 12 0 (by obtain ⟨j, q1, q2, q3⟩ := hEx i (by omega) (by omega); exact ⟨j, q1, by omega, q3⟩)
        have hstr : 0 ≤ stF (A 233) i ∧ stF (A 233) i ≤ 11 := by unfold stF; omega
        refine w_aload_n b dX1_layColour_19 rfl rfl ?_
        refine q_get b dX1_layColour_20 lfX1_20 (tlt rfl) ct_1 rfl ?_
        refine w_iload_n b dX1_layColour_23 rfl ?_
        refine q_aald b dX1_layColour_24 (tlt rfl) ct_4 (by omega) (by omega) ?_
        rw [Int.toNat_natCast]
        refine c_V0 b dX1_layColour_25 lmX1_78 (cpS (by omega) (ct_wool (by omega))) (k_X7_take hc htk.1 (by omega) hlt hlo.2) (tle rfl) (by omega) (by omega) (by omega) ?_
        rw [hsd]
        refine w_istore b dX1_layColour_28 (tlt rfl) rfl ?_
        refine w_aload_n b dX1_layColour_30 rfl rfl ?_
        refine q_get b dX1_layColour_31 lfX1_26 (tlt rfl) ct_1 rfl ?_
        refine w_aload_n b dX1_layColour_34 rfl rfl ?_
        refine q_get b dX1_layColour_35 lfX1_38 (tlt rfl) ct_1 rfl ?_
        refine y_top hT1 ?_
        refine q_aald b dX1_layColour_38 (tlt rfl) ct_5 (by omega) (by omega) ?_
        rw [Int.toNat_natCast]
        refine w_iload_n b dX1_layColour_39 rfl ?_
        refine w_iload_n b dX1_layColour_40 rfl ?_
        refine w_iload b dX1_layColour_41 rfl ?_
        refine w_aload_n b dX1_layColour_43 rfl rfl ?_
        refine w_iload_n b dX1_layColour_44 rfl ?_
        refine c_V1 b dX1_layColour_45 lmX1_81 (cpS (tlt rfl) ct_230) (k_X0_stepThatCalled (A := (va_up A1 (6 + 3 * c + 2) (take1 (A1 (6 + 3 * c + 2))))) (by omega) (by rw [va_up_ne _ _ (by omega), hA233]; exact hE) (by rw [va_up_ne _ _ (by omega), hA233]; exact hEx i (by omega) (by omega))) (tle rfl) (by omega) (by omega) (by omega) ?_
        refine y_top (y := stF (A 233) i) (by rw [va_up_ne _ _ (by omega), hA233]) ?_
        refine c_V4v b dX1_layColour_48 lmX1_84 (cpS (by omega) (ct_row (by omega))) (k_X3_lay hr (by omega) hw (by omega) hsr hstr) (tle rfl) (by omega) (by omega) (by omega) ?_
        refine ww_forget 4 ?_
        have hN := LY_take ⟨h2, by omega⟩ hc c16 hA
        refine z_iinc b dX1_layColour_51 rfl rfl rfl ?_
        refine w_goto (tgt := 2) b dX1_layColour_54 (by decide) ?_
        exact ih (i + 1) _ (by omega) (by omega) hN kk
set_option maxRecDepth 20000 in
theorem k_X1_layColour {l0 : Launch} {g : Gw} {w nx : Nat} {h : Nat → va_E} {C : Nat → Nat → Int} {A : Nat → Int → Int} {V : Nat → Value} {r c : Nat} {A1 : Nat → Int → Int} (hT : TYo w r C A) (hc : c < 8) (hA : LY w r A (c : Int) 0 A1) : MM l0 g 1 mX1_layColour (cp w C A1 V h, nx) [.ref 1, .ref 230, .int (iI (c : Int))] 0 0 (fun q σ' => q = none ∧ ∃ A2, LY w r A ((c : Int) + 1) 0 A2 ∧ σ' = (cp w C A2 V h, nx)) := by
  refine MM.of (by decide +kernel) (by simp [Value.category]) (tle rfl) (fun X b => ?_)
  change WW X g _ _ 0 0 0 [some (.ref 1), some (.ref 230), some (.int (iI ((c : Int)))), none, none] [] _
  refine z_iconst b dX1_layColour_0 ?_
  refine w_istore_n b dX1_layColour_1 (tlt rfl) rfl ?_
  refine l_X1_layColour b hT hc w 0 A1 (by omega) (by omega) hA (fun A2 h2 => ?_)
  exact w_vret b dX1_layColour_57 rfl (by omega) (by omega) ⟨rfl, A2, LY_next h2, rfl⟩
theorem ceil_le {k p : Int} (hk : 0 ≤ k) (hp : 1 ≤ p) : 0 ≤ (k + 1 + p - 1) / p ∧ (k + 1 + p - 1) / p ≤ k + 1 := by
  refine ⟨Int.ediv_nonneg (by omega) (by omega), ?_⟩
  apply Int.ediv_le_of_le_mul (by omega)
  have : k * 1 ≤ k * p := Int.mul_le_mul_of_nonneg_left hp hk
  rw [Int.add_mul]
  omega
theorem mwK_rng {s kn : Int → Int} {i : Int} {t : Int × Int × Int} (h1 : 0 ≤ t.2.1 ∧ t.2.1 ≤ i) (h2 : 0 ≤ t.2.2 ∧ t.2.2 ≤ i) : (0 ≤ (mwK s kn i t).1 ∧ (mwK s kn i t).1 ≤ i) ∧ (0 ≤ (mwK s kn i t).2 ∧ (mwK s kn i t).2 ≤ i + 1) := by
  unfold mwK
  split
  · exact ⟨⟨Int.le_refl _, by show (0 : Int) ≤ i; omega⟩, ⟨Int.le_refl _, by show (0 : Int) ≤ i + 1; omega⟩⟩
  · split
    · exact ⟨h1, ⟨by show 0 ≤ t.2.2 + 1; omega, by show t.2.2 + 1 ≤ i + 1; omega⟩⟩
    · exact ⟨h1, ⟨h2.1, by show t.2.2 ≤ i + 1; omega⟩⟩
set_option maxRecDepth 20000 in
theorem l_X1_minutesFor {X : Cx} {l0 : Launch} {g : Gw} {Z : State → Prop} {w nx : Nat} {h : Nat → va_E} {C : Nat → Nat → Int} {A : Nat → Int → Int} {V : Nat → Value} (b : BX X l0 g mX1_minutesFor 1 0 0) {r : Nat} (hw : 4 ≤ w ∧ w ≤ 40) (hr : r < 40) (hs : ∀ j, 0 ≤ j → j ≤ 5 → 1 ≤ A 2 j ∧ A 2 j ≤ 40) (hp : ∀ j, 0 ≤ j → j ≤ 5 → 1 ≤ A 3 j ∧ A 3 j ≤ 20) (hk7 : ∀ j, 0 ≤ j → j < (w : Int) → 0 ≤ (A (30 + 5 * r + 1)) j ∧ (A (30 + 5 * r + 1)) j ≤ 7) : ∀ (n : Nat) (i sl k c : Int), i + n = (w : Int) → 0 ≤ i → (0 ≤ sl ∧ sl ≤ 100) ∧ (0 ≤ k ∧ k ≤ i) ∧ (0 ≤ c ∧ c ≤ i) → WW X g mX1_minutesFor.2.2.1 Z 0 0 103 [some (.ref 1), some (.ref (30 + 5 * r)), some (.int (iI ((mwA (A 2) (A 3) (A (30 + 5 * r + 1)) n i (sl, k, c)).1))), none, none, none, none] [] (cp w C A V h, nx) → WW X g mX1_minutesFor.2.2.1 Z 0 0 10 [some (.ref 1), some (.ref (30 + 5 * r)), some (.int (iI (sl))), some (.int (iI (k))), some (.int (iI (c))), some (.int (iI (i))), none] [] (cp w C A V h, nx) := by
  intro n
  induction n with
  | zero =>
    intro i sl k c h1 h2 hb kk
    refine w_iload b dX1_minutesFor_10 rfl ?_
    refine w_aload_n b dX1_minutesFor_12 rfl rfl ?_
    refine q_get b dX1_minutesFor_13 lfX1_30 (tlt rfl) ct_1 rfl ?_
    refine z_icmp_ge (tgt := 103) b dX1_minutesFor_16 (by decide) (by omega) (fun c16 => ?_) (fun c16 => ?_)
    · refine ww_forget 5 ?_
      refine ww_forget 4 ?_
      refine ww_forget 3 ?_
      exact kk
    · exfalso; omega
  | succ n ih =>
    intro i sl k c h1 h2 hb kk
    have hh := handF_rng (A 2) i
    have hpp := hp (handF (A 2) i) hh.1 hh.2
    have J : ∀ (k1 c1 : Int), mwK (A 2) (A (30 + 5 * r + 1)) i (sl, k, c) = (k1, c1) → WW X g mX1_minutesFor.2.2.1 Z 0 0 75 [some (.ref 1), some (.ref (30 + 5 * r)), some (.int (iI (sl))), some (.int (iI (k1))), some (.int (iI (c1))), some (.int (iI (i))), some (.int (iI (handF (A 2) i)))] [] (cp w C A V h, nx) := by
      intro k1 c1 hkc
      have hkr := mwK_rng (s := A 2) (kn := (A (30 + 5 * r + 1))) (i := i) (t := (sl, k, c)) hb.2.1 hb.2.2
      rw [hkc] at hkr
      have hkr1 : 0 ≤ k1 ∧ k1 ≤ i := hkr.1
      have hkr2 : 0 ≤ c1 ∧ c1 ≤ i + 1 := hkr.2
      have hce := ceil_le (k := k1) (p := A 3 (handF (A 2) i)) hkr1.1 hpp.1
      have e9 : mwS (A 2) (A 3) (A (30 + 5 * r + 1)) i (sl, k, c) = ((if (k1 + 1 + A 3 (handF (A 2) i) - 1) / A 3 (handF (A 2) i) + c1 ≤ sl then sl else (k1 + 1 + A 3 (handF (A 2) i) - 1) / A 3 (handF (A 2) i) + c1), k1 + 1, c1) := by
        unfold mwS mwV
        rw [hkc]
      have kk : WW X g mX1_minutesFor.2.2.1 Z 0 0 103 [some (.ref 1), some (.ref (30 + 5 * r)), some (.int (iI ((mwA (A 2) (A 3) (A (30 + 5 * r + 1)) n (i + 1) (mwS (A 2) (A 3) (A (30 + 5 * r + 1)) i (sl, k, c))).1))), none, none, none, none] [] (cp w C A V h, nx) := kk
      rw [e9] at kk
      refine z_iinc b dX1_minutesFor_75 rfl rfl rfl ?_
      refine w_iload_n b dX1_minutesFor_78 rfl ?_
      refine w_iload_n b dX1_minutesFor_79 rfl ?_
      refine w_aload_n b dX1_minutesFor_80 rfl rfl ?_
      refine q_get b dX1_minutesFor_81 lfX1_15 (tlt rfl) ct_1 rfl ?_
      refine w_iload b dX1_minutesFor_84 rfl ?_
      refine q_iald b dX1_minutesFor_86 (tlt rfl) ct_3 (by omega) ?_
      refine c_S2 b dX1_minutesFor_87 lmX1_94 (k_X1_roundedUp (by omega) hpp) (tle rfl) (by omega) (by omega) (by omega) ?_
      refine w_iload b dX1_minutesFor_90 rfl ?_
      refine z_iadd b dX1_minutesFor_92 ?_
      refine c_S2 b dX1_minutesFor_93 lmX1_98 (k_J9_max_7cf53 (by omega) (by omega)) (tle rfl) (by omega) (by omega) (by omega) ?_
      refine ww_cast (L' := [some (.ref 1), some (.ref (30 + 5 * r)), some (.int (iI (sl))), some (.int (iI (k1 + 1))), some (.int (iI (c1))), some (.int (iI (i))), some (.int (iI (handF (A 2) i)))]) rfl rfl rfl ?_
      refine w_istore_n b dX1_minutesFor_96 (tlt rfl) rfl ?_
      refine z_iinc b dX1_minutesFor_97 rfl rfl rfl ?_
      refine ww_forget 6 ?_
      refine w_goto (tgt := 10) b dX1_minutesFor_100 (by decide) ?_
      exact ih (i + 1) _ (k1 + 1) c1 (by omega) (by omega) ⟨by split <;> omega, by omega, by omega⟩ kk
    refine w_iload b dX1_minutesFor_10 rfl ?_
    refine w_aload_n b dX1_minutesFor_12 rfl rfl ?_
    refine q_get b dX1_minutesFor_13 lfX1_30 (tlt rfl) ct_1 rfl ?_
    refine z_icmp_ge (tgt := 103) b dX1_minutesFor_16 (by decide) (by omega) (fun c16 => ?_) (fun c16 => ?_)
    · exfalso; omega
    · refine w_aload_n b dX1_minutesFor_19 rfl rfl ?_
      refine w_iload b dX1_minutesFor_20 rfl ?_
      refine c_V1 b dX1_minutesFor_22 lmX1_88 (cpS (tlt rfl) ct_1) (k_X1_handAt (by omega) hs) (tle rfl) (by omega) (by omega) (by omega) ?_
      refine w_istore b dX1_minutesFor_25 (tlt rfl) rfl ?_
      refine w_iload b dX1_minutesFor_27 rfl ?_
      refine z_if_eq (tgt := 45) b dX1_minutesFor_29 (by decide) (by omega) (fun c29 => ?_) (fun c29 => ?_)
      · refine z_iconst b dX1_minutesFor_45 ?_
        refine w_istore_n b dX1_minutesFor_46 (tlt rfl) rfl ?_
        refine z_iconst b dX1_minutesFor_47 ?_
        refine w_istore b dX1_minutesFor_48 (tlt rfl) rfl ?_
        refine w_goto (tgt := 75) b dX1_minutesFor_50 (by decide) ?_
        exact J 0 0 (if_pos (Or.inl c29))
      · refine w_aload_n b dX1_minutesFor_32 rfl rfl ?_
        refine w_iload b dX1_minutesFor_33 rfl ?_
        refine z_iconst b dX1_minutesFor_35 ?_
        refine z_isub b dX1_minutesFor_36 ?_
        refine c_V1 b dX1_minutesFor_37 lmX1_88 (cpS (tlt rfl) ct_1) (k_X1_handAt (by omega) hs) (tle rfl) (by omega) (by omega) (by omega) ?_
        refine w_iload b dX1_minutesFor_40 rfl ?_
        refine z_icmp_eq (tgt := 53) b dX1_minutesFor_42 (by decide) (by have := handF_rng (A 2) (i - 1); omega) (fun c42 => ?_) (fun c42 => ?_)
        · have hka := hk7 i (by omega) (by omega)
          have hkb := hk7 (i - 1) (by omega) (by omega)
          refine w_aload_n b dX1_minutesFor_53 rfl rfl ?_
          refine q_get b dX1_minutesFor_54 lfX1_91 (by omega) (ct_row (by omega)) rfl ?_
          refine w_iload b dX1_minutesFor_57 rfl ?_
          refine q_bald b dX1_minutesFor_59 (by omega) (ct_row1 (by omega)) (by omega) ?_
          refine w_aload_n b dX1_minutesFor_60 rfl rfl ?_
          refine q_get b dX1_minutesFor_61 lfX1_91 (by omega) (ct_row (by omega)) rfl ?_
          refine w_iload b dX1_minutesFor_64 rfl ?_
          refine z_iconst b dX1_minutesFor_66 ?_
          refine z_isub b dX1_minutesFor_67 ?_
          refine q_bald b dX1_minutesFor_68 (by omega) (ct_row1 (by omega)) (by omega) ?_
          refine z_icmp_eq (tgt := 75) b dX1_minutesFor_69 (by decide) (by omega) (fun c69 => ?_) (fun c69 => ?_)
          · exact J k c (by unfold mwK; rw [if_neg (fun z => z.elim c29 (fun y => y c42)), if_neg (fun z => z c69)])
          · refine z_iinc b dX1_minutesFor_72 rfl rfl rfl ?_
            exact J k (c + 1) (by unfold mwK; rw [if_neg (fun z => z.elim c29 (fun y => y c42)), if_pos c69])
        · refine z_iconst b dX1_minutesFor_45 ?_
          refine w_istore_n b dX1_minutesFor_46 (tlt rfl) rfl ?_
          refine z_iconst b dX1_minutesFor_47 ?_
          refine w_istore b dX1_minutesFor_48 (tlt rfl) rfl ?_
          refine w_goto (tgt := 75) b dX1_minutesFor_50 (by decide) ?_
          exact J 0 0 (if_pos (Or.inr c42))
set_option maxRecDepth 20000 in
theorem k_X1_minutesFor {l0 : Launch} {g : Gw} {w nx : Nat} {h : Nat → va_E} {C : Nat → Nat → Int} {A : Nat → Int → Int} {V : Nat → Value} {r : Nat} (hw : 4 ≤ w ∧ w ≤ 40) (hr : r < 40) (hs : ∀ j, 0 ≤ j → j ≤ 5 → 1 ≤ A 2 j ∧ A 2 j ≤ 40) (hp : ∀ j, 0 ≤ j → j ≤ 5 → 1 ≤ A 3 j ∧ A 3 j ≤ 20) (hk7 : ∀ j, 0 ≤ j → j < (w : Int) → 0 ≤ (A (30 + 5 * r + 1)) j ∧ (A (30 + 5 * r + 1)) j ≤ 7) : MD l0 g 1 mX1_minutesFor (cp w C A V h, nx) [.ref 1, .ref (30 + 5 * r)] 0 0 (some (.int (iI ((mwA (A 2) (A 3) (A (30 + 5 * r + 1)) w 0 (0, 0, 0)).1)))) (cp w C A V h, nx) := by
  refine MD.of (by decide +kernel) (by simp [Value.category]) (tle rfl) (fun X b => ?_)
  change WW X g _ _ 0 0 0 [some (.ref 1), some (.ref (30 + 5 * r)), none, none, none, none, none] [] _
  refine z_iconst b dX1_minutesFor_0 ?_
  refine w_istore_n b dX1_minutesFor_1 (tlt rfl) rfl ?_
  refine z_iconst b dX1_minutesFor_2 ?_
  refine w_istore_n b dX1_minutesFor_3 (tlt rfl) rfl ?_
  refine z_iconst b dX1_minutesFor_4 ?_
  refine w_istore b dX1_minutesFor_5 (tlt rfl) rfl ?_
  refine z_iconst b dX1_minutesFor_7 ?_
  refine w_istore b dX1_minutesFor_8 (tlt rfl) rfl ?_
  refine l_X1_minutesFor b hw hr hs hp hk7 w 0 0 0 0 (by omega) (by omega) (by omega) ?_
  refine w_iload_n b dX1_minutesFor_103 rfl ?_
  exact w_iret b dX1_minutesFor_104 rfl (by omega) (by omega) ⟨iv_eq (by first | rfl | omega | ((try simp only [b2]); ((repeat' split) <;> (first | rfl | omega)))), rfl⟩
